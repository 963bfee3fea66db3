-- ===== PART A: goes FIRST, ahead of the names: the tables' words, and 'selects' of the private methods out of them =====
/-- a private method of a class that the tables say can be made, by its rows of tables_1 -/
def lw_okq (q : MethodName × Nat) : Prop := (q.1.cls ≠ "java/lang/invoke/MethodHandle" ∧ q.1.cls ≠ "java/lang/invoke/VarHandle") ∧ Cond.instantiable q.1.cls q.2 ∈ tables_1 ∧ Cond.privateMethod q.1 ∈ tables_1 ∧ Cond.instanceMethod q.1 ∈ tables_1
theorem lw_p0 : lw_okq (⟨"java/lang/Throwable", "fillInStackTrace", "(I)Ljava/lang/Throwable;"⟩, 6) := ⟨⟨by decide +kernel, by decide +kernel⟩, List.mem_of_getElem? (i := 430) (by decide +kernel), List.mem_of_getElem? (i := 428) (by decide +kernel), List.mem_of_getElem? (i := 429) (by decide +kernel)⟩
theorem lw_p1 : lw_okq (⟨"Deeprows", "isSoundAlone", "(LDeeprows$Row;)Z"⟩, 8) := ⟨⟨by decide +kernel, by decide +kernel⟩, List.mem_of_getElem? (i := 32) (by decide +kernel), List.mem_of_getElem? (i := 605) (by decide +kernel), List.mem_of_getElem? (i := 606) (by decide +kernel)⟩
theorem lw_p2 : lw_okq (⟨"Deeprows$Row", "change", "(IIILDeeprows$Row;)V"⟩, 6) := ⟨⟨by decide +kernel, by decide +kernel⟩, List.mem_of_getElem? (i := 66) (by decide +kernel), List.mem_of_getElem? (i := 624) (by decide +kernel), List.mem_of_getElem? (i := 625) (by decide +kernel)⟩
theorem lw_p3 : lw_okq (⟨"Deeprows", "isSoundPair", "(LDeeprows$Row;LDeeprows$Row;)Z"⟩, 8) := ⟨⟨by decide +kernel, by decide +kernel⟩, List.mem_of_getElem? (i := 32) (by decide +kernel), List.mem_of_getElem? (i := 641) (by decide +kernel), List.mem_of_getElem? (i := 642) (by decide +kernel)⟩
theorem lw_p4 : lw_okq (⟨"Deeprows", "tellTheSame", "(LDeeprows$Row;LDeeprows$Row;)Z"⟩, 8) := ⟨⟨by decide +kernel, by decide +kernel⟩, List.mem_of_getElem? (i := 32) (by decide +kernel), List.mem_of_getElem? (i := 654) (by decide +kernel), List.mem_of_getElem? (i := 655) (by decide +kernel)⟩
theorem lw_p5 : lw_okq (⟨"Deeprows", "pairsDeep", "()I"⟩, 8) := ⟨⟨by decide +kernel, by decide +kernel⟩, List.mem_of_getElem? (i := 32) (by decide +kernel), List.mem_of_getElem? (i := 675) (by decide +kernel), List.mem_of_getElem? (i := 676) (by decide +kernel)⟩
theorem lw_p6 : lw_okq (⟨"Deeprows", "greatestDepth", "()I"⟩, 8) := ⟨⟨by decide +kernel, by decide +kernel⟩, List.mem_of_getElem? (i := 32) (by decide +kernel), List.mem_of_getElem? (i := 679) (by decide +kernel), List.mem_of_getElem? (i := 680) (by decide +kernel)⟩
theorem lw_p7 : lw_okq (⟨"Deeprows", "digestOfRow", "(JI)J"⟩, 8) := ⟨⟨by decide +kernel, by decide +kernel⟩, List.mem_of_getElem? (i := 32) (by decide +kernel), List.mem_of_getElem? (i := 693) (by decide +kernel), List.mem_of_getElem? (i := 694) (by decide +kernel)⟩
theorem lw_p8 : lw_okq (⟨"Deeprows", "rowOf", "(I)LDeeprows$Row;"⟩, 8) := ⟨⟨by decide +kernel, by decide +kernel⟩, List.mem_of_getElem? (i := 32) (by decide +kernel), List.mem_of_getElem? (i := 697) (by decide +kernel), List.mem_of_getElem? (i := 698) (by decide +kernel)⟩
theorem lw_p9 : lw_okq (⟨"Deeprows", "requireRoom", "(I)V"⟩, 8) := ⟨⟨by decide +kernel, by decide +kernel⟩, List.mem_of_getElem? (i := 32) (by decide +kernel), List.mem_of_getElem? (i := 758) (by decide +kernel), List.mem_of_getElem? (i := 759) (by decide +kernel)⟩
theorem lw_p10 : lw_okq (⟨"Deeprows", "addRow", "(LDeeprows$Row;)LDeeprows$Row;"⟩, 8) := ⟨⟨by decide +kernel, by decide +kernel⟩, List.mem_of_getElem? (i := 32) (by decide +kernel), List.mem_of_getElem? (i := 778) (by decide +kernel), List.mem_of_getElem? (i := 779) (by decide +kernel)⟩
theorem lw_p11 : lw_okq (⟨"java/util/ArrayList", "add", "(Ljava/lang/Object;[Ljava/lang/Object;I)V"⟩, 3) := ⟨⟨by decide +kernel, by decide +kernel⟩, List.mem_of_getElem? (i := 40) (by decide +kernel), List.mem_of_getElem? (i := 786) (by decide +kernel), List.mem_of_getElem? (i := 787) (by decide +kernel)⟩
theorem lw_p12 : lw_okq (⟨"java/util/ArrayList", "grow", "()[Ljava/lang/Object;"⟩, 3) := ⟨⟨by decide +kernel, by decide +kernel⟩, List.mem_of_getElem? (i := 40) (by decide +kernel), List.mem_of_getElem? (i := 790) (by decide +kernel), List.mem_of_getElem? (i := 791) (by decide +kernel)⟩
theorem lw_p13 : lw_okq (⟨"java/util/ArrayList", "grow", "(I)[Ljava/lang/Object;"⟩, 3) := ⟨⟨by decide +kernel, by decide +kernel⟩, List.mem_of_getElem? (i := 40) (by decide +kernel), List.mem_of_getElem? (i := 794) (by decide +kernel), List.mem_of_getElem? (i := 795) (by decide +kernel)⟩
theorem lw_p14 : lw_okq (⟨"java/util/ArrayList", "fastRemove", "([Ljava/lang/Object;I)V"⟩, 3) := ⟨⟨by decide +kernel, by decide +kernel⟩, List.mem_of_getElem? (i := 40) (by decide +kernel), List.mem_of_getElem? (i := 843) (by decide +kernel), List.mem_of_getElem? (i := 844) (by decide +kernel)⟩
theorem lw_p15 : lw_okq (⟨"Deeprows", "requireDepths", "(LDeeprows$Row;I)V"⟩, 8) := ⟨⟨by decide +kernel, by decide +kernel⟩, List.mem_of_getElem? (i := 32) (by decide +kernel), List.mem_of_getElem? (i := 911) (by decide +kernel), List.mem_of_getElem? (i := 912) (by decide +kernel)⟩
def lw_privs_1 : List (MethodName × Nat) := [(⟨"java/lang/Throwable", "fillInStackTrace", "(I)Ljava/lang/Throwable;"⟩, 6), (⟨"Deeprows", "isSoundAlone", "(LDeeprows$Row;)Z"⟩, 8), (⟨"Deeprows$Row", "change", "(IIILDeeprows$Row;)V"⟩, 6), (⟨"Deeprows", "isSoundPair", "(LDeeprows$Row;LDeeprows$Row;)Z"⟩, 8), (⟨"Deeprows", "tellTheSame", "(LDeeprows$Row;LDeeprows$Row;)Z"⟩, 8), (⟨"Deeprows", "pairsDeep", "()I"⟩, 8), (⟨"Deeprows", "greatestDepth", "()I"⟩, 8), (⟨"Deeprows", "digestOfRow", "(JI)J"⟩, 8), (⟨"Deeprows", "rowOf", "(I)LDeeprows$Row;"⟩, 8), (⟨"Deeprows", "requireRoom", "(I)V"⟩, 8), (⟨"Deeprows", "addRow", "(LDeeprows$Row;)LDeeprows$Row;"⟩, 8), (⟨"java/util/ArrayList", "add", "(Ljava/lang/Object;[Ljava/lang/Object;I)V"⟩, 3), (⟨"java/util/ArrayList", "grow", "()[Ljava/lang/Object;"⟩, 3), (⟨"java/util/ArrayList", "grow", "(I)[Ljava/lang/Object;"⟩, 3), (⟨"java/util/ArrayList", "fastRemove", "([Ljava/lang/Object;I)V"⟩, 3), (⟨"Deeprows", "requireDepths", "(LDeeprows$Row;I)V"⟩, 8)]
theorem lw_r1 : ∀ q ∈ lw_privs_1, lw_okq q := List.forall_mem_cons.mpr ⟨lw_p0, List.forall_mem_cons.mpr ⟨lw_p1, List.forall_mem_cons.mpr ⟨lw_p2, List.forall_mem_cons.mpr ⟨lw_p3, List.forall_mem_cons.mpr ⟨lw_p4, List.forall_mem_cons.mpr ⟨lw_p5, List.forall_mem_cons.mpr ⟨lw_p6, List.forall_mem_cons.mpr ⟨lw_p7, List.forall_mem_cons.mpr ⟨lw_p8, List.forall_mem_cons.mpr ⟨lw_p9, List.forall_mem_cons.mpr ⟨lw_p10, List.forall_mem_cons.mpr ⟨lw_p11, List.forall_mem_cons.mpr ⟨lw_p12, List.forall_mem_cons.mpr ⟨lw_p13, List.forall_mem_cons.mpr ⟨lw_p14, List.forall_mem_cons.mpr ⟨lw_p15, fun _ h => absurd h List.not_mem_nil⟩⟩⟩⟩⟩⟩⟩⟩⟩⟩⟩⟩⟩⟩⟩⟩
theorem lw_p16 : lw_okq (⟨"DeeprowsModel", "start", "(ZI)Z"⟩, 5) := ⟨⟨by decide +kernel, by decide +kernel⟩, List.mem_of_getElem? (i := 1086) (by decide +kernel), List.mem_of_getElem? (i := 1117) (by decide +kernel), List.mem_of_getElem? (i := 1118) (by decide +kernel)⟩
theorem lw_p17 : lw_okq (⟨"DeeprowsModel", "refuse", "(ZI)Z"⟩, 5) := ⟨⟨by decide +kernel, by decide +kernel⟩, List.mem_of_getElem? (i := 1086) (by decide +kernel), List.mem_of_getElem? (i := 1121) (by decide +kernel), List.mem_of_getElem? (i := 1122) (by decide +kernel)⟩
theorem lw_p18 : lw_okq (⟨"DeeprowsModel", "isNoPlace", "(II)Z"⟩, 5) := ⟨⟨by decide +kernel, by decide +kernel⟩, List.mem_of_getElem? (i := 1086) (by decide +kernel), List.mem_of_getElem? (i := 1165) (by decide +kernel), List.mem_of_getElem? (i := 1166) (by decide +kernel)⟩
theorem lw_p19 : lw_okq (⟨"DeeprowsModel", "isNoRow", "(I)Z"⟩, 5) := ⟨⟨by decide +kernel, by decide +kernel⟩, List.mem_of_getElem? (i := 1086) (by decide +kernel), List.mem_of_getElem? (i := 1169) (by decide +kernel), List.mem_of_getElem? (i := 1170) (by decide +kernel)⟩
theorem lw_p20 : lw_okq (⟨"DeeprowsModel", "nowhere", "(I)[I"⟩, 5) := ⟨⟨by decide +kernel, by decide +kernel⟩, List.mem_of_getElem? (i := 1086) (by decide +kernel), List.mem_of_getElem? (i := 1202) (by decide +kernel), List.mem_of_getElem? (i := 1203) (by decide +kernel)⟩
theorem lw_p21 : lw_okq (⟨"DeeprowsModel", "areHung", "(I[I)Z"⟩, 5) := ⟨⟨by decide +kernel, by decide +kernel⟩, List.mem_of_getElem? (i := 1086) (by decide +kernel), List.mem_of_getElem? (i := 1206) (by decide +kernel), List.mem_of_getElem? (i := 1207) (by decide +kernel)⟩
theorem lw_p22 : lw_okq (⟨"DeeprowsModel", "depthOf", "(I)I"⟩, 5) := ⟨⟨by decide +kernel, by decide +kernel⟩, List.mem_of_getElem? (i := 1086) (by decide +kernel), List.mem_of_getElem? (i := 1217) (by decide +kernel), List.mem_of_getElem? (i := 1218) (by decide +kernel)⟩
theorem lw_p23 : lw_okq (⟨"DeeprowsModel", "manyIn", "(I)I"⟩, 5) := ⟨⟨by decide +kernel, by decide +kernel⟩, List.mem_of_getElem? (i := 1086) (by decide +kernel), List.mem_of_getElem? (i := 1255) (by decide +kernel), List.mem_of_getElem? (i := 1256) (by decide +kernel)⟩
theorem lw_p24 : lw_okq (⟨"DeeprowsModel", "deepTwinOf", "(I)I"⟩, 5) := ⟨⟨by decide +kernel, by decide +kernel⟩, List.mem_of_getElem? (i := 1086) (by decide +kernel), List.mem_of_getElem? (i := 1259) (by decide +kernel), List.mem_of_getElem? (i := 1260) (by decide +kernel)⟩
theorem lw_p25 : lw_okq (⟨"DeeprowsModel", "isDeepOf", "(II)Z"⟩, 5) := ⟨⟨by decide +kernel, by decide +kernel⟩, List.mem_of_getElem? (i := 1086) (by decide +kernel), List.mem_of_getElem? (i := 1291) (by decide +kernel), List.mem_of_getElem? (i := 1292) (by decide +kernel)⟩
theorem lw_p26 : lw_okq (⟨"DeeprowsModel", "areAlike", "(LDeeprowsModel$Row;ILDeeprowsModel$Row;IZ)Z"⟩, 5) := ⟨⟨by decide +kernel, by decide +kernel⟩, List.mem_of_getElem? (i := 1086) (by decide +kernel), List.mem_of_getElem? (i := 1295) (by decide +kernel), List.mem_of_getElem? (i := 1296) (by decide +kernel)⟩
theorem lw_p27 : lw_okq (⟨"DeeprowsModel", "areUnlikeKinds", "(II)Z"⟩, 5) := ⟨⟨by decide +kernel, by decide +kernel⟩, List.mem_of_getElem? (i := 1086) (by decide +kernel), List.mem_of_getElem? (i := 1303) (by decide +kernel), List.mem_of_getElem? (i := 1304) (by decide +kernel)⟩
theorem lw_p28 : lw_okq (⟨"DeeprowsModel", "differOf", "(II)I"⟩, 5) := ⟨⟨by decide +kernel, by decide +kernel⟩, List.mem_of_getElem? (i := 1086) (by decide +kernel), List.mem_of_getElem? (i := 1307) (by decide +kernel), List.mem_of_getElem? (i := 1308) (by decide +kernel)⟩
theorem lw_p29 : lw_okq (⟨"DeeprowsModel", "hashOf", "(I)I"⟩, 5) := ⟨⟨by decide +kernel, by decide +kernel⟩, List.mem_of_getElem? (i := 1086) (by decide +kernel), List.mem_of_getElem? (i := 1319) (by decide +kernel), List.mem_of_getElem? (i := 1320) (by decide +kernel)⟩
theorem lw_p30 : lw_okq (⟨"DeeprowsModel", "hashAt", "(LDeeprowsModel$Row;I)I"⟩, 5) := ⟨⟨by decide +kernel, by decide +kernel⟩, List.mem_of_getElem? (i := 1086) (by decide +kernel), List.mem_of_getElem? (i := 1323) (by decide +kernel), List.mem_of_getElem? (i := 1324) (by decide +kernel)⟩
theorem lw_p31 : lw_okq (⟨"DeeprowsModel", "textOf", "(I)Ljava/lang/String;"⟩, 5) := ⟨⟨by decide +kernel, by decide +kernel⟩, List.mem_of_getElem? (i := 1086) (by decide +kernel), List.mem_of_getElem? (i := 1344) (by decide +kernel), List.mem_of_getElem? (i := 1345) (by decide +kernel)⟩
def lw_privs_2 : List (MethodName × Nat) := [(⟨"DeeprowsModel", "start", "(ZI)Z"⟩, 5), (⟨"DeeprowsModel", "refuse", "(ZI)Z"⟩, 5), (⟨"DeeprowsModel", "isNoPlace", "(II)Z"⟩, 5), (⟨"DeeprowsModel", "isNoRow", "(I)Z"⟩, 5), (⟨"DeeprowsModel", "nowhere", "(I)[I"⟩, 5), (⟨"DeeprowsModel", "areHung", "(I[I)Z"⟩, 5), (⟨"DeeprowsModel", "depthOf", "(I)I"⟩, 5), (⟨"DeeprowsModel", "manyIn", "(I)I"⟩, 5), (⟨"DeeprowsModel", "deepTwinOf", "(I)I"⟩, 5), (⟨"DeeprowsModel", "isDeepOf", "(II)Z"⟩, 5), (⟨"DeeprowsModel", "areAlike", "(LDeeprowsModel$Row;ILDeeprowsModel$Row;IZ)Z"⟩, 5), (⟨"DeeprowsModel", "areUnlikeKinds", "(II)Z"⟩, 5), (⟨"DeeprowsModel", "differOf", "(II)I"⟩, 5), (⟨"DeeprowsModel", "hashOf", "(I)I"⟩, 5), (⟨"DeeprowsModel", "hashAt", "(LDeeprowsModel$Row;I)I"⟩, 5), (⟨"DeeprowsModel", "textOf", "(I)Ljava/lang/String;"⟩, 5)]
theorem lw_r2 : ∀ q ∈ lw_privs_2, lw_okq q := List.forall_mem_cons.mpr ⟨lw_p16, List.forall_mem_cons.mpr ⟨lw_p17, List.forall_mem_cons.mpr ⟨lw_p18, List.forall_mem_cons.mpr ⟨lw_p19, List.forall_mem_cons.mpr ⟨lw_p20, List.forall_mem_cons.mpr ⟨lw_p21, List.forall_mem_cons.mpr ⟨lw_p22, List.forall_mem_cons.mpr ⟨lw_p23, List.forall_mem_cons.mpr ⟨lw_p24, List.forall_mem_cons.mpr ⟨lw_p25, List.forall_mem_cons.mpr ⟨lw_p26, List.forall_mem_cons.mpr ⟨lw_p27, List.forall_mem_cons.mpr ⟨lw_p28, List.forall_mem_cons.mpr ⟨lw_p29, List.forall_mem_cons.mpr ⟨lw_p30, List.forall_mem_cons.mpr ⟨lw_p31, fun _ h => absurd h List.not_mem_nil⟩⟩⟩⟩⟩⟩⟩⟩⟩⟩⟩⟩⟩⟩⟩⟩
theorem lw_p32 : lw_okq (⟨"DeeprowsModel", "textAt", "(LDeeprowsModel$Row;I)Ljava/lang/String;"⟩, 5) := ⟨⟨by decide +kernel, by decide +kernel⟩, List.mem_of_getElem? (i := 1086) (by decide +kernel), List.mem_of_getElem? (i := 1353) (by decide +kernel), List.mem_of_getElem? (i := 1354) (by decide +kernel)⟩
theorem lw_p33 : lw_okq (⟨"DeeprowsModel", "houseTold", "(I)I"⟩, 5) := ⟨⟨by decide +kernel, by decide +kernel⟩, List.mem_of_getElem? (i := 1086) (by decide +kernel), List.mem_of_getElem? (i := 1407) (by decide +kernel), List.mem_of_getElem? (i := 1408) (by decide +kernel)⟩
def lw_privs_3 : List (MethodName × Nat) := [(⟨"DeeprowsModel", "textAt", "(LDeeprowsModel$Row;I)Ljava/lang/String;"⟩, 5), (⟨"DeeprowsModel", "houseTold", "(I)I"⟩, 5)]
theorem lw_r3 : ∀ q ∈ lw_privs_3, lw_okq q := List.forall_mem_cons.mpr ⟨lw_p32, List.forall_mem_cons.mpr ⟨lw_p33, fun _ h => absurd h List.not_mem_nil⟩⟩
def lw_privs : List (MethodName × Nat) := lw_privs_1 ++ (lw_privs_2 ++ (lw_privs_3))
def lw_tbl0 : List Cond := k2_sels lw_privs ++ tables_1
/-- six 'selects' of private methods above StringBuilder: what the printed tables lack (REPORT T3) -/
def zsix : List Cond := [("ensureCapacityInternal", "(I)V"), ("newCapacity", "(I)I"), ("inflate", "()V"), ("appendNull", "()Ljava/lang/AbstractStringBuilder;"), ("putStringAt", "(ILjava/lang/String;)V"), ("inflateIfNeededFor", "(Ljava/lang/String;)V")].map fun q => Cond.selects "java/lang/StringBuilder" ⟨"java/lang/AbstractStringBuilder", q.1, q.2⟩ ⟨"java/lang/AbstractStringBuilder", q.1, q.2⟩
def lw_tbl : List Cond := zsix ++ lw_tbl0
theorem lw_privs_ok : ∀ q ∈ lw_privs, lw_okq q := by
  show ∀ q ∈ lw_privs_1 ++ (lw_privs_2 ++ (lw_privs_3)), lw_okq q
  exact List.forall_mem_append.mpr ⟨lw_r1, List.forall_mem_append.mpr ⟨lw_r2, lw_r3⟩⟩
-- ===== end of PART A; then the names =====
/-- the one list of words of all contracts: the good words of the tables -/
def zbig : List Cond := lw_tbl.filter goodWord
theorem zw_of {w : Cond} (k : Nat) (h : lw_tbl[k]? = some w) (hg : goodWord w = true) : w ∈ zbig := List.mem_filter.mpr ⟨List.mem_of_getElem? h, hg⟩
theorem zgI {c1 c2 : Cond} (h : c2 ∈ zbig) : GoodIn (c1 :: zbig) (c2 :: zbig) := fun w hw => (List.mem_cons.mp hw).elim (fun e => by subst e; exact ⟨List.mem_cons_of_mem _ h, good_of_word (List.mem_filter.mp h).2⟩) (fun h => ⟨List.mem_cons_of_mem _ h, good_of_word (List.mem_filter.mp h).2⟩)
theorem zgA {c1 : Cond} {ls ws : List Cond} (h : ∀ w ∈ ls, w ∈ zbig) (g : GoodIn (c1 :: zbig) ws) : GoodIn (c1 :: zbig) (ls ++ ws) := fun w hw => (List.mem_append.mp hw).elim (fun h1 => ⟨List.mem_cons_of_mem _ (h w h1), good_of_word (List.mem_filter.mp (h w h1)).2⟩) (g w)
theorem zmem_r {big ws : List Cond} (ps : List Nat) (hp : ws = ps.filterMap (fun i => big[i]?)) : ∀ w ∈ ws, w ∈ big := by
  intro w hw
  rw [hp] at hw
  obtain ⟨i, -, hi⟩ := List.mem_filterMap.mp hw
  exact List.mem_of_getElem? hi
theorem zhi_of {ws : List Cond} (h1 : ∀ w ∈ ws, w ∈ lw_tbl) (h2 : ws.all goodWord = true) : ∀ w ∈ ws, w ∈ zbig := fun w h => List.mem_filter.mpr ⟨h1 w h, List.all_eq_true.mp h2 w h⟩
/-! ===== BEGIN printed: names, fields, word lists, decode rows ===== -/
def RX0 : String := "Deeprows$Row"
def TX0 : u_T := fun k => match k with
  | 0 => ("Deeprows$Row", "kind", "I", true)
  | 1 => ("Deeprows$Row", "length", "I", true)
  | 2 => ("Deeprows$Row", "whats", "[I", true)
  | 3 => ("Deeprows$Row", "values", "[I", true)
  | 4 => ("Deeprows$Row", "hung", "[LDeeprows$Row;", true)
  | _ => ("Deeprows$Row", "number", "I", false)
def tyX0 : Nat → FieldType := fun k => match k with
  | 0 => .int
  | 1 => .int
  | 2 => .array .int
  | 3 => .array .int
  | 4 => .array (.object "Deeprows$Row")
  | _ => .int
abbrev wsX00 : List Cond := u_ws RX0 TX0 6
theorem nmX0 : ∀ a, a < 6 → ∀ b, b < 6 → a ≠ b → (TX0 a).2.1 ≠ (TX0 b).2.1 := by decide +kernel
theorem tyX0_ok : ∀ k, k < 6 → parseFieldDescriptor (TX0 k).2.2.1 = some (tyX0 k) := by decide +kernel
abbrev cX0_init : ByteArray := prog_2_method_1_code
def yX0_init : MethodName := ⟨RX0, "<init>", "(II)V"⟩
abbrev cX0_change : ByteArray := prog_2_method_2_code
def yX0_change : MethodName := ⟨RX0, "change", "(IIILDeeprows$Row;)V"⟩
abbrev cX0_putNumber : ByteArray := prog_2_method_3_code
def yX0_putNumber : MethodName := ⟨RX0, "putNumber", "(II)V"⟩
abbrev cX0_putText : ByteArray := prog_2_method_4_code
def yX0_putText : MethodName := ⟨RX0, "putText", "(II)V"⟩
abbrev cX0_putNothing : ByteArray := prog_2_method_5_code
def yX0_putNothing : MethodName := ⟨RX0, "putNothing", "(I)V"⟩
abbrev cX0_putRow : ByteArray := prog_2_method_6_code
def yX0_putRow : MethodName := ⟨RX0, "putRow", "(ILDeeprows$Row;)V"⟩
abbrev cX0_putSame : ByteArray := prog_2_method_7_code
def yX0_putSame : MethodName := ⟨RX0, "putSame", "(ILDeeprows$Row;I)V"⟩
def RX1 : String := "Deeprows"
def TX1 : u_T := fun k => match k with
  | 0 => ("Deeprows", "rows", "Ljava/util/ArrayList;", true)
  | 1 => ("Deeprows", "makerMade", "I", false)
  | 2 => ("Deeprows", "makerRefused", "I", false)
  | 3 => ("Deeprows", "knocks", "I", false)
  | 4 => ("Deeprows", "shell", "LDeeprows$Row;", true)
  | 5 => ("Deeprows", "otherShell", "LDeeprows$Row;", true)
  | 6 => ("Deeprows", "words", "Ljava/lang/StringBuilder;", true)
  | _ => ("Deeprows", "otherWords", "Ljava/lang/StringBuilder;", true)
def tyX1 : Nat → FieldType := fun k => match k with
  | 0 => .object "java/util/ArrayList"
  | 1 => .int
  | 2 => .int
  | 3 => .int
  | 4 => .object "Deeprows$Row"
  | 5 => .object "Deeprows$Row"
  | 6 => .object "java/lang/StringBuilder"
  | _ => .object "java/lang/StringBuilder"
abbrev wsX10 : List Cond := u_ws RX1 TX1 8
theorem nmX1 : ∀ a, a < 8 → ∀ b, b < 8 → a ≠ b → (TX1 a).2.1 ≠ (TX1 b).2.1 := by decide +kernel
theorem tyX1_ok : ∀ k, k < 8 → parseFieldDescriptor (TX1 k).2.2.1 = some (tyX1 k) := by decide +kernel
abbrev cX1_init : ByteArray := prog_1_method_1_code
def yX1_init : MethodName := ⟨RX1, "<init>", "()V"⟩
abbrev cX1_make : ByteArray := prog_1_method_2_code
def yX1_make : MethodName := ⟨RX1, "make", "(II)I"⟩
abbrev cX1_drop : ByteArray := prog_1_method_3_code
def yX1_drop : MethodName := ⟨RX1, "drop", "()I"⟩
abbrev cX1_empty : ByteArray := prog_1_method_4_code
def yX1_empty : MethodName := ⟨RX1, "empty", "()I"⟩
abbrev cX1_put : ByteArray := prog_1_method_5_code
def yX1_put : MethodName := ⟨RX1, "put", "(III)I"⟩
abbrev cX1_say : ByteArray := prog_1_method_6_code
def yX1_say : MethodName := ⟨RX1, "say", "(III)I"⟩
abbrev cX1_none : ByteArray := prog_1_method_7_code
def yX1_none : MethodName := ⟨RX1, "none", "(II)I"⟩
abbrev cX1_hang : ByteArray := prog_1_method_8_code
def yX1_hang : MethodName := ⟨RX1, "hang", "(III)I"⟩
abbrev cX1_swap : ByteArray := prog_1_method_9_code
def yX1_swap : MethodName := ⟨RX1, "swap", "(III)I"⟩
abbrev cX1_fill : ByteArray := prog_1_method_10_code
def yX1_fill : MethodName := ⟨RX1, "fill", "(II)I"⟩
abbrev cX1_fillRow : ByteArray := prog_1_method_11_code
def yX1_fillRow : MethodName := ⟨RX1, "fillRow", "(II)I"⟩
abbrev cX1_setAll : ByteArray := prog_1_method_12_code
def yX1_setAll : MethodName := ⟨RX1, "setAll", "(IIII)I"⟩
abbrev cX1_setRows : ByteArray := prog_1_method_13_code
def yX1_setRows : MethodName := ⟨RX1, "setRows", "(II)I"⟩
abbrev cX1_twin : ByteArray := prog_1_method_14_code
def yX1_twin : MethodName := ⟨RX1, "twin", "(I)I"⟩
abbrev cX1_deepTwin : ByteArray := prog_1_method_15_code
def yX1_deepTwin : MethodName := ⟨RX1, "deepTwin", "(I)I"⟩
abbrev cX1_copy : ByteArray := prog_1_method_16_code
def yX1_copy : MethodName := ⟨RX1, "copy", "(II)I"⟩
abbrev cX1_kind : ByteArray := prog_1_method_17_code
def yX1_kind : MethodName := ⟨RX1, "kind", "(I)I"⟩
abbrev cX1_length : ByteArray := prog_1_method_18_code
def yX1_length : MethodName := ⟨RX1, "length", "(I)I"⟩
abbrev cX1_depth : ByteArray := prog_1_method_19_code
def yX1_depth : MethodName := ⟨RX1, "depth", "(I)I"⟩
abbrev cX1_what : ByteArray := prog_1_method_20_code
def yX1_what : MethodName := ⟨RX1, "what", "(II)I"⟩
abbrev cX1_at : ByteArray := prog_1_method_21_code
def yX1_at : MethodName := ⟨RX1, "at", "(II)I"⟩
abbrev cX1_isDeep : ByteArray := prog_1_method_22_code
def yX1_isDeep : MethodName := ⟨RX1, "isDeep", "(II)Z"⟩
abbrev cX1_isFlat : ByteArray := prog_1_method_23_code
def yX1_isFlat : MethodName := ⟨RX1, "isFlat", "(II)Z"⟩
abbrev cX1_areDeep : ByteArray := prog_1_method_24_code
def yX1_areDeep : MethodName := ⟨RX1, "areDeep", "(IIII)Z"⟩
abbrev cX1_hash : ByteArray := prog_1_method_25_code
def yX1_hash : MethodName := ⟨RX1, "hash", "(I)I"⟩
abbrev cX1_flatHash : ByteArray := prog_1_method_26_code
def yX1_flatHash : MethodName := ⟨RX1, "flatHash", "(I)I"⟩
abbrev cX1_text : ByteArray := prog_1_method_27_code
def yX1_text : MethodName := ⟨RX1, "text", "(I)Ljava/lang/String;"⟩
abbrev cX1_differ : ByteArray := prog_1_method_28_code
def yX1_differ : MethodName := ⟨RX1, "differ", "(II)I"⟩
abbrev cX1_compare : ByteArray := prog_1_method_29_code
def yX1_compare : MethodName := ⟨RX1, "compare", "(II)I"⟩
abbrev cX1_knock : ByteArray := prog_1_method_30_code
def yX1_knock : MethodName := ⟨RX1, "knock", "()I"⟩
abbrev cX1_house : ByteArray := prog_1_method_31_code
def yX1_house : MethodName := ⟨RX1, "house", "(I)I"⟩
abbrev cX1_isSound : ByteArray := prog_1_method_32_code
def yX1_isSound : MethodName := ⟨RX1, "isSound", "()Z"⟩
abbrev cX1_digest : ByteArray := prog_1_method_33_code
def yX1_digest : MethodName := ⟨RX1, "digest", "()J"⟩
abbrev cX1_rowOf : ByteArray := prog_1_method_34_code
def yX1_rowOf : MethodName := ⟨RX1, "rowOf", "(I)LDeeprows$Row;"⟩
abbrev cX1_requirePlace : ByteArray := prog_1_method_35_code
def yX1_requirePlace : MethodName := ⟨RX1, "requirePlace", "(LDeeprows$Row;I)V"⟩
abbrev cX1_requireNumber : ByteArray := prog_1_method_36_code
def yX1_requireNumber : MethodName := ⟨RX1, "requireNumber", "(I)V"⟩
abbrev cX1_requireLength : ByteArray := prog_1_method_37_code
def yX1_requireLength : MethodName := ⟨RX1, "requireLength", "(I)V"⟩
abbrev cX1_requireThings : ByteArray := prog_1_method_38_code
def yX1_requireThings : MethodName := ⟨RX1, "requireThings", "(LDeeprows$Row;)V"⟩
abbrev cX1_requireLikeKinds : ByteArray := prog_1_method_39_code
def yX1_requireLikeKinds : MethodName := ⟨RX1, "requireLikeKinds", "(LDeeprows$Row;LDeeprows$Row;)V"⟩
abbrev cX1_requireLess : ByteArray := prog_1_method_40_code
def yX1_requireLess : MethodName := ⟨RX1, "requireLess", "(II)V"⟩
abbrev cX1_requireRoom : ByteArray := prog_1_method_41_code
def yX1_requireRoom : MethodName := ⟨RX1, "requireRoom", "(I)V"⟩
abbrev cX1_requireDepths : ByteArray := prog_1_method_42_code
def yX1_requireDepths : MethodName := ⟨RX1, "requireDepths", "(LDeeprows$Row;I)V"⟩
abbrev cX1_addRow : ByteArray := prog_1_method_43_code
def yX1_addRow : MethodName := ⟨RX1, "addRow", "(LDeeprows$Row;)LDeeprows$Row;"⟩
abbrev cX1_copied : ByteArray := prog_1_method_44_code
def yX1_copied : MethodName := ⟨RX1, "copied", "(LDeeprows$Row;I)LDeeprows$Row;"⟩
abbrev cX1_rowsInDeepTwin : ByteArray := prog_1_method_45_code
def yX1_rowsInDeepTwin : MethodName := ⟨RX1, "rowsInDeepTwin", "(LDeeprows$Row;I)I"⟩
abbrev cX1_addDeepTwin : ByteArray := prog_1_method_46_code
def yX1_addDeepTwin : MethodName := ⟨RX1, "addDeepTwin", "(LDeeprows;LDeeprows$Row;I)LDeeprows$Row;"⟩
abbrev cX1_fitting : ByteArray := prog_1_method_47_code
def yX1_fitting : MethodName := ⟨RX1, "fitting", "(II)I"⟩
abbrev cX1_bounded : ByteArray := prog_1_method_48_code
def yX1_bounded : MethodName := ⟨RX1, "bounded", "(I)I"⟩
abbrev cX1_depthOf : ByteArray := prog_1_method_49_code
def yX1_depthOf : MethodName := ⟨RX1, "depthOf", "(LDeeprows$Row;)I"⟩
abbrev cX1_depthIf : ByteArray := prog_1_method_50_code
def yX1_depthIf : MethodName := ⟨RX1, "depthIf", "(LDeeprows$Row;LDeeprows$Row;II)I"⟩
abbrev cX1_depthBeside : ByteArray := prog_1_method_51_code
def yX1_depthBeside : MethodName := ⟨RX1, "depthBeside", "(LDeeprows$Row;I)I"⟩
abbrev cX1_greatestDepth : ByteArray := prog_1_method_52_code
def yX1_greatestDepth : MethodName := ⟨RX1, "greatestDepth", "()I"⟩
abbrev cX1_areRowsDeep : ByteArray := prog_1_method_53_code
def yX1_areRowsDeep : MethodName := ⟨RX1, "areRowsDeep", "(LDeeprows$Row;LDeeprows$Row;I)Z"⟩
abbrev cX1_arePlacesDeep : ByteArray := prog_1_method_54_code
def yX1_arePlacesDeep : MethodName := ⟨RX1, "arePlacesDeep", "(LDeeprows$Row;ILDeeprows$Row;II)Z"⟩
abbrev cX1_areRowsFlat : ByteArray := prog_1_method_55_code
def yX1_areRowsFlat : MethodName := ⟨RX1, "areRowsFlat", "(LDeeprows$Row;LDeeprows$Row;)Z"⟩
abbrev cX1_arePlacesFlat : ByteArray := prog_1_method_56_code
def yX1_arePlacesFlat : MethodName := ⟨RX1, "arePlacesFlat", "(LDeeprows$Row;ILDeeprows$Row;I)Z"⟩
abbrev cX1_firstUnlike : ByteArray := prog_1_method_57_code
def yX1_firstUnlike : MethodName := ⟨RX1, "firstUnlike", "(LDeeprows$Row;LDeeprows$Row;)I"⟩
abbrev cX1_pairsDeep : ByteArray := prog_1_method_58_code
def yX1_pairsDeep : MethodName := ⟨RX1, "pairsDeep", "()I"⟩
abbrev cX1_hashOf : ByteArray := prog_1_method_59_code
def yX1_hashOf : MethodName := ⟨RX1, "hashOf", "(LDeeprows$Row;I)I"⟩
abbrev cX1_hashOfPlace : ByteArray := prog_1_method_60_code
def yX1_hashOfPlace : MethodName := ⟨RX1, "hashOfPlace", "(LDeeprows$Row;II)I"⟩
abbrev cX1_hashOfNumber : ByteArray := prog_1_method_61_code
def yX1_hashOfNumber : MethodName := ⟨RX1, "hashOfNumber", "(II)I"⟩
abbrev cX1_hashOfText : ByteArray := prog_1_method_62_code
def yX1_hashOfText : MethodName := ⟨RX1, "hashOfText", "(Ljava/lang/String;)I"⟩
abbrev cX1_signsOf : ByteArray := prog_1_method_63_code
def yX1_signsOf : MethodName := ⟨RX1, "signsOf", "(I)Ljava/lang/String;"⟩
abbrev cX1_writeAnew : ByteArray := prog_1_method_64_code
def yX1_writeAnew : MethodName := ⟨RX1, "writeAnew", "(Ljava/lang/StringBuilder;LDeeprows$Row;)V"⟩
abbrev cX1_writeRow : ByteArray := prog_1_method_65_code
def yX1_writeRow : MethodName := ⟨RX1, "writeRow", "(Ljava/lang/StringBuilder;LDeeprows$Row;I)V"⟩
abbrev cX1_writePlace : ByteArray := prog_1_method_66_code
def yX1_writePlace : MethodName := ⟨RX1, "writePlace", "(Ljava/lang/StringBuilder;LDeeprows$Row;II)V"⟩
abbrev cX1_writeNumber : ByteArray := prog_1_method_67_code
def yX1_writeNumber : MethodName := ⟨RX1, "writeNumber", "(Ljava/lang/StringBuilder;II)V"⟩
abbrev cX1_writeDigits : ByteArray := prog_1_method_68_code
def yX1_writeDigits : MethodName := ⟨RX1, "writeDigits", "(Ljava/lang/StringBuilder;I)V"⟩
abbrev cX1_writeSigns : ByteArray := prog_1_method_69_code
def yX1_writeSigns : MethodName := ⟨RX1, "writeSigns", "(Ljava/lang/StringBuilder;Ljava/lang/String;)V"⟩
abbrev cX1_isSoundAlone : ByteArray := prog_1_method_70_code
def yX1_isSoundAlone : MethodName := ⟨RX1, "isSoundAlone", "(LDeeprows$Row;)Z"⟩
abbrev cX1_isSoundPair : ByteArray := prog_1_method_71_code
def yX1_isSoundPair : MethodName := ⟨RX1, "isSoundPair", "(LDeeprows$Row;LDeeprows$Row;)Z"⟩
abbrev cX1_tellTheSame : ByteArray := prog_1_method_72_code
def yX1_tellTheSame : MethodName := ⟨RX1, "tellTheSame", "(LDeeprows$Row;LDeeprows$Row;)Z"⟩
abbrev cX1_digestOfRow : ByteArray := prog_1_method_73_code
def yX1_digestOfRow : MethodName := ⟨RX1, "digestOfRow", "(JI)J"⟩
def RX2 : String := "DeeprowsLaw$Out"
def TX2 : u_T := fun k => match k with
  | 0 => ("DeeprowsLaw$Out", "n", "J", false)
  | _ => ("DeeprowsLaw$Out", "s", "Ljava/lang/String;", false)
def tyX2 : Nat → FieldType := fun k => match k with
  | 0 => .long
  | _ => .object "java/lang/String"
abbrev wsX20 : List Cond := u_ws RX2 TX2 2
theorem nmX2 : ∀ a, a < 2 → ∀ b, b < 2 → a ≠ b → (TX2 a).2.1 ≠ (TX2 b).2.1 := by decide +kernel
theorem tyX2_ok : ∀ k, k < 2 → parseFieldDescriptor (TX2 k).2.2.1 = some (tyX2 k) := by decide +kernel
abbrev cX2_init : ByteArray := prog_4_method_1_code
def yX2_init : MethodName := ⟨RX2, "<init>", "()V"⟩
def RX3 : String := "DeeprowsModel$Row"
def TX3 : u_T := fun k => match k with
  | 0 => ("DeeprowsModel$Row", "kind", "I", true)
  | 1 => ("DeeprowsModel$Row", "whats", "[I", true)
  | _ => ("DeeprowsModel$Row", "numbers", "[I", true)
def tyX3 : Nat → FieldType := fun k => match k with
  | 0 => .int
  | 1 => .array .int
  | _ => .array .int
abbrev wsX30 : List Cond := u_ws RX3 TX3 3
theorem nmX3 : ∀ a, a < 3 → ∀ b, b < 3 → a ≠ b → (TX3 a).2.1 ≠ (TX3 b).2.1 := by decide +kernel
theorem tyX3_ok : ∀ k, k < 3 → parseFieldDescriptor (TX3 k).2.2.1 = some (tyX3 k) := by decide +kernel
abbrev cX3_init : ByteArray := prog_6_method_1_code
def yX3_init : MethodName := ⟨RX3, "<init>", "(II)V"⟩
abbrev cX3_length : ByteArray := prog_6_method_2_code
def yX3_length : MethodName := ⟨RX3, "length", "()I"⟩
abbrev cX3_put : ByteArray := prog_6_method_3_code
def yX3_put : MethodName := ⟨RX3, "put", "(III)V"⟩
abbrev cX3_number : ByteArray := prog_6_method_4_code
def yX3_number : MethodName := ⟨RX3, "number", "(II)V"⟩
abbrev cX3_hangs : ByteArray := prog_6_method_5_code
def yX3_hangs : MethodName := ⟨RX3, "hangs", "(I)Z"⟩
abbrev cX3_twin : ByteArray := prog_6_method_6_code
def yX3_twin : MethodName := ⟨RX3, "twin", "(I)LDeeprowsModel$Row;"⟩
def RX4 : String := "DeeprowsModel"
def TX4 : u_T := fun k => match k with
  | 0 => ("DeeprowsModel", "thrown", "I", false)
  | 1 => ("DeeprowsModel", "rows", "Ljava/util/ArrayList;", true)
  | 2 => ("DeeprowsModel", "made", "I", false)
  | 3 => ("DeeprowsModel", "refused", "I", false)
  | _ => ("DeeprowsModel", "knocked", "I", false)
def tyX4 : Nat → FieldType := fun k => match k with
  | 0 => .int
  | 1 => .object "java/util/ArrayList"
  | 2 => .int
  | 3 => .int
  | _ => .int
abbrev wsX40 : List Cond := u_ws RX4 TX4 5
theorem nmX4 : ∀ a, a < 5 → ∀ b, b < 5 → a ≠ b → (TX4 a).2.1 ≠ (TX4 b).2.1 := by decide +kernel
theorem tyX4_ok : ∀ k, k < 5 → parseFieldDescriptor (TX4 k).2.2.1 = some (tyX4 k) := by decide +kernel
abbrev cX4_isIn : ByteArray := prog_5_method_1_code
def yX4_isIn : MethodName := ⟨RX4, "isIn", "(III)Z"⟩
abbrev cX4_one : ByteArray := prog_5_method_2_code
def yX4_one : MethodName := ⟨RX4, "one", "(Z)I"⟩
abbrev cX4_init : ByteArray := prog_5_method_3_code
def yX4_init : MethodName := ⟨RX4, "<init>", "()V"⟩
abbrev cX4_refuse : ByteArray := prog_5_method_5_code
def yX4_refuse : MethodName := ⟨RX4, "refuse", "(ZI)Z"⟩
abbrev cX4_start : ByteArray := prog_5_method_6_code
def yX4_start : MethodName := ⟨RX4, "start", "(ZI)Z"⟩
abbrev cX4_isNoRow : ByteArray := prog_5_method_7_code
def yX4_isNoRow : MethodName := ⟨RX4, "isNoRow", "(I)Z"⟩
abbrev cX4_isNoPlace : ByteArray := prog_5_method_8_code
def yX4_isNoPlace : MethodName := ⟨RX4, "isNoPlace", "(II)Z"⟩
abbrev cX4_isNoNumber : ByteArray := prog_5_method_9_code
def yX4_isNoNumber : MethodName := ⟨RX4, "isNoNumber", "(I)Z"⟩
abbrev cX4_depthOf : ByteArray := prog_5_method_10_code
def yX4_depthOf : MethodName := ⟨RX4, "depthOf", "(I)I"⟩
abbrev cX4_areHung : ByteArray := prog_5_method_11_code
def yX4_areHung : MethodName := ⟨RX4, "areHung", "(I[I)Z"⟩
abbrev cX4_make : ByteArray := prog_5_method_12_code
def yX4_make : MethodName := ⟨RX4, "make", "(II)I"⟩
abbrev cX4_drop : ByteArray := prog_5_method_13_code
def yX4_drop : MethodName := ⟨RX4, "drop", "()I"⟩
abbrev cX4_empty : ByteArray := prog_5_method_14_code
def yX4_empty : MethodName := ⟨RX4, "empty", "()I"⟩
abbrev cX4_put : ByteArray := prog_5_method_15_code
def yX4_put : MethodName := ⟨RX4, "put", "(III)I"⟩
abbrev cX4_say : ByteArray := prog_5_method_16_code
def yX4_say : MethodName := ⟨RX4, "say", "(III)I"⟩
abbrev cX4_none : ByteArray := prog_5_method_17_code
def yX4_none : MethodName := ⟨RX4, "none", "(II)I"⟩
abbrev cX4_nowhere : ByteArray := prog_5_method_18_code
def yX4_nowhere : MethodName := ⟨RX4, "nowhere", "(I)[I"⟩
abbrev cX4_hang : ByteArray := prog_5_method_19_code
def yX4_hang : MethodName := ⟨RX4, "hang", "(III)I"⟩
abbrev cX4_swap : ByteArray := prog_5_method_20_code
def yX4_swap : MethodName := ⟨RX4, "swap", "(III)I"⟩
abbrev cX4_fill : ByteArray := prog_5_method_21_code
def yX4_fill : MethodName := ⟨RX4, "fill", "(II)I"⟩
abbrev cX4_fillRow : ByteArray := prog_5_method_22_code
def yX4_fillRow : MethodName := ⟨RX4, "fillRow", "(II)I"⟩
abbrev cX4_setAll : ByteArray := prog_5_method_23_code
def yX4_setAll : MethodName := ⟨RX4, "setAll", "(IIII)I"⟩
abbrev cX4_setRows : ByteArray := prog_5_method_24_code
def yX4_setRows : MethodName := ⟨RX4, "setRows", "(II)I"⟩
abbrev cX4_twin : ByteArray := prog_5_method_25_code
def yX4_twin : MethodName := ⟨RX4, "twin", "(I)I"⟩
abbrev cX4_manyIn : ByteArray := prog_5_method_26_code
def yX4_manyIn : MethodName := ⟨RX4, "manyIn", "(I)I"⟩
abbrev cX4_deepTwinOf : ByteArray := prog_5_method_27_code
def yX4_deepTwinOf : MethodName := ⟨RX4, "deepTwinOf", "(I)I"⟩
abbrev cX4_deepTwin : ByteArray := prog_5_method_28_code
def yX4_deepTwin : MethodName := ⟨RX4, "deepTwin", "(I)I"⟩
abbrev cX4_copy : ByteArray := prog_5_method_29_code
def yX4_copy : MethodName := ⟨RX4, "copy", "(II)I"⟩
abbrev cX4_kind : ByteArray := prog_5_method_30_code
def yX4_kind : MethodName := ⟨RX4, "kind", "(I)I"⟩
abbrev cX4_length : ByteArray := prog_5_method_31_code
def yX4_length : MethodName := ⟨RX4, "length", "(I)I"⟩
abbrev cX4_depth : ByteArray := prog_5_method_32_code
def yX4_depth : MethodName := ⟨RX4, "depth", "(I)I"⟩
abbrev cX4_what : ByteArray := prog_5_method_33_code
def yX4_what : MethodName := ⟨RX4, "what", "(II)I"⟩
abbrev cX4_at : ByteArray := prog_5_method_34_code
def yX4_at : MethodName := ⟨RX4, "at", "(II)I"⟩
abbrev cX4_areAlike : ByteArray := prog_5_method_35_code
def yX4_areAlike : MethodName := ⟨RX4, "areAlike", "(LDeeprowsModel$Row;ILDeeprowsModel$Row;IZ)Z"⟩
abbrev cX4_isDeepOf : ByteArray := prog_5_method_36_code
def yX4_isDeepOf : MethodName := ⟨RX4, "isDeepOf", "(II)Z"⟩
abbrev cX4_isDeep : ByteArray := prog_5_method_37_code
def yX4_isDeep : MethodName := ⟨RX4, "isDeep", "(II)Z"⟩
abbrev cX4_areUnlikeKinds : ByteArray := prog_5_method_38_code
def yX4_areUnlikeKinds : MethodName := ⟨RX4, "areUnlikeKinds", "(II)Z"⟩
abbrev cX4_differOf : ByteArray := prog_5_method_39_code
def yX4_differOf : MethodName := ⟨RX4, "differOf", "(II)I"⟩
abbrev cX4_isFlat : ByteArray := prog_5_method_40_code
def yX4_isFlat : MethodName := ⟨RX4, "isFlat", "(II)Z"⟩
abbrev cX4_areDeep : ByteArray := prog_5_method_41_code
def yX4_areDeep : MethodName := ⟨RX4, "areDeep", "(IIII)Z"⟩
abbrev cX4_hashOf : ByteArray := prog_5_method_42_code
def yX4_hashOf : MethodName := ⟨RX4, "hashOf", "(Ljava/lang/String;)I"⟩
abbrev cX4_hashAt : ByteArray := prog_5_method_43_code
def yX4_hashAt : MethodName := ⟨RX4, "hashAt", "(LDeeprowsModel$Row;I)I"⟩
abbrev cX4_hashOf_ : ByteArray := prog_5_method_44_code
def yX4_hashOf_ : MethodName := ⟨RX4, "hashOf", "(I)I"⟩
abbrev cX4_hash : ByteArray := prog_5_method_45_code
def yX4_hash : MethodName := ⟨RX4, "hash", "(I)I"⟩
abbrev cX4_flatHash : ByteArray := prog_5_method_46_code
def yX4_flatHash : MethodName := ⟨RX4, "flatHash", "(I)I"⟩
abbrev cX4_textAt : ByteArray := prog_5_method_47_code
def yX4_textAt : MethodName := ⟨RX4, "textAt", "(LDeeprowsModel$Row;I)Ljava/lang/String;"⟩
abbrev cX4_textOf : ByteArray := prog_5_method_48_code
def yX4_textOf : MethodName := ⟨RX4, "textOf", "(I)Ljava/lang/String;"⟩
abbrev cX4_text : ByteArray := prog_5_method_49_code
def yX4_text : MethodName := ⟨RX4, "text", "(I)Ljava/lang/String;"⟩
abbrev cX4_differ : ByteArray := prog_5_method_50_code
def yX4_differ : MethodName := ⟨RX4, "differ", "(II)I"⟩
abbrev cX4_compare : ByteArray := prog_5_method_51_code
def yX4_compare : MethodName := ⟨RX4, "compare", "(II)I"⟩
abbrev cX4_knock : ByteArray := prog_5_method_52_code
def yX4_knock : MethodName := ⟨RX4, "knock", "()I"⟩
abbrev cX4_houseTold : ByteArray := prog_5_method_53_code
def yX4_houseTold : MethodName := ⟨RX4, "houseTold", "(I)I"⟩
abbrev cX4_house : ByteArray := prog_5_method_54_code
def yX4_house : MethodName := ⟨RX4, "house", "(I)I"⟩
abbrev cX4_isSound : ByteArray := prog_5_method_55_code
def yX4_isSound : MethodName := ⟨RX4, "isSound", "()Z"⟩
abbrev cX4_add : ByteArray := prog_5_method_56_code
def yX4_add : MethodName := ⟨RX4, "add", "(JJ)J"⟩
abbrev cX4_digest : ByteArray := prog_5_method_57_code
def yX4_digest : MethodName := ⟨RX4, "digest", "()J"⟩
def RJx145de : String := "java/io/Serializable"
def TJx145de : u_T := fun k => match k with
  | _ => ("", "", "", false)
def tyJx145de : Nat → FieldType := fun k => match k with
  | _ => .int
abbrev wsJx145de0 : List Cond := u_ws RJx145de TJx145de 0
theorem nmJx145de : ∀ a, a < 0 → ∀ b, b < 0 → a ≠ b → (TJx145de a).2.1 ≠ (TJx145de b).2.1 := by decide +kernel
theorem tyJx145de_ok : ∀ k, k < 0 → parseFieldDescriptor (TJx145de k).2.2.1 = some (tyJx145de k) := by decide +kernel
def RJ5 : String := "java/lang/AbstractStringBuilder"
def TJ5 : u_T := fun k => match k with
  | _ => ("", "", "", false)
def tyJ5 : Nat → FieldType := fun k => match k with
  | _ => .int
abbrev wsJ50 : List Cond := u_ws RJ5 TJ5 0
theorem nmJ5 : ∀ a, a < 0 → ∀ b, b < 0 → a ≠ b → (TJ5 a).2.1 ≠ (TJ5 b).2.1 := by decide +kernel
theorem tyJ5_ok : ∀ k, k < 0 → parseFieldDescriptor (TJ5 k).2.2.1 = some (tyJ5 k) := by decide +kernel
abbrev cJ5_init_d00df : ByteArray := prog_8_method_2_code
def yJ5_init_d00df : MethodName := ⟨RJ5, "<init>", "(I)V"⟩
abbrev cJ5_length_8abf5 : ByteArray := prog_8_method_6_code
def yJ5_length_8abf5 : MethodName := ⟨RJ5, "length", "()I"⟩
abbrev cJ5_ensureCapacityInternal_d00df : ByteArray := prog_8_method_9_code
def yJ5_ensureCapacityInternal_d00df : MethodName := ⟨RJ5, "ensureCapacityInternal", "(I)V"⟩
abbrev cJ5_newCapacity_0f7a4 : ByteArray := prog_8_method_10_code
def yJ5_newCapacity_0f7a4 : MethodName := ⟨RJ5, "newCapacity", "(I)I"⟩
abbrev cJ5_inflate_da8c8 : ByteArray := prog_8_method_11_code
def yJ5_inflate_da8c8 : MethodName := ⟨RJ5, "inflate", "()V"⟩
abbrev cJ5_setLength_d00df : ByteArray := prog_8_method_13_code
def yJ5_setLength_d00df : MethodName := ⟨RJ5, "setLength", "(I)V"⟩
abbrev cJ5_charAt_5068e : ByteArray := prog_8_method_14_code
def yJ5_charAt_5068e : MethodName := ⟨RJ5, "charAt", "(I)C"⟩
abbrev cJ5_append_cf1ce : ByteArray := prog_8_method_22_code
def yJ5_append_cf1ce : MethodName := ⟨RJ5, "append", "(Ljava/lang/String;)Ljava/lang/AbstractStringBuilder;"⟩
abbrev cJ5_appendNull_278bc : ByteArray := prog_8_method_26_code
def yJ5_appendNull_278bc : MethodName := ⟨RJ5, "appendNull", "()Ljava/lang/AbstractStringBuilder;"⟩
abbrev cJ5_append_3fe6f : ByteArray := prog_8_method_31_code
def yJ5_append_3fe6f : MethodName := ⟨RJ5, "append", "(C)Ljava/lang/AbstractStringBuilder;"⟩
abbrev cJ5_append_c97b9 : ByteArray := prog_8_method_32_code
def yJ5_append_c97b9 : MethodName := ⟨RJ5, "append", "(I)Ljava/lang/AbstractStringBuilder;"⟩
abbrev cJ5_append_66267 : ByteArray := prog_8_method_33_code
def yJ5_append_66267 : MethodName := ⟨RJ5, "append", "(J)Ljava/lang/AbstractStringBuilder;"⟩
abbrev cJ5_getValue_6d5f1 : ByteArray := prog_8_method_64_code
def yJ5_getValue_6d5f1 : MethodName := ⟨RJ5, "getValue", "()[B"⟩
abbrev cJ5_isLatin1_aae02 : ByteArray := prog_8_method_68_code
def yJ5_isLatin1_aae02 : MethodName := ⟨RJ5, "isLatin1", "()Z"⟩
abbrev cJ5_inflateIfNeededFor_a7421 : ByteArray := prog_8_method_71_code
def yJ5_inflateIfNeededFor_a7421 : MethodName := ⟨RJ5, "inflateIfNeededFor", "(Ljava/lang/String;)V"⟩
abbrev cJ5_putStringAt_47b60 : ByteArray := prog_8_method_73_code
def yJ5_putStringAt_47b60 : MethodName := ⟨RJ5, "putStringAt", "(ILjava/lang/String;)V"⟩
def RJx2cfe8 : String := "java/lang/Appendable"
def TJx2cfe8 : u_T := fun k => match k with
  | _ => ("", "", "", false)
def tyJx2cfe8 : Nat → FieldType := fun k => match k with
  | _ => .int
abbrev wsJx2cfe80 : List Cond := u_ws RJx2cfe8 TJx2cfe8 0
theorem nmJx2cfe8 : ∀ a, a < 0 → ∀ b, b < 0 → a ≠ b → (TJx2cfe8 a).2.1 ≠ (TJx2cfe8 b).2.1 := by decide +kernel
theorem tyJx2cfe8_ok : ∀ k, k < 0 → parseFieldDescriptor (TJx2cfe8 k).2.2.1 = some (tyJx2cfe8 k) := by decide +kernel
def RJx00060 : String := "java/lang/ArrayIndexOutOfBoundsException"
def TJx00060 : u_T := fun k => match k with
  | 0 => ("java/lang/Throwable", "cause", "Ljava/lang/Throwable;", false)
  | 1 => ("java/lang/Throwable", "stackTrace", "[Ljava/lang/StackTraceElement;", false)
  | 2 => ("java/lang/Throwable", "suppressedExceptions", "Ljava/util/List;", false)
  | 3 => ("java/lang/Throwable", "detailMessage", "Ljava/lang/String;", false)
  | 4 => ("java/lang/Throwable", "backtrace", "Ljava/lang/Object;", false)
  | _ => ("java/lang/Throwable", "depth", "I", false)
def tyJx00060 : Nat → FieldType := fun k => match k with
  | 0 => .object "java/lang/Throwable"
  | 1 => .array (.object "java/lang/StackTraceElement")
  | 2 => .object "java/util/List"
  | 3 => .object "java/lang/String"
  | 4 => .object "java/lang/Object"
  | _ => .int
abbrev wsJx000600 : List Cond := u_ws RJx00060 TJx00060 6
theorem nmJx00060 : ∀ a, a < 6 → ∀ b, b < 6 → a ≠ b → (TJx00060 a).2.1 ≠ (TJx00060 b).2.1 := by decide +kernel
theorem tyJx00060_ok : ∀ k, k < 6 → parseFieldDescriptor (TJx00060 k).2.2.1 = some (tyJx00060 k) := by decide +kernel
abbrev cJx00060_init_d00df : ByteArray := prog_10_method_3_code
def yJx00060_init_d00df : MethodName := ⟨RJx00060, "<init>", "(I)V"⟩
def RJx9f9b0 : String := "java/lang/CharSequence"
def TJx9f9b0 : u_T := fun k => match k with
  | _ => ("", "", "", false)
def tyJx9f9b0 : Nat → FieldType := fun k => match k with
  | _ => .int
abbrev wsJx9f9b00 : List Cond := u_ws RJx9f9b0 TJx9f9b0 0
theorem nmJx9f9b0 : ∀ a, a < 0 → ∀ b, b < 0 → a ≠ b → (TJx9f9b0 a).2.1 ≠ (TJx9f9b0 b).2.1 := by decide +kernel
theorem tyJx9f9b0_ok : ∀ k, k < 0 → parseFieldDescriptor (TJx9f9b0 k).2.2.1 = some (tyJx9f9b0 k) := by decide +kernel
def RJx8e188 : String := "java/lang/Cloneable"
def TJx8e188 : u_T := fun k => match k with
  | _ => ("", "", "", false)
def tyJx8e188 : Nat → FieldType := fun k => match k with
  | _ => .int
abbrev wsJx8e1880 : List Cond := u_ws RJx8e188 TJx8e188 0
theorem nmJx8e188 : ∀ a, a < 0 → ∀ b, b < 0 → a ≠ b → (TJx8e188 a).2.1 ≠ (TJx8e188 b).2.1 := by decide +kernel
theorem tyJx8e188_ok : ∀ k, k < 0 → parseFieldDescriptor (TJx8e188 k).2.2.1 = some (tyJx8e188 k) := by decide +kernel
def RJxb160c : String := "java/lang/Comparable"
def TJxb160c : u_T := fun k => match k with
  | _ => ("", "", "", false)
def tyJxb160c : Nat → FieldType := fun k => match k with
  | _ => .int
abbrev wsJxb160c0 : List Cond := u_ws RJxb160c TJxb160c 0
theorem nmJxb160c : ∀ a, a < 0 → ∀ b, b < 0 → a ≠ b → (TJxb160c a).2.1 ≠ (TJxb160c b).2.1 := by decide +kernel
theorem tyJxb160c_ok : ∀ k, k < 0 → parseFieldDescriptor (TJxb160c k).2.2.1 = some (tyJxb160c k) := by decide +kernel
def RJ6 : String := "java/lang/Integer"
def TJ6 : u_T := fun k => match k with
  | _ => ("", "", "", false)
def tyJ6 : Nat → FieldType := fun k => match k with
  | _ => .int
abbrev wsJ60 : List Cond := u_ws RJ6 TJ6 0
theorem nmJ6 : ∀ a, a < 0 → ∀ b, b < 0 → a ≠ b → (TJ6 a).2.1 ≠ (TJ6 b).2.1 := by decide +kernel
theorem tyJ6_ok : ∀ k, k < 0 → parseFieldDescriptor (TJ6 k).2.2.1 = some (tyJ6 k) := by decide +kernel
abbrev cJ6_getChars_ba4f3 : ByteArray := prog_18_method_12_code
def yJ6_getChars_ba4f3 : MethodName := ⟨RJ6, "getChars", "(II[B)I"⟩
abbrev cJ6_stringSize_0f7a4 : ByteArray := prog_18_method_13_code
def yJ6_stringSize_0f7a4 : MethodName := ⟨RJ6, "stringSize", "(I)I"⟩
def RJxab1ab : String := "java/lang/Iterable"
def TJxab1ab : u_T := fun k => match k with
  | _ => ("", "", "", false)
def tyJxab1ab : Nat → FieldType := fun k => match k with
  | _ => .int
abbrev wsJxab1ab0 : List Cond := u_ws RJxab1ab TJxab1ab 0
theorem nmJxab1ab : ∀ a, a < 0 → ∀ b, b < 0 → a ≠ b → (TJxab1ab a).2.1 ≠ (TJxab1ab b).2.1 := by decide +kernel
theorem tyJxab1ab_ok : ∀ k, k < 0 → parseFieldDescriptor (TJxab1ab k).2.2.1 = some (tyJxab1ab k) := by decide +kernel
def RJ13 : String := "java/lang/Long"
def TJ13 : u_T := fun k => match k with
  | _ => ("", "", "", false)
def tyJ13 : Nat → FieldType := fun k => match k with
  | _ => .int
abbrev wsJ130 : List Cond := u_ws RJ13 TJ13 0
theorem nmJ13 : ∀ a, a < 0 → ∀ b, b < 0 → a ≠ b → (TJ13 a).2.1 ≠ (TJ13 b).2.1 := by decide +kernel
theorem tyJ13_ok : ∀ k, k < 0 → parseFieldDescriptor (TJ13 k).2.2.1 = some (tyJ13 k) := by decide +kernel
abbrev cJ13_getChars_11360 : ByteArray := prog_20_method_14_code
def yJ13_getChars_11360 : MethodName := ⟨RJ13, "getChars", "(JI[B)I"⟩
abbrev cJ13_stringSize_95d88 : ByteArray := prog_20_method_15_code
def yJ13_stringSize_95d88 : MethodName := ⟨RJ13, "stringSize", "(J)I"⟩
def RJ9 : String := "java/lang/Math"
def TJ9 : u_T := fun k => match k with
  | _ => ("", "", "", false)
def tyJ9 : Nat → FieldType := fun k => match k with
  | _ => .int
abbrev wsJ90 : List Cond := u_ws RJ9 TJ9 0
theorem nmJ9 : ∀ a, a < 0 → ∀ b, b < 0 → a ≠ b → (TJ9 a).2.1 ≠ (TJ9 b).2.1 := by decide +kernel
theorem tyJ9_ok : ∀ k, k < 0 → parseFieldDescriptor (TJ9 k).2.2.1 = some (tyJ9 k) := by decide +kernel
abbrev cJ9_floorMod_7cf53 : ByteArray := prog_21_method_50_code
def yJ9_floorMod_7cf53 : MethodName := ⟨RJ9, "floorMod", "(II)I"⟩
abbrev cJ9_max_7cf53 : ByteArray := prog_21_method_65_code
def yJ9_max_7cf53 : MethodName := ⟨RJ9, "max", "(II)I"⟩
abbrev cJ9_min_7cf53 : ByteArray := prog_21_method_69_code
def yJ9_min_7cf53 : MethodName := ⟨RJ9, "min", "(II)I"⟩
def RJxd2413 : String := "java/lang/Number"
def TJxd2413 : u_T := fun k => match k with
  | _ => ("", "", "", false)
def tyJxd2413 : Nat → FieldType := fun k => match k with
  | _ => .int
abbrev wsJxd24130 : List Cond := u_ws RJxd2413 TJxd2413 0
theorem nmJxd2413 : ∀ a, a < 0 → ∀ b, b < 0 → a ≠ b → (TJxd2413 a).2.1 ≠ (TJxd2413 b).2.1 := by decide +kernel
theorem tyJxd2413_ok : ∀ k, k < 0 → parseFieldDescriptor (TJxd2413 k).2.2.1 = some (tyJxd2413 k) := by decide +kernel
def RJ0 : String := "java/lang/String"
def TJ0 : u_T := fun k => match k with
  | 0 => ("java/lang/String", "value", "[B", true)
  | 1 => ("java/lang/String", "coder", "B", true)
  | 2 => ("java/lang/String", "hash", "I", false)
  | _ => ("java/lang/String", "hashIsZero", "Z", false)
def tyJ0 : Nat → FieldType := fun k => match k with
  | 0 => .array .byte
  | 1 => .byte
  | 2 => .int
  | _ => .boolean
abbrev wsJ00 : List Cond := u_ws RJ0 TJ0 4
theorem nmJ0 : ∀ a, a < 4 → ∀ b, b < 4 → a ≠ b → (TJ0 a).2.1 ≠ (TJ0 b).2.1 := by decide +kernel
theorem tyJ0_ok : ∀ k, k < 4 → parseFieldDescriptor (TJ0 k).2.2.1 = some (tyJ0 k) := by decide +kernel
abbrev cJ0_init_81219 : ByteArray := prog_24_method_53_code
def yJ0_init_81219 : MethodName := ⟨RJ0, "<init>", "(Ljava/lang/StringBuilder;)V"⟩
abbrev cJ0_length_8abf5 : ByteArray := prog_24_method_54_code
def yJ0_length_8abf5 : MethodName := ⟨RJ0, "length", "()I"⟩
abbrev cJ0_charAt_5068e : ByteArray := prog_24_method_56_code
def yJ0_charAt_5068e : MethodName := ⟨RJ0, "charAt", "(I)C"⟩
abbrev cJ0_getBytes_840e7 : ByteArray := prog_24_method_147_code
def yJ0_getBytes_840e7 : MethodName := ⟨RJ0, "getBytes", "([BIB)V"⟩
abbrev cJ0_init_db425 : ByteArray := prog_24_method_150_code
def yJ0_init_db425 : MethodName := ⟨RJ0, "<init>", "(Ljava/lang/AbstractStringBuilder;Ljava/lang/Void;)V"⟩
abbrev cJ0_coder_7d493 : ByteArray := prog_24_method_152_code
def yJ0_coder_7d493 : MethodName := ⟨RJ0, "coder", "()B"⟩
abbrev cJ0_isLatin1_aae02 : ByteArray := prog_24_method_154_code
def yJ0_isLatin1_aae02 : MethodName := ⟨RJ0, "isLatin1", "()Z"⟩
abbrev cJ0_checkIndex_df160 : ByteArray := prog_24_method_155_code
def yJ0_checkIndex_df160 : MethodName := ⟨RJ0, "checkIndex", "(II)V"⟩
abbrev cJ0_checkBoundsOffCount_cabcc : ByteArray := prog_24_method_157_code
def yJ0_checkBoundsOffCount_cabcc : MethodName := ⟨RJ0, "checkBoundsOffCount", "(III)I"⟩
abbrev cJ0_checkBoundsBeginEnd_23922 : ByteArray := prog_24_method_158_code
def yJ0_checkBoundsBeginEnd_23922 : MethodName := ⟨RJ0, "checkBoundsBeginEnd", "(III)V"⟩
def RJ4 : String := "java/lang/StringBuilder"
def TJ4 : u_T := fun k => match k with
  | 0 => ("java/lang/AbstractStringBuilder", "value", "[B", false)
  | 1 => ("java/lang/AbstractStringBuilder", "coder", "B", false)
  | 2 => ("java/lang/AbstractStringBuilder", "maybeLatin1", "Z", false)
  | _ => ("java/lang/AbstractStringBuilder", "count", "I", false)
def tyJ4 : Nat → FieldType := fun k => match k with
  | 0 => .array .byte
  | 1 => .byte
  | 2 => .boolean
  | _ => .int
abbrev wsJ40 : List Cond := u_ws RJ4 TJ4 4
theorem nmJ4 : ∀ a, a < 4 → ∀ b, b < 4 → a ≠ b → (TJ4 a).2.1 ≠ (TJ4 b).2.1 := by decide +kernel
theorem tyJ4_ok : ∀ k, k < 4 → parseFieldDescriptor (TJ4 k).2.2.1 = some (tyJ4 k) := by decide +kernel
abbrev cJ4_init_da8c8 : ByteArray := prog_25_method_1_code
def yJ4_init_da8c8 : MethodName := ⟨RJ4, "<init>", "()V"⟩
abbrev cJ4_append_15ec4 : ByteArray := prog_25_method_7_code
def yJ4_append_15ec4 : MethodName := ⟨RJ4, "append", "(Ljava/lang/String;)Ljava/lang/StringBuilder;"⟩
abbrev cJ4_append_cf468 : ByteArray := prog_25_method_14_code
def yJ4_append_cf468 : MethodName := ⟨RJ4, "append", "(C)Ljava/lang/StringBuilder;"⟩
abbrev cJ4_append_bf812 : ByteArray := prog_25_method_15_code
def yJ4_append_bf812 : MethodName := ⟨RJ4, "append", "(I)Ljava/lang/StringBuilder;"⟩
abbrev cJ4_append_f7089 : ByteArray := prog_25_method_16_code
def yJ4_append_f7089 : MethodName := ⟨RJ4, "append", "(J)Ljava/lang/StringBuilder;"⟩
abbrev cJ4_toString_0e30d : ByteArray := prog_25_method_42_code
def yJ4_toString_0e30d : MethodName := ⟨RJ4, "toString", "()Ljava/lang/String;"⟩
abbrev cJ4_charAt_5068e : ByteArray := prog_25_method_88_code
def yJ4_charAt_5068e : MethodName := ⟨RJ4, "charAt", "(I)C"⟩
abbrev cJ4_setLength_d00df : ByteArray := prog_25_method_89_code
def yJ4_setLength_d00df : MethodName := ⟨RJ4, "setLength", "(I)V"⟩
abbrev cJ4_length_8abf5 : ByteArray := prog_25_method_93_code
def yJ4_length_8abf5 : MethodName := ⟨RJ4, "length", "()I"⟩
def RJx7c733 : String := "java/lang/StringIndexOutOfBoundsException"
def TJx7c733 : u_T := fun k => match k with
  | 0 => ("java/lang/Throwable", "backtrace", "Ljava/lang/Object;", false)
  | 1 => ("java/lang/Throwable", "detailMessage", "Ljava/lang/String;", false)
  | 2 => ("java/lang/Throwable", "cause", "Ljava/lang/Throwable;", false)
  | 3 => ("java/lang/Throwable", "stackTrace", "[Ljava/lang/StackTraceElement;", false)
  | 4 => ("java/lang/Throwable", "depth", "I", false)
  | _ => ("java/lang/Throwable", "suppressedExceptions", "Ljava/util/List;", false)
def tyJx7c733 : Nat → FieldType := fun k => match k with
  | 0 => .object "java/lang/Object"
  | 1 => .object "java/lang/String"
  | 2 => .object "java/lang/Throwable"
  | 3 => .array (.object "java/lang/StackTraceElement")
  | 4 => .int
  | _ => .object "java/util/List"
abbrev wsJx7c7330 : List Cond := u_ws RJx7c733 TJx7c733 6
theorem nmJx7c733 : ∀ a, a < 6 → ∀ b, b < 6 → a ≠ b → (TJx7c733 a).2.1 ≠ (TJx7c733 b).2.1 := by decide +kernel
theorem tyJx7c733_ok : ∀ k, k < 6 → parseFieldDescriptor (TJx7c733 k).2.2.1 = some (tyJx7c733 k) := by decide +kernel
abbrev cJx7c733_init_d00df : ByteArray := prog_26_method_3_code
def yJx7c733_init_d00df : MethodName := ⟨RJx7c733, "<init>", "(I)V"⟩
def RJ1 : String := "java/lang/StringLatin1"
def TJ1 : u_T := fun k => match k with
  | _ => ("", "", "", false)
def tyJ1 : Nat → FieldType := fun k => match k with
  | _ => .int
abbrev wsJ10 : List Cond := u_ws RJ1 TJ1 0
theorem nmJ1 : ∀ a, a < 0 → ∀ b, b < 0 → a ≠ b → (TJ1 a).2.1 ≠ (TJ1 b).2.1 := by decide +kernel
theorem tyJ1_ok : ∀ k, k < 0 → parseFieldDescriptor (TJ1 k).2.2.1 = some (tyJ1 k) := by decide +kernel
abbrev cJ1_charAt_3b067 : ByteArray := prog_27_method_2_code
def yJ1_charAt_3b067 : MethodName := ⟨RJ1, "charAt", "([BI)C"⟩
abbrev cJ1_canEncode_fc78d : ByteArray := prog_27_method_3_code
def yJ1_canEncode_fc78d : MethodName := ⟨RJ1, "canEncode", "(C)Z"⟩
abbrev cJ1_fillNull_b72d1 : ByteArray := prog_27_method_48_code
def yJ1_fillNull_b72d1 : MethodName := ⟨RJ1, "fillNull", "([BII)V"⟩
abbrev cJ1_inflate_0e8fd : ByteArray := prog_27_method_50_code
def yJ1_inflate_0e8fd : MethodName := ⟨RJ1, "inflate", "([BI[BII)V"⟩
def RJ2 : String := "java/lang/StringUTF16"
def TJ2 : u_T := fun k => match k with
  | _ => ("", "", "", false)
def tyJ2 : Nat → FieldType := fun k => match k with
  | _ => .int
abbrev wsJ20 : List Cond := u_ws RJ2 TJ2 0
theorem nmJ2 : ∀ a, a < 0 → ∀ b, b < 0 → a ≠ b → (TJ2 a).2.1 ≠ (TJ2 b).2.1 := by decide +kernel
theorem tyJ2_ok : ∀ k, k < 0 → parseFieldDescriptor (TJ2 k).2.2.1 = some (tyJ2 k) := by decide +kernel
abbrev cJ2_newBytesFor_77867 : ByteArray := prog_28_method_2_code
def yJ2_newBytesFor_77867 : MethodName := ⟨RJ2, "newBytesFor", "(I)[B"⟩
abbrev cJ2_newBytesLength_0f7a4 : ByteArray := prog_28_method_3_code
def yJ2_newBytesLength_0f7a4 : MethodName := ⟨RJ2, "newBytesLength", "(I)I"⟩
abbrev cJ2_putChar_b72d1 : ByteArray := prog_28_method_4_code
def yJ2_putChar_b72d1 : MethodName := ⟨RJ2, "putChar", "([BII)V"⟩
abbrev cJ2_getChar_3b067 : ByteArray := prog_28_method_5_code
def yJ2_getChar_3b067 : MethodName := ⟨RJ2, "getChar", "([BI)C"⟩
abbrev cJ2_length_9d52b : ByteArray := prog_28_method_6_code
def yJ2_length_9d52b : MethodName := ⟨RJ2, "length", "([B)I"⟩
abbrev cJ2_coderFromArrayLen_85cad : ByteArray := prog_28_method_15_code
def yJ2_coderFromArrayLen_85cad : MethodName := ⟨RJ2, "coderFromArrayLen", "([BI)B"⟩
abbrev cJ2_compress_39247 : ByteArray := prog_28_method_17_code
def yJ2_compress_39247 : MethodName := ⟨RJ2, "compress", "([BII)[B"⟩
abbrev cJ2_compress_5af95 : ByteArray := prog_28_method_22_code
def yJ2_compress_5af95 : MethodName := ⟨RJ2, "compress", "([BI[BII)I"⟩
abbrev cJ2_fillNull_b72d1 : ByteArray := prog_28_method_70_code
def yJ2_fillNull_b72d1 : MethodName := ⟨RJ2, "fillNull", "([BII)V"⟩
abbrev cJ2_putCharSB_b72d1 : ByteArray := prog_28_method_71_code
def yJ2_putCharSB_b72d1 : MethodName := ⟨RJ2, "putCharSB", "([BII)V"⟩
abbrev cJ2_getChars_46870 : ByteArray := prog_28_method_77_code
def yJ2_getChars_46870 : MethodName := ⟨RJ2, "getChars", "(III[B)I"⟩
abbrev cJ2_getChars_1ba55 : ByteArray := prog_28_method_78_code
def yJ2_getChars_1ba55 : MethodName := ⟨RJ2, "getChars", "(JII[B)I"⟩
abbrev cJ2_putCharsAt_cd4e5 : ByteArray := prog_28_method_81_code
def yJ2_putCharsAt_cd4e5 : MethodName := ⟨RJ2, "putCharsAt", "([BICCCC)I"⟩
abbrev cJ2_charAt_3b067 : ByteArray := prog_28_method_83_code
def yJ2_charAt_3b067 : MethodName := ⟨RJ2, "charAt", "([BI)C"⟩
abbrev cJ2_inflate_0e8fd : ByteArray := prog_28_method_86_code
def yJ2_inflate_0e8fd : MethodName := ⟨RJ2, "inflate", "([BI[BII)V"⟩
abbrev cJ2_getChars_ba4f3 : ByteArray := prog_28_method_89_code
def yJ2_getChars_ba4f3 : MethodName := ⟨RJ2, "getChars", "(II[B)I"⟩
abbrev cJ2_getChars_11360 : ByteArray := prog_28_method_90_code
def yJ2_getChars_11360 : MethodName := ⟨RJ2, "getChars", "(JI[B)I"⟩
abbrev cJ2_checkIndex_2214a : ByteArray := prog_28_method_91_code
def yJ2_checkIndex_2214a : MethodName := ⟨RJ2, "checkIndex", "(I[B)V"⟩
abbrev cJ2_checkBoundsBeginEnd_d044e : ByteArray := prog_28_method_93_code
def yJ2_checkBoundsBeginEnd_d044e : MethodName := ⟨RJ2, "checkBoundsBeginEnd", "(II[B)V"⟩
abbrev cJ2_checkBoundsOffCount_d044e : ByteArray := prog_28_method_94_code
def yJ2_checkBoundsOffCount_d044e : MethodName := ⟨RJ2, "checkBoundsOffCount", "(II[B)V"⟩
def RJ10 : String := "java/lang/System"
def TJ10 : u_T := fun k => match k with
  | _ => ("", "", "", false)
def tyJ10 : Nat → FieldType := fun k => match k with
  | _ => .int
abbrev wsJ100 : List Cond := u_ws RJ10 TJ10 0
theorem nmJ10 : ∀ a, a < 0 → ∀ b, b < 0 → a ≠ b → (TJ10 a).2.1 ≠ (TJ10 b).2.1 := by decide +kernel
theorem tyJ10_ok : ∀ k, k < 0 → parseFieldDescriptor (TJ10 k).2.2.1 = some (tyJ10 k) := by decide +kernel
def RJxfd54e : String := "java/lang/constant/Constable"
def TJxfd54e : u_T := fun k => match k with
  | _ => ("", "", "", false)
def tyJxfd54e : Nat → FieldType := fun k => match k with
  | _ => .int
abbrev wsJxfd54e0 : List Cond := u_ws RJxfd54e TJxfd54e 0
theorem nmJxfd54e : ∀ a, a < 0 → ∀ b, b < 0 → a ≠ b → (TJxfd54e a).2.1 ≠ (TJxfd54e b).2.1 := by decide +kernel
theorem tyJxfd54e_ok : ∀ k, k < 0 → parseFieldDescriptor (TJxfd54e k).2.2.1 = some (tyJxfd54e k) := by decide +kernel
def RJx3cf43 : String := "java/lang/constant/ConstantDesc"
def TJx3cf43 : u_T := fun k => match k with
  | _ => ("", "", "", false)
def tyJx3cf43 : Nat → FieldType := fun k => match k with
  | _ => .int
abbrev wsJx3cf430 : List Cond := u_ws RJx3cf43 TJx3cf43 0
theorem nmJx3cf43 : ∀ a, a < 0 → ∀ b, b < 0 → a ≠ b → (TJx3cf43 a).2.1 ≠ (TJx3cf43 b).2.1 := by decide +kernel
theorem tyJx3cf43_ok : ∀ k, k < 0 → parseFieldDescriptor (TJx3cf43 k).2.2.1 = some (tyJx3cf43 k) := by decide +kernel
def RJxa1e45 : String := "java/util/AbstractCollection"
def TJxa1e45 : u_T := fun k => match k with
  | _ => ("", "", "", false)
def tyJxa1e45 : Nat → FieldType := fun k => match k with
  | _ => .int
abbrev wsJxa1e450 : List Cond := u_ws RJxa1e45 TJxa1e45 0
theorem nmJxa1e45 : ∀ a, a < 0 → ∀ b, b < 0 → a ≠ b → (TJxa1e45 a).2.1 ≠ (TJxa1e45 b).2.1 := by decide +kernel
theorem tyJxa1e45_ok : ∀ k, k < 0 → parseFieldDescriptor (TJxa1e45 k).2.2.1 = some (tyJxa1e45 k) := by decide +kernel
abbrev cJxa1e45_init_da8c8 : ByteArray := prog_33_method_1_code
def yJxa1e45_init_da8c8 : MethodName := ⟨RJxa1e45, "<init>", "()V"⟩
def RJxc12de : String := "java/util/AbstractList"
def TJxc12de : u_T := fun k => match k with
  | _ => ("", "", "", false)
def tyJxc12de : Nat → FieldType := fun k => match k with
  | _ => .int
abbrev wsJxc12de0 : List Cond := u_ws RJxc12de TJxc12de 0
theorem nmJxc12de : ∀ a, a < 0 → ∀ b, b < 0 → a ≠ b → (TJxc12de a).2.1 ≠ (TJxc12de b).2.1 := by decide +kernel
theorem tyJxc12de_ok : ∀ k, k < 0 → parseFieldDescriptor (TJxc12de k).2.2.1 = some (tyJxc12de k) := by decide +kernel
abbrev cJxc12de_init_da8c8 : ByteArray := prog_34_method_1_code
def yJxc12de_init_da8c8 : MethodName := ⟨RJxc12de, "<init>", "()V"⟩
def RJx4a65c : String := "java/util/ArrayList"
def TJx4a65c : u_T := fun k => match k with
  | 0 => ("java/util/AbstractList", "modCount", "I", false)
  | 1 => ("java/util/ArrayList", "elementData", "[Ljava/lang/Object;", false)
  | _ => ("java/util/ArrayList", "size", "I", false)
def tyJx4a65c : Nat → FieldType := fun k => match k with
  | 0 => .int
  | 1 => .array (.object "java/lang/Object")
  | _ => .int
abbrev wsJx4a65c0 : List Cond := u_ws RJx4a65c TJx4a65c 3
theorem nmJx4a65c : ∀ a, a < 3 → ∀ b, b < 3 → a ≠ b → (TJx4a65c a).2.1 ≠ (TJx4a65c b).2.1 := by decide +kernel
theorem tyJx4a65c_ok : ∀ k, k < 3 → parseFieldDescriptor (TJx4a65c k).2.2.1 = some (tyJx4a65c k) := by decide +kernel
abbrev cJx4a65c_init_da8c8 : ByteArray := prog_35_method_2_code
def yJx4a65c_init_da8c8 : MethodName := ⟨RJx4a65c, "<init>", "()V"⟩
abbrev cJx4a65c_grow_92f84 : ByteArray := prog_35_method_6_code
def yJx4a65c_grow_92f84 : MethodName := ⟨RJx4a65c, "grow", "(I)[Ljava/lang/Object;"⟩
abbrev cJx4a65c_grow_d5877 : ByteArray := prog_35_method_7_code
def yJx4a65c_grow_d5877 : MethodName := ⟨RJx4a65c, "grow", "()[Ljava/lang/Object;"⟩
abbrev cJx4a65c_size_8abf5 : ByteArray := prog_35_method_8_code
def yJx4a65c_size_8abf5 : MethodName := ⟨RJx4a65c, "size", "()I"⟩
abbrev cJx4a65c_isEmpty_aae02 : ByteArray := prog_35_method_9_code
def yJx4a65c_isEmpty_aae02 : MethodName := ⟨RJx4a65c, "isEmpty", "()Z"⟩
abbrev cJx4a65c_elementData_915e3 : ByteArray := prog_35_method_18_code
def yJx4a65c_elementData_915e3 : MethodName := ⟨RJx4a65c, "elementData", "(I)Ljava/lang/Object;"⟩
abbrev cJx4a65c_get_915e3 : ByteArray := prog_35_method_20_code
def yJx4a65c_get_915e3 : MethodName := ⟨RJx4a65c, "get", "(I)Ljava/lang/Object;"⟩
abbrev cJx4a65c_add_72be8 : ByteArray := prog_35_method_24_code
def yJx4a65c_add_72be8 : MethodName := ⟨RJx4a65c, "add", "(Ljava/lang/Object;[Ljava/lang/Object;I)V"⟩
abbrev cJx4a65c_add_9ea2d : ByteArray := prog_35_method_25_code
def yJx4a65c_add_9ea2d : MethodName := ⟨RJx4a65c, "add", "(Ljava/lang/Object;)Z"⟩
abbrev cJx4a65c_remove_915e3 : ByteArray := prog_35_method_29_code
def yJx4a65c_remove_915e3 : MethodName := ⟨RJx4a65c, "remove", "(I)Ljava/lang/Object;"⟩
abbrev cJx4a65c_fastRemove_b59b0 : ByteArray := prog_35_method_39_code
def yJx4a65c_fastRemove_b59b0 : MethodName := ⟨RJx4a65c, "fastRemove", "([Ljava/lang/Object;I)V"⟩
abbrev cJx4a65c_clear_da8c8 : ByteArray := prog_35_method_40_code
def yJx4a65c_clear_da8c8 : MethodName := ⟨RJx4a65c, "clear", "()V"⟩
def RJ7 : String := "java/util/Arrays"
def TJ7 : u_T := fun k => match k with
  | _ => ("", "", "", false)
def tyJ7 : Nat → FieldType := fun k => match k with
  | _ => .int
abbrev wsJ70 : List Cond := u_ws RJ7 TJ7 0
theorem nmJ7 : ∀ a, a < 0 → ∀ b, b < 0 → a ≠ b → (TJ7 a).2.1 ≠ (TJ7 b).2.1 := by decide +kernel
theorem tyJ7_ok : ∀ k, k < 0 → parseFieldDescriptor (TJ7 k).2.2.1 = some (tyJ7 k) := by decide +kernel
abbrev cJ7_rangeCheck_23922 : ByteArray := prog_36_method_30_code
def yJ7_rangeCheck_23922 : MethodName := ⟨RJ7, "rangeCheck", "(III)V"⟩
abbrev cJ7_fill_eb02e : ByteArray := prog_36_method_110_code
def yJ7_fill_eb02e : MethodName := ⟨RJ7, "fill", "([BIIB)V"⟩
abbrev cJ7_copyOf_1904c : ByteArray := prog_36_method_119_code
def yJ7_copyOf_1904c : MethodName := ⟨RJ7, "copyOf", "([Ljava/lang/Object;I)[Ljava/lang/Object;"⟩
abbrev cJ7_copyOf_6403c : ByteArray := prog_36_method_120_code
def yJ7_copyOf_6403c : MethodName := ⟨RJ7, "copyOf", "([Ljava/lang/Object;ILjava/lang/Class;)[Ljava/lang/Object;"⟩
abbrev cJ7_copyOf_9075b : ByteArray := prog_36_method_121_code
def yJ7_copyOf_9075b : MethodName := ⟨RJ7, "copyOf", "([BI)[B"⟩
abbrev cJ7_checkLength_df160 : ByteArray := prog_36_method_131_code
def yJ7_checkLength_df160 : MethodName := ⟨RJ7, "checkLength", "(II)V"⟩
abbrev cJ7_copyOfRange_39247 : ByteArray := prog_36_method_132_code
def yJ7_copyOfRange_39247 : MethodName := ⟨RJ7, "copyOfRange", "([BII)[B"⟩
abbrev cJ7_copyOfRangeByte_39247 : ByteArray := prog_36_method_133_code
def yJ7_copyOfRangeByte_39247 : MethodName := ⟨RJ7, "copyOfRangeByte", "([BII)[B"⟩
def RJx5ef63 : String := "java/util/Collection"
def TJx5ef63 : u_T := fun k => match k with
  | _ => ("", "", "", false)
def tyJx5ef63 : Nat → FieldType := fun k => match k with
  | _ => .int
abbrev wsJx5ef630 : List Cond := u_ws RJx5ef63 TJx5ef63 0
theorem nmJx5ef63 : ∀ a, a < 0 → ∀ b, b < 0 → a ≠ b → (TJx5ef63 a).2.1 ≠ (TJx5ef63 b).2.1 := by decide +kernel
theorem tyJx5ef63_ok : ∀ k, k < 0 → parseFieldDescriptor (TJx5ef63 k).2.2.1 = some (tyJx5ef63 k) := by decide +kernel
def RJxbd725 : String := "java/util/List"
def TJxbd725 : u_T := fun k => match k with
  | _ => ("", "", "", false)
def tyJxbd725 : Nat → FieldType := fun k => match k with
  | _ => .int
abbrev wsJxbd7250 : List Cond := u_ws RJxbd725 TJxbd725 0
theorem nmJxbd725 : ∀ a, a < 0 → ∀ b, b < 0 → a ≠ b → (TJxbd725 a).2.1 ≠ (TJxbd725 b).2.1 := by decide +kernel
theorem tyJxbd725_ok : ∀ k, k < 0 → parseFieldDescriptor (TJxbd725 k).2.2.1 = some (tyJxbd725 k) := by decide +kernel
def RJ15 : String := "java/util/Objects"
def TJ15 : u_T := fun k => match k with
  | _ => ("", "", "", false)
def tyJ15 : Nat → FieldType := fun k => match k with
  | _ => .int
abbrev wsJ150 : List Cond := u_ws RJ15 TJ15 0
theorem nmJ15 : ∀ a, a < 0 → ∀ b, b < 0 → a ≠ b → (TJ15 a).2.1 ≠ (TJ15 b).2.1 := by decide +kernel
theorem tyJ15_ok : ∀ k, k < 0 → parseFieldDescriptor (TJ15 k).2.2.1 = some (tyJ15 k) := by decide +kernel
abbrev cJ15_checkIndex_7cf53 : ByteArray := prog_39_method_17_code
def yJ15_checkIndex_7cf53 : MethodName := ⟨RJ15, "checkIndex", "(II)I"⟩
def RJxf0a74 : String := "java/util/RandomAccess"
def TJxf0a74 : u_T := fun k => match k with
  | _ => ("", "", "", false)
def tyJxf0a74 : Nat → FieldType := fun k => match k with
  | _ => .int
abbrev wsJxf0a740 : List Cond := u_ws RJxf0a74 TJxf0a74 0
theorem nmJxf0a74 : ∀ a, a < 0 → ∀ b, b < 0 → a ≠ b → (TJxf0a74 a).2.1 ≠ (TJxf0a74 b).2.1 := by decide +kernel
theorem tyJxf0a74_ok : ∀ k, k < 0 → parseFieldDescriptor (TJxf0a74 k).2.2.1 = some (tyJxf0a74 k) := by decide +kernel
def RJxa66e6 : String := "java/util/SequencedCollection"
def TJxa66e6 : u_T := fun k => match k with
  | _ => ("", "", "", false)
def tyJxa66e6 : Nat → FieldType := fun k => match k with
  | _ => .int
abbrev wsJxa66e60 : List Cond := u_ws RJxa66e6 TJxa66e6 0
theorem nmJxa66e6 : ∀ a, a < 0 → ∀ b, b < 0 → a ≠ b → (TJxa66e6 a).2.1 ≠ (TJxa66e6 b).2.1 := by decide +kernel
theorem tyJxa66e6_ok : ∀ k, k < 0 → parseFieldDescriptor (TJxa66e6 k).2.2.1 = some (tyJxa66e6 k) := by decide +kernel
def RJ8 : String := "jdk/internal/util/ArraysSupport"
def TJ8 : u_T := fun k => match k with
  | _ => ("", "", "", false)
def tyJ8 : Nat → FieldType := fun k => match k with
  | _ => .int
abbrev wsJ80 : List Cond := u_ws RJ8 TJ8 0
theorem nmJ8 : ∀ a, a < 0 → ∀ b, b < 0 → a ≠ b → (TJ8 a).2.1 ≠ (TJ8 b).2.1 := by decide +kernel
theorem tyJ8_ok : ∀ k, k < 0 → parseFieldDescriptor (TJ8 k).2.2.1 = some (tyJ8 k) := by decide +kernel
abbrev cJ8_newLength_cabcc : ByteArray := prog_42_method_27_code
def yJ8_newLength_cabcc : MethodName := ⟨RJ8, "newLength", "(III)I"⟩
abbrev cJ8_hugeLength_7cf53 : ByteArray := prog_42_method_28_code
def yJ8_hugeLength_7cf53 : MethodName := ⟨RJ8, "hugeLength", "(II)I"⟩
def RJ3 : String := "jdk/internal/util/Preconditions"
def TJ3 : u_T := fun k => match k with
  | _ => ("", "", "", false)
def tyJ3 : Nat → FieldType := fun k => match k with
  | _ => .int
abbrev wsJ30 : List Cond := u_ws RJ3 TJ3 0
theorem nmJ3 : ∀ a, a < 0 → ∀ b, b < 0 → a ≠ b → (TJ3 a).2.1 ≠ (TJ3 b).2.1 := by decide +kernel
theorem tyJ3_ok : ∀ k, k < 0 → parseFieldDescriptor (TJ3 k).2.2.1 = some (tyJ3 k) := by decide +kernel
abbrev cJ3_checkIndex_8e157 : ByteArray := prog_43_method_11_code
def yJ3_checkIndex_8e157 : MethodName := ⟨RJ3, "checkIndex", "(IILjava/util/function/BiFunction;)I"⟩
abbrev cJ3_checkFromToIndex_8c36e : ByteArray := prog_43_method_12_code
def yJ3_checkFromToIndex_8c36e : MethodName := ⟨RJ3, "checkFromToIndex", "(IIILjava/util/function/BiFunction;)I"⟩
abbrev cJ3_checkFromIndexSize_8c36e : ByteArray := prog_43_method_13_code
def yJ3_checkFromIndexSize_8c36e : MethodName := ⟨RJ3, "checkFromIndexSize", "(IIILjava/util/function/BiFunction;)I"⟩
def RL : String := "DeeprowsLaw"
abbrev cL_make : ByteArray := method_2_code
def yL_make : MethodName := ⟨RL, "make", "(LDeeprows;IILDeeprowsLaw$Out;)I"⟩
abbrev cL_drop : ByteArray := method_3_code
def yL_drop : MethodName := ⟨RL, "drop", "(LDeeprows;LDeeprowsLaw$Out;)I"⟩
abbrev cL_put : ByteArray := method_4_code
def yL_put : MethodName := ⟨RL, "put", "(LDeeprows;IIILDeeprowsLaw$Out;)I"⟩
abbrev cL_say : ByteArray := method_5_code
def yL_say : MethodName := ⟨RL, "say", "(LDeeprows;IIILDeeprowsLaw$Out;)I"⟩
abbrev cL_none : ByteArray := method_6_code
def yL_none : MethodName := ⟨RL, "none", "(LDeeprows;IILDeeprowsLaw$Out;)I"⟩
abbrev cL_hang : ByteArray := method_7_code
def yL_hang : MethodName := ⟨RL, "hang", "(LDeeprows;IIILDeeprowsLaw$Out;)I"⟩
abbrev cL_swap : ByteArray := method_8_code
def yL_swap : MethodName := ⟨RL, "swap", "(LDeeprows;IIILDeeprowsLaw$Out;)I"⟩
abbrev cL_fill : ByteArray := method_9_code
def yL_fill : MethodName := ⟨RL, "fill", "(LDeeprows;IILDeeprowsLaw$Out;)I"⟩
abbrev cL_fillRow : ByteArray := method_10_code
def yL_fillRow : MethodName := ⟨RL, "fillRow", "(LDeeprows;IILDeeprowsLaw$Out;)I"⟩
abbrev cL_setAll : ByteArray := method_11_code
def yL_setAll : MethodName := ⟨RL, "setAll", "(LDeeprows;IIIILDeeprowsLaw$Out;)I"⟩
abbrev cL_setRows : ByteArray := method_12_code
def yL_setRows : MethodName := ⟨RL, "setRows", "(LDeeprows;IILDeeprowsLaw$Out;)I"⟩
abbrev cL_twin : ByteArray := method_13_code
def yL_twin : MethodName := ⟨RL, "twin", "(LDeeprows;ILDeeprowsLaw$Out;)I"⟩
abbrev cL_deepTwin : ByteArray := method_14_code
def yL_deepTwin : MethodName := ⟨RL, "deepTwin", "(LDeeprows;ILDeeprowsLaw$Out;)I"⟩
abbrev cL_copy : ByteArray := method_15_code
def yL_copy : MethodName := ⟨RL, "copy", "(LDeeprows;IILDeeprowsLaw$Out;)I"⟩
abbrev cL_kind : ByteArray := method_16_code
def yL_kind : MethodName := ⟨RL, "kind", "(LDeeprows;ILDeeprowsLaw$Out;)I"⟩
abbrev cL_length : ByteArray := method_17_code
def yL_length : MethodName := ⟨RL, "length", "(LDeeprows;ILDeeprowsLaw$Out;)I"⟩
abbrev cL_depth : ByteArray := method_18_code
def yL_depth : MethodName := ⟨RL, "depth", "(LDeeprows;ILDeeprowsLaw$Out;)I"⟩
abbrev cL_what : ByteArray := method_19_code
def yL_what : MethodName := ⟨RL, "what", "(LDeeprows;IILDeeprowsLaw$Out;)I"⟩
abbrev cL_at : ByteArray := method_20_code
def yL_at : MethodName := ⟨RL, "at", "(LDeeprows;IILDeeprowsLaw$Out;)I"⟩
abbrev cL_isDeep : ByteArray := method_21_code
def yL_isDeep : MethodName := ⟨RL, "isDeep", "(LDeeprows;IILDeeprowsLaw$Out;)I"⟩
abbrev cL_isFlat : ByteArray := method_22_code
def yL_isFlat : MethodName := ⟨RL, "isFlat", "(LDeeprows;IILDeeprowsLaw$Out;)I"⟩
abbrev cL_areDeep : ByteArray := method_23_code
def yL_areDeep : MethodName := ⟨RL, "areDeep", "(LDeeprows;IIIILDeeprowsLaw$Out;)I"⟩
abbrev cL_hash : ByteArray := method_24_code
def yL_hash : MethodName := ⟨RL, "hash", "(LDeeprows;ILDeeprowsLaw$Out;)I"⟩
abbrev cL_flatHash : ByteArray := method_25_code
def yL_flatHash : MethodName := ⟨RL, "flatHash", "(LDeeprows;ILDeeprowsLaw$Out;)I"⟩
abbrev cL_text : ByteArray := method_26_code
def yL_text : MethodName := ⟨RL, "text", "(LDeeprows;ILDeeprowsLaw$Out;)I"⟩
abbrev cL_differ : ByteArray := method_27_code
def yL_differ : MethodName := ⟨RL, "differ", "(LDeeprows;IILDeeprowsLaw$Out;)I"⟩
abbrev cL_compare : ByteArray := method_28_code
def yL_compare : MethodName := ⟨RL, "compare", "(LDeeprows;IILDeeprowsLaw$Out;)I"⟩
abbrev cL_house : ByteArray := method_29_code
def yL_house : MethodName := ⟨RL, "house", "(LDeeprows;ILDeeprowsLaw$Out;)I"⟩
abbrev cL_law : ByteArray := code
def yL_law : MethodName := ⟨RL, "law", "([I)Z"⟩
abbrev vwCl : List vw_C := [(RJ0, TJ0, 4), (RJ4, TJ4, 4), (RJx00060, TJx00060, 6), (RJx7c733, TJx7c733, 6), (RJx4a65c, TJx4a65c, 3), (RX0, TX0, 6), (RX1, TX1, 8), (RX2, TX2, 2), (RX3, TX3, 3), (RX4, TX4, 5)]
def wsX0_init : List Cond := .code yX0_init cX0_init 4 none :: zbig
def wsX0_change : List Cond := .code yX0_change cX0_change 5 none :: zbig
def wsX0_putRow : List Cond := .code yX0_putRow cX0_putRow 3 none :: zbig
def wsJxa1e45_init_da8c8 : List Cond := .code yJxa1e45_init_da8c8 cJxa1e45_init_da8c8 1 none :: zbig
def wsJxc12de_init_da8c8 : List Cond := .code yJxc12de_init_da8c8 cJxc12de_init_da8c8 1 none :: zbig
def wsJx4a65c_init_da8c8 : List Cond := .code yJx4a65c_init_da8c8 cJx4a65c_init_da8c8 1 none :: zbig
def wsJ5_init_d00df : List Cond := .code yJ5_init_d00df cJ5_init_d00df 2 none :: zbig
def wsJ4_init_da8c8 : List Cond := .code yJ4_init_da8c8 cJ4_init_da8c8 1 none :: zbig
def wsX1_init : List Cond := .code yX1_init cX1_init 1 none :: zbig
def wsX1_requireLength : List Cond := .code yX1_requireLength cX1_requireLength 1 none :: zbig
def wsJx4a65c_size_8abf5 : List Cond := .code yJx4a65c_size_8abf5 cJx4a65c_size_8abf5 1 (some .int) :: zbig
def wsX1_requireRoom : List Cond := .code yX1_requireRoom cX1_requireRoom 2 none :: zbig
def wsJ8_newLength_cabcc : List Cond := .code yJ8_newLength_cabcc cJ8_newLength_cabcc 4 (some .int) :: zbig
def wsJx4a65c_grow_92f84 : List Cond := .code yJx4a65c_grow_92f84 cJx4a65c_grow_92f84 4 (some (.array (.object "java/lang/Object"))) :: zbig
def wsJx4a65c_grow_d5877 : List Cond := .code yJx4a65c_grow_d5877 cJx4a65c_grow_d5877 1 (some (.array (.object "java/lang/Object"))) :: zbig
def wsJx4a65c_add_72be8 : List Cond := .code yJx4a65c_add_72be8 cJx4a65c_add_72be8 4 none :: zbig
def wsJx4a65c_add_9ea2d : List Cond := .code yJx4a65c_add_9ea2d cJx4a65c_add_9ea2d 2 (some .boolean) :: zbig
def wsX1_addRow : List Cond := .code yX1_addRow cX1_addRow 2 (some (.object "Deeprows$Row")) :: zbig
def wsX1_make : List Cond := .code yX1_make cX1_make 3 (some .int) :: zbig
def wsJ3_checkIndex_8e157 : List Cond := .code yJ3_checkIndex_8e157 cJ3_checkIndex_8e157 3 (some .int) :: zbig
def wsJ15_checkIndex_7cf53 : List Cond := .code yJ15_checkIndex_7cf53 cJ15_checkIndex_7cf53 2 (some .int) :: zbig
def wsJx4a65c_elementData_915e3 : List Cond := .code yJx4a65c_elementData_915e3 cJx4a65c_elementData_915e3 2 (some (.object "java/lang/Object")) :: zbig
def wsJx4a65c_get_915e3 : List Cond := .code yJx4a65c_get_915e3 cJx4a65c_get_915e3 2 (some (.object "java/lang/Object")) :: zbig
def wsX1_rowOf : List Cond := .code yX1_rowOf cX1_rowOf 2 (some (.object "Deeprows$Row")) :: zbig
def wsX1_requireThings : List Cond := .code yX1_requireThings cX1_requireThings 1 none :: zbig
def wsX1_requireLess : List Cond := .code yX1_requireLess cX1_requireLess 2 none :: zbig
def wsX1_depthIf : List Cond := .code yX1_depthIf cX1_depthIf 7 (some .int) :: zbig
def wsX1_depthOf : List Cond := .code yX1_depthOf cX1_depthOf 1 (some .int) :: zbig
def wsX1_requireDepths : List Cond := .code yX1_requireDepths cX1_requireDepths 4 none :: zbig
def wsX1_fillRow : List Cond := .code yX1_fillRow cX1_fillRow 7 (some .int) :: zbig
def wsJ0_coder_7d493 : List Cond := .code yJ0_coder_7d493 cJ0_coder_7d493 1 (some .byte) :: zbig
def wsJ0_length_8abf5 : List Cond := .code yJ0_length_8abf5 cJ0_length_8abf5 1 (some .int) :: zbig
def wsJ0_isLatin1_aae02 : List Cond := .code yJ0_isLatin1_aae02 cJ0_isLatin1_aae02 1 (some .boolean) :: zbig
def wsJ0_checkIndex_df160 : List Cond := .code yJ0_checkIndex_df160 cJ0_checkIndex_df160 2 none :: zbig
def wsJ1_charAt_3b067 : List Cond := .code yJ1_charAt_3b067 cJ1_charAt_3b067 2 (some .char) :: zbig
def wsJ0_charAt_5068e : List Cond := .code yJ0_charAt_5068e cJ0_charAt_5068e 2 (some .char) :: zbig
def wsJ5_newCapacity_0f7a4 : List Cond := .code yJ5_newCapacity_0f7a4 cJ5_newCapacity_0f7a4 6 (some .int) :: zbig
def wsJ7_copyOf_9075b : List Cond := .code yJ7_copyOf_9075b cJ7_copyOf_9075b 3 (some (.array .byte)) :: zbig
def wsJ5_ensureCapacityInternal_d00df : List Cond := .code yJ5_ensureCapacityInternal_d00df cJ5_ensureCapacityInternal_d00df 3 none :: zbig
def wsJ5_isLatin1_aae02 : List Cond := .code yJ5_isLatin1_aae02 cJ5_isLatin1_aae02 1 (some .boolean) :: zbig
def wsJ5_setLength_d00df : List Cond := .code yJ5_setLength_d00df cJ5_setLength_d00df 2 none :: zbig
def wsJ4_setLength_d00df : List Cond := .code yJ4_setLength_d00df cJ4_setLength_d00df 2 none :: zbig
def wsJ1_canEncode_fc78d : List Cond := .code yJ1_canEncode_fc78d cJ1_canEncode_fc78d 1 (some .boolean) :: zbig
def wsJ5_append_3fe6f : List Cond := .code yJ5_append_3fe6f cJ5_append_3fe6f 2 (some (.object "java/lang/AbstractStringBuilder")) :: zbig
def wsJ4_append_cf468 : List Cond := .code yJ4_append_cf468 cJ4_append_cf468 2 (some (.object "java/lang/StringBuilder")) :: zbig
def wsX1_writeSigns : List Cond := .code yX1_writeSigns cX1_writeSigns 3 none :: zbig
def wsX1_writePlace : List Cond := .code yX1_writePlace cX1_writePlace 5 none :: zbig
def wsX1_writeRow : List Cond := .code yX1_writeRow cX1_writeRow 4 none :: zbig
def wsX1_writeAnew : List Cond := .code yX1_writeAnew cX1_writeAnew 2 none :: zbig
def wsJ5_getValue_6d5f1 : List Cond := .code yJ5_getValue_6d5f1 cJ5_getValue_6d5f1 1 (some (.array .byte)) :: zbig
def wsJ5_length_8abf5 : List Cond := .code yJ5_length_8abf5 cJ5_length_8abf5 1 (some .int) :: zbig
def wsJ4_length_8abf5 : List Cond := .code yJ4_length_8abf5 cJ4_length_8abf5 1 (some .int) :: zbig
def wsJ7_checkLength_df160 : List Cond := .code yJ7_checkLength_df160 cJ7_checkLength_df160 2 none :: zbig
def wsJ7_copyOfRangeByte_39247 : List Cond := .code yJ7_copyOfRangeByte_39247 cJ7_copyOfRangeByte_39247 5 (some (.array .byte)) :: zbig
def wsJ7_copyOfRange_39247 : List Cond := .code yJ7_copyOfRange_39247 cJ7_copyOfRange_39247 3 (some (.array .byte)) :: zbig
def wsJ0_init_db425 : List Cond := .code yJ0_init_db425 cJ0_init_db425 5 none :: zbig
def wsJ0_init_81219 : List Cond := .code yJ0_init_81219 cJ0_init_81219 2 none :: zbig
def wsJ4_toString_0e30d : List Cond := .code yJ4_toString_0e30d cJ4_toString_0e30d 1 (some (.object "java/lang/String")) :: zbig
def wsX1_text : List Cond := .code yX1_text cX1_text 2 (some (.object "java/lang/String")) :: zbig
def wsX2_init : List Cond := .code yX2_init cX2_init 1 none :: zbig
def wsX3_put : List Cond := .code yX3_put cX3_put 4 none :: zbig
def wsX3_init : List Cond := .code yX3_init cX3_init 4 none :: zbig
def wsX3_length : List Cond := .code yX3_length cX3_length 1 (some .int) :: zbig
def wsX3_hangs : List Cond := .code yX3_hangs cX3_hangs 2 (some .boolean) :: zbig
def wsX3_twin : List Cond := .code yX3_twin cX3_twin 4 (some (.object "DeeprowsModel$Row")) :: zbig
def wsX4_isIn : List Cond := .code yX4_isIn cX4_isIn 3 (some .boolean) :: zbig
def wsX4_init : List Cond := .code yX4_init cX4_init 1 none :: zbig
def wsX4_refuse : List Cond := .code yX4_refuse cX4_refuse 3 (some .boolean) :: zbig
def wsX4_start : List Cond := .code yX4_start cX4_start 3 (some .boolean) :: zbig
def wsX4_isNoRow : List Cond := .code yX4_isNoRow cX4_isNoRow 2 (some .boolean) :: zbig
def wsX4_depthOf : List Cond := .code yX4_depthOf cX4_depthOf 6 (some .int) :: zbig
def wsX4_areHung : List Cond := .code yX4_areHung cX4_areHung 7 (some .boolean) :: zbig
def wsX4_make : List Cond := .code yX4_make cX4_make 3 (some .int) :: zbig
def wsX4_nowhere : List Cond := .code yX4_nowhere cX4_nowhere 4 (some (.array .int)) :: zbig
def wsX4_fillRow : List Cond := .code yX4_fillRow cX4_fillRow 5 (some .int) :: zbig
def wsJ5_inflateIfNeededFor_a7421 : List Cond := .code yJ5_inflateIfNeededFor_a7421 cJ5_inflateIfNeededFor_a7421 2 none :: zbig
def wsJ0_getBytes_840e7 : List Cond := .code yJ0_getBytes_840e7 cJ0_getBytes_840e7 4 none :: zbig
def wsJ5_putStringAt_47b60 : List Cond := .code yJ5_putStringAt_47b60 cJ5_putStringAt_47b60 3 none :: zbig
def wsJ5_append_cf1ce : List Cond := .code yJ5_append_cf1ce cJ5_append_cf1ce 3 (some (.object "java/lang/AbstractStringBuilder")) :: zbig
def wsJ4_append_15ec4 : List Cond := .code yJ4_append_15ec4 cJ4_append_15ec4 2 (some (.object "java/lang/StringBuilder")) :: zbig
def wsX4_textAt : List Cond := .code yX4_textAt cX4_textAt 4 (some (.object "java/lang/String")) :: zbig
def wsX4_textOf : List Cond := .code yX4_textOf cX4_textOf 5 (some (.object "java/lang/String")) :: zbig
def wsX4_text : List Cond := .code yX4_text cX4_text 2 (some (.object "java/lang/String")) :: zbig
def wsL_make : List Cond := .codeWith yL_make cL_make 5 (some .int) [(0, 11, 14, 19), (0, 11, 18, 21)] :: zbig
def wsL_fillRow : List Cond := .codeWith yL_fillRow cL_fillRow 5 (some .int) [(0, 11, 14, 31), (0, 11, 18, 19), (0, 11, 22, 21)] :: zbig
def wsL_text : List Cond := .codeWith yL_text cL_text 4 (some .int) [(0, 9, 12, 31)] :: zbig
/-- the law's own list -/
def wsL_law : List Cond := Cond.initialized RX1 :: zbig
