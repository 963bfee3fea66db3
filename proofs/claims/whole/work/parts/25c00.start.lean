set_option maxRecDepth 16384
theorem zsu_code_word {a : Array Value} {s : State} {x : MethodName} {bytes : ByteArray} {maxL : Nat} {ret : Option FieldType} {m : MethodId} {meth : Method} {c : Code}
    (hn : s.methodNamed? x = some m) (hm : s.vm.method? m = some meth) (hc : meth.code = some c) (h1 : c.code = bytes) (h2 : c.maxLocals = maxL) (h3 : c.exceptionTable.isEmpty = true)
    (h4 : meth.sig.returnType = ret) (h5 : meth.locks = false) (h6 : parseMethodDescriptor x.desc = some meth.sig) (h7 : c.maxStack ≤ mostOperands) : (Cond.code x bytes maxL ret).before a s = true := by
  subst h1 h2 h4
  simp [Cond.before, Cond.holds, Cond.value, hn, hm, hc, h3, h5, h6, h7]
theorem zsu_hand_word {a : Array Value} {s : State} {x : MethodName} {m : MethodId} {nm ds : String} {ps : List FieldType} {ret : Option FieldType} {fl maxL : Nat} {bytes : ByteArray}
    (hn : s.methodNamed? x = some m) (hm : s.vm.method? m = some (Lib.HandJ.method nm ds ps ret fl maxL bytes)) (h5 : (Lib.HandJ.method nm ds ps ret fl maxL bytes).locks = false)
    (h6 : parseMethodDescriptor x.desc = some (Lib.HandJ.method nm ds ps ret fl maxL bytes).sig) : (Cond.code x bytes maxL ret).before a s = true :=
  zsu_code_word hn hm rfl rfl rfl rfl rfl h5 h6 (by first | decide | exact Nat.le_of_ble_eq_true rfl)
def zsu_isCode : Jvm.Cond → Bool
  | .code .. => true
  | _ => false
theorem zsu_words {l : List Jvm.Cond} {f : Jvm.Cond → Bool} (h1 : l.all (fun c => zsu_isCode c || f c) = true) (h2 : ∀ c ∈ l.filter zsu_isCode, f c = true) : ∀ c ∈ l, f c = true := by
  intro c hc
  have h := List.all_eq_true.mp h1 c hc
  cases hq : zsu_isCode c with
  | false => simpa [hq] using h
  | true => exact h2 c (List.mem_filter.mpr ⟨hc, hq⟩)
def zsu_look {α : Type} (d : α) : List (Nat × α) → Nat → α
  | [], _ => d
  | (k, v) :: r, i => match Nat.beq k i with
    | true => v
    | false => zsu_look d r i
def zsu_down {α : Type} (f : Nat → α) (n : Nat) : Nat → List α
  | 0 => []
  | k + 1 => f (n - (k + 1)) :: zsu_down f n k
def zsu_arr {α : Type} (d : α) (ps : List (Nat × α)) (n : Nat) : Array α := ⟨zsu_down (zsu_look d ps) n n⟩
def zsu_poolPairs : List Lib.HandW.Entry → Nat → List (Nat × CpInfo)
  | [], _ => []
  | (kind, k, cls, name, desc, c, _) :: r, b =>
    ((if kind ≤ 1 then [(k, if kind = 0 then CpInfo.fieldref b (b + 2) else CpInfo.methodref b (b + 2)), (b, CpInfo.class_ (b + 1)), (b + 1, CpInfo.utf8 (stringToUtf16 cls)), (b + 2, CpInfo.nameAndType (b + 3) (b + 4)), (b + 3, CpInfo.utf8 (stringToUtf16 name)), (b + 4, CpInfo.utf8 (stringToUtf16 desc))]
     else if kind = 2 then [(k, CpInfo.class_ b), (b, CpInfo.utf8 (stringToUtf16 cls))]
     else if kind = 3 then [(k, CpInfo.string b), (b, CpInfo.utf8 (stringToUtf16 name))]
     else if kind = 4 then [(k, CpInfo.long (UInt64.ofNat c))]
     else if kind = 5 then [(k, CpInfo.integer (UInt32.ofNat c))]
     else if kind = 6 then [(k, CpInfo.float (UInt32.ofNat c))]
     else if kind = 8 then [(k, CpInfo.interfaceMethodref b (b + 2)), (b, CpInfo.class_ (b + 1)), (b + 1, CpInfo.utf8 (stringToUtf16 cls)), (b + 2, CpInfo.nameAndType (b + 3) (b + 4)), (b + 3, CpInfo.utf8 (stringToUtf16 name)), (b + 4, CpInfo.utf8 (stringToUtf16 desc))]
     else [(k, CpInfo.double (UInt64.ofNat c))]) : List (Nat × CpInfo)) ++ zsu_poolPairs r (b + 7)
def zsu_resPairs : List Lib.HandW.Entry → Nat → List (Nat × Option Resolved)
  | [], _ => []
  | (kind, k, _, _, _, c, i) :: t, b =>
    ((if kind = 0 then [(k, some (Resolved.field c i)), (b, some (Resolved.cls c))]
     else if kind = 1 then [(k, some (Resolved.method ⟨c, i⟩)), (b, some (Resolved.cls c))]
     else if kind = 2 then [(k, some (Resolved.cls c))]
     else if kind = 3 then [(k, some (Resolved.string c))]
     else if kind = 8 then [(k, some (Resolved.method ⟨c, i⟩)), (b, some (Resolved.cls c))]
     else []) : List (Nat × Option Resolved)) ++ zsu_resPairs t (b + 7)
def zsu_own (name : String) (flags : Nat) (es : List Lib.HandW.Entry) (fs : List (String × FieldType × Nat)) (m : Method) : Class :=
  { Lib.HandJ.cls name (zsu_arr CpInfo.unusable (zsu_poolPairs es (Lib.HandW.top es)) (Lib.HandW.top es + 7 * es.length)) (zsu_arr (none : Option Resolved) (zsu_resPairs es (Lib.HandW.top es)) (Lib.HandW.top es + 7 * es.length)) flags (Lib.HandW.fieldsFrom fs 0).toArray #[m] (fs.map fun f => f.2.1).toArray with super := some 1 }
/-! ===== END general text ===== -/
