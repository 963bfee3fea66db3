-- which bytes a row of bytes holds: it fits, L is c long, and its first c bytes are L's
def zCt (c : Nat) (L : List Int32) (f : Nat → Int32) : Prop := sb_Fit f ∧ L.length = c ∧ ∀ i, i < c → f i = L.getD i 0
theorem zCt.nil : zCt 0 [] (fun _ => 0) := ⟨sb_fit0, rfl, fun i h => absurd h (Nat.not_lt_zero i)⟩
theorem zCt.zero {f : Nat → Int32} (h : sb_Fit f) : zCt 0 [] f := ⟨h, rfl, fun i h => absurd h (Nat.not_lt_zero i)⟩
theorem zCt.to {c : Nat} {L L' : List Int32} {f : Nat → Int32} (h : zCt c L f) (e : L = L') : zCt c L' f := by
  subst e
  exact h
theorem zCt.same {n i : Nat} {L : List Int32} {f g : Nat → Int32} (hf : zCt n L f) (hg : zCt n L g) (hi : i < n) : f i = g i := by
  rw [hf.2.2 i hi, hg.2.2 i hi]
theorem zgetD_l {L M : List Int32} {i : Nat} (h : i < L.length) : (L ++ M).getD i 0 = L.getD i 0 := by
  rw [List.getD_eq_getElem?_getD, List.getD_eq_getElem?_getD, List.getElem?_append_left h]
theorem zgetD_r {L M : List Int32} {i : Nat} (h : L.length ≤ i) : (L ++ M).getD i 0 = M.getD (i - L.length) 0 := by
  rw [List.getD_eq_getElem?_getD, List.getD_eq_getElem?_getD, List.getElem?_append_right h]
theorem zCt.cpy {c n : Nat} {L : List Int32} {f : Nat → Int32} (h : zCt c L f) (hn : c ≤ n) : zCt c L (va_cpy f (fun _ => 0) 0 0 n) := by
  refine ⟨sb_fitC h.1 sb_fit0, h.2.1, fun i hi => ?_⟩
  show (if 0 ≤ i ∧ i < 0 + n then f (0 + (i - 0)) else 0) = L.getD i 0
  rw [if_pos ⟨Nat.zero_le i, by omega⟩, show 0 + (i - 0) = i by omega]
  exact h.2.2 i hi
theorem zCt.app {c n : Nat} {L M : List Int32} {f g : Nat → Int32} (hg : zCt c L g) (hf : zCt n M f) : zCt (c + n) (L ++ M) (va_cpy f g 0 c n) := by
  refine ⟨sb_fitC hf.1 hg.1, by rw [List.length_append, hg.2.1, hf.2.1], fun i hi => ?_⟩
  show (if c ≤ i ∧ i < c + n then f (0 + (i - c)) else g i) = (L ++ M).getD i 0
  by_cases h : c ≤ i
  · rw [if_pos ⟨h, hi⟩, zgetD_r (by rw [hg.2.1]; exact h), hg.2.1, hf.2.2 (0 + (i - c)) (by omega), show 0 + (i - c) = i - c by omega]
  · rw [if_neg (fun q => h q.1), zgetD_l (by rw [hg.2.1]; omega)]
    exact hg.2.2 i (by omega)
theorem zCt.upd {c : Nat} {L : List Int32} {g : Nat → Int32} {x y : Int32} (h : zCt c L g) (hx : fits .byte (.int y) = true) (e : y = x) : zCt (c + 1) (L ++ [x]) (upd g c y) := by
  refine ⟨sb_fitU h.1 hx, by rw [List.length_append, h.2.1]; rfl, fun i hi => ?_⟩
  show (if i = c then y else g i) = (L ++ [x]).getD i 0
  by_cases hc : i = c
  · rw [if_pos hc, zgetD_r (by rw [h.2.1]; omega), h.2.1, hc, Nat.sub_self, e]
    rfl
  · rw [if_neg hc, zgetD_l (by rw [h.2.1]; omega)]
    exact h.2.2 i (by omega)
theorem zck_of {n : Nat} {L : List Int32} {f : Nat → Int32} (hf : f = fun j => L.getD j 0) (hl : L.length = n) (hb : ∀ z ∈ L, fits .byte (.int z) = true) : zCt n L f := by
  subst hf
  refine ⟨fun j => ?_, hl, fun i hi => rfl⟩
  show fits .byte (.int (L.getD j 0)) = true
  by_cases hj : j < L.length
  · rw [List.getD_eq_getElem?_getD, List.getElem?_eq_getElem hj]
    exact hb _ (List.getElem_mem hj)
  · rw [List.getD_eq_getElem?_getD, List.getElem?_eq_none (by omega)]
    rfl
theorem zck0 : zCt 1 [91] (fun j => (zByt.getD 0 []).getD j 0) := zck_of rfl rfl (by decide)
theorem zck1 : zCt 1 [93] (fun j => (zByt.getD 1 []).getD j 0) := zck_of rfl rfl (by decide)
theorem zck2 : zCt 2 [44, 32] (fun j => (zByt.getD 2 []).getD j 0) := zck_of rfl rfl (by decide)
theorem zck3 : zCt 0 [] (fun j => (zByt.getD 3 []).getD j 0) := zck_of rfl rfl (by decide)
theorem zck4 : zCt 4 [110, 117, 108, 108] (fun j => (zByt.getD 4 []).getD j 0) := zck_of rfl rfl (by decide)
/-- the text of a row of four with the same in each place -/
def zrw (t : List Int32) : List Int32 := 91 :: (t ++ (44 :: 32 :: (t ++ (44 :: 32 :: (t ++ (44 :: 32 :: (t ++ [93])))))))
def ztxt0 : List Int32 := zrw [110, 117, 108, 108]
def ztxt1 : List Int32 := zrw ztxt0
def ztxt2 : List Int32 := zrw ztxt1
def ztxt3 : List Int32 := zrw ztxt2
/-- a loop that counts up to n -/
theorem zloop {Wf : Array Slot → Prop} {n : Nat} {I : Nat → Array Slot → Prop} (h0 : ∀ ls, I n ls → Wf ls) (h1 : ∀ i, i < n → (∀ ls, I (i + 1) ls → Wf ls) → ∀ ls, I i ls → Wf ls) : ∀ i, i ≤ n → ∀ ls, I i ls → Wf ls := by
  have key : ∀ d i, i + d = n → ∀ ls, I i ls → Wf ls := by
    intro d
    induction d with
    | zero =>
      intro i hi ls h
      rw [show i = n by omega] at h
      exact h0 ls h
    | succ d ih =>
      intro i hi ls h
      exact h1 i (by omega) (fun ls h => ih (i + 1) (by omega) ls h) ls h
  exact fun i hi ls h => key (n - i) i (by omega) ls h
