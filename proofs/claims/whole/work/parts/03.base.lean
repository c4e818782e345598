/-! ===== BEGIN the judgement G: a frame of a method of the program over an abstract heap ===== -/
/-- a cell: an array (number of its type, length, contents) or an object (number of its class, fields) -/
abbrev gA : Type := (Nat × vp_A) ⊕ (Nat × List Value)
abbrev gIm : Type := Nat → Option gA
abbrev gW : Type := Nat → gA
/-- what stays the same all along a run: the launch, the first address of the run, classes, slots, array classes, the script (address, length, ints), the fixed cells (how many, addresses) -/
abbrev gE : Type := Launch × Nat × (Nat → ClassId) × (Nat → Nat → Nat) × (Nat → ClassId) × (Nat × Nat × (Nat → Int32)) × Nat × (Nat → Nat)
abbrev gl (E : gE) : Launch := E.1
abbrev gb (E : gE) : Nat := E.2.1
abbrev gD (E : gE) : va_G := (E.2.2.1, E.2.2.2.1)
abbrev gdA (E : gE) : Nat → ClassId := E.2.2.2.2.1
abbrev gX (E : gE) : Nat × Nat × (Nat → Int32) := E.2.2.2.2.2.1
abbrev gN (E : gE) : Nat := E.2.2.2.2.2.2.1
abbrev gad (E : gE) : Nat → Nat := E.2.2.2.2.2.2.2
/-- a method's frame: own class, bytes, maxLocals, return type, handlers, is it a constructor -/
abbrev gM : Type := String × ByteArray × Nat × Option FieldType × List (Nat × Nat × Nat × Nat) × Bool
abbrev gO : Type := Option Value ⊕ String
abbrev gQ : Type := gO → gW → gIm → Prop

def g_T0 : u_T := fun k => match k with
  | 0 => ("SkiPasses", "now", "LSkiPasses$Resort;", true)
  | 1 => ("SkiPasses", "kept", "LSkiPasses$Resort;", true)
  | 2 => ("SkiPasses", "history", "LSkiPasses$History;", true)
  | 3 => ("SkiPasses", "text", "LSkiPasses$Text;", true)
  | 4 => ("SkiPasses", "shares", "LSkiPasses$Shares;", true)
  | 5 => ("SkiPasses", "hasSnapshot", "Z", false)
  | 6 => ("SkiPasses", "latestRefusal", "I", false)
  | 7 => ("SkiPasses", "latestError", "I", false)
  | _ => ("SkiPasses", "latestRefused", "I", false)
def g_y0 : Nat → FieldType := fun k => match k with
  | 0 => .object "SkiPasses$Resort"
  | 1 => .object "SkiPasses$Resort"
  | 2 => .object "SkiPasses$History"
  | 3 => .object "SkiPasses$Text"
  | 4 => .object "SkiPasses$Shares"
  | 5 => .boolean
  | 6 => .int
  | 7 => .int
  | _ => .int
def g_T1 : u_T := fun k => match k with
  | 0 => ("SkiPasses$Resort", "gates", "[LSkiPasses$Gate;", true)
  | 1 => ("SkiPasses$Resort", "products", "[LSkiPasses$Product;", true)
  | 2 => ("SkiPasses$Resort", "cards", "[LSkiPasses$Card;", true)
  | 3 => ("SkiPasses$Resort", "closed", "[I", true)
  | 4 => ("SkiPasses$Resort", "gateCount", "I", false)
  | 5 => ("SkiPasses$Resort", "productCount", "I", false)
  | 6 => ("SkiPasses$Resort", "cardCount", "I", false)
  | 7 => ("SkiPasses$Resort", "shutGates", "I", false)
  | _ => ("SkiPasses$Resort", "clock", "I", false)
def g_y1 : Nat → FieldType := fun k => match k with
  | 0 => .array (.object "SkiPasses$Gate")
  | 1 => .array (.object "SkiPasses$Product")
  | 2 => .array (.object "SkiPasses$Card")
  | 3 => .array .int
  | 4 => .int
  | 5 => .int
  | 6 => .int
  | 7 => .int
  | _ => .int
def g_T2 : u_T := fun k => match k with
  | 0 => ("SkiPasses$History", "places", "[LSkiPasses$Resort;", true)
  | 1 => ("SkiPasses$History", "next", "I", false)
  | _ => ("SkiPasses$History", "changes", "I", false)
def g_y2 : Nat → FieldType := fun k => match k with
  | 0 => .array (.object "SkiPasses$Resort")
  | 1 => .int
  | _ => .int
def g_T3 : u_T := fun k => match k with
  | 0 => ("SkiPasses$Text", "signs", "[C", true)
  | 1 => ("SkiPasses$Text", "length", "I", false)
  | 2 => ("SkiPasses$Text", "position", "I", false)
  | 3 => ("SkiPasses$Text", "orders", "I", false)
  | 4 => ("SkiPasses$Text", "letter", "C", false)
  | 5 => ("SkiPasses$Text", "number", "I", false)
  | _ => ("SkiPasses$Text", "times", "I", false)
def g_y3 : Nat → FieldType := fun k => match k with
  | 0 => .array .char
  | 1 => .int
  | 2 => .int
  | 3 => .int
  | 4 => .char
  | 5 => .int
  | _ => .int
def g_T4 : u_T := fun k => match k with
  | _ => ("SkiPasses$Shares", "parts", "[I", true)
def g_y4 : Nat → FieldType := fun k => match k with
  | _ => .array .int
def g_T5 : u_T := fun k => match k with
  | 0 => ("SkiPasses$Gate", "number", "I", true)
  | 1 => ("SkiPasses$Gate", "partner", "I", true)
  | _ => ("SkiPasses$Gate", "position", "I", true)
def g_y5 : Nat → FieldType := fun k => match k with
  | 0 => .int
  | 1 => .int
  | _ => .int
def g_T6 : u_T := fun k => match k with
  | 0 => ("SkiPasses$Product", "number", "I", true)
  | 1 => ("SkiPasses$Product", "kind", "I", true)
  | 2 => ("SkiPasses$Product", "amount", "I", true)
  | 3 => ("SkiPasses$Product", "first", "I", true)
  | 4 => ("SkiPasses$Product", "last", "I", true)
  | 5 => ("SkiPasses$Product", "partners", "I", true)
  | _ => ("SkiPasses$Product", "price", "I", true)
def g_y6 : Nat → FieldType := fun k => match k with
  | 0 => .int
  | 1 => .int
  | 2 => .int
  | 3 => .int
  | 4 => .int
  | 5 => .int
  | _ => .int
def g_T7 : u_T := fun k => match k with
  | 0 => ("SkiPasses$Ride", "before", "LSkiPasses$Ride;", true)
  | 1 => ("SkiPasses$Ride", "gate", "LSkiPasses$Gate;", true)
  | 2 => ("SkiPasses$Ride", "minute", "I", true)
  | 3 => ("SkiPasses$Ride", "count", "I", true)
  | _ => ("SkiPasses$Ride", "days", "I", true)
def g_y7 : Nat → FieldType := fun k => match k with
  | 0 => .object "SkiPasses$Ride"
  | 1 => .object "SkiPasses$Gate"
  | 2 => .int
  | 3 => .int
  | _ => .int
def g_T8 : u_T := fun k => match k with
  | 0 => ("SkiPasses$Card", "number", "I", true)
  | 1 => ("SkiPasses$Card", "product", "LSkiPasses$Product;", true)
  | 2 => ("SkiPasses$Card", "state", "I", true)
  | 3 => ("SkiPasses$Card", "successor", "I", true)
  | 4 => ("SkiPasses$Card", "refunded", "I", true)
  | _ => ("SkiPasses$Card", "latest", "LSkiPasses$Ride;", true)
def g_y8 : Nat → FieldType := fun k => match k with
  | 0 => .int
  | 1 => .object "SkiPasses$Product"
  | 2 => .int
  | 3 => .int
  | 4 => .int
  | _ => .object "SkiPasses$Ride"
def g_T9 : u_T := fun k => match k with
  | 0 => ("SkiPassesModel", "now", "[I", true)
  | 1 => ("SkiPassesModel", "past", "[I", true)
  | 2 => ("SkiPassesModel", "pastMany", "I", false)
  | 3 => ("SkiPassesModel", "saved", "[I", true)
  | 4 => ("SkiPassesModel", "isSaved", "Z", false)
  | 5 => ("SkiPassesModel", "tried", "[I", true)
  | 6 => ("SkiPassesModel", "thrown", "I", false)
  | 7 => ("SkiPassesModel", "refused", "I", false)
  | 8 => ("SkiPassesModel", "errorAt", "I", false)
  | 9 => ("SkiPassesModel", "orderAt", "I", false)
  | 10 => ("SkiPassesModel", "buffer", "[C", true)
  | 11 => ("SkiPassesModel", "typed", "I", false)
  | 12 => ("SkiPassesModel", "end", "I", false)
  | 13 => ("SkiPassesModel", "at", "I", false)
  | 14 => ("SkiPassesModel", "isWrong", "Z", false)
  | 15 => ("SkiPassesModel", "letter", "C", false)
  | 16 => ("SkiPassesModel", "number", "I", false)
  | _ => ("SkiPassesModel", "times", "I", false)
def g_y9 : Nat → FieldType := fun k => match k with
  | 0 => .array .int
  | 1 => .array .int
  | 2 => .int
  | 3 => .array .int
  | 4 => .boolean
  | 5 => .array .int
  | 6 => .int
  | 7 => .int
  | 8 => .int
  | 9 => .int
  | 10 => .array .char
  | 11 => .int
  | 12 => .int
  | 13 => .int
  | 14 => .boolean
  | 15 => .char
  | 16 => .int
  | _ => .int
def g_C : Nat → String := fun ci => match ci with
  | 0 => "SkiPasses"
  | 1 => "SkiPasses$Resort"
  | 2 => "SkiPasses$History"
  | 3 => "SkiPasses$Text"
  | 4 => "SkiPasses$Shares"
  | 5 => "SkiPasses$Gate"
  | 6 => "SkiPasses$Product"
  | 7 => "SkiPasses$Ride"
  | 8 => "SkiPasses$Card"
  | _ => "SkiPassesModel"
def g_n : Nat → Nat := fun ci => match ci with
  | 0 => 9
  | 1 => 9
  | 2 => 3
  | 3 => 7
  | 4 => 1
  | 5 => 3
  | 6 => 7
  | 7 => 5
  | 8 => 6
  | _ => 18
def g_T : Nat → u_T := fun ci => match ci with
  | 0 => g_T0
  | 1 => g_T1
  | 2 => g_T2
  | 3 => g_T3
  | 4 => g_T4
  | 5 => g_T5
  | 6 => g_T6
  | 7 => g_T7
  | 8 => g_T8
  | _ => g_T9
def g_y : Nat → Nat → FieldType := fun ci => match ci with
  | 0 => g_y0
  | 1 => g_y1
  | 2 => g_y2
  | 3 => g_y3
  | 4 => g_y4
  | 5 => g_y5
  | 6 => g_y6
  | 7 => g_y7
  | 8 => g_y8
  | _ => g_y9
def g_cl : List vw_C := (List.range 10).map fun ci => (g_C ci, g_T ci, g_n ci)
theorem g_clat {ci : Nat} (h : ci < 10) : g_cl[ci]? = some (g_C ci, g_T ci, g_n ci) := by simp [g_cl, h]
theorem lt10 {P : Nat → Prop} (h0 : P 0) (h1 : P 1) (h2 : P 2) (h3 : P 3) (h4 : P 4) (h5 : P 5) (h6 : P 6) (h7 : P 7) (h8 : P 8) (h9 : P 9) {n : Nat} (h : n < 10) : P n := by
  match n, h with
  | 0, _ => exact h0
  | 1, _ => exact h1
  | 2, _ => exact h2
  | 3, _ => exact h3
  | 4, _ => exact h4
  | 5, _ => exact h5
  | 6, _ => exact h6
  | 7, _ => exact h7
  | 8, _ => exact h8
  | 9, _ => exact h9
theorem g_tyok {ci : Nat} (h : ci < 10) : ∀ k, k < g_n ci → parseFieldDescriptor (g_T ci k).2.2.1 = some (g_y ci k) := by
  refine lt10 (P := fun ci => ∀ k, k < g_n ci → parseFieldDescriptor (g_T ci k).2.2.1 = some (g_y ci k)) ?_ ?_ ?_ ?_ ?_ ?_ ?_ ?_ ?_ ?_ h <;> decide +kernel
theorem g_nmok {ci : Nat} (h : ci < 10) : ∀ a, a < g_n ci → ∀ b, b < g_n ci → a ≠ b → (g_T ci a).2.1 ≠ (g_T ci b).2.1 := by
  refine lt10 (P := fun ci => ∀ a, a < g_n ci → ∀ b, b < g_n ci → a ≠ b → (g_T ci a).2.1 ≠ (g_T ci b).2.1) ?_ ?_ ?_ ?_ ?_ ?_ ?_ ?_ ?_ ?_ h <;> decide +kernel
theorem g_own {ci : Nat} (h : ci < 10) : ∀ k, k < g_n ci → (g_T ci k).1 = g_C ci := by
  refine lt10 (P := fun ci => ∀ k, k < g_n ci → (g_T ci k).1 = g_C ci) ?_ ?_ ?_ ?_ ?_ ?_ ?_ ?_ ?_ ?_ h <;> decide +kernel
/-- the words that every method of the program has -/
def g_all : List Cond := lw_tbl.filter goodWord
theorem g_mem (i : Nat) {x : Cond} (h : lw_tbl[i]? = some x) (hg : goodWord x = true) : x ∈ g_all := List.mem_filter.mpr ⟨List.mem_of_getElem? h, hg⟩
theorem g_good : GoodIn g_all g_all := fun w hw => ⟨hw, good_of_word (List.mem_filter.mp hw).2⟩
set_option maxRecDepth 20000 in
theorem g_lays {ci : Nat} (h : ci < 10) : ∀ x ∈ u_ws (g_C ci) (g_T ci) (g_n ci), x ∈ g_all := by
  refine lt10 (P := fun ci => ∀ x ∈ u_ws (g_C ci) (g_T ci) (g_n ci), x ∈ g_all) ?_ ?_ ?_ ?_ ?_ ?_ ?_ ?_ ?_ ?_ h <;> decide +kernel
/-- the array types -/
def g_ty : Nat → FieldType := fun k => match k with
  | 0 => .int
  | 1 => .char
  | 2 => .long
  | 3 => .double
  | 4 => .object "SkiPasses$Gate"
  | 5 => .object "SkiPasses$Product"
  | 6 => .object "SkiPasses$Card"
  | _ => .object "SkiPasses$Resort"
def g_e (E : gE) : gA → va_E := fun e => match e with
  | .inl x => .inl (gdA E x.1, x.2)
  | .inr o => .inr o
def g_at (E : gE) (a : Nat) (e : gA) (H : Heap) : Prop := va_at (gD E) g_cl (a, g_e E e) H
def g_Rp (E : gE) (w : gW) (im : gIm) (H : Heap) : Prop :=
  (∀ i, i < gN E → gb E ≤ gad E i ∧ g_at E (gad E i) (w i) H) ∧ (∀ a x, im a = some x → gb E ≤ a ∧ g_at E a x H) ∧ (∀ i j, i < gN E → j < gN E → gad E i = gad E j → i = j) ∧ ∀ i, i < gN E → im (gad E i) = none
def g_cell (E : gE) (w : gW) (im : gIm) (a : Nat) (x : gA) : Prop := (∃ i, i < gN E ∧ a = gad E i ∧ w i = x) ∨ im a = some x
theorem g_mut {E : gE} {w : gW} {im : gIm} {x : gA} (i : Nat) (hi : i < gN E) (h : w i = x) : g_cell E w im (gad E i) x := Or.inl ⟨i, hi, rfl, h⟩
theorem g_imm {E : gE} {w : gW} {im : gIm} {a : Nat} {x : gA} (h : im a = some x) : g_cell E w im a x := Or.inr h
theorem g_at.kept {E : gE} {a : Nat} {x : gA} {H H1 : Heap} (h : g_at E a x H) (hq : H1[a]? = H[a]?) : g_at E a x H1 := va_at.kept h hq
theorem g_at.lt {E : gE} {a : Nat} {x : gA} {H : Heap} (h : g_at E a x H) : a < H.size := va_at.lt h
theorem g_Rp.get {E : gE} {w : gW} {im : gIm} {H : Heap} {a : Nat} {x : gA} (h : g_Rp E w im H) (hc : g_cell E w im a x) : gb E ≤ a ∧ g_at E a x H := by
  rcases hc with ⟨i, hi, rfl, rfl⟩ | hc
  · exact h.1 i hi
  · exact h.2.1 a x hc
theorem g_Rp.setW {E : gE} {w : gW} {im : gIm} {H H1 : Heap} {x : gA} (h : g_Rp E w im H) {i : Nat} (hi : i < gN E) (hx : g_at E (gad E i) x H1) (oq : ∀ q : Nat, q ≠ gad E i → H1[q]? = H[q]?) : g_Rp E (vf_upd w i x) im H1 := by
  refine ⟨fun j hj => ⟨(h.1 j hj).1, ?_⟩, fun a y ha => ⟨(h.2.1 a y ha).1, (h.2.1 a y ha).2.kept (oq a fun q => ?_)⟩, h.2.2.1, h.2.2.2⟩
  · by_cases e : j = i
    · subst e
      rw [show vf_upd w j x j = x by simp [vf_upd]]
      exact hx
    · rw [show vf_upd w i x j = w j by simp [vf_upd, e]]
      exact (h.1 j hj).2.kept (oq _ fun q => e (h.2.2.1 j i hj hi q))
  · rw [q, h.2.2.2 i hi] at ha
    cases ha
theorem g_Rp.setI {E : gE} {w : gW} {im : gIm} {H H1 : Heap} {x x0 : gA} (h : g_Rp E w im H) {a : Nat} (ha : im a = some x0) (hx : g_at E a x H1) (oq : ∀ q : Nat, q ≠ a → H1[q]? = H[q]?) : g_Rp E w (vf_upd im a (some x)) H1 := by
  have hne : ∀ i, i < gN E → gad E i ≠ a := fun i hi q => by
    have := h.2.2.2 i hi
    rw [q, ha] at this
    cases this
  refine ⟨fun j hj => ⟨(h.1 j hj).1, (h.1 j hj).2.kept (oq _ (hne j hj))⟩, fun b y hb => ?_, h.2.2.1, fun i hi => ?_⟩
  · by_cases e : b = a
    · subst e
      simp [vf_upd] at hb
      subst hb
      exact ⟨(h.2.1 b x0 ha).1, hx⟩
    · rw [show vf_upd im a (some x) b = im b by simp [vf_upd, e]] at hb
      exact ⟨(h.2.1 b y hb).1, (h.2.1 b y hb).2.kept (oq b e)⟩
  · rw [show vf_upd im a (some x) (gad E i) = im (gad E i) by simp [vf_upd, hne i hi]]
    exact h.2.2.2 i hi
theorem g_Rp.push {E : gE} {w : gW} {im : gIm} {H H1 : Heap} {x : gA} (h : g_Rp E w im H) (hb : gb E ≤ H.size) (hx : g_at E H.size x H1) (oq : ∀ q : Nat, q < H.size → H1[q]? = H[q]?) : im H.size = none ∧ (∀ i, i < gN E → gad E i ≠ H.size) ∧ g_Rp E w (vf_upd im H.size (some x)) H1 := by
  have h1 : im H.size = none := by
    cases hm : im H.size with
    | none => rfl
    | some y => exact absurd (h.2.1 _ y hm).2.lt (Nat.lt_irrefl _)
  have h2 : ∀ i, i < gN E → gad E i ≠ H.size := fun i hi q => absurd (h.1 i hi).2.lt (by rw [q]; exact Nat.lt_irrefl _)
  refine ⟨h1, h2, fun j hj => ⟨(h.1 j hj).1, (h.1 j hj).2.kept (oq _ (h.1 j hj).2.lt)⟩, fun b y hy => ?_, h.2.2.1, fun i hi => ?_⟩
  · by_cases e : b = H.size
    · subst e
      simp [vf_upd] at hy
      subst hy
      exact ⟨hb, hx⟩
    · rw [show vf_upd im H.size (some x) b = im b by simp [vf_upd, e]] at hy
      exact ⟨(h.2.1 b y hy).1, (h.2.1 b y hy).2.kept (oq b (h.2.1 b y hy).2.lt)⟩
  · rw [show vf_upd im H.size (some x) (gad E i) = im (gad E i) by simp [vf_upd, h2 i hi]]
    exact h.2.2.2 i hi
theorem g_Rp.kept {E : gE} {w : gW} {im : gIm} {H H1 : Heap} (h : g_Rp E w im H) (oq : ∀ q : Nat, q < H.size → H1[q]? = H[q]?) : g_Rp E w im H1 :=
  ⟨fun j hj => ⟨(h.1 j hj).1, (h.1 j hj).2.kept (oq _ (h.1 j hj).2.lt)⟩, fun b y hy => ⟨(h.2.1 b y hy).1, (h.2.1 b y hy).2.kept (oq b (h.2.1 b y hy).2.lt)⟩, h.2.2.1, h.2.2.2⟩
/-- the words of the tables that a call doesn't hand on by itself -/
def g_bad (x : Cond) : Bool := match x with
  | .declares _ => true
  | .castable _ _ => true
  | .fieldLinkNest _ _ _ _ _ _ => true
  | .methodLinkNest _ _ _ _ => true
  | _ => false
def g_bads : List Cond := lw_tbl.filter g_bad
theorem g_bmem (i : Nat) {x : Cond} (h : lw_tbl[i]? = some x) (hg : g_bad x = true) : x ∈ g_bads := List.mem_filter.mpr ⟨List.mem_of_getElem? h, hg⟩
theorem g_badT {x : Cond} (h : g_bad x = true) : x.onTables = true := by
  cases x <;> first | rfl | (simp [g_bad] at h)
theorem g_warm {x : Cond} (h : g_bad x = true) {s U : State} (hW : s.WarmedH U.vm) (hZ : va_Nw x s) : va_Nw x U := by
  cases x <;> first | (simp [g_bad] at h; done) | exact va_Nw.warmD hW hZ | exact va_Nw.warmC hW hZ | exact va_Nw.warmF hW hZ | exact va_Nw.warmM hW hZ
def g_strs : List (String × Nat × String) := lw_tbl.filterMap fun x => match x with
  | .stringRef own k tx => some (own, k, tx)
  | _ => none
def g_xs : List String := ["java/lang/IllegalArgumentException", "java/lang/IllegalStateException", "java/lang/IndexOutOfBoundsException", "java/lang/ArithmeticException", "java/lang/UnsupportedOperationException", "java/util/NoSuchElementException"]
def g_nc : List (String × String) := (g_xs.flatMap fun a => g_xs.map fun b => (a, b)).filter fun q => decide (q.1 ≠ q.2)
def g_ao : List String := ["SkiPasses$Gate", "SkiPasses$Product", "SkiPasses$Card", "SkiPasses$Resort"]
/-- what is known of the classes, and of the heap below the run's first address -/
def g_K (E : gE) (s : State) (H : Heap) : Prop :=
  va_K (gD E) g_cl [] s ∧ (∀ k, k < 8 → ArrOfT s (gdA E k) (g_ty k) ∧ va_RA s (gdA E k) (g_ty k)) ∧
  vx_Zq Bundle.tN "UNASSIGNED_STACK" Bundle.steD (fun q => gb E ≤ q) s H ∧ vx_Zq Bundle.tN "SUPPRESSED_SENTINEL" Bundle.listD (fun q => gb E ≤ q) s H ∧
  (∀ q ∈ g_strs, ∃ sa, vk_R q.1 q.2.1 q.2.2 sa s) ∧ (∀ q ∈ g_nc, va_Nc q.1 q.2 s) ∧ (∀ x ∈ g_bads, va_Nw x s) ∧ (∀ C ∈ g_ao, va_AO C s) ∧
  va_X (gX E).1 (gX E).2.1 (gX E).2.2 s H ∧ (gX E).1 < gb E ∧ gb E ≤ H.size ∧ (gl E).stackTraces = false
theorem g_K.warm {E : gE} {s U : State} {H : Heap} (hW : s.WarmedH U.vm) (h : g_K E s H) : g_K E U H := by
  obtain ⟨h1, h2, h3, h4, h5, h6, h7, h8, h9, h10⟩ := h
  have hA := hW.alike
  exact ⟨va_K.moved hA h1, fun k hk => ⟨arrOfT_moved hA (h2 k hk).1, (h2 k hk).2.moved hA⟩, vx_Zq.moved hA h3, vx_Zq.moved hA h4, fun q hq => (h5 q hq).imp fun sa hs => vk_R.warm hW hs, fun q hq => va_Nc.moved hA (h6 q hq), fun x hx => g_warm (List.mem_filter.mp hx).2 hW (h7 x hx), fun C hC => va_AO.moved hA (h8 C hC), va_X.moved hA h9, h10⟩
theorem g_K.same {E : gE} {s U : State} {H : Heap} (hv : U.vm = s.vm) (h : g_K E s H) : g_K E U H := g_K.warm (by rw [hv]; exact State.WarmedH.refl s) h
theorem g_K.keptH {E : gE} {s : State} {H H1 : Heap} (h : g_K E s H) (hz : H.size ≤ H1.size) (hq : ∀ q : Nat, q < gb E → H1[q]? = H[q]?) : g_K E s H1 := by
  obtain ⟨h1, h2, h3, h4, h5, h6, h7, h8, h9, h10, h11, h12⟩ := h
  have hq' : ∀ a : Nat, a < H.size → ¬ (fun q => gb E ≤ q) a → H1[a]? = H[a]? := fun a _ ha => hq a (Nat.lt_of_not_le ha)
  exact ⟨h1, h2, h3.kept hq', h4.kept hq', h5, h6, h7, h8, h9.kept (hq _ h10), h10, Nat.le_trans h11 hz, h12⟩
def g_w (y : MethodName) (M : gM) : Cond := if M.2.2.2.2.1.isEmpty then .code y M.2.1 M.2.2.1 M.2.2.2.1 else .codeWith y M.2.1 M.2.2.1 M.2.2.2.1 M.2.2.2.2.1
def g_rm (dd mc ms : Nat) : Room := { frames := dd + 8, cells := mc, slots := ms, locals := 100 * dd + 300 }
def g_room (R : Room) (dd MC MS : Nat) : Prop := dd + 8 ≤ R.frames ∧ 100 * dd + 300 ≤ R.locals ∧ MC ≤ R.cells ∧ MS ≤ R.slots
def g_Pc (E : gE) (av : List Value) (w : gW) (im : gIm) : Array Value → State → Prop := fun v U => v = av.toArray ∧ g_Rp E w im U.heap ∧ g_K E U U.heap
def g_Qc (E : gE) (Q : gQ) : Array Value → State → Outcome → State → Prop := fun _ st o t =>
  ∃ v w im, o = .returned v ∧ Q (.inl v) w im ∧ g_Rp E w im t.heap ∧ st.heap.size ≤ t.heap.size ∧ ∀ q : Nat, q < gb E → t.heap[q]? = st.heap[q]?
def g_XC (E : gE) (Q : gQ) : String → State → State → Prop := fun cls st t =>
  ∃ w im, Q (.inr cls) w im ∧ g_Rp E w im t.heap ∧ st.heap.size ≤ t.heap.size ∧ ∀ q : Nat, q < gb E → t.heap[q]? = st.heap[q]?
/-- a method's contract: from the world (w, im), with the arguments av, it ends as Q says; at depth d, with at most mc new cells of ms slots -/
def GM (E : gE) (d : Nat) (y : MethodName) (M : gM) (mc ms : Nat) (av : List Value) (w : gW) (im : gIm) (Q : gQ) : Prop :=
  ∀ dd, d ≤ dd → vx_Met (gl E) y (g_w y M :: g_all) (g_rm dd mc ms) (g_Pc E av w im) (g_Qc E Q) (g_XC E Q) mc ms (fun q => gb E ≤ q)
def g_fix (E : gE) (M : gM) (p : Program) (s : State) (m : MethodId) (args : Array Value) (meth : Method) (c : Code) : Prop :=
  p.tables.exec = Jvm.exec ∧ c.code = M.2.1 ∧ c.maxLocals = M.2.2.1 ∧ s.vm.findClass M.1 = some m.cls ∧ (∀ x ∈ g_all, x.before args s = true) ∧ meth.sig.returnType = M.2.2.2.1 ∧ meth.locks = false ∧ c.exceptionTable.toList = tableOf M.2.2.2.2.1 ∧ (M.2.2.2.2.2 = true → meth.name = "<init>") ∧ g_K E s s.heap
/-- the frame of the method M at pc with locals lv and operand stack st, in the world (w, im), with kc cells and ks slots left: it ends as Q says -/
def G (E : gE) (d : Nat) (M : gM) (pc : Nat) (lv : List (Nat × Value)) (st : List Value) (w : gW) (im : gIm) (kc ks : Nat) (Q : gQ) : Prop :=
  ∀ (p : Program) (e : Env) (R : Room) (s : State) (m : MethodId) (args : Array Value) (below : List Frame) (meth : Method) (c : Code) (H : Heap) (locs : List Loc) (ls : Array Slot) (cells slots MC MS dd : Nat),
    d ≤ dd → g_fix E M p s m args meth c → g_room R dd MC MS → lv_has ls M.2.2.1 lv → g_Rp E w im H → va_S (fun q => gb E ≤ q) s.heap H locs → cells + kc ≤ MC → slots + ks ≤ MS →
    W p (gl E) e R s m args below meth c H locs cells slots (vx_MQ below (g_Qc E Q) (g_XC E Q) args s MC MS (fun q => gb E ≤ q)) (F0 m pc ls st)
theorem GM.mono {E : gE} {d d' : Nat} {y : MethodName} {M : gM} {mc ms : Nat} {av : List Value} {w : gW} {im : gIm} {Q : gQ} (h : GM E d y M mc ms av w im Q) (hd : d ≤ d') : GM E d' y M mc ms av w im Q := fun dd hdd => h dd (Nat.le_trans hd hdd)
section GR
variable {E : gE} {d : Nat} {M : gM} {pc : Nat} {lv : List (Nat × Value)} {st : List Value} {w : gW} {im : gIm} {kc ks : Nat} {Q : gQ}
theorem g_frame {s : State} {H : Heap} {locs : List Loc} (hS : va_S (fun q => gb E ≤ q) s.heap H locs) (hb : gb E ≤ s.heap.size) : s.heap.size ≤ H.size ∧ ∀ q : Nat, q < gb E → H[q]? = s.heap[q]? :=
  ⟨hS.1, fun q hq => hS.2.1 q (Nat.lt_of_lt_of_le hq hb) (Nat.not_le.mpr hq)⟩
/-- the entry of a method without handlers -/
theorem g_entry {y : MethodName} {mc ms : Nat} {av : List Value} (hy : plainName y.cls = true) (hown : M.1 = y.cls) (hh : M.2.2.2.2.1 = []) (hi : M.2.2.2.2.2 = true → y.name = "<init>") (hn : (lg_sl av).length ≤ M.2.2.1) (k : G E d M 0 (lv_args 0 av) [] w im mc ms Q) : GM E d y M mc ms av w im Q := by
  intro dd hdd
  refine vx_ofW (cc := M.2.1) (maxL := M.2.2.1) (ret := M.2.2.2.1) (ws' := g_all) hy (by simp [g_w, hh]) ?_
  intro p e s m args below meth c s₁ B hml htb hv
  obtain ⟨rfl, hP, hK⟩ := hv
  have hts := atoms_spec (ws := g_w y M :: g_all) B.pre
  have hin := (name_of_methodNamed B.named B.method).1
  have hl := lv_entry av (n := M.2.2.1) hn
  rw [lg_entry_eq]
  exact k p e (g_rm dd mc ms) s m _ below meth c s.heap [] _ 0 0 mc ms dd hdd ⟨B.exec, B.bytes, hml, by rw [hown]; exact findClass_of_methodNamed B.named, fun x hx => hts x (List.mem_cons_of_mem _ hx), B.returns, B.notSynchronized, by rw [hh]; exact (List.eq_nil_iff_forall_not_mem.mpr fun x hx => htb x hx).trans rfl, fun h => hin.trans (hi h), hK⟩ ⟨Nat.le_refl _, Nat.le_refl _, Nat.le_refl _, Nat.le_refl _⟩ hl hP va_S.rf (by omega) (by omega)
/-- the entry of a method with handlers -/
theorem g_entryH {y : MethodName} {mc ms : Nat} {av : List Value} (hy : plainName y.cls = true) (hown : M.1 = y.cls) (hh : M.2.2.2.2.1.isEmpty = false) (hi : M.2.2.2.2.2 = true → y.name = "<init>") (hn : (lg_sl av).length ≤ M.2.2.1) (k : G E d M 0 (lv_args 0 av) [] w im mc ms Q) : GM E d y M mc ms av w im Q := by
  intro dd hdd
  have hw : g_w y M = .codeWith y M.2.1 M.2.2.1 M.2.2.2.1 M.2.2.2.2.1 := by simp [g_w, hh]
  refine vx_ofWH (cc := M.2.1) (maxL := M.2.2.1) (ret := M.2.2.2.1) (hh := M.2.2.2.2.1) (ws' := g_all) hy (by rw [hw]) ?_
  intro p e s m args below meth c s₁ B hml hv
  obtain ⟨rfl, hP, hK⟩ := hv
  have hts := atoms_spec (ws := g_w y M :: g_all) B.pre
  have hin := (name_of_methodNamed B.named B.method).1
  have hl := lv_entry av (n := M.2.2.1) hn
  have htb := vx_table (x := y) B (hw ▸ hts _ List.mem_cons_self)
  rw [lg_entry_eq]
  exact k p e (g_rm dd mc ms) s m _ below meth c s.heap [] _ 0 0 mc ms dd hdd ⟨B.exec, B.bytes, hml, by rw [hown]; exact findClass_of_methodNamed B.named, fun x hx => hts x (List.mem_cons_of_mem _ hx), B.returns, B.notSynchronized, htb, fun h => hin.trans (hi h), hK⟩ ⟨Nat.le_refl _, Nat.le_refl _, Nat.le_refl _, Nat.le_refl _⟩ hl hP va_S.rf (by omega) (by omega)
/-- fewer locals, less room, another post -/
theorem G.loc {lv' : List (Nat × Value)} (h : ∀ q ∈ lv', q ∈ lv) (k : G E d M pc lv' st w im kc ks Q) : G E d M pc lv st w im kc ks Q :=
  fun p e R s m args below meth c H locs ls cells slots MC MS dd hdd hf hR hl hP hS hc hs => k p e R s m args below meth c H locs ls cells slots MC MS dd hdd hf hR ⟨hl.1, hl.2.1, fun q hq => hl.2.2 q (h q hq)⟩ hP hS hc hs
theorem G.less {kc' ks' : Nat} (h1 : kc' ≤ kc) (h2 : ks' ≤ ks) (k : G E d M pc lv st w im kc' ks' Q) : G E d M pc lv st w im kc ks Q :=
  fun p e R s m args below meth c H locs ls cells slots MC MS dd hdd hf hR hl hP hS hc hs => k p e R s m args below meth c H locs ls cells slots MC MS dd hdd hf hR hl hP hS (by omega) (by omega)
theorem vx_MQ.mono {below : List Frame} {args : Array Value} {s t : State} {MC MS : Nat} {free : Addr → Prop} {Q Q' : gQ} (h : ∀ o w im, Q o w im → Q' o w im) (k : vx_MQ below (g_Qc E Q) (g_XC E Q) args s MC MS free t) : vx_MQ below (g_Qc E Q') (g_XC E Q') args s MC MS free t := by
  obtain ⟨o, b1, b2, b3⟩ := k
  refine ⟨o, b1, b2, ?_⟩
  rcases b3 with ⟨⟨v, w, im, h1, h2, h3⟩, h4⟩ | ⟨q, h1, X, ce, L, ⟨w, im, h2, h3⟩, h4⟩
  · exact Or.inl ⟨⟨v, w, im, h1, h _ _ _ h2, h3⟩, h4⟩
  · exact Or.inr ⟨q, h1, X, ce, L, ⟨w, im, h _ _ _ h2, h3⟩, h4⟩
theorem G.mono {Q' : gQ} (h : ∀ o w im, Q o w im → Q' o w im) (k : G E d M pc lv st w im kc ks Q) : G E d M pc lv st w im kc ks Q' := by
  intro p e R s m args below meth c H locs ls cells slots MC MS dd hdd hf hR hl hP hS hc hs T hT X
  obtain ⟨t, a, b⟩ := k p e R s m args below meth c H locs ls cells slots MC MS dd hdd hf hR hl hP hS hc hs T hT X
  exact ⟨t, a, vx_MQ.mono h b⟩

theorem g_iconst {n : Int} {v : Int32} (hv : Int32.ofInt n = v) (hd : decode M.2.1 pc = .ok (.iconst n, 1))
    (k : G E d M (pc + 1) (lv) (.int v :: st) (w) (im) (kc) (ks) Q) : G E d M (pc) (lv) (st) (w) (im) (kc) (ks) Q := by
  intro p e R s m args below meth c H locs ls cells slots MC MS dd hdd hf hR hl hP hS hc hs
  exact lv_iconst hf.1 hf.2.1 hd hv (k p e R s m args below meth c H locs ls cells slots MC MS dd hdd hf hR hl hP hS hc hs)
theorem g_bipush {n : Int} {v : Int32} (hv : (Int8.ofInt n).toInt32 = v) (hd : decode M.2.1 pc = .ok (.bipush n, 2))
    (k : G E d M (pc + 2) (lv) (.int v :: st) (w) (im) (kc) (ks) Q) : G E d M (pc) (lv) (st) (w) (im) (kc) (ks) Q := by
  intro p e R s m args below meth c H locs ls cells slots MC MS dd hdd hf hR hl hP hS hc hs
  exact lv_bipush hf.1 hf.2.1 hd hv (k p e R s m args below meth c H locs ls cells slots MC MS dd hdd hf hR hl hP hS hc hs)
theorem g_sipush {n : Int} {v : Int32} (hv : (Int16.ofInt n).toInt32 = v) (hd : decode M.2.1 pc = .ok (.sipush n, 3))
    (k : G E d M (pc + 3) (lv) (.int v :: st) (w) (im) (kc) (ks) Q) : G E d M (pc) (lv) (st) (w) (im) (kc) (ks) Q := by
  intro p e R s m args below meth c H locs ls cells slots MC MS dd hdd hf hR hl hP hS hc hs
  exact lv_sipush hf.1 hf.2.1 hd hv (k p e R s m args below meth c H locs ls cells slots MC MS dd hdd hf hR hl hP hS hc hs)
theorem g_lconst {n : Fin 2} {v : Int64} (hv : Int64.ofNat (n : Nat) = v) (hd : decode M.2.1 pc = .ok (.lconst n, 1))
    (k : G E d M (pc + 1) (lv) (.long v :: st) (w) (im) (kc) (ks) Q) : G E d M (pc) (lv) (st) (w) (im) (kc) (ks) Q := by
  intro p e R s m args below meth c H locs ls cells slots MC MS dd hdd hf hR hl hP hS hc hs
  exact lv_lconst hf.1 hf.2.1 hd hv (k p e R s m args below meth c H locs ls cells slots MC MS dd hdd hf hR hl hP hS hc hs)
theorem g_fconst0  (hd : decode M.2.1 pc = .ok (.fconst 0, 1))
    (k : G E d M (pc + 1) (lv) (.float FP.fconst0 :: st) (w) (im) (kc) (ks) Q) : G E d M (pc) (lv) (st) (w) (im) (kc) (ks) Q := by
  intro p e R s m args below meth c H locs ls cells slots MC MS dd hdd hf hR hl hP hS hc hs
  exact lv_fconst0 hf.1 hf.2.1 hd (k p e R s m args below meth c H locs ls cells slots MC MS dd hdd hf hR hl hP hS hc hs)
theorem g_dconst0  (hd : decode M.2.1 pc = .ok (.dconst 0, 1))
    (k : G E d M (pc + 1) (lv) (.double FP.dconst0 :: st) (w) (im) (kc) (ks) Q) : G E d M (pc) (lv) (st) (w) (im) (kc) (ks) Q := by
  intro p e R s m args below meth c H locs ls cells slots MC MS dd hdd hf hR hl hP hS hc hs
  exact lv_dconst0 hf.1 hf.2.1 hd (k p e R s m args below meth c H locs ls cells slots MC MS dd hdd hf hR hl hP hS hc hs)
theorem g_null  (hd : decode M.2.1 pc = .ok (.aconst_null, 1))
    (k : G E d M (pc + 1) (lv) (.null :: st) (w) (im) (kc) (ks) Q) : G E d M (pc) (lv) (st) (w) (im) (kc) (ks) Q := by
  intro p e R s m args below meth c H locs ls cells slots MC MS dd hdd hf hR hl hP hS hc hs
  exact lv_null hf.1 hf.2.1 hd (k p e R s m args below meth c H locs ls cells slots MC MS dd hdd hf hR hl hP hS hc hs)
theorem g_look {lv : List (Nat × Value)} {ls : Array Slot} {nL i : Nat} {v : Value} (hl : lv_has ls nL lv) (hq : lv.lookup i = some v) : ls[i]? = some (.val v) := by
  refine hl.2.2 (i, v) ?_
  clear hl
  induction lv with
  | nil => simp at hq
  | cons x xs ih =>
    rw [List.lookup_cons] at hq
    by_cases e : i == x.1
    · simp only [e] at hq
      cases hq
      have : i = x.1 := by simpa using e
      rw [this]
      exact List.mem_cons_self
    · simp only [e] at hq
      exact List.mem_cons_of_mem _ (ih hq)

theorem g_iload {i : Nat} {x : Int32} (hq : lv.lookup i = some (.int x)) (hd : decode M.2.1 pc = .ok (.iload i, 2))
    (k : G E d M (pc + 2) (lv) (.int x :: st) (w) (im) (kc) (ks) Q) : G E d M (pc) (lv) (st) (w) (im) (kc) (ks) Q := by
  intro p e R s m args below meth c H locs ls cells slots MC MS dd hdd hf hR hl hP hS hc hs
  exact lv_iload hf.1 hf.2.1 hd (g_look hl hq) (k p e R s m args below meth c H locs ls cells slots MC MS dd hdd hf hR hl hP hS hc hs)
theorem g_iload_n {n : Fin 4} {i : Nat} {x : Int32} (hi : (n : Nat) = i) (hq : lv.lookup i = some (.int x)) (hd : decode M.2.1 pc = .ok (.iload_n n, 1))
    (k : G E d M (pc + 1) (lv) (.int x :: st) (w) (im) (kc) (ks) Q) : G E d M (pc) (lv) (st) (w) (im) (kc) (ks) Q := by
  intro p e R s m args below meth c H locs ls cells slots MC MS dd hdd hf hR hl hP hS hc hs
  exact lv_iload_n hf.1 hf.2.1 hd hi (g_look hl hq) (k p e R s m args below meth c H locs ls cells slots MC MS dd hdd hf hR hl hP hS hc hs)
theorem g_aload {i : Nat} {x : Nat} (hq : lv.lookup i = some (.ref x)) (hd : decode M.2.1 pc = .ok (.aload i, 2))
    (k : G E d M (pc + 2) (lv) (.ref x :: st) (w) (im) (kc) (ks) Q) : G E d M (pc) (lv) (st) (w) (im) (kc) (ks) Q := by
  intro p e R s m args below meth c H locs ls cells slots MC MS dd hdd hf hR hl hP hS hc hs
  exact lv_aload hf.1 hf.2.1 hd (g_look hl hq) (k p e R s m args below meth c H locs ls cells slots MC MS dd hdd hf hR hl hP hS hc hs)
theorem g_aload_n {n : Fin 4} {i : Nat} {x : Nat} (hi : (n : Nat) = i) (hq : lv.lookup i = some (.ref x)) (hd : decode M.2.1 pc = .ok (.aload_n n, 1))
    (k : G E d M (pc + 1) (lv) (.ref x :: st) (w) (im) (kc) (ks) Q) : G E d M (pc) (lv) (st) (w) (im) (kc) (ks) Q := by
  intro p e R s m args below meth c H locs ls cells slots MC MS dd hdd hf hR hl hP hS hc hs
  exact lv_aload_n hf.1 hf.2.1 hd hi (g_look hl hq) (k p e R s m args below meth c H locs ls cells slots MC MS dd hdd hf hR hl hP hS hc hs)
theorem g_fload {i : Nat} {x : UInt32} (hq : lv.lookup i = some (.float x)) (hd : decode M.2.1 pc = .ok (.fload i, 2))
    (k : G E d M (pc + 2) (lv) (.float x :: st) (w) (im) (kc) (ks) Q) : G E d M (pc) (lv) (st) (w) (im) (kc) (ks) Q := by
  intro p e R s m args below meth c H locs ls cells slots MC MS dd hdd hf hR hl hP hS hc hs
  exact lv_fload hf.1 hf.2.1 hd (g_look hl hq) (k p e R s m args below meth c H locs ls cells slots MC MS dd hdd hf hR hl hP hS hc hs)
theorem g_fload_n {n : Fin 4} {i : Nat} {x : UInt32} (hi : (n : Nat) = i) (hq : lv.lookup i = some (.float x)) (hd : decode M.2.1 pc = .ok (.fload_n n, 1))
    (k : G E d M (pc + 1) (lv) (.float x :: st) (w) (im) (kc) (ks) Q) : G E d M (pc) (lv) (st) (w) (im) (kc) (ks) Q := by
  intro p e R s m args below meth c H locs ls cells slots MC MS dd hdd hf hR hl hP hS hc hs
  exact lv_fload_n hf.1 hf.2.1 hd hi (g_look hl hq) (k p e R s m args below meth c H locs ls cells slots MC MS dd hdd hf hR hl hP hS hc hs)
theorem g_dload {i : Nat} {x : UInt64} (hq : lv.lookup i = some (.double x)) (hd : decode M.2.1 pc = .ok (.dload i, 2))
    (k : G E d M (pc + 2) (lv) (.double x :: st) (w) (im) (kc) (ks) Q) : G E d M (pc) (lv) (st) (w) (im) (kc) (ks) Q := by
  intro p e R s m args below meth c H locs ls cells slots MC MS dd hdd hf hR hl hP hS hc hs
  exact lv_dload hf.1 hf.2.1 hd (g_look hl hq) (k p e R s m args below meth c H locs ls cells slots MC MS dd hdd hf hR hl hP hS hc hs)
theorem g_dload_n {n : Fin 4} {i : Nat} {x : UInt64} (hi : (n : Nat) = i) (hq : lv.lookup i = some (.double x)) (hd : decode M.2.1 pc = .ok (.dload_n n, 1))
    (k : G E d M (pc + 1) (lv) (.double x :: st) (w) (im) (kc) (ks) Q) : G E d M (pc) (lv) (st) (w) (im) (kc) (ks) Q := by
  intro p e R s m args below meth c H locs ls cells slots MC MS dd hdd hf hR hl hP hS hc hs
  exact lv_dload_n hf.1 hf.2.1 hd hi (g_look hl hq) (k p e R s m args below meth c H locs ls cells slots MC MS dd hdd hf hR hl hP hS hc hs)
theorem g_lload {i : Nat} {x : Int64} (hq : lv.lookup i = some (.long x)) (hd : decode M.2.1 pc = .ok (.lload i, 2))
    (k : G E d M (pc + 2) (lv) (.long x :: st) (w) (im) (kc) (ks) Q) : G E d M (pc) (lv) (st) (w) (im) (kc) (ks) Q := by
  intro p e R s m args below meth c H locs ls cells slots MC MS dd hdd hf hR hl hP hS hc hs
  exact lv_lload hf.1 hf.2.1 hd (g_look hl hq) (k p e R s m args below meth c H locs ls cells slots MC MS dd hdd hf hR hl hP hS hc hs)
theorem g_lload_n {n : Fin 4} {i : Nat} {x : Int64} (hi : (n : Nat) = i) (hq : lv.lookup i = some (.long x)) (hd : decode M.2.1 pc = .ok (.lload_n n, 1))
    (k : G E d M (pc + 1) (lv) (.long x :: st) (w) (im) (kc) (ks) Q) : G E d M (pc) (lv) (st) (w) (im) (kc) (ks) Q := by
  intro p e R s m args below meth c H locs ls cells slots MC MS dd hdd hf hR hl hP hS hc hs
  exact lv_lload_n hf.1 hf.2.1 hd hi (g_look hl hq) (k p e R s m args below meth c H locs ls cells slots MC MS dd hdd hf hR hl hP hS hc hs)
theorem g_aloadN {i : Nat} (hq : lv.lookup i = some (.null)) (hd : decode M.2.1 pc = .ok (.aload i, 2))
    (k : G E d M (pc + 2) (lv) (.null :: st) (w) (im) (kc) (ks) Q) : G E d M (pc) (lv) (st) (w) (im) (kc) (ks) Q := by
  intro p e R s m args below meth c H locs ls cells slots MC MS dd hdd hf hR hl hP hS hc hs
  exact lv_aloadN hf.1 hf.2.1 hd (g_look hl hq) (k p e R s m args below meth c H locs ls cells slots MC MS dd hdd hf hR hl hP hS hc hs)
theorem g_aloadN_n {n : Fin 4} {i : Nat} (hi : (n : Nat) = i) (hq : lv.lookup i = some (.null)) (hd : decode M.2.1 pc = .ok (.aload_n n, 1))
    (k : G E d M (pc + 1) (lv) (.null :: st) (w) (im) (kc) (ks) Q) : G E d M (pc) (lv) (st) (w) (im) (kc) (ks) Q := by
  intro p e R s m args below meth c H locs ls cells slots MC MS dd hdd hf hR hl hP hS hc hs
  exact lv_aload_nN hf.1 hf.2.1 hd hi (g_look hl hq) (k p e R s m args below meth c H locs ls cells slots MC MS dd hdd hf hR hl hP hS hc hs)
/-- a store into one slot -/
def g_st1 (lv : List (Nat × Value)) (i : Nat) (v : Value) : List (Nat × Value) := (i, v) :: lv.filter (fun q => !(q.1 == i) && !(q.1 + 1 == i && q.2.category == 2))
/-- a store into two slots -/
def g_st2 (lv : List (Nat × Value)) (i : Nat) (v : Value) : List (Nat × Value) := (i, v) :: lv.filter (fun q => !(q.1 == i) && (!(q.1 == i + 1) && !(q.1 + 1 == i && q.2.category == 2)))

theorem g_istore {i : Nat} {x : Int32} {lv' : List (Nat × Value)} (hn : i < M.2.2.1) (hv : g_st1 lv i (.int x) = lv') (hd : decode M.2.1 pc = .ok (.istore i, 2))
    (k : G E d M (pc + 2) (lv') (st) (w) (im) (kc) (ks) Q) : G E d M (pc) (lv) (.int x :: st) (w) (im) (kc) (ks) Q := by
  intro p e R s m args below meth c H locs ls cells slots MC MS dd hdd hf hR hl hP hS hc hs
  exact lv_istore hf.1 hf.2.1 hd hl hn hv (fun ls hl => (k p e R s m args below meth c H locs ls cells slots MC MS dd hdd hf hR hl hP hS hc hs))
theorem g_istore_n {n : Fin 4} {i : Nat} {x : Int32} {lv' : List (Nat × Value)} (hi : (n : Nat) = i) (hn : i < M.2.2.1) (hv : g_st1 lv i (.int x) = lv') (hd : decode M.2.1 pc = .ok (.istore_n n, 1))
    (k : G E d M (pc + 1) (lv') (st) (w) (im) (kc) (ks) Q) : G E d M (pc) (lv) (.int x :: st) (w) (im) (kc) (ks) Q := by
  intro p e R s m args below meth c H locs ls cells slots MC MS dd hdd hf hR hl hP hS hc hs
  exact lv_istore_n hf.1 hf.2.1 hd hi hl hn hv (fun ls hl => (k p e R s m args below meth c H locs ls cells slots MC MS dd hdd hf hR hl hP hS hc hs))
theorem g_astore {i : Nat} {x : Nat} {lv' : List (Nat × Value)} (hn : i < M.2.2.1) (hv : g_st1 lv i (.ref x) = lv') (hd : decode M.2.1 pc = .ok (.astore i, 2))
    (k : G E d M (pc + 2) (lv') (st) (w) (im) (kc) (ks) Q) : G E d M (pc) (lv) (.ref x :: st) (w) (im) (kc) (ks) Q := by
  intro p e R s m args below meth c H locs ls cells slots MC MS dd hdd hf hR hl hP hS hc hs
  exact lv_astore hf.1 hf.2.1 hd hl hn hv (fun ls hl => (k p e R s m args below meth c H locs ls cells slots MC MS dd hdd hf hR hl hP hS hc hs))
theorem g_astore_n {n : Fin 4} {i : Nat} {x : Nat} {lv' : List (Nat × Value)} (hi : (n : Nat) = i) (hn : i < M.2.2.1) (hv : g_st1 lv i (.ref x) = lv') (hd : decode M.2.1 pc = .ok (.astore_n n, 1))
    (k : G E d M (pc + 1) (lv') (st) (w) (im) (kc) (ks) Q) : G E d M (pc) (lv) (.ref x :: st) (w) (im) (kc) (ks) Q := by
  intro p e R s m args below meth c H locs ls cells slots MC MS dd hdd hf hR hl hP hS hc hs
  exact lv_astore_n hf.1 hf.2.1 hd hi hl hn hv (fun ls hl => (k p e R s m args below meth c H locs ls cells slots MC MS dd hdd hf hR hl hP hS hc hs))
theorem g_fstore {i : Nat} {x : UInt32} {lv' : List (Nat × Value)} (hn : i < M.2.2.1) (hv : g_st1 lv i (.float x) = lv') (hd : decode M.2.1 pc = .ok (.fstore i, 2))
    (k : G E d M (pc + 2) (lv') (st) (w) (im) (kc) (ks) Q) : G E d M (pc) (lv) (.float x :: st) (w) (im) (kc) (ks) Q := by
  intro p e R s m args below meth c H locs ls cells slots MC MS dd hdd hf hR hl hP hS hc hs
  exact lv_fstore hf.1 hf.2.1 hd hl hn hv (fun ls hl => (k p e R s m args below meth c H locs ls cells slots MC MS dd hdd hf hR hl hP hS hc hs))
theorem g_fstore_n {n : Fin 4} {i : Nat} {x : UInt32} {lv' : List (Nat × Value)} (hi : (n : Nat) = i) (hn : i < M.2.2.1) (hv : g_st1 lv i (.float x) = lv') (hd : decode M.2.1 pc = .ok (.fstore_n n, 1))
    (k : G E d M (pc + 1) (lv') (st) (w) (im) (kc) (ks) Q) : G E d M (pc) (lv) (.float x :: st) (w) (im) (kc) (ks) Q := by
  intro p e R s m args below meth c H locs ls cells slots MC MS dd hdd hf hR hl hP hS hc hs
  exact lv_fstore_n hf.1 hf.2.1 hd hi hl hn hv (fun ls hl => (k p e R s m args below meth c H locs ls cells slots MC MS dd hdd hf hR hl hP hS hc hs))
theorem g_dstore {i : Nat} {x : UInt64} {lv' : List (Nat × Value)} (hn : i + 1 < M.2.2.1) (hv : g_st2 lv i (.double x) = lv') (hd : decode M.2.1 pc = .ok (.dstore i, 2))
    (k : G E d M (pc + 2) (lv') (st) (w) (im) (kc) (ks) Q) : G E d M (pc) (lv) (.double x :: st) (w) (im) (kc) (ks) Q := by
  intro p e R s m args below meth c H locs ls cells slots MC MS dd hdd hf hR hl hP hS hc hs
  exact lv_dstore hf.1 hf.2.1 hd hl hn hv (fun ls hl => (k p e R s m args below meth c H locs ls cells slots MC MS dd hdd hf hR hl hP hS hc hs))
theorem g_dstore_n {n : Fin 4} {i : Nat} {x : UInt64} {lv' : List (Nat × Value)} (hi : (n : Nat) = i) (hn : i + 1 < M.2.2.1) (hv : g_st2 lv i (.double x) = lv') (hd : decode M.2.1 pc = .ok (.dstore_n n, 1))
    (k : G E d M (pc + 1) (lv') (st) (w) (im) (kc) (ks) Q) : G E d M (pc) (lv) (.double x :: st) (w) (im) (kc) (ks) Q := by
  intro p e R s m args below meth c H locs ls cells slots MC MS dd hdd hf hR hl hP hS hc hs
  exact lv_dstore_n hf.1 hf.2.1 hd hi hl hn hv (fun ls hl => (k p e R s m args below meth c H locs ls cells slots MC MS dd hdd hf hR hl hP hS hc hs))
theorem g_astoreN {i : Nat} {lv' : List (Nat × Value)} (hn : i < M.2.2.1) (hv : g_st1 lv i .null = lv') (hd : decode M.2.1 pc = .ok (.astore i, 2))
    (k : G E d M (pc + 2) (lv') (st) (w) (im) (kc) (ks) Q) : G E d M (pc) (lv) (.null :: st) (w) (im) (kc) (ks) Q := by
  intro p e R s m args below meth c H locs ls cells slots MC MS dd hdd hf hR hl hP hS hc hs
  exact lv_astoreN hf.1 hf.2.1 hd hl hn hv (fun ls hl => (k p e R s m args below meth c H locs ls cells slots MC MS dd hdd hf hR hl hP hS hc hs))
theorem g_astoreN_n {n : Fin 4} {i : Nat} {lv' : List (Nat × Value)} (hi : (n : Nat) = i) (hn : i < M.2.2.1) (hv : g_st1 lv i .null = lv') (hd : decode M.2.1 pc = .ok (.astore_n n, 1))
    (k : G E d M (pc + 1) (lv') (st) (w) (im) (kc) (ks) Q) : G E d M (pc) (lv) (.null :: st) (w) (im) (kc) (ks) Q := by
  intro p e R s m args below meth c H locs ls cells slots MC MS dd hdd hf hR hl hP hS hc hs
  exact lv_astore_nN hf.1 hf.2.1 hd hi hl hn hv (fun ls hl => (k p e R s m args below meth c H locs ls cells slots MC MS dd hdd hf hR hl hP hS hc hs))
theorem g_has_look {lv : List (Nat × Value)} {i : Nat} {v : Value} (hq : lv.lookup i = some v) : ∃ k : Nat, lv[k]? = some (i, v) := by
  induction lv with
  | nil => simp at hq
  | cons x xs ih =>
    rw [List.lookup_cons] at hq
    by_cases e : i == x.1
    · simp only [e] at hq
      cases hq
      exact ⟨0, by simp only [List.getElem?_cons_zero]; rw [show i = x.1 by simpa using e]⟩
    · simp only [e] at hq
      obtain ⟨k, hk⟩ := ih hq
      exact ⟨k + 1, by simpa using hk⟩

theorem g_iinc {i : Nat} {n : Int} {x v : Int32} {lv' : List (Nat × Value)} (hq : lv.lookup i = some (.int x)) (hx : x + Int32.ofInt n = v) (hn : i < M.2.2.1) (hv : g_st1 lv i (.int v) = lv') (hd : decode M.2.1 pc = .ok (.iinc i n, 3))
    (k : G E d M (pc + 3) (lv') (st) (w) (im) (kc) (ks) Q) : G E d M (pc) (lv) (st) (w) (im) (kc) (ks) Q := by
  intro p e R s m args below meth c H locs ls cells slots MC MS dd hdd hf hR hl hP hS hc hs
  obtain ⟨k9, hk9⟩ := g_has_look hq
  exact lv_iinc hf.1 hf.2.1 hd hl hk9 hx hn hv (fun ls hl => (k p e R s m args below meth c H locs ls cells slots MC MS dd hdd hf hR hl hP hS hc hs))
theorem g_iadd {x y : Int32} (hd : decode M.2.1 pc = .ok (.iadd, 1))
    (k : G E d M (pc + 1) (lv) (.int (x + y) :: st) (w) (im) (kc) (ks) Q) : G E d M (pc) (lv) (.int y :: .int x :: st) (w) (im) (kc) (ks) Q := by
  intro p e R s m args below meth c H locs ls cells slots MC MS dd hdd hf hR hl hP hS hc hs
  exact lv_iadd hf.1 hf.2.1 hd (k p e R s m args below meth c H locs ls cells slots MC MS dd hdd hf hR hl hP hS hc hs)
theorem g_isub {x y : Int32} (hd : decode M.2.1 pc = .ok (.isub, 1))
    (k : G E d M (pc + 1) (lv) (.int (x - y) :: st) (w) (im) (kc) (ks) Q) : G E d M (pc) (lv) (.int y :: .int x :: st) (w) (im) (kc) (ks) Q := by
  intro p e R s m args below meth c H locs ls cells slots MC MS dd hdd hf hR hl hP hS hc hs
  exact lv_isub hf.1 hf.2.1 hd (k p e R s m args below meth c H locs ls cells slots MC MS dd hdd hf hR hl hP hS hc hs)
theorem g_imul {x y : Int32} (hd : decode M.2.1 pc = .ok (.imul, 1))
    (k : G E d M (pc + 1) (lv) (.int (x * y) :: st) (w) (im) (kc) (ks) Q) : G E d M (pc) (lv) (.int y :: .int x :: st) (w) (im) (kc) (ks) Q := by
  intro p e R s m args below meth c H locs ls cells slots MC MS dd hdd hf hR hl hP hS hc hs
  exact lv_imul hf.1 hf.2.1 hd (k p e R s m args below meth c H locs ls cells slots MC MS dd hdd hf hR hl hP hS hc hs)
theorem g_iand {x y : Int32} (hd : decode M.2.1 pc = .ok (.iand, 1))
    (k : G E d M (pc + 1) (lv) (.int (x &&& y) :: st) (w) (im) (kc) (ks) Q) : G E d M (pc) (lv) (.int y :: .int x :: st) (w) (im) (kc) (ks) Q := by
  intro p e R s m args below meth c H locs ls cells slots MC MS dd hdd hf hR hl hP hS hc hs
  exact lv_iand hf.1 hf.2.1 hd (k p e R s m args below meth c H locs ls cells slots MC MS dd hdd hf hR hl hP hS hc hs)
theorem g_ior {x y : Int32} (hd : decode M.2.1 pc = .ok (.ior, 1))
    (k : G E d M (pc + 1) (lv) (.int (x ||| y) :: st) (w) (im) (kc) (ks) Q) : G E d M (pc) (lv) (.int y :: .int x :: st) (w) (im) (kc) (ks) Q := by
  intro p e R s m args below meth c H locs ls cells slots MC MS dd hdd hf hR hl hP hS hc hs
  exact lv_ior hf.1 hf.2.1 hd (k p e R s m args below meth c H locs ls cells slots MC MS dd hdd hf hR hl hP hS hc hs)
theorem g_ixor {x y : Int32} (hd : decode M.2.1 pc = .ok (.ixor, 1))
    (k : G E d M (pc + 1) (lv) (.int (x ^^^ y) :: st) (w) (im) (kc) (ks) Q) : G E d M (pc) (lv) (.int y :: .int x :: st) (w) (im) (kc) (ks) Q := by
  intro p e R s m args below meth c H locs ls cells slots MC MS dd hdd hf hR hl hP hS hc hs
  exact lv_ixor hf.1 hf.2.1 hd (k p e R s m args below meth c H locs ls cells slots MC MS dd hdd hf hR hl hP hS hc hs)
theorem g_idiv {x y : Int32} (hne : ¬ y = 0) (hd : decode M.2.1 pc = .ok (.idiv, 1))
    (k : G E d M (pc + 1) (lv) (.int (x / y) :: st) (w) (im) (kc) (ks) Q) : G E d M (pc) (lv) (.int y :: .int x :: st) (w) (im) (kc) (ks) Q := by
  intro p e R s m args below meth c H locs ls cells slots MC MS dd hdd hf hR hl hP hS hc hs
  exact lv_idiv hf.1 hf.2.1 hd hne (k p e R s m args below meth c H locs ls cells slots MC MS dd hdd hf hR hl hP hS hc hs)
theorem g_irem {x y : Int32} (hne : ¬ y = 0) (hd : decode M.2.1 pc = .ok (.irem, 1))
    (k : G E d M (pc + 1) (lv) (.int (x - x / y * y) :: st) (w) (im) (kc) (ks) Q) : G E d M (pc) (lv) (.int y :: .int x :: st) (w) (im) (kc) (ks) Q := by
  intro p e R s m args below meth c H locs ls cells slots MC MS dd hdd hf hR hl hP hS hc hs
  exact lv_irem hf.1 hf.2.1 hd hne (k p e R s m args below meth c H locs ls cells slots MC MS dd hdd hf hR hl hP hS hc hs)
theorem g_ineg {x : Int32} (hd : decode M.2.1 pc = .ok (.ineg, 1))
    (k : G E d M (pc + 1) (lv) (.int (0 - x) :: st) (w) (im) (kc) (ks) Q) : G E d M (pc) (lv) (.int x :: st) (w) (im) (kc) (ks) Q := by
  intro p e R s m args below meth c H locs ls cells slots MC MS dd hdd hf hR hl hP hS hc hs
  exact lv_ineg hf.1 hf.2.1 hd (k p e R s m args below meth c H locs ls cells slots MC MS dd hdd hf hR hl hP hS hc hs)
theorem g_ishl {x y : Int32} (hd : decode M.2.1 pc = .ok (.ishl, 1))
    (k : G E d M (pc + 1) (lv) (.int (x <<< (y &&& 31)) :: st) (w) (im) (kc) (ks) Q) : G E d M (pc) (lv) (.int y :: .int x :: st) (w) (im) (kc) (ks) Q := by
  intro p e R s m args below meth c H locs ls cells slots MC MS dd hdd hf hR hl hP hS hc hs
  exact lv_ishl hf.1 hf.2.1 hd (k p e R s m args below meth c H locs ls cells slots MC MS dd hdd hf hR hl hP hS hc hs)
theorem g_ishr {x y : Int32} (hd : decode M.2.1 pc = .ok (.ishr, 1))
    (k : G E d M (pc + 1) (lv) (.int (x >>> (y &&& 31)) :: st) (w) (im) (kc) (ks) Q) : G E d M (pc) (lv) (.int y :: .int x :: st) (w) (im) (kc) (ks) Q := by
  intro p e R s m args below meth c H locs ls cells slots MC MS dd hdd hf hR hl hP hS hc hs
  exact lv_ishr hf.1 hf.2.1 hd (k p e R s m args below meth c H locs ls cells slots MC MS dd hdd hf hR hl hP hS hc hs)
theorem g_iushr {x y v : Int32} (hv : (x.toUInt32 >>> (y.toUInt32 &&& Int32.toUInt32 31)).toInt32 = v) (hd : decode M.2.1 pc = .ok (.iushr, 1))
    (k : G E d M (pc + 1) (lv) (.int v :: st) (w) (im) (kc) (ks) Q) : G E d M (pc) (lv) (.int y :: .int x :: st) (w) (im) (kc) (ks) Q := by
  intro p e R s m args below meth c H locs ls cells slots MC MS dd hdd hf hR hl hP hS hc hs
  exact lv_iushr hf.1 hf.2.1 hd hv (k p e R s m args below meth c H locs ls cells slots MC MS dd hdd hf hR hl hP hS hc hs)
theorem g_i2l {x : Int32} (hd : decode M.2.1 pc = .ok (.i2l, 1))
    (k : G E d M (pc + 1) (lv) (.long x.toInt64 :: st) (w) (im) (kc) (ks) Q) : G E d M (pc) (lv) (.int x :: st) (w) (im) (kc) (ks) Q := by
  intro p e R s m args below meth c H locs ls cells slots MC MS dd hdd hf hR hl hP hS hc hs
  exact lv_i2l hf.1 hf.2.1 hd rfl (k p e R s m args below meth c H locs ls cells slots MC MS dd hdd hf hR hl hP hS hc hs)
theorem g_i2c {x v : Int32} (hv : (x.toUInt32 % 65536).toInt32 = v) (hd : decode M.2.1 pc = .ok (.i2c, 1))
    (k : G E d M (pc + 1) (lv) (.int v :: st) (w) (im) (kc) (ks) Q) : G E d M (pc) (lv) (.int x :: st) (w) (im) (kc) (ks) Q := by
  intro p e R s m args below meth c H locs ls cells slots MC MS dd hdd hf hR hl hP hS hc hs
  exact lv_i2c hf.1 hf.2.1 hd hv (k p e R s m args below meth c H locs ls cells slots MC MS dd hdd hf hR hl hP hS hc hs)
theorem g_i2f {x : Int32} (hd : decode M.2.1 pc = .ok (.i2f, 1))
    (k : G E d M (pc + 1) (lv) (.float (FP.i2f x) :: st) (w) (im) (kc) (ks) Q) : G E d M (pc) (lv) (.int x :: st) (w) (im) (kc) (ks) Q := by
  intro p e R s m args below meth c H locs ls cells slots MC MS dd hdd hf hR hl hP hS hc hs
  exact lv_i2f hf.1 hf.2.1 hd (k p e R s m args below meth c H locs ls cells slots MC MS dd hdd hf hR hl hP hS hc hs)
theorem g_i2d {x : Int32} (hd : decode M.2.1 pc = .ok (.i2d, 1))
    (k : G E d M (pc + 1) (lv) (.double (FP.i2d x) :: st) (w) (im) (kc) (ks) Q) : G E d M (pc) (lv) (.int x :: st) (w) (im) (kc) (ks) Q := by
  intro p e R s m args below meth c H locs ls cells slots MC MS dd hdd hf hR hl hP hS hc hs
  exact lv_i2d hf.1 hf.2.1 hd (k p e R s m args below meth c H locs ls cells slots MC MS dd hdd hf hR hl hP hS hc hs)
theorem g_f2d {x : UInt32} (hne : vf_n64 (FP.f2d x)) (hd : decode M.2.1 pc = .ok (.f2d, 1))
    (k : G E d M (pc + 1) (lv) (.double (FP.f2d x) :: st) (w) (im) (kc) (ks) Q) : G E d M (pc) (lv) (.float x :: st) (w) (im) (kc) (ks) Q := by
  intro p e R s m args below meth c H locs ls cells slots MC MS dd hdd hf hR hl hP hS hc hs
  exact lv_f2d hf.1 hf.2.1 hd hne (k p e R s m args below meth c H locs ls cells slots MC MS dd hdd hf hR hl hP hS hc hs)
theorem g_fdiv {x y : UInt32} (hne : vf_n32 (FP.fdiv x y)) (hd : decode M.2.1 pc = .ok (.fdiv, 1))
    (k : G E d M (pc + 1) (lv) (.float (FP.fdiv x y) :: st) (w) (im) (kc) (ks) Q) : G E d M (pc) (lv) (.float y :: .float x :: st) (w) (im) (kc) (ks) Q := by
  intro p e R s m args below meth c H locs ls cells slots MC MS dd hdd hf hR hl hP hS hc hs
  exact lv_fdiv hf.1 hf.2.1 hd hne (k p e R s m args below meth c H locs ls cells slots MC MS dd hdd hf hR hl hP hS hc hs)
theorem g_ddiv {x y : UInt64} (hne : vf_n64 (FP.ddiv x y)) (hd : decode M.2.1 pc = .ok (.ddiv, 1))
    (k : G E d M (pc + 1) (lv) (.double (FP.ddiv x y) :: st) (w) (im) (kc) (ks) Q) : G E d M (pc) (lv) (.double y :: .double x :: st) (w) (im) (kc) (ks) Q := by
  intro p e R s m args below meth c H locs ls cells slots MC MS dd hdd hf hR hl hP hS hc hs
  exact lv_ddiv hf.1 hf.2.1 hd hne (k p e R s m args below meth c H locs ls cells slots MC MS dd hdd hf hR hl hP hS hc hs)
theorem g_lcmp {x y : Int64} (hd : decode M.2.1 pc = .ok (.lcmp, 1))
    (k : G E d M (pc + 1) (lv) (.int (lg_cmp x y) :: st) (w) (im) (kc) (ks) Q) : G E d M (pc) (lv) (.long y :: .long x :: st) (w) (im) (kc) (ks) Q := by
  intro p e R s m args below meth c H locs ls cells slots MC MS dd hdd hf hR hl hP hS hc hs
  exact W.lcmp hf.1 hf.2.1 hd (k p e R s m args below meth c H locs ls cells slots MC MS dd hdd hf hR hl hP hS hc hs)
theorem g_fcmp {x y : UInt32} {op : CmpOp} (hd : decode M.2.1 pc = .ok (.fcmp op, 1))
    (k : G E d M (pc + 1) (lv) (.int (Op.cmpValue (FP.fcmp x y) op) :: st) (w) (im) (kc) (ks) Q) : G E d M (pc) (lv) (.float y :: .float x :: st) (w) (im) (kc) (ks) Q := by
  intro p e R s m args below meth c H locs ls cells slots MC MS dd hdd hf hR hl hP hS hc hs
  exact lv_fcmp hf.1 hf.2.1 hd (k p e R s m args below meth c H locs ls cells slots MC MS dd hdd hf hR hl hP hS hc hs)
theorem g_dcmp {x y : UInt64} {op : CmpOp} (hd : decode M.2.1 pc = .ok (.dcmp op, 1))
    (k : G E d M (pc + 1) (lv) (.int (Op.cmpValue (FP.dcmp x y) op) :: st) (w) (im) (kc) (ks) Q) : G E d M (pc) (lv) (.double y :: .double x :: st) (w) (im) (kc) (ks) Q := by
  intro p e R s m args below meth c H locs ls cells slots MC MS dd hdd hf hR hl hP hS hc hs
  exact lv_dcmp hf.1 hf.2.1 hd (k p e R s m args below meth c H locs ls cells slots MC MS dd hdd hf hR hl hP hS hc hs)
theorem g_dup {va : Value} (hva : va.category = 1) (hd : decode M.2.1 pc = .ok (.dup, 1))
    (k : G E d M (pc + 1) (lv) (va :: va :: st) (w) (im) (kc) (ks) Q) : G E d M (pc) (lv) (va :: st) (w) (im) (kc) (ks) Q := by
  intro p e R s m args below meth c H locs ls cells slots MC MS dd hdd hf hR hl hP hS hc hs
  exact lv_dup hf.1 hf.2.1 hd hva (k p e R s m args below meth c H locs ls cells slots MC MS dd hdd hf hR hl hP hS hc hs)
theorem g_dup2 {va vb : Value} (hva : va.category = 1) (hvb : vb.category = 1) (hd : decode M.2.1 pc = .ok (.dup2, 1))
    (k : G E d M (pc + 1) (lv) (va :: vb :: va :: vb :: st) (w) (im) (kc) (ks) Q) : G E d M (pc) (lv) (va :: vb :: st) (w) (im) (kc) (ks) Q := by
  intro p e R s m args below meth c H locs ls cells slots MC MS dd hdd hf hR hl hP hS hc hs
  exact lv_dup2_11 hf.1 hf.2.1 hd hva hvb (k p e R s m args below meth c H locs ls cells slots MC MS dd hdd hf hR hl hP hS hc hs)
theorem g_pop {va : Value} (hva : va.category = 1) (hd : decode M.2.1 pc = .ok (.pop, 1))
    (k : G E d M (pc + 1) (lv) (st) (w) (im) (kc) (ks) Q) : G E d M (pc) (lv) (va :: st) (w) (im) (kc) (ks) Q := by
  intro p e R s m args below meth c H locs ls cells slots MC MS dd hdd hf hR hl hP hS hc hs
  exact lv_pop hf.1 hf.2.1 hd hva (k p e R s m args below meth c H locs ls cells slots MC MS dd hdd hf hR hl hP hS hc hs)
-- the branches
theorem g_if_eq {x : Int32} {off : Int} {tgt : Nat} (hd : decode M.2.1 pc = .ok (.ifCond .eq off, 3)) (ht : (pc : Int) + off = (tgt : Int))
    (kt : x = 0 → G E d M (tgt) (lv) (st) (w) (im) (kc) (ks) Q) (kf : ¬ x = 0 → G E d M (pc + 3) (lv) (st) (w) (im) (kc) (ks) Q) : G E d M (pc) (lv) (.int x :: st) (w) (im) (kc) (ks) Q := by
  intro p e R s m args below meth c H locs ls cells slots MC MS dd hdd hf hR hl hP hS hc hs
  exact lv_if_eq hf.1 hf.2.1 hd ht (kt := fun h9 => (kt h9 p e R s m args below meth c H locs ls cells slots MC MS dd hdd hf hR hl hP hS hc hs)) (kf := fun h9 => (kf h9 p e R s m args below meth c H locs ls cells slots MC MS dd hdd hf hR hl hP hS hc hs))
theorem g_icmp_eq {x y : Int32} {off : Int} {tgt : Nat} (hd : decode M.2.1 pc = .ok (.if_icmp .eq off, 3)) (ht : (pc : Int) + off = (tgt : Int))
    (kt : x = y → G E d M (tgt) (lv) (st) (w) (im) (kc) (ks) Q) (kf : ¬ x = y → G E d M (pc + 3) (lv) (st) (w) (im) (kc) (ks) Q) : G E d M (pc) (lv) (.int y :: .int x :: st) (w) (im) (kc) (ks) Q := by
  intro p e R s m args below meth c H locs ls cells slots MC MS dd hdd hf hR hl hP hS hc hs
  exact lv_icmp_eq hf.1 hf.2.1 hd ht (kt := fun h9 => (kt h9 p e R s m args below meth c H locs ls cells slots MC MS dd hdd hf hR hl hP hS hc hs)) (kf := fun h9 => (kf h9 p e R s m args below meth c H locs ls cells slots MC MS dd hdd hf hR hl hP hS hc hs))
theorem g_if_ne {x : Int32} {off : Int} {tgt : Nat} (hd : decode M.2.1 pc = .ok (.ifCond .ne off, 3)) (ht : (pc : Int) + off = (tgt : Int))
    (kt : ¬ x = 0 → G E d M (tgt) (lv) (st) (w) (im) (kc) (ks) Q) (kf : x = 0 → G E d M (pc + 3) (lv) (st) (w) (im) (kc) (ks) Q) : G E d M (pc) (lv) (.int x :: st) (w) (im) (kc) (ks) Q := by
  intro p e R s m args below meth c H locs ls cells slots MC MS dd hdd hf hR hl hP hS hc hs
  exact lv_if_ne hf.1 hf.2.1 hd ht (kt := fun h9 => (kt h9 p e R s m args below meth c H locs ls cells slots MC MS dd hdd hf hR hl hP hS hc hs)) (kf := fun h9 => (kf h9 p e R s m args below meth c H locs ls cells slots MC MS dd hdd hf hR hl hP hS hc hs))
theorem g_icmp_ne {x y : Int32} {off : Int} {tgt : Nat} (hd : decode M.2.1 pc = .ok (.if_icmp .ne off, 3)) (ht : (pc : Int) + off = (tgt : Int))
    (kt : ¬ x = y → G E d M (tgt) (lv) (st) (w) (im) (kc) (ks) Q) (kf : x = y → G E d M (pc + 3) (lv) (st) (w) (im) (kc) (ks) Q) : G E d M (pc) (lv) (.int y :: .int x :: st) (w) (im) (kc) (ks) Q := by
  intro p e R s m args below meth c H locs ls cells slots MC MS dd hdd hf hR hl hP hS hc hs
  exact lv_icmp_ne hf.1 hf.2.1 hd ht (kt := fun h9 => (kt h9 p e R s m args below meth c H locs ls cells slots MC MS dd hdd hf hR hl hP hS hc hs)) (kf := fun h9 => (kf h9 p e R s m args below meth c H locs ls cells slots MC MS dd hdd hf hR hl hP hS hc hs))
theorem g_if_lt {x : Int32} {off : Int} {tgt : Nat} (hd : decode M.2.1 pc = .ok (.ifCond .lt off, 3)) (ht : (pc : Int) + off = (tgt : Int))
    (kt : x < 0 → G E d M (tgt) (lv) (st) (w) (im) (kc) (ks) Q) (kf : ¬ x < 0 → G E d M (pc + 3) (lv) (st) (w) (im) (kc) (ks) Q) : G E d M (pc) (lv) (.int x :: st) (w) (im) (kc) (ks) Q := by
  intro p e R s m args below meth c H locs ls cells slots MC MS dd hdd hf hR hl hP hS hc hs
  exact lv_if_lt hf.1 hf.2.1 hd ht (kt := fun h9 => (kt h9 p e R s m args below meth c H locs ls cells slots MC MS dd hdd hf hR hl hP hS hc hs)) (kf := fun h9 => (kf h9 p e R s m args below meth c H locs ls cells slots MC MS dd hdd hf hR hl hP hS hc hs))
theorem g_icmp_lt {x y : Int32} {off : Int} {tgt : Nat} (hd : decode M.2.1 pc = .ok (.if_icmp .lt off, 3)) (ht : (pc : Int) + off = (tgt : Int))
    (kt : x < y → G E d M (tgt) (lv) (st) (w) (im) (kc) (ks) Q) (kf : ¬ x < y → G E d M (pc + 3) (lv) (st) (w) (im) (kc) (ks) Q) : G E d M (pc) (lv) (.int y :: .int x :: st) (w) (im) (kc) (ks) Q := by
  intro p e R s m args below meth c H locs ls cells slots MC MS dd hdd hf hR hl hP hS hc hs
  exact lv_icmp_lt hf.1 hf.2.1 hd ht (kt := fun h9 => (kt h9 p e R s m args below meth c H locs ls cells slots MC MS dd hdd hf hR hl hP hS hc hs)) (kf := fun h9 => (kf h9 p e R s m args below meth c H locs ls cells slots MC MS dd hdd hf hR hl hP hS hc hs))
theorem g_if_ge {x : Int32} {off : Int} {tgt : Nat} (hd : decode M.2.1 pc = .ok (.ifCond .ge off, 3)) (ht : (pc : Int) + off = (tgt : Int))
    (kt : 0 ≤ x → G E d M (tgt) (lv) (st) (w) (im) (kc) (ks) Q) (kf : ¬ 0 ≤ x → G E d M (pc + 3) (lv) (st) (w) (im) (kc) (ks) Q) : G E d M (pc) (lv) (.int x :: st) (w) (im) (kc) (ks) Q := by
  intro p e R s m args below meth c H locs ls cells slots MC MS dd hdd hf hR hl hP hS hc hs
  exact lv_if_ge hf.1 hf.2.1 hd ht (kt := fun h9 => (kt h9 p e R s m args below meth c H locs ls cells slots MC MS dd hdd hf hR hl hP hS hc hs)) (kf := fun h9 => (kf h9 p e R s m args below meth c H locs ls cells slots MC MS dd hdd hf hR hl hP hS hc hs))
theorem g_icmp_ge {x y : Int32} {off : Int} {tgt : Nat} (hd : decode M.2.1 pc = .ok (.if_icmp .ge off, 3)) (ht : (pc : Int) + off = (tgt : Int))
    (kt : y ≤ x → G E d M (tgt) (lv) (st) (w) (im) (kc) (ks) Q) (kf : ¬ y ≤ x → G E d M (pc + 3) (lv) (st) (w) (im) (kc) (ks) Q) : G E d M (pc) (lv) (.int y :: .int x :: st) (w) (im) (kc) (ks) Q := by
  intro p e R s m args below meth c H locs ls cells slots MC MS dd hdd hf hR hl hP hS hc hs
  exact lv_icmp_ge hf.1 hf.2.1 hd ht (kt := fun h9 => (kt h9 p e R s m args below meth c H locs ls cells slots MC MS dd hdd hf hR hl hP hS hc hs)) (kf := fun h9 => (kf h9 p e R s m args below meth c H locs ls cells slots MC MS dd hdd hf hR hl hP hS hc hs))
theorem g_if_gt {x : Int32} {off : Int} {tgt : Nat} (hd : decode M.2.1 pc = .ok (.ifCond .gt off, 3)) (ht : (pc : Int) + off = (tgt : Int))
    (kt : 0 < x → G E d M (tgt) (lv) (st) (w) (im) (kc) (ks) Q) (kf : ¬ 0 < x → G E d M (pc + 3) (lv) (st) (w) (im) (kc) (ks) Q) : G E d M (pc) (lv) (.int x :: st) (w) (im) (kc) (ks) Q := by
  intro p e R s m args below meth c H locs ls cells slots MC MS dd hdd hf hR hl hP hS hc hs
  exact lv_if_gt hf.1 hf.2.1 hd ht (kt := fun h9 => (kt h9 p e R s m args below meth c H locs ls cells slots MC MS dd hdd hf hR hl hP hS hc hs)) (kf := fun h9 => (kf h9 p e R s m args below meth c H locs ls cells slots MC MS dd hdd hf hR hl hP hS hc hs))
theorem g_icmp_gt {x y : Int32} {off : Int} {tgt : Nat} (hd : decode M.2.1 pc = .ok (.if_icmp .gt off, 3)) (ht : (pc : Int) + off = (tgt : Int))
    (kt : y < x → G E d M (tgt) (lv) (st) (w) (im) (kc) (ks) Q) (kf : ¬ y < x → G E d M (pc + 3) (lv) (st) (w) (im) (kc) (ks) Q) : G E d M (pc) (lv) (.int y :: .int x :: st) (w) (im) (kc) (ks) Q := by
  intro p e R s m args below meth c H locs ls cells slots MC MS dd hdd hf hR hl hP hS hc hs
  exact lv_icmp_gt hf.1 hf.2.1 hd ht (kt := fun h9 => (kt h9 p e R s m args below meth c H locs ls cells slots MC MS dd hdd hf hR hl hP hS hc hs)) (kf := fun h9 => (kf h9 p e R s m args below meth c H locs ls cells slots MC MS dd hdd hf hR hl hP hS hc hs))
theorem g_if_le {x : Int32} {off : Int} {tgt : Nat} (hd : decode M.2.1 pc = .ok (.ifCond .le off, 3)) (ht : (pc : Int) + off = (tgt : Int))
    (kt : x ≤ 0 → G E d M (tgt) (lv) (st) (w) (im) (kc) (ks) Q) (kf : ¬ x ≤ 0 → G E d M (pc + 3) (lv) (st) (w) (im) (kc) (ks) Q) : G E d M (pc) (lv) (.int x :: st) (w) (im) (kc) (ks) Q := by
  intro p e R s m args below meth c H locs ls cells slots MC MS dd hdd hf hR hl hP hS hc hs
  exact lv_if_le hf.1 hf.2.1 hd ht (kt := fun h9 => (kt h9 p e R s m args below meth c H locs ls cells slots MC MS dd hdd hf hR hl hP hS hc hs)) (kf := fun h9 => (kf h9 p e R s m args below meth c H locs ls cells slots MC MS dd hdd hf hR hl hP hS hc hs))
theorem g_icmp_le {x y : Int32} {off : Int} {tgt : Nat} (hd : decode M.2.1 pc = .ok (.if_icmp .le off, 3)) (ht : (pc : Int) + off = (tgt : Int))
    (kt : x ≤ y → G E d M (tgt) (lv) (st) (w) (im) (kc) (ks) Q) (kf : ¬ x ≤ y → G E d M (pc + 3) (lv) (st) (w) (im) (kc) (ks) Q) : G E d M (pc) (lv) (.int y :: .int x :: st) (w) (im) (kc) (ks) Q := by
  intro p e R s m args below meth c H locs ls cells slots MC MS dd hdd hf hR hl hP hS hc hs
  exact lv_icmp_le hf.1 hf.2.1 hd ht (kt := fun h9 => (kt h9 p e R s m args below meth c H locs ls cells slots MC MS dd hdd hf hR hl hP hS hc hs)) (kf := fun h9 => (kf h9 p e R s m args below meth c H locs ls cells slots MC MS dd hdd hf hR hl hP hS hc hs))
theorem g_goto {off : Int} {tgt : Nat} (ht : (pc : Int) + off = (tgt : Int)) (hd : decode M.2.1 pc = .ok (.goto off, 3))
    (k : G E d M (tgt) (lv) (st) (w) (im) (kc) (ks) Q) : G E d M (pc) (lv) (st) (w) (im) (kc) (ks) Q := by
  intro p e R s m args below meth c H locs ls cells slots MC MS dd hdd hf hR hl hP hS hc hs
  exact lv_goto hf.1 hf.2.1 hd ht (k p e R s m args below meth c H locs ls cells slots MC MS dd hdd hf hR hl hP hS hc hs)
theorem g_ifnull {off : Int} {x : Nat} (hd : decode M.2.1 pc = .ok (.ifnull off, 3))
    (k : G E d M (pc + 3) (lv) (st) (w) (im) (kc) (ks) Q) : G E d M (pc) (lv) (.ref x :: st) (w) (im) (kc) (ks) Q := by
  intro p e R s m args below meth c H locs ls cells slots MC MS dd hdd hf hR hl hP hS hc hs
  exact lv_ifnull hf.1 hf.2.1 hd (k p e R s m args below meth c H locs ls cells slots MC MS dd hdd hf hR hl hP hS hc hs)
theorem g_ifnullN {off : Int} {tgt : Nat} (ht : (pc : Int) + off = (tgt : Int)) (hd : decode M.2.1 pc = .ok (.ifnull off, 3))
    (k : G E d M (tgt) (lv) (st) (w) (im) (kc) (ks) Q) : G E d M (pc) (lv) (.null :: st) (w) (im) (kc) (ks) Q := by
  intro p e R s m args below meth c H locs ls cells slots MC MS dd hdd hf hR hl hP hS hc hs
  exact lv_ifnullN hf.1 hf.2.1 hd ht (k p e R s m args below meth c H locs ls cells slots MC MS dd hdd hf hR hl hP hS hc hs)
theorem g_ifnonnull {off : Int} {tgt x : Nat} (ht : (pc : Int) + off = (tgt : Int)) (hd : decode M.2.1 pc = .ok (.ifnonnull off, 3))
    (k : G E d M (tgt) (lv) (st) (w) (im) (kc) (ks) Q) : G E d M (pc) (lv) (.ref x :: st) (w) (im) (kc) (ks) Q := by
  intro p e R s m args below meth c H locs ls cells slots MC MS dd hdd hf hR hl hP hS hc hs
  exact lv_ifnonnull hf.1 hf.2.1 hd ht (k p e R s m args below meth c H locs ls cells slots MC MS dd hdd hf hR hl hP hS hc hs)
theorem g_ifnonnullN {off : Int} (hd : decode M.2.1 pc = .ok (.ifnonnull off, 3))
    (k : G E d M (pc + 3) (lv) (st) (w) (im) (kc) (ks) Q) : G E d M (pc) (lv) (.null :: st) (w) (im) (kc) (ks) Q := by
  intro p e R s m args below meth c H locs ls cells slots MC MS dd hdd hf hR hl hP hS hc hs
  exact lv_ifnonnullN hf.1 hf.2.1 hd (k p e R s m args below meth c H locs ls cells slots MC MS dd hdd hf hR hl hP hS hc hs)
theorem g_ldcw {index : Nat} {v : Int32} (hq : Cond.constant M.1 index v ∈ g_all) (hd : decode M.2.1 pc = .ok (.ldc_w index, 3))
    (k : G E d M (pc + 3) (lv) (.int v :: st) (w) (im) (kc) (ks) Q) : G E d M (pc) (lv) (st) (w) (im) (kc) (ks) Q := by
  intro p e R s m args below meth c H locs ls cells slots MC MS dd hdd hf hR hl hP hS hc hs
  exact lv_ldcw hf.1 hf.2.1 hf.2.2.2.1 (hf.2.2.2.2.1 _ hq) hd (k p e R s m args below meth c H locs ls cells slots MC MS dd hdd hf hR hl hP hS hc hs)
theorem g_ldc {index : Nat} {v : Int32} (hq : Cond.constant M.1 index v ∈ g_all) (hd : decode M.2.1 pc = .ok (.ldc index, 2))
    (k : G E d M (pc + 2) (lv) (.int v :: st) (w) (im) (kc) (ks) Q) : G E d M (pc) (lv) (st) (w) (im) (kc) (ks) Q := by
  intro p e R s m args below meth c H locs ls cells slots MC MS dd hdd hf hR hl hP hS hc hs
  exact lv_ldc hf.1 hf.2.1 hf.2.2.2.1 (hf.2.2.2.2.1 _ hq) hd (k p e R s m args below meth c H locs ls cells slots MC MS dd hdd hf hR hl hP hS hc hs)
theorem g_lookup {dflt : Int} {ps : Array (Int × Int)} {len : Nat} {x : Int32} {off : Int} {tgt : Nat} (hd : decode M.2.1 pc = .ok (.lookupswitch dflt ps, len)) (hp : (ps.toList.zip (ps.toList.drop 1)).all (fun (a, next) => a.1 < next.1) = true) (ho : Op.lookupswitch.offset ps.toList dflt x.toInt = off) (ht : (pc : Int) + off = (tgt : Int))
    (k : G E d M (tgt) (lv) (st) (w) (im) (kc) (ks) Q) : G E d M (pc) (lv) (.int x :: st) (w) (im) (kc) (ks) Q := by
  intro p e R s m args below meth c H locs ls cells slots MC MS dd hdd hf hR hl hP hS hc hs
  exact lv_lookup hf.1 hf.2.1 hd hp ho ht (k p e R s m args below meth c H locs ls cells slots MC MS dd hdd hf hR hl hP hS hc hs)
theorem g_tableOut {dflt lo hi : Int} {offs : Array Int} {len : Nat} {x : Int32} {tgt : Nat} (hd : decode M.2.1 pc = .ok (.tableswitch dflt lo hi offs, len)) (h : x.toInt < lo ∨ hi < x.toInt) (ht : (pc : Int) + dflt = (tgt : Int))
    (k : G E d M (tgt) (lv) (st) (w) (im) (kc) (ks) Q) : G E d M (pc) (lv) (.int x :: st) (w) (im) (kc) (ks) Q := by
  intro p e R s m args below meth c H locs ls cells slots MC MS dd hdd hf hR hl hP hS hc hs
  exact lv_tableOut hf.1 hf.2.1 hd h ht (k p e R s m args below meth c H locs ls cells slots MC MS dd hdd hf hR hl hP hS hc hs)
theorem g_tableIn {dflt lo hi : Int} {offs : Array Int} {len : Nat} {x : Int32} {off : Int} {tgt : Nat} (hd : decode M.2.1 pc = .ok (.tableswitch dflt lo hi offs, len)) (h1 : ¬ x.toInt < lo) (h2 : ¬ hi < x.toInt) (ho : offs[(x.toInt - lo).toNat]? = some off) (ht : (pc : Int) + off = (tgt : Int))
    (k : G E d M (tgt) (lv) (st) (w) (im) (kc) (ks) Q) : G E d M (pc) (lv) (.int x :: st) (w) (im) (kc) (ks) Q := by
  intro p e R s m args below meth c H locs ls cells slots MC MS dd hdd hf hR hl hP hS hc hs
  exact lv_tableIn hf.1 hf.2.1 hd h1 h2 ho ht (k p e R s m args below meth c H locs ls cells slots MC MS dd hdd hf hR hl hP hS hc hs)

theorem g_end {p : Program} {e : Env} {R : Room} {s : State} {m : MethodId} {args : Array Value} {below : List Frame} {meth : Method} {c : Code} {H : Heap} {locs : List Loc} {cells slots MC MS : Nat} {o : Option Value} (hP : g_Rp E w im H) (hS : va_S (fun q => gb E ≤ q) s.heap H locs) (hb : gb E ≤ s.heap.size) (hQ : Q (.inl o) w im) : ∀ t : State, t.heap = H → s.WarmedH t.vm → g_Qc E Q args s (.returned o) t :=
  fun t ht _ => ⟨o, w, im, rfl, hQ, by rw [ht]; exact hP, by rw [ht]; exact hS.1, fun q hq => by rw [ht]; exact (g_frame hS hb).2 q hq⟩

theorem g_ireturn {x : Int32} {ty : FieldType} (hr : M.2.2.2.1 = some ty) (hn : narrow ty (.int x) = .int x) (hd : decode M.2.1 pc = .ok (.ireturn, 1)) (hQ : Q (.inl (some (.int x))) w im) : G E d M (pc) (lv) ([.int x]) (w) (im) (kc) (ks) Q := by
  intro p e R s m args below meth c H locs ls cells slots MC MS dd hdd hf hR hl hP hS hc hs
  refine vx_ret (W.widen (k := MC) (n := MS) (by omega) (by omega) ?_)
  exact W.zret (ty := ty) hf.1 hf.2.1 (hf.2.2.2.2.2.1.trans hr) hn (g_end (p := p) (e := e) (R := R) (m := m) (below := below) (meth := meth) (c := c) (cells := cells) (slots := slots) (MC := MC) (MS := MS) hP hS hf.2.2.2.2.2.2.2.2.2.2.2.2.2.2.2.2.2.2.2.1 hQ) hS.2.2 hd hf.2.2.2.2.2.2.1
theorem g_freturn {x : UInt32} (hr : M.2.2.2.1 = some .float) (hd : decode M.2.1 pc = .ok (.freturn, 1)) (hQ : Q (.inl (some (.float x))) w im) : G E d M (pc) (lv) ([.float x]) (w) (im) (kc) (ks) Q := by
  intro p e R s m args below meth c H locs ls cells slots MC MS dd hdd hf hR hl hP hS hc hs
  refine vx_ret (W.widen (k := MC) (n := MS) (by omega) (by omega) ?_)
  exact W.fret hf.1 hf.2.1 (hf.2.2.2.2.2.1.trans hr) (g_end (p := p) (e := e) (R := R) (m := m) (below := below) (meth := meth) (c := c) (cells := cells) (slots := slots) (MC := MC) (MS := MS) hP hS hf.2.2.2.2.2.2.2.2.2.2.2.2.2.2.2.2.2.2.2.1 hQ) hS.2.2 hd hf.2.2.2.2.2.2.1
theorem g_dreturn {x : UInt64} (hr : M.2.2.2.1 = some .double) (hd : decode M.2.1 pc = .ok (.dreturn, 1)) (hQ : Q (.inl (some (.double x))) w im) : G E d M (pc) (lv) ([.double x]) (w) (im) (kc) (ks) Q := by
  intro p e R s m args below meth c H locs ls cells slots MC MS dd hdd hf hR hl hP hS hc hs
  refine vx_ret (W.widen (k := MC) (n := MS) (by omega) (by omega) ?_)
  exact W.dret hf.1 hf.2.1 (hf.2.2.2.2.2.1.trans hr) (g_end (p := p) (e := e) (R := R) (m := m) (below := below) (meth := meth) (c := c) (cells := cells) (slots := slots) (MC := MC) (MS := MS) hP hS hf.2.2.2.2.2.2.2.2.2.2.2.2.2.2.2.2.2.2.2.1 hQ) hS.2.2 hd hf.2.2.2.2.2.2.1
theorem g_areturn {v : Value} {rt : FieldType} (hr : M.2.2.2.1 = some rt) (hrt : (∃ n, rt = .object n) ∨ ∃ t, rt = .array t) (hv : v = .null ∨ ∃ a, v = .ref a) (hd : decode M.2.1 pc = .ok (.areturn, 1)) (hQ : Q (.inl (some (v))) w im) : G E d M (pc) (lv) ([v]) (w) (im) (kc) (ks) Q := by
  intro p e R s m args below meth c H locs ls cells slots MC MS dd hdd hf hR hl hP hS hc hs
  refine vx_ret (W.widen (k := MC) (n := MS) (by omega) (by omega) ?_)
  exact W.aret hf.1 hf.2.1 (hf.2.2.2.2.2.1.trans hr) hrt hv (g_end (p := p) (e := e) (R := R) (m := m) (below := below) (meth := meth) (c := c) (cells := cells) (slots := slots) (MC := MC) (MS := MS) hP hS hf.2.2.2.2.2.2.2.2.2.2.2.2.2.2.2.2.2.2.2.1 hQ) hS.2.2 hd hf.2.2.2.2.2.2.1
theorem g_return (hr : M.2.2.2.1 = none) (hd : decode M.2.1 pc = .ok (.return_, 1)) (hQ : Q (.inl none) w im) : G E d M (pc) (lv) ([]) (w) (im) (kc) (ks) Q := by
  intro p e R s m args below meth c H locs ls cells slots MC MS dd hdd hf hR hl hP hS hc hs
  refine vx_ret (W.widen (k := MC) (n := MS) (by omega) (by omega) ?_)
  exact W.vret hf.1 hf.2.1 (hf.2.2.2.2.2.1.trans hr) (g_end (p := p) (e := e) (R := R) (m := m) (below := below) (meth := meth) (c := c) (cells := cells) (slots := slots) (MC := MC) (MS := MS) hP hS hf.2.2.2.2.2.2.2.2.2.2.2.2.2.2.2.2.2.2.2.1 hQ) hS.2.2 hd hf.2.2.2.2.2.2.1
end GR
/-! ===== END ===== -/
