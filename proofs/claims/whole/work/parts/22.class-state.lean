/-! ===== the class as a whole ===== -/
/-- length, position, orders, letter, number, times; the signs -/
abbrev Tx : Type := Int × Int × Int × Int × Int × Int × (Int → Int)
abbrev tl (t : Tx) : Int := t.1
abbrev tp (t : Tx) : Int := t.2.1
abbrev to' (t : Tx) : Int := t.2.2.1
abbrev tc (t : Tx) : Int := t.2.2.2.1
abbrev tn (t : Tx) : Int := t.2.2.2.2.1
abbrev tt (t : Tx) : Int := t.2.2.2.2.2.1
abbrev ts (t : Tx) : Int → Int := t.2.2.2.2.2.2
abbrev CSt : Type := (Rz × Rz) × (Int × Int × (Int → Rz)) × Tx × (Int × Int × Int × Int)
abbrev cN (c : CSt) : Rz := c.1.1
abbrev cK (c : CSt) : Rz := c.1.2
abbrev cx (c : CSt) : Int := c.2.1.1
abbrev ch (c : CSt) : Int := c.2.1.2.1
abbrev cS (c : CSt) : Int → Rz := c.2.1.2.2
abbrev cT (c : CSt) : Tx := c.2.2.1
abbrev cF (c : CSt) : Int × Int × Int × Int := c.2.2.2
abbrev xE (E : gE) (f : Int × Int × Int × Int) : gA := .inr (0, [.ref (gad E 1), .ref (gad E 6), .ref (gad E 56), .ref (gad E 58), .ref (gad E 60), .int (iI f.1), .int (iI f.2.1), .int (iI f.2.2.1), .int (iI f.2.2.2)])
abbrev hE (E : gE) (nx k : Int) : gA := .inr (2, [.ref (gad E 57), .int (iI nx), .int (iI k)])
abbrev plE (E : gE) : gA := rowE 7 9 (fun i => some (gad E (11 + 5 * i.toNat)))
abbrev tE (E : gE) (t : Tx) : gA := .inr (3, [.ref (gad E 59), .int (iI (tl t)), .int (iI (tp t)), .int (iI (to' t)), .int (iI (tc t)), .int (iI (tn t)), .int (iI (tt t))])
abbrev chE (t : Tx) : gA := .inl (1, 60, .inl (fun j : Nat => iI (ts t j)))
abbrev sE (E : gE) : gA := .inr (4, [.ref (gad E 61)])
def okT (t : Tx) : Prop := (0 ≤ tl t ∧ tl t ≤ 60) ∧ (0 ≤ tp t ∧ tp t ≤ 60) ∧ (0 ≤ to' t ∧ to' t ≤ 60) ∧ (0 ≤ tc t ∧ tc t ≤ 255) ∧ (0 ≤ tn t ∧ tn t ≤ 99999) ∧ (0 ≤ tt t ∧ tt t ≤ 9) ∧ ∀ j, 0 ≤ j ∧ j < 60 → 0 ≤ ts t j ∧ ts t j ≤ 255
def okF (f : Int × Int × Int × Int) : Prop := (0 ≤ f.1 ∧ f.1 ≤ 1) ∧ (0 ≤ f.2.1 ∧ f.2.1 ≤ 42) ∧ (-1 ≤ f.2.2.1 ∧ f.2.2.1 ≤ 60) ∧ (-1 ≤ f.2.2.2 ∧ f.2.2.2 ≤ 60)
def XW (E : gE) (w : gW) (im : gIm) (c : CSt) : Prop := (gN E = 70 ∧ w 0 = xE E (cF c) ∧ w 56 = hE E (cx c) (ch c) ∧ w 57 = plE E ∧ w 58 = tE E (cT c) ∧ w 59 = chE (cT c) ∧ w 60 = sE E ∧ ∃ m, w 61 = intE 4 m) ∧
  (RZ E w im 1 (cN c) ∧ RZ E w im 6 (cK c) ∧ ∀ i : Int, 0 ≤ i ∧ i < 9 → RZ E w im (11 + 5 * i.toNat) (cS c i)) ∧ (0 ≤ cx c ∧ cx c < 9) ∧ (0 ≤ ch c ∧ ch c ≤ 8) ∧ okF (cF c) ∧ okT (cT c)
def XN (E : gE) (w : gW) (im : gIm) (c : CSt) (w' : gW) (im' : gIm) : Prop := (∀ j, 62 ≤ j → w' j = w j) ∧ (∀ a x, im a = some x → im' a = some x) ∧ XW E w' im' c
def cSetN (c : CSt) (R : Rz) : CSt := ((R, cK c), (cx c, ch c, cS c), cT c, cF c)
def cSetK (c : CSt) (R : Rz) : CSt := ((cN c, R), (cx c, ch c, cS c), cT c, cF c)
def cSetH (c : CSt) (nx k : Int) (S : Int → Rz) : CSt := ((cN c, cK c), (nx, k, S), cT c, cF c)
def cSetT (c : CSt) (t : Tx) : CSt := ((cN c, cK c), (cx c, ch c, cS c), t, cF c)
def cSetF (c : CSt) (f : Int × Int × Int × Int) : CSt := ((cN c, cK c), (cx c, ch c, cS c), cT c, f)
theorem XN.trans {E : gE} {w w1 w2 : gW} {im im1 im2 : gIm} {c1 c2 : CSt} (h : XN E w im c1 w1 im1) (k : XN E w1 im1 c2 w2 im2) : XN E w im c2 w2 im2 := ⟨fun j hj => (k.1 j hj).trans (h.1 j hj), fun a x hx => k.2.1 a x (h.2.1 a x hx), k.2.2⟩
theorem XN.refl {E : gE} {w : gW} {im : gIm} {c : CSt} (h : XW E w im c) : XN E w im c w im := ⟨fun _ _ => rfl, fun _ _ h => h, h⟩
theorem XW.sN {E : gE} {w w' : gW} {im im' : gIm} {c : CSt} {R : Rz} (h : XW E w im c) (k : RN E w im 1 R w' im') : XN E w im (cSetN c R) w' im' := by
  obtain ⟨⟨hn, x0, x1, x2, x3, x4, x5, m, x6⟩, ⟨r1, r2, r3⟩, o1, o2, o3, o4⟩ := h
  obtain ⟨k1, k2, k3⟩ := k
  exact ⟨fun j hj => k1 j (by omega), k2, ⟨hn, (k1 0 (by omega)).trans x0, (k1 56 (by omega)).trans x1, (k1 57 (by omega)).trans x2, (k1 58 (by omega)).trans x3, (k1 59 (by omega)).trans x4, (k1 60 (by omega)).trans x5, m, (k1 61 (by omega)).trans x6⟩, ⟨k3, r2.mono (fun i hi => k1 i (by omega)) k2, fun i hi => (r3 i hi).mono (fun j hj => k1 j (by omega)) k2⟩, o1, o2, o3, o4⟩
theorem XW.sK {E : gE} {w w' : gW} {im im' : gIm} {c : CSt} {R : Rz} (h : XW E w im c) (k : RN E w im 6 R w' im') : XN E w im (cSetK c R) w' im' := by
  obtain ⟨⟨hn, x0, x1, x2, x3, x4, x5, m, x6⟩, ⟨r1, r2, r3⟩, o1, o2, o3, o4⟩ := h
  obtain ⟨k1, k2, k3⟩ := k
  exact ⟨fun j hj => k1 j (by omega), k2, ⟨hn, (k1 0 (by omega)).trans x0, (k1 56 (by omega)).trans x1, (k1 57 (by omega)).trans x2, (k1 58 (by omega)).trans x3, (k1 59 (by omega)).trans x4, (k1 60 (by omega)).trans x5, m, (k1 61 (by omega)).trans x6⟩, ⟨r1.mono (fun i hi => k1 i (by omega)) k2, k3, fun i hi => (r3 i hi).mono (fun j hj => k1 j (by omega)) k2⟩, o1, o2, o3, o4⟩
theorem XW.sS {E : gE} {w w' : gW} {im im' : gIm} {c : CSt} {R : Rz} {i : Int} (hi : 0 ≤ i ∧ i < 9) (h : XW E w im c) (k : RN E w im (11 + 5 * i.toNat) R w' im') : XN E w im (cSetH c (cx c) (ch c) (uI (cS c) i R)) w' im' := by
  obtain ⟨⟨hn, x0, x1, x2, x3, x4, x5, m, x6⟩, ⟨r1, r2, r3⟩, o1, o2, o3, o4⟩ := h
  obtain ⟨k1, k2, k3⟩ := k
  refine ⟨fun j hj => k1 j (by omega), k2, ⟨hn, (k1 0 (by omega)).trans x0, (k1 56 (by omega)).trans x1, (k1 57 (by omega)).trans x2, (k1 58 (by omega)).trans x3, (k1 59 (by omega)).trans x4, (k1 60 (by omega)).trans x5, m, (k1 61 (by omega)).trans x6⟩, ⟨r1.mono (fun i hi => k1 i (by omega)) k2, r2.mono (fun i hi => k1 i (by omega)) k2, fun j hj => ?_⟩, o1, o2, o3, o4⟩
  show RZ E w' im' (11 + 5 * j.toNat) (uI (cS c) i R j)
  by_cases e : j = i
  · rw [e, uI_s]; exact k3
  · rw [uI_n e]; exact (r3 j hj).mono (fun l hl => k1 l (by omega)) k2
theorem XW.sH {E : gE} {w w' : gW} {im : gIm} {c : CSt} {nx k : Int} (h : XW E w im c) (hs : w' 56 = hE E nx k) (hw : ∀ j, j ≠ 56 → w' j = w j) (h1 : 0 ≤ nx ∧ nx < 9) (h2 : 0 ≤ k ∧ k ≤ 8) : XN E w im (cSetH c nx k (cS c)) w' im := by
  obtain ⟨⟨hn, x0, x1, x2, x3, x4, x5, m, x6⟩, ⟨r1, r2, r3⟩, o1, o2, o3, o4⟩ := h
  exact ⟨fun j hj => hw j (by omega), fun _ _ h => h, ⟨hn, (hw 0 (by omega)).trans x0, hs, (hw 57 (by omega)).trans x2, (hw 58 (by omega)).trans x3, (hw 59 (by omega)).trans x4, (hw 60 (by omega)).trans x5, m, (hw 61 (by omega)).trans x6⟩, ⟨r1.mono (fun i hi => hw i (by omega)) fun _ _ h => h, r2.mono (fun i hi => hw i (by omega)) fun _ _ h => h, fun i hi => (r3 i hi).mono (fun j hj => hw j (by omega)) fun _ _ h => h⟩, h1, h2, o3, o4⟩
theorem XW.sF {E : gE} {w w' : gW} {im : gIm} {c : CSt} {f : Int × Int × Int × Int} (h : XW E w im c) (hs : w' 0 = xE E f) (hw : ∀ j, j ≠ 0 → w' j = w j) (hf : okF f) : XN E w im (cSetF c f) w' im := by
  obtain ⟨⟨hn, x0, x1, x2, x3, x4, x5, m, x6⟩, ⟨r1, r2, r3⟩, o1, o2, o3, o4⟩ := h
  exact ⟨fun j hj => hw j (by omega), fun _ _ h => h, ⟨hn, hs, (hw 56 (by omega)).trans x1, (hw 57 (by omega)).trans x2, (hw 58 (by omega)).trans x3, (hw 59 (by omega)).trans x4, (hw 60 (by omega)).trans x5, m, (hw 61 (by omega)).trans x6⟩, ⟨r1.mono (fun i hi => hw i (by omega)) fun _ _ h => h, r2.mono (fun i hi => hw i (by omega)) fun _ _ h => h, fun i hi => (r3 i hi).mono (fun j hj => hw j (by omega)) fun _ _ h => h⟩, o1, o2, hf, o4⟩
theorem XW.sT {E : gE} {w w' : gW} {im : gIm} {c : CSt} {t : Tx} (h : XW E w im c) (hs : w' 58 = tE E t) (hs2 : w' 59 = chE t) (hw : ∀ j, j ≠ 58 → j ≠ 59 → w' j = w j) (ht : okT t) : XN E w im (cSetT c t) w' im := by
  obtain ⟨⟨hn, x0, x1, x2, x3, x4, x5, m, x6⟩, ⟨r1, r2, r3⟩, o1, o2, o3, o4⟩ := h
  exact ⟨fun j hj => hw j (by omega) (by omega), fun _ _ h => h, ⟨hn, (hw 0 (by omega) (by omega)).trans x0, (hw 56 (by omega) (by omega)).trans x1, (hw 57 (by omega) (by omega)).trans x2, hs, hs2, (hw 60 (by omega) (by omega)).trans x5, m, (hw 61 (by omega) (by omega)).trans x6⟩, ⟨r1.mono (fun i hi => hw i (by omega) (by omega)) fun _ _ h => h, r2.mono (fun i hi => hw i (by omega) (by omega)) fun _ _ h => h, fun i hi => (r3 i hi).mono (fun j hj => hw j (by omega) (by omega)) fun _ _ h => h⟩, o1, o2, o3, ht⟩
theorem XW.sM {E : gE} {w w' : gW} {im : gIm} {c : CSt} {m : Int → Int} (h : XW E w im c) (hs : w' 61 = intE 4 m) (hw : ∀ j, j ≠ 61 → w' j = w j) : XN E w im c w' im := by
  obtain ⟨⟨hn, x0, x1, x2, x3, x4, x5, _, _⟩, ⟨r1, r2, r3⟩, o1, o2, o3, o4⟩ := h
  exact ⟨fun j hj => hw j (by omega), fun _ _ h => h, ⟨hn, (hw 0 (by omega)).trans x0, (hw 56 (by omega)).trans x1, (hw 57 (by omega)).trans x2, (hw 58 (by omega)).trans x3, (hw 59 (by omega)).trans x4, (hw 60 (by omega)).trans x5, m, hs⟩, ⟨r1.mono (fun i hi => hw i (by omega)) fun _ _ h => h, r2.mono (fun i hi => hw i (by omega)) fun _ _ h => h, fun i hi => (r3 i hi).mono (fun j hj => hw j (by omega)) fun _ _ h => h⟩, o1, o2, o3, o4⟩

theorem c_H_nextPlace {E : gE} {w : gW} {im : gIm} {Q : gQ} {c : CSt} (hx : XW E w im c) (hQ : Q (.inl (some (.ref (gad E (11 + 5 * (cx c).toNat))))) w im) : GM E 0 y_H_nextPlace m_H_nextPlace 0 0 [.ref (gad E 56)] w im Q := by
  have hx9 := hx
  obtain ⟨⟨hn, x0, x1, x2, x3, x4, x5, m61, x6⟩, ⟨r1, r2, r3⟩, o1, o2, o3, o4⟩ := hx9
  have k0 : g_cell E w im (gad E 0) _ := g_mut 0 (by omega) x0
  have k1 : g_cell E w im (gad E 56) _ := g_mut 56 (by omega) x1
  have k2 : g_cell E w im (gad E 57) _ := g_mut 57 (by omega) x2
  have k3 : g_cell E w im (gad E 58) _ := g_mut 58 (by omega) x3
  have k4 : g_cell E w im (gad E 59) _ := g_mut 59 (by omega) x4
  have k5 : g_cell E w im (gad E 60) _ := g_mut 60 (by omega) x5
  have k6 : g_cell E w im (gad E 61) _ := g_mut 61 (by omega) x6
  have kn := r1.cell
  have kk := r2.cell
  refine g_enter (by decide) rfl rfl (fun h => by first | rfl | cases h) (Nat.le_of_ble_eq_true rfl) rfl ?_
  refine g_aload_n (n := 0) (i := 0) rfl rfl d_H_nextPlace_0 ?_
  refine g_getfield 2 1 f_H_17 (by assumption) (by rfl) d_H_nextPlace_1 ?_
  refine g_if_lt_i (tgt := 31) (by omega) d_H_nextPlace_4 (by decide) (fun h => by exfalso; omega) (fun h4 => ?_)
  refine g_aload_n (n := 0) (i := 0) rfl rfl d_H_nextPlace_7 ?_
  refine g_getfield 2 1 f_H_17 (by assumption) (by rfl) d_H_nextPlace_8 ?_
  refine g_aload_n (n := 0) (i := 0) rfl rfl d_H_nextPlace_11 ?_
  refine g_getfield 2 0 f_H_11 (by assumption) (by rfl) d_H_nextPlace_12 ?_
  refine g_alen_i (by assumption) (by decide) d_H_nextPlace_15 ?_
  refine g_icmp_ge_i (tgt := 31) (by omega) (by omega) d_H_nextPlace_16 (by decide) (fun h => by exfalso; omega) (fun h16 => ?_)
  refine g_aload_n (n := 0) (i := 0) rfl rfl d_H_nextPlace_19 ?_
  refine g_getfield 2 0 f_H_11 (by assumption) (by rfl) d_H_nextPlace_20 ?_
  refine g_aload_n (n := 0) (i := 0) rfl rfl d_H_nextPlace_23 ?_
  refine g_getfield 2 1 f_H_17 (by assumption) (by rfl) d_H_nextPlace_24 ?_
  refine g_aaload_i (t := 7) (n := 9) (r := fun i => some (gad E (11 + 5 * i.toNat))) k2 (by decide) (by rfl) (by omega) (by omega) (by rfl) (by rfl) d_H_nextPlace_27 ?_
  refine g_goto (tgt := 32) (by decide) d_H_nextPlace_28 ?_
  refine g_areturn rfl (Or.inl ⟨_, rfl⟩) (Or.inr ⟨_, rfl⟩) d_H_nextPlace_32 ?_
  exact hQ

theorem c_H_keep {E : gE} {w : gW} {im : gIm} {Q : gQ} {c : CSt} (hx : XW E w im c) (hQ : ∀ w' im', XN E w im (cSetH c (cx c) (ch c) (uI (cS c) (cx c) (cN c))) w' im' → Q (.inl none) w' im') : GM E 1 y_H_keep m_H_keep 0 0 [.ref (gad E 56), .ref (gad E 1)] w im Q := by
  have hx9 := hx
  obtain ⟨⟨hn, x0, x1, x2, x3, x4, x5, m61, x6⟩, ⟨r1, r2, r3⟩, o1, o2, o3, o4⟩ := hx9
  have k0 : g_cell E w im (gad E 0) _ := g_mut 0 (by omega) x0
  have k1 : g_cell E w im (gad E 56) _ := g_mut 56 (by omega) x1
  have k2 : g_cell E w im (gad E 57) _ := g_mut 57 (by omega) x2
  have k3 : g_cell E w im (gad E 58) _ := g_mut 58 (by omega) x3
  have k4 : g_cell E w im (gad E 59) _ := g_mut 59 (by omega) x4
  have k5 : g_cell E w im (gad E 60) _ := g_mut 60 (by omega) x5
  have k6 : g_cell E w im (gad E 61) _ := g_mut 61 (by omega) x6
  have kn := r1.cell
  have kk := r2.cell
  refine g_enter (by decide) rfl rfl (fun h => by first | rfl | cases h) (Nat.le_of_ble_eq_true rfl) rfl ?_
  refine g_aload_n (n := 0) (i := 0) rfl rfl d_H_keep_0 ?_
  refine g_callV0 rfl rfl e_H_nextPlace l_H_32 iv_H_nextPlace 2 (by decide) rfl (by assumption) (by decide) (Nat.zero_le _) (Nat.zero_le _) (Nat.le_of_ble_eq_true rfl) d_H_keep_1 (c_H_nextPlace (by assumption) ?_)
  refine g_ret ?_
  refine g_astore_n (n := 2) (i := 2) rfl (by decide) rfl d_H_keep_4 ?_
  refine g_aload_n (n := 2) (i := 2) rfl rfl d_H_keep_5 ?_
  refine g_ifnull d_H_keep_6 ?_
  refine g_aload_n (n := 2) (i := 2) rfl rfl d_H_keep_9 ?_
  refine g_aload_n (n := 1) (i := 1) rfl rfl d_H_keep_10 ?_
  refine g_callV1 rfl rfl e_R_copyFrom l_H_36 iv_R_copyFrom 1 (by decide) rfl (r3 (cx c) o1).cell (by decide) (Nat.zero_le _) (Nat.zero_le _) (Nat.le_of_ble_eq_true rfl) d_H_keep_11 (c_R_copyFrom (r3 (cx c) o1) r1 (by omega) (fun w im hN => ?_))
  refine g_retv ?_
  refine g_return rfl d_H_keep_14 ?_
  exact hQ _ _ (hx.sS o1 hN)

def cNx (c : CSt) : Int := if cx c + 1 < 9 then cx c + 1 else 0
def cCh (c : CSt) : Int := if ch c + 1 ≤ 8 then ch c + 1 else 8
def cPx (c : CSt) : Int := if 0 < cx c then cx c - 1 else 8

theorem c_H_commit {E : gE} {w : gW} {im : gIm} {Q : gQ} {c : CSt} (hx : XW E w im c) (hQ : ∀ w' im', XN E w im (cSetH c (cNx c) (cCh c) (cS c)) w' im' → Q (.inl none) w' im') : GM E 0 y_H_commit m_H_commit 0 0 [.ref (gad E 56)] w im Q := by
  have hx9 := hx
  obtain ⟨⟨hn, x0, x1, x2, x3, x4, x5, m61, x6⟩, ⟨r1, r2, r3⟩, o1, o2, o3, o4⟩ := hx9
  have k0 : g_cell E w im (gad E 0) _ := g_mut 0 (by omega) x0
  have k1 : g_cell E w im (gad E 56) _ := g_mut 56 (by omega) x1
  have k2 : g_cell E w im (gad E 57) _ := g_mut 57 (by omega) x2
  have k3 : g_cell E w im (gad E 58) _ := g_mut 58 (by omega) x3
  have k4 : g_cell E w im (gad E 59) _ := g_mut 59 (by omega) x4
  have k5 : g_cell E w im (gad E 60) _ := g_mut 60 (by omega) x5
  have k6 : g_cell E w im (gad E 61) _ := g_mut 61 (by omega) x6
  have kn := r1.cell
  have kk := r2.cell
  by_cases hc : cx c + 1 < 9
  · have hnx : cNx c = cx c + 1 := by unfold cNx; first | rw [if_pos hc] | rw [if_neg hc]
    refine g_enter (by decide) rfl rfl (fun h => by first | rfl | cases h) (Nat.le_of_ble_eq_true rfl) rfl ?_
    refine g_aload_n (n := 0) (i := 0) rfl rfl d_H_commit_0 ?_
    refine g_aload_n (n := 0) (i := 0) rfl rfl d_H_commit_1 ?_
    refine g_getfield 2 1 f_H_17 (by assumption) (by rfl) d_H_commit_2 ?_
    refine g_iconst_i d_H_commit_5 ?_
    refine g_iadd_i d_H_commit_6 ?_
    refine g_aload_n (n := 0) (i := 0) rfl rfl d_H_commit_7 ?_
    refine g_getfield 2 0 f_H_11 (by assumption) (by rfl) d_H_commit_8 ?_
    refine g_alen_i (by assumption) (by decide) d_H_commit_11 ?_
    refine g_icmp_ge_i (tgt := 24) (by first | omega | ((repeat' split) <;> omega)) (by first | omega | ((repeat' split) <;> omega)) d_H_commit_12 (by decide) (fun h => by exfalso; omega) (fun h12 => ?_)
    refine g_aload_n (n := 0) (i := 0) rfl rfl d_H_commit_15 ?_
    refine g_getfield 2 1 f_H_17 (by assumption) (by rfl) d_H_commit_16 ?_
    refine g_iconst_i d_H_commit_19 ?_
    refine g_iadd_i d_H_commit_20 ?_
    refine g_goto (tgt := 25) (by decide) d_H_commit_21 ?_
    refine g_putA 2 1 56 (by omega) x1 f_H_17 (Or.inl rfl) (by rfl) (by rfl) (Nat.le_of_ble_eq_true rfl) d_H_commit_25 (fun w hs hn9 => ?_)
    have x1 : w 56 = hE E (cx c + 1) (ch c) := hs
    have hw := hn9
    have k1 : g_cell E w im (gad E 56) _ := g_mut 56 (by omega) x1
    have k2 : g_cell E w im (gad E 57) _ := g_mut 57 (by omega) ((hn9 57 (by omega)).trans x2)
    refine g_aload_n (n := 0) (i := 0) rfl rfl d_H_commit_28 ?_
    refine g_aload_n (n := 0) (i := 0) rfl rfl d_H_commit_29 ?_
    refine g_getfield 2 2 f_H_21 (by assumption) (by rfl) d_H_commit_30 ?_
    refine g_iconst_i d_H_commit_33 ?_
    refine g_iadd_i d_H_commit_34 ?_
    refine g_bipush_i (by decide) d_H_commit_35 ?_
    refine g_mmin_i l_H_39 x_min.1 x_min.2.1 x_min.2.2 (Nat.le_of_ble_eq_true rfl) (by first | omega | ((repeat' split) <;> omega)) (by first | omega | ((repeat' split) <;> omega)) d_H_commit_37 ?_
    refine g_putA 2 2 56 (by omega) x1 f_H_21 (Or.inl rfl) (by rfl) (by rfl) (Nat.le_of_ble_eq_true rfl) d_H_commit_40 (fun w hs hn9 => ?_)
    refine g_return rfl d_H_commit_43 ?_
    refine hQ _ im (hx.sH (hs.trans ?_) (fun j hj => (hn9 j hj).trans (hw j hj)) ?_ ?_)
    · simp only [hE, hnx, cCh]
      have he : (if 8 < ch c + 1 then 8 else ch c + 1) = (if ch c + 1 ≤ 8 then ch c + 1 else 8) := by (repeat' split) <;> omega
      first | (rw [← he]; rfl) | (rw [he]; rfl) | rfl
    · rw [hnx]; omega
    · unfold cCh; split <;> omega
  · have hnx : cNx c = 0 := by unfold cNx; first | rw [if_pos hc] | rw [if_neg hc]
    refine g_enter (by decide) rfl rfl (fun h => by first | rfl | cases h) (Nat.le_of_ble_eq_true rfl) rfl ?_
    refine g_aload_n (n := 0) (i := 0) rfl rfl d_H_commit_0 ?_
    refine g_aload_n (n := 0) (i := 0) rfl rfl d_H_commit_1 ?_
    refine g_getfield 2 1 f_H_17 (by assumption) (by rfl) d_H_commit_2 ?_
    refine g_iconst_i d_H_commit_5 ?_
    refine g_iadd_i d_H_commit_6 ?_
    refine g_aload_n (n := 0) (i := 0) rfl rfl d_H_commit_7 ?_
    refine g_getfield 2 0 f_H_11 (by assumption) (by rfl) d_H_commit_8 ?_
    refine g_alen_i (by assumption) (by decide) d_H_commit_11 ?_
    refine g_icmp_ge_i (tgt := 24) (by first | omega | ((repeat' split) <;> omega)) (by first | omega | ((repeat' split) <;> omega)) d_H_commit_12 (by decide) (fun h12 => ?_) (fun h => by exfalso; omega)
    refine g_iconst_i d_H_commit_24 ?_
    refine g_putA 2 1 56 (by omega) x1 f_H_17 (Or.inl rfl) (by rfl) (by rfl) (Nat.le_of_ble_eq_true rfl) d_H_commit_25 (fun w hs hn9 => ?_)
    have x1 : w 56 = hE E (0) (ch c) := hs
    have hw := hn9
    have k1 : g_cell E w im (gad E 56) _ := g_mut 56 (by omega) x1
    have k2 : g_cell E w im (gad E 57) _ := g_mut 57 (by omega) ((hn9 57 (by omega)).trans x2)
    refine g_aload_n (n := 0) (i := 0) rfl rfl d_H_commit_28 ?_
    refine g_aload_n (n := 0) (i := 0) rfl rfl d_H_commit_29 ?_
    refine g_getfield 2 2 f_H_21 (by assumption) (by rfl) d_H_commit_30 ?_
    refine g_iconst_i d_H_commit_33 ?_
    refine g_iadd_i d_H_commit_34 ?_
    refine g_bipush_i (by decide) d_H_commit_35 ?_
    refine g_mmin_i l_H_39 x_min.1 x_min.2.1 x_min.2.2 (Nat.le_of_ble_eq_true rfl) (by first | omega | ((repeat' split) <;> omega)) (by first | omega | ((repeat' split) <;> omega)) d_H_commit_37 ?_
    refine g_putA 2 2 56 (by omega) x1 f_H_21 (Or.inl rfl) (by rfl) (by rfl) (Nat.le_of_ble_eq_true rfl) d_H_commit_40 (fun w hs hn9 => ?_)
    refine g_return rfl d_H_commit_43 ?_
    refine hQ _ im (hx.sH (hs.trans ?_) (fun j hj => (hn9 j hj).trans (hw j hj)) ?_ ?_)
    · simp only [hE, hnx, cCh]
      have he : (if 8 < ch c + 1 then 8 else ch c + 1) = (if ch c + 1 ≤ 8 then ch c + 1 else 8) := by (repeat' split) <;> omega
      first | (rw [← he]; rfl) | (rw [he]; rfl) | rfl
    · rw [hnx]; omega
    · unfold cCh; split <;> omega


theorem c_H_record {E : gE} {w : gW} {im : gIm} {Q : gQ} {c : CSt} (hx : XW E w im c) (hQ : ∀ w' im', XN E w im (cSetH c (cNx c) (cCh c) (uI (cS c) (cx c) (cN c))) w' im' → Q (.inl none) w' im') : GM E 2 y_H_record m_H_record 0 0 [.ref (gad E 56), .ref (gad E 1)] w im Q := by
  have hx9 := hx
  obtain ⟨⟨hn, x0, x1, x2, x3, x4, x5, m61, x6⟩, ⟨r1, r2, r3⟩, o1, o2, o3, o4⟩ := hx9
  have k0 : g_cell E w im (gad E 0) _ := g_mut 0 (by omega) x0
  have k1 : g_cell E w im (gad E 56) _ := g_mut 56 (by omega) x1
  have k2 : g_cell E w im (gad E 57) _ := g_mut 57 (by omega) x2
  have k3 : g_cell E w im (gad E 58) _ := g_mut 58 (by omega) x3
  have k4 : g_cell E w im (gad E 59) _ := g_mut 59 (by omega) x4
  have k5 : g_cell E w im (gad E 60) _ := g_mut 60 (by omega) x5
  have k6 : g_cell E w im (gad E 61) _ := g_mut 61 (by omega) x6
  have kn := r1.cell
  have kk := r2.cell
  refine g_enter (by decide) rfl rfl (fun h => by first | rfl | cases h) (Nat.le_of_ble_eq_true rfl) rfl ?_
  refine g_aload_n (n := 0) (i := 0) rfl rfl d_H_record_0 ?_
  refine g_aload_n (n := 1) (i := 1) rfl rfl d_H_record_1 ?_
  refine g_callV1 rfl rfl e_H_keep l_H_25 iv_H_keep 2 (by decide) rfl (by assumption) (by decide) (Nat.zero_le _) (Nat.zero_le _) (Nat.le_of_ble_eq_true rfl) d_H_record_2 (c_H_keep (by assumption) (fun w im hN => ?_))
  refine g_retv ?_
  have hx := hN.2.2
  refine g_aload_n (n := 0) (i := 0) rfl rfl d_H_record_5 ?_
  refine g_callV0 rfl rfl e_H_commit l_H_29 iv_H_commit 2 (by decide) rfl (g_mut 56 (by omega) hx.1.2.2.1) (by decide) (Nat.zero_le _) (Nat.zero_le _) (Nat.le_of_ble_eq_true rfl) d_H_record_6 (c_H_commit (by assumption) (fun w im hN2 => ?_))
  refine g_retv ?_
  have hx := hN2.2.2
  refine g_return rfl d_H_record_9 ?_
  exact hQ _ _ (hN.trans hN2)

theorem c_H_forget {E : gE} {w : gW} {im : gIm} {Q : gQ} {c : CSt} (hx : XW E w im c) (hQ : ∀ w' im', XN E w im (cSetH c (cx c) 0 (cS c)) w' im' → Q (.inl none) w' im') : GM E 0 y_H_forget m_H_forget 0 0 [.ref (gad E 56)] w im Q := by
  have hx9 := hx
  obtain ⟨⟨hn, x0, x1, x2, x3, x4, x5, m61, x6⟩, ⟨r1, r2, r3⟩, o1, o2, o3, o4⟩ := hx9
  have k0 : g_cell E w im (gad E 0) _ := g_mut 0 (by omega) x0
  have k1 : g_cell E w im (gad E 56) _ := g_mut 56 (by omega) x1
  have k2 : g_cell E w im (gad E 57) _ := g_mut 57 (by omega) x2
  have k3 : g_cell E w im (gad E 58) _ := g_mut 58 (by omega) x3
  have k4 : g_cell E w im (gad E 59) _ := g_mut 59 (by omega) x4
  have k5 : g_cell E w im (gad E 60) _ := g_mut 60 (by omega) x5
  have k6 : g_cell E w im (gad E 61) _ := g_mut 61 (by omega) x6
  have kn := r1.cell
  have kk := r2.cell
  refine g_enter (by decide) rfl rfl (fun h => by first | rfl | cases h) (Nat.le_of_ble_eq_true rfl) rfl ?_
  refine g_aload_n (n := 0) (i := 0) rfl rfl d_H_forget_0 ?_
  refine g_iconst_i d_H_forget_1 ?_
  refine g_putA 2 2 56 (by omega) x1 f_H_21 (Or.inl rfl) (by rfl) (by rfl) (Nat.le_of_ble_eq_true rfl) d_H_forget_2 (fun w hs hn9 => ?_)
  
  refine g_return rfl d_H_forget_5 ?_
  exact hQ _ _ (hx.sH hs hn9 o1 (by omega))

theorem c_H_bringBack {E : gE} {w : gW} {im : gIm} {Q : gQ} {c : CSt} (hx : XW E w im c) (hQ : ∀ w' im', XN E w im (cSetN c (cS c (cx c))) w' im' → Q (.inl none) w' im') : GM E 1 y_H_bringBack m_H_bringBack 0 0 [.ref (gad E 56), .ref (gad E 1)] w im Q := by
  have hx9 := hx
  obtain ⟨⟨hn, x0, x1, x2, x3, x4, x5, m61, x6⟩, ⟨r1, r2, r3⟩, o1, o2, o3, o4⟩ := hx9
  have k0 : g_cell E w im (gad E 0) _ := g_mut 0 (by omega) x0
  have k1 : g_cell E w im (gad E 56) _ := g_mut 56 (by omega) x1
  have k2 : g_cell E w im (gad E 57) _ := g_mut 57 (by omega) x2
  have k3 : g_cell E w im (gad E 58) _ := g_mut 58 (by omega) x3
  have k4 : g_cell E w im (gad E 59) _ := g_mut 59 (by omega) x4
  have k5 : g_cell E w im (gad E 60) _ := g_mut 60 (by omega) x5
  have k6 : g_cell E w im (gad E 61) _ := g_mut 61 (by omega) x6
  have kn := r1.cell
  have kk := r2.cell
  refine g_enter (by decide) rfl rfl (fun h => by first | rfl | cases h) (Nat.le_of_ble_eq_true rfl) rfl ?_
  refine g_aload_n (n := 0) (i := 0) rfl rfl d_H_bringBack_0 ?_
  refine g_callV0 rfl rfl e_H_nextPlace l_H_32 iv_H_nextPlace 2 (by decide) rfl (by assumption) (by decide) (Nat.zero_le _) (Nat.zero_le _) (Nat.le_of_ble_eq_true rfl) d_H_bringBack_1 (c_H_nextPlace (by assumption) ?_)
  refine g_ret ?_
  refine g_astore_n (n := 2) (i := 2) rfl (by decide) rfl d_H_bringBack_4 ?_
  refine g_aload_n (n := 2) (i := 2) rfl rfl d_H_bringBack_5 ?_
  refine g_ifnull d_H_bringBack_6 ?_
  refine g_aload_n (n := 1) (i := 1) rfl rfl d_H_bringBack_9 ?_
  refine g_aload_n (n := 2) (i := 2) rfl rfl d_H_bringBack_10 ?_
  refine g_callV1 rfl rfl e_R_copyFrom l_H_36 iv_R_copyFrom 1 (by decide) rfl (by assumption) (by decide) (Nat.zero_le _) (Nat.zero_le _) (Nat.le_of_ble_eq_true rfl) d_H_bringBack_11 (c_R_copyFrom r1 (r3 (cx c) o1) (by omega) (fun w im hN => ?_))
  refine g_retv ?_
  refine g_return rfl d_H_bringBack_14 ?_
  exact hQ _ _ (hx.sN hN)

