/-! ===== read: coupled ===== -/
theorem frO_or {n : Nat} {k : Int} {t : Tx} {R : Rz} : to' (frO n k t R).2.1 = to' t ∧ tl (frO n k t R).2.1 = tl t ∧ ts (frO n k t R).2.1 = ts t := by
  induction n generalizing k t R with
  | zero => exact ⟨rfl, rfl, rfl⟩
  | succ n ih =>
    have h := rdOrder_or (t := t)
    rw [frO]
    split
    · split
      · split
        · have := ih (k := k + 1) (t := tSk (rdOrder t).2) (R := (ordZ R (tc (rdOrder t).2) (tn (rdOrder t).2) (tt (rdOrder t).2)).2)
          exact ⟨this.1.trans h.1, this.2.1.trans h.2.1, this.2.2.trans h.2.2⟩
        · have := ih (k := k + 1) (t := (rdOrder t).2) (R := (ordZ R (tc (rdOrder t).2) (tn (rdOrder t).2) (tt (rdOrder t).2)).2)
          exact ⟨this.1.trans h.1, this.2.1.trans h.2.1, this.2.2.trans h.2.2⟩
      · exact h
    · exact h
def aRead (c : CSt) : Int × Int := if (rd1 c).1 = -1 then (if (fr2 c).1 = -1 then (0, to' (rd1 c).2) else (2, 0)) else (1, 0)
theorem A_read {c : CSt} : An sIA sUO (eRead c).1 (aRead c) := by
  unfold eRead aRead
  by_cases h1 : (rd1 c).1 = -1
  · rw [if_pos h1, if_pos h1]
    by_cases h2 : (fr2 c).1 = -1
    · rw [if_pos h2, if_pos h2]
      exact an0 (frO_or.1)
    · rw [if_neg h2, if_neg h2]; exact an2
  · rw [if_neg h1, if_neg h1]; exact an1
theorem rd1_ts {c : CSt} : ts (rd1 c).2 = ts (cT c) := (rdAll_ts (n := 60) (t := tOr (tP (cT c) 0) 0)).2
theorem fr2_ts {c : CSt} : ts (fr2 c).2.1 = ts (cT c) := (frO_or (n := (to' (rd1 c).2).toNat) (k := 0) (t := tP (rd1 c).2 0) (R := cN c)).2.2.trans rd1_ts
theorem chE_ts {t u : Tx} (h : ts t = ts u) : chE t = chE u := by
  unfold chE
  rw [h]
theorem Cp.read1 {E : gE} {w w1 w2 : gW} {im im1 : gIm} {c : CSt} {f f' : Nat → Int} {m pa sv : Int → Int} {n : Int} (h : Cp E w im c f m pa sv n) (h1 : (rd1 c).1 ≠ -1) (hL : LX E w im (eRead c).2 w1 im1) {g : Nat → Int64} (h68 : w1 68 = lgE g) {gd : Nat → UInt64} (h69 : w1 69 = dbE gd) (hM : MR E w2 f' m) (m8 : f' 8 = (rd1 c).1) (m11 : f' 11 = 0) (mf : ∀ i, i < 12 → i ≠ 6 → i ≠ 8 → i ≠ 11 → f' i = f i) (hw : ∀ j, j ≠ 62 → w2 j = w1 j) : Cp E w2 im1 (eRead c).2 f' m pa sv (n + 1) ∧ w2 68 = lgE g ∧ w2 69 = dbE gd := by
  obtain ⟨b, d, e, ⟨tr, g6⟩, i⟩ := h.mid hL
  obtain ⟨q1, q2, q3, q4, q5, q6, q7⟩ := h.2.2.2.2.2.2.2.2.mono (show n ≤ n + 1 by omega)
  have hc : (eRead c).2 = cSetT (cSetF (c1R c) ((cF c).1, (cF c).2.1, (rd1 c).1, (cF c).2.2.2)) (tLn (rd1 c).2 0) := by unfold eRead; rw [if_neg h1]
  rw [hc] at hL ⊢
  refine ⟨⟨hL.2.2.frame (fun j hj => hw j (by omega)), hM, (hw 64 (by decide)).trans d, (hw 65 (by decide)).trans e, ⟨tr, (hw 66 (by decide)).trans g6⟩, (hw 67 (by decide)).trans (i.trans (chE_ts rd1_ts.symm)), ⟨g, (hw 68 (by decide)).trans h68⟩, ⟨gd, (hw 69 (by decide)).trans h69⟩, ?_⟩, (hw 68 (by decide)).trans h68, (hw 69 (by decide)).trans h69⟩
  exact ⟨q1, ⟨(mf 2 (by decide) (by decide) (by decide) (by decide)).trans q2.1, q2.2⟩, ⟨(mf 4 (by decide) (by decide) (by decide) (by decide)).trans q3.1, q3.2⟩, ⟨(mf 7 (by decide) (by decide) (by decide) (by decide)).trans q4.1, by rw [mf 7 (by decide) (by decide) (by decide) (by decide)]; exact q4.2⟩, m8, (mf 9 (by decide) (by decide) (by decide) (by decide)).trans q6, m11⟩
theorem Cp.read2 {E : gE} {w w1 w2 : gW} {im im1 : gIm} {c : CSt} {f f' : Nat → Int} {m pa sv : Int → Int} {n : Int} (h : Cp E w im c f m pa sv n) (h1 : (rd1 c).1 = -1) (h2 : (fr2 c).1 ≠ -1) (hL : LX E w im (eRead c).2 w1 im1) {g : Nat → Int64} (h68 : w1 68 = lgE g) {gd : Nat → UInt64} (h69 : w1 69 = dbE gd) (hM : MR E w2 f' m) (m9 : f' 9 = (fr2 c).1) (m11 : f' 11 = 0) (mf : ∀ i, i < 12 → i ≠ 6 → i ≠ 9 → i ≠ 11 → f' i = f i) (h66 : ∃ tr, w2 66 = intE 3561 tr) (hw : ∀ j, j ≠ 62 → j ≠ 63 → j ≠ 66 → w2 j = w1 j) : Cp E w2 im1 (eRead c).2 f' m pa sv (n + 1) ∧ w2 68 = lgE g ∧ w2 69 = dbE gd := by
  obtain ⟨b, d, e, ⟨tr, g6⟩, i⟩ := h.mid hL
  have hX := h.1.2.2
  have hx1 := hX.1
  have hx2 := hX.2.1
  obtain ⟨q1, q2, q3, q4, q5, q6, q7⟩ := h.2.2.2.2.2.2.2.2.mono (show n ≤ n + 1 by omega)
  have hc : (eRead c).2 = cSetF (cSetN (c4R c) (cN c)) ((cF c).1, (cF c).2.1, (cF c).2.2.1, (fr2 c).1) := by unfold eRead; rw [if_pos h1, if_neg h2]
  rw [hc] at hL ⊢
  refine ⟨⟨hL.2.2.frame (fun j hj => hw j (by omega) (by omega) (by omega)), hM, (hw 64 (by decide) (by decide) (by decide)).trans d, (hw 65 (by decide) (by decide) (by decide)).trans e, h66, (hw 67 (by decide) (by decide) (by decide)).trans (i.trans (chE_ts fr2_ts.symm)), ⟨g, (hw 68 (by decide) (by decide) (by decide)).trans h68⟩, ⟨gd, (hw 69 (by decide) (by decide) (by decide)).trans h69⟩, ?_⟩, (hw 68 (by decide) (by decide) (by decide)).trans h68, (hw 69 (by decide) (by decide) (by decide)).trans h69⟩
  refine ⟨q1, ⟨(mf 2 (by decide) (by decide) (by decide) (by decide)).trans q2.1, fun k hk => ?_⟩, ⟨(mf 4 (by decide) (by decide) (by decide) (by decide)).trans q3.1, q3.2⟩, ⟨(mf 7 (by decide) (by decide) (by decide) (by decide)).trans q4.1, by rw [mf 7 (by decide) (by decide) (by decide) (by decide)]; exact q4.2⟩, (mf 8 (by decide) (by decide) (by decide) (by decide)).trans q5, m9, m11⟩
  have hk : 0 ≤ k ∧ k < ch c := hk
  show Rw (rowP pa k) (uI (cS c) (cx c) (cN c) (plc c k)) (n + 1)
  rw [uI_n (by unfold plc; omega)]
  exact q2.2 k hk
theorem Cp.read3 {E : gE} {w w1 w2 : gW} {im im1 : gIm} {c : CSt} {f f' : Nat → Int} {m m' pa p' sv : Int → Int} {n : Int} (h : Cp E w im c f m pa sv n) (h1 : (rd1 c).1 = -1) (h2 : (fr2 c).1 = -1) (hL : LX E w im (eRead c).2 w1 im1) {g : Nat → Int64} (h68 : w1 68 = lgE g) {gd : Nat → UInt64} (h69 : w1 69 = dbE gd) (hM : MR E w2 f' m') (ok' : okM m') (hz' : MZ m' (fr2 c).2.2) (e4 : m' 4 = m 4) (m11 : f' 11 = 0) (m2 : f' 2 = nxM (f 2)) (mf : ∀ i, i < 12 → i ≠ 6 → i ≠ 11 → i ≠ 2 → f' i = f i) (h64 : w2 64 = intE 28488 p') (hR : RM (f 2) pa m p') (h66 : ∃ tr, w2 66 = intE 3561 tr) (hw : ∀ j, j ≠ 62 → j ≠ 63 → j ≠ 64 → j ≠ 66 → w2 j = w1 j) : Cp E w2 im1 (eRead c).2 f' m' p' sv (n + 1) ∧ w2 68 = lgE g ∧ w2 69 = dbE gd := by
  obtain ⟨b, d, e, ⟨tr, g6⟩, i⟩ := h.mid hL
  have hX := h.1.2.2
  obtain ⟨q1, q2, q3, q4, q5, q6, q7⟩ := h.2.2.2.2.2.2.2.2.mono (show n ≤ n + 1 by omega)
  have hc : (eRead c).2 = cSetH (c4R c) (cNx c) (cCh c) (uI (cS c) (cx c) (cN c)) := by unfold eRead; rw [if_pos h1, if_pos h2]
  rw [hc] at hL ⊢
  rw [q2.1] at m2 hR
  have hh := hist_rec ⟨hX.1, hX.2.1⟩ q1 q2.2 hR
  refine ⟨⟨hL.2.2.frame (fun j hj => hw j (by omega) (by omega) (by omega) (by omega)), hM, h64, (hw 65 (by decide) (by decide) (by decide) (by decide)).trans e, h66, (hw 67 (by decide) (by decide) (by decide) (by decide)).trans (i.trans (chE_ts fr2_ts.symm)), ⟨g, (hw 68 (by decide) (by decide) (by decide) (by decide)).trans h68⟩, ⟨gd, (hw 69 (by decide) (by decide) (by decide) (by decide)).trans h69⟩, ?_⟩, (hw 68 (by decide) (by decide) (by decide) (by decide)).trans h68, (hw 69 (by decide) (by decide) (by decide) (by decide)).trans h69⟩
  have h4 := q1.2.2
  exact ⟨⟨ok', hz', by omega⟩, ⟨m2.trans hh.1, hh.2⟩, ⟨(mf 4 (by decide) (by decide) (by decide) (by decide)).trans q3.1, q3.2⟩, ⟨(mf 7 (by decide) (by decide) (by decide) (by decide)).trans q4.1, by rw [mf 7 (by decide) (by decide) (by decide) (by decide)]; exact q4.2⟩, (mf 8 (by decide) (by decide) (by decide) (by decide)).trans q5, (mf 9 (by decide) (by decide) (by decide) (by decide)).trans q6, m11⟩
