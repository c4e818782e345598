/-! ===== clear, pass, undo, snapshot, restore, append: coupled ===== -/
theorem LX.of {E : gE} {w w1 : gW} {im im1 : gIm} {c : CSt} (h : XN E w im c w1 im1) : LX E w im c w1 im1 := ⟨fun j h1 _ _ => h.1 j h1, h.2.1, h.2.2⟩
theorem Rw.nn {m : Int → Int} {R : Rz} {n : Int} (h : Rw m R n) : 0 ≤ n := Int.le_trans h.1.2.2.2.2.1.1 h.2.2
theorem rw_nil {n : Int} (h : 0 ≤ n) : Rw mNil zEmpty n := ⟨K_nil.1, K_nil.2, by rw [mNil_n (by decide)]; exact h⟩
theorem Cp.clear {E : gE} {w w1 w2 : gW} {im im1 : gIm} {c : CSt} {f : Nat → Int} {m pa sv : Int → Int} {n : Int} (h : Cp E w im c f m pa sv n) (hL : LX E w im (eClear c).2 w1 im1) (h69 : w1 69 = w 69) (h68 : w1 68 = w 68) (hM : MR E w2 (fU (fU (fU f 6 0) 2 0) 7 0) (uI (cpy (fun _ => 0) m 3561) 0 480)) (hw : ∀ j, j ≠ 62 → j ≠ 63 → w2 j = w1 j) : ∃ f' m', Cp E w2 im1 (eClear c).2 f' m' pa sv (n + 1) := by
  obtain ⟨b, d, e, ⟨tr, g6⟩, i⟩ := h.mid hL
  obtain ⟨g, hg⟩ := h.2.2.2.2.2.2.1
  obtain ⟨gd, hgd⟩ := h.2.2.2.2.2.2.2.1
  obtain ⟨q1, q2, q3, q4, q5, q6, q7⟩ := h.2.2.2.2.2.2.2.2.mono (show n ≤ n + 1 by omega)
  rw [clr_nil q1.2.1] at hM
  refine ⟨_, _, hL.2.2.frame (fun j hj => hw j (by omega) (by omega)), hM, (hw 64 (by decide) (by decide)).trans d, (hw 65 (by decide) (by decide)).trans e, ⟨tr, (hw 66 (by decide) (by decide)).trans g6⟩, (hw 67 (by decide) (by decide)).trans i, ⟨g, (hw 68 (by decide) (by decide)).trans (h68.trans hg)⟩, ⟨gd, (hw 69 (by decide) (by decide)).trans (h69.trans hgd)⟩, ?_⟩
  exact ⟨rw_nil q1.nn, ⟨rfl, fun k hk => by have h9 : 0 ≤ k ∧ k < 0 := hk; omega⟩, ⟨q3.1, q3.2⟩, ⟨rfl, Or.inl rfl⟩, q5, q6, q7⟩
noncomputable def aPass (c : CSt) (m : Int → Int) (x y : Int) : Int × Int := if (0 ≤ x ∧ x < m 3) ∧ (0 ≤ y ∧ y < m 1) then (if reasonOf (cN c) x y = 0 then (0, ridesOnM (mRide m x y) x) else (2, 0)) else (1, 0)
theorem ride_len {m : Int → Int} {R : Rz} {x g : Int} (ok : okM m) (h : MZ m R) (hx : 0 ≤ x ∧ x < m 3) (hg : 0 ≤ g ∧ g < m 1) (r4 : m 4 < 600) (hv : isVlM m x) : ((zC R x).2.2.2.2.length : Int) + 1 = ridesOnM (mRide m x g) x := by
  have hK := K_ride ok h hx hg r4 hv
  have e3 : mRide m x g 3 = m 3 := mRide_n ok.2.2.2.2.1.1 (by omega) (by have := ok.2.2.2.2.1; omega)
  have h1 := hK.2.2.2.2.2.2.1 x (by rw [e3]; exact hx)
  have h2 : (zC (zRide R x g) x).2.2.2.2 = crd (mRide m x g) x (mRide m x g 4).toNat := by rw [h1]
  rw [← crs_len, ← h2]
  show _ = ((uI (zC R) x _ x).2.2.2.2.length : Int)
  rw [uI_s, List.length_cons]
  omega
theorem A_pass {c : CSt} {m : Int → Int} {n x y : Int} (h : Rw m (cN c) n) (hn : n < 600) : An sIB sUO (ePass c x y).1 (aPass c m x y) := by
  obtain ⟨ok, hz, h4⟩ := h
  unfold ePass aPass isC isG
  rw [hz.1.2.2.2, hz.1.2.1]
  by_cases hx : (0 ≤ x ∧ x < m 3) ∧ (0 ≤ y ∧ y < m 1)
  · rw [if_pos hx, if_pos hx]
    by_cases hr : reasonOf (cN c) x y = 0
    · rw [if_pos hr, if_pos hr]
      exact an0 (ride_len ok hz hx.1 hx.2 (by omega) (rfsM_valid ok hx.1 (hr ▸ reason_eq ok hz hx.1 hx.2)))
    · rw [if_neg hr, if_neg hr]; exact an2
  · rw [if_neg hx, if_neg hx]; exact an1
/-- a pass that the gate refuses, or whose card or gate is not there -/
theorem Cp.passNo {E : gE} {w w1 w2 : gW} {im im1 : gIm} {c : CSt} {f : Nat → Int} {m pa sv : Int → Int} {n x y r : Int} (h : Cp E w im c f m pa sv n) (hx : (0 ≤ x ∧ x < m 3) ∧ (0 ≤ y ∧ y < m 1)) (hr : rfsM m x y r) (hr0 : r ≠ 0) (hL : LX E w im (ePass c x y).2 w1 im1) {g : Nat → Int64} (h68 : w1 68 = lgE g) {gd : Nat → UInt64} (h69 : w1 69 = dbE gd) (hM : MTr E w1 f m r w2) : (∃ f', Cp E w2 im1 (ePass c x y).2 f' m pa sv (n + 1) ∧ f' 6 = (aPass c m x y).1) ∧ w2 68 = lgE g ∧ w2 69 = dbE gd := by
  obtain ⟨b, d, e, ⟨tr, g6⟩, i⟩ := h.mid hL
  obtain ⟨q1, q2, q3, q4, q5, q6, q7⟩ := h.2.2.2.2.2.2.2.2.mono (show n ≤ n + 1 by omega)
  have hre := rfsM_fun hr (reason_eq q1.1 q1.2.1 hx.1 hx.2)
  have hc : (ePass c x y).2 = cSetF c ((cF c).1, r, (cF c).2.2) := by
    unfold ePass isC isG
    rw [q1.2.1.1.2.2.2, q1.2.1.1.2.1, if_pos hx, if_neg (by rw [← hre]; exact hr0), ← hre]
  have ha : (aPass c m x y).1 = 2 := by unfold aPass; rw [if_pos hx, if_neg (by rw [← hre]; exact hr0)]
  rw [hc] at hL ⊢
  obtain ⟨f', m1, m2, m3, m4, m5⟩ := hM
  refine ⟨⟨f', ⟨hL.2.2.frame (fun j hj => m5 j (by omega)), m1, (m5 64 (by decide)).trans d, (m5 65 (by decide)).trans e, ⟨tr, (m5 66 (by decide)).trans g6⟩, (m5 67 (by decide)).trans i, ⟨g, (m5 68 (by decide)).trans h68⟩, ⟨gd, (m5 69 (by decide)).trans h69⟩, ?_⟩, m2.trans ha.symm⟩, (m5 68 (by decide)).trans h68, (m5 69 (by decide)).trans h69⟩
  exact ⟨q1, ⟨(m4 2 (by decide) (by decide)).trans q2.1, q2.2⟩, ⟨(m4 4 (by decide) (by decide)).trans q3.1, q3.2⟩, ⟨m3, by rw [m3]; exact rfsM_rsn q1.1 hx.1 hr⟩, (m4 8 (by decide) (by decide)).trans q5, (m4 9 (by decide) (by decide)).trans q6, (m4 11 (by decide) (by decide)).trans q7⟩
theorem Cp.passYes {E : gE} {w w1 w2 : gW} {im im1 : gIm} {c : CSt} {f : Nat → Int} {m pa sv : Int → Int} {n x y : Int} (h : Cp E w im c f m pa sv n) (hn : n < 600) (hx : (0 ≤ x ∧ x < m 3) ∧ (0 ≤ y ∧ y < m 1)) (hr : rfsM m x y 0) (hL : LX E w im (ePass c x y).2 w1 im1) {g : Nat → Int64} (h68 : w1 68 = lgE g) {gd : Nat → UInt64} (h69 : w1 69 = dbE gd) (hM : MCh E w1 f m pa (mRide m x y) w2) : (∃ f' p', Cp E w2 im1 (ePass c x y).2 f' (mRide m x y) p' sv (n + 1) ∧ f' 6 = (aPass c m x y).1) ∧ (aPass c m x y).2 = ridesOnM (mRide m x y) x ∧ w2 68 = lgE g ∧ w2 69 = dbE gd := by
  obtain ⟨q1, q2, q3, q4, q5, q6, q7⟩ := h.2.2.2.2.2.2.2.2
  have hre := rfsM_fun hr (reason_eq q1.1 q1.2.1 hx.1 hx.2)
  have hc : (ePass c x y).2 = cDo c (zRide (cN c) x y) := by
    unfold ePass isC isG
    rw [q1.2.1.1.2.2.2, q1.2.1.1.2.1, if_pos hx, if_pos hre.symm]
  have ha : aPass c m x y = (0, ridesOnM (mRide m x y) x) := by unfold aPass; rw [if_pos hx, if_pos hre.symm]
  rw [hc] at hL ⊢
  rw [ha]
  have h4 := q1.2.2
  obtain ⟨f', p', x1, x2, x3⟩ := h.change hL h68 h69 hM ⟨okM_ride q1.1 (by omega) hx.1 hx.2, K_ride q1.1 q1.2.1 hx.1 hx.2 (by omega) (rfsM_valid q1.1 hx.1 hr), by rw [mRide_4]; omega⟩
  exact ⟨⟨f', p', x1, x2⟩, rfl, x3⟩
theorem Cp.passOut {E : gE} {w w1 w2 : gW} {im im1 : gIm} {c : CSt} {f : Nat → Int} {m pa sv : Int → Int} {n x y : Int} (h : Cp E w im c f m pa sv n) (hx : ¬ ((0 ≤ x ∧ x < m 3) ∧ (0 ≤ y ∧ y < m 1))) (hL : LX E w im (ePass c x y).2 w1 im1) {g : Nat → Int64} (h68 : w1 68 = lgE g) {gd : Nat → UInt64} (h69 : w1 69 = dbE gd) (hM : MTh E w1 f m 1 w2) : (∃ f', Cp E w2 im1 (ePass c x y).2 f' m pa sv (n + 1) ∧ f' 6 = (aPass c m x y).1) ∧ w2 68 = lgE g ∧ w2 69 = dbE gd := by
  obtain ⟨q1, q2, q3, q4, q5, q6, q7⟩ := h.2.2.2.2.2.2.2.2
  have hc : (ePass c x y).2 = c := by
    unfold ePass isC isG
    rw [q1.2.1.1.2.2.2, q1.2.1.1.2.1, if_neg hx]
  have ha : (aPass c m x y).1 = 1 := by unfold aPass; rw [if_neg hx]
  rw [hc] at hL ⊢
  obtain ⟨f', x1, x2, x3⟩ := h.read hL h68 h69 hM
  exact ⟨⟨f', ⟨x1.1, x1.2.1, x1.2.2.1, x1.2.2.2.1, x1.2.2.2.2.1, x1.2.2.2.2.2.1, x1.2.2.2.2.2.2.1, x1.2.2.2.2.2.2.2.1, x1.2.2.2.2.2.2.2.2.mono (by omega)⟩, x2.trans ha.symm⟩, x3⟩
def aUndo (f : Nat → Int) : Int × Int := if f 2 = 0 then (1, 0) else (0, f 2 - 1)
theorem A_undo {c : CSt} {f : Nat → Int} (h : f 2 = ch c) (hc : 0 ≤ ch c) : An sIS sIA (eUndo c).1 (aUndo f) := by
  unfold eUndo aUndo
  rw [h]
  by_cases h0 : ch c = 0
  · rw [if_pos (by omega), if_pos h0]; exact an1
  · rw [if_neg (by omega), if_neg h0]
    exact an0 (by unfold cCd; rw [if_pos (by omega)])
theorem cpy_row {p m : Int → Int} {k : Int} (h : outZ m) : cpy (fun j => p (3561 * k + j)) m 3561 = rowP p k := by
  funext j
  unfold cpy rowP
  by_cases hj : 0 ≤ j ∧ j < 3561
  · rw [if_pos hj, if_pos hj]
  · rw [if_neg hj, if_neg hj, h j (by omega)]
theorem cpy_full {s m : Int → Int} (h1 : outZ s) (h : outZ m) : cpy s m 3561 = s := by
  funext j
  unfold cpy
  by_cases hj : 0 ≤ j ∧ j < 3561
  · rw [if_pos hj]
  · rw [if_neg hj, h j (by omega), h1 j (by omega)]
theorem Cp.undo {E : gE} {w w1 w2 : gW} {im im1 : gIm} {c : CSt} {f : Nat → Int} {m pa sv : Int → Int} {n : Int} (h : Cp E w im c f m pa sv n) (h0 : f 2 ≠ 0) (hL : LX E w im (eUndo c).2 w1 im1) {g : Nat → Int64} (h68 : w1 68 = lgE g) {gd : Nat → UInt64} (h69 : w1 69 = dbE gd) (hM : MR E w2 (fU (fU f 6 0) 2 (f 2 - 1)) (cpy (fun j => pa (3561 * (f 2 - 1) + j)) m 3561)) (hw : ∀ j, j ≠ 62 → j ≠ 63 → w2 j = w1 j) : ∃ f' m', Cp E w2 im1 (eUndo c).2 f' m' pa sv (n + 1) ∧ f' 6 = 0 ∧ w2 68 = lgE g ∧ w2 69 = dbE gd := by
  obtain ⟨b, d, e, ⟨tr, g6⟩, i⟩ := h.mid hL
  have hX := h.1.2.2
  obtain ⟨q1, q2, q3, q4, q5, q6, q7⟩ := h.2.2.2.2.2.2.2.2.mono (show n ≤ n + 1 by omega)
  have hx1 := hX.1
  have hx2 := hX.2.1
  have hc : (eUndo c).2 = cSetN (cSetH c (cPx c) (cCd c) (cS c)) (cS c (cPx c)) := by unfold eUndo; rw [if_neg (by omega)]
  rw [hc] at hL ⊢
  rw [cpy_row q1.2.1.out, q2.1] at hM
  have hcd : cCd c = ch c - 1 := by unfold cCd; rw [if_pos (by omega)]
  have hpl : plc c (ch c - 1) = cPx c := by unfold plc cPx; split <;> omega
  refine ⟨_, _, ⟨hL.2.2.frame (fun j hj => hw j (by omega) (by omega)), hM, (hw 64 (by decide) (by decide)).trans d, (hw 65 (by decide) (by decide)).trans e, ⟨tr, (hw 66 (by decide) (by decide)).trans g6⟩, (hw 67 (by decide) (by decide)).trans i, ⟨g, (hw 68 (by decide) (by decide)).trans h68⟩, ⟨gd, (hw 69 (by decide) (by decide)).trans h69⟩, ?_⟩, rfl, (hw 68 (by decide) (by decide)).trans h68, (hw 69 (by decide) (by decide)).trans h69⟩
  refine ⟨hpl ▸ q2.2 (ch c - 1) (by omega), ⟨show ch c - 1 = cCd c from hcd.symm, fun k hk => ?_⟩, ⟨q3.1, q3.2⟩, ⟨q4.1, q4.2⟩, q5, q6, q7⟩
  have hk : 0 ≤ k ∧ k < cCd c := hk
  have e3 : plc (cSetN (cSetH c (cPx c) (cCd c) (cS c)) (cS c (cPx c))) k = plc c k := by
    show (cPx c - cCd c + k + 9) % 9 = (cx c - ch c + k + 9) % 9
    unfold cPx
    rw [hcd]
    split <;> omega
  rw [e3]
  exact q2.2 k (by omega)
theorem Cp.snap {E : gE} {w w1 w2 : gW} {im im1 : gIm} {c : CSt} {f : Nat → Int} {m pa sv : Int → Int} {n : Int} (h : Cp E w im c f m pa sv n) (hL : LX E w im (eSnap c).2 w1 im1) (h69 : w1 69 = w 69) (h68 : w1 68 = w 68) (hM : MR E w2 (fU (fU f 6 0) 4 1) m) (h65 : w2 65 = intE 3561 (cpy m sv 3561)) (hw : ∀ j, j ≠ 62 → j ≠ 65 → w2 j = w1 j) : ∃ f' sv', Cp E w2 im1 (eSnap c).2 f' m pa sv' (n + 1) := by
  obtain ⟨b, d, e, ⟨tr, g6⟩, i⟩ := h.mid hL
  obtain ⟨g, hg⟩ := h.2.2.2.2.2.2.1
  obtain ⟨gd, hgd⟩ := h.2.2.2.2.2.2.2.1
  obtain ⟨q1, q2, q3, q4, q5, q6, q7⟩ := h.2.2.2.2.2.2.2.2.mono (show n ≤ n + 1 by omega)
  rw [cpy_full q1.2.1.out q3.2.1] at h65
  refine ⟨_, m, hL.2.2.frame (fun j hj => hw j (by omega) (by omega)), hM, (hw 64 (by decide) (by decide)).trans d, h65, ⟨tr, (hw 66 (by decide) (by decide)).trans g6⟩, (hw 67 (by decide) (by decide)).trans i, ⟨g, (hw 68 (by decide) (by decide)).trans (h68.trans hg)⟩, ⟨gd, (hw 69 (by decide) (by decide)).trans (h69.trans hgd)⟩, ?_⟩
  exact ⟨q1, ⟨q2.1, q2.2⟩, ⟨rfl, q1.2.1.out, fun _ => q1⟩, ⟨q4.1, q4.2⟩, q5, q6, q7⟩
def aRest (f : Nat → Int) (sv : Int → Int) : Int × Int := if f 4 = 0 then (1, 0) else (0, sv 3)
theorem A_restore {c : CSt} {f : Nat → Int} {sv : Int → Int} {n : Int} (h : f 4 = (cF c).1) (hf : 0 ≤ (cF c).1 ∧ (cF c).1 ≤ 1) (hs : (cF c).1 = 1 → Rw sv (cK c) n) : An sIS sIA (eRest c).1 (aRest f sv) := by
  unfold eRest aRest
  rw [h]
  by_cases h0 : (cF c).1 = 0
  · rw [if_pos h0, if_pos h0]; exact an1
  · rw [if_neg h0, if_neg h0]
    exact an0 (hs (by omega)).2.1.1.2.2.2
theorem Cp.rest {E : gE} {w w1 w2 : gW} {im im1 : gIm} {c : CSt} {f : Nat → Int} {m pa sv : Int → Int} {n : Int} (h : Cp E w im c f m pa sv n) (h0 : f 4 ≠ 0) (hL : LX E w im (eRest c).2 w1 im1) {g : Nat → Int64} (h68 : w1 68 = lgE g) {gd : Nat → UInt64} (h69 : w1 69 = dbE gd) (hM : MR E w2 (fU (fU f 6 0) 2 0) (cpy sv m 3561)) (hw : ∀ j, j ≠ 62 → j ≠ 63 → w2 j = w1 j) : (∃ f' m', Cp E w2 im1 (eRest c).2 f' m' pa sv (n + 1) ∧ f' 6 = 0) ∧ cpy sv m 3561 3 = sv 3 ∧ w2 68 = lgE g ∧ w2 69 = dbE gd := by
  obtain ⟨b, d, e, ⟨tr, g6⟩, i⟩ := h.mid hL
  have hf := h.1.2.2.2.2.1.1
  obtain ⟨q1, q2, q3, q4, q5, q6, q7⟩ := h.2.2.2.2.2.2.2.2.mono (show n ≤ n + 1 by omega)
  have hc : (eRest c).2 = cSetH (cSetN c (cK c)) (cx c) 0 (cS c) := by unfold eRest; rw [if_neg (by rw [← q3.1]; exact h0)]
  rw [hc] at hL ⊢
  rw [cpy_full q3.2.1 q1.2.1.out] at hM ⊢
  refine ⟨⟨_, _, ⟨hL.2.2.frame (fun j hj => hw j (by omega) (by omega)), hM, (hw 64 (by decide) (by decide)).trans d, (hw 65 (by decide) (by decide)).trans e, ⟨tr, (hw 66 (by decide) (by decide)).trans g6⟩, (hw 67 (by decide) (by decide)).trans i, ⟨g, (hw 68 (by decide) (by decide)).trans h68⟩, ⟨gd, (hw 69 (by decide) (by decide)).trans h69⟩, ?_⟩, rfl⟩, rfl, (hw 68 (by decide) (by decide)).trans h68, (hw 69 (by decide) (by decide)).trans h69⟩
  exact ⟨q3.2.2 (by rw [q3.1] at h0; omega), ⟨rfl, fun k hk => by have h9 : 0 ≤ k ∧ k < 0 := hk; omega⟩, ⟨q3.1, q3.2⟩, ⟨q4.1, q4.2⟩, q5, q6, q7⟩
def aApp (c : CSt) (x : Int) : Int × Int := if okA x = true then (if tl (cT c) + cntO x ≤ 60 then (0, tl (t4A (cT c) x)) else (2, 0)) else (1, 0)
theorem A_append {c : CSt} {x : Int} : An sIA sIS (eApp c x).1 (aApp c x) := by
  unfold eApp aApp
  by_cases h1 : okA x = true
  · rw [if_pos h1, if_pos h1]
    by_cases h2 : tl (cT c) + cntO x ≤ 60
    · rw [if_pos h2, if_pos h2]; exact an0 rfl
    · rw [if_neg h2, if_neg h2]; exact an2
  · rw [if_neg h1, if_neg h1]; exact an1
theorem Cp.app {E : gE} {w w1 w2 : gW} {im im1 : gIm} {c : CSt} {f f' : Nat → Int} {m pa sv : Int → Int} {n x : Int} (h : Cp E w im c f m pa sv n) (h1 : okA x = true) (h2 : tl (cT c) + cntO x ≤ 60) (hL : LX E w im (eApp c x).2 w1 im1) {g : Nat → Int64} (h68 : w1 68 = lgE g) {gd : Nat → UInt64} (h69 : w1 69 = dbE gd) (hM : MR E w2 f' m) (m6 : f' 6 = 0) (m11 : f' 11 = tl (t4A (cT c) x)) (mf : ∀ i, i ≠ 6 → i ≠ 11 → f' i = f i) (h67 : w2 67 = chE (t4A (cT c) x)) (hw : ∀ j, j ≠ 62 → j ≠ 67 → w2 j = w1 j) : Cp E w2 im1 (eApp c x).2 f' m pa sv (n + 1) ∧ w2 68 = lgE g ∧ w2 69 = dbE gd := by
  obtain ⟨b, d, e, ⟨tr, g6⟩, i⟩ := h.mid hL
  obtain ⟨q1, q2, q3, q4, q5, q6, q7⟩ := h.2.2.2.2.2.2.2.2.mono (show n ≤ n + 1 by omega)
  have hc : (eApp c x).2 = cSetT c (t4A (cT c) x) := by unfold eApp; rw [if_pos h1, if_pos h2]
  rw [hc] at hL ⊢
  refine ⟨⟨hL.2.2.frame (fun j hj => hw j (by omega) (by omega)), hM, (hw 64 (by decide) (by decide)).trans d, (hw 65 (by decide) (by decide)).trans e, ⟨tr, (hw 66 (by decide) (by decide)).trans g6⟩, h67, ⟨g, (hw 68 (by decide) (by decide)).trans h68⟩, ⟨gd, (hw 69 (by decide) (by decide)).trans h69⟩, ?_⟩, (hw 68 (by decide) (by decide)).trans h68, (hw 69 (by decide) (by decide)).trans h69⟩
  exact ⟨q1, ⟨(mf 2 (by decide) (by decide)).trans q2.1, q2.2⟩, ⟨(mf 4 (by decide) (by decide)).trans q3.1, q3.2⟩, ⟨(mf 7 (by decide) (by decide)).trans q4.1, by rw [mf 7 (by decide) (by decide)]; exact q4.2⟩, (mf 8 (by decide) (by decide)).trans q5, (mf 9 (by decide) (by decide)).trans q6, m11⟩
