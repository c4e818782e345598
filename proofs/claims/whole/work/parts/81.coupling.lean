/-! ===== class and reference side by side ===== -/
def rowP (p : Int → Int) (k : Int) : Int → Int := fun j => if 0 ≤ j ∧ j < 3561 then p (3561 * k + j) else 0
def Rw (m : Int → Int) (R : Rz) (n : Int) : Prop := okM m ∧ MZ m R ∧ m 4 ≤ n
/-- the place of the history's ring where the k-th of what is remembered stands -/
def plc (c : CSt) (k : Int) : Int := (cx c - ch c + k + 9) % 9
def Pu (c : CSt) (f : Nat → Int) (m pa sv : Int → Int) (n : Int) : Prop :=
  Rw m (cN c) n ∧ (f 2 = ch c ∧ ∀ k, 0 ≤ k ∧ k < ch c → Rw (rowP pa k) (cS c (plc c k)) n) ∧ (f 4 = (cF c).1 ∧ outZ sv ∧ ((cF c).1 = 1 → Rw sv (cK c) n)) ∧
  (f 7 = (cF c).2.1 ∧ rsn (f 7)) ∧ f 8 = (cF c).2.2.1 ∧ f 9 = (cF c).2.2.2 ∧ f 11 = tl (cT c)
def Cp (E : gE) (w : gW) (im : gIm) (c : CSt) (f : Nat → Int) (m pa sv : Int → Int) (n : Int) : Prop :=
  XW E w im c ∧ MR E w f m ∧ w 64 = intE 28488 pa ∧ w 65 = intE 3561 sv ∧ (∃ tr, w 66 = intE 3561 tr) ∧ w 67 = chE (cT c) ∧ (∃ g, w 68 = lgE g) ∧ (∃ g, w 69 = dbE g) ∧ Pu c f m pa sv n
theorem Rw.mono {m : Int → Int} {R : Rz} {n n' : Int} (h : Rw m R n) (hn : n ≤ n') : Rw m R n' := ⟨h.1, h.2.1, Int.le_trans h.2.2 hn⟩
theorem Pu.mono {c : CSt} {f : Nat → Int} {m pa sv : Int → Int} {n n' : Int} (h : Pu c f m pa sv n) (hn : n ≤ n') : Pu c f m pa sv n' := by
  obtain ⟨a, b, d, e, g⟩ := h
  exact ⟨a.mono hn, ⟨b.1, fun k hk => (b.2 k hk).mono hn⟩, ⟨d.1, d.2.1, fun h => (d.2.2 h).mono hn⟩, e, g⟩
/-- the numbers that Pu speaks of are the same -/
theorem Pu.fs {c : CSt} {f f' : Nat → Int} {m pa sv : Int → Int} {n : Int} (h : Pu c f m pa sv n) (hf : ∀ i, i ≠ 6 → f' i = f i) : Pu c f' m pa sv n := by
  obtain ⟨a, b, d, e, g1, g2, g3⟩ := h
  exact ⟨a, ⟨(hf 2 (by decide)).trans b.1, b.2⟩, ⟨(hf 4 (by decide)).trans d.1, d.2⟩, ⟨(hf 7 (by decide)).trans e.1, by rw [hf 7 (by decide)]; exact e.2⟩, (hf 8 (by decide)).trans g1, (hf 9 (by decide)).trans g2, (hf 11 (by decide)).trans g3⟩
/-- behind the helper of the class, before the reference -/
theorem Cp.mid {E : gE} {w w1 : gW} {im im1 : gIm} {c c2 : CSt} {f : Nat → Int} {m pa sv : Int → Int} {n : Int} (h : Cp E w im c f m pa sv n) (hL : LX E w im c2 w1 im1) : MR E w1 f m ∧ w1 64 = intE 28488 pa ∧ w1 65 = intE 3561 sv ∧ (∃ tr, w1 66 = intE 3561 tr) ∧ w1 67 = chE (cT c) := by
  obtain ⟨a, b, d, e, ⟨tr, g⟩, i, j, k, l⟩ := h
  have hw := hL.1
  exact ⟨⟨b.1, (hw 62 (by omega) (by omega) (by omega)).trans b.2.1, (hw 63 (by omega) (by omega) (by omega)).trans b.2.2⟩, (hw 64 (by omega) (by omega) (by omega)).trans d, (hw 65 (by omega) (by omega) (by omega)).trans e, ⟨tr, (hw 66 (by omega) (by omega) (by omega)).trans g⟩, (hw 67 (by omega) (by omega) (by omega)).trans i⟩
/-- a call that changes no more than what was thrown -/
theorem Cp.read {E : gE} {w w1 w2 : gW} {im im1 : gIm} {c : CSt} {f : Nat → Int} {m pa sv : Int → Int} {n t : Int} (h : Cp E w im c f m pa sv n) (hL : LX E w im c w1 im1) {g : Nat → Int64} (h68 : w1 68 = lgE g) {gd : Nat → UInt64} (h69 : w1 69 = dbE gd) (hM : MTh E w1 f m t w2) : ∃ f', Cp E w2 im1 c f' m pa sv n ∧ f' 6 = t ∧ w2 68 = lgE g ∧ w2 69 = dbE gd := by
  obtain ⟨b, d, e, ⟨tr, g6⟩, i⟩ := h.mid hL
  obtain ⟨f', m1, m2, m3, m4⟩ := hM
  refine ⟨f', ⟨hL.2.2.frame (fun j hj => m4 j (by omega)), m1, (m4 64 (by decide)).trans d, (m4 65 (by decide)).trans e, ⟨tr, (m4 66 (by decide)).trans g6⟩, (m4 67 (by decide)).trans i, ⟨g, (m4 68 (by decide)).trans h68⟩, ⟨gd, (m4 69 (by decide)).trans h69⟩, h.2.2.2.2.2.2.2.2.fs m3⟩, m2, (m4 68 (by decide)).trans h68, (m4 69 (by decide)).trans h69⟩
theorem rowP_8 {p m p' : Int → Int} (h : RM 8 p m p') (ho : outZ m) : (∀ k, 0 ≤ k ∧ k < 7 → rowP p' k = rowP p (k + 1)) ∧ rowP p' 7 = m := by
  obtain ⟨h1, h2⟩ := h.1 rfl
  refine ⟨fun k hk => funext fun j => ?_, funext fun j => ?_⟩
  · unfold rowP
    by_cases hj : 0 ≤ j ∧ j < 3561
    · rw [if_pos hj, if_pos hj, h1 k j hk hj]
    · rw [if_neg hj, if_neg hj]
  · unfold rowP
    by_cases hj : 0 ≤ j ∧ j < 3561
    · rw [if_pos hj, h2 j hj]
    · rw [if_neg hj, ho j (by omega)]
theorem rowP_n {n : Int} {p m p' : Int → Int} (h : RM n p m p') (hn : n ≠ 8) (ho : outZ m) : (∀ k, 0 ≤ k ∧ k < n → rowP p' k = rowP p k) ∧ rowP p' n = m := by
  obtain ⟨h1, h2⟩ := h.2 hn
  refine ⟨fun k hk => funext fun j => ?_, funext fun j => ?_⟩
  · unfold rowP
    by_cases hj : 0 ≤ j ∧ j < 3561
    · rw [if_pos hj, if_pos hj, h1 k j hk hj]
    · rw [if_neg hj, if_neg hj]
  · unfold rowP
    by_cases hj : 0 ≤ j ∧ j < 3561
    · rw [if_pos hj, h2 j hj]
    · rw [if_neg hj, ho j (by omega)]
/-- one change more is remembered: the ring and the rows of the past -/
theorem hist_rec {c : CSt} {m pa p' : Int → Int} {n : Int} (hx : (0 ≤ cx c ∧ cx c < 9) ∧ (0 ≤ ch c ∧ ch c ≤ 8)) (hm : Rw m (cN c) n) (h : ∀ k, 0 ≤ k ∧ k < ch c → Rw (rowP pa k) (cS c (plc c k)) n) (hR : RM (ch c) pa m p') :
    nxM (ch c) = cCh c ∧ ∀ k, 0 ≤ k ∧ k < cCh c → Rw (rowP p' k) (uI (cS c) (cx c) (cN c) ((cNx c - cCh c + k + 9) % 9)) n := by
  obtain ⟨⟨x1, x2⟩, x3, x4⟩ := hx
  by_cases h8 : ch c = 8
  · rw [h8] at hR
    obtain ⟨r1, r2⟩ := rowP_8 hR hm.2.1.out
    have e1 : cCh c = 8 := by unfold cCh; rw [h8, if_neg (by omega)]
    refine ⟨by rw [e1, h8]; rfl, fun k hk => ?_⟩
    rw [e1] at hk ⊢
    by_cases hk7 : k = 7
    · subst hk7
      have e2 : (cNx c - 8 + 7 + 9) % 9 = cx c := by unfold cNx; split <;> omega
      rw [r2, e2, uI_s]; exact hm
    · have e2 : (cNx c - 8 + k + 9) % 9 = plc c (k + 1) := by unfold cNx plc; rw [h8]; split <;> omega
      have e3 : plc c (k + 1) ≠ cx c := by unfold plc; rw [h8]; omega
      rw [r1 k (by omega), e2, uI_n e3]
      exact h (k + 1) (by omega)
  · obtain ⟨r1, r2⟩ := rowP_n hR h8 hm.2.1.out
    have e1 : cCh c = ch c + 1 := by unfold cCh; rw [if_pos (by omega)]
    refine ⟨by rw [e1]; exact if_neg h8, fun k hk => ?_⟩
    rw [e1] at hk ⊢
    by_cases hk7 : k = ch c
    · have e2 : (cNx c - (ch c + 1) + k + 9) % 9 = cx c := by unfold cNx; split <;> omega
      rw [e2, uI_s, hk7, r2]; exact hm
    · have e2 : (cNx c - (ch c + 1) + k + 9) % 9 = plc c k := by unfold cNx plc; split <;> omega
      have e3 : plc c k ≠ cx c := by unfold plc; omega
      rw [r1 k (by omega), e2, uI_n e3]
      exact h k (by omega)
/-- a change, remembered -/
theorem Cp.change {E : gE} {w w1 w2 : gW} {im im1 : gIm} {c : CSt} {R : Rz} {f : Nat → Int} {m m' pa sv : Int → Int} {n : Int} (h : Cp E w im c f m pa sv n) (hL : LX E w im (cDo c R) w1 im1) {g : Nat → Int64} (h68 : w1 68 = lgE g) {gd : Nat → UInt64} (h69 : w1 69 = dbE gd) (hM : MCh E w1 f m pa m' w2) (hR : Rw m' R (n + 1)) : ∃ f' p', Cp E w2 im1 (cDo c R) f' m' p' sv (n + 1) ∧ f' 6 = 0 ∧ w2 68 = lgE g ∧ w2 69 = dbE gd := by
  obtain ⟨b, d, e, ⟨tr, g6⟩, i⟩ := h.mid hL
  obtain ⟨f', p', m1, m2, m3, m4, m5, m6, m7, m8⟩ := hM
  have hP := h.2.2.2.2.2.2.2.2
  have hX := h.1.2.2
  obtain ⟨q1, q2, q3, q4, q5, q6, q7⟩ := hP.mono (show n ≤ n + 1 by omega)
  rw [q2.1] at m3 m6
  have hh := hist_rec ⟨hX.1, hX.2.1⟩ q1 q2.2 m6
  refine ⟨f', p', ⟨hL.2.2.frame (fun j hj => m8 j (by omega) (by omega) (by omega) (by omega)), m1, m5, (m8 65 (by decide) (by decide) (by decide) (by decide)).trans e, m7, (m8 67 (by decide) (by decide) (by decide) (by decide)).trans i, ⟨g, (m8 68 (by decide) (by decide) (by decide) (by decide)).trans h68⟩, ⟨gd, (m8 69 (by decide) (by decide) (by decide) (by decide)).trans h69⟩, ?_⟩, m2, (m8 68 (by decide) (by decide) (by decide) (by decide)).trans h68, (m8 69 (by decide) (by decide) (by decide) (by decide)).trans h69⟩
  exact ⟨hR, ⟨m3.trans hh.1, hh.2⟩, ⟨(m4 4 (by decide) (by decide)).trans q3.1, q3.2⟩, ⟨(m4 7 (by decide) (by decide)).trans q4.1, by rw [m4 7 (by decide) (by decide)]; exact q4.2⟩, (m4 8 (by decide) (by decide)).trans q5, (m4 9 (by decide) (by decide)).trans q6, (m4 11 (by decide) (by decide)).trans q7⟩
