/-! ===== the changes: class and reference answer alike and stay together ===== -/
theorem RZ.okz {E : gE} {w : gW} {im : gIm} {b : Nat} {R : Rz} (h : RZ E w im b R) : okZ R := by
  obtain ⟨_, _, _, _, _, _, h⟩ := h
  exact h
/-- what a change of the reference gives, beside the class's -/
def Bo (c : CSt) (n : Int) (e1 e2 : String) (a : gO × CSt) (b : Int × Int × (Int → Int)) : Prop :=
  An e1 e2 a.1 (b.1, b.2.1) ∧ ((b.1 = 0 ∧ ∃ R, a.2 = cDo c R ∧ Rw b.2.2 R (n + 1)) ∨ (b.1 ≠ 0 ∧ a.2 = c))
theorem bo0 {c : CSt} {n : Int} {e1 e2 : String} {v r : Int} {R : Rz} {m' : Int → Int} (hv : v = r) (h : okM m' ∧ MZ m' R) (h4 : m' 4 ≤ n) : Bo c n e1 e2 (oV v, cDo c R) (0, r, m') := ⟨an0 hv, Or.inl ⟨rfl, R, rfl, h.1, h.2, by show m' 4 ≤ n + 1; omega⟩⟩
theorem bo1 {c : CSt} {n : Int} {e1 e2 : String} {r : Int} {m' : Int → Int} : Bo c n e1 e2 (.inr e1, c) (1, r, m') := ⟨an1, Or.inr ⟨show (1 : Int) ≠ 0 by decide, rfl⟩⟩
theorem bo2 {c : CSt} {n : Int} {e1 e2 : String} {r : Int} {m' : Int → Int} : Bo c n e1 e2 (.inr e2, c) (2, r, m') := ⟨an2, Or.inr ⟨show (2 : Int) ≠ 0 by decide, rfl⟩⟩
theorem B_addGate {c : CSt} {m : Int → Int} {n x y : Int} (h : Rw m (cN c) n) : Bo c n sIA sIS (eAddG c x y) (gAddG m x y) := by
  obtain ⟨ok, hz, h4⟩ := h
  have z1 := ok.2.1
  unfold eAddG gAddG
  rw [hz.1.2.1]
  by_cases hx : (0 ≤ x ∧ x ≤ 3) ∧ (0 ≤ y ∧ y ≤ 99)
  · rw [if_pos hx, if_pos hx]
    by_cases h1 : m 1 = 12
    · rw [if_neg (by omega), if_pos h1]; exact bo2
    · rw [if_pos (by omega), if_neg h1]
      exact bo0 rfl (K_addG ok hz hx.1 hx.2 (by omega)) (by unfold mAddG; rw [uI_n (by omega), uI_n (by omega), uI_n (by omega)]; exact h4)
  · rw [if_neg hx, if_neg hx]; exact bo1
theorem B_addProduct {c : CSt} {m : Int → Int} {n : Int} {q : Pt9} (h : Rw m (cN c) n) : Bo c n sIA sIS (eAddP c q) (gAddP m q) := by
  obtain ⟨ok, hz, h4⟩ := h
  have z2 := ok.2.2.1
  unfold eAddP gAddP
  rw [hz.1.2.2.1]
  by_cases hq : gdP q
  · have hq2 := hq
    obtain ⟨⟨⟨g1, g2, g3, g4⟩, g5⟩, g6, g7⟩ := hq2
    rw [if_pos ⟨⟨g3, g5, g4.2⟩, g1, g2, g6, g7⟩, if_pos hq]
    by_cases h1 : m 2 = 8
    · rw [if_neg (by omega), if_pos h1]; exact bo2
    · rw [if_pos (by omega), if_neg h1]
      exact bo0 rfl (K_addP ok hz hq (by omega)) (by unfold mAddP; rw [uI_n (by omega), uI_n (by omega), uI_n (by omega), uI_n (by omega), uI_n (by omega), uI_n (by omega), uI_n (by omega)]; exact h4)
  · rw [if_neg hq, if_neg (fun h9 => hq ⟨⟨⟨h9.2.1, h9.2.2.1, h9.1.1, ⟨by have := h9.1; omega, h9.1.2.2⟩⟩, h9.1.2.1⟩, h9.2.2.2.1, h9.2.2.2.2⟩)]; exact bo1
theorem B_advance {c : CSt} {m : Int → Int} {n x : Int} (oz : okZ (cN c)) (h : Rw m (cN c) n) : Bo c n sIA sIS (eAdv c x) (gAdv m x) := by
  obtain ⟨ok, hz, h4⟩ := h
  unfold eAdv gAdv
  rw [hz.1.1]
  by_cases hx : 0 ≤ x ∧ x ≤ 2880
  · rw [if_pos hx, if_pos hx]
    by_cases h1 : m 0 + x ≤ 43200
    · rw [if_pos h1, if_pos h1]
      have hK := K_time ok hz (x := x) (oz.time ⟨hx.1, by rw [hz.1.1]; exact h1⟩) hx.1 h1
      rw [hz.1.1] at hK
      exact bo0 rfl hK (by rw [goF_h (by omega) (by omega) ok.2.1.2]; exact h4)
    · rw [if_neg h1, if_neg h1]; exact bo2
  · rw [if_neg hx, if_neg hx]; exact bo1
theorem B_setClosed {c : CSt} {m : Int → Int} {n x on : Int} (oz : okZ (cN c)) (h : Rw m (cN c) n) (ho : on = 0 ∨ on = 1) : Bo c n sIB sIA (eClo c x on) (gClosed m x on) ∧ (0 ≤ (gClosed m x on).2.1 ∧ (gClosed m x on).2.1 ≤ 1) ∧ (gClosed m x on).1 ≠ 2 := by
  obtain ⟨ok, hz, h4⟩ := h
  have z1 := ok.2.1
  unfold eClo gClosed isG
  rw [hz.1.2.1]
  by_cases hx : 0 ≤ x ∧ x < m 1
  · rw [if_pos hx, if_pos hx]
    have h2 := hz.2.2.1 x (by omega)
    refine ⟨bo0 ?_ (K_shut ok hz oz hx ho) (by rw [uI_n (by omega)]; exact h4), by show 0 ≤ (if _ then (1 : Int) else 0) ∧ (if _ then (1 : Int) else 0) ≤ 1; split <;> omega, by show (0 : Int) ≠ 2; decide⟩
    by_cases ht : tb (zs (cN c)) x = true
    · rw [if_pos ht, if_pos (h2.1 ht)]
    · rw [if_neg ht, if_neg (fun h9 => ht (h2.2 h9))]
  · rw [if_neg hx, if_neg hx]
    exact ⟨bo1, by show 0 ≤ (0 : Int) ∧ (0 : Int) ≤ 1; omega, by show (1 : Int) ≠ 2; decide⟩
theorem B_sell {c : CSt} {m : Int → Int} {n x : Int} (h : Rw m (cN c) n) : Bo c n sIB sIS (eSell c x) (gSell m x) := by
  obtain ⟨ok, hz, h4⟩ := h
  have z3 := ok.2.2.2.1
  unfold eSell gSell isP
  rw [hz.1.2.2.1, hz.1.2.2.2]
  by_cases hx : 0 ≤ x ∧ x < m 2
  · rw [if_pos hx, if_pos hx]
    by_cases h1 : m 3 = 20
    · rw [if_neg (by omega), if_pos h1]; exact bo2
    · rw [if_pos (by omega), if_neg h1]
      exact bo0 rfl (K_come ok hz hx rfl (by omega)) (by rw [comeM_n z3.1 (by omega) (by omega)]; exact h4)
  · rw [if_neg hx, if_neg hx]; exact bo1
theorem B_block {c : CSt} {m : Int → Int} {n x on : Int} (h : Rw m (cN c) n) (ho : on = 0 ∨ on = 1) : Bo c n sIB sIS (eBlk c x on) (gBlk m x on) := by
  obtain ⟨ok, hz, h4⟩ := h
  have z3 := ok.2.2.2.1
  unfold eBlk gBlk isC
  rw [hz.1.2.2.2]
  by_cases hx : 0 ≤ x ∧ x < m 3
  · rw [if_pos hx, if_pos hx]
    have hs := settled_iff ok hz hx
    by_cases h1 : 1 < m (461 + 5 * x + 1)
    · rw [if_pos (hs.2 h1), if_pos h1]; exact bo2
    · rw [if_neg (fun h9 => h1 (hs.1 h9)), if_neg h1]
      exact bo0 (by rw [hz.2.2.2.2.2.2.1 x hx]) (K_block ok hz hx (by omega) ho) (by rw [uI_n (by omega)]; exact h4)
  · rw [if_neg hx, if_neg hx]; exact bo1
theorem B_replace {c : CSt} {m : Int → Int} {n x : Int} (h : Rw m (cN c) n) : Bo c n sIB sIS (eRep c x) (gRep m x) := by
  obtain ⟨ok, hz, h4⟩ := h
  have z3 := ok.2.2.2.1
  unfold eRep gRep isC
  rw [hz.1.2.2.2]
  by_cases hx : 0 ≤ x ∧ x < m 3
  · rw [if_pos hx, if_pos hx]
    have hs := settled_iff ok hz hx
    by_cases h1 : 1 < m (461 + 5 * x + 1)
    · rw [if_pos (Or.inl (hs.2 h1)), if_pos h1]; exact bo2
    · rw [if_neg h1]
      by_cases h2 : m 3 = 20
      · rw [if_pos (Or.inr (by omega)), if_pos h2]; exact bo2
      · rw [if_neg (fun h9 => h9.elim (fun h8 => h1 (hs.1 h8)) (fun h8 => h8 (by omega))), if_neg h2]
        exact bo0 rfl (K_rep ok hz hx (by omega) (by omega)) (by rw [rep_4 z3 (by omega)]; exact h4)
  · rw [if_neg hx, if_neg hx]; exact bo1
theorem refM_rng {m : Int → Int} (ok : okM m) {x : Int} (hx : 0 ≤ x ∧ x < m 3) : 0 ≤ refM m x ∧ refM m x ≤ 400000 := by
  obtain ⟨z0, z1, z2, z3, z4, z5, z6, z7, z8, z9⟩ := id ok
  have zx := z8 x hx
  have zp := z7 _ zx.1
  have hd := daysM_rng (m := m) (x := x) (ca := 1)
  unfold refM
  split
  · omega
  · have h1 : 0 ≤ m (461 + 5 * x + 4) / m (413 + 6 * m (461 + 5 * x + 0) + 1) := Int.ediv_nonneg zx.2.2.2.2.1 (by omega)
    have h2 : m (461 + 5 * x + 4) / m (413 + 6 * m (461 + 5 * x + 0) + 1) ≤ 9999 := Int.le_trans (Int.ediv_le_self _ zx.2.2.2.2.1) zx.2.2.2.2.2
    have h3 := Int.mul_le_mul h2 hd.2 hd.1 (by omega)
    exact ⟨Int.mul_nonneg h1 hd.1, by omega⟩
theorem B_refund {c : CSt} {m : Int → Int} {n x : Int} (h : Rw m (cN c) n) : Bo c n sIB sIS (eRef c x) (gRefu m x) := by
  obtain ⟨ok, hz, h4⟩ := h
  have z3 := ok.2.2.2.1
  unfold eRef gRefu isC
  rw [hz.1.2.2.2]
  by_cases hx : 0 ≤ x ∧ x < m 3
  · rw [if_pos hx, if_pos hx]
    have hs := settled_iff ok hz hx
    by_cases h1 : 1 < m (461 + 5 * x + 1)
    · rw [if_pos (hs.2 h1), if_pos h1]; exact bo2
    · rw [if_neg (fun h9 => h1 (hs.1 h9)), if_neg h1]
      have hK := K_pay ok hz hx (by omega) (refM_rng ok hx)
      rw [← refund_eq ok hz hx] at hK
      refine bo0 (refund_eq ok hz hx) ?_ (by rw [uI_n (by omega), uI_n (by omega)]; exact h4)
      rw [← refund_eq ok hz hx]
      exact hK
  · rw [if_neg hx, if_neg hx]; exact bo1
/-- a change of both, done or refused -/
theorem Cp.out {E : gE} {w w1 w2 : gW} {im im1 : gIm} {c : CSt} {f : Nat → Int} {m pa sv : Int → Int} {n : Int} {e1 e2 : String} {a : gO × CSt} {t r : Int} {m' : Int → Int} {b : Int × Int × (Int → Int)} (h : Cp E w im c f m pa sv n) (hb : Bo c n e1 e2 a b) (he : (t, r, m') = b) (hL : LX E w im a.2 w1 im1) {g : Nat → Int64} (h68 : w1 68 = lgE g) {gd : Nat → UInt64} (h69 : w1 69 = dbE gd) (hM : MOut E w1 f m pa t m' w2) :
    ∃ f' m2 p', Cp E w2 im1 a.2 f' m2 p' sv (n + 1) ∧ f' 6 = t ∧ w2 68 = lgE g ∧ w2 69 = dbE gd := by
  subst he
  rcases hb.2 with ⟨b1, R, b2, b3⟩ | ⟨b1, b2⟩
  · rw [b2] at hL ⊢
    rcases hM with ⟨k1, k2⟩ | ⟨k1, _⟩
    · obtain ⟨f', p', x1, x2, x3⟩ := h.change hL h68 h69 k2 b3
      exact ⟨f', m', p', x1, x2.trans k1.symm, x3⟩
    · exact absurd b1 k1
  · rw [b2] at hL ⊢
    rcases hM with ⟨k1, _⟩ | ⟨k1, k2, k3⟩
    · exact absurd k1 b1
    · obtain ⟨f', x1, x2, x3⟩ := h.read hL h68 h69 k3
      exact ⟨f', m, pa, ⟨x1.1, x1.2.1, x1.2.2.1, x1.2.2.2.1, x1.2.2.2.2.1, x1.2.2.2.2.2.1, x1.2.2.2.2.2.2.1, x1.2.2.2.2.2.2.2.1, x1.2.2.2.2.2.2.2.2.mono (by omega)⟩, x2, x3⟩
