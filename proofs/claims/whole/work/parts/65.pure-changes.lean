/-! ===== each change: the row and the resort stay together ===== -/
theorem crd_congr {m m' : Int → Int} {x : Int} {n : Nat} (h : ∀ k : Nat, k < n → m' (561 + 3 * (k : Int) + 0) = m (561 + 3 * (k : Int) + 0) ∧ m' (561 + 3 * (k : Int) + 1) = m (561 + 3 * (k : Int) + 1) ∧ m' (561 + 3 * (k : Int) + 2) = m (561 + 3 * (k : Int) + 2) ∧ m' (5 + 34 * m (561 + 3 * (k : Int) + 1) + 0) = m (5 + 34 * m (561 + 3 * (k : Int) + 1) + 0) ∧ m' (5 + 34 * m (561 + 3 * (k : Int) + 1) + 1) = m (5 + 34 * m (561 + 3 * (k : Int) + 1) + 1)) : crd m' x n = crd m x n := by
  induction n with
  | zero => rfl
  | succ n ih =>
    obtain ⟨h1, h2, h3, h4, h5⟩ := h n (by omega)
    rw [crd, crd, ih (fun k hk => h k (by omega)), h1]
    unfold rdT
    rw [h2, h3, h4, h5]
theorem hasDM_congr {m m' : Int → Int} {x d : Int} {n : Nat} (h : ∀ k : Nat, k < n → m' (561 + 3 * (k : Int) + 0) = m (561 + 3 * (k : Int) + 0) ∧ m' (561 + 3 * (k : Int) + 2) = m (561 + 3 * (k : Int) + 2)) : hasDM m' x d n = hasDM m x d n := by
  induction n with
  | zero => rfl
  | succ n ih =>
    obtain ⟨h1, h2⟩ := h n (by omega)
    rw [hasDM, hasDM, ih (fun k hk => h k (by omega)), h1, h2]
theorem days_congr {m m' : Int → Int} {x : Int} (h4 : m' 4 = m 4) (h : ∀ k : Nat, k < (m 4).toNat → m' (561 + 3 * (k : Int) + 0) = m (561 + 3 * (k : Int) + 0) ∧ m' (561 + 3 * (k : Int) + 2) = m (561 + 3 * (k : Int) + 2)) : daysM m' x 0 = daysM m x 0 := by
  unfold daysM
  rw [h4]
  refine sumZ_congr fun k hk => ?_
  rw [hasDM_congr h, if_pos rfl, if_pos rfl]

theorem K_addG {m : Int → Int} {R : Rz} (ok : okM m) (h : MZ m R) {x y : Int} (hx : 0 ≤ x ∧ x ≤ 3) (hy : 0 ≤ y ∧ y ≤ 99) (h1 : m 1 < 12) : okM (mAddG m x y) ∧ MZ (mAddG m x y) (zAddG R (x, y)) := by
  obtain ⟨⟨a0, a1, a2, a3⟩, b1, b2, b3, b4, b5, b6, b7, b8, b9, b10, b11⟩ := id h
  obtain ⟨z0, z1, z2, z3, z4, z5, z6, z7, z8, z9⟩ := id ok
  have e : ∀ j, (j ≠ 1 ∧ j ≠ 5 + 34 * m 1 ∧ j ≠ 5 + 34 * m 1 + 1) → (mAddG m x y) j = m j := fun j hj => by unfold mAddG; rw [uI_n hj.1, uI_n hj.2.2, uI_n hj.2.1]
  have e0 : (mAddG m x y) 0 = m 0 := e 0 (by omega)
  have e2 : (mAddG m x y) 2 = m 2 := e 2 (by omega)
  have e3 : (mAddG m x y) 3 = m 3 := e 3 (by omega)
  have e4 : (mAddG m x y) 4 = m 4 := e 4 (by omega)
  have e1 : (mAddG m x y) 1 = m 1 + 1 := uI_s
  have ea : (mAddG m x y) (5 + 34 * m 1 + 0) = x := by unfold mAddG; rw [uI_n (by omega), uI_n (by omega), Int.add_zero, uI_s]
  have eb : (mAddG m x y) (5 + 34 * m 1 + 1) = y := by unfold mAddG; rw [uI_n (by omega), uI_s]
  have hf := b3 (m 1) (by omega)
  have ec : ∀ i, crd (mAddG m x y) i (m 4).toNat = crd m i (m 4).toNat := fun i => crd_congr fun k hk => by
    have zk := z9 k (by omega)
    have zg := z6 (m (561 + 3 * (k : Int) + 1)) zk.2.1
    refine ⟨e _ (by omega), e _ (by omega), e _ (by omega), e _ (by omega), e _ (by omega)⟩
  have ed : ∀ i, daysM (mAddG m x y) i 0 = daysM m i 0 := fun i => days_congr e4 fun k hk => ⟨e _ (by omega), e _ (by omega)⟩
  constructor
  · unfold okM
    rw [e0, e1, e2, e3, e4]
    refine ⟨z0,
      by omega,
      z2,
      z3,
      z4,
      fun j hj => by
      unfold mAddG
      simp only [uI]
      (repeat' split) <;> first | omega | exact z5 j hj,
      fun i hi => by
      by_cases hi2 : i < m 1
      · rw [e (5 + 34 * i + 0) (by omega), e (5 + 34 * i + 1) (by omega), e (5 + 34 * i + 2) (by omega)]; exact z6 i ⟨hi.1, hi2⟩
      · have hi3 : i = m 1 := by omega
        subst hi3
        rw [ea, eb, e (5 + 34 * m 1 + 2) (by omega)]; omega,
      fun i hi => by rw [e (413 + 6 * i + 0) (by omega), e (413 + 6 * i + 1) (by omega), e (413 + 6 * i + 2) (by omega), e (413 + 6 * i + 3) (by omega), e (413 + 6 * i + 4) (by omega), e (413 + 6 * i + 5) (by omega)]; exact z7 i hi,
      fun i hi => by rw [e (461 + 5 * i + 0) (by omega), e (461 + 5 * i + 1) (by omega), e (461 + 5 * i + 2) (by omega), e (461 + 5 * i + 3) (by omega), e (461 + 5 * i + 4) (by omega)]; exact z8 i hi,
      fun k hk => by have zk := z9 k hk; rw [e (561 + 3 * k + 0) (by omega), e (561 + 3 * k + 1) (by omega), e (561 + 3 * k + 2) (by omega)]; omega⟩
  · unfold MZ
    rw [e0, e1, e2, e3, e4]
    refine ⟨⟨a0, by show zg R + 1 = _; rw [a1], a2, a3⟩,
      fun i hi => by
      by_cases hi2 : i < m 1
      · rw [e (5 + 34 * i + 0) (by omega), e (5 + 34 * i + 1) (by omega)]; show uI (zG R) (zg R) (x, y) i = _; rw [uI_n (by omega)]; exact b1 i ⟨hi.1, hi2⟩
      · have hi3 : i = m 1 := by omega
        subst hi3
        rw [ea, eb]; show uI (zG R) (zg R) (x, y) (m 1) = _; rw [a1, uI_s],
      fun i hi => by rw [e (5 + 34 * i + 2) (by omega)]; exact b2 i hi,
      fun i hi => by rw [e (5 + 34 * i + 2) (by omega)]; exact b3 i (by omega),
      fun i d hi hd => by rw [e (5 + 34 * i + (3 + d)) (by omega)]; exact b4 i d hi hd,
      fun i hi => by rw [e (413 + 6 * i + 0) (by omega), e (413 + 6 * i + 1) (by omega), e (413 + 6 * i + 2) (by omega), e (413 + 6 * i + 3) (by omega), e (413 + 6 * i + 4) (by omega), e (413 + 6 * i + 5) (by omega)]; exact b5 i hi,
      fun i hi => by rw [e (461 + 5 * i + 0) (by omega), e (461 + 5 * i + 1) (by omega), e (461 + 5 * i + 2) (by omega), e (461 + 5 * i + 3) (by omega)]; rw [ec]; exact b6 i hi,
      fun i hi => by
      have zi := z8 i hi
      rw [e (461 + 5 * i + 4) (by omega), e (461 + 5 * i + 1) (by omega), e (461 + 5 * i + 0) (by omega), e (413 + 6 * m (461 + 5 * i + 0) + 5) (by omega)]
      exact b7 i hi,
      fun i hi => by
      have zi := z8 i hi
      rw [e (461 + 5 * i + 2) (by omega), e (461 + 5 * i + 0) (by omega)]
      intro hn
      rw [e (461 + 5 * m (461 + 5 * i + 2) + 0) (by omega)]
      exact b8 i hi hn,
      ⟨fun i j h1 h2 h3 => by rw [e (561 + 3 * i + 2) (by omega), e (561 + 3 * j + 2) (by omega)]; exact b9.1 i j h1 h2 h3, fun j hj => by rw [e (561 + 3 * j + 2) (by omega)]; exact b9.2 j hj⟩,
      fun i hi => by
      have zi := z8 i hi
      rw [e (461 + 5 * i + 0) (by omega), e (413 + 6 * m (461 + 5 * i + 0) + 0) (by omega), e (413 + 6 * m (461 + 5 * i + 0) + 1) (by omega)]
      rw [ed]
      exact b10 i hi,
      fun j hj => by rw [e (j) (by omega)]; exact b11 j hj⟩

theorem K_addP {m : Int → Int} {R : Rz} (ok : okM m) (h : MZ m R) {q : Pt9} (hq : gdP q) (h1 : m 2 < 8) : okM (mAddP m q) ∧ MZ (mAddP m q) (zAddP R q) := by
  obtain ⟨⟨a0, a1, a2, a3⟩, b1, b2, b3, b4, b5, b6, b7, b8, b9, b10, b11⟩ := id h
  obtain ⟨z0, z1, z2, z3, z4, z5, z6, z7, z8, z9⟩ := id ok
  obtain ⟨⟨⟨g1, g2, g3, g4⟩, g5⟩, g6, g7⟩ := id hq
  have e : ∀ j, (j ≠ 2 ∧ (j < 413 + 6 * m 2 ∨ 418 + 6 * m 2 < j)) → (mAddP m q) j = m j := fun j hj => by unfold mAddP; rw [uI_n (by omega), uI_n (by omega), uI_n (by omega), uI_n (by omega), uI_n (by omega), uI_n (by omega), uI_n (by omega)]
  have e0 : (mAddP m q) 0 = m 0 := e 0 (by omega)
  have e1 : (mAddP m q) 1 = m 1 := e 1 (by omega)
  have e3 : (mAddP m q) 3 = m 3 := e 3 (by omega)
  have e4 : (mAddP m q) 4 = m 4 := e 4 (by omega)
  have e2 : (mAddP m q) 2 = m 2 + 1 := uI_s
  have p0' : (mAddP m q) (413 + 6 * m 2 + 0) = q.1 := by unfold mAddP; rw [uI_n (by omega), uI_n (by omega), uI_n (by omega), uI_n (by omega), uI_n (by omega), uI_n (by omega), Int.add_zero, uI_s]
  have p1' : (mAddP m q) (413 + 6 * m 2 + 1) = q.2.1 := by unfold mAddP; rw [uI_n (by omega), uI_n (by omega), uI_n (by omega), uI_n (by omega), uI_n (by omega), uI_s]
  have p2' : (mAddP m q) (413 + 6 * m 2 + 2) = q.2.2.1 := by unfold mAddP; rw [uI_n (by omega), uI_n (by omega), uI_n (by omega), uI_n (by omega), uI_s]
  have p3' : (mAddP m q) (413 + 6 * m 2 + 3) = q.2.2.2.1 := by unfold mAddP; rw [uI_n (by omega), uI_n (by omega), uI_n (by omega), uI_s]
  have p4' : (mAddP m q) (413 + 6 * m 2 + 4) = q.2.2.2.2.1 := by unfold mAddP; rw [uI_n (by omega), uI_n (by omega), uI_s]
  have p5' : (mAddP m q) (413 + 6 * m 2 + 5) = q.2.2.2.2.2 := by unfold mAddP; rw [uI_n (by omega), uI_s]
  have ec : ∀ i, crd (mAddP m q) i (m 4).toNat = crd m i (m 4).toNat := fun i => crd_congr fun k hk => by
    have zk := z9 k (by omega)
    have zg := z6 (m (561 + 3 * (k : Int) + 1)) zk.2.1
    refine ⟨e _ (by omega), e _ (by omega), e _ (by omega), e _ (by omega), e _ (by omega)⟩
  have ed : ∀ i, daysM (mAddP m q) i 0 = daysM m i 0 := fun i => days_congr e4 fun k hk => ⟨e _ (by omega), e _ (by omega)⟩
  constructor
  · unfold okM
    rw [e0, e1, e2, e3, e4]
    refine ⟨z0,
      z1,
      by omega,
      z3,
      z4,
      fun j hj => by
      unfold mAddP
      simp only [uI]
      (repeat' split) <;> first | omega | exact z5 j hj,
      fun i hi => by rw [e (5 + 34 * i + 0) (by omega), e (5 + 34 * i + 1) (by omega), e (5 + 34 * i + 2) (by omega)]; exact z6 i hi,
      fun i hi => by
      by_cases hi2 : i < m 2
      · rw [e (413 + 6 * i + 0) (by omega), e (413 + 6 * i + 1) (by omega), e (413 + 6 * i + 2) (by omega), e (413 + 6 * i + 3) (by omega), e (413 + 6 * i + 4) (by omega), e (413 + 6 * i + 5) (by omega)]; exact z7 i ⟨hi.1, hi2⟩
      · have hi3 : i = m 2 := by omega
        subst hi3
        rw [p0', p1', p2', p3', p4', p5']; exact ⟨g1, g2, g3, g4, g6, g7⟩,
      fun i hi => by have zi := z8 i hi; rw [e (461 + 5 * i + 0) (by omega), e (461 + 5 * i + 1) (by omega), e (461 + 5 * i + 2) (by omega), e (461 + 5 * i + 3) (by omega), e (461 + 5 * i + 4) (by omega)]; omega,
      fun k hk => by rw [e (561 + 3 * k + 0) (by omega), e (561 + 3 * k + 1) (by omega), e (561 + 3 * k + 2) (by omega)]; exact z9 k hk⟩
  · unfold MZ
    rw [e0, e1, e2, e3, e4]
    refine ⟨⟨a0, a1, by show zp R + 1 = _; rw [a2], a3⟩,
      fun i hi => by rw [e (5 + 34 * i + 0) (by omega), e (5 + 34 * i + 1) (by omega)]; exact b1 i hi,
      fun i hi => by rw [e (5 + 34 * i + 2) (by omega)]; exact b2 i hi,
      fun i hi => by rw [e (5 + 34 * i + 2) (by omega)]; exact b3 i hi,
      fun i d hi hd => by rw [e (5 + 34 * i + (3 + d)) (by omega)]; exact b4 i d hi hd,
      fun i hi => by
      by_cases hi2 : i < m 2
      · rw [e (413 + 6 * i + 0) (by omega), e (413 + 6 * i + 1) (by omega), e (413 + 6 * i + 2) (by omega), e (413 + 6 * i + 3) (by omega), e (413 + 6 * i + 4) (by omega), e (413 + 6 * i + 5) (by omega)]; show uI (zP R) (zp R) q i = _; rw [uI_n (by omega)]; exact b5 i ⟨hi.1, hi2⟩
      · have hi3 : i = m 2 := by omega
        subst hi3
        rw [p0', p1', p2', p3', p4', p5']; show uI (zP R) (zp R) q (m 2) = _; rw [a2, uI_s],
      fun i hi => by rw [e (461 + 5 * i + 0) (by omega), e (461 + 5 * i + 1) (by omega), e (461 + 5 * i + 2) (by omega), e (461 + 5 * i + 3) (by omega)]; rw [ec]; exact b6 i hi,
      fun i hi => by
      have zi := z8 i hi
      rw [e (461 + 5 * i + 4) (by omega), e (461 + 5 * i + 1) (by omega), e (461 + 5 * i + 0) (by omega), e (413 + 6 * m (461 + 5 * i + 0) + 5) (by omega)]
      exact b7 i hi,
      fun i hi => by
      have zi := z8 i hi
      rw [e (461 + 5 * i + 2) (by omega), e (461 + 5 * i + 0) (by omega)]
      intro hn
      rw [e (461 + 5 * m (461 + 5 * i + 2) + 0) (by omega)]
      exact b8 i hi hn,
      ⟨fun i j h1 h2 h3 => by rw [e (561 + 3 * i + 2) (by omega), e (561 + 3 * j + 2) (by omega)]; exact b9.1 i j h1 h2 h3, fun j hj => by rw [e (561 + 3 * j + 2) (by omega)]; exact b9.2 j hj⟩,
      fun i hi => by
      have zi := z8 i hi
      rw [e (461 + 5 * i + 0) (by omega), e (413 + 6 * m (461 + 5 * i + 0) + 0) (by omega), e (413 + 6 * m (461 + 5 * i + 0) + 1) (by omega)]
      rw [ed]
      exact b10 i hi,
      fun j hj => by rw [e (j) (by omega)]; exact b11 j hj⟩

theorem tb_shut {s x on i : Int} (hs : 0 ≤ s) (hx : 0 ≤ x) (hi : 0 ≤ i) (ho : on = 0 ∨ on = 1) : tb (shutZ s x on) i = if i = x then decide (on = 1) else tb s i := by
  unfold tb shutZ
  rcases ho with rfl | rfl
  · rw [if_neg (by decide), Int.toNat_natCast]
    unfold clrB
    rw [Nat.testBit_xor, Nat.testBit_and, Nat.testBit_two_pow]
    by_cases e : i = x
    · rw [if_pos e, e]; simp
    · rw [if_neg e, decide_eq_false (show ¬ x.toNat = i.toNat by omega)]; simp
  · rw [if_pos rfl, Int.toNat_natCast, Nat.testBit_or, Nat.testBit_two_pow]
    by_cases e : i = x
    · rw [if_pos e, e]; simp
    · rw [if_neg e, decide_eq_false (show ¬ x.toNat = i.toNat by omega), Bool.or_false]

theorem K_shut {m : Int → Int} {R : Rz} (ok : okM m) (h : MZ m R) {x on : Int} (oz : okZ R) (hx : 0 ≤ x ∧ x < m 1) (ho : on = 0 ∨ on = 1) : okM (uI m (5 + 34 * x + 2) on) ∧ MZ (uI m (5 + 34 * x + 2) on) (zShut R (shutZ (zs R) x on)) := by
  obtain ⟨⟨a0, a1, a2, a3⟩, b1, b2, b3, b4, b5, b6, b7, b8, b9, b10, b11⟩ := id h
  obtain ⟨z0, z1, z2, z3, z4, z5, z6, z7, z8, z9⟩ := id ok
  have hs9 := oz.2.2.2.1
  have es : (uI m (5 + 34 * x + 2) on) (5 + 34 * x + 2) = on := uI_s
  have e : ∀ j, j ≠ 5 + 34 * x + 2 → (uI m (5 + 34 * x + 2) on) j = m j := fun j hj => uI_n hj
  have e0 : (uI m (5 + 34 * x + 2) on) 0 = m 0 := e 0 (by omega)
  have e1 : (uI m (5 + 34 * x + 2) on) 1 = m 1 := e 1 (by omega)
  have e2 : (uI m (5 + 34 * x + 2) on) 2 = m 2 := e 2 (by omega)
  have e3 : (uI m (5 + 34 * x + 2) on) 3 = m 3 := e 3 (by omega)
  have e4 : (uI m (5 + 34 * x + 2) on) 4 = m 4 := e 4 (by omega)
  have ec : ∀ i, crd (uI m (5 + 34 * x + 2) on) i (m 4).toNat = crd m i (m 4).toNat := fun i => crd_congr fun k hk => by
    have zk := z9 k (by omega)
    have zg := z6 (m (561 + 3 * (k : Int) + 1)) zk.2.1
    refine ⟨e _ (by omega), e _ (by omega), e _ (by omega), e _ (by omega), e _ (by omega)⟩
  have ed : ∀ i, daysM (uI m (5 + 34 * x + 2) on) i 0 = daysM m i 0 := fun i => days_congr e4 fun k hk => ⟨e _ (by omega), e _ (by omega)⟩
  constructor
  · unfold okM
    rw [e0, e1, e2, e3, e4]
    refine ⟨z0,
      z1,
      z2,
      z3,
      z4,
      fun j hj => by
      simp only [uI]
      split
      · omega
      · exact z5 j hj,
      fun i hi => by
      have zi := z6 i hi
      rw [e (5 + 34 * i + 0) (by omega), e (5 + 34 * i + 1) (by omega)]
      refine ⟨zi.1, zi.2.1, ?_⟩
      by_cases ei : i = x
      · rw [ei, es]; omega
      · rw [e (5 + 34 * i + 2) (by omega)]; exact zi.2.2,
      fun i hi => by rw [e (413 + 6 * i + 0) (by omega), e (413 + 6 * i + 1) (by omega), e (413 + 6 * i + 2) (by omega), e (413 + 6 * i + 3) (by omega), e (413 + 6 * i + 4) (by omega), e (413 + 6 * i + 5) (by omega)]; exact z7 i hi,
      fun i hi => by rw [e (461 + 5 * i + 0) (by omega), e (461 + 5 * i + 1) (by omega), e (461 + 5 * i + 2) (by omega), e (461 + 5 * i + 3) (by omega), e (461 + 5 * i + 4) (by omega)]; exact z8 i hi,
      fun k hk => by rw [e (561 + 3 * k + 0) (by omega), e (561 + 3 * k + 1) (by omega), e (561 + 3 * k + 2) (by omega)]; exact z9 k hk⟩
  · unfold MZ
    rw [e0, e1, e2, e3, e4]
    refine ⟨⟨a0, a1, a2, a3⟩,
      fun i hi => by rw [e (5 + 34 * i + 0) (by omega), e (5 + 34 * i + 1) (by omega)]; exact b1 i hi,
      fun i hi => by
      show tb (shutZ (zs R) x on) i = true ↔ _
      rw [tb_shut hs9.1 hx.1 hi.1 ho]
      by_cases ei : i = x
      · rw [if_pos ei, ei, es, decide_eq_true_eq]
      · rw [if_neg ei, e (5 + 34 * i + 2) (by omega)]; exact b2 i hi,
      fun i hi => by rw [e (5 + 34 * i + 2) (by omega)]; exact b3 i hi,
      fun i d hi hd => by rw [e (5 + 34 * i + (3 + d)) (by omega)]; exact b4 i d hi hd,
      fun i hi => by rw [e (413 + 6 * i + 0) (by omega), e (413 + 6 * i + 1) (by omega), e (413 + 6 * i + 2) (by omega), e (413 + 6 * i + 3) (by omega), e (413 + 6 * i + 4) (by omega), e (413 + 6 * i + 5) (by omega)]; exact b5 i hi,
      fun i hi => by rw [e (461 + 5 * i + 0) (by omega), e (461 + 5 * i + 1) (by omega), e (461 + 5 * i + 2) (by omega), e (461 + 5 * i + 3) (by omega)]; rw [ec]; exact b6 i hi,
      fun i hi => by
      have zi := z8 i hi
      rw [e (461 + 5 * i + 4) (by omega), e (461 + 5 * i + 1) (by omega), e (461 + 5 * i + 0) (by omega), e (413 + 6 * m (461 + 5 * i + 0) + 5) (by omega)]
      exact b7 i hi,
      fun i hi => by
      have zi := z8 i hi
      rw [e (461 + 5 * i + 2) (by omega), e (461 + 5 * i + 0) (by omega)]
      intro hn
      rw [e (461 + 5 * m (461 + 5 * i + 2) + 0) (by omega)]
      exact b8 i hi hn,
      ⟨fun i j h1 h2 h3 => by rw [e (561 + 3 * i + 2) (by omega), e (561 + 3 * j + 2) (by omega)]; exact b9.1 i j h1 h2 h3, fun j hj => by rw [e (561 + 3 * j + 2) (by omega)]; exact b9.2 j hj⟩,
      fun i hi => by
      have zi := z8 i hi
      rw [e (461 + 5 * i + 0) (by omega), e (413 + 6 * m (461 + 5 * i + 0) + 0) (by omega), e (413 + 6 * m (461 + 5 * i + 0) + 1) (by omega)]
      rw [ed]
      exact b10 i hi,
      fun j hj => by rw [e (j) (by omega)]; exact b11 j hj⟩

theorem K_block {m : Int → Int} {R : Rz} (ok : okM m) (h : MZ m R) {x on : Int} (hx : 0 ≤ x ∧ x < m 3) (hs : m (461 + 5 * x + 1) ≤ 1) (ho : on = 0 ∨ on = 1) : okM (uI m (461 + 5 * x + 1) on) ∧ MZ (uI m (461 + 5 * x + 1) on) (zBlk R x on) := by
  obtain ⟨⟨a0, a1, a2, a3⟩, b1, b2, b3, b4, b5, b6, b7, b8, b9, b10, b11⟩ := id h
  obtain ⟨z0, z1, z2, z3, z4, z5, z6, z7, z8, z9⟩ := id ok
  have es : (uI m (461 + 5 * x + 1) on) (461 + 5 * x + 1) = on := uI_s
  have zx := z8 x hx
  have e : ∀ j, j ≠ 461 + 5 * x + 1 → (uI m (461 + 5 * x + 1) on) j = m j := fun j hj => uI_n hj
  have e0 : (uI m (461 + 5 * x + 1) on) 0 = m 0 := e 0 (by omega)
  have e1 : (uI m (461 + 5 * x + 1) on) 1 = m 1 := e 1 (by omega)
  have e2 : (uI m (461 + 5 * x + 1) on) 2 = m 2 := e 2 (by omega)
  have e3 : (uI m (461 + 5 * x + 1) on) 3 = m 3 := e 3 (by omega)
  have e4 : (uI m (461 + 5 * x + 1) on) 4 = m 4 := e 4 (by omega)
  have ec : ∀ i, crd (uI m (461 + 5 * x + 1) on) i (m 4).toNat = crd m i (m 4).toNat := fun i => crd_congr fun k hk => by
    have zk := z9 k (by omega)
    have zg := z6 (m (561 + 3 * (k : Int) + 1)) zk.2.1
    refine ⟨e _ (by omega), e _ (by omega), e _ (by omega), e _ (by omega), e _ (by omega)⟩
  have ed : ∀ i, daysM (uI m (461 + 5 * x + 1) on) i 0 = daysM m i 0 := fun i => days_congr e4 fun k hk => ⟨e _ (by omega), e _ (by omega)⟩
  constructor
  · unfold okM
    rw [e0, e1, e2, e3, e4]
    refine ⟨z0,
      z1,
      z2,
      z3,
      z4,
      fun j hj => by
      simp only [uI]
      split
      · omega
      · exact z5 j hj,
      fun i hi => by rw [e (5 + 34 * i + 0) (by omega), e (5 + 34 * i + 1) (by omega), e (5 + 34 * i + 2) (by omega)]; exact z6 i hi,
      fun i hi => by rw [e (413 + 6 * i + 0) (by omega), e (413 + 6 * i + 1) (by omega), e (413 + 6 * i + 2) (by omega), e (413 + 6 * i + 3) (by omega), e (413 + 6 * i + 4) (by omega), e (413 + 6 * i + 5) (by omega)]; exact z7 i hi,
      fun i hi => by
      have zi := z8 i hi
      rw [e (461 + 5 * i + 0) (by omega), e (461 + 5 * i + 2) (by omega), e (461 + 5 * i + 3) (by omega), e (461 + 5 * i + 4) (by omega)]
      by_cases ei : i = x
      · rw [ei, es]; rw [ei] at zi; omega
      · rw [e (461 + 5 * i + 1) (by omega)]; exact zi,
      fun k hk => by rw [e (561 + 3 * k + 0) (by omega), e (561 + 3 * k + 1) (by omega), e (561 + 3 * k + 2) (by omega)]; exact z9 k hk⟩
  · unfold MZ
    rw [e0, e1, e2, e3, e4]
    refine ⟨⟨a0, a1, a2, a3⟩,
      fun i hi => by rw [e (5 + 34 * i + 0) (by omega), e (5 + 34 * i + 1) (by omega)]; exact b1 i hi,
      fun i hi => by rw [e (5 + 34 * i + 2) (by omega)]; exact b2 i hi,
      fun i hi => by rw [e (5 + 34 * i + 2) (by omega)]; exact b3 i hi,
      fun i d hi hd => by rw [e (5 + 34 * i + (3 + d)) (by omega)]; exact b4 i d hi hd,
      fun i hi => by rw [e (413 + 6 * i + 0) (by omega), e (413 + 6 * i + 1) (by omega), e (413 + 6 * i + 2) (by omega), e (413 + 6 * i + 3) (by omega), e (413 + 6 * i + 4) (by omega), e (413 + 6 * i + 5) (by omega)]; exact b5 i hi,
      fun i hi => by
      show uI (zC R) x ((zC R x).1, on, (zC R x).2.2) i = _
      rw [e (461 + 5 * i + 0) (by omega), e (461 + 5 * i + 2) (by omega), e (461 + 5 * i + 3) (by omega), ec]
      by_cases ei : i = x
      · rw [ei, es, uI_s, b6 x hx]
      · rw [e (461 + 5 * i + 1) (by omega), uI_n ei]; exact b6 i hi,
      fun i hi => by
      have zi := z8 i hi
      have b7i := b7 i hi
      rw [e (461 + 5 * i + 4) (by omega), e (461 + 5 * i + 0) (by omega), e (413 + 6 * m (461 + 5 * i + 0) + 5) (by omega)]
      by_cases ei : i = x
      · rw [ei, es]; rw [ei] at b7i; rw [b7i, if_neg (by omega), if_neg (by omega)]
      · rw [e (461 + 5 * i + 1) (by omega)]; exact b7i,
      fun i hi => by
      have zi := z8 i hi
      rw [e (461 + 5 * i + 2) (by omega), e (461 + 5 * i + 0) (by omega)]
      intro hn
      rw [e (461 + 5 * m (461 + 5 * i + 2) + 0) (by omega)]
      exact b8 i hi hn,
      ⟨fun i j h1 h2 h3 => by rw [e (561 + 3 * i + 2) (by omega), e (561 + 3 * j + 2) (by omega)]; exact b9.1 i j h1 h2 h3, fun j hj => by rw [e (561 + 3 * j + 2) (by omega)]; exact b9.2 j hj⟩,
      fun i hi => by
      have zi := z8 i hi
      rw [e (461 + 5 * i + 0) (by omega), e (413 + 6 * m (461 + 5 * i + 0) + 0) (by omega), e (413 + 6 * m (461 + 5 * i + 0) + 1) (by omega)]
      rw [ed]
      exact b10 i hi,
      fun j hj => by rw [e (j) (by omega)]; exact b11 j hj⟩

theorem K_pay {m : Int → Int} {R : Rz} (ok : okM m) (h : MZ m R) {x r : Int} (hx : 0 ≤ x ∧ x < m 3) (hs : m (461 + 5 * x + 1) ≤ 1) (hr : 0 ≤ r ∧ r ≤ 400000) : okM (uI (uI m (461 + 5 * x + 1) 3) (461 + 5 * x + 3) r) ∧ MZ (uI (uI m (461 + 5 * x + 1) 3) (461 + 5 * x + 3) r) (zSetC R x ((zC R x).1, 3, (zC R x).2.2.1, r, (zC R x).2.2.2.2)) := by
  obtain ⟨⟨a0, a1, a2, a3⟩, b1, b2, b3, b4, b5, b6, b7, b8, b9, b10, b11⟩ := id h
  obtain ⟨z0, z1, z2, z3, z4, z5, z6, z7, z8, z9⟩ := id ok
  have es : (uI (uI m (461 + 5 * x + 1) 3) (461 + 5 * x + 3) r) (461 + 5 * x + 1) = 3 := by rw [uI_n (by omega), uI_s]
  have et : (uI (uI m (461 + 5 * x + 1) 3) (461 + 5 * x + 3) r) (461 + 5 * x + 3) = r := uI_s
  have zx := z8 x hx
  have e : ∀ j, (j ≠ 461 + 5 * x + 1 ∧ j ≠ 461 + 5 * x + 3) → (uI (uI m (461 + 5 * x + 1) 3) (461 + 5 * x + 3) r) j = m j := fun j hj => by rw [uI_n hj.2, uI_n hj.1]
  have e0 : (uI (uI m (461 + 5 * x + 1) 3) (461 + 5 * x + 3) r) 0 = m 0 := e 0 (by omega)
  have e1 : (uI (uI m (461 + 5 * x + 1) 3) (461 + 5 * x + 3) r) 1 = m 1 := e 1 (by omega)
  have e2 : (uI (uI m (461 + 5 * x + 1) 3) (461 + 5 * x + 3) r) 2 = m 2 := e 2 (by omega)
  have e3 : (uI (uI m (461 + 5 * x + 1) 3) (461 + 5 * x + 3) r) 3 = m 3 := e 3 (by omega)
  have e4 : (uI (uI m (461 + 5 * x + 1) 3) (461 + 5 * x + 3) r) 4 = m 4 := e 4 (by omega)
  have ec : ∀ i, crd (uI (uI m (461 + 5 * x + 1) 3) (461 + 5 * x + 3) r) i (m 4).toNat = crd m i (m 4).toNat := fun i => crd_congr fun k hk => by
    have zk := z9 k (by omega)
    have zg := z6 (m (561 + 3 * (k : Int) + 1)) zk.2.1
    refine ⟨e _ (by omega), e _ (by omega), e _ (by omega), e _ (by omega), e _ (by omega)⟩
  have ed : ∀ i, daysM (uI (uI m (461 + 5 * x + 1) 3) (461 + 5 * x + 3) r) i 0 = daysM m i 0 := fun i => days_congr e4 fun k hk => ⟨e _ (by omega), e _ (by omega)⟩
  constructor
  · unfold okM
    rw [e0, e1, e2, e3, e4]
    refine ⟨z0,
      z1,
      z2,
      z3,
      z4,
      fun j hj => by
      simp only [uI]
      (repeat' split) <;> first | omega | exact z5 j hj,
      fun i hi => by rw [e (5 + 34 * i + 0) (by omega), e (5 + 34 * i + 1) (by omega), e (5 + 34 * i + 2) (by omega)]; exact z6 i hi,
      fun i hi => by rw [e (413 + 6 * i + 0) (by omega), e (413 + 6 * i + 1) (by omega), e (413 + 6 * i + 2) (by omega), e (413 + 6 * i + 3) (by omega), e (413 + 6 * i + 4) (by omega), e (413 + 6 * i + 5) (by omega)]; exact z7 i hi,
      fun i hi => by
      have zi := z8 i hi
      rw [e (461 + 5 * i + 0) (by omega), e (461 + 5 * i + 2) (by omega), e (461 + 5 * i + 4) (by omega)]
      by_cases ei : i = x
      · rw [ei, es, et]; rw [ei] at zi; omega
      · rw [e (461 + 5 * i + 1) (by omega), e (461 + 5 * i + 3) (by omega)]; exact zi,
      fun k hk => by rw [e (561 + 3 * k + 0) (by omega), e (561 + 3 * k + 1) (by omega), e (561 + 3 * k + 2) (by omega)]; exact z9 k hk⟩
  · unfold MZ
    rw [e0, e1, e2, e3, e4]
    refine ⟨⟨a0, a1, a2, a3⟩,
      fun i hi => by rw [e (5 + 34 * i + 0) (by omega), e (5 + 34 * i + 1) (by omega)]; exact b1 i hi,
      fun i hi => by rw [e (5 + 34 * i + 2) (by omega)]; exact b2 i hi,
      fun i hi => by rw [e (5 + 34 * i + 2) (by omega)]; exact b3 i hi,
      fun i d hi hd => by rw [e (5 + 34 * i + (3 + d)) (by omega)]; exact b4 i d hi hd,
      fun i hi => by rw [e (413 + 6 * i + 0) (by omega), e (413 + 6 * i + 1) (by omega), e (413 + 6 * i + 2) (by omega), e (413 + 6 * i + 3) (by omega), e (413 + 6 * i + 4) (by omega), e (413 + 6 * i + 5) (by omega)]; exact b5 i hi,
      fun i hi => by
      show uI (zC R) x ((zC R x).1, 3, (zC R x).2.2.1, r, (zC R x).2.2.2.2) i = _
      rw [e (461 + 5 * i + 0) (by omega), e (461 + 5 * i + 2) (by omega), ec]
      by_cases ei : i = x
      · rw [ei, es, et, uI_s, b6 x hx]
      · rw [e (461 + 5 * i + 1) (by omega), e (461 + 5 * i + 3) (by omega), uI_n ei]; exact b6 i hi,
      fun i hi => by
      have zi := z8 i hi
      have b7i := b7 i hi
      rw [e (461 + 5 * i + 4) (by omega), e (461 + 5 * i + 0) (by omega), e (413 + 6 * m (461 + 5 * i + 0) + 5) (by omega)]
      by_cases ei : i = x
      · rw [ei, es]; rw [ei] at b7i; rw [b7i, if_neg (by omega), if_neg (by omega)]
      · rw [e (461 + 5 * i + 1) (by omega)]; exact b7i,
      fun i hi => by
      have zi := z8 i hi
      rw [e (461 + 5 * i + 2) (by omega), e (461 + 5 * i + 0) (by omega)]
      intro hn
      rw [e (461 + 5 * m (461 + 5 * i + 2) + 0) (by omega)]
      exact b8 i hi hn,
      ⟨fun i j h1 h2 h3 => by rw [e (561 + 3 * i + 2) (by omega), e (561 + 3 * j + 2) (by omega)]; exact b9.1 i j h1 h2 h3, fun j hj => by rw [e (561 + 3 * j + 2) (by omega)]; exact b9.2 j hj⟩,
      fun i hi => by
      have zi := z8 i hi
      rw [e (461 + 5 * i + 0) (by omega), e (413 + 6 * m (461 + 5 * i + 0) + 0) (by omega), e (413 + 6 * m (461 + 5 * i + 0) + 1) (by omega)]
      rw [ed]
      exact b10 i hi,
      fun j hj => by rw [e (j) (by omega)]; exact b11 j hj⟩

theorem goF_n {m : Int → Int} {x j : Int} (h : j ≠ 0 ∧ (j < 5 ∨ (j - 5) % 34 < 3 ∨ 413 ≤ j)) (h1 : m 1 ≤ 12) : goF m x j = m j := goF_h h.1 h.2 h1
theorem cbZ_rng {f x d : Int} (hx : 0 ≤ x) : 0 ≤ cbZ f (f + x) d ∧ cbZ f (f + x) d ≤ 480 := by unfold cbZ; omega

theorem K_time {m : Int → Int} {R : Rz} (ok : okM m) (h : MZ m R) {x : Int} (oz : okZ (zTime R (zk R + x) (goL R x))) (hx : 0 ≤ x) (hl : m 0 + x ≤ 43200) : okM (goF m x) ∧ MZ (goF m x) (zTime R (zk R + x) (goL R x)) := by
  obtain ⟨⟨a0, a1, a2, a3⟩, b1, b2, b3, b4, b5, b6, b7, b8, b9, b10, b11⟩ := id h
  obtain ⟨z0, z1, z2, z3, z4, z5, z6, z7, z8, z9⟩ := id ok
  have e : ∀ j, (j ≠ 0 ∧ (j < 5 ∨ (j - 5) % 34 < 3 ∨ 413 ≤ j)) → (goF m x) j = m j := fun j hj => goF_n hj z1.2
  have e1 : (goF m x) 1 = m 1 := e 1 (by omega)
  have e2 : (goF m x) 2 = m 2 := e 2 (by omega)
  have e3 : (goF m x) 3 = m 3 := e 3 (by omega)
  have e4 : (goF m x) 4 = m 4 := e 4 (by omega)
  have e0 : (goF m x) 0 = m 0 + x := goF_c
  have eL : ∀ i d, 0 ≤ i ∧ i < 12 → 0 ≤ d ∧ d ≤ 30 → goL R x (i * 31 + d) = goF m x (5 + 34 * i + (3 + d)) := by
    intro i d hi hd
    unfold goL goF
    rw [if_neg (show ¬ 5 + 34 * i + (3 + d) = 0 by omega), show (i * 31 + d) / 31 = i by omega, show (i * 31 + d) % 31 = d by omega, show (5 + 34 * i + (3 + d) - 5) / 34 = i by omega, show (5 + 34 * i + (3 + d) - 5) % 34 - 3 = d by omega, b4 i d hi hd, a0, a1]
    have h2 := b2 i hi
    by_cases hg : i < m 1
    · rw [if_pos (show 5 ≤ 5 + 34 * i + (3 + d) ∧ 5 + 34 * i + (3 + d) < 5 + 34 * m 1 ∧ 3 ≤ (5 + 34 * i + (3 + d) - 5) % 34 by omega)]
      have zi := (z6 i ⟨hi.1, hg⟩).2.2
      by_cases ht : tb (zs R) i = true
      · rw [if_pos ⟨hg, ht⟩, h2.1 ht, Int.one_mul]
      · have : m (5 + 34 * i + 2) = 0 := by
          have : ¬ m (5 + 34 * i + 2) = 1 := fun h => ht (h2.2 h)
          omega
        rw [if_neg (fun h => ht h.2), this, Int.zero_mul]
    · rw [if_neg (fun h => hg h.1), if_neg (by omega), Int.add_zero]
  have ec : ∀ i, crd (goF m x) i (m 4).toNat = crd m i (m 4).toNat := fun i => crd_congr fun k hk => by
    have zk := z9 k (by omega)
    have zg := z6 (m (561 + 3 * (k : Int) + 1)) zk.2.1
    refine ⟨e _ (by omega), e _ (by omega), e _ (by omega), e _ (by omega), e _ (by omega)⟩
  have ed : ∀ i, daysM (goF m x) i 0 = daysM m i 0 := fun i => days_congr e4 fun k hk => ⟨e _ (by omega), e _ (by omega)⟩
  constructor
  · unfold okM
    rw [e0, e1, e2, e3, e4]
    refine ⟨by omega,
      z1,
      z2,
      z3,
      z4,
      fun j hj => by
      by_cases hj0 : j = 0
      · subst hj0; rw [e0]; omega
      · by_cases hj1 : j < 5 ∨ (j - 5) % 34 < 3 ∨ 413 ≤ j
        · rw [e j ⟨hj0, hj1⟩]; exact z5 j hj
        · have h9 := eL ((j - 5) / 34) ((j - 5) % 34 - 3) (by omega) (by omega)
          rw [show 5 + 34 * ((j - 5) / 34) + (3 + ((j - 5) % 34 - 3)) = j by omega] at h9
          have h10 := oz.2.2.2.2.2.2.2.2 ((j - 5) / 34 * 31 + ((j - 5) % 34 - 3)) (by omega)
          rw [show zL (zTime R (zk R + x) (goL R x)) ((j - 5) / 34 * 31 + ((j - 5) % 34 - 3)) = goF m x j from h9] at h10
          have h11 := cbZ_rng (f := 0) (x := zk (zTime R (zk R + x) (goL R x))) (d := ((j - 5) / 34 * 31 + ((j - 5) % 34 - 3)) % 31) (by show 0 ≤ zk R + x; omega)
          rw [Int.zero_add] at h11
          omega,
      fun i hi => by rw [e (5 + 34 * i + 0) (by omega), e (5 + 34 * i + 1) (by omega), e (5 + 34 * i + 2) (by omega)]; exact z6 i hi,
      fun i hi => by rw [e (413 + 6 * i + 0) (by omega), e (413 + 6 * i + 1) (by omega), e (413 + 6 * i + 2) (by omega), e (413 + 6 * i + 3) (by omega), e (413 + 6 * i + 4) (by omega), e (413 + 6 * i + 5) (by omega)]; exact z7 i hi,
      fun i hi => by rw [e (461 + 5 * i + 0) (by omega), e (461 + 5 * i + 1) (by omega), e (461 + 5 * i + 2) (by omega), e (461 + 5 * i + 3) (by omega), e (461 + 5 * i + 4) (by omega)]; exact z8 i hi,
      fun k hk => by rw [e (561 + 3 * k + 0) (by omega), e (561 + 3 * k + 1) (by omega), e (561 + 3 * k + 2) (by omega)]; exact z9 k hk⟩
  · unfold MZ
    rw [e0, e1, e2, e3, e4]
    refine ⟨⟨by show zk R + x = _; rw [a0], a1, a2, a3⟩,
      fun i hi => by rw [e (5 + 34 * i + 0) (by omega), e (5 + 34 * i + 1) (by omega)]; exact b1 i hi,
      fun i hi => by rw [e (5 + 34 * i + 2) (by omega)]; exact b2 i hi,
      fun i hi => by rw [e (5 + 34 * i + 2) (by omega)]; exact b3 i hi,
      eL,
      fun i hi => by rw [e (413 + 6 * i + 0) (by omega), e (413 + 6 * i + 1) (by omega), e (413 + 6 * i + 2) (by omega), e (413 + 6 * i + 3) (by omega), e (413 + 6 * i + 4) (by omega), e (413 + 6 * i + 5) (by omega)]; exact b5 i hi,
      fun i hi => by rw [e (461 + 5 * i + 0) (by omega), e (461 + 5 * i + 1) (by omega), e (461 + 5 * i + 2) (by omega), e (461 + 5 * i + 3) (by omega)]; rw [ec]; exact b6 i hi,
      fun i hi => by
      have zi := z8 i hi
      rw [e (461 + 5 * i + 4) (by omega), e (461 + 5 * i + 1) (by omega), e (461 + 5 * i + 0) (by omega), e (413 + 6 * m (461 + 5 * i + 0) + 5) (by omega)]
      exact b7 i hi,
      fun i hi => by
      have zi := z8 i hi
      rw [e (461 + 5 * i + 2) (by omega), e (461 + 5 * i + 0) (by omega)]
      intro hn
      rw [e (461 + 5 * m (461 + 5 * i + 2) + 0) (by omega)]
      exact b8 i hi hn,
      ⟨fun i j h1 h2 h3 => by rw [e (561 + 3 * i + 2) (by omega), e (561 + 3 * j + 2) (by omega)]; exact b9.1 i j h1 h2 h3, fun j hj => by have := b9.2 j hj; rw [e (561 + 3 * j + 2) (by omega)]; omega⟩,
      fun i hi => by
      have zi := z8 i hi
      rw [e (461 + 5 * i + 0) (by omega), e (413 + 6 * m (461 + 5 * i + 0) + 0) (by omega), e (413 + 6 * m (461 + 5 * i + 0) + 1) (by omega)]
      rw [ed]
      exact b10 i hi,
      fun j hj => by rw [e (j) (by omega)]; exact b11 j hj⟩

theorem crd_none {m : Int → Int} {x : Int} {n : Nat} (h : ∀ k : Nat, k < n → m (561 + 3 * (k : Int) + 0) ≠ x) : crd m x n = [] := by
  induction n with
  | zero => rfl
  | succ n ih => rw [crd, if_neg (h n (by omega)), ih (fun k hk => h k (by omega))]

theorem K_come {m : Int → Int} {R : Rz} (ok : okM m) (h : MZ m R) {p c : Int} (hp : 0 ≤ p ∧ p < m 2) (hc : c = m (413 + 6 * p + 5)) (h1 : m 3 < 20) : okM (comeM m p c) ∧ MZ (comeM m p c) (zAddC R (p, 0, -1, 0, [])) := by
  obtain ⟨⟨a0, a1, a2, a3⟩, b1, b2, b3, b4, b5, b6, b7, b8, b9, b10, b11⟩ := id h
  obtain ⟨z0, z1, z2, z3, z4, z5, z6, z7, z8, z9⟩ := id ok
  have zp := z7 p hp
  have e : ∀ j, (j ≠ 3 ∧ (j < 461 + 5 * m 3 ∨ 465 + 5 * m 3 < j)) → (comeM m p c) j = m j := fun j hj => comeM_n z3.1 hj.1 hj.2
  have e0 : (comeM m p c) 0 = m 0 := e 0 (by omega)
  have e1 : (comeM m p c) 1 = m 1 := e 1 (by omega)
  have e2 : (comeM m p c) 2 = m 2 := e 2 (by omega)
  have e4 : (comeM m p c) 4 = m 4 := e 4 (by omega)
  have e3 : (comeM m p c) 3 = m 3 + 1 := comeM_3 z3.1
  have c0 : (comeM m p c) (461 + 5 * m 3 + 0) = p := by unfold comeM come5; rw [uI_n (by omega), uI_n (by omega), uI_n (by omega), uI_n (by omega), uI_n (by omega), uI_s]
  have c1 : (comeM m p c) (461 + 5 * m 3 + 1) = 0 := by unfold comeM come5; rw [uI_n (by omega), uI_n (by omega), uI_n (by omega), uI_n (by omega), uI_s]
  have c2 : (comeM m p c) (461 + 5 * m 3 + 2) = (-1) := by unfold comeM come5; rw [uI_n (by omega), uI_n (by omega), uI_n (by omega), uI_s]
  have c3 : (comeM m p c) (461 + 5 * m 3 + 3) = 0 := by unfold comeM come5; rw [uI_n (by omega), uI_n (by omega), uI_s]
  have c4 : (comeM m p c) (461 + 5 * m 3 + 4) = c := by unfold comeM come5; rw [uI_n (by omega), uI_s]
  have en : crd m (m 3) (m 4).toNat = [] := crd_none fun k hk => by have := (z9 k (by omega)).1; omega
  have dn : daysM m (m 3) 0 = 0 := by rw [← daysM_popc ok, en]; decide
  have ec : ∀ i, crd (comeM m p c) i (m 4).toNat = crd m i (m 4).toNat := fun i => crd_congr fun k hk => by
    have zk := z9 k (by omega)
    have zg := z6 (m (561 + 3 * (k : Int) + 1)) zk.2.1
    refine ⟨e _ (by omega), e _ (by omega), e _ (by omega), e _ (by omega), e _ (by omega)⟩
  have ed : ∀ i, daysM (comeM m p c) i 0 = daysM m i 0 := fun i => days_congr e4 fun k hk => ⟨e _ (by omega), e _ (by omega)⟩
  constructor
  · unfold okM
    rw [e0, e1, e2, e3, e4]
    refine ⟨z0,
      z1,
      z2,
      by omega,
      z4,
      fun j hj => by
      unfold comeM come5
      simp only [uI]
      (repeat' split) <;> first | omega | exact z5 j hj,
      fun i hi => by rw [e (5 + 34 * i + 0) (by omega), e (5 + 34 * i + 1) (by omega), e (5 + 34 * i + 2) (by omega)]; exact z6 i hi,
      fun i hi => by rw [e (413 + 6 * i + 0) (by omega), e (413 + 6 * i + 1) (by omega), e (413 + 6 * i + 2) (by omega), e (413 + 6 * i + 3) (by omega), e (413 + 6 * i + 4) (by omega), e (413 + 6 * i + 5) (by omega)]; exact z7 i hi,
      fun i hi => by
      by_cases hi2 : i < m 3
      · have zi := z8 i ⟨hi.1, hi2⟩; rw [e (461 + 5 * i + 0) (by omega), e (461 + 5 * i + 1) (by omega), e (461 + 5 * i + 2) (by omega), e (461 + 5 * i + 3) (by omega), e (461 + 5 * i + 4) (by omega)]; omega
      · have hi3 : i = m 3 := by omega
        subst hi3
        rw [c0, c1, c2, c3, c4]; omega,
      fun k hk => by have zk := z9 k hk; rw [e (561 + 3 * k + 0) (by omega), e (561 + 3 * k + 1) (by omega), e (561 + 3 * k + 2) (by omega)]; omega⟩
  · unfold MZ
    rw [e0, e1, e2, e3, e4]
    refine ⟨⟨a0, a1, a2, by show zc R + 1 = _; rw [a3]⟩,
      fun i hi => by rw [e (5 + 34 * i + 0) (by omega), e (5 + 34 * i + 1) (by omega)]; exact b1 i hi,
      fun i hi => by rw [e (5 + 34 * i + 2) (by omega)]; exact b2 i hi,
      fun i hi => by rw [e (5 + 34 * i + 2) (by omega)]; exact b3 i hi,
      fun i d hi hd => by rw [e (5 + 34 * i + (3 + d)) (by omega)]; exact b4 i d hi hd,
      fun i hi => by rw [e (413 + 6 * i + 0) (by omega), e (413 + 6 * i + 1) (by omega), e (413 + 6 * i + 2) (by omega), e (413 + 6 * i + 3) (by omega), e (413 + 6 * i + 4) (by omega), e (413 + 6 * i + 5) (by omega)]; exact b5 i hi,
      fun i hi => by
      by_cases hi2 : i < m 3
      · rw [e (461 + 5 * i + 0) (by omega), e (461 + 5 * i + 1) (by omega), e (461 + 5 * i + 2) (by omega), e (461 + 5 * i + 3) (by omega)]; rw [ec]; show uI (zC R) (zc R) (p, 0, -1, 0, []) i = _; rw [uI_n (by omega)]; exact b6 i ⟨hi.1, hi2⟩
      · have hi3 : i = m 3 := by omega
        subst hi3
        rw [c0, c1, c2, c3, ec, en]; show uI (zC R) (zc R) (p, 0, -1, 0, []) (m 3) = _; rw [a3, uI_s],
      fun i hi => by
      by_cases hi2 : i < m 3
      · have zi := z8 i ⟨hi.1, hi2⟩; rw [e (461 + 5 * i + 4) (by omega), e (461 + 5 * i + 1) (by omega), e (461 + 5 * i + 0) (by omega), e (413 + 6 * m (461 + 5 * i + 0) + 5) (by omega)]; exact b7 i ⟨hi.1, hi2⟩
      · have hi3 : i = m 3 := by omega
        subst hi3
        rw [c4, c1, c0, e (413 + 6 * p + 5) (by omega), if_neg (by decide)]; exact hc,
      fun i hi => by
      by_cases hi2 : i < m 3
      · have zi := z8 i ⟨hi.1, hi2⟩
        rw [e (461 + 5 * i + 2) (by omega), e (461 + 5 * i + 0) (by omega)]
        intro hn
        rw [e (461 + 5 * m (461 + 5 * i + 2) + 0) (by omega)]
        exact b8 i ⟨hi.1, hi2⟩ hn
      · have hi3 : i = m 3 := by omega
        subst hi3
        rw [c2]; intro hn; exact absurd rfl hn,
      ⟨fun i j h1 h2 h3 => by rw [e (561 + 3 * i + 2) (by omega), e (561 + 3 * j + 2) (by omega)]; exact b9.1 i j h1 h2 h3, fun j hj => by rw [e (561 + 3 * j + 2) (by omega)]; exact b9.2 j hj⟩,
      fun i hi => by
      by_cases hi2 : i < m 3
      · have zi := z8 i ⟨hi.1, hi2⟩
        rw [e (461 + 5 * i + 0) (by omega), e (413 + 6 * m (461 + 5 * i + 0) + 0) (by omega), e (413 + 6 * m (461 + 5 * i + 0) + 1) (by omega)]
        rw [ed]
        exact b10 i ⟨hi.1, hi2⟩
      · have hi3 : i = m 3 := by omega
        subst hi3
        rw [c0, ed, dn, e (413 + 6 * p + 1) (by omega)]; intro _; omega,
      fun j hj => by rw [e (j) (by omega)]; exact b11 j hj⟩

