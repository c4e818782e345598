/-! ===== the row and the resort ===== -/
def MZ (m : Int → Int) (R : Rz) : Prop :=
  (zk R = m 0 ∧ zg R = m 1 ∧ zp R = m 2 ∧ zc R = m 3) ∧
  (∀ i, 0 ≤ i ∧ i < m 1 → zG R i = (m (5 + 34 * i + 0), m (5 + 34 * i + 1))) ∧
  (∀ i, 0 ≤ i ∧ i < 12 → (tb (zs R) i = true ↔ m (5 + 34 * i + 2) = 1)) ∧
  (∀ i, m 1 ≤ i ∧ i < 12 → m (5 + 34 * i + 2) = 0) ∧
  (∀ i d, 0 ≤ i ∧ i < 12 → 0 ≤ d ∧ d ≤ 30 → zL R (i * 31 + d) = m (5 + 34 * i + (3 + d))) ∧
  (∀ i, 0 ≤ i ∧ i < m 2 → zP R i = (m (413 + 6 * i + 0), m (413 + 6 * i + 1), m (413 + 6 * i + 2), m (413 + 6 * i + 3), m (413 + 6 * i + 4), m (413 + 6 * i + 5))) ∧
  (∀ i, 0 ≤ i ∧ i < m 3 → zC R i = (m (461 + 5 * i + 0), m (461 + 5 * i + 1), m (461 + 5 * i + 2), m (461 + 5 * i + 3), crd m i (m 4).toNat)) ∧
  (∀ i, 0 ≤ i ∧ i < m 3 → m (461 + 5 * i + 4) = if m (461 + 5 * i + 1) = 2 then 0 else m (413 + 6 * m (461 + 5 * i + 0) + 5)) ∧
  (∀ i, 0 ≤ i ∧ i < m 3 → m (461 + 5 * i + 2) ≠ -1 → m (461 + 5 * m (461 + 5 * i + 2) + 0) = m (461 + 5 * i + 0)) ∧
  ((∀ i j, 0 ≤ i → i ≤ j → j < m 4 → m (561 + 3 * i + 2) ≤ m (561 + 3 * j + 2)) ∧ ∀ j, 0 ≤ j ∧ j < m 4 → m (561 + 3 * j + 2) ≤ m 0) ∧
  (∀ i, 0 ≤ i ∧ i < m 3 → m (413 + 6 * m (461 + 5 * i + 0) + 0) = 1 → daysM m i 0 ≤ m (413 + 6 * m (461 + 5 * i + 0) + 1)) ∧
  (∀ j, j < 0 ∨ 3561 ≤ j → m j = 0)
/-- the class's answer o and the reference's (t, r) say the same; e1, e2 are what is thrown -/
def An (e1 e2 : String) (o : gO) (a : Int × Int) : Prop := (a.1 = 0 ∧ o = oV a.2) ∨ (a.1 = 1 ∧ o = .inr e1) ∨ (a.1 = 2 ∧ o = .inr e2)
abbrev sIA : String := "java/lang/IllegalArgumentException"
abbrev sIS : String := "java/lang/IllegalStateException"
abbrev sIB : String := "java/lang/IndexOutOfBoundsException"
abbrev sUO : String := "java/lang/UnsupportedOperationException"
abbrev sNS : String := "java/util/NoSuchElementException"
theorem an0 {e1 e2 : String} {v r : Int} (h : v = r) : An e1 e2 (oV v) (0, r) := Or.inl ⟨rfl, by rw [h]⟩
theorem an1 {e1 e2 : String} {r : Int} : An e1 e2 (.inr e1) (1, r) := Or.inr (Or.inl ⟨rfl, rfl⟩)
theorem an2 {e1 e2 : String} {r : Int} : An e1 e2 (.inr e2) (2, r) := Or.inr (Or.inr ⟨rfl, rfl⟩)
/-- what the cards' rides sum to, all the rides do -/
theorem sum_cards {m F : Int → Int} {N : Nat} {c : Int} (h : ∀ k : Nat, k < N → 0 ≤ m (561 + 3 * (k : Int) + 0) ∧ m (561 + 3 * (k : Int) + 0) < c) : sumZ (fun i => sumN (fun k9 => if m (561 + 3 * k9 + 0) = i then F k9 else 0) N) c = sumN F N := by
  unfold sumZ
  rw [sumN_swap]
  refine sumN_congr fun k hk => ?_
  have := h k hk
  rw [sumN_one this.1, if_pos (by omega)]
theorem sum_cards2 {m : Int → Int} {R : Rz} (ok : okM m) (h : MZ m R) {G : List rT → Int} {F : Int → Int} (hG : ∀ i, G (crd m i (m 4).toNat) = sumN (fun k9 => if m (561 + 3 * k9 + 0) = i then F k9 else 0) (m 4).toNat) : sumZ (fun k9 => if k9 < zc R then G (zC R k9).2.2.2.2 else 0) 20 = sumZ F (m 4) := by
  obtain ⟨⟨a0, a1, a2, a3⟩, b1, b2, b3, b4, b5, b6, b7, b8, b9, b10, b11⟩ := id h
  obtain ⟨z0, z1, z2, z3, z4, z5, z6, z7, z8, z9⟩ := id ok
  rw [a3, sumZ_if z3, sumZ_congr (g := fun i => sumN (fun k9 => if m (561 + 3 * k9 + 0) = i then F k9 else 0) (m 4).toNat) (fun k hk => by rw [b6 k hk]; exact hG k)]
  exact sum_cards (fun k hk => (z9 k (by omega)).1)
theorem thrG_eq {m : Int → Int} {R : Rz} (ok : okM m) (h : MZ m R) {x : Int} : thrG R x = raM m x :=
  sum_cards2 ok h (G := cntG x) (F := fun k9 => if m (561 + 3 * k9 + 1) = x then 1 else 0) (fun _ => crd_cntG)
theorem ridesAtP_eq {m : Int → Int} {R : Rz} (ok : okM m) (h : MZ m R) {x : Int} : ridesAtP R x = rpM m x :=
  sum_cards2 ok h (G := cntP x) (F := fun k9 => if m (5 + 34 * m (561 + 3 * k9 + 1) + 0) = x then 1 else 0) (fun _ => crd_cntP)
theorem allRides_eq {m : Int → Int} {R : Rz} (ok : okM m) (h : MZ m R) : allRides R = m 4 := by
  refine (sum_cards2 ok h (G := fun l => (l.length : Int)) (F := fun _ => 1) (fun _ => crd_len)).trans ?_
  have : ∀ n : Nat, sumN (fun _ => 1) n = n := by
    intro n
    induction n with
    | zero => rfl
    | succ n ih => rw [sumN, ih]; omega
  unfold sumZ
  rw [this]
  have := ok.2.2.2.2.1
  omega
theorem orN_congr {f g : Int → Nat} {n : Nat} (h : ∀ k : Nat, k < n → f k = g k) : orN f n = orN g n := by
  induction n with
  | zero => rfl
  | succ n ih => rw [orN, orN, ih (fun k hk => h k (by omega)), h n (by omega)]
theorem orN_if {f : Int → Nat} {n : Int} {N : Nat} : orN (fun k => if k < n then f k else 0) N = orN f (min n.toNat N) := by
  induction N with
  | zero => rw [Nat.min_zero]; rfl
  | succ N ih =>
    rw [orN, ih]
    by_cases h : (N : Int) < n
    · rw [if_pos h, show min n.toNat (N + 1) = N + 1 by omega, show min n.toNat N = N by omega, orN]
    · rw [if_neg h, Nat.or_zero, show min n.toNat (N + 1) = min n.toNat N by omega]
theorem orZ_if {f : Int → Nat} {n N : Int} (h : 0 ≤ n ∧ n ≤ N) : orZ (fun k => if k < n then f k else 0) N = orZ f n := by
  unfold orZ
  rw [orN_if, show min n.toNat N.toNat = n.toNat by omega]
theorem orZ_congr {f g : Int → Nat} {n : Int} (h : ∀ k, 0 ≤ k ∧ k < n → f k = g k) : orZ f n = orZ g n := orN_congr fun k hk => h k (by omega)
theorem orN_bit {P : Int → Bool} {n i : Nat} : (orN (fun k => if P k = true then 2 ^ k.toNat else 0) n).testBit i = (decide (i < n) && P i) := by
  induction n with
  | zero => simp [orN]
  | succ n ih =>
    rw [orN, Nat.testBit_or, ih, Int.toNat_natCast]
    by_cases e : i = n
    · subst e
      rw [decide_eq_false (by omega), Bool.false_and, Bool.false_or, decide_eq_true (by omega), Bool.true_and]
      by_cases h : P i = true
      · rw [if_pos h, Nat.testBit_two_pow, h]; simp
      · rw [if_neg h, Nat.zero_testBit]; simpa using h
    · have h1 : (if P n = true then 2 ^ n else 0 : Nat).testBit i = false := by
        split
        · rw [Nat.testBit_two_pow]; simp; omega
        · exact Nat.zero_testBit i
      rw [h1, Bool.or_false]
      congr 1
      by_cases h : i < n
      · rw [decide_eq_true h, decide_eq_true (by omega)]
      · rw [decide_eq_false h, decide_eq_false (by omega)]
theorem cg_eq {m : Int → Int} {R : Rz} (ok : okM m) (oz : okZ R) (h : MZ m R) : zs R = cgM m := by
  obtain ⟨⟨a0, a1, a2, a3⟩, b1, b2, b3, b4, b5, b6, b7, b8, b9, b10, b11⟩ := id h
  obtain ⟨z0, z1, z2, z3, z4, z5, z6, z7, z8, z9⟩ := id ok
  have hs := oz.2.2.2.1
  have : (zs R).toNat = orZ (fun k9 => if m (5 + 34 * k9 + 2) = 1 then 2 ^ k9.toNat else 0) (m 1) := by
    apply Nat.eq_of_testBit_eq
    intro i
    have hb := orN_bit (P := fun k => decide (m (5 + 34 * k + 2) = 1)) (n := (m 1).toNat) (i := i)
    simp only [decide_eq_true_eq] at hb
    unfold orZ
    rw [hb]
    by_cases h12 : i < 12
    · have h2 := b2 i (by omega)
      rw [show tb (zs R) (i : Int) = (zs R).toNat.testBit i by unfold tb; rw [Int.toNat_natCast]] at h2
      by_cases h1 : i < (m 1).toNat
      · rw [decide_eq_true h1, Bool.true_and, Bool.eq_iff_iff, h2, decide_eq_true_eq]
      · have h3 := b3 i (by omega)
        rw [decide_eq_false h1, Bool.false_and, Bool.eq_false_iff]
        intro h4
        have := h2.1 h4
        omega
    · rw [decide_eq_false (show ¬ i < (m 1).toNat by omega), Bool.false_and]
      exact Nat.testBit_lt_two_pow (Nat.lt_of_lt_of_le (show (zs R).toNat < 2 ^ 12 by omega) (Nat.pow_le_pow_right (by decide) (by omega)))
  unfold cgM
  rw [← this]
  omega
theorem gatesFor_eq {m : Int → Int} {R : Rz} (ok : okM m) (h : MZ m R) {x : Int} : gatesForZ R (m (413 + 6 * x + 4)) = gatesM m x := by
  obtain ⟨⟨a0, a1, a2, a3⟩, b1, b2, b3, b4, b5, b6, b7, b8, b9, b10, b11⟩ := id h
  unfold gatesForZ gatesM
  rw [a1, orZ_if ok.2.1, orZ_congr]
  intro k hk
  rw [b1 k hk]
theorem cntGates_eq {m : Int → Int} {R : Rz} (ok : okM m) (h : MZ m R) {x : Int} : cntGates R (m (413 + 6 * x + 4)) = cntGM m x := by
  obtain ⟨⟨a0, a1, a2, a3⟩, b1, b2, b3, b4, b5, b6, b7, b8, b9, b10, b11⟩ := id h
  unfold cntGates cntGM
  rw [a1, sumZ_if ok.2.1, sumZ_congr]
  intro k hk
  rw [b1 k hk]
theorem minGates_eq {m : Int → Int} {R : Rz} (ok : okM m) (h : MZ m R) {x d : Int} (hd : 0 ≤ d ∧ d ≤ 30) : minGates R (m (413 + 6 * x + 4)) d = minGM m x d := by
  obtain ⟨⟨a0, a1, a2, a3⟩, b1, b2, b3, b4, b5, b6, b7, b8, b9, b10, b11⟩ := id h
  have h1 := ok.2.1
  unfold minGates minGM
  rw [a1, sumZ_if h1, sumZ_congr]
  intro k hk
  rw [b1 k hk, b4 k d (by omega) hd]
theorem closedB_eq {m : Int → Int} {R : Rz} (ok : okM m) (h : MZ m R) {x d : Int} (hd : 0 ≤ d ∧ d ≤ 30) : closedB R (m (413 + 6 * x + 4)) d = isClB m x d := by
  unfold closedB isClB
  rw [cntGates_eq ok h, minGates_eq ok h hd]
theorem dmask_bit {m : Int → Int} (ok : okM m) {x d : Int} (hd : 0 ≤ d) : tb (dmask (crd m x (m 4).toNat) : Nat) d = hasDM m x d (m 4).toNat := by
  unfold tb
  rw [Int.toNat_natCast]
  exact crd_dmask hd (fun k hk => (ok.2.2.2.2.2.2.2.2.2 k (by have := ok.2.2.2.2.1; omega)).2.2.1)
theorem cldays_eq {m : Int → Int} {R : Rz} (ok : okM m) (h : MZ m R) {i : Int} : cldays R (m (413 + 6 * m (461 + 5 * i + 0) + 4)) (crd m i (m 4).toNat) = daysM m i 1 := by
  unfold cldays daysM
  refine sumZ_congr fun k hk => ?_
  rw [dmask_bit ok hk.1, closedB_eq ok h (by omega), if_neg (show ¬ (1 : Int) = 0 by decide)]
theorem refund_eq {m : Int → Int} {R : Rz} (ok : okM m) (h : MZ m R) {i : Int} (hi : 0 ≤ i ∧ i < m 3) : refundZ R (zP R (zC R i).1) (zC R i).2.1 (zC R i).2.2.2.2 = refM m i := by
  obtain ⟨⟨a0, a1, a2, a3⟩, b1, b2, b3, b4, b5, b6, b7, b8, b9, b10, b11⟩ := id h
  obtain ⟨z0, z1, z2, z3, z4, z5, z6, z7, z8, z9⟩ := id ok
  have zx := z8 i hi
  rw [b6 i hi]
  simp only []
  rw [b5 _ zx.1]
  unfold refundZ refM
  simp only []
  rw [cldays_eq ok h]
  have b7i := b7 i hi
  by_cases h1 : 1 < m (461 + 5 * i + 1)
  · rw [if_pos (by omega), if_pos (Or.inl h1)]
  · rw [if_neg (by omega)]
    by_cases h2 : m (413 + 6 * m (461 + 5 * i + 0) + 0) = 2
    · rw [if_pos h2, if_pos (Or.inr h2), Int.zero_mul]
    · rw [if_neg h2, if_neg (fun h => h.elim h1 h2), b7i, if_neg (by omega)]
theorem daysM_popc {m : Int → Int} (ok : okM m) {i : Int} : ((popc (dmask (crd m i (m 4).toNat)) : Nat) : Int) = daysM m i 0 := by
  rw [popc_sum]
  unfold daysM
  have e : sumN (fun k => if (dmask (crd m i (m 4).toNat)).testBit k.toNat = true then 1 else 0) 32 = sumN (fun k => if (dmask (crd m i (m 4).toNat)).testBit k.toNat = true then 1 else 0) 31 := by
    rw [show (32 : Nat) = 31 + 1 from rfl, sumN]
    have : (dmask (crd m i (m 4).toNat)).testBit 31 = hasDM m i 31 (m 4).toNat := crd_dmask (d := 31) (by decide) (fun k hk => (ok.2.2.2.2.2.2.2.2.2 k (by have := ok.2.2.2.2.1; omega)).2.2.1)
    rw [show ((31 : Nat) : Int).toNat = 31 from rfl, this]
    have h2 : ∀ n : Nat, n ≤ (m 4).toNat → hasDM m i 31 n = false := by
      intro n
      induction n with
      | zero => intro _; rfl
      | succ n ih =>
        intro hn
        have := (ok.2.2.2.2.2.2.2.2.2 n (by have := ok.2.2.2.2.1; omega)).2.2
        rw [hasDM, ih (by omega), decide_eq_false (show ¬ m (561 + 3 * (n : Int) + 2) / 1440 = 31 by omega), Bool.and_false]; rfl
    rw [h2 _ (Nat.le_refl _)]
    simp
  rw [e]
  refine sumN_congr fun k hk => ?_
  rw [← dmask_bit ok (by omega)]
  unfold tb
  rw [Int.toNat_natCast]
  simp
