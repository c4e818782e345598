/-! ===== a card replaced, a ride, all cleared: the row and the resort stay together ===== -/
theorem crd_move {m m' : Int → Int} {x o i : Int} {n : Nat} (hox : o ≠ x) (h : ∀ k : Nat, k < n → m' (561 + 3 * (k : Int) + 0) = (if m (561 + 3 * (k : Int) + 0) = x then o else m (561 + 3 * (k : Int) + 0)) ∧ m (561 + 3 * (k : Int) + 0) ≠ o ∧ rdT m' k = rdT m k) : crd m' i n = if i = o then crd m x n else if i = x then [] else crd m i n := by
  induction n with
  | zero => simp only [crd]; (repeat' split) <;> rfl
  | succ n ih =>
    obtain ⟨h1, h2, h3⟩ := h n (by omega)
    rw [crd, ih (fun k hk => h k (by omega)), h1, h3]
    by_cases e : i = o
    · rw [if_pos e, if_pos e, crd]
      by_cases e2 : m (561 + 3 * (n : Int) + 0) = x
      · rw [if_pos e2, if_pos e.symm, if_pos e2]
      · rw [if_neg e2, if_neg e2, if_neg (by rw [e]; exact h2)]
    · rw [if_neg e, if_neg e]
      by_cases e1 : i = x
      · rw [if_pos e1, if_pos e1]
        by_cases e2 : m (561 + 3 * (n : Int) + 0) = x
        · rw [if_pos e2, if_neg (fun h => e h.symm)]
        · rw [if_neg e2, if_neg (by rw [e1]; exact e2)]
      · rw [if_neg e1, if_neg e1, crd]
        by_cases e2 : m (561 + 3 * (n : Int) + 0) = x
        · rw [if_pos e2, if_neg (fun h => e h.symm), if_neg (by rw [e2]; exact fun h => e1 h.symm)]
        · rw [if_neg e2]
theorem K_rep {m : Int → Int} {R : Rz} (ok : okM m) (h : MZ m R) {x : Int} (hx : 0 ≤ x ∧ x < m 3) (hs : m (461 + 5 * x + 1) ≤ 1) (h1 : m 3 < 20) : okM (rplM m x) ∧ MZ (rplM m x) (zExch R x) := by
  obtain ⟨⟨a0, a1, a2, a3⟩, b1, b2, b3, b4, b5, b6, b7, b8, b9, b10, b11⟩ := id h
  obtain ⟨z0, z1, z2, z3, z4, z5, z6, z7, z8, z9⟩ := id ok
  have zx := z8 x hx
  have e9 : ∀ j, (j < 561 ∨ 561 + 3 * m 4 ≤ j ∨ (j - 561) % 3 ≠ 0) → rplM m x j = rpl3 m x j := fun j hj => if_neg (by omega)
  have er : ∀ j, j ≠ 461 + 5 * x + 1 ∧ j ≠ 461 + 5 * x + 2 ∧ j ≠ 461 + 5 * x + 4 → rpl3 m x j = comeM m (m (461 + 5 * x + 0)) (m (461 + 5 * x + 4)) j := fun j hj => by unfold rpl3; rw [uI_n hj.2.2, uI_n hj.2.1, uI_n hj.1]
  have e : ∀ j, ((j < 561 ∨ 561 + 3 * m 4 ≤ j ∨ (j - 561) % 3 ≠ 0) ∧ (j ≠ 461 + 5 * x + 1 ∧ j ≠ 461 + 5 * x + 2 ∧ j ≠ 461 + 5 * x + 4) ∧ j ≠ 3 ∧ (j < 461 + 5 * m 3 ∨ 465 + 5 * m 3 < j)) → rplM m x j = m j := fun j hj => by rw [e9 j hj.1, er j hj.2.1, comeM_n z3.1 hj.2.2.1 hj.2.2.2]
  have e0 : rplM m x 0 = m 0 := e 0 (by omega)
  have e1 : rplM m x 1 = m 1 := e 1 (by omega)
  have e2 : rplM m x 2 = m 2 := e 2 (by omega)
  have e3 : rplM m x 3 = m 3 + 1 := by rw [e9 3 (by omega), er 3 (by omega), comeM_3 z3.1]
  have e4 : rplM m x 4 = m 4 := e 4 (by omega)
  have s1 : rplM m x (461 + 5 * x + 1) = 2 := by rw [e9 _ (by omega)]; unfold rpl3; rw [uI_n (by omega), uI_n (by omega), uI_s]
  have s2 : rplM m x (461 + 5 * x + 2) = m 3 := by rw [e9 _ (by omega)]; unfold rpl3; rw [uI_n (by omega), uI_s]
  have s4 : rplM m x (461 + 5 * x + 4) = 0 := by rw [e9 _ (by omega)]; unfold rpl3; rw [uI_s]
  have c0 : rplM m x (461 + 5 * m 3 + 0) = m (461 + 5 * x + 0) := by rw [e9 _ (by omega), er _ (by omega)]; unfold comeM come5; rw [uI_n (by omega), uI_n (by omega), uI_n (by omega), uI_n (by omega), uI_n (by omega), uI_s]
  have c1 : rplM m x (461 + 5 * m 3 + 1) = 0 := by rw [e9 _ (by omega), er _ (by omega)]; unfold comeM come5; rw [uI_n (by omega), uI_n (by omega), uI_n (by omega), uI_n (by omega), uI_s]
  have c2 : rplM m x (461 + 5 * m 3 + 2) = -1 := by rw [e9 _ (by omega), er _ (by omega)]; unfold comeM come5; rw [uI_n (by omega), uI_n (by omega), uI_n (by omega), uI_s]
  have c3 : rplM m x (461 + 5 * m 3 + 3) = 0 := by rw [e9 _ (by omega), er _ (by omega)]; unfold comeM come5; rw [uI_n (by omega), uI_n (by omega), uI_s]
  have c4 : rplM m x (461 + 5 * m 3 + 4) = m (461 + 5 * x + 4) := by rw [e9 _ (by omega), er _ (by omega)]; unfold comeM come5; rw [uI_n (by omega), uI_s]
  have er2 : ∀ k, 0 ≤ k ∧ k < m 4 → rpl3 m x (561 + 3 * k + 0) = m (561 + 3 * k + 0) := fun k hk => by rw [er _ (by omega), comeM_n z3.1 (by omega) (by omega)]
  have ek : ∀ k, 0 ≤ k ∧ k < m 4 → rplM m x (561 + 3 * k + 0) = if m (561 + 3 * k + 0) = x then m 3 else m (561 + 3 * k + 0) := fun k hk => by
    unfold rplM rplF
    by_cases ex : m (561 + 3 * k + 0) = x
    · rw [if_pos ex, if_pos ⟨by omega, by omega, by omega, by rw [er2 k hk]; exact ex⟩]
    · rw [if_neg ex, if_neg (fun h9 => ex (by rw [← er2 k hk]; exact h9.2.2.2)), er2 k hk]
  have ok' : okM (rplM m x) := by
    unfold okM
    rw [e0, e1, e2, e3, e4]
    refine ⟨z0, z1, z2, by omega, z4, fun j hj => ?_, fun i hi => ?_, fun i hi => ?_, fun i hi => ?_, fun k hk => ?_⟩
    · by_cases hj1 : 561 ≤ j ∧ j < 561 + 3 * m 4 ∧ (j - 561) % 3 = 0
      · have := ek ((j - 561) / 3) (by omega)
        have zk := z9 ((j - 561) / 3) (by omega)
        rw [show 561 + 3 * ((j - 561) / 3) + 0 = j by omega] at this zk
        rw [this]
        split <;> omega
      · rw [e9 j (by omega)]
        unfold rpl3 comeM come5
        simp only [uI]
        (repeat' split) <;> first | omega | exact z5 j hj
    · rw [e (5 + 34 * i + 0) (by omega), e (5 + 34 * i + 1) (by omega), e (5 + 34 * i + 2) (by omega)]; exact z6 i hi
    · rw [e (413 + 6 * i + 0) (by omega), e (413 + 6 * i + 1) (by omega), e (413 + 6 * i + 2) (by omega), e (413 + 6 * i + 3) (by omega), e (413 + 6 * i + 4) (by omega), e (413 + 6 * i + 5) (by omega)]; exact z7 i hi
    · by_cases hi2 : i < m 3
      · have zi := z8 i ⟨hi.1, hi2⟩
        rw [e (461 + 5 * i + 0) (by omega), e (461 + 5 * i + 3) (by omega)]
        by_cases ei : i = x
        · rw [ei, s1, s2, s4]; rw [ei] at zi; omega
        · rw [e (461 + 5 * i + 1) (by omega), e (461 + 5 * i + 2) (by omega), e (461 + 5 * i + 4) (by omega)]; omega
      · have hi3 : i = m 3 := by omega
        subst hi3
        rw [c0, c1, c2, c3, c4]; omega
    · have zk := z9 k hk
      rw [ek k hk, e (561 + 3 * k + 1) (by omega), e (561 + 3 * k + 2) (by omega)]
      split <;> omega
  have ec : ∀ i, crd (rplM m x) i (m 4).toNat = if i = m 3 then crd m x (m 4).toNat else if i = x then [] else crd m i (m 4).toNat := fun i => crd_move (by omega) fun k hk => by
    have zk := z9 k (by omega)
    have zg := z6 (m (561 + 3 * (k : Int) + 1)) zk.2.1
    refine ⟨ek k (by omega), by omega, ?_⟩
    unfold rdT
    rw [e (561 + 3 * (k : Int) + 1) (by omega), e (561 + 3 * (k : Int) + 2) (by omega), e (5 + 34 * m (561 + 3 * (k : Int) + 1) + 0) (by omega), e (5 + 34 * m (561 + 3 * (k : Int) + 1) + 1) (by omega)]
  have ed : ∀ i, daysM (rplM m x) i 0 = if i = m 3 then daysM m x 0 else if i = x then 0 else daysM m i 0 := fun i => by
    rw [← daysM_popc ok', e4, ec i]
    (repeat' split)
    · exact daysM_popc ok
    · decide
    · exact daysM_popc ok
  refine ⟨ok', ?_⟩
  unfold MZ
  rw [e0, e1, e2, e3, e4]
  have hC : ∀ i, zC (zExch R x) i = if i = x then ((zC R x).1, 2, zc R, (zC R x).2.2.2.1, []) else if i = zc R then ((zC R x).1, 0, -1, 0, (zC R x).2.2.2.2) else zC R i := fun i => rfl
  refine ⟨⟨a0, a1, a2, by show zc R + 1 = _; rw [a3]⟩,
    fun i hi => by rw [e (5 + 34 * i + 0) (by omega), e (5 + 34 * i + 1) (by omega)]; exact b1 i hi,
    fun i hi => by rw [e (5 + 34 * i + 2) (by omega)]; exact b2 i hi,
    fun i hi => by rw [e (5 + 34 * i + 2) (by omega)]; exact b3 i hi,
    fun i d hi hd => by rw [e (5 + 34 * i + (3 + d)) (by omega)]; exact b4 i d hi hd,
    fun i hi => by rw [e (413 + 6 * i + 0) (by omega), e (413 + 6 * i + 1) (by omega), e (413 + 6 * i + 2) (by omega), e (413 + 6 * i + 3) (by omega), e (413 + 6 * i + 4) (by omega), e (413 + 6 * i + 5) (by omega)]; exact b5 i hi,
    fun i hi => ?_, fun i hi => ?_, fun i hi => ?_,
    ⟨fun i j h1 h2 h3 => by rw [e (561 + 3 * i + 2) (by omega), e (561 + 3 * j + 2) (by omega)]; exact b9.1 i j h1 h2 h3, fun j hj => by rw [e (561 + 3 * j + 2) (by omega)]; exact b9.2 j hj⟩,
    fun i hi => ?_,
    fun j hj => by rw [e j (by omega)]; exact b11 j hj⟩
  · rw [hC, ec, a3]
    by_cases ei : i = x
    · rw [if_pos ei, if_neg (show ¬ i = m 3 by omega), if_pos ei, ei, s1, s2, e (461 + 5 * x + 0) (by omega), e (461 + 5 * x + 3) (by omega), b6 x hx]
    · rw [if_neg ei]
      by_cases ei2 : i = m 3
      · rw [if_pos ei2, if_pos ei2, ei2, c0, c1, c2, c3, b6 x hx]
      · rw [if_neg ei2, if_neg ei2, if_neg ei, e (461 + 5 * i + 0) (by omega), e (461 + 5 * i + 1) (by omega), e (461 + 5 * i + 2) (by omega), e (461 + 5 * i + 3) (by omega)]
        exact b6 i (by omega)
  · by_cases ei : i = x
    · rw [ei, s4, s1, if_pos rfl]
    · by_cases ei2 : i = m 3
      · rw [ei2, c4, c1, c0, e (413 + 6 * m (461 + 5 * x + 0) + 5) (by omega), if_neg (by decide), b7 x hx, if_neg (by omega)]
      · have zi := z8 i (by omega)
        rw [e (461 + 5 * i + 4) (by omega), e (461 + 5 * i + 1) (by omega), e (461 + 5 * i + 0) (by omega), e (413 + 6 * m (461 + 5 * i + 0) + 5) (by omega)]
        exact b7 i (by omega)
  · by_cases ei : i = x
    · rw [ei, s2, c0, e (461 + 5 * x + 0) (by omega)]; intro _; rfl
    · by_cases ei2 : i = m 3
      · rw [ei2, c2]; intro hn; exact absurd rfl hn
      · have zi := z8 i (by omega)
        rw [e (461 + 5 * i + 2) (by omega), e (461 + 5 * i + 0) (by omega)]
        intro hn
        rw [e (461 + 5 * m (461 + 5 * i + 2) + 0) (by omega)]
        exact b8 i (by omega) hn
  · rw [ed]
    by_cases ei2 : i = m 3
    · rw [if_pos ei2, ei2, c0, e (413 + 6 * m (461 + 5 * x + 0) + 0) (by omega), e (413 + 6 * m (461 + 5 * x + 0) + 1) (by omega)]
      exact b10 x hx
    · have zi := z8 i (by omega)
      have zp := z7 _ zi.1
      rw [if_neg ei2, e (461 + 5 * i + 0) (by omega), e (413 + 6 * m (461 + 5 * i + 0) + 0) (by omega), e (413 + 6 * m (461 + 5 * i + 0) + 1) (by omega)]
      by_cases ei : i = x
      · rw [if_pos ei]; intro _; omega
      · rw [if_neg ei]; exact b10 i (by omega)
theorem rfsM_valid {m : Int → Int} {x g : Int} (ok : okM m) (hx : 0 ≤ x ∧ x < m 3) (h : rfsM m x g 0) : isVlM m x := by
  have zx := ok.2.2.2.2.2.2.2.2.1 x hx
  unfold rfsM at h
  rcases h with ⟨a1, h⟩ | ⟨a1, ⟨a2, h⟩ | ⟨a2, ⟨a3, h⟩ | ⟨a3, ⟨a4, h⟩ | ⟨a4, ⟨a5, h⟩ | ⟨a5, h⟩⟩⟩⟩⟩ <;> first | exact a5 | (exfalso; omega)
theorem K_ride {m : Int → Int} {R : Rz} (ok : okM m) (h : MZ m R) {x g : Int} (hx : 0 ≤ x ∧ x < m 3) (hg : 0 ≤ g ∧ g < m 1) (r4 : m 4 < 600) (hv : isVlM m x) : MZ (mRide m x g) (zRide R x g) := by
  obtain ⟨⟨a0, a1, a2, a3⟩, b1, b2, b3, b4, b5, b6, b7, b8, b9, b10, b11⟩ := id h
  obtain ⟨z0, z1, z2, z3, z4, z5, z6, z7, z8, z9⟩ := id ok
  have ok' := okM_ride ok r4 hx hg
  have zgg := z6 g hg
  have e : ∀ j, (j ≠ 4 ∧ (j < 561 + 3 * m 4 ∨ 563 + 3 * m 4 < j)) → mRide m x g j = m j := fun j hj => mRide_n z4.1 hj.1 hj.2
  have e0 : mRide m x g 0 = m 0 := e 0 (by omega)
  have e1 : mRide m x g 1 = m 1 := e 1 (by omega)
  have e2 : mRide m x g 2 = m 2 := e 2 (by omega)
  have e3 : mRide m x g 3 = m 3 := e 3 (by omega)
  have e4 : mRide m x g 4 = m 4 + 1 := mRide_4
  have rc := mRide_c (m := m) (x := x) (g := g) z4.1
  have rg' := mRide_g (m := m) (x := x) (g := g) z4.1
  have rt := mRide_t (m := m) (x := x) (g := g) z4.1
  have hn : (((m 4).toNat : Nat) : Int) = m 4 := Int.toNat_of_nonneg z4.1
  have et : rdT (mRide m x g) (m 4) = (g, m (5 + 34 * g + 0), m (5 + 34 * g + 1), m 0) := by
    unfold rdT
    rw [rg', rt, e (5 + 34 * g + 0) (by omega), e (5 + 34 * g + 1) (by omega)]
  have ec : ∀ i, crd (mRide m x g) i (m 4 + 1).toNat = if x = i then (g, m (5 + 34 * g + 0), m (5 + 34 * g + 1), m 0) :: crd m i (m 4).toNat else crd m i (m 4).toNat := fun i => by
    rw [show (m 4 + 1).toNat = (m 4).toNat + 1 by omega, crd, hn, rc, et, crd_congr (m := m) fun k hk => by
      have zk := z9 k (by omega)
      have zg := z6 (m (561 + 3 * (k : Int) + 1)) zk.2.1
      exact ⟨e _ (by omega), e _ (by omega), e _ (by omega), e _ (by omega), e _ (by omega)⟩]
  have ed : ∀ i, i ≠ x → daysM (mRide m x g) i 0 = daysM m i 0 := fun i hi => by
    rw [← daysM_popc ok', e4, ec i, if_neg (fun h => hi h.symm), daysM_popc ok]
  unfold MZ
  rw [e0, e1, e2, e3, e4]
  refine ⟨⟨a0, a1, a2, a3⟩,
    fun i hi => by rw [e (5 + 34 * i + 0) (by omega), e (5 + 34 * i + 1) (by omega)]; exact b1 i hi,
    fun i hi => by rw [e (5 + 34 * i + 2) (by omega)]; exact b2 i hi,
    fun i hi => by rw [e (5 + 34 * i + 2) (by omega)]; exact b3 i hi,
    fun i d hi hd => by rw [e (5 + 34 * i + (3 + d)) (by omega)]; exact b4 i d hi hd,
    fun i hi => by rw [e (413 + 6 * i + 0) (by omega), e (413 + 6 * i + 1) (by omega), e (413 + 6 * i + 2) (by omega), e (413 + 6 * i + 3) (by omega), e (413 + 6 * i + 4) (by omega), e (413 + 6 * i + 5) (by omega)]; exact b5 i hi,
    fun i hi => ?_,
    fun i hi => by
      have zi := z8 i hi
      rw [e (461 + 5 * i + 4) (by omega), e (461 + 5 * i + 1) (by omega), e (461 + 5 * i + 0) (by omega), e (413 + 6 * m (461 + 5 * i + 0) + 5) (by omega)]
      exact b7 i hi,
    fun i hi => by
      have zi := z8 i hi
      rw [e (461 + 5 * i + 2) (by omega), e (461 + 5 * i + 0) (by omega)]
      intro hn
      rw [e (461 + 5 * m (461 + 5 * i + 2) + 0) (by omega)]
      exact b8 i hi hn,
    ⟨fun i j h1 h2 h3 => ?_, fun j hj => ?_⟩, fun i hi => ?_,
    fun j hj => by rw [e j (by omega)]; exact b11 j hj⟩
  · rw [e (461 + 5 * i + 0) (by omega), e (461 + 5 * i + 1) (by omega), e (461 + 5 * i + 2) (by omega), e (461 + 5 * i + 3) (by omega), ec]
    show uI (zC R) x ((zC R x).1, (zC R x).2.1, (zC R x).2.2.1, (zC R x).2.2.2.1, (g, (zG R g).1, (zG R g).2, zk R) :: (zC R x).2.2.2.2) i = _
    by_cases ei : i = x
    · rw [ei, uI_s, if_pos rfl, b6 x hx, b1 g hg, a0]
    · rw [uI_n ei, if_neg (fun h => ei h.symm)]; exact b6 i hi
  · by_cases hj : j = m 4
    · rw [hj, rt]
      by_cases hi : i = m 4
      · rw [hi, rt]; exact Int.le_refl _
      · rw [e (561 + 3 * i + 2) (by omega)]; exact b9.2 i (by omega)
    · rw [e (561 + 3 * i + 2) (by omega), e (561 + 3 * j + 2) (by omega)]; exact b9.1 i j h1 h2 (by omega)
  · by_cases hj2 : j = m 4
    · rw [hj2, rt]; exact Int.le_refl _
    · rw [e (561 + 3 * j + 2) (by omega)]; exact b9.2 j (by omega)
  · have zi := z8 i hi
    rw [e (461 + 5 * i + 0) (by omega), e (413 + 6 * m (461 + 5 * i + 0) + 0) (by omega), e (413 + 6 * m (461 + 5 * i + 0) + 1) (by omega)]
    by_cases ei : i = x
    · intro k1
      subst ei
      have hv2 := (valid_eq ok h hx).2 hv
      unfold validB at hv2
      rw [k1, if_neg (show ¬ (1 : Int) = 0 by decide), if_pos rfl, decide_eq_true_eq] at hv2
      rw [← daysM_popc ok', e4, ec, if_pos rfl]
      exact hv2
    · rw [ed i ei]; exact b10 i hi
/-- the empty row -/
def mNil : Int → Int := uI (fun _ => 0) 0 480
theorem mNil_n {j : Int} (h : j ≠ 0) : mNil j = 0 := by unfold mNil; rw [uI_n h]
theorem mNil_0 : mNil 0 = 480 := uI_s
theorem K_nil : okM mNil ∧ MZ mNil zEmpty := by
  have e := @mNil_n
  constructor
  · unfold okM
    rw [mNil_0, e (j := 1) (by decide), e (j := 2) (by decide), e (j := 3) (by decide), e (j := 4) (by decide)]
    refine ⟨by omega, by omega, by omega, by omega, by omega, fun j hj => ?_, fun i hi => by omega, fun i hi => by omega, fun i hi => by omega, fun i hi => by omega⟩
    unfold mNil
    simp only [uI]
    split <;> omega
  · unfold MZ
    rw [mNil_0, e (j := 1) (by decide), e (j := 2) (by decide), e (j := 3) (by decide), e (j := 4) (by decide)]
    refine ⟨⟨rfl, rfl, rfl, rfl⟩, fun i hi => by omega, fun i hi => ?_, fun i hi => e (by omega), fun i d hi hd => (e (by omega)).symm, fun i hi => by omega, fun i hi => by omega, fun i hi => by omega, fun i hi => by omega, ⟨fun i j h1 h2 h3 => by omega, fun j hj => by omega⟩, fun i hi => by omega, fun j hj => e (by omega)⟩
    rw [e (by omega)]
    have : tb (zs zEmpty) i = false := by show (0 : Nat).testBit _ = false; exact Nat.zero_testBit _
    rw [this]
    exact ⟨fun h => (by cases h), fun h => absurd h (by decide)⟩
theorem clr_nil {m : Int → Int} {R : Rz} (h : MZ m R) : uI (cpy (fun _ => 0) m 3561) 0 480 = mNil := by
  funext j
  unfold mNil cpy
  simp only [uI]
  split
  · rfl
  · split
    · rfl
    · exact h.2.2.2.2.2.2.2.2.2.2.2 j (by omega)
