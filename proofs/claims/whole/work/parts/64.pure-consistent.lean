/-! ===== isConsistent: the class and the reference ask the same ===== -/
theorem nthR_lt {l : List rT} {i : Int} {q : rT} (h : nthR l i = some q) : 0 ≤ i ∧ i < (l.length : Int) := by
  induction l with
  | nil => cases h
  | cons a r ih =>
    rw [nthR] at h
    rw [List.length_cons]
    split at h
    · omega
    · have := ih h; omega
theorem waysOk_iff {l : List rT} : waysOk l ↔ ∀ (i : Int) (q p : rT), 1 ≤ i → nthR l i = some q → nthR l (i - 1) = some p → wayZ p.2.1 p.2.2.1 q.2.1 q.2.2.1 ≤ q.2.2.2 - p.2.2.2 := by
  induction l with
  | nil => exact ⟨fun _ i q p _ h => (by cases h), fun _ => trivial⟩
  | cons a r ih =>
    cases r with
    | nil =>
      refine ⟨fun _ i q p hi h => ?_, fun _ => trivial⟩
      have := nthR_lt h
      simp at this
      omega
    | cons b r =>
      rw [waysOk, ih]
      constructor
      · rintro ⟨h1, h2⟩ i q p hi hq hp
        rw [nthR] at hq hp
        have e : ((b :: r).length : Int) = (r.length : Int) + 1 := by rw [List.length_cons]; omega
        by_cases h : ((b :: r).length : Int) = i
        · rw [if_pos h] at hq
          rw [if_neg (by omega), nthR, if_pos (by omega)] at hp
          cases hq; cases hp
          exact h1
        · rw [if_neg h] at hq
          have := nthR_lt hq
          rw [if_neg (by omega)] at hp
          exact h2 i q p hi hq hp
      · intro h
        have e : ((b :: r).length : Int) = (r.length : Int) + 1 := by rw [List.length_cons]; omega
        refine ⟨?_, fun i q p hi hq hp => ?_⟩
        · refine h ((b :: r).length : Int) a b (by omega) ?_ ?_
          · rw [nthR, if_pos rfl]
          · rw [nthR, if_neg (by omega), nthR, if_pos (by omega)]
        · have h1 := nthR_lt hq
          have h2 := nthR_lt hp
          refine h i q p hi ?_ ?_
          · rw [nthR, if_neg (by omega)]; exact hq
          · rw [nthR, if_neg (by omega)]; exact hp
theorem wiM_iff {m : Int → Int} {x : Int} {n : Nat} : wiM m x n ↔ ∀ i : Int, 1 ≤ i → i ≤ n → wkM m x i := by
  induction n with
  | zero => exact ⟨fun _ i h1 h2 => by omega, fun _ => trivial⟩
  | succ n ih =>
    rw [wiM, ih]
    constructor
    · rintro ⟨h1, h2⟩ i hi hn
      by_cases e : i = (n : Int) + 1
      · rw [e]; exact h2
      · exact h1 i hi (by omega)
    · intro h
      exact ⟨fun i h1 h2 => h i h1 (by omega), h _ (by omega) (by omega)⟩
theorem wcM_iff {m : Int → Int} {n : Nat} : wcM m n ↔ ∀ k : Nat, k < n → wiM m k (ridesOnM m k - 1).toNat := by
  induction n with
  | zero => exact ⟨fun _ k h => by omega, fun _ => trivial⟩
  | succ n ih =>
    rw [wcM, ih]
    constructor
    · rintro ⟨h1, h2⟩ k hk
      by_cases e : k = n
      · rw [e]; exact h2
      · exact h1 k (by omega)
    · intro h
      exact ⟨fun k hk => h k (by omega), h n (by omega)⟩
theorem ways_eq {m : Int → Int} (ok : okM m) {x : Int} : waysOk (crd m x (m 4).toNat) ↔ wiM m x (ridesOnM m x - 1).toNat := by
  have hr := ridesOnM_rng ok.2.2.2.2.1 (x := x)
  rw [waysOk_iff, wiM_iff]
  constructor
  · intro h i h1 h2
    have ha := rideAtM_ok (m := m) (x := x) (y := i) ok.2.2.2.2.1.1 (by omega)
    have hb := rideAtM_ok (m := m) (x := x) (y := i - 1) ok.2.2.2.2.1.1 (by omega)
    exact h i _ _ h1 (rideAt_nth.2 (by omega)) (rideAt_nth.2 (by omega))
  · intro h i q p hi hq hp
    have hl := nthR_lt hq
    rw [crs_len] at hl
    have ha := rideAtM_ok (m := m) (x := x) (y := i) ok.2.2.2.2.1.1 (by omega)
    have hb := rideAtM_ok (m := m) (x := x) (y := i - 1) ok.2.2.2.2.1.1 (by omega)
    rw [rideAt_nth.2 (show rideAtM m x i ≠ -1 by omega)] at hq
    rw [rideAt_nth.2 (show rideAtM m x (i - 1) ≠ -1 by omega)] at hp
    cases hq; cases hp
    exact h i hi (by omega)
theorem con_eq {m : Int → Int} {R : Rz} (ok : okM m) (h : MZ m R) : okCon R ↔ okConM m := by
  have z1 := ok.2.1
  have z3 := ok.2.2.2.1
  have z4 := ok.2.2.2.2.1
  have e1 : thrAll R = sumZ (fun k9 => raM m k9) (m 1) := by
    unfold thrAll
    rw [h.1.2.1, sumZ_if z1]
    exact sumZ_congr fun k hk => thrG_eq ok h
  have e2 : allRides R = sumZ (fun k9 => ridesOnM m k9) (m 3) := by
    unfold allRides
    exact sums_if ok h fun k hk => by rw [h.2.2.2.2.2.2.1 k hk]; exact crs_len
  have hb1 := sumZ_le (f := fun k9 => raM m k9) (c := 600) (n := m 1) z1.1 (fun k9 _ _ => raM_rng z4)
  have hb2 := sumZ_le (f := fun k9 => ridesOnM m k9) (c := 600) (n := m 3) z3.1 (fun k9 _ _ => ridesOnM_rng z4)
  unfold okCon okConM moM
  rw [price_eq ok h, refs_eq ok h, sharesA_eq ok h, idle_eq ok h, e1, e2, iI_eq (a := sumZ (fun k9 => raM m k9) (m 1)) (b := sumZ (fun k9 => ridesOnM m k9) (m 3)) (by omega) (by omega)]
  refine and_congr Iff.rfl ⟨fun h9 => ⟨?_, by omega⟩, fun h9 => ⟨by omega, ?_⟩⟩
  · rw [wcM_iff]
    intro k hk
    have := h9.2 k (by omega) (by rw [h.1.2.2.2]; omega)
    rw [h.2.2.2.2.2.2.1 k (by omega)] at this
    exact (ways_eq ok).1 this
  · intro i h1 h2
    rw [h.1.2.2.2] at h2
    have := (wcM_iff.1 h9.1) i.toNat (by omega)
    rw [Int.toNat_of_nonneg h1] at this
    rw [h.2.2.2.2.2.2.1 i ⟨h1, h2⟩]
    exact (ways_eq ok).2 this
