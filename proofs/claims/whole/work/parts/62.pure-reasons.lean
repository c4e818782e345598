/-! ===== validity, reasons, shares: the class and the reference find the same ===== -/
theorem nthR_last {q : rT} {r : List rT} : nthR (q :: r) (((q :: r).length : Int) - 1) = some q := by
  rw [nthR, if_pos (by rw [List.length_cons]; omega)]
theorem rt_time {m : Int → Int} {k : Int} : (rdT m k).2.2.2 = m (561 + 3 * k + 2) := rfl
/-- the list's times fall -/
def fallT : List rT → Prop
  | [] => True
  | q :: r => (∀ p ∈ r, p.2.2.2 ≤ q.2.2.2) ∧ fallT r
theorem crd_fall {m : Int → Int} {x : Int} {n : Nat} (h : ∀ i j : Int, 0 ≤ i → i ≤ j → j < n → m (561 + 3 * i + 2) ≤ m (561 + 3 * j + 2)) : fallT (crd m x n) := by
  induction n with
  | zero => trivial
  | succ n ih =>
    have ih := ih (fun i j h1 h2 h3 => h i j h1 h2 (by omega))
    rw [crd]
    split
    · refine ⟨fun p hp => ?_, ih⟩
      obtain ⟨k, hk, _, rfl⟩ := crd_mem hp
      exact h k n (by omega) (by omega) (by omega)
    · exact ih
theorem nth0_least {l : List rT} {q : rT} (h : fallT l) (hq : nthR l 0 = some q) : ∀ p ∈ l, q.2.2.2 ≤ p.2.2.2 := by
  induction l with
  | nil => cases hq
  | cons a r ih =>
    rw [nthR] at hq
    split at hq
    · rename_i e
      have e2 : r = [] := by
        cases r with
        | nil => rfl
        | cons b c => simp at e; omega
      subst e2
      cases hq
      intro p hp
      rw [List.mem_singleton.1 hp]
      exact Int.le_refl _
    · intro p hp
      rcases List.mem_cons.1 hp with rfl | hp
      · exact h.1 q (nthR_mem hq)
      · exact ih h.2 hq p hp
theorem dmask_bit_iff {l : List rT} {d : Nat} : (dmask l).testBit d = true ↔ ∃ p ∈ l, (p.2.2.2 / 1440).toNat = d := by
  induction l with
  | nil => simp [dmask]
  | cons a r ih =>
    rw [dmask, Nat.testBit_or, Bool.or_eq_true, ih, Nat.testBit_two_pow, decide_eq_true_eq]
    constructor
    · rintro (⟨p, hp, e⟩ | e)
      · exact ⟨p, List.mem_cons_of_mem _ hp, e⟩
      · exact ⟨a, List.mem_cons_self, e⟩
    · rintro ⟨p, hp, e⟩
      rcases List.mem_cons.1 hp with rfl | hp
      · exact Or.inr e
      · exact Or.inl ⟨p, hp, e⟩
theorem ntz_first {l : List rT} {q : rT} (h : fallT l) (hr : ∀ p ∈ l, 0 ≤ p.2.2.2 ∧ p.2.2.2 ≤ 43200) (hq : nthR l 0 = some q) : (ntz (dmask l) : Int) = q.2.2.2 / 1440 := by
  have hm := hr q (nthR_mem hq)
  have := ntz_eq (n := dmask l) (d := (q.2.2.2 / 1440).toNat) (by omega) (dmask_bit_iff.2 ⟨q, nthR_mem hq, rfl⟩) (fun j hj => by
    rw [Bool.eq_false_iff]
    intro hb
    obtain ⟨p, hp, e⟩ := dmask_bit_iff.1 hb
    have h1 := nth0_least h hq p hp
    have h2 := hr p hp
    omega)
  omega
theorem nthR_some {l : List rT} {y : Int} (h : 0 ≤ y ∧ y < (l.length : Int)) : ∃ q, nthR l y = some q := by
  induction l with
  | nil => simp at h; omega
  | cons a r ih =>
    rw [nthR]
    rw [List.length_cons] at h
    split
    · exact ⟨a, rfl⟩
    · exact ih (by omega)
theorem crs_rng {m : Int → Int} (ok : okM m) {x : Int} : ∀ p ∈ crd m x (m 4).toNat, 0 ≤ p.2.2.2 ∧ p.2.2.2 ≤ 43200 := by
  intro p hp
  obtain ⟨k, hk, _, rfl⟩ := crd_mem hp
  exact (ok.2.2.2.2.2.2.2.2.2 k (by have := ok.2.2.2.2.1; omega)).2.2
/-- the card's first ride and its latest -/
theorem first_eq {m : Int → Int} {R : Rz} (ok : okM m) (h : MZ m R) {x : Int} (hn : ridesOnM m x ≠ 0) : ∃ q, nthR (crd m x (m 4).toNat) 0 = some q ∧ q.2.2.2 = m (561 + 3 * rideAtM m x 0 + 2) ∧ (ntz (dmask (crd m x (m 4).toNat)) : Int) = m (561 + 3 * rideAtM m x 0 + 2) / 1440 := by
  have hr := ridesOnM_rng ok.2.2.2.2.1 (x := x)
  obtain ⟨q, hq⟩ := nthR_some (l := crd m x (m 4).toNat) (y := 0) (by rw [crs_len]; omega)
  have hne : rideAtM m x 0 ≠ -1 := fun e => by rw [rideAt_nth.1 e] at hq; cases hq
  have h2 := rideAt_nth.2 hne
  rw [hq] at h2
  cases h2
  refine ⟨_, hq, rfl, ?_⟩
  exact ntz_first (crd_fall fun i j h1 h2 h3 => h.2.2.2.2.2.2.2.2.2.1.1 i j h1 h2 (by omega)) (crs_rng ok) hq
theorem last_eq {m : Int → Int} (ok : okM m) {x : Int} : (crd m x (m 4).toNat = [] ∧ ridesOnM m x = 0 ∧ rideAtM m x (ridesOnM m x - 1) = -1) ∨ (ridesOnM m x ≠ 0 ∧ rideAtM m x (ridesOnM m x - 1) ≠ -1 ∧ ∃ r, crd m x (m 4).toNat = rdT m (rideAtM m x (ridesOnM m x - 1)) :: r) := by
  cases e : crd m x (m 4).toNat with
  | nil =>
    left
    have hl := crs_len (m := m) (x := x)
    rw [e] at hl
    have hl : ridesOnM m x = 0 := hl.symm
    refine ⟨rfl, hl, ?_⟩
    by_cases h : rideAtM m x (ridesOnM m x - 1) = -1
    · exact h
    · have := rideAt_nth.2 h
      rw [e] at this
      cases this
  | cons q r =>
    right
    have hl := crs_len (m := m) (x := x)
    have hq := nthR_last (q := q) (r := r)
    rw [← e, hl] at hq
    have hne : rideAtM m x (ridesOnM m x - 1) ≠ -1 := fun h => by rw [rideAt_nth.1 h] at hq; cases hq
    have h2 := rideAt_nth.2 hne
    rw [hq] at h2
    cases h2
    rw [e, List.length_cons] at hl
    exact ⟨by omega, hne, r, rfl⟩
theorem valid_eq {m : Int → Int} {R : Rz} (ok : okM m) (h : MZ m R) {x : Int} (hx : 0 ≤ x ∧ x < m 3) : validB (m (413 + 6 * m (461 + 5 * x + 0) + 0)) (m (413 + 6 * m (461 + 5 * x + 0) + 1)) (crd m x (m 4).toNat) (m 0 / 1440) = true ↔ isVlM m x := by
  obtain ⟨⟨a0, a1, a2, a3⟩, b1, b2, b3, b4, b5, b6, b7, b8, b9, b10, b11⟩ := id h
  obtain ⟨z0, z1, z2, z3, z4, z5, z6, z7, z8, z9⟩ := id ok
  have zx := z8 x hx
  have zp := z7 _ zx.1
  have hl := crs_len (m := m) (x := x)
  have hr := ridesOnM_rng z4 (x := x)
  unfold validB isVlM
  by_cases k0 : m (413 + 6 * m (461 + 5 * x + 0) + 0) = 0
  · have k02 : ¬ m (413 + 6 * m (461 + 5 * x + 0) + 0) = 2 := by omega
    rw [if_pos k0, if_neg k02, if_pos k0, decide_eq_true_eq]
    by_cases hn : ridesOnM m x = 0
    · have he : crd m x (m 4).toNat = [] := List.length_eq_zero_iff.1 (by omega)
      rw [if_pos he]
      exact ⟨fun _ => Or.inl hn, fun _ => by omega⟩
    · have he : ¬ crd m x (m 4).toNat = [] := fun e => by rw [e] at hl; simp at hl; omega
      obtain ⟨q, _, _, h3⟩ := first_eq ok h hn
      rw [if_neg he, h3]
      constructor
      · intro h; right; omega
      · intro h; rcases h with h | h <;> omega
  · rw [if_neg k0]
    by_cases k1 : m (413 + 6 * m (461 + 5 * x + 0) + 0) = 1
    · have k02 : ¬ m (413 + 6 * m (461 + 5 * x + 0) + 0) = 2 := by omega
      rw [if_pos k1, if_neg k02, if_neg k0, decide_eq_true_eq]
      have hp := popc_or (n := dmask (crd m x (m 4).toNat)) (d := (m 0 / 1440).toNat) (by omega)
      have hd := daysM_popc ok (i := x)
      have h10 := b10 x hx k1
      rcases last_eq ok (x := x) with ⟨he, hn, _⟩ | ⟨hn, hne, r, he⟩
      · rw [he] at hp ⊢
        rw [show dmask [] = 0 from rfl] at hp ⊢
        rw [show popc 0 = 0 by decide] at hp
        refine ⟨fun _ => Or.inl hn, fun _ => ?_⟩
        rw [hp]
        split <;> omega
      · have hk := rideAtM_none hne z4.1
        have hlt := b9.2 _ hk
        by_cases hb : m (561 + 3 * rideAtM m x (ridesOnM m x - 1) + 2) / 1440 = m 0 / 1440
        · have hbit : (dmask (crd m x (m 4).toNat)).testBit (m 0 / 1440).toNat = true := dmask_bit_iff.2 ⟨_, by rw [he]; exact List.mem_cons_self, by rw [rt_time, hb]⟩
          rw [if_pos hbit] at hp
          rw [hp]
          exact ⟨fun _ => Or.inr (Or.inl hb), fun _ => by omega⟩
        · have hbit : ¬ (dmask (crd m x (m 4).toNat)).testBit (m 0 / 1440).toNat = true := by
            intro h5
            obtain ⟨p, hp, e⟩ := dmask_bit_iff.1 h5
            have hf : fallT (crd m x (m 4).toNat) := crd_fall fun i j h1 h2 h3 => b9.1 i j h1 h2 (by omega)
            have hpr := crs_rng ok p hp
            have hzr := z9 _ hk
            rw [he] at hf hp
            rcases List.mem_cons.1 hp with rfl | hp
            · rw [rt_time] at e; omega
            · have := hf.1 p hp
              rw [rt_time] at this
              omega
          rw [if_neg hbit] at hp
          rw [hp]
          constructor
          · intro h5; right; right; omega
          · rintro (h5 | h5 | h5)
            · exact absurd h5 hn
            · exact absurd h5 hb
            · omega
    · have k02 : m (413 + 6 * m (461 + 5 * x + 0) + 0) = 2 := by omega
      rw [if_neg k1, if_pos k02, decide_eq_true_eq]
      omega
theorem reason_eq {m : Int → Int} {R : Rz} (ok : okM m) (h : MZ m R) {x g : Int} (hx : 0 ≤ x ∧ x < m 3) (hg : 0 ≤ g ∧ g < m 1) : rfsM m x g (reasonOf R x g) := by
  obtain ⟨⟨a0, a1, a2, a3⟩, b1, b2, b3, b4, b5, b6, b7, b8, b9, b10, b11⟩ := id h
  obtain ⟨z0, z1, z2, z3, z4, z5, z6, z7, z8, z9⟩ := id ok
  have zx := z8 x hx
  have hv := valid_eq ok h hx
  unfold reasonOf reasonZ
  rw [b6 x hx, b1 g hg]
  simp only []
  rw [b5 _ zx.1, a0]
  simp only []
  have h2 := b2 g (by omega)
  unfold rfsM
  by_cases c1 : tb (zs R) g = true
  · rw [if_pos c1]; exact Or.inl ⟨h2.1 c1, rfl⟩
  · rw [if_neg c1]
    refine Or.inr ⟨fun e => c1 (h2.2 e), ?_⟩
    by_cases c2 : m (461 + 5 * x + 1) ≠ 0
    · rw [if_pos c2]; exact Or.inl ⟨by omega, rfl⟩
    · rw [if_neg c2]
      refine Or.inr ⟨by omega, ?_⟩
      by_cases c3 : tb (m (413 + 6 * m (461 + 5 * x + 0) + 4)) (m (5 + 34 * g + 0)) = false
      · rw [if_pos c3]; exact Or.inl ⟨by rw [c3]; decide, rfl⟩
      · rw [if_neg c3]
        refine Or.inr ⟨by simpa using c3, ?_⟩
        by_cases c4 : m (413 + 6 * m (461 + 5 * x + 0) + 2) ≤ m 0 % 1440 / 60 ∧ m 0 % 1440 / 60 ≤ m (413 + 6 * m (461 + 5 * x + 0) + 3)
        · rw [if_neg (fun h => h c4)]
          refine Or.inr ⟨c4, ?_⟩
          by_cases c5 : validB (m (413 + 6 * m (461 + 5 * x + 0) + 0)) (m (413 + 6 * m (461 + 5 * x + 0) + 1)) (crd m x (m 4).toNat) (m 0 / 1440) = false
          · rw [if_pos c5]; exact Or.inl ⟨fun e => (by rw [hv.2 e] at c5; cases c5), rfl⟩
          · rw [if_neg c5]
            refine Or.inr ⟨hv.1 (by simpa using c5), ?_⟩
            rcases last_eq ok (x := x) with ⟨he, hn, h1⟩ | ⟨hn, hne, r, he⟩
            · rw [he]; exact Or.inl ⟨h1, rfl⟩
            · rw [he]; exact Or.inr ⟨hne, rfl⟩
        · rw [if_pos c4]; exact Or.inl ⟨c4, rfl⟩
theorem open_eq {m : Int → Int} {R : Rz} (ok : okM m) (h : MZ m R) {x : Int} (hx : 0 ≤ x ∧ x < m 3) : openOf R x = opM m x := by
  unfold openOf opM
  rw [h.1.2.1, orZ_if ok.2.1, orZ_congr]
  intro k hk
  have hr := reason_eq ok h hx hk
  unfold opF
  by_cases e : reasonOf R x k = 0
  · rw [if_pos (show reasonZ R (zP R (zC R x).1) (zC R x).2.1 (zC R x).2.2.2.2 k (zG R k).1 (zG R k).2 = 0 from e), if_pos (e ▸ hr)]
  · rw [if_neg (show ¬ reasonZ R (zP R (zC R x).1) (zC R x).2.1 (zC R x).2.2.2.2 k (zG R k).1 (zG R k).2 = 0 from e), if_neg (fun h9 => e (rfsM_fun hr h9))]
theorem lastZ_eq {m : Int → Int} {R : Rz} (ok : okM m) (h : MZ m R) {n : Nat} {x : Int} (hx : 0 ≤ x ∧ x < m 3) : lastZ R n x = lastM m n x := by
  induction n generalizing x with
  | zero => rfl
  | succ n ih =>
    have zx := ok.2.2.2.2.2.2.2.2.1 x hx
    rw [lastZ, lastM, h.1.2.2.2, h.2.2.2.2.2.2.1 x hx]
    simp only []
    by_cases e : m (461 + 5 * x + 2) = -1
    · rw [if_neg (fun h => h.2 e), if_pos e]
    · rw [if_pos ⟨hx, e⟩, if_neg e]
      exact ih (by omega)
theorem lp_eq {m : Int → Int} {R : Rz} (ok : okM m) (h : MZ m R) {x : Int} (hx : 0 ≤ x ∧ x < m 3) : lpM m x = m (461 + 5 * x + 0) := by
  unfold lpM
  generalize 20 = n
  induction n generalizing x with
  | zero => rfl
  | succ n ih =>
    have zx := ok.2.2.2.2.2.2.2.2.1 x hx
    rw [lastM]
    by_cases e : m (461 + 5 * x + 2) = -1
    · rw [if_pos e]
    · rw [if_neg e, ih (by omega)]
      exact h.2.2.2.2.2.2.2.2.1 x hx e
theorem left_eq {m : Int → Int} {R : Rz} (ok : okM m) (h : MZ m R) {x : Int} (hx : 0 ≤ x ∧ x < m 3) : leftR (m (413 + 6 * m (461 + 5 * x + 0) + 0)) (m (413 + 6 * m (461 + 5 * x + 0) + 1)) (crd m x (m 4).toNat) (m 0 / 1440) = leftM m x := by
  obtain ⟨z0, z1, z2, z3, z4, z5, z6, z7, z8, z9⟩ := id ok
  have zx := z8 x hx
  have zp := z7 _ zx.1
  have hl := crs_len (m := m) (x := x)
  have hr := ridesOnM_rng z4 (x := x)
  unfold leftR leftM
  rw [lp_eq ok h hx, daysM_popc ok, hl]
  by_cases k0 : m (413 + 6 * m (461 + 5 * x + 0) + 0) = 0
  · have k02 : ¬ m (413 + 6 * m (461 + 5 * x + 0) + 0) = 2 := by omega
    have k01 : ¬ m (413 + 6 * m (461 + 5 * x + 0) + 0) = 1 := by omega
    rw [if_pos k0, if_neg k02, if_neg k01]
    by_cases hn : ridesOnM m x = 0
    · have he : crd m x (m 4).toNat = [] := List.length_eq_zero_iff.1 (by omega)
      rw [if_pos he, if_pos hn]
      split <;> omega
    · have he : ¬ crd m x (m 4).toNat = [] := fun e => by rw [e] at hl; simp at hl; omega
      obtain ⟨q, _, _, h3⟩ := first_eq ok h hn
      rw [if_neg he, if_neg hn, h3]
      (repeat' split) <;> omega
  · rw [if_neg k0]
    by_cases k1 : m (413 + 6 * m (461 + 5 * x + 0) + 0) = 1
    · have k02 : ¬ m (413 + 6 * m (461 + 5 * x + 0) + 0) = 2 := by omega
      rw [if_pos k1, if_neg k02, if_pos k1]
    · have k02 : m (413 + 6 * m (461 + 5 * x + 0) + 0) = 2 := by omega
      rw [if_neg k1, if_pos k02]
      omega
theorem kept_eq {m : Int → Int} {R : Rz} (ok : okM m) (h : MZ m R) {x : Int} (hx : 0 ≤ x ∧ x < m 3) : leftZ R x = keptM m x := by
  have zx := ok.2.2.2.2.2.2.2.2.1 x hx
  have b7 := h.2.2.2.2.2.2.2.1 x hx
  unfold leftZ keptM
  rw [h.2.2.2.2.2.2.1 x hx]
  simp only []
  rw [h.2.2.2.2.2.1 _ zx.1, b7]
theorem most_eq {m : Int → Int} {x : Int} {l : List rT} (hc : ∀ y : Int, cntP y l = ridesOfM m x y) (hp : ∀ y : Int, 0 ≤ ridesOfM m x y) : ∀ n : Nat, mostF l (n + 1) = (ridesOfM m x (mostM m x (n + 1)), mostM m x (n + 1)) ∧ ∀ k : Nat, k < n + 1 → ridesOfM m x k ≤ (mostF l (n + 1)).1 := by
  intro n
  induction n with
  | zero =>
    have h0 := hp 0
    have e1 : mostM m x 1 = 0 := by
      rw [mostM, show mostM m x 0 = 0 from rfl]
      split <;> rfl
    rw [e1, mostF, hc, show mostF l 0 = (0, 0) from rfl]
    simp only [Int.natCast_zero] at *
    by_cases e : 0 < ridesOfM m x 0
    · rw [if_pos e]
      exact ⟨rfl, fun k hk => by rw [show k = 0 by omega]; exact Int.le_refl _⟩
    · rw [if_neg e, show ridesOfM m x 0 = 0 by omega]
      exact ⟨rfl, fun k hk => by rw [show k = 0 by omega]; show ridesOfM m x 0 ≤ 0; omega⟩
  | succ n ih =>
    obtain ⟨ih1, ih2⟩ := ih
    rw [mostF, hc, mostM]
    by_cases e : ridesOfM m x (mostM m x (n + 1)) < ridesOfM m x ((n + 1 : Nat) : Int)
    · rw [if_pos (by rw [ih1]; exact e), if_pos e]
      refine ⟨rfl, fun k hk => ?_⟩
      by_cases e2 : k = n + 1
      · subst e2; exact Int.le_refl _
      · have := ih2 k (by omega)
        rw [ih1] at this
        show _ ≤ ridesOfM m x ((n + 1 : Nat) : Int)
        simp only [] at this
        omega
    · rw [if_neg (by rw [ih1]; exact e), if_neg e]
      refine ⟨ih1, fun k hk => ?_⟩
      by_cases e2 : k = n + 1
      · subst e2; rw [ih1]; show _ ≤ ridesOfM m x (mostM m x (n + 1)); omega
      · exact ih2 k (by omega)
theorem share_eq {m : Int → Int} {R : Rz} (ok : okM m) (h : MZ m R) {x y : Int} (hx : 0 ≤ x ∧ x < m 3) : shareC R x y = shareM m x y := by
  obtain ⟨z0, z1, z2, z3, z4, z5, z6, z7, z8, z9⟩ := id ok
  have hr := ridesOnM_rng z4 (x := x)
  have hro : ∀ y, 0 ≤ ridesOfM m x y := fun y => (ridesOfM_rng z4).1
  have hl := crs_len (m := m) (x := x)
  unfold shareC
  rw [kept_eq ok h hx, h.2.2.2.2.2.2.1 x hx]
  simp only []
  unfold shareZ shareM
  rw [hl]
  have hc : ∀ y, cntP y (crd m x (m 4).toNat) = ridesOfM m x y := fun y => crs_cntP
  have hm := most_eq (l := crd m x (m 4).toNat) hc hro 3
  have hm1 : mostF (crd m x (m 4).toNat) 4 = (ridesOfM m x (mostM m x 4), mostM m x 4) := hm.1
  have hm2 : ∀ k : Nat, k < 4 → ridesOfM m x k ≤ (mostF (crd m x (m 4).toNat) 4).1 := hm.2
  have hpb : ∀ y, ridesOnM m x ≠ 0 → pbr (keptM m x) (cntP y (crd m x (m 4).toNat)) (ridesOnM m x) = partM m x y := by
    intro y hn
    unfold pbr partM
    rw [if_neg (by omega), hc]
  by_cases hn : ridesOnM m x = 0
  · rw [if_pos hn]
    have he : crd m x (m 4).toNat = [] := List.length_eq_zero_iff.1 (by omega)
    have h0 : (mostF (crd m x (m 4).toNat) 4).1 = 0 := by
      rw [hm1]
      show ridesOfM m x _ = 0
      rw [← hc, he]; rfl
    rw [if_neg (by omega)]
    unfold pbr
    rw [if_pos (by omega)]; rfl
  · rw [if_neg hn, hpb y hn]
    congr 1
    have hpos : 0 < (mostF (crd m x (m 4).toNat) 4).1 := by
      rcases last_eq ok (x := x) with ⟨_, h0, _⟩ | ⟨_, hne, r, he⟩
      · exact absurd h0 hn
      · have hk := rideAtM_none hne z4.1
        have zk := z9 _ hk
        have zg := z6 _ zk.2.1
        have h5 := hm2 (m (5 + 34 * m (561 + 3 * rideAtM m x (ridesOnM m x - 1) + 1) + 0)).toNat (by omega)
        rw [Int.toNat_of_nonneg zg.1.1] at h5
        have h6 : 1 ≤ ridesOfM m x (m (5 + 34 * m (561 + 3 * rideAtM m x (ridesOnM m x - 1) + 1) + 0)) := by
          rw [← hc, he, cntP, if_pos (show (rdT m (rideAtM m x (ridesOnM m x - 1))).2.1 = m (5 + 34 * m (561 + 3 * rideAtM m x (ridesOnM m x - 1) + 1) + 0) from rfl)]
          have : ∀ l : List rT, ∀ y, 0 ≤ cntP y l := by
            intro l y
            induction l with
            | nil => exact Int.le_refl _
            | cons a b ih => rw [cntP]; split <;> omega
          have := this r (m (5 + 34 * m (561 + 3 * rideAtM m x (ridesOnM m x - 1) + 1) + 0))
          omega
        omega
    rw [sumZ_congr (g := fun k9 => partM m x k9) (fun k hk => hpb k hn)]
    have e2 : (mostF (crd m x (m 4).toNat) 4).2 = mostM m x 4 := by rw [hm1]
    by_cases e : y = mostM m x 4
    · rw [if_pos ⟨hpos, by rw [e2]; exact e⟩, if_pos e]
    · rw [if_neg (fun h => e (h.2.trans e2)), if_neg e]
theorem sharesP_eq {m : Int → Int} {R : Rz} (ok : okM m) (h : MZ m R) {y : Int} : sharesP R y = sharesM m y := by
  unfold sharesP sharesM
  rw [h.1.2.2.2, sumZ_if ok.2.2.2.1]
  exact sumZ_congr fun k hk => share_eq ok h hk
theorem sharesA_eq {m : Int → Int} {R : Rz} (ok : okM m) (h : MZ m R) : sharesA R = sumZ (fun k9 => sharesM m k9) 4 := by
  unfold sharesA
  exact sumZ_congr fun k hk => sharesP_eq ok h
