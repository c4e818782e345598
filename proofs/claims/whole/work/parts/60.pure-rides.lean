/-! ===== the rides of a card, as the row tells them ===== -/
def rdT (m : Int → Int) (k : Int) : rT := (m (561 + 3 * k + 1), m (5 + 34 * m (561 + 3 * k + 1) + 0), m (5 + 34 * m (561 + 3 * k + 1) + 1), m (561 + 3 * k + 2))
def crd (m : Int → Int) (x : Int) : Nat → List rT
  | 0 => []
  | n + 1 => if m (561 + 3 * (n : Int) + 0) = x then rdT m n :: crd m x n else crd m x n
theorem sumN_congr {f g : Int → Int} {n : Nat} (h : ∀ k : Nat, k < n → f k = g k) : sumN f n = sumN g n := by
  induction n with
  | zero => rfl
  | succ n ih => rw [sumN, sumN, ih (fun k hk => h k (by omega)), h n (by omega)]
theorem sumZ_congr {f g : Int → Int} {n : Int} (h : ∀ k, 0 ≤ k ∧ k < n → f k = g k) : sumZ f n = sumZ g n := sumN_congr fun k hk => h k (by omega)
theorem sumN_if {f : Int → Int} {n : Int} {N : Nat} : sumN (fun k => if k < n then f k else 0) N = sumN f (min n.toNat N) := by
  induction N with
  | zero => rw [Nat.min_zero]; rfl
  | succ N ih =>
    rw [sumN, ih]
    by_cases h : (N : Int) < n
    · rw [if_pos h, show min n.toNat (N + 1) = N + 1 by omega, show min n.toNat N = N by omega, sumN]
    · rw [if_neg h, Int.add_zero, show min n.toNat (N + 1) = min n.toNat N by omega]
theorem sumZ_if {f : Int → Int} {n N : Int} (h : 0 ≤ n ∧ n ≤ N) : sumZ (fun k => if k < n then f k else 0) N = sumZ f n := by
  unfold sumZ
  rw [sumN_if, show min n.toNat N.toNat = n.toNat by omega]
theorem sumN_add {f g : Int → Int} {n : Nat} : sumN (fun k => f k + g k) n = sumN f n + sumN g n := by
  induction n with
  | zero => rfl
  | succ n ih => rw [sumN, sumN, sumN, ih]; omega
theorem sumN_zero {n : Nat} : sumN (fun _ => 0) n = 0 := by
  induction n with
  | zero => rfl
  | succ n ih => rw [sumN, ih]; rfl
theorem sumN_swap {f : Int → Int → Int} {a b : Nat} : sumN (fun i => sumN (fun j => f i j) b) a = sumN (fun j => sumN (fun i => f i j) a) b := by
  induction a with
  | zero => simp only [sumN]; exact sumN_zero.symm
  | succ a ih =>
    simp only [sumN]
    rw [ih, sumN_add]
theorem sumN_one {c v : Int} {n : Nat} (hc : 0 ≤ c) : sumN (fun k => if c = k then v else 0) n = if c < n then v else 0 := by
  induction n with
  | zero => rw [if_neg (by omega)]; rfl
  | succ n ih =>
    rw [sumN, ih]
    by_cases h : c = (n : Int)
    · rw [if_neg (by omega), if_pos h, if_pos (by omega), Int.zero_add]
    · rw [if_neg h, Int.add_zero]
      by_cases h2 : c < (n : Int)
      · rw [if_pos h2, if_pos (by omega)]
      · rw [if_neg h2, if_neg (by omega)]
theorem sumZ_mul {P : Int → Bool} {c n : Int} : sumZ (fun k => if P k = true then c else 0) n = sumZ (fun k => if P k = true then 1 else 0) n * c := by
  unfold sumZ
  generalize n.toNat = N
  induction N with
  | zero => simp [sumN]
  | succ N ih =>
    rw [sumN, sumN, ih, Int.add_mul]
    by_cases hP : P (N : Int) = true
    · rw [if_pos hP, if_pos hP, Int.one_mul]
    · rw [if_neg hP, if_neg hP, Int.zero_mul]
theorem crd_len {m : Int → Int} {x : Int} {n : Nat} : ((crd m x n).length : Int) = sumN (fun k9 => if m (561 + 3 * k9 + 0) = x then 1 else 0) n := by
  induction n with
  | zero => rfl
  | succ n ih =>
    rw [crd, sumN]
    split
    · rw [List.length_cons]; omega
    · omega
theorem crs_len {m : Int → Int} {x : Int} : ((crd m x (m 4).toNat).length : Int) = ridesOnM m x := crd_len
theorem crd_cntP {m : Int → Int} {x y : Int} {n : Nat} : cntP y (crd m x n) = sumN (fun k9 => if m (561 + 3 * k9 + 0) = x then (if m (5 + 34 * m (561 + 3 * k9 + 1) + 0) = y then 1 else 0) else 0) n := by
  induction n with
  | zero => rfl
  | succ n ih =>
    rw [crd, sumN]
    split
    · rw [cntP, ih]; rfl
    · rw [ih, Int.add_zero]
theorem crs_cntP {m : Int → Int} {x y : Int} : cntP y (crd m x (m 4).toNat) = ridesOfM m x y := crd_cntP
theorem crd_cntG {m : Int → Int} {x y : Int} {n : Nat} : cntG y (crd m x n) = sumN (fun k9 => if m (561 + 3 * k9 + 0) = x then (if m (561 + 3 * k9 + 1) = y then 1 else 0) else 0) n := by
  induction n with
  | zero => rfl
  | succ n ih =>
    rw [crd, sumN]
    split
    · rw [cntG, ih]; rfl
    · rw [ih, Int.add_zero]
theorem crd_mem {m : Int → Int} {x : Int} {n : Nat} {q : rT} (h : q ∈ crd m x n) : ∃ k : Nat, k < n ∧ m (561 + 3 * (k : Int) + 0) = x ∧ q = rdT m k := by
  induction n with
  | zero => cases h
  | succ n ih =>
    rw [crd] at h
    split at h
    · rename_i e
      rcases List.mem_cons.1 h with h | h
      · exact ⟨n, by omega, e, h⟩
      · obtain ⟨k, a, b⟩ := ih h
        exact ⟨k, by omega, b⟩
    · obtain ⟨k, a, b⟩ := ih h
      exact ⟨k, by omega, b⟩
theorem raF_s {m : Int → Int} {x y : Int} {n : Nat} {k c : Int} (hk : 0 ≤ k) : raF m x y (n + 1) k c = if raF m x y n k c ≠ -1 then raF m x y n k c else if m (561 + 3 * (k + n) + 0) = x ∧ c + sumN (fun j => if m (561 + 3 * (k + j) + 0) = x then 1 else 0) n = y then k + n else -1 := by
  induction n generalizing k c with
  | zero =>
    show (if m (561 + 3 * k + 0) = x then (if c = y then k else -1) else -1) = if (-1 : Int) ≠ -1 then -1 else if m (561 + 3 * (k + 0) + 0) = x ∧ c + 0 = y then k + 0 else -1
    rw [if_neg (show ¬ ((-1 : Int) ≠ -1) by decide)]
    simp only [Int.add_zero]
    by_cases e : m (561 + 3 * k) = x
    · by_cases e2 : c = y
      · simp only [if_pos e, if_pos e2, if_pos (And.intro e e2)]
      · simp only [if_pos e, if_neg e2, if_neg (fun h : m (561 + 3 * k) = x ∧ c = y => e2 h.2)]
    · simp only [if_neg e, if_neg (fun h : m (561 + 3 * k) = x ∧ c = y => e h.1)]
  | succ n ih =>
    rw [raF]
    have hs : sumN (fun j => if m (561 + 3 * (k + j) + 0) = x then 1 else 0) (n + 1) = (if m (561 + 3 * k + 0) = x then 1 else 0) + sumN (fun j => if m (561 + 3 * (k + 1 + j) + 0) = x then 1 else 0) n := by
      clear ih
      induction n with
      | zero => simp [sumN]
      | succ n ih2 =>
        rw [sumN, ih2, sumN, show k + ((n + 1 : Nat) : Int) = k + 1 + (n : Int) by omega]
        omega
    rw [hs, show raF m x y (n + 1) k c = if m (561 + 3 * k + 0) = x then (if c = y then k else raF m x y n (k + 1) (c + 1)) else raF m x y n (k + 1) c from rfl, show k + ((n + 1 : Nat) : Int) = k + 1 + (n : Int) by omega]
    by_cases e : m (561 + 3 * k + 0) = x
    · simp only [if_pos e]
      by_cases e2 : c = y
      · simp only [if_pos e2]
        rw [if_pos (by omega)]
      · simp only [if_neg e2]
        rw [ih (by omega), show c + (1 + sumN (fun j => if m (561 + 3 * (k + 1 + j) + 0) = x then 1 else 0) n) = c + 1 + sumN (fun j => if m (561 + 3 * (k + 1 + j) + 0) = x then 1 else 0) n by omega]
    · simp only [if_neg e]
      rw [ih (by omega), Int.zero_add]
theorem raF_nth {m : Int → Int} {x y : Int} {n : Nat} : (raF m x y n 0 0 = -1 → nthR (crd m x n) y = none) ∧ (raF m x y n 0 0 ≠ -1 → nthR (crd m x n) y = some (rdT m (raF m x y n 0 0)) ∧ y < ((crd m x n).length : Int)) := by
  induction n with
  | zero => exact ⟨fun _ => rfl, fun h => absurd rfl h⟩
  | succ n ih =>
    have hr := raF_s (m := m) (x := x) (y := y) (n := n) (k := 0) (c := 0) (Int.le_refl 0)
    simp only [Int.zero_add] at hr
    rw [← crd_len] at hr
    rw [hr, crd]
    by_cases h : raF m x y n 0 0 ≠ -1
    · obtain ⟨h1, h2⟩ := ih.2 h
      rw [if_pos h]
      refine ⟨fun e => absurd e h, fun _ => ?_⟩
      split
      · rw [nthR, if_neg (by omega), List.length_cons]
        exact ⟨h1, by omega⟩
      · exact ⟨h1, h2⟩
    · have h1 := ih.1 (by omega)
      rw [if_neg h]
      by_cases e : m (561 + 3 * (n : Int) + 0) = x
      · rw [if_pos e, nthR]
        by_cases e2 : ((crd m x n).length : Int) = y
        · rw [if_pos ⟨e, e2⟩, if_pos e2, List.length_cons]
          exact ⟨fun h => by omega, fun _ => ⟨rfl, by omega⟩⟩
        · rw [if_neg (fun h => e2 h.2), if_neg e2]
          exact ⟨fun _ => h1, fun h => absurd rfl h⟩
      · rw [if_neg e, if_neg (fun h => e h.1)]
        exact ⟨fun _ => h1, fun h => absurd rfl h⟩
theorem rideAt_nth {m : Int → Int} {x y : Int} : (rideAtM m x y = -1 → nthR (crd m x (m 4).toNat) y = none) ∧ (rideAtM m x y ≠ -1 → nthR (crd m x (m 4).toNat) y = some (rdT m (rideAtM m x y))) :=
  ⟨raF_nth.1, fun h => (raF_nth.2 h).1⟩
theorem nthR_neg {l : List rT} {y : Int} (h : y < 0) : nthR l y = none := by
  induction l with
  | nil => rfl
  | cons q r ih => rw [nthR, if_neg (by omega), ih]
theorem crd_dmask {m : Int → Int} {x : Int} {n : Nat} {d : Int} (hd : 0 ≤ d) (hr : ∀ k : Nat, k < n → 0 ≤ m (561 + 3 * (k : Int) + 2)) : (dmask (crd m x n)).testBit d.toNat = hasDM m x d n := by
  induction n with
  | zero => simp [crd, dmask, hasDM]
  | succ n ih =>
    have h0 := hr n (by omega)
    have ih := ih (fun k hk => hr k (by omega))
    rw [crd, hasDM]
    by_cases e : m (561 + 3 * (n : Int) + 0) = x
    · rw [if_pos e, dmask, Nat.testBit_or, ih, decide_eq_true e, Bool.true_and, Nat.testBit_two_pow]
      congr 1
      show decide ((m (561 + 3 * (n : Int) + 2) / 1440).toNat = d.toNat) = _
      by_cases e2 : m (561 + 3 * (n : Int) + 2) / 1440 = d
      · rw [decide_eq_true e2, e2, decide_eq_true rfl]
      · rw [decide_eq_false e2, decide_eq_false (fun h => e2 (by omega))]
    · rw [if_neg e, ih, decide_eq_false e, Bool.false_and, Bool.or_false]
theorem popc_sum {n : Nat} : ((popc n : Nat) : Int) = sumN (fun k => if n.testBit k.toNat = true then 1 else 0) 32 := by
  unfold popc
  have : ∀ N : Nat, ((((List.range N).filter fun i => n.testBit i).length : Nat) : Int) = sumN (fun k => if n.testBit k.toNat = true then 1 else 0) N := by
    intro N
    induction N with
    | zero => rfl
    | succ N ih =>
      rw [List.range_succ, List.filter_append, List.length_append, sumN, ← ih, Int.toNat_natCast]
      by_cases h : n.testBit N = true
      · simp [h]
      · simp [h]
  exact this 32
theorem ntz_eq {n d : Nat} (hd : d < 32) (h1 : n.testBit d = true) (h2 : ∀ j, j < d → n.testBit j = false) : ntz n = d := by
  unfold ntz
  rw [List.headD_eq_head?_getD, List.head?_filter]
  have : (List.range 32).find? (fun i => !(n % 2 ^ (i + 1) == 0)) = some d := by
    rw [List.find?_range_eq_some]
    refine ⟨?_, List.mem_range.2 hd, fun j hj => ?_⟩
    · by_cases h : n % 2 ^ (d + 1) = 0
      · have h3 : (n % 2 ^ (d + 1)).testBit d = true := by rw [Nat.testBit_mod_two_pow, h1]; simp
        rw [h] at h3
        simp at h3
      · simp [h]
    · have h : n % 2 ^ (j + 1) = 0 := by
        apply Nat.eq_of_testBit_eq
        intro i
        rw [Nat.testBit_mod_two_pow, Nat.zero_testBit]
        by_cases h : i < j + 1
        · rw [h2 i (by omega), Bool.and_false]
        · rw [decide_eq_false h, Bool.false_and]
      simp [h]
  rw [this]; rfl
theorem sumN_upd {f g : Int → Int} {d n : Nat} (hd : d < n) (h1 : ∀ k : Nat, k ≠ d → f k = g k) (h2 : f d = g d + 1) : sumN f n = sumN g n + 1 := by
  induction n with
  | zero => omega
  | succ n ih =>
    rw [sumN, sumN]
    by_cases e : d = n
    · subst e
      rw [h2, sumN_congr (f := f) (g := g) (fun k hk => h1 k (by omega))]
      omega
    · rw [ih (by omega), h1 n (by omega)]
      omega
theorem popc_or {n d : Nat} (hd : d < 32) : popc (n ||| 2 ^ d) = popc n + (if n.testBit d = true then 0 else 1) := by
  have h1 := popc_sum (n := n ||| 2 ^ d)
  have h2 := popc_sum (n := n)
  split
  · rename_i h
    rw [Nat.add_zero]
    have : n ||| 2 ^ d = n := by
      apply Nat.eq_of_testBit_eq
      intro i
      rw [Nat.testBit_or, Nat.testBit_two_pow]
      by_cases e : d = i
      · subst e; rw [h]; rfl
      · rw [decide_eq_false e, Bool.or_false]
    rw [this]
  · rename_i h
    have := sumN_upd (f := fun k => if (n ||| 2 ^ d).testBit k.toNat = true then 1 else 0) (g := fun k => if n.testBit k.toNat = true then 1 else 0) (d := d) (n := 32) hd (fun k hk => by
      simp only [Int.toNat_natCast, Nat.testBit_or, Nat.testBit_two_pow, decide_eq_false (fun h : d = k => hk h.symm), Bool.or_false]) (by
      simp only [Int.toNat_natCast, Nat.testBit_or, Nat.testBit_two_pow, decide_true, Bool.or_true, if_true, if_neg h, Int.zero_add])
    omega
