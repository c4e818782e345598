/-! ===== bits ===== -/
theorem iI_or (a b : Nat) : iI a ||| iI b = iI ((a ||| b : Nat) : Int) := by
  rw [← iI_nI, ← iI_nI, ← iI_nI]
  apply Int32.toBitVec_inj.1
  show BitVec.ofNat 32 a ||| BitVec.ofNat 32 b = BitVec.ofNat 32 (a ||| b)
  apply BitVec.eq_of_getLsbD_eq
  intro i hi
  simp [hi]
theorem dmask_ne {q : rT} {r : List rT} : dmask (q :: r) ≠ 0 := by
  intro h
  have h1 : (dmask (q :: r)).testBit (q.2.2.2 / 1440).toNat = true := by simp [dmask, Nat.testBit_or, Nat.testBit_two_pow_self]
  rw [h] at h1
  simp at h1
theorem iI_shl1 {k : Int} (h : 0 ≤ k ∧ k < 31) : iI 1 <<< (iI k &&& 31) = iI ((2 ^ k.toNat : Nat) : Int) := by
  have hs : ∀ k : Fin 31, iI 1 <<< (iI ((k : Nat) : Int) &&& 31) = iI ((2 ^ (k : Nat) : Nat) : Int) := by decide +kernel
  have := hs ⟨k.toNat, by omega⟩
  simp only [Int.toNat_of_nonneg h.1] at this
  exact this

theorem c_J_bitCount {E : gE} {w : gW} {im : gIm} {Q : gQ} {m : Nat} (r : m < 2147483648) (hQ : Q (.inl (some (.int (iI (popc m))))) w im) : GM E 0 y_J_bitCount m_J_bitCount 0 0 [.int (iI m)] w im Q := sorry
theorem c_J_numberOfTrailingZeros {E : gE} {w : gW} {im : gIm} {Q : gQ} {m : Nat} (r : m < 2147483648) (h0 : m ≠ 0) (hQ : Q (.inl (some (.int (iI (ntz m))))) w im) : GM E 0 y_J_numberOfTrailingZeros m_J_numberOfTrailingZeros 0 0 [.int (iI m)] w im Q := sorry
theorem popc_le (m : Nat) : popc m ≤ 32 := by
  unfold popc
  exact Nat.le_trans (List.length_filter_le _ _) (by simp)
theorem ntz_le (m : Nat) : ntz m ≤ 32 := by
  unfold ntz
  cases h : (List.range 32).filter fun i => !(m % 2 ^ (i + 1) == 0) with
  | nil => simp
  | cons x xs =>
    have hx : x ∈ (List.range 32).filter fun i => !(m % 2 ^ (i + 1) == 0) := by rw [h]; exact List.mem_cons_self
    have := List.mem_range.mp (List.mem_filter.mp hx).1
    simp only [List.headD_cons]
    omega

