/-! ===== bits ===== -/
theorem iI_or (a b : Nat) : iI a ||| iI b = iI ((a ||| b : Nat) : Int) := by
  rw [← iI_nI, ← iI_nI, ← iI_nI]
  apply Int32.toBitVec_inj.1
  show BitVec.ofNat 32 a ||| BitVec.ofNat 32 b = BitVec.ofNat 32 (a ||| b)
  apply BitVec.eq_of_getLsbD_eq
  intro i hi
  simp [hi]
theorem dmask_ne {q : rT} {r : List rT} : dmask (q :: r) ≠ 0 := by
  intro h
  have h1 : (dmask (q :: r)).testBit (q.2.2.2 / 1440).toNat = true := by simp [dmask, Nat.testBit_or, Nat.testBit_two_pow_self]
  rw [h] at h1
  simp at h1
theorem iI_shl1 {k : Int} (h : 0 ≤ k ∧ k < 31) : iI 1 <<< (iI k &&& 31) = iI ((2 ^ k.toNat : Nat) : Int) := by
  have hs : ∀ k : Fin 31, iI 1 <<< (iI ((k : Nat) : Int) &&& 31) = iI ((2 ^ (k : Nat) : Nat) : Int) := by decide +kernel
  have := hs ⟨k.toNat, by omega⟩
  simp only [Int.toNat_of_nonneg h.1] at this
  exact this

/-! ===== java.lang.Integer: bitCount, numberOfTrailingZeros ===== -/
theorem iI_and (a b : Nat) : iI a &&& iI b = iI ((a &&& b : Nat) : Int) := by
  rw [← iI_nI, ← iI_nI, ← iI_nI]
  apply Int32.toBitVec_inj.1
  show BitVec.ofNat 32 a &&& BitVec.ofNat 32 b = BitVec.ofNat 32 (a &&& b)
  apply BitVec.eq_of_getLsbD_eq
  intro i hi
  simp [hi]
theorem iI_shr {a : Nat} {k : Int} (j : Nat) (hk : ((iI k).toUInt32 &&& Int32.toUInt32 31).toBitVec = BitVec.ofNat 32 j) (hj : j < 32) (ha : a < 2147483648) : ((iI a).toUInt32 >>> ((iI k).toUInt32 &&& Int32.toUInt32 31)).toInt32 = iI ((a / 2 ^ j : Nat) : Int) := by
  rw [← iI_nI, ← iI_nI]
  apply Int32.toBitVec_inj.1
  show ((nI a).toUInt32 >>> ((iI k).toUInt32 &&& Int32.toUInt32 31)).toBitVec = BitVec.ofNat 32 (a / 2 ^ j)
  rw [UInt32.toBitVec_shiftRight, hk]
  show BitVec.ofNat 32 a >>> (BitVec.ofNat 32 j % 32) = BitVec.ofNat 32 (a / 2 ^ j)
  apply BitVec.eq_of_toNat_eq
  have h1 : (BitVec.ofNat 32 j % (32 : BitVec 32)).toNat = j := by
    rw [BitVec.toNat_umod, BitVec.toNat_ofNat]
    show j % 4294967296 % 32 = j
    omega
  have h2 : a / 2 ^ j ≤ a := Nat.div_le_self _ _
  rw [BitVec.ushiftRight_eq', h1, BitVec.toNat_ushiftRight, Nat.shiftRight_eq_div_pow, BitVec.toNat_ofNat, BitVec.toNat_ofNat, Nat.mod_eq_of_lt (a := a) (by omega), Nat.mod_eq_of_lt (by omega)]
/-- and, by a byte and the rest -/
theorem and_byte {x y a c : Nat} (ha : a < 256) (hc : c < 256) : (256 * x + a) &&& (256 * y + c) = 256 * (x &&& y) + (a &&& c) := by
  have hac : a &&& c < 2 ^ 8 := Nat.and_lt_two_pow _ hc
  apply Nat.eq_of_testBit_eq
  intro i
  have e : (256 : Nat) = 2 ^ 8 := rfl
  rw [e, Nat.testBit_and, Nat.testBit_two_pow_mul_add _ ha, Nat.testBit_two_pow_mul_add _ hc, Nat.testBit_two_pow_mul_add _ hac]
  by_cases h : i < 8
  · rw [if_pos h, if_pos h, if_pos h, Nat.testBit_and]
  · rw [if_neg h, if_neg h, if_neg h, Nat.testBit_and]
def bq1 (c m : Nat) : Nat := m - (m / 2 &&& c)
def bq2 (c m : Nat) : Nat := (m &&& c) + (m / 4 &&& c)
def bq3 (c m : Nat) : Nat := m + m / 16 &&& c
def pcb (b : Nat) : Nat := ((List.range 8).filter fun i => b.testBit i).length
theorem bq1_byte {c m b : Nat} (hb : b < 256) : bq1 (256 * c + 85) (256 * m + b) = 256 * bq1 c m + bq1 85 b := by
  have e : (256 * m + b) / 2 = 256 * (m / 2) + (b / 2 + 128 * (m % 2)) := by omega
  have h1 : ∀ b : Fin 256, ∀ t : Fin 2, ((b : Nat) / 2 + 128 * (t : Nat) &&& 85) = ((b : Nat) / 2 &&& 85) := by decide +kernel
  have h2 := h1 ⟨b, hb⟩ ⟨m % 2, by omega⟩
  have h3 : (m / 2 &&& c) ≤ m / 2 := Nat.and_le_left
  have h4 : (b / 2 &&& 85) ≤ b / 2 := Nat.and_le_left
  simp only at h2
  unfold bq1
  rw [e, and_byte (by omega) (by omega), h2]
  omega
theorem bq2_byte {c m b : Nat} (hb : b < 256) : bq2 (256 * c + 51) (256 * m + b) = 256 * bq2 c m + bq2 51 b := by
  have e : (256 * m + b) / 4 = 256 * (m / 4) + (b / 4 + 64 * (m % 4)) := by omega
  have h1 : ∀ b : Fin 256, ∀ t : Fin 4, ((b : Nat) / 4 + 64 * (t : Nat) &&& 51) = ((b : Nat) / 4 &&& 51) := by decide +kernel
  have h2 := h1 ⟨b, hb⟩ ⟨m % 4, by omega⟩
  simp only at h2
  unfold bq2
  rw [e, and_byte hb (by omega), and_byte (by omega) (by omega), h2]
  omega
theorem bq3_byte {c m b : Nat} (hb : b ≤ 68) (hm : m % 16 ≤ 4) : bq3 (256 * c + 15) (256 * m + b) = 256 * bq3 c m + bq3 15 b := by
  have e : 256 * m + b + (256 * m + b) / 16 = 256 * (m + m / 16) + (b + b / 16 + 16 * (m % 16)) := by omega
  have h1 : ∀ b : Fin 69, ∀ t : Fin 5, ((b : Nat) + (b : Nat) / 16 + 16 * (t : Nat) &&& 15) = ((b : Nat) + (b : Nat) / 16 &&& 15) := by decide +kernel
  have h2 := h1 ⟨b, by omega⟩ ⟨m % 16, by omega⟩
  simp only at h2
  unfold bq3
  rw [e, and_byte (by omega) (by omega), h2]
theorem bq_bytes : ∀ b : Fin 256, bq1 85 b < 256 ∧ bq2 51 (bq1 85 b) ≤ 68 ∧ bq2 51 (bq1 85 b) % 16 ≤ 4 ∧ bq3 15 (bq2 51 (bq1 85 b)) = pcb b ∧ pcb b ≤ 8 := by decide +kernel
theorem cnt_byte {m b : Nat} (n : Nat) (hb : b < 256) : ((List.range (8 + n)).filter fun i => (256 * m + b).testBit i).length = pcb b + ((List.range n).filter fun i => m.testBit i).length := by
  have e : (256 : Nat) = 2 ^ 8 := rfl
  rw [List.range_add, List.filter_append, List.length_append, List.filter_map, List.length_map]
  unfold pcb
  congr 2
  · apply List.filter_congr
    intro i hi
    rw [e, Nat.testBit_two_pow_mul_add _ hb, if_pos (List.mem_range.mp hi)]
  · apply List.filter_congr
    intro i hi
    show (256 * m + b).testBit (8 + i) = m.testBit i
    rw [e, Nat.testBit_two_pow_mul_add _ hb, if_neg (by omega), Nat.add_sub_cancel_left]
theorem popc_bytes {b0 b1 b2 b3 : Nat} (h0 : b0 < 256) (h1 : b1 < 256) (h2 : b2 < 256) : popc (256 * (256 * (256 * b3 + b2) + b1) + b0) = pcb b0 + pcb b1 + pcb b2 + pcb b3 := by
  unfold popc
  rw [show (32 : Nat) = 8 + 24 from rfl, cnt_byte 24 h0, show (24 : Nat) = 8 + 16 from rfl, cnt_byte 16 h1, show (16 : Nat) = 8 + 8 from rfl, cnt_byte 8 h2]
  show pcb b0 + (pcb b1 + (pcb b2 + pcb b3)) = _
  omega
theorem bq_sum {n p q r s : Nat} (hp : p ≤ 8) (hq : q ≤ 8) (hr : r ≤ 8) (hs : s ≤ 8) (h : n = 256 * (256 * (256 * s + (r + s)) + (q + r)) + (p + q)) : (n + n / 65536) % 64 = p + q + r + s := by
  have h1 : n / 65536 = 256 * s + (r + s) := by omega
  rw [h1]
  omega
/-- what bitCount adds up -/
theorem bq_popc {m n3 n4 : Nat} (r : m < 2147483648) (e3 : n3 = bq3 252645135 (bq2 858993459 (bq1 1431655765 m))) (e4 : n4 = n3 + n3 / 256) : n3 ≤ 134744072 ∧ (n4 + n4 / 65536) % 64 = popc m := by
  obtain ⟨b0, h0⟩ : ∃ x, x = m % 256 := ⟨_, rfl⟩
  obtain ⟨b1, h1⟩ : ∃ x, x = m / 256 % 256 := ⟨_, rfl⟩
  obtain ⟨b2, h2⟩ : ∃ x, x = m / 65536 % 256 := ⟨_, rfl⟩
  obtain ⟨b3, h3⟩ : ∃ x, x = m / 16777216 := ⟨_, rfl⟩
  have hm : m = 256 * (256 * (256 * b3 + b2) + b1) + b0 := by omega
  have l0 : b0 < 256 := by omega
  have l1 : b1 < 256 := by omega
  have l2 : b2 < 256 := by omega
  have l3 : b3 < 256 := by omega
  obtain ⟨p0, q0, r0, s0, t0⟩ := bq_bytes ⟨b0, l0⟩
  obtain ⟨p1, q1, r1, s1, t1⟩ := bq_bytes ⟨b1, l1⟩
  obtain ⟨p2, q2, r2, s2, t2⟩ := bq_bytes ⟨b2, l2⟩
  obtain ⟨p3, q3, r3, s3, t3⟩ := bq_bytes ⟨b3, l3⟩
  simp only at p0 q0 r0 s0 t0 p1 q1 r1 s1 t1 p2 q2 r2 s2 t2 p3 q3 r3 s3 t3
  have a1 : bq1 1431655765 m = 256 * (256 * (256 * bq1 85 b3 + bq1 85 b2) + bq1 85 b1) + bq1 85 b0 := by
    rw [hm, show (1431655765 : Nat) = 256 * (256 * (256 * 85 + 85) + 85) + 85 from rfl, bq1_byte l0, bq1_byte l1, bq1_byte l2]
  have a2 : bq2 858993459 (bq1 1431655765 m) = 256 * (256 * (256 * bq2 51 (bq1 85 b3) + bq2 51 (bq1 85 b2)) + bq2 51 (bq1 85 b1)) + bq2 51 (bq1 85 b0) := by
    rw [a1, show (858993459 : Nat) = 256 * (256 * (256 * 51 + 51) + 51) + 51 from rfl, bq2_byte p0, bq2_byte p1, bq2_byte p2]
  have a3 : n3 = 256 * (256 * (256 * pcb b3 + pcb b2) + pcb b1) + pcb b0 := by
    rw [e3, a2, show (252645135 : Nat) = 256 * (256 * (256 * 15 + 15) + 15) + 15 from rfl, bq3_byte q0 (by omega), bq3_byte q1 (by omega), bq3_byte q2 (by omega), s0, s1, s2, s3]
  have hp : popc m = pcb b0 + pcb b1 + pcb b2 + pcb b3 := by rw [hm]; exact popc_bytes l0 l1 l2
  rw [hp]
  have hn4 : n4 = 256 * (256 * (256 * pcb b3 + (pcb b2 + pcb b3)) + (pcb b1 + pcb b2)) + (pcb b0 + pcb b1) := by omega
  exact ⟨by omega, bq_sum t0 t1 t2 t3 hn4⟩
theorem bq_le {m : Nat} (r : m < 2147483648) : bq1 1431655765 m ≤ m ∧ bq2 858993459 (bq1 1431655765 m) < 2147483648 ∧ (m / 2 &&& 1431655765) ≤ m := by
  have h1 : (m / 2 &&& 1431655765) ≤ m / 2 := Nat.and_le_left
  have h2 : (bq1 1431655765 m &&& 858993459) ≤ 858993459 := Nat.and_le_right
  have h3 : (bq1 1431655765 m / 4 &&& 858993459) ≤ 858993459 := Nat.and_le_right
  refine ⟨?_, ?_, ?_⟩
  · unfold bq1; omega
  · unfold bq2; omega
  · omega
theorem c_J_bitCount {E : gE} {w : gW} {im : gIm} {Q : gQ} {m : Nat} (r : m < 2147483648) (hQ : Q (.inl (some (.int (iI (popc m))))) w im) : GM E 0 y_J_bitCount m_J_bitCount 0 0 [.int (iI m)] w im Q := by
  obtain ⟨l1, l2, l4⟩ := bq_le r
  obtain ⟨n1, e1⟩ : ∃ x, x = bq1 1431655765 m := ⟨_, rfl⟩
  obtain ⟨n2, e2⟩ : ∃ x, x = bq2 858993459 n1 := ⟨_, rfl⟩
  obtain ⟨n3, e3⟩ : ∃ x, x = bq3 252645135 n2 := ⟨_, rfl⟩
  obtain ⟨n4, e4⟩ : ∃ x, x = n3 + n3 / 256 := ⟨_, rfl⟩
  obtain ⟨l3, hp⟩ := bq_popc r (by rw [e3, e2, e1]) e4
  rw [← e1] at l1 l2
  rw [← e2] at l2
  refine g_enter (by decide) rfl rfl (fun h => by first | rfl | cases h) (Nat.le_of_ble_eq_true rfl) rfl ?_
  refine g_iload_n (n := 0) (i := 0) rfl rfl d_J_bitCount_0 ?_
  refine g_iload_n (n := 0) (i := 0) rfl rfl d_J_bitCount_1 ?_
  refine g_iconst_i d_J_bitCount_2 ?_
  refine g_iushr (iI_shr 1 (by decide) (by decide) (by omega)) d_J_bitCount_3 ?_
  refine g_ldcw_i (z := ((1431655765 : Nat) : Int)) k_J_265 (by decide) d_J_bitCount_4 ?_
  refine g_iand d_J_bitCount_7 ?_
  rw [iI_and]
  refine g_isub_i d_J_bitCount_8 ?_
  rw [show ((m : Nat) : Int) - ((m / 2 ^ 1 &&& 1431655765 : Nat) : Int) = ((n1 : Nat) : Int) by rw [e1]; unfold bq1; show _ - (((m / 2 &&& 1431655765 : Nat)) : Int) = _; omega]
  refine g_istore_n (n := 0) (i := 0) rfl (by decide) rfl d_J_bitCount_9 ?_
  refine g_iload_n (n := 0) (i := 0) rfl rfl d_J_bitCount_10 ?_
  refine g_ldcw_i (z := ((858993459 : Nat) : Int)) k_J_266 (by decide) d_J_bitCount_11 ?_
  refine g_iand d_J_bitCount_14 ?_
  rw [iI_and]
  refine g_iload_n (n := 0) (i := 0) rfl rfl d_J_bitCount_15 ?_
  refine g_iconst_i d_J_bitCount_16 ?_
  refine g_iushr (iI_shr 2 (by decide) (by decide) (by omega)) d_J_bitCount_17 ?_
  refine g_ldcw_i (z := ((858993459 : Nat) : Int)) k_J_266 (by decide) d_J_bitCount_18 ?_
  refine g_iand d_J_bitCount_21 ?_
  rw [iI_and]
  refine g_iadd_i d_J_bitCount_22 ?_
  rw [show ((n1 &&& 858993459 : Nat) : Int) + ((n1 / 2 ^ 2 &&& 858993459 : Nat) : Int) = ((n2 : Nat) : Int) by rw [e2]; unfold bq2; show _ + (((n1 / 4 &&& 858993459 : Nat)) : Int) = _; omega]
  refine g_istore_n (n := 0) (i := 0) rfl (by decide) rfl d_J_bitCount_23 ?_
  refine g_iload_n (n := 0) (i := 0) rfl rfl d_J_bitCount_24 ?_
  refine g_iload_n (n := 0) (i := 0) rfl rfl d_J_bitCount_25 ?_
  refine g_iconst_i d_J_bitCount_26 ?_
  refine g_iushr (iI_shr 4 (by decide) (by decide) (by omega)) d_J_bitCount_27 ?_
  refine g_iadd_i d_J_bitCount_28 ?_
  rw [show ((n2 : Nat) : Int) + ((n2 / 2 ^ 4 : Nat) : Int) = ((n2 + n2 / 16 : Nat) : Int) by show _ + ((n2 / 16 : Nat) : Int) = _; omega]
  refine g_ldcw_i (z := ((252645135 : Nat) : Int)) k_J_267 (by decide) d_J_bitCount_29 ?_
  refine g_iand d_J_bitCount_32 ?_
  rw [iI_and]
  rw [show (n2 + n2 / 16 &&& 252645135) = n3 from e3.symm]
  refine g_istore_n (n := 0) (i := 0) rfl (by decide) rfl d_J_bitCount_33 ?_
  refine g_iload_n (n := 0) (i := 0) rfl rfl d_J_bitCount_34 ?_
  refine g_iload_n (n := 0) (i := 0) rfl rfl d_J_bitCount_35 ?_
  refine g_bipush_i (by decide) d_J_bitCount_36 ?_
  refine g_iushr (iI_shr 8 (by decide) (by decide) (by omega)) d_J_bitCount_38 ?_
  refine g_iadd_i d_J_bitCount_39 ?_
  rw [show ((n3 : Nat) : Int) + ((n3 / 2 ^ 8 : Nat) : Int) = ((n4 : Nat) : Int) by show _ + ((n3 / 256 : Nat) : Int) = _; omega]
  refine g_istore_n (n := 0) (i := 0) rfl (by decide) rfl d_J_bitCount_40 ?_
  refine g_iload_n (n := 0) (i := 0) rfl rfl d_J_bitCount_41 ?_
  refine g_iload_n (n := 0) (i := 0) rfl rfl d_J_bitCount_42 ?_
  refine g_bipush_i (by decide) d_J_bitCount_43 ?_
  refine g_iushr (iI_shr 16 (by decide) (by decide) (by omega)) d_J_bitCount_45 ?_
  refine g_iadd_i d_J_bitCount_46 ?_
  rw [show ((n4 : Nat) : Int) + ((n4 / 2 ^ 16 : Nat) : Int) = ((n4 + n4 / 65536 : Nat) : Int) by show _ + ((n4 / 65536 : Nat) : Int) = _; omega]
  refine g_istore_n (n := 0) (i := 0) rfl (by decide) rfl d_J_bitCount_47 ?_
  refine g_iload_n (n := 0) (i := 0) rfl rfl d_J_bitCount_48 ?_
  refine g_bipush_i (by decide) d_J_bitCount_49 ?_
  refine g_iand d_J_bitCount_51 ?_
  rw [show iI 63 = iI ((63 : Nat) : Int) from rfl, iI_and, show (n4 + n4 / 65536 &&& 63) = popc m by rw [← hp]; exact Nat.and_two_pow_sub_one_eq_mod _ 6]
  refine g_ireturn_i rfl d_J_bitCount_52 ?_
  exact hQ
theorem ntz_at {n d : Nat} (hd : d < 32) (h1 : n.testBit d = true) (h2 : ∀ j, j < d → n.testBit j = false) : ntz n = d := by
  unfold ntz
  rw [List.headD_eq_head?_getD, List.head?_filter]
  have : (List.range 32).find? (fun i => !(n % 2 ^ (i + 1) == 0)) = some d := by
    rw [List.find?_range_eq_some]
    refine ⟨?_, List.mem_range.2 hd, fun j hj => ?_⟩
    · by_cases h : n % 2 ^ (d + 1) = 0
      · have h3 : (n % 2 ^ (d + 1)).testBit d = true := by rw [Nat.testBit_mod_two_pow, h1]; simp
        rw [h] at h3
        simp at h3
      · simp [h]
    · have h : n % 2 ^ (j + 1) = 0 := by
        apply Nat.eq_of_testBit_eq
        intro i
        rw [Nat.testBit_mod_two_pow, Nat.zero_testBit]
        by_cases h : i < j + 1
        · rw [h2 i (by omega), Bool.and_false]
        · rw [decide_eq_false h, Bool.false_and]
      simp [h]
  rw [this]; rfl
/-- a number as an odd one, shifted -/
theorem odd_part : ∀ (b n : Nat), n < b → n ≠ 0 → ∃ t q, n = 2 ^ t * (2 * q + 1)
  | 0, _, h, _ => absurd h (Nat.not_lt_zero _)
  | b + 1, n, h, h0 => by
    by_cases e : n % 2 = 0
    · obtain ⟨t, q, hq⟩ := odd_part b (n / 2) (by omega) (by omega)
      refine ⟨t + 1, q, ?_⟩
      rw [Nat.pow_succ, Nat.mul_right_comm, ← hq]
      omega
    · exact ⟨0, n / 2, by rw [Nat.pow_zero, Nat.one_mul]; omega⟩
/-- the zeros behind its last one, as a mask: what ~i & (i - 1) is -/
theorem ntz_mask {m : Nat} (r : m < 2147483648) (h0 : m ≠ 0) : ntz m < 31 ∧ (iI m ^^^ iI (-1)) &&& iI ((m : Int) - 1) = iI ((2 ^ ntz m - 1 : Nat) : Int) := by
  obtain ⟨t, q, hm⟩ := odd_part (m + 1) m (by omega) h0
  have hp : 0 < 2 ^ t := Nat.two_pow_pos t
  have hle : 2 ^ t ≤ m := by
    rw [hm]
    exact Nat.le_mul_of_pos_right _ (by omega)
  have ht : t < 31 := by
    have h1 : 2 ^ t < 2 ^ 31 := by omega
    exact (Nat.pow_lt_pow_iff_right (by decide)).mp h1
  have b1 : ∀ i, m.testBit i = if i < t then false else (2 * q + 1).testBit (i - t) := by
    intro i
    have := Nat.testBit_two_pow_mul_add (2 * q + 1) hp i
    rw [Nat.add_zero, Nat.zero_testBit] at this
    rw [hm]; exact this
  have b2 : ∀ i, (m - 1).testBit i = if i < t then true else (2 * q).testBit (i - t) := by
    intro i
    have e : m - 1 = 2 ^ t * (2 * q) + (2 ^ t - 1) := by
      have h9 : m = 2 ^ t * (2 * q) + 2 ^ t := by rw [hm, Nat.mul_add, Nat.mul_one]
      omega
    rw [e, Nat.testBit_two_pow_mul_add _ (by omega)]
    by_cases h : i < t
    · rw [if_pos h, if_pos h, Nat.testBit_two_pow_sub_one]; simp [h]
    · rw [if_neg h, if_neg h]
  have hn : ntz m = t := ntz_at (by omega) (by rw [b1, if_neg (by omega), Nat.sub_self]; simp) (fun j hj => by rw [b1, if_pos hj])
  refine ⟨by omega, ?_⟩
  rw [hn, show ((m : Int) - 1) = ((m - 1 : Nat) : Int) by omega, ← iI_nI, ← iI_nI, ← iI_nI]
  apply Int32.toBitVec_inj.1
  show (BitVec.ofNat 32 m ^^^ BitVec.ofInt 32 (-1)) &&& BitVec.ofNat 32 (m - 1) = BitVec.ofNat 32 (2 ^ t - 1)
  apply BitVec.eq_of_getLsbD_eq
  intro i hi
  have h1 : (BitVec.ofInt 32 (-1)).getLsbD i = true := by
    have : BitVec.ofInt 32 (-1) = BitVec.allOnes 32 := by decide
    rw [this, BitVec.getLsbD_allOnes]; simp [hi]
  simp only [BitVec.getLsbD_and, BitVec.getLsbD_xor, BitVec.getLsbD_ofNat, h1, b1, b2, Nat.testBit_two_pow_sub_one]
  by_cases h : i < t
  · simp [h, hi]
  · rw [if_neg h, if_neg h, decide_eq_false h]
    have hz : (!(2 * q + 1).testBit (i - t) && (2 * q).testBit (i - t)) = false := by
      cases i - t with
      | zero => simp
      | succ k =>
        have a1 : (2 * q + 1).testBit (k + 1) = q.testBit k := by
          rw [Nat.testBit_succ, show (2 * q + 1) / 2 = q by omega]
        have a2 : (2 * q).testBit (k + 1) = q.testBit k := by
          rw [Nat.testBit_succ, show 2 * q / 2 = q by omega]
        rw [a1, a2]
        cases q.testBit k <;> rfl
    rw [decide_eq_true hi]
    simp only [Bool.true_and, Bool.and_false, Bool.xor_true]
    exact hz
theorem c_J_numberOfTrailingZeros {E : gE} {w : gW} {im : gIm} {Q : gQ} {m : Nat} (r : m < 2147483648) (h0 : m ≠ 0) (hQ : Q (.inl (some (.int (iI (ntz m))))) w im) : GM E 0 y_J_numberOfTrailingZeros m_J_numberOfTrailingZeros 0 0 [.int (iI m)] w im Q := by
  obtain ⟨ht, hk⟩ := ntz_mask r h0
  obtain ⟨t, e⟩ : ∃ t, t = ntz m := ⟨_, rfl⟩
  rw [← e] at ht hk hQ
  obtain ⟨N, eN⟩ : ∃ N, N = 2 ^ t - 1 := ⟨_, rfl⟩
  rw [← eN] at hk
  have hN : N < 1073741824 := by
    have h1 : 2 ^ t ≤ 2 ^ 30 := Nat.pow_le_pow_right (by decide) (by omega)
    have h2 : 0 < 2 ^ t := Nat.two_pow_pos t
    omega
  refine g_enter (by decide) rfl rfl (fun h => by first | rfl | cases h) (Nat.le_of_ble_eq_true rfl) rfl ?_
  refine g_iload_n (n := 0) (i := 0) rfl rfl d_J_numberOfTrailingZeros_0 ?_
  refine g_iconst_i d_J_numberOfTrailingZeros_1 ?_
  refine g_ixor d_J_numberOfTrailingZeros_2 ?_
  refine g_iload_n (n := 0) (i := 0) rfl rfl d_J_numberOfTrailingZeros_3 ?_
  refine g_iconst_i d_J_numberOfTrailingZeros_4 ?_
  refine g_isub_i d_J_numberOfTrailingZeros_5 ?_
  refine g_iand d_J_numberOfTrailingZeros_6 ?_
  rw [hk]
  refine g_istore_n (n := 0) (i := 0) rfl (by decide) rfl d_J_numberOfTrailingZeros_7 ?_
  refine g_iload_n (n := 0) (i := 0) rfl rfl d_J_numberOfTrailingZeros_8 ?_
  refine g_if_gt_i (tgt := 17) (by omega) d_J_numberOfTrailingZeros_9 (by decide) (fun h9 => ?_) (fun h9 => ?_)
  · skip
    refine g_iconst_i d_J_numberOfTrailingZeros_17 ?_
    refine g_istore_n (n := 1) (i := 1) rfl (by decide) rfl d_J_numberOfTrailingZeros_18 ?_
    refine g_iload_n (n := 0) (i := 0) rfl rfl d_J_numberOfTrailingZeros_19 ?_
    refine g_ldcw_i (z := 65536) k_J_264 (by decide) d_J_numberOfTrailingZeros_20 ?_
    refine g_icmp_le_i (tgt := 34) (by omega) (by decide) d_J_numberOfTrailingZeros_23 (by decide) (fun h23 => ?_) (fun h23 => ?_)
    · skip
      refine g_iload_n (n := 0) (i := 0) rfl rfl d_J_numberOfTrailingZeros_34 ?_
      refine g_sipush_i (by decide) d_J_numberOfTrailingZeros_35 ?_
      refine g_icmp_le_i (tgt := 49) (by omega) (by decide) d_J_numberOfTrailingZeros_38 (by decide) (fun h38 => ?_) (fun h38 => ?_)
      · skip
        refine g_iload_n (n := 0) (i := 0) rfl rfl d_J_numberOfTrailingZeros_49 ?_
        refine g_bipush_i (by decide) d_J_numberOfTrailingZeros_50 ?_
        refine g_icmp_le_i (tgt := 62) (by omega) (by decide) d_J_numberOfTrailingZeros_52 (by decide) (fun h52 => ?_) (fun h52 => ?_)
        · skip
          refine g_iload_n (n := 0) (i := 0) rfl rfl d_J_numberOfTrailingZeros_62 ?_
          refine g_iconst_i d_J_numberOfTrailingZeros_63 ?_
          refine g_icmp_le_i (tgt := 74) (by omega) (by decide) d_J_numberOfTrailingZeros_64 (by decide) (fun h64 => ?_) (fun h64 => ?_)
          · skip
            refine g_iload_n (n := 1) (i := 1) rfl rfl d_J_numberOfTrailingZeros_74 ?_
            refine g_iload_n (n := 0) (i := 0) rfl rfl d_J_numberOfTrailingZeros_75 ?_
            refine g_iconst_i d_J_numberOfTrailingZeros_76 ?_
            refine g_iushr (iI_shr 1 (by decide) (by decide) (by omega)) d_J_numberOfTrailingZeros_77 ?_
            refine g_iadd_i d_J_numberOfTrailingZeros_78 ?_
            refine g_ireturn_i rfl d_J_numberOfTrailingZeros_79 ?_
            refine g_qi hQ ?_
            subst eN
            clear hQ hk hN e
            have hh := And.intro h9 (And.intro h23 (And.intro h38 (And.intro h52 (h64))))
            clear h9 h23 h38 h52 h64
            revert hh
            revert ht
            revert t
            decide +kernel
          · skip
            refine g_iinc_i (i := 1) rfl (by decide) rfl d_J_numberOfTrailingZeros_67 ?_
            refine g_iload_n (n := 0) (i := 0) rfl rfl d_J_numberOfTrailingZeros_70 ?_
            refine g_iconst_i d_J_numberOfTrailingZeros_71 ?_
            refine g_iushr (iI_shr 2 (by decide) (by decide) (by omega)) d_J_numberOfTrailingZeros_72 ?_
            refine g_istore_n (n := 0) (i := 0) rfl (by decide) rfl d_J_numberOfTrailingZeros_73 ?_
            refine g_iload_n (n := 1) (i := 1) rfl rfl d_J_numberOfTrailingZeros_74 ?_
            refine g_iload_n (n := 0) (i := 0) rfl rfl d_J_numberOfTrailingZeros_75 ?_
            refine g_iconst_i d_J_numberOfTrailingZeros_76 ?_
            refine g_iushr (iI_shr 1 (by decide) (by decide) (by omega)) d_J_numberOfTrailingZeros_77 ?_
            refine g_iadd_i d_J_numberOfTrailingZeros_78 ?_
            refine g_ireturn_i rfl d_J_numberOfTrailingZeros_79 ?_
            refine g_qi hQ ?_
            subst eN
            clear hQ hk hN e
            have hh := And.intro h9 (And.intro h23 (And.intro h38 (And.intro h52 (h64))))
            clear h9 h23 h38 h52 h64
            revert hh
            revert ht
            revert t
            decide +kernel
        · skip
          refine g_iinc_i (i := 1) rfl (by decide) rfl d_J_numberOfTrailingZeros_55 ?_
          refine g_iload_n (n := 0) (i := 0) rfl rfl d_J_numberOfTrailingZeros_58 ?_
          refine g_iconst_i d_J_numberOfTrailingZeros_59 ?_
          refine g_iushr (iI_shr 4 (by decide) (by decide) (by omega)) d_J_numberOfTrailingZeros_60 ?_
          refine g_istore_n (n := 0) (i := 0) rfl (by decide) rfl d_J_numberOfTrailingZeros_61 ?_
          refine g_iload_n (n := 0) (i := 0) rfl rfl d_J_numberOfTrailingZeros_62 ?_
          refine g_iconst_i d_J_numberOfTrailingZeros_63 ?_
          refine g_icmp_le_i (tgt := 74) (by omega) (by decide) d_J_numberOfTrailingZeros_64 (by decide) (fun h64 => ?_) (fun h64 => ?_)
          · skip
            refine g_iload_n (n := 1) (i := 1) rfl rfl d_J_numberOfTrailingZeros_74 ?_
            refine g_iload_n (n := 0) (i := 0) rfl rfl d_J_numberOfTrailingZeros_75 ?_
            refine g_iconst_i d_J_numberOfTrailingZeros_76 ?_
            refine g_iushr (iI_shr 1 (by decide) (by decide) (by omega)) d_J_numberOfTrailingZeros_77 ?_
            refine g_iadd_i d_J_numberOfTrailingZeros_78 ?_
            refine g_ireturn_i rfl d_J_numberOfTrailingZeros_79 ?_
            refine g_qi hQ ?_
            subst eN
            clear hQ hk hN e
            have hh := And.intro h9 (And.intro h23 (And.intro h38 (And.intro h52 (h64))))
            clear h9 h23 h38 h52 h64
            revert hh
            revert ht
            revert t
            decide +kernel
          · skip
            refine g_iinc_i (i := 1) rfl (by decide) rfl d_J_numberOfTrailingZeros_67 ?_
            refine g_iload_n (n := 0) (i := 0) rfl rfl d_J_numberOfTrailingZeros_70 ?_
            refine g_iconst_i d_J_numberOfTrailingZeros_71 ?_
            refine g_iushr (iI_shr 2 (by decide) (by decide) (by omega)) d_J_numberOfTrailingZeros_72 ?_
            refine g_istore_n (n := 0) (i := 0) rfl (by decide) rfl d_J_numberOfTrailingZeros_73 ?_
            refine g_iload_n (n := 1) (i := 1) rfl rfl d_J_numberOfTrailingZeros_74 ?_
            refine g_iload_n (n := 0) (i := 0) rfl rfl d_J_numberOfTrailingZeros_75 ?_
            refine g_iconst_i d_J_numberOfTrailingZeros_76 ?_
            refine g_iushr (iI_shr 1 (by decide) (by decide) (by omega)) d_J_numberOfTrailingZeros_77 ?_
            refine g_iadd_i d_J_numberOfTrailingZeros_78 ?_
            refine g_ireturn_i rfl d_J_numberOfTrailingZeros_79 ?_
            refine g_qi hQ ?_
            subst eN
            clear hQ hk hN e
            have hh := And.intro h9 (And.intro h23 (And.intro h38 (And.intro h52 (h64))))
            clear h9 h23 h38 h52 h64
            revert hh
            revert ht
            revert t
            decide +kernel
      · skip
        refine g_iinc_i (i := 1) rfl (by decide) rfl d_J_numberOfTrailingZeros_41 ?_
        refine g_iload_n (n := 0) (i := 0) rfl rfl d_J_numberOfTrailingZeros_44 ?_
        refine g_bipush_i (by decide) d_J_numberOfTrailingZeros_45 ?_
        refine g_iushr (iI_shr 8 (by decide) (by decide) (by omega)) d_J_numberOfTrailingZeros_47 ?_
        refine g_istore_n (n := 0) (i := 0) rfl (by decide) rfl d_J_numberOfTrailingZeros_48 ?_
        refine g_iload_n (n := 0) (i := 0) rfl rfl d_J_numberOfTrailingZeros_49 ?_
        refine g_bipush_i (by decide) d_J_numberOfTrailingZeros_50 ?_
        refine g_icmp_le_i (tgt := 62) (by omega) (by decide) d_J_numberOfTrailingZeros_52 (by decide) (fun h52 => ?_) (fun h52 => ?_)
        · skip
          refine g_iload_n (n := 0) (i := 0) rfl rfl d_J_numberOfTrailingZeros_62 ?_
          refine g_iconst_i d_J_numberOfTrailingZeros_63 ?_
          refine g_icmp_le_i (tgt := 74) (by omega) (by decide) d_J_numberOfTrailingZeros_64 (by decide) (fun h64 => ?_) (fun h64 => ?_)
          · skip
            refine g_iload_n (n := 1) (i := 1) rfl rfl d_J_numberOfTrailingZeros_74 ?_
            refine g_iload_n (n := 0) (i := 0) rfl rfl d_J_numberOfTrailingZeros_75 ?_
            refine g_iconst_i d_J_numberOfTrailingZeros_76 ?_
            refine g_iushr (iI_shr 1 (by decide) (by decide) (by omega)) d_J_numberOfTrailingZeros_77 ?_
            refine g_iadd_i d_J_numberOfTrailingZeros_78 ?_
            refine g_ireturn_i rfl d_J_numberOfTrailingZeros_79 ?_
            refine g_qi hQ ?_
            subst eN
            clear hQ hk hN e
            have hh := And.intro h9 (And.intro h23 (And.intro h38 (And.intro h52 (h64))))
            clear h9 h23 h38 h52 h64
            revert hh
            revert ht
            revert t
            decide +kernel
          · skip
            refine g_iinc_i (i := 1) rfl (by decide) rfl d_J_numberOfTrailingZeros_67 ?_
            refine g_iload_n (n := 0) (i := 0) rfl rfl d_J_numberOfTrailingZeros_70 ?_
            refine g_iconst_i d_J_numberOfTrailingZeros_71 ?_
            refine g_iushr (iI_shr 2 (by decide) (by decide) (by omega)) d_J_numberOfTrailingZeros_72 ?_
            refine g_istore_n (n := 0) (i := 0) rfl (by decide) rfl d_J_numberOfTrailingZeros_73 ?_
            refine g_iload_n (n := 1) (i := 1) rfl rfl d_J_numberOfTrailingZeros_74 ?_
            refine g_iload_n (n := 0) (i := 0) rfl rfl d_J_numberOfTrailingZeros_75 ?_
            refine g_iconst_i d_J_numberOfTrailingZeros_76 ?_
            refine g_iushr (iI_shr 1 (by decide) (by decide) (by omega)) d_J_numberOfTrailingZeros_77 ?_
            refine g_iadd_i d_J_numberOfTrailingZeros_78 ?_
            refine g_ireturn_i rfl d_J_numberOfTrailingZeros_79 ?_
            refine g_qi hQ ?_
            subst eN
            clear hQ hk hN e
            have hh := And.intro h9 (And.intro h23 (And.intro h38 (And.intro h52 (h64))))
            clear h9 h23 h38 h52 h64
            revert hh
            revert ht
            revert t
            decide +kernel
        · skip
          refine g_iinc_i (i := 1) rfl (by decide) rfl d_J_numberOfTrailingZeros_55 ?_
          refine g_iload_n (n := 0) (i := 0) rfl rfl d_J_numberOfTrailingZeros_58 ?_
          refine g_iconst_i d_J_numberOfTrailingZeros_59 ?_
          refine g_iushr (iI_shr 4 (by decide) (by decide) (by omega)) d_J_numberOfTrailingZeros_60 ?_
          refine g_istore_n (n := 0) (i := 0) rfl (by decide) rfl d_J_numberOfTrailingZeros_61 ?_
          refine g_iload_n (n := 0) (i := 0) rfl rfl d_J_numberOfTrailingZeros_62 ?_
          refine g_iconst_i d_J_numberOfTrailingZeros_63 ?_
          refine g_icmp_le_i (tgt := 74) (by omega) (by decide) d_J_numberOfTrailingZeros_64 (by decide) (fun h64 => ?_) (fun h64 => ?_)
          · skip
            refine g_iload_n (n := 1) (i := 1) rfl rfl d_J_numberOfTrailingZeros_74 ?_
            refine g_iload_n (n := 0) (i := 0) rfl rfl d_J_numberOfTrailingZeros_75 ?_
            refine g_iconst_i d_J_numberOfTrailingZeros_76 ?_
            refine g_iushr (iI_shr 1 (by decide) (by decide) (by omega)) d_J_numberOfTrailingZeros_77 ?_
            refine g_iadd_i d_J_numberOfTrailingZeros_78 ?_
            refine g_ireturn_i rfl d_J_numberOfTrailingZeros_79 ?_
            refine g_qi hQ ?_
            subst eN
            clear hQ hk hN e
            have hh := And.intro h9 (And.intro h23 (And.intro h38 (And.intro h52 (h64))))
            clear h9 h23 h38 h52 h64
            revert hh
            revert ht
            revert t
            decide +kernel
          · skip
            refine g_iinc_i (i := 1) rfl (by decide) rfl d_J_numberOfTrailingZeros_67 ?_
            refine g_iload_n (n := 0) (i := 0) rfl rfl d_J_numberOfTrailingZeros_70 ?_
            refine g_iconst_i d_J_numberOfTrailingZeros_71 ?_
            refine g_iushr (iI_shr 2 (by decide) (by decide) (by omega)) d_J_numberOfTrailingZeros_72 ?_
            refine g_istore_n (n := 0) (i := 0) rfl (by decide) rfl d_J_numberOfTrailingZeros_73 ?_
            refine g_iload_n (n := 1) (i := 1) rfl rfl d_J_numberOfTrailingZeros_74 ?_
            refine g_iload_n (n := 0) (i := 0) rfl rfl d_J_numberOfTrailingZeros_75 ?_
            refine g_iconst_i d_J_numberOfTrailingZeros_76 ?_
            refine g_iushr (iI_shr 1 (by decide) (by decide) (by omega)) d_J_numberOfTrailingZeros_77 ?_
            refine g_iadd_i d_J_numberOfTrailingZeros_78 ?_
            refine g_ireturn_i rfl d_J_numberOfTrailingZeros_79 ?_
            refine g_qi hQ ?_
            subst eN
            clear hQ hk hN e
            have hh := And.intro h9 (And.intro h23 (And.intro h38 (And.intro h52 (h64))))
            clear h9 h23 h38 h52 h64
            revert hh
            revert ht
            revert t
            decide +kernel
    · skip
      refine g_iinc_i (i := 1) rfl (by decide) rfl d_J_numberOfTrailingZeros_26 ?_
      refine g_iload_n (n := 0) (i := 0) rfl rfl d_J_numberOfTrailingZeros_29 ?_
      refine g_bipush_i (by decide) d_J_numberOfTrailingZeros_30 ?_
      refine g_iushr (iI_shr 16 (by decide) (by decide) (by omega)) d_J_numberOfTrailingZeros_32 ?_
      refine g_istore_n (n := 0) (i := 0) rfl (by decide) rfl d_J_numberOfTrailingZeros_33 ?_
      refine g_iload_n (n := 0) (i := 0) rfl rfl d_J_numberOfTrailingZeros_34 ?_
      refine g_sipush_i (by decide) d_J_numberOfTrailingZeros_35 ?_
      refine g_icmp_le_i (tgt := 49) (by omega) (by decide) d_J_numberOfTrailingZeros_38 (by decide) (fun h38 => ?_) (fun h38 => ?_)
      · skip
        refine g_iload_n (n := 0) (i := 0) rfl rfl d_J_numberOfTrailingZeros_49 ?_
        refine g_bipush_i (by decide) d_J_numberOfTrailingZeros_50 ?_
        refine g_icmp_le_i (tgt := 62) (by omega) (by decide) d_J_numberOfTrailingZeros_52 (by decide) (fun h52 => ?_) (fun h52 => ?_)
        · skip
          refine g_iload_n (n := 0) (i := 0) rfl rfl d_J_numberOfTrailingZeros_62 ?_
          refine g_iconst_i d_J_numberOfTrailingZeros_63 ?_
          refine g_icmp_le_i (tgt := 74) (by omega) (by decide) d_J_numberOfTrailingZeros_64 (by decide) (fun h64 => ?_) (fun h64 => ?_)
          · skip
            refine g_iload_n (n := 1) (i := 1) rfl rfl d_J_numberOfTrailingZeros_74 ?_
            refine g_iload_n (n := 0) (i := 0) rfl rfl d_J_numberOfTrailingZeros_75 ?_
            refine g_iconst_i d_J_numberOfTrailingZeros_76 ?_
            refine g_iushr (iI_shr 1 (by decide) (by decide) (by omega)) d_J_numberOfTrailingZeros_77 ?_
            refine g_iadd_i d_J_numberOfTrailingZeros_78 ?_
            refine g_ireturn_i rfl d_J_numberOfTrailingZeros_79 ?_
            refine g_qi hQ ?_
            subst eN
            clear hQ hk hN e
            have hh := And.intro h9 (And.intro h23 (And.intro h38 (And.intro h52 (h64))))
            clear h9 h23 h38 h52 h64
            revert hh
            revert ht
            revert t
            decide +kernel
          · skip
            refine g_iinc_i (i := 1) rfl (by decide) rfl d_J_numberOfTrailingZeros_67 ?_
            refine g_iload_n (n := 0) (i := 0) rfl rfl d_J_numberOfTrailingZeros_70 ?_
            refine g_iconst_i d_J_numberOfTrailingZeros_71 ?_
            refine g_iushr (iI_shr 2 (by decide) (by decide) (by omega)) d_J_numberOfTrailingZeros_72 ?_
            refine g_istore_n (n := 0) (i := 0) rfl (by decide) rfl d_J_numberOfTrailingZeros_73 ?_
            refine g_iload_n (n := 1) (i := 1) rfl rfl d_J_numberOfTrailingZeros_74 ?_
            refine g_iload_n (n := 0) (i := 0) rfl rfl d_J_numberOfTrailingZeros_75 ?_
            refine g_iconst_i d_J_numberOfTrailingZeros_76 ?_
            refine g_iushr (iI_shr 1 (by decide) (by decide) (by omega)) d_J_numberOfTrailingZeros_77 ?_
            refine g_iadd_i d_J_numberOfTrailingZeros_78 ?_
            refine g_ireturn_i rfl d_J_numberOfTrailingZeros_79 ?_
            refine g_qi hQ ?_
            subst eN
            clear hQ hk hN e
            have hh := And.intro h9 (And.intro h23 (And.intro h38 (And.intro h52 (h64))))
            clear h9 h23 h38 h52 h64
            revert hh
            revert ht
            revert t
            decide +kernel
        · skip
          refine g_iinc_i (i := 1) rfl (by decide) rfl d_J_numberOfTrailingZeros_55 ?_
          refine g_iload_n (n := 0) (i := 0) rfl rfl d_J_numberOfTrailingZeros_58 ?_
          refine g_iconst_i d_J_numberOfTrailingZeros_59 ?_
          refine g_iushr (iI_shr 4 (by decide) (by decide) (by omega)) d_J_numberOfTrailingZeros_60 ?_
          refine g_istore_n (n := 0) (i := 0) rfl (by decide) rfl d_J_numberOfTrailingZeros_61 ?_
          refine g_iload_n (n := 0) (i := 0) rfl rfl d_J_numberOfTrailingZeros_62 ?_
          refine g_iconst_i d_J_numberOfTrailingZeros_63 ?_
          refine g_icmp_le_i (tgt := 74) (by omega) (by decide) d_J_numberOfTrailingZeros_64 (by decide) (fun h64 => ?_) (fun h64 => ?_)
          · skip
            refine g_iload_n (n := 1) (i := 1) rfl rfl d_J_numberOfTrailingZeros_74 ?_
            refine g_iload_n (n := 0) (i := 0) rfl rfl d_J_numberOfTrailingZeros_75 ?_
            refine g_iconst_i d_J_numberOfTrailingZeros_76 ?_
            refine g_iushr (iI_shr 1 (by decide) (by decide) (by omega)) d_J_numberOfTrailingZeros_77 ?_
            refine g_iadd_i d_J_numberOfTrailingZeros_78 ?_
            refine g_ireturn_i rfl d_J_numberOfTrailingZeros_79 ?_
            refine g_qi hQ ?_
            subst eN
            clear hQ hk hN e
            have hh := And.intro h9 (And.intro h23 (And.intro h38 (And.intro h52 (h64))))
            clear h9 h23 h38 h52 h64
            revert hh
            revert ht
            revert t
            decide +kernel
          · skip
            refine g_iinc_i (i := 1) rfl (by decide) rfl d_J_numberOfTrailingZeros_67 ?_
            refine g_iload_n (n := 0) (i := 0) rfl rfl d_J_numberOfTrailingZeros_70 ?_
            refine g_iconst_i d_J_numberOfTrailingZeros_71 ?_
            refine g_iushr (iI_shr 2 (by decide) (by decide) (by omega)) d_J_numberOfTrailingZeros_72 ?_
            refine g_istore_n (n := 0) (i := 0) rfl (by decide) rfl d_J_numberOfTrailingZeros_73 ?_
            refine g_iload_n (n := 1) (i := 1) rfl rfl d_J_numberOfTrailingZeros_74 ?_
            refine g_iload_n (n := 0) (i := 0) rfl rfl d_J_numberOfTrailingZeros_75 ?_
            refine g_iconst_i d_J_numberOfTrailingZeros_76 ?_
            refine g_iushr (iI_shr 1 (by decide) (by decide) (by omega)) d_J_numberOfTrailingZeros_77 ?_
            refine g_iadd_i d_J_numberOfTrailingZeros_78 ?_
            refine g_ireturn_i rfl d_J_numberOfTrailingZeros_79 ?_
            refine g_qi hQ ?_
            subst eN
            clear hQ hk hN e
            have hh := And.intro h9 (And.intro h23 (And.intro h38 (And.intro h52 (h64))))
            clear h9 h23 h38 h52 h64
            revert hh
            revert ht
            revert t
            decide +kernel
      · skip
        refine g_iinc_i (i := 1) rfl (by decide) rfl d_J_numberOfTrailingZeros_41 ?_
        refine g_iload_n (n := 0) (i := 0) rfl rfl d_J_numberOfTrailingZeros_44 ?_
        refine g_bipush_i (by decide) d_J_numberOfTrailingZeros_45 ?_
        refine g_iushr (iI_shr 8 (by decide) (by decide) (by omega)) d_J_numberOfTrailingZeros_47 ?_
        refine g_istore_n (n := 0) (i := 0) rfl (by decide) rfl d_J_numberOfTrailingZeros_48 ?_
        refine g_iload_n (n := 0) (i := 0) rfl rfl d_J_numberOfTrailingZeros_49 ?_
        refine g_bipush_i (by decide) d_J_numberOfTrailingZeros_50 ?_
        refine g_icmp_le_i (tgt := 62) (by omega) (by decide) d_J_numberOfTrailingZeros_52 (by decide) (fun h52 => ?_) (fun h52 => ?_)
        · skip
          refine g_iload_n (n := 0) (i := 0) rfl rfl d_J_numberOfTrailingZeros_62 ?_
          refine g_iconst_i d_J_numberOfTrailingZeros_63 ?_
          refine g_icmp_le_i (tgt := 74) (by omega) (by decide) d_J_numberOfTrailingZeros_64 (by decide) (fun h64 => ?_) (fun h64 => ?_)
          · skip
            refine g_iload_n (n := 1) (i := 1) rfl rfl d_J_numberOfTrailingZeros_74 ?_
            refine g_iload_n (n := 0) (i := 0) rfl rfl d_J_numberOfTrailingZeros_75 ?_
            refine g_iconst_i d_J_numberOfTrailingZeros_76 ?_
            refine g_iushr (iI_shr 1 (by decide) (by decide) (by omega)) d_J_numberOfTrailingZeros_77 ?_
            refine g_iadd_i d_J_numberOfTrailingZeros_78 ?_
            refine g_ireturn_i rfl d_J_numberOfTrailingZeros_79 ?_
            refine g_qi hQ ?_
            subst eN
            clear hQ hk hN e
            have hh := And.intro h9 (And.intro h23 (And.intro h38 (And.intro h52 (h64))))
            clear h9 h23 h38 h52 h64
            revert hh
            revert ht
            revert t
            decide +kernel
          · skip
            refine g_iinc_i (i := 1) rfl (by decide) rfl d_J_numberOfTrailingZeros_67 ?_
            refine g_iload_n (n := 0) (i := 0) rfl rfl d_J_numberOfTrailingZeros_70 ?_
            refine g_iconst_i d_J_numberOfTrailingZeros_71 ?_
            refine g_iushr (iI_shr 2 (by decide) (by decide) (by omega)) d_J_numberOfTrailingZeros_72 ?_
            refine g_istore_n (n := 0) (i := 0) rfl (by decide) rfl d_J_numberOfTrailingZeros_73 ?_
            refine g_iload_n (n := 1) (i := 1) rfl rfl d_J_numberOfTrailingZeros_74 ?_
            refine g_iload_n (n := 0) (i := 0) rfl rfl d_J_numberOfTrailingZeros_75 ?_
            refine g_iconst_i d_J_numberOfTrailingZeros_76 ?_
            refine g_iushr (iI_shr 1 (by decide) (by decide) (by omega)) d_J_numberOfTrailingZeros_77 ?_
            refine g_iadd_i d_J_numberOfTrailingZeros_78 ?_
            refine g_ireturn_i rfl d_J_numberOfTrailingZeros_79 ?_
            refine g_qi hQ ?_
            subst eN
            clear hQ hk hN e
            have hh := And.intro h9 (And.intro h23 (And.intro h38 (And.intro h52 (h64))))
            clear h9 h23 h38 h52 h64
            revert hh
            revert ht
            revert t
            decide +kernel
        · skip
          refine g_iinc_i (i := 1) rfl (by decide) rfl d_J_numberOfTrailingZeros_55 ?_
          refine g_iload_n (n := 0) (i := 0) rfl rfl d_J_numberOfTrailingZeros_58 ?_
          refine g_iconst_i d_J_numberOfTrailingZeros_59 ?_
          refine g_iushr (iI_shr 4 (by decide) (by decide) (by omega)) d_J_numberOfTrailingZeros_60 ?_
          refine g_istore_n (n := 0) (i := 0) rfl (by decide) rfl d_J_numberOfTrailingZeros_61 ?_
          refine g_iload_n (n := 0) (i := 0) rfl rfl d_J_numberOfTrailingZeros_62 ?_
          refine g_iconst_i d_J_numberOfTrailingZeros_63 ?_
          refine g_icmp_le_i (tgt := 74) (by omega) (by decide) d_J_numberOfTrailingZeros_64 (by decide) (fun h64 => ?_) (fun h64 => ?_)
          · skip
            refine g_iload_n (n := 1) (i := 1) rfl rfl d_J_numberOfTrailingZeros_74 ?_
            refine g_iload_n (n := 0) (i := 0) rfl rfl d_J_numberOfTrailingZeros_75 ?_
            refine g_iconst_i d_J_numberOfTrailingZeros_76 ?_
            refine g_iushr (iI_shr 1 (by decide) (by decide) (by omega)) d_J_numberOfTrailingZeros_77 ?_
            refine g_iadd_i d_J_numberOfTrailingZeros_78 ?_
            refine g_ireturn_i rfl d_J_numberOfTrailingZeros_79 ?_
            refine g_qi hQ ?_
            subst eN
            clear hQ hk hN e
            have hh := And.intro h9 (And.intro h23 (And.intro h38 (And.intro h52 (h64))))
            clear h9 h23 h38 h52 h64
            revert hh
            revert ht
            revert t
            decide +kernel
          · skip
            refine g_iinc_i (i := 1) rfl (by decide) rfl d_J_numberOfTrailingZeros_67 ?_
            refine g_iload_n (n := 0) (i := 0) rfl rfl d_J_numberOfTrailingZeros_70 ?_
            refine g_iconst_i d_J_numberOfTrailingZeros_71 ?_
            refine g_iushr (iI_shr 2 (by decide) (by decide) (by omega)) d_J_numberOfTrailingZeros_72 ?_
            refine g_istore_n (n := 0) (i := 0) rfl (by decide) rfl d_J_numberOfTrailingZeros_73 ?_
            refine g_iload_n (n := 1) (i := 1) rfl rfl d_J_numberOfTrailingZeros_74 ?_
            refine g_iload_n (n := 0) (i := 0) rfl rfl d_J_numberOfTrailingZeros_75 ?_
            refine g_iconst_i d_J_numberOfTrailingZeros_76 ?_
            refine g_iushr (iI_shr 1 (by decide) (by decide) (by omega)) d_J_numberOfTrailingZeros_77 ?_
            refine g_iadd_i d_J_numberOfTrailingZeros_78 ?_
            refine g_ireturn_i rfl d_J_numberOfTrailingZeros_79 ?_
            refine g_qi hQ ?_
            subst eN
            clear hQ hk hN e
            have hh := And.intro h9 (And.intro h23 (And.intro h38 (And.intro h52 (h64))))
            clear h9 h23 h38 h52 h64
            revert hh
            revert ht
            revert t
            decide +kernel
  · skip
    refine g_iload_n (n := 0) (i := 0) rfl rfl d_J_numberOfTrailingZeros_12 ?_
    refine g_bipush_i (by decide) d_J_numberOfTrailingZeros_13 ?_
    refine g_iand d_J_numberOfTrailingZeros_15 ?_
    rw [show iI 32 = iI ((32 : Nat) : Int) from rfl, iI_and]
    refine g_ireturn_i rfl d_J_numberOfTrailingZeros_16 ?_
    refine g_qi hQ ?_
    subst eN
    clear hQ hk hN e
    revert h9
    revert ht
    revert t
    decide +kernel
theorem popc_le (m : Nat) : popc m ≤ 32 := by
  unfold popc
  exact Nat.le_trans (List.length_filter_le _ _) (by simp)
theorem ntz_le (m : Nat) : ntz m ≤ 32 := by
  unfold ntz
  cases h : (List.range 32).filter fun i => !(m % 2 ^ (i + 1) == 0) with
  | nil => simp
  | cons x xs =>
    have hx : x ∈ (List.range 32).filter fun i => !(m % 2 ^ (i + 1) == 0) := by rw [h]; exact List.mem_cons_self
    have := List.mem_range.mp (List.mem_filter.mp hx).1
    simp only [List.headD_cons]
    omega

