/-! ===== ints as whole numbers ===== -/
theorem vf_us {α : Type} {f : Nat → α} {k : Nat} {x : α} : vf_upd f k x k = x := by simp [vf_upd]
theorem vf_un {α : Type} {f : Nat → α} {k j : Nat} {x : α} (h : j ≠ k) : vf_upd f k x j = f j := by simp [vf_upd, h]
theorem vf_uu {α : Type} {f : Nat → α} {k : Nat} {x y : α} : vf_upd (vf_upd f k x) k y = vf_upd f k y := by
  funext j
  by_cases h : j = k <;> simp [vf_upd, h]
def iI (z : Int) : Int32 := Int32.ofInt z
theorem iI_add (a b : Int) : iI a + iI b = iI (a + b) := (Int32.ofInt_add ..).symm
theorem iI_sub (a b : Int) : iI a - iI b = iI (a - b) := (Int32.ofInt_sub ..).symm
theorem iI_mul (a b : Int) : iI a * iI b = iI (a * b) := (Int32.ofInt_mul ..).symm
theorem iI_nI (n : Nat) : nI n = iI n := by
  unfold nI iI
  first | rfl | simp
theorem iI_0 : (0 : Int32) = iI 0 := by decide
theorem iI_toInt {z : Int} (h : -2147483648 ≤ z ∧ z < 2147483648) : (iI z).toInt = z := by
  unfold iI
  rw [Int32.toInt_ofInt]
  have : z.bmod (2 ^ 32) = z := by
    rw [Int.bmod_def]
    try simp only [Int.reducePow]
    omega
  exact this
theorem iI_of (x : Int32) : x = iI x.toInt := by
  unfold iI
  first | simp | exact (Int32.ofInt_toInt x).symm
theorem iI_rng (x : Int32) : -2147483648 ≤ x.toInt ∧ x.toInt < 2147483648 := ⟨x.le_toInt, x.toInt_lt⟩
theorem iI_eq {a b : Int} (ha : -2147483648 ≤ a ∧ a < 2147483648) (hb : -2147483648 ≤ b ∧ b < 2147483648) : iI a = iI b ↔ a = b := by
  rw [← Int32.toInt_inj, iI_toInt ha, iI_toInt hb]
theorem iI_le {a b : Int} (ha : -2147483648 ≤ a ∧ a < 2147483648) (hb : -2147483648 ≤ b ∧ b < 2147483648) : iI a ≤ iI b ↔ a ≤ b := by
  rw [Int32.le_iff_toInt_le, iI_toInt ha, iI_toInt hb]
theorem iI_lt {a b : Int} (ha : -2147483648 ≤ a ∧ a < 2147483648) (hb : -2147483648 ≤ b ∧ b < 2147483648) : iI a < iI b ↔ a < b := by
  rw [Int32.lt_iff_toInt_lt, iI_toInt ha, iI_toInt hb]
theorem iI_nat {z : Int} (h : 0 ≤ z) : iI z = nI z.toNat := by
  rw [iI_nI, Int.toNat_of_nonneg h]
theorem iI_div {a b : Int} (ha : 0 ≤ a ∧ a < 2147483648) (hb : 0 < b ∧ b < 2147483648) : iI a / iI b = iI (a / b) := by
  rw [iI_nat ha.1, iI_nat (by omega : 0 ≤ b), pk_div (by omega) (by omega) (by omega), iI_nI]
  congr 1
  rw [Int.natCast_ediv, Int.toNat_of_nonneg ha.1, Int.toNat_of_nonneg (by omega)]
theorem iI_rem {a b : Int} (ha : 0 ≤ a ∧ a < 2147483648) (hb : 0 < b ∧ b < 2147483648) : iI a - iI a / iI b * iI b = iI (a % b) := by
  rw [iI_div ha hb, iI_mul, iI_sub]
  congr 1
  have := Int.mul_ediv_add_emod a b
  rw [Int.mul_comm] at this
  omega
theorem iI_b8 {n : Int} (h : -128 ≤ n ∧ n ≤ 127) : (Int8.ofInt n).toInt32 = iI n := by
  rw [← Int32.toInt_inj, iI_toInt (by omega), Int8.toInt_toInt32, Int8.toInt_ofInt]
  have : n.bmod (2 ^ 8) = n := by
    rw [Int.bmod_def]
    try simp only [Int.reducePow]
    omega
  exact this
theorem iI_b16 {n : Int} (h : -32768 ≤ n ∧ n ≤ 32767) : (Int16.ofInt n).toInt32 = iI n := by
  rw [← Int32.toInt_inj, iI_toInt (by omega), Int16.toInt_toInt32, Int16.toInt_ofInt]
  have : n.bmod (2 ^ 16) = n := by
    rw [Int.bmod_def]
    try simp only [Int.reducePow]
    omega
  exact this
/-- an array's contents with one place changed -/
def uI {α : Type} (m : Int → α) (z : Int) (v : α) : Int → α := fun j => if j = z then v else m j
theorem uI_s {α : Type} {m : Int → α} {z : Int} {v : α} : uI m z v z = v := by simp [uI]
theorem uI_n {α : Type} {m : Int → α} {z j : Int} {v : α} (h : j ≠ z) : uI m z v j = m j := by simp [uI, h]
section GI
variable {E : gE} {d : Nat} {M : gM} {pc : Nat} {lv : List (Nat × Value)} {st : List Value} {w : gW} {im : gIm} {kc ks : Nat} {Q : gQ}
theorem g_iconst_i {n : Int} (hd : decode M.2.1 pc = .ok (.iconst n, 1)) (k : G E d M (pc + 1) (lv) (.int (iI n) :: st) (w) (im) (kc) (ks) Q) : G E d M (pc) (lv) (st) (w) (im) (kc) (ks) Q := g_iconst rfl hd k
theorem g_bipush_i {n : Int} (h : -128 ≤ n ∧ n ≤ 127) (hd : decode M.2.1 pc = .ok (.bipush n, 2)) (k : G E d M (pc + 2) (lv) (.int (iI n) :: st) (w) (im) (kc) (ks) Q) : G E d M (pc) (lv) (st) (w) (im) (kc) (ks) Q := g_bipush (iI_b8 h) hd k
theorem g_sipush_i {n : Int} (h : -32768 ≤ n ∧ n ≤ 32767) (hd : decode M.2.1 pc = .ok (.sipush n, 3)) (k : G E d M (pc + 3) (lv) (.int (iI n) :: st) (w) (im) (kc) (ks) Q) : G E d M (pc) (lv) (st) (w) (im) (kc) (ks) Q := g_sipush (iI_b16 h) hd k
theorem g_ldcw_i {index : Nat} {v : Int32} {z : Int} (hq : Cond.constant M.1 index v ∈ g_all) (hv : v = iI z) (hd : decode M.2.1 pc = .ok (.ldc_w index, 3)) (k : G E d M (pc + 3) (lv) (.int (iI z) :: st) (w) (im) (kc) (ks) Q) : G E d M (pc) (lv) (st) (w) (im) (kc) (ks) Q := g_ldcw hq hd (hv ▸ k)
theorem g_ldc_i {index : Nat} {v : Int32} {z : Int} (hq : Cond.constant M.1 index v ∈ g_all) (hv : v = iI z) (hd : decode M.2.1 pc = .ok (.ldc index, 2)) (k : G E d M (pc + 2) (lv) (.int (iI z) :: st) (w) (im) (kc) (ks) Q) : G E d M (pc) (lv) (st) (w) (im) (kc) (ks) Q := g_ldc hq hd (hv ▸ k)
theorem g_iinc_i {i : Nat} {n z : Int} {lv' : List (Nat × Value)} (hq : lv.lookup i = some (.int (iI z))) (hn : i < M.2.2.1) (hv : g_st1 lv i (.int (iI (z + n))) = lv') (hd : decode M.2.1 pc = .ok (.iinc i n, 3)) (k : G E d M (pc + 3) (lv') (st) (w) (im) (kc) (ks) Q) : G E d M (pc) (lv) (st) (w) (im) (kc) (ks) Q := g_iinc hq (iI_add z n) hn hv hd k

theorem g_iadd_i {a b : Int} (hd : decode M.2.1 pc = .ok (.iadd, 1)) (k : G E d M (pc + 1) (lv) (.int (iI (a + b)) :: st) (w) (im) (kc) (ks) Q) : G E d M (pc) (lv) (.int (iI b) :: .int (iI a) :: st) (w) (im) (kc) (ks) Q := g_iadd hd (iI_add a b ▸ k)
theorem g_isub_i {a b : Int} (hd : decode M.2.1 pc = .ok (.isub, 1)) (k : G E d M (pc + 1) (lv) (.int (iI (a - b)) :: st) (w) (im) (kc) (ks) Q) : G E d M (pc) (lv) (.int (iI b) :: .int (iI a) :: st) (w) (im) (kc) (ks) Q := g_isub hd (iI_sub a b ▸ k)
theorem g_imul_i {a b : Int} (hd : decode M.2.1 pc = .ok (.imul, 1)) (k : G E d M (pc + 1) (lv) (.int (iI (a * b)) :: st) (w) (im) (kc) (ks) Q) : G E d M (pc) (lv) (.int (iI b) :: .int (iI a) :: st) (w) (im) (kc) (ks) Q := g_imul hd (iI_mul a b ▸ k)
theorem g_idiv_i {a b : Int} (ha : 0 ≤ a ∧ a < 2147483648) (hb : 0 < b ∧ b < 2147483648) (hd : decode M.2.1 pc = .ok (.idiv, 1)) (k : G E d M (pc + 1) (lv) (.int (iI (a / b)) :: st) (w) (im) (kc) (ks) Q) : G E d M (pc) (lv) (.int (iI b) :: .int (iI a) :: st) (w) (im) (kc) (ks) Q := g_idiv (fun h => by rw [iI_0, iI_eq (by omega) (by omega)] at h; omega) hd (iI_div ha hb ▸ k)
theorem g_irem_i {a b : Int} (ha : 0 ≤ a ∧ a < 2147483648) (hb : 0 < b ∧ b < 2147483648) (hd : decode M.2.1 pc = .ok (.irem, 1)) (k : G E d M (pc + 1) (lv) (.int (iI (a % b)) :: st) (w) (im) (kc) (ks) Q) : G E d M (pc) (lv) (.int (iI b) :: .int (iI a) :: st) (w) (im) (kc) (ks) Q := g_irem (fun h => by rw [iI_0, iI_eq (by omega) (by omega)] at h; omega) hd (iI_rem ha hb ▸ k)
theorem g_ineg_i {a : Int} (hd : decode M.2.1 pc = .ok (.ineg, 1)) (k : G E d M (pc + 1) (lv) (.int (iI (0 - a)) :: st) (w) (im) (kc) (ks) Q) : G E d M (pc) (lv) (.int (iI a) :: st) (w) (im) (kc) (ks) Q := g_ineg hd (by rw [iI_0, iI_sub]; exact k)
theorem g_if_eq_i {a : Int} {off : Int} {tgt : Nat} (ha : -2147483648 ≤ a ∧ a < 2147483648) (hd : decode M.2.1 pc = .ok (.ifCond .eq off, 3)) (ht : (pc : Int) + off = (tgt : Int)) (kt : a = 0 → G E d M (tgt) (lv) (st) (w) (im) (kc) (ks) Q) (kf : ¬ a = 0 → G E d M (pc + 3) (lv) (st) (w) (im) (kc) (ks) Q) : G E d M (pc) (lv) (.int (iI a) :: st) (w) (im) (kc) (ks) Q := g_if_eq hd ht (fun h => kt (by rw [iI_0, iI_eq (by omega) (by omega)] at h; exact h)) (fun h => kf (by rw [iI_0, iI_eq (by omega) (by omega)] at h; exact h))
theorem g_if_ne_i {a : Int} {off : Int} {tgt : Nat} (ha : -2147483648 ≤ a ∧ a < 2147483648) (hd : decode M.2.1 pc = .ok (.ifCond .ne off, 3)) (ht : (pc : Int) + off = (tgt : Int)) (kt : ¬ a = 0 → G E d M (tgt) (lv) (st) (w) (im) (kc) (ks) Q) (kf : a = 0 → G E d M (pc + 3) (lv) (st) (w) (im) (kc) (ks) Q) : G E d M (pc) (lv) (.int (iI a) :: st) (w) (im) (kc) (ks) Q := g_if_ne hd ht (fun h => kt (by rw [iI_0, iI_eq (by omega) (by omega)] at h; exact h)) (fun h => kf (by rw [iI_0, iI_eq (by omega) (by omega)] at h; exact h))
theorem g_if_lt_i {a : Int} {off : Int} {tgt : Nat} (ha : -2147483648 ≤ a ∧ a < 2147483648) (hd : decode M.2.1 pc = .ok (.ifCond .lt off, 3)) (ht : (pc : Int) + off = (tgt : Int)) (kt : a < 0 → G E d M (tgt) (lv) (st) (w) (im) (kc) (ks) Q) (kf : ¬ a < 0 → G E d M (pc + 3) (lv) (st) (w) (im) (kc) (ks) Q) : G E d M (pc) (lv) (.int (iI a) :: st) (w) (im) (kc) (ks) Q := g_if_lt hd ht (fun h => kt (by rw [iI_0, iI_lt (by omega) (by omega)] at h; exact h)) (fun h => kf (by rw [iI_0, iI_lt (by omega) (by omega)] at h; exact h))
theorem g_if_ge_i {a : Int} {off : Int} {tgt : Nat} (ha : -2147483648 ≤ a ∧ a < 2147483648) (hd : decode M.2.1 pc = .ok (.ifCond .ge off, 3)) (ht : (pc : Int) + off = (tgt : Int)) (kt : 0 ≤ a → G E d M (tgt) (lv) (st) (w) (im) (kc) (ks) Q) (kf : ¬ 0 ≤ a → G E d M (pc + 3) (lv) (st) (w) (im) (kc) (ks) Q) : G E d M (pc) (lv) (.int (iI a) :: st) (w) (im) (kc) (ks) Q := g_if_ge hd ht (fun h => kt (by rw [iI_0, iI_le (by omega) (by omega)] at h; exact h)) (fun h => kf (by rw [iI_0, iI_le (by omega) (by omega)] at h; exact h))
theorem g_if_gt_i {a : Int} {off : Int} {tgt : Nat} (ha : -2147483648 ≤ a ∧ a < 2147483648) (hd : decode M.2.1 pc = .ok (.ifCond .gt off, 3)) (ht : (pc : Int) + off = (tgt : Int)) (kt : 0 < a → G E d M (tgt) (lv) (st) (w) (im) (kc) (ks) Q) (kf : ¬ 0 < a → G E d M (pc + 3) (lv) (st) (w) (im) (kc) (ks) Q) : G E d M (pc) (lv) (.int (iI a) :: st) (w) (im) (kc) (ks) Q := g_if_gt hd ht (fun h => kt (by rw [iI_0, iI_lt (by omega) (by omega)] at h; exact h)) (fun h => kf (by rw [iI_0, iI_lt (by omega) (by omega)] at h; exact h))
theorem g_if_le_i {a : Int} {off : Int} {tgt : Nat} (ha : -2147483648 ≤ a ∧ a < 2147483648) (hd : decode M.2.1 pc = .ok (.ifCond .le off, 3)) (ht : (pc : Int) + off = (tgt : Int)) (kt : a ≤ 0 → G E d M (tgt) (lv) (st) (w) (im) (kc) (ks) Q) (kf : ¬ a ≤ 0 → G E d M (pc + 3) (lv) (st) (w) (im) (kc) (ks) Q) : G E d M (pc) (lv) (.int (iI a) :: st) (w) (im) (kc) (ks) Q := g_if_le hd ht (fun h => kt (by rw [iI_0, iI_le (by omega) (by omega)] at h; exact h)) (fun h => kf (by rw [iI_0, iI_le (by omega) (by omega)] at h; exact h))
theorem g_icmp_eq_i {a b : Int} {off : Int} {tgt : Nat} (ha : -2147483648 ≤ a ∧ a < 2147483648) (hb : -2147483648 ≤ b ∧ b < 2147483648) (hd : decode M.2.1 pc = .ok (.if_icmp .eq off, 3)) (ht : (pc : Int) + off = (tgt : Int)) (kt : a = b → G E d M (tgt) (lv) (st) (w) (im) (kc) (ks) Q) (kf : ¬ a = b → G E d M (pc + 3) (lv) (st) (w) (im) (kc) (ks) Q) : G E d M (pc) (lv) (.int (iI b) :: .int (iI a) :: st) (w) (im) (kc) (ks) Q := g_icmp_eq hd ht (fun h => kt (by rw [iI_eq (by omega) (by omega)] at h; exact h)) (fun h => kf (by rw [iI_eq (by omega) (by omega)] at h; exact h))
theorem g_icmp_ne_i {a b : Int} {off : Int} {tgt : Nat} (ha : -2147483648 ≤ a ∧ a < 2147483648) (hb : -2147483648 ≤ b ∧ b < 2147483648) (hd : decode M.2.1 pc = .ok (.if_icmp .ne off, 3)) (ht : (pc : Int) + off = (tgt : Int)) (kt : ¬ a = b → G E d M (tgt) (lv) (st) (w) (im) (kc) (ks) Q) (kf : a = b → G E d M (pc + 3) (lv) (st) (w) (im) (kc) (ks) Q) : G E d M (pc) (lv) (.int (iI b) :: .int (iI a) :: st) (w) (im) (kc) (ks) Q := g_icmp_ne hd ht (fun h => kt (by rw [iI_eq (by omega) (by omega)] at h; exact h)) (fun h => kf (by rw [iI_eq (by omega) (by omega)] at h; exact h))
theorem g_icmp_lt_i {a b : Int} {off : Int} {tgt : Nat} (ha : -2147483648 ≤ a ∧ a < 2147483648) (hb : -2147483648 ≤ b ∧ b < 2147483648) (hd : decode M.2.1 pc = .ok (.if_icmp .lt off, 3)) (ht : (pc : Int) + off = (tgt : Int)) (kt : a < b → G E d M (tgt) (lv) (st) (w) (im) (kc) (ks) Q) (kf : ¬ a < b → G E d M (pc + 3) (lv) (st) (w) (im) (kc) (ks) Q) : G E d M (pc) (lv) (.int (iI b) :: .int (iI a) :: st) (w) (im) (kc) (ks) Q := g_icmp_lt hd ht (fun h => kt (by rw [iI_lt (by omega) (by omega)] at h; exact h)) (fun h => kf (by rw [iI_lt (by omega) (by omega)] at h; exact h))
theorem g_icmp_ge_i {a b : Int} {off : Int} {tgt : Nat} (ha : -2147483648 ≤ a ∧ a < 2147483648) (hb : -2147483648 ≤ b ∧ b < 2147483648) (hd : decode M.2.1 pc = .ok (.if_icmp .ge off, 3)) (ht : (pc : Int) + off = (tgt : Int)) (kt : b ≤ a → G E d M (tgt) (lv) (st) (w) (im) (kc) (ks) Q) (kf : ¬ b ≤ a → G E d M (pc + 3) (lv) (st) (w) (im) (kc) (ks) Q) : G E d M (pc) (lv) (.int (iI b) :: .int (iI a) :: st) (w) (im) (kc) (ks) Q := g_icmp_ge hd ht (fun h => kt (by rw [iI_le (by omega) (by omega)] at h; exact h)) (fun h => kf (by rw [iI_le (by omega) (by omega)] at h; exact h))
theorem g_icmp_gt_i {a b : Int} {off : Int} {tgt : Nat} (ha : -2147483648 ≤ a ∧ a < 2147483648) (hb : -2147483648 ≤ b ∧ b < 2147483648) (hd : decode M.2.1 pc = .ok (.if_icmp .gt off, 3)) (ht : (pc : Int) + off = (tgt : Int)) (kt : b < a → G E d M (tgt) (lv) (st) (w) (im) (kc) (ks) Q) (kf : ¬ b < a → G E d M (pc + 3) (lv) (st) (w) (im) (kc) (ks) Q) : G E d M (pc) (lv) (.int (iI b) :: .int (iI a) :: st) (w) (im) (kc) (ks) Q := g_icmp_gt hd ht (fun h => kt (by rw [iI_lt (by omega) (by omega)] at h; exact h)) (fun h => kf (by rw [iI_lt (by omega) (by omega)] at h; exact h))
theorem g_icmp_le_i {a b : Int} {off : Int} {tgt : Nat} (ha : -2147483648 ≤ a ∧ a < 2147483648) (hb : -2147483648 ≤ b ∧ b < 2147483648) (hd : decode M.2.1 pc = .ok (.if_icmp .le off, 3)) (ht : (pc : Int) + off = (tgt : Int)) (kt : a ≤ b → G E d M (tgt) (lv) (st) (w) (im) (kc) (ks) Q) (kf : ¬ a ≤ b → G E d M (pc + 3) (lv) (st) (w) (im) (kc) (ks) Q) : G E d M (pc) (lv) (.int (iI b) :: .int (iI a) :: st) (w) (im) (kc) (ks) Q := g_icmp_le hd ht (fun h => kt (by rw [iI_le (by omega) (by omega)] at h; exact h)) (fun h => kf (by rw [iI_le (by omega) (by omega)] at h; exact h))
theorem g_ireturn_i {z : Int} (hr : M.2.2.2.1 = some .int) (hd : decode M.2.1 pc = .ok (.ireturn, 1)) (hQ : Q (.inl (some (.int (iI z)))) w im) : G E d M (pc) (lv) ([.int (iI z)]) (w) (im) (kc) (ks) Q := g_ireturn hr rfl hd hQ
theorem g_ireturn_1 (hr : M.2.2.2.1 = some .boolean) (hd : decode M.2.1 pc = .ok (.ireturn, 1)) (hQ : Q (.inl (some (.int (iI 1)))) w im) : G E d M (pc) (lv) ([.int (iI 1)]) (w) (im) (kc) (ks) Q := g_ireturn hr (by decide) hd hQ
theorem g_ireturn_0 (hr : M.2.2.2.1 = some .boolean) (hd : decode M.2.1 pc = .ok (.ireturn, 1)) (hQ : Q (.inl (some (.int (iI 0)))) w im) : G E d M (pc) (lv) ([.int (iI 0)]) (w) (im) (kc) (ks) Q := g_ireturn hr (by decide) hd hQ
theorem iI_char {z : Int} (h : 0 ≤ z ∧ z < 65536) : narrow .char (.int (iI z)) = .int (iI z) ∧ fits .char (.int (iI z)) = true := by
  rw [iI_nat h.1]
  exact pk_charN (by omega)
theorem g_ireturn_c {z : Int} (h : 0 ≤ z ∧ z < 65536) (hr : M.2.2.2.1 = some .char) (hd : decode M.2.1 pc = .ok (.ireturn, 1)) (hQ : Q (.inl (some (.int (iI z)))) w im) : G E d M (pc) (lv) ([.int (iI z)]) (w) (im) (kc) (ks) Q := g_ireturn hr (iI_char h).1 hd hQ
theorem g_i2c_i {z : Int} (h : 0 ≤ z ∧ z < 65536) (hd : decode M.2.1 pc = .ok (.i2c, 1)) (k : G E d M (pc + 1) (lv) (.int (iI z) :: st) (w) (im) (kc) (ks) Q) : G E d M (pc) (lv) (.int (iI z) :: st) (w) (im) (kc) (ks) Q := g_i2c (v := iI z) (by
  have h1 := (iI_char h).1
  have h2 : narrow .char (.int (iI z)) = .int ((iI z).toUInt32 % 65536).toInt32 := by
    first | rfl | (simp [narrow]; done) | (have := vp_nar_char (iI z); simpa [vp_nar] using this)
  rw [h2] at h1
  exact Value.int.inj h1) hd k
theorem g_idx {z : Int} {n : Nat} (h0 : 0 ≤ z) (hz : z < n) : iI z = nI z.toNat ∧ z.toNat < n ∧ ((z.toNat : Nat) : Int) = z := ⟨iI_nat h0, by omega, Int.toNat_of_nonneg h0⟩
theorem g_iaload_i {a n : Nat} {z : Int} {m : Int → Int} (hcell : g_cell E w im a (.inl (0, n, .inl (fun j => iI (m j))))) (h0 : 0 ≤ z) (hz : z < n) (hn : n.blt 2147483648 = true) (hd : decode M.2.1 pc = .ok (.iaload, 1)) (k : G E d M (pc + 1) (lv) (.int (iI (m z)) :: st) (w) (im) (kc) (ks) Q) : G E d M (pc) (lv) (.int (iI z) :: .ref a :: st) (w) (im) (kc) (ks) Q := by
  obtain ⟨e1, e2, e3⟩ := g_idx h0 hz
  refine g_iaload hcell e1 e2 hn hd ?_
  show G E d M (pc + 1) lv (.int (iI (m ((z.toNat : Nat) : Int))) :: st) w im kc ks Q
  rw [e3]; exact k
theorem g_caload_i {a n : Nat} {z : Int} {m : Int → Int} (hcell : g_cell E w im a (.inl (1, n, .inl (fun j => iI (m j))))) (h0 : 0 ≤ z) (hz : z < n) (hn : n.blt 2147483648 = true) (hd : decode M.2.1 pc = .ok (.caload, 1)) (k : G E d M (pc + 1) (lv) (.int (iI (m z)) :: st) (w) (im) (kc) (ks) Q) : G E d M (pc) (lv) (.int (iI z) :: .ref a :: st) (w) (im) (kc) (ks) Q := by
  obtain ⟨e1, e2, e3⟩ := g_idx h0 hz
  refine g_caload hcell e1 e2 hn hd ?_
  show G E d M (pc + 1) lv (.int (iI (m ((z.toNat : Nat) : Int))) :: st) w im kc ks Q
  rw [e3]; exact k
theorem g_aaload_i {a n b t : Nat} {z : Int} {r : Int → Option Nat} {C : String} (hcell : g_cell E w im a (.inl (t, n, .inr (.inr (.inr (.inr (fun j => r j))))))) (ht : t < 8) (hC : g_ty t = .object C) (h0 : 0 ≤ z) (hz : z < n) (hn : n.blt 2147483648 = true) (hv : r z = some b) (hd : decode M.2.1 pc = .ok (.aaload, 1)) (k : G E d M (pc + 1) (lv) (.ref b :: st) (w) (im) (kc) (ks) Q) : G E d M (pc) (lv) (.int (iI z) :: .ref a :: st) (w) (im) (kc) (ks) Q := by
  obtain ⟨e1, e2, e3⟩ := g_idx h0 hz
  exact g_aaload ht hC hcell e1 e2 hn (by rw [e3]; exact hv) hd k
theorem g_aaloadN_i {a n t : Nat} {z : Int} {r : Int → Option Nat} {C : String} (hcell : g_cell E w im a (.inl (t, n, .inr (.inr (.inr (.inr (fun j => r j))))))) (ht : t < 8) (hC : g_ty t = .object C) (h0 : 0 ≤ z) (hz : z < n) (hn : n.blt 2147483648 = true) (hv : r z = none) (hd : decode M.2.1 pc = .ok (.aaload, 1)) (k : G E d M (pc + 1) (lv) (.null :: st) (w) (im) (kc) (ks) Q) : G E d M (pc) (lv) (.int (iI z) :: .ref a :: st) (w) (im) (kc) (ks) Q := by
  obtain ⟨e1, e2, e3⟩ := g_idx h0 hz
  exact g_aaloadN ht hC hcell e1 e2 hn (by rw [e3]; exact hv) hd k
theorem uI_upd {m : Int → Int} {z v : Int} (h0 : 0 ≤ z) : upd (fun j : Nat => iI (m j)) z.toNat (iI v) = fun j : Nat => iI (uI m z v j) := by
  funext j
  by_cases e : j = z.toNat
  · subst e
    simp [upd, uI, Int.toNat_of_nonneg h0]
  · have : ¬ (j : Int) = z := by omega
    simp [upd, uI, e, this]
theorem uI_up {α : Type} {r : Int → α} {z : Int} {v : α} (h0 : 0 ≤ z) : va_up (fun j : Nat => r j) z.toNat v = fun j : Nat => uI r z v j := by
  funext j
  by_cases e : j = z.toNat
  · subst e
    simp [va_up, uI, Int.toNat_of_nonneg h0]
  · have : ¬ (j : Int) = z := by omega
    simp [va_up, uI, e, this]
theorem g_iastore_i {n : Nat} {z v : Int} {m : Int → Int} (i0 : Nat) (hi : i0 < gN E) (hw : w i0 = .inl (0, n, .inl (fun j => iI (m j)))) (h0 : 0 ≤ z) (hz : z < n) (hn : n.blt 2147483648 = true) (hd : decode M.2.1 pc = .ok (.iastore, 1)) (k : G E d M (pc + 1) (lv) (st) (vf_upd w i0 (.inl (0, n, .inl (fun j => iI (uI m z v j))))) (im) (kc) (ks) Q) : G E d M (pc) (lv) (.int (iI v) :: .int (iI z) :: .ref (gad E i0) :: st) (w) (im) (kc) (ks) Q := by
  obtain ⟨e1, e2, e3⟩ := g_idx h0 hz
  refine g_iastoreM i0 hi hw e1 e2 hn hd ?_
  rw [uI_upd h0]; exact k
theorem g_castore_i {n : Nat} {z v : Int} {m : Int → Int} (i0 : Nat) (hi : i0 < gN E) (hw : w i0 = .inl (1, n, .inl (fun j => iI (m j)))) (h0 : 0 ≤ z) (hz : z < n) (hv : 0 ≤ v ∧ v < 65536) (hn : n.blt 2147483648 = true) (hd : decode M.2.1 pc = .ok (.castore, 1)) (k : G E d M (pc + 1) (lv) (st) (vf_upd w i0 (.inl (1, n, .inl (fun j => iI (uI m z v j))))) (im) (kc) (ks) Q) : G E d M (pc) (lv) (.int (iI v) :: .int (iI z) :: .ref (gad E i0) :: st) (w) (im) (kc) (ks) Q := by
  obtain ⟨e1, e2, e3⟩ := g_idx h0 hz
  refine g_castoreM i0 hi hw e1 e2 hn hd ?_
  rw [show vp_nar .char (iI v) = iI v by unfold vp_nar; rw [(iI_char hv).1], uI_upd h0]; exact k
theorem g_aastore_i {t n b ci : Nat} {z : Int} {r : Int → Option Nat} {fs : List Value} (i0 : Nat) (hi : i0 < gN E) (hw : w i0 = .inl (t, n, .inr (.inr (.inr (.inr (fun j => r j)))))) (ht : t < 8) (hci : ci < 10) (hC : g_ty t = .object (g_C ci)) (hb : g_cell E w im b (.inr (ci, fs))) (h0 : 0 ≤ z) (hz : z < n) (hn : n.blt 2147483648 = true) (hd : decode M.2.1 pc = .ok (.aastore, 1)) (k : G E d M (pc + 1) (lv) (st) (vf_upd w i0 (.inl (t, n, .inr (.inr (.inr (.inr (fun j => uI r z (some b) j))))))) (im) (kc) (ks) Q) : G E d M (pc) (lv) (.ref b :: .int (iI z) :: .ref (gad E i0) :: st) (w) (im) (kc) (ks) Q := by
  obtain ⟨e1, e2, e3⟩ := g_idx h0 hz
  refine g_aastoreM i0 hi hw ht hci hC hb e1 e2 hn hd ?_
  rw [uI_up h0]; exact k
theorem g_aastoreN_i {t n : Nat} {z : Int} {r : Int → Option Nat} {C : String} (i0 : Nat) (hi : i0 < gN E) (hw : w i0 = .inl (t, n, .inr (.inr (.inr (.inr (fun j => r j)))))) (ht : t < 8) (hC : g_ty t = .object C) (h0 : 0 ≤ z) (hz : z < n) (hn : n.blt 2147483648 = true) (hd : decode M.2.1 pc = .ok (.aastore, 1)) (k : G E d M (pc + 1) (lv) (st) (vf_upd w i0 (.inl (t, n, .inr (.inr (.inr (.inr (fun j => uI r z none j))))))) (im) (kc) (ks) Q) : G E d M (pc) (lv) (.null :: .int (iI z) :: .ref (gad E i0) :: st) (w) (im) (kc) (ks) Q := by
  obtain ⟨e1, e2, e3⟩ := g_idx h0 hz
  refine g_aastoreNM i0 hi hw ht hC e1 e2 hn hd ?_
  rw [uI_up h0]; exact k
theorem g_alen_i {a t n : Nat} {x : (Nat → Int32) ⊕ (Nat → Int64) ⊕ (Nat → UInt32) ⊕ (Nat → UInt64) ⊕ (Nat → Option Nat)} (hcell : g_cell E w im a (.inl (t, n, x))) (ht : t < 8) (hd : decode M.2.1 pc = .ok (.arraylength, 1)) (k : G E d M (pc + 1) (lv) (.int (iI n) :: st) (w) (im) (kc) (ks) Q) : G E d M (pc) (lv) (.ref a :: st) (w) (im) (kc) (ks) Q := g_alen ht hcell hd (iI_nI n ▸ k)
/-- the names that a list of locals holds -/
def g_has (lv : List (Nat × Value)) : List (Nat × Value) → Prop
  | [] => True
  | q :: r => lv.lookup q.1 = some q.2 ∧ g_has lv r
theorem g_lookmem {lv : List (Nat × Value)} {i : Nat} {v : Value} (h : lv.lookup i = some v) : (i, v) ∈ lv := by
  obtain ⟨k, hk⟩ := g_has_look h
  exact List.mem_of_getElem? hk
theorem g_hasmem {lv lv' : List (Nat × Value)} (h : g_has lv lv') : ∀ q ∈ lv', q ∈ lv := by
  induction lv' with
  | nil => intro q hq; cases hq
  | cons x r ih =>
    intro q hq
    rcases List.mem_cons.mp hq with rfl | hq
    · exact g_lookmem h.1
    · exact ih h.2 q hq
theorem g_cut {lv' : List (Nat × Value)} (h : g_has lv lv') (k : G E d M (pc) (lv') (st) (w) (im) (kc) (ks) Q) : G E d M (pc) (lv) (st) (w) (im) (kc) (ks) Q := G.loc (g_hasmem h) k
theorem g_ret {v : Value} {rest : List Value} (k : G E d M pc lv (v :: rest) w im kc ks Q) : g_k E d M pc lv rest (kc - 0) (ks - 0) Q (.inl (some v)) w im := k
theorem g_retv {rest : List Value} (k : G E d M pc lv rest w im kc ks Q) : g_k E d M pc lv rest (kc - 0) (ks - 0) Q (.inl none) w im := k
theorem g_retn {v : Value} {rest : List Value} {a b : Nat} (k : G E d M pc lv (v :: rest) w im (kc - a) (ks - b) Q) : g_k E d M pc lv rest (kc - a) (ks - b) Q (.inl (some v)) w im := k
theorem g_retvn {rest : List Value} {a b : Nat} (k : G E d M pc lv rest w im (kc - a) (ks - b) Q) : g_k E d M pc lv rest (kc - a) (ks - b) Q (.inl none) w im := k
theorem g_retx {X : String} {rest : List Value} {a b : Nat} (k : Q (.inr X) w im) : g_k E d M pc lv rest a b Q (.inr X) w im := k
theorem g_enter {y : MethodName} {mc ms : Nat} {av : List Value} {lv0 : List (Nat × Value)} (hy : plainName y.cls = true) (hown : M.1 = y.cls) (hh : M.2.2.2.2.1 = []) (hi : M.2.2.2.2.2 = true → y.name = "<init>") (hn : (lg_sl av).length ≤ M.2.2.1) (hv : lv_args 0 av = lv0) (k : G E d M 0 lv0 [] w im mc ms Q) : GM E d y M mc ms av w im Q := g_entry hy hown hh hi hn (hv ▸ k)
theorem g_qi {v v' : Int} (h : Q (.inl (some (.int (iI v)))) w im) (e : v' = v) : Q (.inl (some (.int (iI v')))) w im := e ▸ h
end GI

theorem iI_abs {a : Int} (h : -2147483648 < a ∧ a < 2147483648) : (if 0 ≤ iI a then iI a else 0 - iI a) = iI (if 0 ≤ a then a else 0 - a) := by
  simp only [iI_0, iI_sub, iI_le (show -2147483648 ≤ (0 : Int) ∧ (0 : Int) < 2147483648 by omega) (show -2147483648 ≤ a ∧ a < 2147483648 by omega)]
  by_cases q : 0 ≤ a
  · rw [if_pos q, if_pos q]
  · rw [if_neg q, if_neg q]
theorem iI_max {a b : Int} (ha : -2147483648 ≤ a ∧ a < 2147483648) (hb : -2147483648 ≤ b ∧ b < 2147483648) : (if iI a < iI b then iI b else iI a) = iI (if a < b then b else a) := by
  simp only [iI_lt ha hb]
  by_cases q : a < b
  · rw [if_pos q, if_pos q]
  · rw [if_neg q, if_neg q]
theorem iI_min {a b : Int} (ha : -2147483648 ≤ a ∧ a < 2147483648) (hb : -2147483648 ≤ b ∧ b < 2147483648) : (if iI b < iI a then iI b else iI a) = iI (if b < a then b else a) := by
  simp only [iI_lt hb ha]
  by_cases q : b < a
  · rw [if_pos q, if_pos q]
  · rw [if_neg q, if_neg q]
section GJ
variable {E : gE} {d : Nat} {M : gM} {pc : Nat} {lv : List (Nat × Value)} {st : List Value} {w : gW} {im : gIm} {kc ks : Nat} {Q : gQ}
theorem g_mmax_i {idx : Nat} {a b : Int} (h1 : Cond.methodLink M.1 idx Lib.Math.max.name ∈ g_all) (h2 : Cond.static Lib.Math.max.name ∈ g_all) (h3 : Cond.initialized "java/lang/Math" ∈ g_all) (h4 : Cond.code Lib.Math.max.name Lib.Math.max.code 2 (some .int) ∈ g_all) (hcat : (st.map fun v => v.category).sum ≤ 8) (ha : -2147483648 ≤ a ∧ a < 2147483648) (hb : -2147483648 ≤ b ∧ b < 2147483648) (hd : decode M.2.1 pc = .ok (.invokestatic idx, 3)) (kk : G E d M (pc + 3) (lv) (.int (iI (if a < b then b else a)) :: st) (w) (im) (kc) (ks) Q) : G E d M (pc) (lv) (.int (iI b) :: .int (iI a) :: st) (w) (im) (kc) (ks) Q := g_mmax h1 h2 h3 h4 hcat hd (iI_max ha hb ▸ kk)
theorem g_mmin_i {idx : Nat} {a b : Int} (h1 : Cond.methodLink M.1 idx Lib.Math.min.name ∈ g_all) (h2 : Cond.static Lib.Math.min.name ∈ g_all) (h3 : Cond.initialized "java/lang/Math" ∈ g_all) (h4 : Cond.code Lib.Math.min.name Lib.Math.min.code 2 (some .int) ∈ g_all) (hcat : (st.map fun v => v.category).sum ≤ 8) (ha : -2147483648 ≤ a ∧ a < 2147483648) (hb : -2147483648 ≤ b ∧ b < 2147483648) (hd : decode M.2.1 pc = .ok (.invokestatic idx, 3)) (kk : G E d M (pc + 3) (lv) (.int (iI (if b < a then b else a)) :: st) (w) (im) (kc) (ks) Q) : G E d M (pc) (lv) (.int (iI b) :: .int (iI a) :: st) (w) (im) (kc) (ks) Q := g_mmin h1 h2 h3 h4 hcat hd (iI_min ha hb ▸ kk)
theorem g_mabs_i {idx : Nat} {a : Int} (h1 : Cond.methodLink M.1 idx Lib.Math.abs.name ∈ g_all) (h2 : Cond.static Lib.Math.abs.name ∈ g_all) (h3 : Cond.initialized "java/lang/Math" ∈ g_all) (h4 : Cond.code Lib.Math.abs.name Lib.Math.abs.code 1 (some .int) ∈ g_all) (hcat : (st.map fun v => v.category).sum ≤ 8) (ha : -2147483648 < a ∧ a < 2147483648) (hd : decode M.2.1 pc = .ok (.invokestatic idx, 3)) (kk : G E d M (pc + 3) (lv) (.int (iI (if 0 ≤ a then a else 0 - a)) :: st) (w) (im) (kc) (ks) Q) : G E d M (pc) (lv) (.int (iI a) :: st) (w) (im) (kc) (ks) Q := g_mabs h1 h2 h3 h4 hcat hd (iI_abs ha ▸ kk)
end GJ
section GP
variable {E : gE} {d : Nat} {M : gM} {pc : Nat} {lv : List (Nat × Value)} {st : List Value} {w : gW} {im : gIm} {kc ks : Nat} {Q : gQ}
theorem g_putI_i {idx : Nat} (ci k : Nat) {a : Nat} {fs : List Value} {v : Value} (hm : im a = some (.inr (ci, fs))) (h0 : g_fld M.1 idx ci k) (hfin : (g_T ci k).2.2.2 = false ∨ (M.2.2.2.2.2 = true ∧ M.1 = g_C ci)) (hn : narrow (g_y ci k) v = v) (hfit : fits (g_y ci k) v = true) (hlen : k < fs.length) (hd : decode M.2.1 pc = .ok (.putfield idx, 3))
    (kk : G E d M (pc + 3) (lv) (st) (w) (vf_upd im a (some (.inr (ci, fs.set k v)))) (kc) (ks) Q) : G E d M (pc) (lv) (v :: .ref a :: st) (w) (im) (kc) (ks) Q := g_putI ci k h0 hfin hn hfit hlen hm hd kk
theorem g_putM_i {idx : Nat} (ci k i : Nat) {fs : List Value} {v : Value} (hi : i < gN E) (hw : w i = .inr (ci, fs)) (h0 : g_fld M.1 idx ci k) (hfin : (g_T ci k).2.2.2 = false ∨ (M.2.2.2.2.2 = true ∧ M.1 = g_C ci)) (hn : narrow (g_y ci k) v = v) (hfit : fits (g_y ci k) v = true) (hlen : k < fs.length) (hd : decode M.2.1 pc = .ok (.putfield idx, 3))
    (kk : G E d M (pc + 3) (lv) (st) (vf_upd w i (.inr (ci, fs.set k v))) (im) (kc) (ks) Q) : G E d M (pc) (lv) (v :: .ref (gad E i) :: st) (w) (im) (kc) (ks) Q := g_putM ci k h0 hfin hn hfit hlen i hi hw hd kk
end GP
section GV
variable {E : gE} {d : Nat} {M : gM} {pc : Nat} {lv : List (Nat × Value)} {st : List Value} {w : gW} {im : gIm} {kc ks : Nat} {Q : gQ}
theorem g_astoreV {i : Nat} {x : Option Nat} {lv' : List (Nat × Value)} (hn : i < M.2.2.1) (hv : g_st1 lv i (va_rf x) = lv') (hd : decode M.2.1 pc = .ok (.astore i, 2)) (k : G E d M (pc + 2) (lv') (st) (w) (im) (kc) (ks) Q) : G E d M (pc) (lv) (va_rf x :: st) (w) (im) (kc) (ks) Q := by
  cases x with
  | none => exact g_astoreN hn hv hd k
  | some y => exact g_astore hn hv hd k
theorem g_astoreV_n {n : Fin 4} {i : Nat} {x : Option Nat} {lv' : List (Nat × Value)} (hi : (n : Nat) = i) (hn : i < M.2.2.1) (hv : g_st1 lv i (va_rf x) = lv') (hd : decode M.2.1 pc = .ok (.astore_n n, 1)) (k : G E d M (pc + 1) (lv') (st) (w) (im) (kc) (ks) Q) : G E d M (pc) (lv) (va_rf x :: st) (w) (im) (kc) (ks) Q := by
  cases x with
  | none => exact g_astoreN_n hi hn hv hd k
  | some y => exact g_astore_n hi hn hv hd k
theorem g_aloadV {i : Nat} {x : Option Nat} (hq : lv.lookup i = some (va_rf x)) (hd : decode M.2.1 pc = .ok (.aload i, 2)) (k : G E d M (pc + 2) (lv) (va_rf x :: st) (w) (im) (kc) (ks) Q) : G E d M (pc) (lv) (st) (w) (im) (kc) (ks) Q := by
  cases x with
  | none => exact g_aloadN hq hd k
  | some y => exact g_aload hq hd k
theorem g_aloadV_n {n : Fin 4} {i : Nat} {x : Option Nat} (hi : (n : Nat) = i) (hq : lv.lookup i = some (va_rf x)) (hd : decode M.2.1 pc = .ok (.aload_n n, 1)) (k : G E d M (pc + 1) (lv) (va_rf x :: st) (w) (im) (kc) (ks) Q) : G E d M (pc) (lv) (st) (w) (im) (kc) (ks) Q := by
  cases x with
  | none => exact g_aloadN_n hi hq hd k
  | some y => exact g_aload_n hi hq hd k
theorem g_areturnV {x : Option Nat} {rt : FieldType} (hr : M.2.2.2.1 = some rt) (hrt : (∃ n, rt = .object n) ∨ ∃ t, rt = .array t) (hd : decode M.2.1 pc = .ok (.areturn, 1)) (hQ : Q (.inl (some (va_rf x))) w im) : G E d M (pc) (lv) ([va_rf x]) (w) (im) (kc) (ks) Q := by
  cases x with
  | none => exact g_areturn hr hrt (Or.inl rfl) hd hQ
  | some y => exact g_areturn hr hrt (Or.inr ⟨_, rfl⟩) hd hQ
end GV
