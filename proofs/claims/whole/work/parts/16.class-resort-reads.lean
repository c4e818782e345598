/-! ===== the resort: what it reads of gates, products and cards ===== -/
theorem sumN_le {f : Int → Int} {c : Int} {n : Nat} (h : ∀ k : Int, 0 ≤ k → k < n → 0 ≤ f k ∧ f k ≤ c) : 0 ≤ sumN f n ∧ sumN f n ≤ c * n := by
  induction n with
  | zero => simp [sumN]
  | succ n ih =>
    have h1 := ih (fun k h0 h1 => h k h0 (by omega))
    have h2 := h n (by omega) (by omega)
    rw [sumN, show ((n + 1 : Nat) : Int) = (n : Int) + 1 by omega, Int.mul_add, Int.mul_one]
    omega
theorem sumZ_le {f : Int → Int} {c n : Int} (h0 : 0 ≤ n) (h : ∀ k : Int, 0 ≤ k → k < n → 0 ≤ f k ∧ f k ≤ c) : 0 ≤ sumZ f n ∧ sumZ f n ≤ c * n := by
  have h1 := sumN_le (f := f) (c := c) (n := n.toNat) (fun k hk hk1 => h k hk (by omega))
  rw [Int.toNat_of_nonneg h0] at h1
  exact h1
abbrev okP (q : Pt9) : Prop := (0 ≤ q.1 ∧ q.1 ≤ 2) ∧ (1 ≤ q.2.1 ∧ q.2.1 ≤ 9) ∧ (0 ≤ q.2.2.1 ∧ q.2.2.1 ≤ 23) ∧ (0 ≤ q.2.2.2.1 ∧ q.2.2.2.1 ≤ 23) ∧ (1 ≤ q.2.2.2.2.1 ∧ q.2.2.2.2.1 ≤ 15) ∧ (1 ≤ q.2.2.2.2.2 ∧ q.2.2.2.2.2 ≤ 9999)
def tb (m k : Int) : Bool := m.toNat.testBit k.toNat
theorem hasB_tb {m k : Int} : hasB m k ↔ tb m k = true := Iff.rfl
theorem bit_t {a k : Int} (ha : 0 ≤ a ∧ a < 2147483648) (hk : 0 ≤ k ∧ k < 31) (h : tb a k = true) : (iI a >>> (iI k &&& 31)) &&& iI 1 = iI 1 := by
  unfold tb at h
  rw [bit_z ha hk, if_pos h]
theorem bit_f {a k : Int} (ha : 0 ≤ a ∧ a < 2147483648) (hk : 0 ≤ k ∧ k < 31) (h : tb a k = false) : (iI a >>> (iI k &&& 31)) &&& iI 1 = iI 0 := by
  rw [bit_z ha hk, if_neg (by rw [show a.toNat.testBit k.toNat = tb a k from rfl, h]; exact Bool.false_ne_true)]
theorem cbZ_le {f t d : Int} : 0 ≤ cbZ f t d ∧ cbZ f t d ≤ 480 := by unfold cbZ; omega
def cntGates (R : Rz) (ps : Int) : Int := sumZ (fun k9 => if k9 < zg R then (if tb ps (zG R k9).1 then 1 else 0) else 0) 12
def minGates (R : Rz) (ps dy : Int) : Int := sumZ (fun k9 => if k9 < zg R then (if tb ps (zG R k9).1 then zL R (k9 * 31 + dy) else 0) else 0) 12
def closedB (R : Rz) (ps dy : Int) : Bool := decide (0 < cntGates R ps) && decide (480 * cntGates R ps ≤ 2 * minGates R ps dy)
def cldays (R : Rz) (ps : Int) (rs : List rT) : Int := sumZ (fun k9 => if tb (dmask rs : Nat) k9 then (if closedB R ps k9 then 1 else 0) else 0) 31
def refundZ (R : Rz) (q : Pt9) (st : Int) (rs : List rT) : Int := if st = 2 ∨ st = 3 then 0 else (if q.1 = 2 then 0 else q.2.2.2.2.2 / q.2.1) * cldays R q.2.2.2.2.1 rs
def validB (k am : Int) (rs : List rT) (dy : Int) : Bool := if k = 0 then decide ((if rs = [] then 0 else dy - (ntz (dmask rs) : Nat)) < am) else if k = 1 then decide (((popc (dmask rs ||| 2 ^ dy.toNat) : Nat) : Int) ≤ am) else decide ((rs.length : Int) < am * 10)
theorem validB_iff {k am : Int} {rs : List rT} {dy : Int} : validB k am rs dy = true ↔ validR k am rs dy := by
  unfold validB validR
  split
  · simp
  · split <;> simp
def waysB : List rT → Bool
  | q :: q' :: r => decide (wayZ q'.2.1 q'.2.2.1 q.2.1 q.2.2.1 ≤ q.2.2.2 - q'.2.2.2) && waysB (q' :: r)
  | _ => true
theorem waysB_iff {rs : List rT} : waysB rs = true ↔ waysOk rs := by
  induction rs with
  | nil => simp [waysB, waysOk]
  | cons q r ih =>
    cases r with
    | nil => simp [waysB, waysOk]
    | cons q' r => simp only [waysB, waysOk, Bool.and_eq_true, decide_eq_true_eq, ih]
def wayR (ck gn gp gx : Int) : List rT → Int
  | [] => 0
  | q :: _ => if ck - q.2.2.2 < wayZ q.2.1 q.2.2.1 gp gx then 41 else if q.1 = gn ∧ ck - q.2.2.2 < 5 then 42 else 0
def reasonZ (R : Rz) (q : Pt9) (st : Int) (rs : List rT) (gn gp gx : Int) : Int :=
  if tb (zs R) gn then 11 else if st ≠ 0 then 20 + st else if tb q.2.2.2.2.1 gp = false then 31 else if ¬ (q.2.2.1 ≤ zk R % 1440 / 60 ∧ zk R % 1440 / 60 ≤ q.2.2.2.1) then 32 else if validB q.1 q.2.1 rs (zk R / 1440) = false then 33 else wayR (zk R) gn gp gx rs
theorem wayZ_nn {p x p' x' : Int} : 0 ≤ wayZ p x p' x' := by
  unfold wayZ
  (repeat' split) <;> omega
theorem reasonZ_rng {R : Rz} {q : Pt9} {st : Int} {rs : List rT} {gn gp gx : Int} (h : 0 ≤ st ∧ st ≤ 3) : 0 ≤ reasonZ R q st rs gn gp gx ∧ reasonZ R q st rs gn gp gx ≤ 42 := by
  unfold reasonZ
  split
  · omega
  · split
    · omega
    · split
      · omega
      · split
        · omega
        · split
          · omega
          · cases rs with
            | nil => simp [wayR]
            | cons q r => simp only [wayR]; (repeat' split) <;> omega
/-- where the chain of successors ends, at most so many steps on -/
def lastZ (R : Rz) : Nat → Int → Int
  | 0, x => x
  | n + 1, x => if (0 ≤ x ∧ x < zc R) ∧ (zC R x).2.2.1 ≠ -1 then lastZ R n (zC R x).2.2.1 else x

theorem c_R_isShut {E : gE} {w : gW} {im : gIm} {Q : gQ} {b : Nat} {R : Rz} (hz : RZ E w im b R) {b9 : Nat} {gn gp gx : Int} (hg : im b9 = some (gateE gn gp gx)) (rg9 : (0 ≤ gn ∧ gn ≤ 11) ∧ (0 ≤ gp ∧ gp ≤ 3) ∧ (0 ≤ gx ∧ gx ≤ 99)) (hQ1 : (tb (zs R) gn = true) → Q (.inl (some (.int (iI 1)))) w im) (hQ2 : ¬ (tb (zs R) gn = true) → Q (.inl (some (.int (iI 0)))) w im) : GM E 0 y_R_isShut m_R_isShut 0 0 [.ref (gad E b), .ref b9] w im Q := by
  have hz9 := hz
  obtain ⟨rg, rp, rc, lc, ⟨hb, h0, h1, h2, h3, h4, hlc⟩, ⟨i1, i2, i3, i4, i5, i6⟩, ok⟩ := hz9
  obtain ⟨ok1, ok2, ok3, ok4, ok5, ok6, ok7, ok8, ok9⟩ := ok
  have co : g_cell E w im (gad E b) (resE E b R) := g_mut b (by omega) h0
  have cg : g_cell E w im (gad E (b + 1)) (rowE 4 12 rg) := g_mut (b + 1) (by omega) h1
  have cp : g_cell E w im (gad E (b + 2)) (rowE 5 8 rp) := g_mut (b + 2) (by omega) h2
  have cc : g_cell E w im (gad E (b + 3)) (rowE 6 20 rc) := g_mut (b + 3) (by omega) h3
  have cl : g_cell E w im (gad E (b + 4)) (intE 372 lc) := g_mut (b + 4) (by omega) h4
  have cgt := g_imm (E := E) (w := w) hg
  refine g_enter (by decide) rfl rfl (fun h => by first | rfl | cases h) (Nat.le_of_ble_eq_true rfl) rfl ?_
  refine g_aload_n (n := 0) (i := 0) rfl rfl d_R_isShut_0 ?_
  refine g_getfield 1 7 f_R_43 (by assumption) (by rfl) d_R_isShut_1 ?_
  refine g_aload_n (n := 1) (i := 1) rfl rfl d_R_isShut_4 ?_
  refine g_getfield 5 0 f_R_67 (by assumption) (by rfl) d_R_isShut_5 ?_
  refine g_ishr d_R_isShut_8 ?_
  
  refine g_iconst_i d_R_isShut_9 ?_
  refine g_iand d_R_isShut_10 ?_
  rw [bit_z (by omega) (by omega)]
  refine g_iconst_i d_R_isShut_11 ?_
  refine g_icmp_ne_i (tgt := 19) (by first | omega | exact iI_if1) (by decide) d_R_isShut_12 (by decide) (fun h12 => ?_) (fun h12 => ?_)
  · refine g_iconst_i d_R_isShut_19 ?_
    refine g_ireturn_0 rfl d_R_isShut_20 ?_
    first | exact hQ1 (by unfold tb; by_cases hz9 : (zs R).toNat.testBit gn.toNat = true <;> simp_all) | exact hQ2 (by unfold tb; by_cases hz9 : (zs R).toNat.testBit gn.toNat = true <;> simp_all)
  · refine g_iconst_i d_R_isShut_15 ?_
    refine g_goto (tgt := 20) (by decide) d_R_isShut_16 ?_
    refine g_ireturn_1 rfl d_R_isShut_20 ?_
    first | exact hQ1 (by unfold tb; by_cases hz9 : (zs R).toNat.testBit gn.toNat = true <;> simp_all) | exact hQ2 (by unfold tb; by_cases hz9 : (zs R).toNat.testBit gn.toNat = true <;> simp_all)

theorem c_R_hasRoomForCards {E : gE} {w : gW} {im : gIm} {Q : gQ} {b : Nat} {R : Rz} (hz : RZ E w im b R) {x : Int} (rx : 0 ≤ x ∧ x ≤ 100000) (hQ1 : (zc R + x ≤ 20) → Q (.inl (some (.int (iI 1)))) w im) (hQ2 : ¬ (zc R + x ≤ 20) → Q (.inl (some (.int (iI 0)))) w im) : GM E 0 y_R_hasRoomForCards m_R_hasRoomForCards 0 0 [.ref (gad E b), .int (iI x)] w im Q := by
  have hz9 := hz
  obtain ⟨rg, rp, rc, lc, ⟨hb, h0, h1, h2, h3, h4, hlc⟩, ⟨i1, i2, i3, i4, i5, i6⟩, ok⟩ := hz9
  obtain ⟨ok1, ok2, ok3, ok4, ok5, ok6, ok7, ok8, ok9⟩ := ok
  have co : g_cell E w im (gad E b) (resE E b R) := g_mut b (by omega) h0
  have cg : g_cell E w im (gad E (b + 1)) (rowE 4 12 rg) := g_mut (b + 1) (by omega) h1
  have cp : g_cell E w im (gad E (b + 2)) (rowE 5 8 rp) := g_mut (b + 2) (by omega) h2
  have cc : g_cell E w im (gad E (b + 3)) (rowE 6 20 rc) := g_mut (b + 3) (by omega) h3
  have cl : g_cell E w im (gad E (b + 4)) (intE 372 lc) := g_mut (b + 4) (by omega) h4
  refine g_enter (by decide) rfl rfl (fun h => by first | rfl | cases h) (Nat.le_of_ble_eq_true rfl) rfl ?_
  refine g_aload_n (n := 0) (i := 0) rfl rfl d_R_hasRoomForCards_0 ?_
  refine g_getfield 1 6 f_R_40 (by assumption) (by rfl) d_R_hasRoomForCards_1 ?_
  refine g_iload_n (n := 1) (i := 1) rfl rfl d_R_hasRoomForCards_4 ?_
  refine g_iadd_i d_R_hasRoomForCards_5 ?_
  refine g_bipush_i (by decide) d_R_hasRoomForCards_6 ?_
  refine g_icmp_gt_i (tgt := 15) (by omega) (by decide) d_R_hasRoomForCards_8 (by decide) (fun h8 => ?_) (fun h8 => ?_)
  · refine g_iconst_i d_R_hasRoomForCards_15 ?_
    refine g_ireturn_0 rfl d_R_hasRoomForCards_16 ?_
    first | exact hQ1 (by omega) | exact hQ2 (by omega)
  · refine g_iconst_i d_R_hasRoomForCards_11 ?_
    refine g_goto (tgt := 16) (by decide) d_R_hasRoomForCards_12 ?_
    refine g_ireturn_1 rfl d_R_hasRoomForCards_16 ?_
    first | exact hQ1 (by omega) | exact hQ2 (by omega)

theorem c_R_closedOn {E : gE} {w : gW} {im : gIm} {Q : gQ} {b : Nat} {R : Rz} (hz : RZ E w im b R) {b9 : Nat} {gn gp gx : Int} (hg : im b9 = some (gateE gn gp gx)) (rg9 : (0 ≤ gn ∧ gn ≤ 11) ∧ (0 ≤ gp ∧ gp ≤ 3) ∧ (0 ≤ gx ∧ gx ≤ 99)) {dy : Int} (rd : 0 ≤ dy ∧ dy ≤ 30) (hQ : Q (.inl (some (.int (iI (zL R (gn * 31 + dy)))))) w im) : GM E 0 y_R_closedOn m_R_closedOn 0 0 [.ref (gad E b), .ref b9, .int (iI dy)] w im Q := by
  have hz9 := hz
  obtain ⟨rg, rp, rc, lc, ⟨hb, h0, h1, h2, h3, h4, hlc⟩, ⟨i1, i2, i3, i4, i5, i6⟩, ok⟩ := hz9
  obtain ⟨ok1, ok2, ok3, ok4, ok5, ok6, ok7, ok8, ok9⟩ := ok
  have co : g_cell E w im (gad E b) (resE E b R) := g_mut b (by omega) h0
  have cg : g_cell E w im (gad E (b + 1)) (rowE 4 12 rg) := g_mut (b + 1) (by omega) h1
  have cp : g_cell E w im (gad E (b + 2)) (rowE 5 8 rp) := g_mut (b + 2) (by omega) h2
  have cc : g_cell E w im (gad E (b + 3)) (rowE 6 20 rc) := g_mut (b + 3) (by omega) h3
  have cl : g_cell E w im (gad E (b + 4)) (intE 372 lc) := g_mut (b + 4) (by omega) h4
  have cgt := g_imm (E := E) (w := w) hg
  refine g_enter (by decide) rfl rfl (fun h => by first | rfl | cases h) (Nat.le_of_ble_eq_true rfl) rfl ?_
  refine g_aload_n (n := 1) (i := 1) rfl rfl d_R_closedOn_0 ?_
  refine g_getfield 5 0 f_R_67 (by assumption) (by rfl) d_R_closedOn_1 ?_
  refine g_bipush_i (by decide) d_R_closedOn_4 ?_
  refine g_imul_i d_R_closedOn_6 ?_
  refine g_iload_n (n := 2) (i := 2) rfl rfl d_R_closedOn_7 ?_
  refine g_iadd_i d_R_closedOn_8 ?_
  refine g_istore_n (n := 3) (i := 3) rfl (by decide) rfl d_R_closedOn_9 ?_
  refine g_iload_n (n := 3) (i := 3) rfl rfl d_R_closedOn_10 ?_
  refine g_if_lt_i (tgt := 32) (by omega) d_R_closedOn_11 (by decide) (fun h => by exfalso; omega) (fun h11 => ?_)
  refine g_iload_n (n := 3) (i := 3) rfl rfl d_R_closedOn_14 ?_
  refine g_aload_n (n := 0) (i := 0) rfl rfl d_R_closedOn_15 ?_
  refine g_getfield 1 3 f_R_29 (by assumption) (by rfl) d_R_closedOn_16 ?_
  refine g_alen_i (by assumption) (by decide) d_R_closedOn_19 ?_
  refine g_icmp_ge_i (tgt := 32) (by omega) (by omega) d_R_closedOn_20 (by decide) (fun h => by exfalso; omega) (fun h20 => ?_)
  refine g_aload_n (n := 0) (i := 0) rfl rfl d_R_closedOn_23 ?_
  refine g_getfield 1 3 f_R_29 (by assumption) (by rfl) d_R_closedOn_24 ?_
  refine g_iload_n (n := 3) (i := 3) rfl rfl d_R_closedOn_27 ?_
  refine g_iaload_i (by assumption) (by omega) (by omega) (by rfl) d_R_closedOn_28 ?_
  refine g_goto (tgt := 33) (by decide) d_R_closedOn_29 ?_
  refine g_ireturn_i rfl d_R_closedOn_33 ?_
  exact g_qi hQ (hlc _ (by omega))

theorem c_R_countedBetween {E : gE} {w : gW} {im : gIm} {Q : gQ} {f t d9 : Int} (r : (0 ≤ f ∧ f ≤ 50000) ∧ (0 ≤ t ∧ t ≤ 50000) ∧ (0 ≤ d9 ∧ d9 ≤ 30)) (hQ : Q (.inl (some (.int (iI (cbZ f t d9))))) w im) : GM E 0 y_R_countedBetween m_R_countedBetween 0 0 [.int (iI f), .int (iI t), .int (iI d9)] w im Q := by
  refine g_enter (by decide) rfl rfl (fun h => by first | rfl | cases h) (Nat.le_of_ble_eq_true rfl) rfl ?_
  refine g_iload_n (n := 0) (i := 0) rfl rfl d_R_countedBetween_0 ?_
  refine g_iload_n (n := 2) (i := 2) rfl rfl d_R_countedBetween_1 ?_
  refine g_sipush_i (by decide) d_R_countedBetween_2 ?_
  refine g_imul_i d_R_countedBetween_5 ?_
  refine g_sipush_i (by decide) d_R_countedBetween_6 ?_
  refine g_iadd_i d_R_countedBetween_9 ?_
  refine g_mmax_i l_R_136 x_max.1 x_max.2.1 x_max.2.2 (Nat.le_of_ble_eq_true rfl) (by first | omega | ((repeat' split) <;> omega)) (by first | omega | ((repeat' split) <;> omega)) d_R_countedBetween_10 ?_
  refine g_istore_n (n := 3) (i := 3) rfl (by decide) rfl d_R_countedBetween_13 ?_
  refine g_iload_n (n := 1) (i := 1) rfl rfl d_R_countedBetween_14 ?_
  refine g_iload_n (n := 2) (i := 2) rfl rfl d_R_countedBetween_15 ?_
  refine g_sipush_i (by decide) d_R_countedBetween_16 ?_
  refine g_imul_i d_R_countedBetween_19 ?_
  refine g_sipush_i (by decide) d_R_countedBetween_20 ?_
  refine g_iadd_i d_R_countedBetween_23 ?_
  refine g_mmin_i l_R_55 x_min.1 x_min.2.1 x_min.2.2 (Nat.le_of_ble_eq_true rfl) (by first | omega | ((repeat' split) <;> omega)) (by first | omega | ((repeat' split) <;> omega)) d_R_countedBetween_24 ?_
  refine g_istore (i := 4) (by decide) rfl d_R_countedBetween_27 ?_
  refine g_iconst_i d_R_countedBetween_29 ?_
  refine g_iload (i := 4) rfl d_R_countedBetween_30 ?_
  refine g_iload_n (n := 3) (i := 3) rfl rfl d_R_countedBetween_32 ?_
  refine g_isub_i d_R_countedBetween_33 ?_
  refine g_mmax_i l_R_136 x_max.1 x_max.2.1 x_max.2.2 (Nat.le_of_ble_eq_true rfl) (by first | omega | ((repeat' split) <;> omega)) (by first | omega | ((repeat' split) <;> omega)) d_R_countedBetween_34 ?_
  refine g_ireturn_i rfl d_R_countedBetween_37 ?_
  exact g_qi hQ (by unfold cbZ; (repeat' split) <;> omega)

theorem c_R_closedOnAllDays {E : gE} {w : gW} {im : gIm} {Q : gQ} {b : Nat} {R : Rz} (hz : RZ E w im b R) {b9 : Nat} {gn gp gx : Int} (hg : im b9 = some (gateE gn gp gx)) (rg9 : (0 ≤ gn ∧ gn ≤ 11) ∧ (0 ≤ gp ∧ gp ≤ 3) ∧ (0 ≤ gx ∧ gx ≤ 99)) (hQ : Q (.inl (some (.int (iI (sumZ (fun k9 => zL R (gn * 31 + k9)) 31))))) w im) : GM E 1 y_R_closedOnAllDays m_R_closedOnAllDays 0 0 [.ref (gad E b), .ref b9] w im Q := by
  have hz9 := hz
  obtain ⟨rg, rp, rc, lc, ⟨hb, h0, h1, h2, h3, h4, hlc⟩, ⟨i1, i2, i3, i4, i5, i6⟩, ok⟩ := hz9
  obtain ⟨ok1, ok2, ok3, ok4, ok5, ok6, ok7, ok8, ok9⟩ := ok
  have co : g_cell E w im (gad E b) (resE E b R) := g_mut b (by omega) h0
  have cg : g_cell E w im (gad E (b + 1)) (rowE 4 12 rg) := g_mut (b + 1) (by omega) h1
  have cp : g_cell E w im (gad E (b + 2)) (rowE 5 8 rp) := g_mut (b + 2) (by omega) h2
  have cc : g_cell E w im (gad E (b + 3)) (rowE 6 20 rc) := g_mut (b + 3) (by omega) h3
  have cl : g_cell E w im (gad E (b + 4)) (intE 372 lc) := g_mut (b + 4) (by omega) h4
  have cgt := g_imm (E := E) (w := w) hg
  have loop : ∀ (n9 : Nat) (k9 s9 : Int), 0 ≤ k9 → k9 + n9 = 31 → s9 = sumZ (fun k9 => zL R (gn * 31 + k9)) k9 → G E 1 m_R_closedOnAllDays 4 [(0, .ref (gad E b)), (1, .ref b9), (2, .int (iI s9)), (3, .int (iI k9))] [] w im 0 0 Q := by
    intro n9
    induction n9 with
    | zero =>
      intro k9 s9 h9 hk9 hs9
      have e9 : k9 = 31 := by omega
      rw [e9] at hs9
      refine g_iload_n (n := 3) (i := 3) rfl rfl d_R_closedOnAllDays_4 ?_
      refine g_bipush_i (by decide) d_R_closedOnAllDays_5 ?_
      refine g_icmp_ge_i (tgt := 25) (by omega) (by decide) d_R_closedOnAllDays_7 (by decide) (fun h7 => ?_) (fun h => by exfalso; omega)
      refine g_iload_n (n := 2) (i := 2) rfl rfl d_R_closedOnAllDays_25 ?_
      refine g_ireturn_i rfl d_R_closedOnAllDays_26 ?_
      exact g_qi hQ hs9
    | succ n9 ih =>
      intro k9 s9 h9 hk9 hs9
      refine g_iload_n (n := 3) (i := 3) rfl rfl d_R_closedOnAllDays_4 ?_
      refine g_bipush_i (by decide) d_R_closedOnAllDays_5 ?_
      refine g_icmp_ge_i (tgt := 25) (by omega) (by decide) d_R_closedOnAllDays_7 (by decide) (fun h => by exfalso; omega) (fun h7 => ?_)
      refine g_iload_n (n := 2) (i := 2) rfl rfl d_R_closedOnAllDays_10 ?_
      refine g_aload_n (n := 0) (i := 0) rfl rfl d_R_closedOnAllDays_11 ?_
      refine g_aload_n (n := 1) (i := 1) rfl rfl d_R_closedOnAllDays_12 ?_
      refine g_iload_n (n := 3) (i := 3) rfl rfl d_R_closedOnAllDays_13 ?_
      refine g_callV2 rfl rfl e_R_closedOn l_R_139 iv_R_closedOn 1 (by decide) rfl (by assumption) (by decide) (Nat.zero_le _) (Nat.zero_le _) (Nat.le_of_ble_eq_true rfl) d_R_closedOnAllDays_14 (c_R_closedOn (by assumption) (by assumption) (by omega) (by omega) ?_)
      refine g_ret ?_
      refine g_iadd_i d_R_closedOnAllDays_17 ?_
      refine g_istore_n (n := 2) (i := 2) rfl (by decide) rfl d_R_closedOnAllDays_18 ?_
      refine g_iinc_i (i := 3) rfl (by decide) rfl d_R_closedOnAllDays_19 ?_
      refine g_goto (tgt := 4) (by decide) d_R_closedOnAllDays_22 ?_
      exact g_cut (lv' := [(0, .ref (gad E b)), (1, .ref b9), (2, .int (iI _)), (3, .int (iI (k9 + 1)))]) ⟨rfl, rfl, rfl, rfl, trivial⟩ (ih (k9 + 1) _ (by omega) (by omega) (by rw [sumZ_s (by omega)]; omega))
  refine g_enter (by decide) rfl rfl (fun h => by first | rfl | cases h) (Nat.le_of_ble_eq_true rfl) rfl ?_
  refine g_iconst_i d_R_closedOnAllDays_0 ?_
  refine g_istore_n (n := 2) (i := 2) rfl (by decide) rfl d_R_closedOnAllDays_1 ?_
  refine g_iconst_i d_R_closedOnAllDays_2 ?_
  refine g_istore_n (n := 3) (i := 3) rfl (by decide) rfl d_R_closedOnAllDays_3 ?_
  refine g_cut ?_ (loop 31 0 0 (by omega) (by omega) rfl)
  exact ⟨rfl, rfl, rfl, rfl, trivial⟩

theorem c_R_countedSoFar {E : gE} {w : gW} {im : gIm} {Q : gQ} {b : Nat} {R : Rz} (hz : RZ E w im b R) (hQ : Q (.inl (some (.int (iI (sumZ (fun k9 => cbZ 0 (zk R) k9) 31))))) w im) : GM E 1 y_R_countedSoFar m_R_countedSoFar 0 0 [.ref (gad E b)] w im Q := by
  have hz9 := hz
  obtain ⟨rg, rp, rc, lc, ⟨hb, h0, h1, h2, h3, h4, hlc⟩, ⟨i1, i2, i3, i4, i5, i6⟩, ok⟩ := hz9
  obtain ⟨ok1, ok2, ok3, ok4, ok5, ok6, ok7, ok8, ok9⟩ := ok
  have co : g_cell E w im (gad E b) (resE E b R) := g_mut b (by omega) h0
  have cg : g_cell E w im (gad E (b + 1)) (rowE 4 12 rg) := g_mut (b + 1) (by omega) h1
  have cp : g_cell E w im (gad E (b + 2)) (rowE 5 8 rp) := g_mut (b + 2) (by omega) h2
  have cc : g_cell E w im (gad E (b + 3)) (rowE 6 20 rc) := g_mut (b + 3) (by omega) h3
  have cl : g_cell E w im (gad E (b + 4)) (intE 372 lc) := g_mut (b + 4) (by omega) h4
  have loop : ∀ (n9 : Nat) (k9 s9 : Int), 0 ≤ k9 → k9 + n9 = 31 → s9 = sumZ (fun k9 => cbZ 0 (zk R) k9) k9 → G E 1 m_R_countedSoFar 4 [(0, .ref (gad E b)), (1, .int (iI s9)), (2, .int (iI k9))] [] w im 0 0 Q := by
    intro n9
    induction n9 with
    | zero =>
      intro k9 s9 h9 hk9 hs9
      have e9 : k9 = 31 := by omega
      rw [e9] at hs9
      refine g_iload_n (n := 2) (i := 2) rfl rfl d_R_countedSoFar_4 ?_
      refine g_bipush_i (by decide) d_R_countedSoFar_5 ?_
      refine g_icmp_ge_i (tgt := 28) (by omega) (by decide) d_R_countedSoFar_7 (by decide) (fun h7 => ?_) (fun h => by exfalso; omega)
      refine g_iload_n (n := 1) (i := 1) rfl rfl d_R_countedSoFar_28 ?_
      refine g_ireturn_i rfl d_R_countedSoFar_29 ?_
      exact g_qi hQ hs9
    | succ n9 ih =>
      intro k9 s9 h9 hk9 hs9
      refine g_iload_n (n := 2) (i := 2) rfl rfl d_R_countedSoFar_4 ?_
      refine g_bipush_i (by decide) d_R_countedSoFar_5 ?_
      refine g_icmp_ge_i (tgt := 28) (by omega) (by decide) d_R_countedSoFar_7 (by decide) (fun h => by exfalso; omega) (fun h7 => ?_)
      refine g_iload_n (n := 1) (i := 1) rfl rfl d_R_countedSoFar_10 ?_
      refine g_iconst_i d_R_countedSoFar_11 ?_
      refine g_aload_n (n := 0) (i := 0) rfl rfl d_R_countedSoFar_12 ?_
      refine g_getfield 1 8 f_R_46 (by assumption) (by rfl) d_R_countedSoFar_13 ?_
      refine g_iload_n (n := 2) (i := 2) rfl rfl d_R_countedSoFar_16 ?_
      refine g_callS3 rfl rfl e_R_countedBetween l_R_132 st_R_countedBetween (by decide) (Nat.zero_le _) (Nat.zero_le _) (Nat.le_of_ble_eq_true rfl) d_R_countedSoFar_17 (c_R_countedBetween (by omega) ?_)
      refine g_ret ?_
      refine g_iadd_i d_R_countedSoFar_20 ?_
      refine g_istore_n (n := 1) (i := 1) rfl (by decide) rfl d_R_countedSoFar_21 ?_
      refine g_iinc_i (i := 2) rfl (by decide) rfl d_R_countedSoFar_22 ?_
      refine g_goto (tgt := 4) (by decide) d_R_countedSoFar_25 ?_
      exact g_cut (lv' := [(0, .ref (gad E b)), (1, .int (iI _)), (2, .int (iI (k9 + 1)))]) ⟨rfl, rfl, rfl, trivial⟩ (ih (k9 + 1) _ (by omega) (by omega) (by rw [sumZ_s (by omega)]; omega))
  refine g_enter (by decide) rfl rfl (fun h => by first | rfl | cases h) (Nat.le_of_ble_eq_true rfl) rfl ?_
  refine g_iconst_i d_R_countedSoFar_0 ?_
  refine g_istore_n (n := 1) (i := 1) rfl (by decide) rfl d_R_countedSoFar_1 ?_
  refine g_iconst_i d_R_countedSoFar_2 ?_
  refine g_istore_n (n := 2) (i := 2) rfl (by decide) rfl d_R_countedSoFar_3 ?_
  refine g_cut ?_ (loop 31 0 0 (by omega) (by omega) rfl)
  exact ⟨rfl, rfl, rfl, trivial⟩

theorem c_R_ridesThrough {E : gE} {w : gW} {im : gIm} {Q : gQ} {b : Nat} {R : Rz} (hz : RZ E w im b R) {b9 : Nat} {gn gp gx : Int} (hg : im b9 = some (gateE gn gp gx)) (rg9 : (0 ≤ gn ∧ gn ≤ 11) ∧ (0 ≤ gp ∧ gp ≤ 3) ∧ (0 ≤ gx ∧ gx ≤ 99)) (hQ : Q (.inl (some (.int (iI (sumZ (fun k9 => if k9 < zc R then cntG gn (zC R k9).2.2.2.2 else 0) 20))))) w im) : GM E 1 y_R_ridesThrough m_R_ridesThrough 0 0 [.ref (gad E b), .ref b9] w im Q := by
  have hz9 := hz
  obtain ⟨rg, rp, rc, lc, ⟨hb, h0, h1, h2, h3, h4, hlc⟩, ⟨i1, i2, i3, i4, i5, i6⟩, ok⟩ := hz9
  obtain ⟨ok1, ok2, ok3, ok4, ok5, ok6, ok7, ok8, ok9⟩ := ok
  have co : g_cell E w im (gad E b) (resE E b R) := g_mut b (by omega) h0
  have cg : g_cell E w im (gad E (b + 1)) (rowE 4 12 rg) := g_mut (b + 1) (by omega) h1
  have cp : g_cell E w im (gad E (b + 2)) (rowE 5 8 rp) := g_mut (b + 2) (by omega) h2
  have cc : g_cell E w im (gad E (b + 3)) (rowE 6 20 rc) := g_mut (b + 3) (by omega) h3
  have cl : g_cell E w im (gad E (b + 4)) (intE 372 lc) := g_mut (b + 4) (by omega) h4
  have cgt := g_imm (E := E) (w := w) hg
  have loop : ∀ (n9 : Nat) (k9 s9 : Int), 0 ≤ k9 → k9 + n9 = 20 → s9 = sumZ (fun k9 => if k9 < zc R then cntG gn (zC R k9).2.2.2.2 else 0) k9 → G E 1 m_R_ridesThrough 14 [(0, .ref (gad E b)), (1, .ref b9), (2, .int (iI s9)), (3, .ref (gad E (b + 3))), (4, .int (iI 20)), (5, .int (iI k9))] [] w im 0 0 Q := by
    intro n9
    induction n9 with
    | zero =>
      intro k9 s9 h9 hk9 hs9
      have e9 : k9 = 20 := by omega
      rw [e9] at hs9
      refine g_iload (i := 5) rfl d_R_ridesThrough_14 ?_
      refine g_iload (i := 4) rfl d_R_ridesThrough_16 ?_
      refine g_icmp_ge_i (tgt := 51) (by omega) (by decide) d_R_ridesThrough_18 (by decide) (fun h18 => ?_) (fun h => by exfalso; omega)
      refine g_iload_n (n := 2) (i := 2) rfl rfl d_R_ridesThrough_51 ?_
      refine g_ireturn_i rfl d_R_ridesThrough_52 ?_
      exact g_qi hQ hs9
    | succ n9 ih =>
      intro k9 s9 h9 hk9 hs9
      by_cases hc9 : k9 < zc R
      · obtain ⟨a9, p9, la9, e1, e2, e3, e4⟩ := i5 k9 ⟨h9, hc9⟩
        have c1 := g_imm (E := E) (w := w) e2
        have c2 := g_imm (E := E) (w := w) e3
        obtain ⟨o1, o2, o3, o4, o5⟩ := ok8 k9 ⟨h9, hc9⟩
        have oq := ok7 (zC R k9).1 o1
        have hlen := o5.1
        refine g_iload (i := 5) rfl d_R_ridesThrough_14 ?_
        refine g_iload (i := 4) rfl d_R_ridesThrough_16 ?_
        refine g_icmp_ge_i (tgt := 51) (by omega) (by decide) d_R_ridesThrough_18 (by decide) (fun h => by exfalso; omega) (fun h18 => ?_)
        refine g_aload_n (n := 3) (i := 3) rfl rfl d_R_ridesThrough_21 ?_
        refine g_iload (i := 5) rfl d_R_ridesThrough_22 ?_
        refine g_aaload_i (by assumption) (by decide) (by rfl) (by omega) (by omega) (by rfl) (by assumption) d_R_ridesThrough_24 ?_
        refine g_astore (i := 6) (by decide) rfl d_R_ridesThrough_25 ?_
        refine g_iload_n (n := 2) (i := 2) rfl rfl d_R_ridesThrough_27 ?_
        refine g_aload (i := 6) rfl d_R_ridesThrough_28 ?_
        refine g_ifnonnull (tgt := 37) (by decide) d_R_ridesThrough_30 ?_
        refine g_aload (i := 6) rfl d_R_ridesThrough_37 ?_
        refine g_aload_n (n := 1) (i := 1) rfl rfl d_R_ridesThrough_39 ?_
        refine g_callV1 rfl rfl e_C_ridesThrough l_R_192 iv_C_ridesThrough 8 (by decide) rfl (by assumption) (by decide) (Nat.zero_le _) (Nat.zero_le _) (Nat.le_of_ble_eq_true rfl) d_R_ridesThrough_40 (c_C_ridesThrough (by assumption) (by assumption) (by assumption) (by assumption) (by omega) ?_)
        refine g_ret ?_
        refine g_iadd_i d_R_ridesThrough_43 ?_
        refine g_istore_n (n := 2) (i := 2) rfl (by decide) rfl d_R_ridesThrough_44 ?_
        refine g_iinc_i (i := 5) rfl (by decide) rfl d_R_ridesThrough_45 ?_
        refine g_goto (tgt := 14) (by decide) d_R_ridesThrough_48 ?_
        exact g_cut (lv' := [(0, .ref (gad E b)), (1, .ref b9), (2, .int (iI _)), (3, .ref (gad E (b + 3))), (4, .int (iI 20)), (5, .int (iI (k9 + 1)))]) ⟨rfl, rfl, rfl, rfl, rfl, rfl, trivial⟩ (ih (k9 + 1) _ (by omega) (by omega) (by rw [sumZ_s (by omega)]; first | omega | (simp only [if_pos hc9]; omega) | (simp only [if_neg hc9]; omega) | (simp [*]; done) | (simp [*]; omega)))
      · have e1 := i6 k9 (by omega)
        refine g_iload (i := 5) rfl d_R_ridesThrough_14 ?_
        refine g_iload (i := 4) rfl d_R_ridesThrough_16 ?_
        refine g_icmp_ge_i (tgt := 51) (by omega) (by decide) d_R_ridesThrough_18 (by decide) (fun h => by exfalso; omega) (fun h18 => ?_)
        refine g_aload_n (n := 3) (i := 3) rfl rfl d_R_ridesThrough_21 ?_
        refine g_iload (i := 5) rfl d_R_ridesThrough_22 ?_
        refine g_aaloadN_i (by assumption) (by decide) (by rfl) (by omega) (by omega) (by rfl) (by assumption) d_R_ridesThrough_24 ?_
        refine g_astoreN (i := 6) (by decide) rfl d_R_ridesThrough_25 ?_
        refine g_iload_n (n := 2) (i := 2) rfl rfl d_R_ridesThrough_27 ?_
        refine g_aloadN (i := 6) rfl d_R_ridesThrough_28 ?_
        refine g_ifnonnullN d_R_ridesThrough_30 ?_
        refine g_iconst_i d_R_ridesThrough_33 ?_
        refine g_goto (tgt := 43) (by decide) d_R_ridesThrough_34 ?_
        refine g_iadd_i d_R_ridesThrough_43 ?_
        refine g_istore_n (n := 2) (i := 2) rfl (by decide) rfl d_R_ridesThrough_44 ?_
        refine g_iinc_i (i := 5) rfl (by decide) rfl d_R_ridesThrough_45 ?_
        refine g_goto (tgt := 14) (by decide) d_R_ridesThrough_48 ?_
        exact g_cut (lv' := [(0, .ref (gad E b)), (1, .ref b9), (2, .int (iI _)), (3, .ref (gad E (b + 3))), (4, .int (iI 20)), (5, .int (iI (k9 + 1)))]) ⟨rfl, rfl, rfl, rfl, rfl, rfl, trivial⟩ (ih (k9 + 1) _ (by omega) (by omega) (by rw [sumZ_s (by omega)]; first | omega | (simp only [if_pos hc9]; omega) | (simp only [if_neg hc9]; omega) | (simp [*]; done) | (simp [*]; omega)))
  refine g_enter (by decide) rfl rfl (fun h => by first | rfl | cases h) (Nat.le_of_ble_eq_true rfl) rfl ?_
  refine g_iconst_i d_R_ridesThrough_0 ?_
  refine g_istore_n (n := 2) (i := 2) rfl (by decide) rfl d_R_ridesThrough_1 ?_
  refine g_aload_n (n := 0) (i := 0) rfl rfl d_R_ridesThrough_2 ?_
  refine g_getfield 1 2 f_R_25 (by assumption) (by rfl) d_R_ridesThrough_3 ?_
  refine g_astore_n (n := 3) (i := 3) rfl (by decide) rfl d_R_ridesThrough_6 ?_
  refine g_aload_n (n := 3) (i := 3) rfl rfl d_R_ridesThrough_7 ?_
  refine g_alen_i (by assumption) (by decide) d_R_ridesThrough_8 ?_
  refine g_istore (i := 4) (by decide) rfl d_R_ridesThrough_9 ?_
  refine g_iconst_i d_R_ridesThrough_11 ?_
  refine g_istore (i := 5) (by decide) rfl d_R_ridesThrough_12 ?_
  refine g_cut ?_ (loop 20 0 0 (by omega) (by omega) rfl)
  exact ⟨rfl, rfl, rfl, rfl, rfl, rfl, trivial⟩

theorem c_R_cardsWith {E : gE} {w : gW} {im : gIm} {Q : gQ} {b : Nat} {R : Rz} (hz : RZ E w im b R) {pp : Nat} {pn : Int} {q9 : Pt9} (hp : im pp = some (prodAt pn q9)) (rq : okP q9) (rpn : 0 ≤ pn ∧ pn ≤ 7) (hQ : Q (.inl (some (.int (iI (sumZ (fun k9 => if k9 < zc R then (if (zC R k9).2.1 = 2 then 0 else if (zC R k9).1 = pn then 1 else 0) else 0) 20))))) w im) : GM E 0 y_R_cardsWith m_R_cardsWith 0 0 [.ref (gad E b), .ref pp] w im Q := by
  have hz9 := hz
  obtain ⟨rg, rp, rc, lc, ⟨hb, h0, h1, h2, h3, h4, hlc⟩, ⟨i1, i2, i3, i4, i5, i6⟩, ok⟩ := hz9
  obtain ⟨ok1, ok2, ok3, ok4, ok5, ok6, ok7, ok8, ok9⟩ := ok
  have co : g_cell E w im (gad E b) (resE E b R) := g_mut b (by omega) h0
  have cg : g_cell E w im (gad E (b + 1)) (rowE 4 12 rg) := g_mut (b + 1) (by omega) h1
  have cp : g_cell E w im (gad E (b + 2)) (rowE 5 8 rp) := g_mut (b + 2) (by omega) h2
  have cc : g_cell E w im (gad E (b + 3)) (rowE 6 20 rc) := g_mut (b + 3) (by omega) h3
  have cl : g_cell E w im (gad E (b + 4)) (intE 372 lc) := g_mut (b + 4) (by omega) h4
  have cpr := g_imm (E := E) (w := w) hp
  have loop : ∀ (n9 : Nat) (k9 s9 : Int), 0 ≤ k9 → k9 + n9 = 20 → s9 = sumZ (fun k9 => if k9 < zc R then (if (zC R k9).2.1 = 2 then 0 else if (zC R k9).1 = pn then 1 else 0) else 0) k9 → G E 0 m_R_cardsWith 14 [(0, .ref (gad E b)), (1, .ref pp), (2, .int (iI s9)), (3, .ref (gad E (b + 3))), (4, .int (iI 20)), (5, .int (iI k9))] [] w im 0 0 Q := by
    intro n9
    induction n9 with
    | zero =>
      intro k9 s9 h9 hk9 hs9
      have e9 : k9 = 20 := by omega
      rw [e9] at hs9
      refine g_iload (i := 5) rfl d_R_cardsWith_14 ?_
      refine g_iload (i := 4) rfl d_R_cardsWith_16 ?_
      refine g_icmp_ge_i (tgt := 65) (by omega) (by decide) d_R_cardsWith_18 (by decide) (fun h18 => ?_) (fun h => by exfalso; omega)
      refine g_iload_n (n := 2) (i := 2) rfl rfl d_R_cardsWith_65 ?_
      refine g_ireturn_i rfl d_R_cardsWith_66 ?_
      exact g_qi hQ hs9
    | succ n9 ih =>
      intro k9 s9 h9 hk9 hs9
      by_cases hc9 : k9 < zc R
      · obtain ⟨a9, p9, la9, e1, e2, e3, e4⟩ := i5 k9 ⟨h9, hc9⟩
        have c1 := g_imm (E := E) (w := w) e2
        have c2 := g_imm (E := E) (w := w) e3
        obtain ⟨o1, o2, o3, o4, o5⟩ := ok8 k9 ⟨h9, hc9⟩
        have oq := ok7 (zC R k9).1 o1
        have hlen := o5.1
        refine g_iload (i := 5) rfl d_R_cardsWith_14 ?_
        refine g_iload (i := 4) rfl d_R_cardsWith_16 ?_
        refine g_icmp_ge_i (tgt := 65) (by omega) (by decide) d_R_cardsWith_18 (by decide) (fun h => by exfalso; omega) (fun h18 => ?_)
        refine g_aload_n (n := 3) (i := 3) rfl rfl d_R_cardsWith_21 ?_
        refine g_iload (i := 5) rfl d_R_cardsWith_22 ?_
        refine g_aaload_i (by assumption) (by decide) (by rfl) (by omega) (by omega) (by rfl) (by assumption) d_R_cardsWith_24 ?_
        refine g_astore (i := 6) (by decide) rfl d_R_cardsWith_25 ?_
        refine g_aload (i := 6) rfl d_R_cardsWith_27 ?_
        refine g_ifnull d_R_cardsWith_29 ?_
        refine g_aload (i := 6) rfl d_R_cardsWith_32 ?_
        refine g_getfield 8 2 f_R_150 (by assumption) (by rfl) d_R_cardsWith_34 ?_
        refine g_iconst_i d_R_cardsWith_37 ?_
        refine g_icmp_eq_i (tgt := 59) (by omega) (by decide) d_R_cardsWith_38 (by decide) (fun h38 => ?_) (fun h38 => ?_)
        · refine g_iinc_i (i := 5) rfl (by decide) rfl d_R_cardsWith_59 ?_
          refine g_goto (tgt := 14) (by decide) d_R_cardsWith_62 ?_
          exact g_cut (lv' := [(0, .ref (gad E b)), (1, .ref pp), (2, .int (iI _)), (3, .ref (gad E (b + 3))), (4, .int (iI 20)), (5, .int (iI (k9 + 1)))]) ⟨rfl, rfl, rfl, rfl, rfl, rfl, trivial⟩ (ih (k9 + 1) _ (by omega) (by omega) (by rw [sumZ_s (by omega)]; first | omega | (simp only [if_pos hc9]; omega) | (simp only [if_neg hc9]; omega) | (simp [*]; done) | (simp [*]; omega)))
        · refine g_aload (i := 6) rfl d_R_cardsWith_41 ?_
          refine g_getfield 8 1 f_R_87 (by assumption) (by rfl) d_R_cardsWith_43 ?_
          refine g_getfield 6 0 f_R_70 (by assumption) (by rfl) d_R_cardsWith_46 ?_
          refine g_aload_n (n := 1) (i := 1) rfl rfl d_R_cardsWith_49 ?_
          refine g_getfield 6 0 f_R_70 (by assumption) (by rfl) d_R_cardsWith_50 ?_
          refine g_icmp_ne_i (tgt := 59) (by omega) (by omega) d_R_cardsWith_53 (by decide) (fun h53 => ?_) (fun h53 => ?_)
          · refine g_iinc_i (i := 5) rfl (by decide) rfl d_R_cardsWith_59 ?_
            refine g_goto (tgt := 14) (by decide) d_R_cardsWith_62 ?_
            exact g_cut (lv' := [(0, .ref (gad E b)), (1, .ref pp), (2, .int (iI _)), (3, .ref (gad E (b + 3))), (4, .int (iI 20)), (5, .int (iI (k9 + 1)))]) ⟨rfl, rfl, rfl, rfl, rfl, rfl, trivial⟩ (ih (k9 + 1) _ (by omega) (by omega) (by rw [sumZ_s (by omega)]; first | omega | (simp only [if_pos hc9]; omega) | (simp only [if_neg hc9]; omega) | (simp [*]; done) | (simp [*]; omega)))
          · refine g_iinc_i (i := 2) rfl (by decide) rfl d_R_cardsWith_56 ?_
            refine g_iinc_i (i := 5) rfl (by decide) rfl d_R_cardsWith_59 ?_
            refine g_goto (tgt := 14) (by decide) d_R_cardsWith_62 ?_
            exact g_cut (lv' := [(0, .ref (gad E b)), (1, .ref pp), (2, .int (iI _)), (3, .ref (gad E (b + 3))), (4, .int (iI 20)), (5, .int (iI (k9 + 1)))]) ⟨rfl, rfl, rfl, rfl, rfl, rfl, trivial⟩ (ih (k9 + 1) _ (by omega) (by omega) (by rw [sumZ_s (by omega)]; first | omega | (simp only [if_pos hc9]; omega) | (simp only [if_neg hc9]; omega) | (simp [*]; done) | (simp [*]; omega)))
      · have e1 := i6 k9 (by omega)
        refine g_iload (i := 5) rfl d_R_cardsWith_14 ?_
        refine g_iload (i := 4) rfl d_R_cardsWith_16 ?_
        refine g_icmp_ge_i (tgt := 65) (by omega) (by decide) d_R_cardsWith_18 (by decide) (fun h => by exfalso; omega) (fun h18 => ?_)
        refine g_aload_n (n := 3) (i := 3) rfl rfl d_R_cardsWith_21 ?_
        refine g_iload (i := 5) rfl d_R_cardsWith_22 ?_
        refine g_aaloadN_i (by assumption) (by decide) (by rfl) (by omega) (by omega) (by rfl) (by assumption) d_R_cardsWith_24 ?_
        refine g_astoreN (i := 6) (by decide) rfl d_R_cardsWith_25 ?_
        refine g_aloadN (i := 6) rfl d_R_cardsWith_27 ?_
        refine g_ifnullN (tgt := 59) (by decide) d_R_cardsWith_29 ?_
        refine g_iinc_i (i := 5) rfl (by decide) rfl d_R_cardsWith_59 ?_
        refine g_goto (tgt := 14) (by decide) d_R_cardsWith_62 ?_
        exact g_cut (lv' := [(0, .ref (gad E b)), (1, .ref pp), (2, .int (iI _)), (3, .ref (gad E (b + 3))), (4, .int (iI 20)), (5, .int (iI (k9 + 1)))]) ⟨rfl, rfl, rfl, rfl, rfl, rfl, trivial⟩ (ih (k9 + 1) _ (by omega) (by omega) (by rw [sumZ_s (by omega)]; first | omega | (simp only [if_pos hc9]; omega) | (simp only [if_neg hc9]; omega) | (simp [*]; done) | (simp [*]; omega)))
  refine g_enter (by decide) rfl rfl (fun h => by first | rfl | cases h) (Nat.le_of_ble_eq_true rfl) rfl ?_
  refine g_iconst_i d_R_cardsWith_0 ?_
  refine g_istore_n (n := 2) (i := 2) rfl (by decide) rfl d_R_cardsWith_1 ?_
  refine g_aload_n (n := 0) (i := 0) rfl rfl d_R_cardsWith_2 ?_
  refine g_getfield 1 2 f_R_25 (by assumption) (by rfl) d_R_cardsWith_3 ?_
  refine g_astore_n (n := 3) (i := 3) rfl (by decide) rfl d_R_cardsWith_6 ?_
  refine g_aload_n (n := 3) (i := 3) rfl rfl d_R_cardsWith_7 ?_
  refine g_alen_i (by assumption) (by decide) d_R_cardsWith_8 ?_
  refine g_istore (i := 4) (by decide) rfl d_R_cardsWith_9 ?_
  refine g_iconst_i d_R_cardsWith_11 ?_
  refine g_istore (i := 5) (by decide) rfl d_R_cardsWith_12 ?_
  refine g_cut ?_ (loop 20 0 0 (by omega) (by omega) rfl)
  exact ⟨rfl, rfl, rfl, rfl, rfl, rfl, trivial⟩

theorem c_R_cardsSeenBy {E : gE} {w : gW} {im : gIm} {Q : gQ} {b : Nat} {R : Rz} (hz : RZ E w im b R) {pa : Int} (rg9 : 0 ≤ pa ∧ pa ≤ 3) (hQ : Q (.inl (some (.int (iI (sumZ (fun k9 => if k9 < zc R then (if 0 < cntP pa (zC R k9).2.2.2.2 then 1 else 0) else 0) 20))))) w im) : GM E 1 y_R_cardsSeenBy m_R_cardsSeenBy 0 0 [.ref (gad E b), .int (iI pa)] w im Q := by
  have hz9 := hz
  obtain ⟨rg, rp, rc, lc, ⟨hb, h0, h1, h2, h3, h4, hlc⟩, ⟨i1, i2, i3, i4, i5, i6⟩, ok⟩ := hz9
  obtain ⟨ok1, ok2, ok3, ok4, ok5, ok6, ok7, ok8, ok9⟩ := ok
  have co : g_cell E w im (gad E b) (resE E b R) := g_mut b (by omega) h0
  have cg : g_cell E w im (gad E (b + 1)) (rowE 4 12 rg) := g_mut (b + 1) (by omega) h1
  have cp : g_cell E w im (gad E (b + 2)) (rowE 5 8 rp) := g_mut (b + 2) (by omega) h2
  have cc : g_cell E w im (gad E (b + 3)) (rowE 6 20 rc) := g_mut (b + 3) (by omega) h3
  have cl : g_cell E w im (gad E (b + 4)) (intE 372 lc) := g_mut (b + 4) (by omega) h4
  have loop : ∀ (n9 : Nat) (k9 s9 : Int), 0 ≤ k9 → k9 + n9 = 20 → s9 = sumZ (fun k9 => if k9 < zc R then (if 0 < cntP pa (zC R k9).2.2.2.2 then 1 else 0) else 0) k9 → G E 1 m_R_cardsSeenBy 14 [(0, .ref (gad E b)), (1, .int (iI pa)), (2, .int (iI s9)), (3, .ref (gad E (b + 3))), (4, .int (iI 20)), (5, .int (iI k9))] [] w im 0 0 Q := by
    intro n9
    induction n9 with
    | zero =>
      intro k9 s9 h9 hk9 hs9
      have e9 : k9 = 20 := by omega
      rw [e9] at hs9
      refine g_iload (i := 5) rfl d_R_cardsSeenBy_14 ?_
      refine g_iload (i := 4) rfl d_R_cardsSeenBy_16 ?_
      refine g_icmp_ge_i (tgt := 55) (by omega) (by decide) d_R_cardsSeenBy_18 (by decide) (fun h18 => ?_) (fun h => by exfalso; omega)
      refine g_iload_n (n := 2) (i := 2) rfl rfl d_R_cardsSeenBy_55 ?_
      refine g_ireturn_i rfl d_R_cardsSeenBy_56 ?_
      exact g_qi hQ hs9
    | succ n9 ih =>
      intro k9 s9 h9 hk9 hs9
      by_cases hc9 : k9 < zc R
      · obtain ⟨a9, p9, la9, e1, e2, e3, e4⟩ := i5 k9 ⟨h9, hc9⟩
        have c1 := g_imm (E := E) (w := w) e2
        have c2 := g_imm (E := E) (w := w) e3
        obtain ⟨o1, o2, o3, o4, o5⟩ := ok8 k9 ⟨h9, hc9⟩
        have oq := ok7 (zC R k9).1 o1
        have hlen := o5.1
        have hcn := cntP_nn (pa := pa) (rs := (zC R k9).2.2.2.2)
        refine g_iload (i := 5) rfl d_R_cardsSeenBy_14 ?_
        refine g_iload (i := 4) rfl d_R_cardsSeenBy_16 ?_
        refine g_icmp_ge_i (tgt := 55) (by omega) (by decide) d_R_cardsSeenBy_18 (by decide) (fun h => by exfalso; omega) (fun h18 => ?_)
        refine g_aload_n (n := 3) (i := 3) rfl rfl d_R_cardsSeenBy_21 ?_
        refine g_iload (i := 5) rfl d_R_cardsSeenBy_22 ?_
        refine g_aaload_i (by assumption) (by decide) (by rfl) (by omega) (by omega) (by rfl) (by assumption) d_R_cardsSeenBy_24 ?_
        refine g_astore (i := 6) (by decide) rfl d_R_cardsSeenBy_25 ?_
        refine g_iload_n (n := 2) (i := 2) rfl rfl d_R_cardsSeenBy_27 ?_
        refine g_aload (i := 6) rfl d_R_cardsSeenBy_28 ?_
        refine g_ifnull d_R_cardsSeenBy_30 ?_
        refine g_aload (i := 6) rfl d_R_cardsSeenBy_33 ?_
        refine g_iload_n (n := 1) (i := 1) rfl rfl d_R_cardsSeenBy_35 ?_
        refine g_callV1 rfl rfl e_C_ridesAt l_R_185 iv_C_ridesAt 8 (by decide) rfl (by assumption) (by decide) (Nat.zero_le _) (Nat.zero_le _) (Nat.le_of_ble_eq_true rfl) d_R_cardsSeenBy_36 (c_C_ridesAt (by assumption) (by assumption) (by assumption) (by omega) ?_)
        refine g_ret ?_
        refine g_if_le_i (tgt := 46) (by omega) d_R_cardsSeenBy_39 (by decide) (fun h39 => ?_) (fun h39 => ?_)
        · refine g_iconst_i d_R_cardsSeenBy_46 ?_
          refine g_iadd_i d_R_cardsSeenBy_47 ?_
          refine g_istore_n (n := 2) (i := 2) rfl (by decide) rfl d_R_cardsSeenBy_48 ?_
          refine g_iinc_i (i := 5) rfl (by decide) rfl d_R_cardsSeenBy_49 ?_
          refine g_goto (tgt := 14) (by decide) d_R_cardsSeenBy_52 ?_
          exact g_cut (lv' := [(0, .ref (gad E b)), (1, .int (iI pa)), (2, .int (iI _)), (3, .ref (gad E (b + 3))), (4, .int (iI 20)), (5, .int (iI (k9 + 1)))]) ⟨rfl, rfl, rfl, rfl, rfl, rfl, trivial⟩ (ih (k9 + 1) _ (by omega) (by omega) (by rw [sumZ_s (by omega)]; first | omega | (simp only [if_pos hc9]; omega) | (simp only [if_neg hc9]; omega) | (simp [*]; done) | (simp [*]; omega)))
        · refine g_iconst_i d_R_cardsSeenBy_42 ?_
          refine g_goto (tgt := 47) (by decide) d_R_cardsSeenBy_43 ?_
          refine g_iadd_i d_R_cardsSeenBy_47 ?_
          refine g_istore_n (n := 2) (i := 2) rfl (by decide) rfl d_R_cardsSeenBy_48 ?_
          refine g_iinc_i (i := 5) rfl (by decide) rfl d_R_cardsSeenBy_49 ?_
          refine g_goto (tgt := 14) (by decide) d_R_cardsSeenBy_52 ?_
          exact g_cut (lv' := [(0, .ref (gad E b)), (1, .int (iI pa)), (2, .int (iI _)), (3, .ref (gad E (b + 3))), (4, .int (iI 20)), (5, .int (iI (k9 + 1)))]) ⟨rfl, rfl, rfl, rfl, rfl, rfl, trivial⟩ (ih (k9 + 1) _ (by omega) (by omega) (by rw [sumZ_s (by omega)]; first | omega | (simp only [if_pos hc9]; omega) | (simp only [if_neg hc9]; omega) | (simp [*]; done) | (simp [*]; omega)))
      · have e1 := i6 k9 (by omega)
        refine g_iload (i := 5) rfl d_R_cardsSeenBy_14 ?_
        refine g_iload (i := 4) rfl d_R_cardsSeenBy_16 ?_
        refine g_icmp_ge_i (tgt := 55) (by omega) (by decide) d_R_cardsSeenBy_18 (by decide) (fun h => by exfalso; omega) (fun h18 => ?_)
        refine g_aload_n (n := 3) (i := 3) rfl rfl d_R_cardsSeenBy_21 ?_
        refine g_iload (i := 5) rfl d_R_cardsSeenBy_22 ?_
        refine g_aaloadN_i (by assumption) (by decide) (by rfl) (by omega) (by omega) (by rfl) (by assumption) d_R_cardsSeenBy_24 ?_
        refine g_astoreN (i := 6) (by decide) rfl d_R_cardsSeenBy_25 ?_
        refine g_iload_n (n := 2) (i := 2) rfl rfl d_R_cardsSeenBy_27 ?_
        refine g_aloadN (i := 6) rfl d_R_cardsSeenBy_28 ?_
        refine g_ifnullN (tgt := 46) (by decide) d_R_cardsSeenBy_30 ?_
        refine g_iconst_i d_R_cardsSeenBy_46 ?_
        refine g_iadd_i d_R_cardsSeenBy_47 ?_
        refine g_istore_n (n := 2) (i := 2) rfl (by decide) rfl d_R_cardsSeenBy_48 ?_
        refine g_iinc_i (i := 5) rfl (by decide) rfl d_R_cardsSeenBy_49 ?_
        refine g_goto (tgt := 14) (by decide) d_R_cardsSeenBy_52 ?_
        exact g_cut (lv' := [(0, .ref (gad E b)), (1, .int (iI pa)), (2, .int (iI _)), (3, .ref (gad E (b + 3))), (4, .int (iI 20)), (5, .int (iI (k9 + 1)))]) ⟨rfl, rfl, rfl, rfl, rfl, rfl, trivial⟩ (ih (k9 + 1) _ (by omega) (by omega) (by rw [sumZ_s (by omega)]; first | omega | (simp only [if_pos hc9]; omega) | (simp only [if_neg hc9]; omega) | (simp [*]; done) | (simp [*]; omega)))
  refine g_enter (by decide) rfl rfl (fun h => by first | rfl | cases h) (Nat.le_of_ble_eq_true rfl) rfl ?_
  refine g_iconst_i d_R_cardsSeenBy_0 ?_
  refine g_istore_n (n := 2) (i := 2) rfl (by decide) rfl d_R_cardsSeenBy_1 ?_
  refine g_aload_n (n := 0) (i := 0) rfl rfl d_R_cardsSeenBy_2 ?_
  refine g_getfield 1 2 f_R_25 (by assumption) (by rfl) d_R_cardsSeenBy_3 ?_
  refine g_astore_n (n := 3) (i := 3) rfl (by decide) rfl d_R_cardsSeenBy_6 ?_
  refine g_aload_n (n := 3) (i := 3) rfl rfl d_R_cardsSeenBy_7 ?_
  refine g_alen_i (by assumption) (by decide) d_R_cardsSeenBy_8 ?_
  refine g_istore (i := 4) (by decide) rfl d_R_cardsSeenBy_9 ?_
  refine g_iconst_i d_R_cardsSeenBy_11 ?_
  refine g_istore (i := 5) (by decide) rfl d_R_cardsSeenBy_12 ?_
  refine g_cut ?_ (loop 20 0 0 (by omega) (by omega) rfl)
  exact ⟨rfl, rfl, rfl, rfl, rfl, rfl, trivial⟩

theorem c_R_allIdle {E : gE} {w : gW} {im : gIm} {Q : gQ} {b : Nat} {R : Rz} (hz : RZ E w im b R) (hQ : Q (.inl (some (.int (iI (sumZ (fun k9 => if k9 < zc R then (if 0 < ((zC R k9).2.2.2.2.length : Int) then 0 else (if (zC R k9).2.1 = 2 then 0 else (zP R (zC R k9).1).2.2.2.2.2) - (zC R k9).2.2.2.1) else 0) 20))))) w im) : GM E 1 y_R_allIdle m_R_allIdle 0 0 [.ref (gad E b)] w im Q := by
  have hz9 := hz
  obtain ⟨rg, rp, rc, lc, ⟨hb, h0, h1, h2, h3, h4, hlc⟩, ⟨i1, i2, i3, i4, i5, i6⟩, ok⟩ := hz9
  obtain ⟨ok1, ok2, ok3, ok4, ok5, ok6, ok7, ok8, ok9⟩ := ok
  have co : g_cell E w im (gad E b) (resE E b R) := g_mut b (by omega) h0
  have cg : g_cell E w im (gad E (b + 1)) (rowE 4 12 rg) := g_mut (b + 1) (by omega) h1
  have cp : g_cell E w im (gad E (b + 2)) (rowE 5 8 rp) := g_mut (b + 2) (by omega) h2
  have cc : g_cell E w im (gad E (b + 3)) (rowE 6 20 rc) := g_mut (b + 3) (by omega) h3
  have cl : g_cell E w im (gad E (b + 4)) (intE 372 lc) := g_mut (b + 4) (by omega) h4
  have loop : ∀ (n9 : Nat) (k9 s9 : Int), 0 ≤ k9 → k9 + n9 = 20 → s9 = sumZ (fun k9 => if k9 < zc R then (if 0 < ((zC R k9).2.2.2.2.length : Int) then 0 else (if (zC R k9).2.1 = 2 then 0 else (zP R (zC R k9).1).2.2.2.2.2) - (zC R k9).2.2.2.1) else 0) k9 → G E 1 m_R_allIdle 13 [(0, .ref (gad E b)), (1, .int (iI s9)), (2, .ref (gad E (b + 3))), (3, .int (iI 20)), (4, .int (iI k9))] [] w im 0 0 Q := by
    intro n9
    induction n9 with
    | zero =>
      intro k9 s9 h9 hk9 hs9
      have e9 : k9 = 20 := by omega
      rw [e9] at hs9
      refine g_iload (i := 4) rfl d_R_allIdle_13 ?_
      refine g_iload_n (n := 3) (i := 3) rfl rfl d_R_allIdle_15 ?_
      refine g_icmp_ge_i (tgt := 62) (by omega) (by decide) d_R_allIdle_16 (by decide) (fun h16 => ?_) (fun h => by exfalso; omega)
      refine g_iload_n (n := 1) (i := 1) rfl rfl d_R_allIdle_62 ?_
      refine g_ireturn_i rfl d_R_allIdle_63 ?_
      exact g_qi hQ hs9
    | succ n9 ih =>
      intro k9 s9 h9 hk9 hs9
      by_cases hc9 : k9 < zc R
      · obtain ⟨a9, p9, la9, e1, e2, e3, e4⟩ := i5 k9 ⟨h9, hc9⟩
        have c1 := g_imm (E := E) (w := w) e2
        have c2 := g_imm (E := E) (w := w) e3
        obtain ⟨o1, o2, o3, o4, o5⟩ := ok8 k9 ⟨h9, hc9⟩
        have oq := ok7 (zC R k9).1 o1
        have hlen := o5.1
        refine g_iload (i := 4) rfl d_R_allIdle_13 ?_
        refine g_iload_n (n := 3) (i := 3) rfl rfl d_R_allIdle_15 ?_
        refine g_icmp_ge_i (tgt := 62) (by omega) (by decide) d_R_allIdle_16 (by decide) (fun h => by exfalso; omega) (fun h16 => ?_)
        refine g_aload_n (n := 2) (i := 2) rfl rfl d_R_allIdle_19 ?_
        refine g_iload (i := 4) rfl d_R_allIdle_20 ?_
        refine g_aaload_i (by assumption) (by decide) (by rfl) (by omega) (by omega) (by rfl) (by assumption) d_R_allIdle_22 ?_
        refine g_astore (i := 5) (by decide) rfl d_R_allIdle_23 ?_
        refine g_iload_n (n := 1) (i := 1) rfl rfl d_R_allIdle_25 ?_
        refine g_aload (i := 5) rfl d_R_allIdle_26 ?_
        refine g_ifnull d_R_allIdle_28 ?_
        refine g_aload (i := 5) rfl d_R_allIdle_31 ?_
        refine g_callV0 rfl rfl e_C_rideCount l_R_189 iv_C_rideCount 8 (by decide) rfl (by assumption) (by decide) (Nat.zero_le _) (Nat.zero_le _) (Nat.le_of_ble_eq_true rfl) d_R_allIdle_33 (c_C_rideCount (by assumption) (by assumption) (by assumption) ?_)
        refine g_ret ?_
        refine g_if_le_i (tgt := 43) (by omega) d_R_allIdle_36 (by decide) (fun h36 => ?_) (fun h36 => ?_)
        · refine g_aload (i := 5) rfl d_R_allIdle_43 ?_
          refine g_callV0 rfl rfl e_C_price l_R_216 iv_C_price 8 (by decide) rfl (by assumption) (by decide) (Nat.zero_le _) (Nat.zero_le _) (Nat.le_of_ble_eq_true rfl) d_R_allIdle_45 (c_C_price (by assumption) (by assumption) (by omega) ?_)
          refine g_ret ?_
          refine g_aload (i := 5) rfl d_R_allIdle_48 ?_
          refine g_getfield 8 4 f_R_219 (by assumption) (by rfl) d_R_allIdle_50 ?_
          refine g_isub_i d_R_allIdle_53 ?_
          refine g_iadd_i d_R_allIdle_54 ?_
          refine g_istore_n (n := 1) (i := 1) rfl (by decide) rfl d_R_allIdle_55 ?_
          refine g_iinc_i (i := 4) rfl (by decide) rfl d_R_allIdle_56 ?_
          refine g_goto (tgt := 13) (by decide) d_R_allIdle_59 ?_
          exact g_cut (lv' := [(0, .ref (gad E b)), (1, .int (iI _)), (2, .ref (gad E (b + 3))), (3, .int (iI 20)), (4, .int (iI (k9 + 1)))]) ⟨rfl, rfl, rfl, rfl, rfl, trivial⟩ (ih (k9 + 1) _ (by omega) (by omega) (by rw [sumZ_s (by omega)]; first | omega | (simp only [if_pos hc9]; omega) | (simp only [if_neg hc9]; omega) | (rw [if_pos hc9, if_pos (by omega)]) | (rw [if_pos hc9, if_neg (by omega)]) ))
        · refine g_iconst_i d_R_allIdle_39 ?_
          refine g_goto (tgt := 54) (by decide) d_R_allIdle_40 ?_
          refine g_iadd_i d_R_allIdle_54 ?_
          refine g_istore_n (n := 1) (i := 1) rfl (by decide) rfl d_R_allIdle_55 ?_
          refine g_iinc_i (i := 4) rfl (by decide) rfl d_R_allIdle_56 ?_
          refine g_goto (tgt := 13) (by decide) d_R_allIdle_59 ?_
          exact g_cut (lv' := [(0, .ref (gad E b)), (1, .int (iI _)), (2, .ref (gad E (b + 3))), (3, .int (iI 20)), (4, .int (iI (k9 + 1)))]) ⟨rfl, rfl, rfl, rfl, rfl, trivial⟩ (ih (k9 + 1) _ (by omega) (by omega) (by rw [sumZ_s (by omega)]; first | omega | (simp only [if_pos hc9]; omega) | (simp only [if_neg hc9]; omega) | (rw [if_pos hc9, if_pos (by omega)]) | (rw [if_pos hc9, if_neg (by omega)]) ))
      · have e1 := i6 k9 (by omega)
        refine g_iload (i := 4) rfl d_R_allIdle_13 ?_
        refine g_iload_n (n := 3) (i := 3) rfl rfl d_R_allIdle_15 ?_
        refine g_icmp_ge_i (tgt := 62) (by omega) (by decide) d_R_allIdle_16 (by decide) (fun h => by exfalso; omega) (fun h16 => ?_)
        refine g_aload_n (n := 2) (i := 2) rfl rfl d_R_allIdle_19 ?_
        refine g_iload (i := 4) rfl d_R_allIdle_20 ?_
        refine g_aaloadN_i (by assumption) (by decide) (by rfl) (by omega) (by omega) (by rfl) (by assumption) d_R_allIdle_22 ?_
        refine g_astoreN (i := 5) (by decide) rfl d_R_allIdle_23 ?_
        refine g_iload_n (n := 1) (i := 1) rfl rfl d_R_allIdle_25 ?_
        refine g_aloadN (i := 5) rfl d_R_allIdle_26 ?_
        refine g_ifnullN (tgt := 39) (by decide) d_R_allIdle_28 ?_
        refine g_iconst_i d_R_allIdle_39 ?_
        refine g_goto (tgt := 54) (by decide) d_R_allIdle_40 ?_
        refine g_iadd_i d_R_allIdle_54 ?_
        refine g_istore_n (n := 1) (i := 1) rfl (by decide) rfl d_R_allIdle_55 ?_
        refine g_iinc_i (i := 4) rfl (by decide) rfl d_R_allIdle_56 ?_
        refine g_goto (tgt := 13) (by decide) d_R_allIdle_59 ?_
        exact g_cut (lv' := [(0, .ref (gad E b)), (1, .int (iI _)), (2, .ref (gad E (b + 3))), (3, .int (iI 20)), (4, .int (iI (k9 + 1)))]) ⟨rfl, rfl, rfl, rfl, rfl, trivial⟩ (ih (k9 + 1) _ (by omega) (by omega) (by rw [sumZ_s (by omega)]; first | omega | (simp only [if_pos hc9]; omega) | (simp only [if_neg hc9]; omega) | (rw [if_pos hc9, if_pos (by omega)]) | (rw [if_pos hc9, if_neg (by omega)]) ))
  refine g_enter (by decide) rfl rfl (fun h => by first | rfl | cases h) (Nat.le_of_ble_eq_true rfl) rfl ?_
  refine g_iconst_i d_R_allIdle_0 ?_
  refine g_istore_n (n := 1) (i := 1) rfl (by decide) rfl d_R_allIdle_1 ?_
  refine g_aload_n (n := 0) (i := 0) rfl rfl d_R_allIdle_2 ?_
  refine g_getfield 1 2 f_R_25 (by assumption) (by rfl) d_R_allIdle_3 ?_
  refine g_astore_n (n := 2) (i := 2) rfl (by decide) rfl d_R_allIdle_6 ?_
  refine g_aload_n (n := 2) (i := 2) rfl rfl d_R_allIdle_7 ?_
  refine g_alen_i (by assumption) (by decide) d_R_allIdle_8 ?_
  refine g_istore_n (n := 3) (i := 3) rfl (by decide) rfl d_R_allIdle_9 ?_
  refine g_iconst_i d_R_allIdle_10 ?_
  refine g_istore (i := 4) (by decide) rfl d_R_allIdle_11 ?_
  refine g_cut ?_ (loop 20 0 0 (by omega) (by omega) rfl)
  exact ⟨rfl, rfl, rfl, rfl, rfl, trivial⟩

theorem c_R_ridesThroughAllGates {E : gE} {w : gW} {im : gIm} {Q : gQ} {b : Nat} {R : Rz} (hz : RZ E w im b R) (hQ : Q (.inl (some (.int (iI (sumZ (fun k9 => if k9 < zg R then sumZ (fun k9_1 => if k9_1 < zc R then cntG k9 (zC R k9_1).2.2.2.2 else 0) 20 else 0) 12))))) w im) : GM E 2 y_R_ridesThroughAllGates m_R_ridesThroughAllGates 0 0 [.ref (gad E b)] w im Q := by
  have hz9 := hz
  obtain ⟨rg, rp, rc, lc, ⟨hb, h0, h1, h2, h3, h4, hlc⟩, ⟨i1, i2, i3, i4, i5, i6⟩, ok⟩ := hz9
  obtain ⟨ok1, ok2, ok3, ok4, ok5, ok6, ok7, ok8, ok9⟩ := ok
  have co : g_cell E w im (gad E b) (resE E b R) := g_mut b (by omega) h0
  have cg : g_cell E w im (gad E (b + 1)) (rowE 4 12 rg) := g_mut (b + 1) (by omega) h1
  have cp : g_cell E w im (gad E (b + 2)) (rowE 5 8 rp) := g_mut (b + 2) (by omega) h2
  have cc : g_cell E w im (gad E (b + 3)) (rowE 6 20 rc) := g_mut (b + 3) (by omega) h3
  have cl : g_cell E w im (gad E (b + 4)) (intE 372 lc) := g_mut (b + 4) (by omega) h4
  have loop : ∀ (n9 : Nat) (k9 s9 : Int), 0 ≤ k9 → k9 + n9 = 12 → s9 = sumZ (fun k9 => if k9 < zg R then sumZ (fun k9_1 => if k9_1 < zc R then cntG k9 (zC R k9_1).2.2.2.2 else 0) 20 else 0) k9 → G E 2 m_R_ridesThroughAllGates 13 [(0, .ref (gad E b)), (1, .int (iI s9)), (2, .ref (gad E (b + 1))), (3, .int (iI 12)), (4, .int (iI k9))] [] w im 0 0 Q := by
    intro n9
    induction n9 with
    | zero =>
      intro k9 s9 h9 hk9 hs9
      have e9 : k9 = 12 := by omega
      rw [e9] at hs9
      refine g_iload (i := 4) rfl d_R_ridesThroughAllGates_13 ?_
      refine g_iload_n (n := 3) (i := 3) rfl rfl d_R_ridesThroughAllGates_15 ?_
      refine g_icmp_ge_i (tgt := 49) (by omega) (by decide) d_R_ridesThroughAllGates_16 (by decide) (fun h16 => ?_) (fun h => by exfalso; omega)
      refine g_iload_n (n := 1) (i := 1) rfl rfl d_R_ridesThroughAllGates_49 ?_
      refine g_ireturn_i rfl d_R_ridesThroughAllGates_50 ?_
      exact g_qi hQ hs9
    | succ n9 ih =>
      intro k9 s9 h9 hk9 hs9
      by_cases hc9 : k9 < zg R
      · obtain ⟨a9, e1, e2⟩ := i1 k9 ⟨h9, hc9⟩
        have c1 := g_imm (E := E) (w := w) e2
        obtain ⟨o1, o2⟩ := ok6 k9 ⟨h9, hc9⟩
        refine g_iload (i := 4) rfl d_R_ridesThroughAllGates_13 ?_
        refine g_iload_n (n := 3) (i := 3) rfl rfl d_R_ridesThroughAllGates_15 ?_
        refine g_icmp_ge_i (tgt := 49) (by omega) (by decide) d_R_ridesThroughAllGates_16 (by decide) (fun h => by exfalso; omega) (fun h16 => ?_)
        refine g_aload_n (n := 2) (i := 2) rfl rfl d_R_ridesThroughAllGates_19 ?_
        refine g_iload (i := 4) rfl d_R_ridesThroughAllGates_20 ?_
        refine g_aaload_i (by assumption) (by decide) (by rfl) (by omega) (by omega) (by rfl) (by assumption) d_R_ridesThroughAllGates_22 ?_
        refine g_astore (i := 5) (by decide) rfl d_R_ridesThroughAllGates_23 ?_
        refine g_iload_n (n := 1) (i := 1) rfl rfl d_R_ridesThroughAllGates_25 ?_
        refine g_aload (i := 5) rfl d_R_ridesThroughAllGates_26 ?_
        refine g_ifnonnull (tgt := 35) (by decide) d_R_ridesThroughAllGates_28 ?_
        refine g_aload_n (n := 0) (i := 0) rfl rfl d_R_ridesThroughAllGates_35 ?_
        refine g_aload (i := 5) rfl d_R_ridesThroughAllGates_36 ?_
        refine g_callV1 rfl rfl e_R_ridesThrough l_R_195 iv_R_ridesThrough 1 (by decide) rfl (by assumption) (by decide) (Nat.zero_le _) (Nat.zero_le _) (Nat.le_of_ble_eq_true rfl) d_R_ridesThroughAllGates_38 (c_R_ridesThrough (by assumption) (by assumption) (by omega) ?_)
        refine g_ret ?_
        refine g_iadd_i d_R_ridesThroughAllGates_41 ?_
        refine g_istore_n (n := 1) (i := 1) rfl (by decide) rfl d_R_ridesThroughAllGates_42 ?_
        refine g_iinc_i (i := 4) rfl (by decide) rfl d_R_ridesThroughAllGates_43 ?_
        refine g_goto (tgt := 13) (by decide) d_R_ridesThroughAllGates_46 ?_
        exact g_cut (lv' := [(0, .ref (gad E b)), (1, .int (iI _)), (2, .ref (gad E (b + 1))), (3, .int (iI 12)), (4, .int (iI (k9 + 1)))]) ⟨rfl, rfl, rfl, rfl, rfl, trivial⟩ (ih (k9 + 1) _ (by omega) (by omega) (by rw [sumZ_s (by omega)]; first | omega | (simp only [if_pos hc9]; omega) | (simp only [if_neg hc9]; omega) | (simp [*]; done) | (simp [*]; omega)))
      · have e1 := i2 k9 (by omega)
        refine g_iload (i := 4) rfl d_R_ridesThroughAllGates_13 ?_
        refine g_iload_n (n := 3) (i := 3) rfl rfl d_R_ridesThroughAllGates_15 ?_
        refine g_icmp_ge_i (tgt := 49) (by omega) (by decide) d_R_ridesThroughAllGates_16 (by decide) (fun h => by exfalso; omega) (fun h16 => ?_)
        refine g_aload_n (n := 2) (i := 2) rfl rfl d_R_ridesThroughAllGates_19 ?_
        refine g_iload (i := 4) rfl d_R_ridesThroughAllGates_20 ?_
        refine g_aaloadN_i (by assumption) (by decide) (by rfl) (by omega) (by omega) (by rfl) (by assumption) d_R_ridesThroughAllGates_22 ?_
        refine g_astoreN (i := 5) (by decide) rfl d_R_ridesThroughAllGates_23 ?_
        refine g_iload_n (n := 1) (i := 1) rfl rfl d_R_ridesThroughAllGates_25 ?_
        refine g_aloadN (i := 5) rfl d_R_ridesThroughAllGates_26 ?_
        refine g_ifnonnullN d_R_ridesThroughAllGates_28 ?_
        refine g_iconst_i d_R_ridesThroughAllGates_31 ?_
        refine g_goto (tgt := 41) (by decide) d_R_ridesThroughAllGates_32 ?_
        refine g_iadd_i d_R_ridesThroughAllGates_41 ?_
        refine g_istore_n (n := 1) (i := 1) rfl (by decide) rfl d_R_ridesThroughAllGates_42 ?_
        refine g_iinc_i (i := 4) rfl (by decide) rfl d_R_ridesThroughAllGates_43 ?_
        refine g_goto (tgt := 13) (by decide) d_R_ridesThroughAllGates_46 ?_
        exact g_cut (lv' := [(0, .ref (gad E b)), (1, .int (iI _)), (2, .ref (gad E (b + 1))), (3, .int (iI 12)), (4, .int (iI (k9 + 1)))]) ⟨rfl, rfl, rfl, rfl, rfl, trivial⟩ (ih (k9 + 1) _ (by omega) (by omega) (by rw [sumZ_s (by omega)]; first | omega | (simp only [if_pos hc9]; omega) | (simp only [if_neg hc9]; omega) | (simp [*]; done) | (simp [*]; omega)))
  refine g_enter (by decide) rfl rfl (fun h => by first | rfl | cases h) (Nat.le_of_ble_eq_true rfl) rfl ?_
  refine g_iconst_i d_R_ridesThroughAllGates_0 ?_
  refine g_istore_n (n := 1) (i := 1) rfl (by decide) rfl d_R_ridesThroughAllGates_1 ?_
  refine g_aload_n (n := 0) (i := 0) rfl rfl d_R_ridesThroughAllGates_2 ?_
  refine g_getfield 1 0 f_R_11 (by assumption) (by rfl) d_R_ridesThroughAllGates_3 ?_
  refine g_astore_n (n := 2) (i := 2) rfl (by decide) rfl d_R_ridesThroughAllGates_6 ?_
  refine g_aload_n (n := 2) (i := 2) rfl rfl d_R_ridesThroughAllGates_7 ?_
  refine g_alen_i (by assumption) (by decide) d_R_ridesThroughAllGates_8 ?_
  refine g_istore_n (n := 3) (i := 3) rfl (by decide) rfl d_R_ridesThroughAllGates_9 ?_
  refine g_iconst_i d_R_ridesThroughAllGates_10 ?_
  refine g_istore (i := 4) (by decide) rfl d_R_ridesThroughAllGates_11 ?_
  refine g_cut ?_ (loop 12 0 0 (by omega) (by omega) rfl)
  exact ⟨rfl, rfl, rfl, rfl, rfl, trivial⟩

theorem c_R_isClosedFor {E : gE} {w : gW} {im : gIm} {Q : gQ} {b : Nat} {R : Rz} (hz : RZ E w im b R) {pp : Nat} {pn : Int} {q9 : Pt9} (hp : im pp = some (prodAt pn q9)) (rq : okP q9) {dy : Int} (rd : 0 ≤ dy ∧ dy ≤ 30) (hQ1 : (closedB R q9.2.2.2.2.1 dy = true) → Q (.inl (some (.int (iI 1)))) w im) (hQ2 : ¬ (closedB R q9.2.2.2.2.1 dy = true) → Q (.inl (some (.int (iI 0)))) w im) : GM E 1 y_R_isClosedFor m_R_isClosedFor 0 0 [.ref (gad E b), .ref pp, .int (iI dy)] w im Q := by
  have hz9 := hz
  obtain ⟨rg, rp, rc, lc, ⟨hb, h0, h1, h2, h3, h4, hlc⟩, ⟨i1, i2, i3, i4, i5, i6⟩, ok⟩ := hz9
  obtain ⟨ok1, ok2, ok3, ok4, ok5, ok6, ok7, ok8, ok9⟩ := ok
  have co : g_cell E w im (gad E b) (resE E b R) := g_mut b (by omega) h0
  have cg : g_cell E w im (gad E (b + 1)) (rowE 4 12 rg) := g_mut (b + 1) (by omega) h1
  have cp : g_cell E w im (gad E (b + 2)) (rowE 5 8 rp) := g_mut (b + 2) (by omega) h2
  have cc : g_cell E w im (gad E (b + 3)) (rowE 6 20 rc) := g_mut (b + 3) (by omega) h3
  have cl : g_cell E w im (gad E (b + 4)) (intE 372 lc) := g_mut (b + 4) (by omega) h4
  have cpr := g_imm (E := E) (w := w) hp
  have hl9 : ∀ (g9 d9 : Int), 0 ≤ g9 ∧ g9 < 12 → 0 ≤ d9 ∧ d9 ≤ 30 → 0 ≤ zL R (g9 * 31 + d9) ∧ zL R (g9 * 31 + d9) ≤ 1000000 := fun g9 d9 h1 h2 => by have h5 := ok9 (g9 * 31 + d9) (by omega); have h6 := cbZ_le (f := 0) (t := zk R) (d := (g9 * 31 + d9) % 31); omega
  have hb1 := sumZ_le (f := fun k9 => if k9 < zg R then (if tb q9.2.2.2.2.1 (zG R k9).1 then 1 else 0) else 0) (c := 1) (n := 12) (by omega) (fun k9 _ _ => by (repeat' split) <;> omega)
  have hb2 := sumZ_le (f := fun k9 => if k9 < zg R then (if tb q9.2.2.2.2.1 (zG R k9).1 then zL R (k9 * 31 + dy) else 0) else 0) (c := 1000000) (n := 12) (by omega) (fun k9 ha hb => by have := hl9 k9 dy ⟨ha, hb⟩ (by omega); (repeat' split) <;> omega)
  have hcb : (0 < cntGates R q9.2.2.2.2.1 ∧ 480 * cntGates R q9.2.2.2.2.1 ≤ 2 * minGates R q9.2.2.2.2.1 dy) ↔ closedB R q9.2.2.2.2.1 dy = true := by simp [closedB]
  have loop : ∀ (n9 : Nat) (k9 s9 t9 : Int), 0 ≤ k9 → k9 + n9 = 12 → s9 = sumZ (fun k9 => if k9 < zg R then (if tb q9.2.2.2.2.1 (zG R k9).1 then 1 else 0) else 0) k9 → t9 = sumZ (fun k9 => if k9 < zg R then (if tb q9.2.2.2.2.1 (zG R k9).1 then zL R (k9 * 31 + dy) else 0) else 0) k9 → G E 1 m_R_isClosedFor 19 [(0, .ref (gad E b)), (1, .ref pp), (2, .int (iI dy)), (3, .int (iI s9)), (4, .int (iI t9)), (5, .ref (gad E (b + 1))), (6, .int (iI 12)), (7, .int (iI k9))] [] w im 0 0 Q := by
    intro n9
    induction n9 with
    | zero =>
      intro k9 s9 t9 h9 hk9 hs9 ht9
      have e9 : k9 = 12 := by omega
      rw [e9] at hs9 ht9
      rw [← hs9] at hb1
      rw [← ht9] at hb2
      rw [show cntGates R q9.2.2.2.2.1 = s9 from hs9.symm, show minGates R q9.2.2.2.2.1 dy = t9 from ht9.symm] at hcb
      refine g_iload (i := 7) rfl d_R_isClosedFor_19 ?_
      refine g_iload (i := 6) rfl d_R_isClosedFor_21 ?_
      refine g_icmp_ge_i (tgt := 71) (by omega) (by decide) d_R_isClosedFor_23 (by decide) (fun h23 => ?_) (fun h => by exfalso; omega)
      refine g_iload_n (n := 3) (i := 3) rfl rfl d_R_isClosedFor_71 ?_
      refine g_if_le_i (tgt := 91) (by omega) d_R_isClosedFor_72 (by decide) (fun h72 => ?_) (fun h72 => ?_)
      · refine g_iconst_i d_R_isClosedFor_91 ?_
        refine g_ireturn_0 rfl d_R_isClosedFor_92 ?_
        first | exact hQ1 (hcb.1 (by omega)) | exact hQ2 (fun h9 => by have := hcb.2 h9; omega)
      · refine g_iconst_i d_R_isClosedFor_75 ?_
        refine g_iload (i := 4) rfl d_R_isClosedFor_76 ?_
        refine g_imul_i d_R_isClosedFor_78 ?_
        refine g_sipush_i (by decide) d_R_isClosedFor_79 ?_
        refine g_iload_n (n := 3) (i := 3) rfl rfl d_R_isClosedFor_82 ?_
        refine g_imul_i d_R_isClosedFor_83 ?_
        refine g_icmp_lt_i (tgt := 91) (by omega) (by omega) d_R_isClosedFor_84 (by decide) (fun h84 => ?_) (fun h84 => ?_)
        · refine g_iconst_i d_R_isClosedFor_91 ?_
          refine g_ireturn_0 rfl d_R_isClosedFor_92 ?_
          first | exact hQ1 (hcb.1 (by omega)) | exact hQ2 (fun h9 => by have := hcb.2 h9; omega)
        · refine g_iconst_i d_R_isClosedFor_87 ?_
          refine g_goto (tgt := 92) (by decide) d_R_isClosedFor_88 ?_
          refine g_ireturn_1 rfl d_R_isClosedFor_92 ?_
          first | exact hQ1 (hcb.1 (by omega)) | exact hQ2 (fun h9 => by have := hcb.2 h9; omega)
    | succ n9 ih =>
      intro k9 s9 t9 h9 hk9 hs9 ht9
      by_cases hc9 : k9 < zg R
      · obtain ⟨a9, e1, e2⟩ := i1 k9 ⟨h9, hc9⟩
        have c1 := g_imm (E := E) (w := w) e2
        obtain ⟨o1, o2⟩ := ok6 k9 ⟨h9, hc9⟩
        refine g_iload (i := 7) rfl d_R_isClosedFor_19 ?_
        refine g_iload (i := 6) rfl d_R_isClosedFor_21 ?_
        refine g_icmp_ge_i (tgt := 71) (by omega) (by decide) d_R_isClosedFor_23 (by decide) (fun h => by exfalso; omega) (fun h23 => ?_)
        refine g_aload (i := 5) rfl d_R_isClosedFor_26 ?_
        refine g_iload (i := 7) rfl d_R_isClosedFor_28 ?_
        refine g_aaload_i (by assumption) (by decide) (by rfl) (by omega) (by omega) (by rfl) (by assumption) d_R_isClosedFor_30 ?_
        refine g_astore (i := 8) (by decide) rfl d_R_isClosedFor_31 ?_
        refine g_aload (i := 8) rfl d_R_isClosedFor_33 ?_
        refine g_ifnull d_R_isClosedFor_35 ?_
        refine g_aload_n (n := 1) (i := 1) rfl rfl d_R_isClosedFor_38 ?_
        refine g_aload (i := 8) rfl d_R_isClosedFor_39 ?_
        refine g_getfield 5 1 f_R_143 (by assumption) (by rfl) d_R_isClosedFor_41 ?_
        refine g_callV1 rfl rfl e_P_isFor l_R_146 iv_P_isFor 6 (by decide) rfl (by assumption) (by decide) (Nat.zero_le _) (Nat.zero_le _) (Nat.le_of_ble_eq_true rfl) d_R_isClosedFor_44 (c_P_isFor (by assumption) (by omega) (fun hB => ?_) (fun hB => ?_))
        · refine g_ret ?_
          refine g_if_eq_i (tgt := 65) (by decide) d_R_isClosedFor_47 (by decide) (fun h => absurd h (by decide)) (fun h47 => ?_)
          refine g_iinc_i (i := 3) rfl (by decide) rfl d_R_isClosedFor_50 ?_
          refine g_iload (i := 4) rfl d_R_isClosedFor_53 ?_
          refine g_aload_n (n := 0) (i := 0) rfl rfl d_R_isClosedFor_55 ?_
          refine g_aload (i := 8) rfl d_R_isClosedFor_56 ?_
          refine g_iload_n (n := 2) (i := 2) rfl rfl d_R_isClosedFor_58 ?_
          refine g_callV2 rfl rfl e_R_closedOn l_R_139 iv_R_closedOn 1 (by decide) rfl (by assumption) (by decide) (Nat.zero_le _) (Nat.zero_le _) (Nat.le_of_ble_eq_true rfl) d_R_isClosedFor_59 (c_R_closedOn (by assumption) (by assumption) (by omega) (by omega) ?_)
          refine g_ret ?_
          refine g_iadd_i d_R_isClosedFor_62 ?_
          refine g_istore (i := 4) (by decide) rfl d_R_isClosedFor_63 ?_
          refine g_iinc_i (i := 7) rfl (by decide) rfl d_R_isClosedFor_65 ?_
          refine g_goto (tgt := 19) (by decide) d_R_isClosedFor_68 ?_
          exact g_cut (lv' := [(0, .ref (gad E b)), (1, .ref pp), (2, .int (iI dy)), (3, .int (iI _)), (4, .int (iI _)), (5, .ref (gad E (b + 1))), (6, .int (iI 12)), (7, .int (iI (k9 + 1)))]) ⟨rfl, rfl, rfl, rfl, rfl, rfl, rfl, rfl, trivial⟩ (ih (k9 + 1) _ _ (by omega) (by omega) (by rw [sumZ_s (by omega)]; first | (simp only [if_neg hc9]; omega) | (simp only [if_pos hc9]; rw [if_pos (by assumption)]; omega) | (simp only [if_pos hc9]; rw [if_neg (by assumption)]; omega)) (by rw [sumZ_s (by omega)]; first | (simp only [if_neg hc9]; omega) | (simp only [if_pos hc9]; rw [if_pos (by assumption)]; omega) | (simp only [if_pos hc9]; rw [if_neg (by assumption)]; omega)))
        · refine g_ret ?_
          refine g_if_eq_i (tgt := 65) (by decide) d_R_isClosedFor_47 (by decide) (fun h47 => ?_) (fun h => absurd h (by decide))
          refine g_iinc_i (i := 7) rfl (by decide) rfl d_R_isClosedFor_65 ?_
          refine g_goto (tgt := 19) (by decide) d_R_isClosedFor_68 ?_
          exact g_cut (lv' := [(0, .ref (gad E b)), (1, .ref pp), (2, .int (iI dy)), (3, .int (iI _)), (4, .int (iI _)), (5, .ref (gad E (b + 1))), (6, .int (iI 12)), (7, .int (iI (k9 + 1)))]) ⟨rfl, rfl, rfl, rfl, rfl, rfl, rfl, rfl, trivial⟩ (ih (k9 + 1) _ _ (by omega) (by omega) (by rw [sumZ_s (by omega)]; first | (simp only [if_neg hc9]; omega) | (simp only [if_pos hc9]; rw [if_pos (by assumption)]; omega) | (simp only [if_pos hc9]; rw [if_neg (by assumption)]; omega)) (by rw [sumZ_s (by omega)]; first | (simp only [if_neg hc9]; omega) | (simp only [if_pos hc9]; rw [if_pos (by assumption)]; omega) | (simp only [if_pos hc9]; rw [if_neg (by assumption)]; omega)))
      · have e1 := i2 k9 (by omega)
        refine g_iload (i := 7) rfl d_R_isClosedFor_19 ?_
        refine g_iload (i := 6) rfl d_R_isClosedFor_21 ?_
        refine g_icmp_ge_i (tgt := 71) (by omega) (by decide) d_R_isClosedFor_23 (by decide) (fun h => by exfalso; omega) (fun h23 => ?_)
        refine g_aload (i := 5) rfl d_R_isClosedFor_26 ?_
        refine g_iload (i := 7) rfl d_R_isClosedFor_28 ?_
        refine g_aaloadN_i (by assumption) (by decide) (by rfl) (by omega) (by omega) (by rfl) (by assumption) d_R_isClosedFor_30 ?_
        refine g_astoreN (i := 8) (by decide) rfl d_R_isClosedFor_31 ?_
        refine g_aloadN (i := 8) rfl d_R_isClosedFor_33 ?_
        refine g_ifnullN (tgt := 65) (by decide) d_R_isClosedFor_35 ?_
        refine g_iinc_i (i := 7) rfl (by decide) rfl d_R_isClosedFor_65 ?_
        refine g_goto (tgt := 19) (by decide) d_R_isClosedFor_68 ?_
        exact g_cut (lv' := [(0, .ref (gad E b)), (1, .ref pp), (2, .int (iI dy)), (3, .int (iI _)), (4, .int (iI _)), (5, .ref (gad E (b + 1))), (6, .int (iI 12)), (7, .int (iI (k9 + 1)))]) ⟨rfl, rfl, rfl, rfl, rfl, rfl, rfl, rfl, trivial⟩ (ih (k9 + 1) _ _ (by omega) (by omega) (by rw [sumZ_s (by omega)]; first | (simp only [if_neg hc9]; omega) | (simp only [if_pos hc9]; rw [if_pos (by assumption)]; omega) | (simp only [if_pos hc9]; rw [if_neg (by assumption)]; omega)) (by rw [sumZ_s (by omega)]; first | (simp only [if_neg hc9]; omega) | (simp only [if_pos hc9]; rw [if_pos (by assumption)]; omega) | (simp only [if_pos hc9]; rw [if_neg (by assumption)]; omega)))
  refine g_enter (by decide) rfl rfl (fun h => by first | rfl | cases h) (Nat.le_of_ble_eq_true rfl) rfl ?_
  refine g_iconst_i d_R_isClosedFor_0 ?_
  refine g_istore_n (n := 3) (i := 3) rfl (by decide) rfl d_R_isClosedFor_1 ?_
  refine g_iconst_i d_R_isClosedFor_2 ?_
  refine g_istore (i := 4) (by decide) rfl d_R_isClosedFor_3 ?_
  refine g_aload_n (n := 0) (i := 0) rfl rfl d_R_isClosedFor_5 ?_
  refine g_getfield 1 0 f_R_11 (by assumption) (by rfl) d_R_isClosedFor_6 ?_
  refine g_astore (i := 5) (by decide) rfl d_R_isClosedFor_9 ?_
  refine g_aload (i := 5) rfl d_R_isClosedFor_11 ?_
  refine g_alen_i (by assumption) (by decide) d_R_isClosedFor_13 ?_
  refine g_istore (i := 6) (by decide) rfl d_R_isClosedFor_14 ?_
  refine g_iconst_i d_R_isClosedFor_16 ?_
  refine g_istore (i := 7) (by decide) rfl d_R_isClosedFor_17 ?_
  refine g_cut ?_ (loop 12 0 0 0 (by omega) (by omega) rfl rfl)
  exact ⟨rfl, rfl, rfl, rfl, rfl, rfl, rfl, rfl, trivial⟩

theorem c_R_closedDaysOf {E : gE} {w : gW} {im : gIm} {Q : gQ} {b : Nat} {R : Rz} (hz : RZ E w im b R) {ca cp : Nat} {n9 st su rf pn : Int} {q9 : Pt9} {la : Option Nat} {rs : List rT} (e2 : im ca = some (cardE n9 cp st su rf la)) (e3 : im cp = some (prodAt pn q9)) (e4 : chn im la rs) (o5 : okR rs) (rst : 0 ≤ st ∧ st ≤ 3) (rq : okP q9) (hQ : Q (.inl (some (.int (iI (sumZ (fun k9 => if tb (dmask rs : Nat) k9 then (if closedB R q9.2.2.2.2.1 k9 then 1 else 0) else 0) 31))))) w im) : GM E 2 y_R_closedDaysOf m_R_closedDaysOf 0 0 [.ref (gad E b), .ref ca] w im Q := by
  have hz9 := hz
  obtain ⟨rg, rp, rc, lc, ⟨hb, h0, h1, h2, h3, h4, hlc⟩, ⟨i1, i2, i3, i4, i5, i6⟩, ok⟩ := hz9
  obtain ⟨ok1, ok2, ok3, ok4, ok5, ok6, ok7, ok8, ok9⟩ := ok
  have co : g_cell E w im (gad E b) (resE E b R) := g_mut b (by omega) h0
  have cg : g_cell E w im (gad E (b + 1)) (rowE 4 12 rg) := g_mut (b + 1) (by omega) h1
  have cp : g_cell E w im (gad E (b + 2)) (rowE 5 8 rp) := g_mut (b + 2) (by omega) h2
  have cc : g_cell E w im (gad E (b + 3)) (rowE 6 20 rc) := g_mut (b + 3) (by omega) h3
  have cl : g_cell E w im (gad E (b + 4)) (intE 372 lc) := g_mut (b + 4) (by omega) h4
  have c1 := g_imm (E := E) (w := w) e2
  have c2 := g_imm (E := E) (w := w) e3
  have hlen := o5.1
  have hdm := dmask_lt o5
  have loop : ∀ (n9 : Nat) (k9 s9 : Int), 0 ≤ k9 → k9 + n9 = 31 → s9 = sumZ (fun k9 => if tb (dmask rs : Nat) k9 then (if closedB R q9.2.2.2.2.1 k9 then 1 else 0) else 0) k9 → G E 2 m_R_closedDaysOf 4 [(0, .ref (gad E b)), (1, .ref ca), (2, .int (iI s9)), (3, .int (iI k9))] [] w im 0 0 Q := by
    intro n9
    induction n9 with
    | zero =>
      intro k9 s9 h9 hk9 hs9
      have e9 : k9 = 31 := by omega
      rw [e9] at hs9
      refine g_iload_n (n := 3) (i := 3) rfl rfl d_R_closedDaysOf_4 ?_
      refine g_bipush_i (by decide) d_R_closedDaysOf_5 ?_
      refine g_icmp_ge_i (tgt := 60) (by omega) (by decide) d_R_closedDaysOf_7 (by decide) (fun h7 => ?_) (fun h => by exfalso; omega)
      refine g_iload_n (n := 2) (i := 2) rfl rfl d_R_closedDaysOf_60 ?_
      refine g_ireturn_i rfl d_R_closedDaysOf_61 ?_
      exact g_qi hQ hs9
    | succ n9 ih =>
      intro k9 s9 h9 hk9 hs9
      by_cases hb9 : tb (dmask rs : Nat) k9 = true
      · refine g_iload_n (n := 3) (i := 3) rfl rfl d_R_closedDaysOf_4 ?_
        refine g_bipush_i (by decide) d_R_closedDaysOf_5 ?_
        refine g_icmp_ge_i (tgt := 60) (by omega) (by decide) d_R_closedDaysOf_7 (by decide) (fun h => by exfalso; omega) (fun h7 => ?_)
        refine g_aload_n (n := 1) (i := 1) rfl rfl d_R_closedDaysOf_10 ?_
        refine g_callV0 rfl rfl e_C_dayMask l_R_209 iv_C_dayMask 8 (by decide) rfl (by assumption) (by decide) (Nat.zero_le _) (Nat.zero_le _) (Nat.le_of_ble_eq_true rfl) d_R_closedDaysOf_11 (c_C_dayMask (by assumption) (by assumption) (by assumption) ?_)
        refine g_ret ?_
        refine g_iload_n (n := 3) (i := 3) rfl rfl d_R_closedDaysOf_14 ?_
        refine g_ishr d_R_closedDaysOf_15 ?_
        refine g_iconst_i d_R_closedDaysOf_16 ?_
        refine g_iand d_R_closedDaysOf_17 ?_
        rw [bit_t (by omega) (by omega) hb9]
        refine g_iconst_i d_R_closedDaysOf_18 ?_
        refine g_icmp_ne_i (tgt := 26) (by omega) (by decide) d_R_closedDaysOf_19 (by decide) (fun h => by exfalso; omega) (fun h19 => ?_)
        refine g_iconst_i d_R_closedDaysOf_22 ?_
        refine g_goto (tgt := 27) (by decide) d_R_closedDaysOf_23 ?_
        refine g_istore (i := 4) (by decide) rfl d_R_closedDaysOf_27 ?_
        refine g_iload_n (n := 2) (i := 2) rfl rfl d_R_closedDaysOf_29 ?_
        refine g_iload (i := 4) rfl d_R_closedDaysOf_30 ?_
        refine g_if_eq_i (tgt := 51) (by decide) d_R_closedDaysOf_32 (by decide) (fun h => absurd h (by decide)) (fun h32 => ?_)
        refine g_aload_n (n := 0) (i := 0) rfl rfl d_R_closedDaysOf_35 ?_
        refine g_aload_n (n := 1) (i := 1) rfl rfl d_R_closedDaysOf_36 ?_
        refine g_getfield 8 1 f_R_87 (by assumption) (by rfl) d_R_closedDaysOf_37 ?_
        refine g_iload_n (n := 3) (i := 3) rfl rfl d_R_closedDaysOf_40 ?_
        refine g_callV2 rfl rfl e_R_isClosedFor l_R_212 iv_R_isClosedFor 1 (by decide) rfl (by assumption) (by decide) (Nat.zero_le _) (Nat.zero_le _) (Nat.le_of_ble_eq_true rfl) d_R_closedDaysOf_41 (c_R_isClosedFor (by assumption) (by assumption) (by first | assumption | omega) (by omega) (fun hB => ?_) (fun hB => ?_))
        · refine g_ret ?_
          refine g_if_eq_i (tgt := 51) (by decide) d_R_closedDaysOf_44 (by decide) (fun h => absurd h (by decide)) (fun h44 => ?_)
          refine g_iconst_i d_R_closedDaysOf_47 ?_
          refine g_goto (tgt := 52) (by decide) d_R_closedDaysOf_48 ?_
          refine g_iadd_i d_R_closedDaysOf_52 ?_
          refine g_istore_n (n := 2) (i := 2) rfl (by decide) rfl d_R_closedDaysOf_53 ?_
          refine g_iinc_i (i := 3) rfl (by decide) rfl d_R_closedDaysOf_54 ?_
          refine g_goto (tgt := 4) (by decide) d_R_closedDaysOf_57 ?_
          exact g_cut (lv' := [(0, .ref (gad E b)), (1, .ref ca), (2, .int (iI _)), (3, .int (iI (k9 + 1)))]) ⟨rfl, rfl, rfl, rfl, trivial⟩ (ih (k9 + 1) _ (by omega) (by omega) (by rw [sumZ_s (by omega)]; first | (rw [if_neg hb9]; omega) | (rw [if_pos hb9, if_pos (by assumption)]; omega) | (rw [if_pos hb9, if_neg (by assumption)]; omega)))
        · refine g_ret ?_
          refine g_if_eq_i (tgt := 51) (by decide) d_R_closedDaysOf_44 (by decide) (fun h44 => ?_) (fun h => absurd h (by decide))
          refine g_iconst_i d_R_closedDaysOf_51 ?_
          refine g_iadd_i d_R_closedDaysOf_52 ?_
          refine g_istore_n (n := 2) (i := 2) rfl (by decide) rfl d_R_closedDaysOf_53 ?_
          refine g_iinc_i (i := 3) rfl (by decide) rfl d_R_closedDaysOf_54 ?_
          refine g_goto (tgt := 4) (by decide) d_R_closedDaysOf_57 ?_
          exact g_cut (lv' := [(0, .ref (gad E b)), (1, .ref ca), (2, .int (iI _)), (3, .int (iI (k9 + 1)))]) ⟨rfl, rfl, rfl, rfl, trivial⟩ (ih (k9 + 1) _ (by omega) (by omega) (by rw [sumZ_s (by omega)]; first | (rw [if_neg hb9]; omega) | (rw [if_pos hb9, if_pos (by assumption)]; omega) | (rw [if_pos hb9, if_neg (by assumption)]; omega)))
      · refine g_iload_n (n := 3) (i := 3) rfl rfl d_R_closedDaysOf_4 ?_
        refine g_bipush_i (by decide) d_R_closedDaysOf_5 ?_
        refine g_icmp_ge_i (tgt := 60) (by omega) (by decide) d_R_closedDaysOf_7 (by decide) (fun h => by exfalso; omega) (fun h7 => ?_)
        refine g_aload_n (n := 1) (i := 1) rfl rfl d_R_closedDaysOf_10 ?_
        refine g_callV0 rfl rfl e_C_dayMask l_R_209 iv_C_dayMask 8 (by decide) rfl (by assumption) (by decide) (Nat.zero_le _) (Nat.zero_le _) (Nat.le_of_ble_eq_true rfl) d_R_closedDaysOf_11 (c_C_dayMask (by assumption) (by assumption) (by assumption) ?_)
        refine g_ret ?_
        refine g_iload_n (n := 3) (i := 3) rfl rfl d_R_closedDaysOf_14 ?_
        refine g_ishr d_R_closedDaysOf_15 ?_
        refine g_iconst_i d_R_closedDaysOf_16 ?_
        refine g_iand d_R_closedDaysOf_17 ?_
        rw [bit_f (by omega) (by omega) (by simpa using hb9)]
        refine g_iconst_i d_R_closedDaysOf_18 ?_
        refine g_icmp_ne_i (tgt := 26) (by omega) (by decide) d_R_closedDaysOf_19 (by decide) (fun h19 => ?_) (fun h => by exfalso; omega)
        refine g_iconst_i d_R_closedDaysOf_26 ?_
        refine g_istore (i := 4) (by decide) rfl d_R_closedDaysOf_27 ?_
        refine g_iload_n (n := 2) (i := 2) rfl rfl d_R_closedDaysOf_29 ?_
        refine g_iload (i := 4) rfl d_R_closedDaysOf_30 ?_
        refine g_if_eq_i (tgt := 51) (by decide) d_R_closedDaysOf_32 (by decide) (fun h32 => ?_) (fun h => absurd h (by decide))
        refine g_iconst_i d_R_closedDaysOf_51 ?_
        refine g_iadd_i d_R_closedDaysOf_52 ?_
        refine g_istore_n (n := 2) (i := 2) rfl (by decide) rfl d_R_closedDaysOf_53 ?_
        refine g_iinc_i (i := 3) rfl (by decide) rfl d_R_closedDaysOf_54 ?_
        refine g_goto (tgt := 4) (by decide) d_R_closedDaysOf_57 ?_
        exact g_cut (lv' := [(0, .ref (gad E b)), (1, .ref ca), (2, .int (iI _)), (3, .int (iI (k9 + 1)))]) ⟨rfl, rfl, rfl, rfl, trivial⟩ (ih (k9 + 1) _ (by omega) (by omega) (by rw [sumZ_s (by omega)]; first | (rw [if_neg hb9]; omega) | (rw [if_pos hb9, if_pos (by assumption)]; omega) | (rw [if_pos hb9, if_neg (by assumption)]; omega)))
  refine g_enter (by decide) rfl rfl (fun h => by first | rfl | cases h) (Nat.le_of_ble_eq_true rfl) rfl ?_
  refine g_iconst_i d_R_closedDaysOf_0 ?_
  refine g_istore_n (n := 2) (i := 2) rfl (by decide) rfl d_R_closedDaysOf_1 ?_
  refine g_iconst_i d_R_closedDaysOf_2 ?_
  refine g_istore_n (n := 3) (i := 3) rfl (by decide) rfl d_R_closedDaysOf_3 ?_
  refine g_cut ?_ (loop 31 0 0 (by omega) (by omega) rfl)
  exact ⟨rfl, rfl, rfl, rfl, trivial⟩

theorem c_R_refundFor {E : gE} {w : gW} {im : gIm} {Q : gQ} {b : Nat} {R : Rz} (hz : RZ E w im b R) {ca cp : Nat} {n9 st su rf pn : Int} {q9 : Pt9} {la : Option Nat} {rs : List rT} (e2 : im ca = some (cardE n9 cp st su rf la)) (e3 : im cp = some (prodAt pn q9)) (e4 : chn im la rs) (o5 : okR rs) (rst : 0 ≤ st ∧ st ≤ 3) (rq : okP q9) (hQ : Q (.inl (some (.int (iI (refundZ R q9 st rs))))) w im) : GM E 3 y_R_refundFor m_R_refundFor 0 0 [.ref (gad E b), .ref ca] w im Q := by
  have hz9 := hz
  obtain ⟨rg, rp, rc, lc, ⟨hb, h0, h1, h2, h3, h4, hlc⟩, ⟨i1, i2, i3, i4, i5, i6⟩, ok⟩ := hz9
  obtain ⟨ok1, ok2, ok3, ok4, ok5, ok6, ok7, ok8, ok9⟩ := ok
  have co : g_cell E w im (gad E b) (resE E b R) := g_mut b (by omega) h0
  have cg : g_cell E w im (gad E (b + 1)) (rowE 4 12 rg) := g_mut (b + 1) (by omega) h1
  have cp : g_cell E w im (gad E (b + 2)) (rowE 5 8 rp) := g_mut (b + 2) (by omega) h2
  have cc : g_cell E w im (gad E (b + 3)) (rowE 6 20 rc) := g_mut (b + 3) (by omega) h3
  have cl : g_cell E w im (gad E (b + 4)) (intE 372 lc) := g_mut (b + 4) (by omega) h4
  have c1 := g_imm (E := E) (w := w) e2
  have c2 := g_imm (E := E) (w := w) e3
  have hlen := o5.1
  refine g_enter (by decide) rfl rfl (fun h => by first | rfl | cases h) (Nat.le_of_ble_eq_true rfl) rfl ?_
  refine g_aload_n (n := 1) (i := 1) rfl rfl d_R_refundFor_0 ?_
  refine g_callV0 rfl rfl e_C_isSettled l_R_200 iv_C_isSettled 8 (by decide) rfl (by assumption) (by decide) (Nat.zero_le _) (Nat.zero_le _) (Nat.le_of_ble_eq_true rfl) d_R_refundFor_1 (c_C_isSettled (by assumption) (by omega) (fun hB => ?_) (fun hB => ?_))
  · refine g_ret ?_
    refine g_if_eq_i (tgt := 11) (by decide) d_R_refundFor_4 (by decide) (fun h => absurd h (by decide)) (fun h4 => ?_)
    refine g_iconst_i d_R_refundFor_7 ?_
    refine g_goto (tgt := 24) (by decide) d_R_refundFor_8 ?_
    refine g_ireturn_i rfl d_R_refundFor_24 ?_
    exact g_qi hQ (by unfold refundZ cldays; first | (rw [if_pos (show st = 2 ∨ st = 3 by assumption)]; done) | rw [if_neg (show ¬ (st = 2 ∨ st = 3) by assumption)])
  · refine g_ret ?_
    refine g_if_eq_i (tgt := 11) (by decide) d_R_refundFor_4 (by decide) (fun h4 => ?_) (fun h => absurd h (by decide))
    refine g_aload_n (n := 1) (i := 1) rfl rfl d_R_refundFor_11 ?_
    refine g_getfield 8 1 f_R_87 (by assumption) (by rfl) d_R_refundFor_12 ?_
    refine g_callV0 rfl rfl e_P_refundPerDay l_R_203 iv_P_refundPerDay 6 (by decide) rfl (by assumption) (by decide) (Nat.zero_le _) (Nat.zero_le _) (Nat.le_of_ble_eq_true rfl) d_R_refundFor_15 (c_P_refundPerDay (by assumption) (by omega) ?_)
    refine g_ret ?_
    refine g_aload_n (n := 0) (i := 0) rfl rfl d_R_refundFor_18 ?_
    refine g_aload_n (n := 1) (i := 1) rfl rfl d_R_refundFor_19 ?_
    refine g_callV1 rfl rfl e_R_closedDaysOf l_R_206 iv_R_closedDaysOf 1 (by decide) rfl (by assumption) (by decide) (Nat.zero_le _) (Nat.zero_le _) (Nat.le_of_ble_eq_true rfl) d_R_refundFor_20 (c_R_closedDaysOf (by assumption) (by assumption) (by assumption) (by assumption) (by assumption) (by omega) (by first | assumption | omega) ?_)
    refine g_ret ?_
    refine g_imul_i d_R_refundFor_23 ?_
    refine g_ireturn_i rfl d_R_refundFor_24 ?_
    exact g_qi hQ (by unfold refundZ cldays; first | (rw [if_pos (show st = 2 ∨ st = 3 by assumption)]; done) | rw [if_neg (show ¬ (st = 2 ∨ st = 3) by assumption)])

theorem c_R_allRefundable {E : gE} {w : gW} {im : gIm} {Q : gQ} {b : Nat} {R : Rz} (hz : RZ E w im b R) (hQ : Q (.inl (some (.int (iI (sumZ (fun k9 => if k9 < zc R then refundZ R (zP R (zC R k9).1) (zC R k9).2.1 (zC R k9).2.2.2.2 else 0) 20))))) w im) : GM E 4 y_R_allRefundable m_R_allRefundable 0 0 [.ref (gad E b)] w im Q := by
  have hz9 := hz
  obtain ⟨rg, rp, rc, lc, ⟨hb, h0, h1, h2, h3, h4, hlc⟩, ⟨i1, i2, i3, i4, i5, i6⟩, ok⟩ := hz9
  obtain ⟨ok1, ok2, ok3, ok4, ok5, ok6, ok7, ok8, ok9⟩ := ok
  have co : g_cell E w im (gad E b) (resE E b R) := g_mut b (by omega) h0
  have cg : g_cell E w im (gad E (b + 1)) (rowE 4 12 rg) := g_mut (b + 1) (by omega) h1
  have cp : g_cell E w im (gad E (b + 2)) (rowE 5 8 rp) := g_mut (b + 2) (by omega) h2
  have cc : g_cell E w im (gad E (b + 3)) (rowE 6 20 rc) := g_mut (b + 3) (by omega) h3
  have cl : g_cell E w im (gad E (b + 4)) (intE 372 lc) := g_mut (b + 4) (by omega) h4
  have loop : ∀ (n9 : Nat) (k9 s9 : Int), 0 ≤ k9 → k9 + n9 = 20 → s9 = sumZ (fun k9 => if k9 < zc R then refundZ R (zP R (zC R k9).1) (zC R k9).2.1 (zC R k9).2.2.2.2 else 0) k9 → G E 4 m_R_allRefundable 13 [(0, .ref (gad E b)), (1, .int (iI s9)), (2, .ref (gad E (b + 3))), (3, .int (iI 20)), (4, .int (iI k9))] [] w im 0 0 Q := by
    intro n9
    induction n9 with
    | zero =>
      intro k9 s9 h9 hk9 hs9
      have e9 : k9 = 20 := by omega
      rw [e9] at hs9
      refine g_iload (i := 4) rfl d_R_allRefundable_13 ?_
      refine g_iload_n (n := 3) (i := 3) rfl rfl d_R_allRefundable_15 ?_
      refine g_icmp_ge_i (tgt := 49) (by omega) (by decide) d_R_allRefundable_16 (by decide) (fun h16 => ?_) (fun h => by exfalso; omega)
      refine g_iload_n (n := 1) (i := 1) rfl rfl d_R_allRefundable_49 ?_
      refine g_ireturn_i rfl d_R_allRefundable_50 ?_
      exact g_qi hQ hs9
    | succ n9 ih =>
      intro k9 s9 h9 hk9 hs9
      by_cases hc9 : k9 < zc R
      · obtain ⟨a9, p9, la9, e1, e2, e3, e4⟩ := i5 k9 ⟨h9, hc9⟩
        have c1 := g_imm (E := E) (w := w) e2
        have c2 := g_imm (E := E) (w := w) e3
        obtain ⟨o1, o2, o3, o4, o5⟩ := ok8 k9 ⟨h9, hc9⟩
        have oq := ok7 (zC R k9).1 o1
        have hlen := o5.1
        refine g_iload (i := 4) rfl d_R_allRefundable_13 ?_
        refine g_iload_n (n := 3) (i := 3) rfl rfl d_R_allRefundable_15 ?_
        refine g_icmp_ge_i (tgt := 49) (by omega) (by decide) d_R_allRefundable_16 (by decide) (fun h => by exfalso; omega) (fun h16 => ?_)
        refine g_aload_n (n := 2) (i := 2) rfl rfl d_R_allRefundable_19 ?_
        refine g_iload (i := 4) rfl d_R_allRefundable_20 ?_
        refine g_aaload_i (by assumption) (by decide) (by rfl) (by omega) (by omega) (by rfl) (by assumption) d_R_allRefundable_22 ?_
        refine g_astore (i := 5) (by decide) rfl d_R_allRefundable_23 ?_
        refine g_iload_n (n := 1) (i := 1) rfl rfl d_R_allRefundable_25 ?_
        refine g_aload (i := 5) rfl d_R_allRefundable_26 ?_
        refine g_ifnonnull (tgt := 35) (by decide) d_R_allRefundable_28 ?_
        refine g_aload_n (n := 0) (i := 0) rfl rfl d_R_allRefundable_35 ?_
        refine g_aload (i := 5) rfl d_R_allRefundable_36 ?_
        refine g_callV1 rfl rfl e_R_refundFor l_R_99 iv_R_refundFor 1 (by decide) rfl (by assumption) (by decide) (Nat.zero_le _) (Nat.zero_le _) (Nat.le_of_ble_eq_true rfl) d_R_allRefundable_38 (c_R_refundFor (by assumption) (by assumption) (by assumption) (by assumption) (by assumption) (by omega) (by first | assumption | omega) ?_)
        refine g_ret ?_
        refine g_iadd_i d_R_allRefundable_41 ?_
        refine g_istore_n (n := 1) (i := 1) rfl (by decide) rfl d_R_allRefundable_42 ?_
        refine g_iinc_i (i := 4) rfl (by decide) rfl d_R_allRefundable_43 ?_
        refine g_goto (tgt := 13) (by decide) d_R_allRefundable_46 ?_
        exact g_cut (lv' := [(0, .ref (gad E b)), (1, .int (iI _)), (2, .ref (gad E (b + 3))), (3, .int (iI 20)), (4, .int (iI (k9 + 1)))]) ⟨rfl, rfl, rfl, rfl, rfl, trivial⟩ (ih (k9 + 1) _ (by omega) (by omega) (by rw [sumZ_s (by omega)]; first | omega | (simp only [if_pos hc9]; omega) | (simp only [if_neg hc9]; omega) | (simp [*]; done) | (simp [*]; omega)))
      · have e1 := i6 k9 (by omega)
        refine g_iload (i := 4) rfl d_R_allRefundable_13 ?_
        refine g_iload_n (n := 3) (i := 3) rfl rfl d_R_allRefundable_15 ?_
        refine g_icmp_ge_i (tgt := 49) (by omega) (by decide) d_R_allRefundable_16 (by decide) (fun h => by exfalso; omega) (fun h16 => ?_)
        refine g_aload_n (n := 2) (i := 2) rfl rfl d_R_allRefundable_19 ?_
        refine g_iload (i := 4) rfl d_R_allRefundable_20 ?_
        refine g_aaloadN_i (by assumption) (by decide) (by rfl) (by omega) (by omega) (by rfl) (by assumption) d_R_allRefundable_22 ?_
        refine g_astoreN (i := 5) (by decide) rfl d_R_allRefundable_23 ?_
        refine g_iload_n (n := 1) (i := 1) rfl rfl d_R_allRefundable_25 ?_
        refine g_aloadN (i := 5) rfl d_R_allRefundable_26 ?_
        refine g_ifnonnullN d_R_allRefundable_28 ?_
        refine g_iconst_i d_R_allRefundable_31 ?_
        refine g_goto (tgt := 41) (by decide) d_R_allRefundable_32 ?_
        refine g_iadd_i d_R_allRefundable_41 ?_
        refine g_istore_n (n := 1) (i := 1) rfl (by decide) rfl d_R_allRefundable_42 ?_
        refine g_iinc_i (i := 4) rfl (by decide) rfl d_R_allRefundable_43 ?_
        refine g_goto (tgt := 13) (by decide) d_R_allRefundable_46 ?_
        exact g_cut (lv' := [(0, .ref (gad E b)), (1, .int (iI _)), (2, .ref (gad E (b + 3))), (3, .int (iI 20)), (4, .int (iI (k9 + 1)))]) ⟨rfl, rfl, rfl, rfl, rfl, trivial⟩ (ih (k9 + 1) _ (by omega) (by omega) (by rw [sumZ_s (by omega)]; first | omega | (simp only [if_pos hc9]; omega) | (simp only [if_neg hc9]; omega) | (simp [*]; done) | (simp [*]; omega)))
  refine g_enter (by decide) rfl rfl (fun h => by first | rfl | cases h) (Nat.le_of_ble_eq_true rfl) rfl ?_
  refine g_iconst_i d_R_allRefundable_0 ?_
  refine g_istore_n (n := 1) (i := 1) rfl (by decide) rfl d_R_allRefundable_1 ?_
  refine g_aload_n (n := 0) (i := 0) rfl rfl d_R_allRefundable_2 ?_
  refine g_getfield 1 2 f_R_25 (by assumption) (by rfl) d_R_allRefundable_3 ?_
  refine g_astore_n (n := 2) (i := 2) rfl (by decide) rfl d_R_allRefundable_6 ?_
  refine g_aload_n (n := 2) (i := 2) rfl rfl d_R_allRefundable_7 ?_
  refine g_alen_i (by assumption) (by decide) d_R_allRefundable_8 ?_
  refine g_istore_n (n := 3) (i := 3) rfl (by decide) rfl d_R_allRefundable_9 ?_
  refine g_iconst_i d_R_allRefundable_10 ?_
  refine g_istore (i := 4) (by decide) rfl d_R_allRefundable_11 ?_
  refine g_cut ?_ (loop 20 0 0 (by omega) (by omega) rfl)
  exact ⟨rfl, rfl, rfl, rfl, rfl, trivial⟩

theorem c_R_reasonOfWay {E : gE} {w : gW} {im : gIm} {Q : gQ} {b : Nat} {R : Rz} (hz : RZ E w im b R) {la : Option Nat} {rs : List rT} (e4 : chn im la rs) (o5 : okR rs) {b9 : Nat} {gn gp gx : Int} (hg : im b9 = some (gateE gn gp gx)) (rg9 : (0 ≤ gn ∧ gn ≤ 11) ∧ (0 ≤ gp ∧ gp ≤ 3) ∧ (0 ≤ gx ∧ gx ≤ 99)) (hQ : Q (.inl (some (.int (iI (wayR (zk R) gn gp gx rs))))) w im) : GM E 1 y_R_reasonOfWay m_R_reasonOfWay 0 0 [.ref (gad E b), va_rf la, .ref b9] w im Q := by
  have hz9 := hz
  obtain ⟨rg, rp, rc, lc, ⟨hb, h0, h1, h2, h3, h4, hlc⟩, ⟨i1, i2, i3, i4, i5, i6⟩, ok⟩ := hz9
  obtain ⟨ok1, ok2, ok3, ok4, ok5, ok6, ok7, ok8, ok9⟩ := ok
  have co : g_cell E w im (gad E b) (resE E b R) := g_mut b (by omega) h0
  have cg : g_cell E w im (gad E (b + 1)) (rowE 4 12 rg) := g_mut (b + 1) (by omega) h1
  have cp : g_cell E w im (gad E (b + 2)) (rowE 5 8 rp) := g_mut (b + 2) (by omega) h2
  have cc : g_cell E w im (gad E (b + 3)) (rowE 6 20 rc) := g_mut (b + 3) (by omega) h3
  have cl : g_cell E w im (gad E (b + 4)) (intE 372 lc) := g_mut (b + 4) (by omega) h4
  have cgt := g_imm (E := E) (w := w) hg
  rcases la with _ | la <;> rcases rs with _ | ⟨q, r⟩
  · refine g_enter (by decide) rfl rfl (fun h => by first | rfl | cases h) (Nat.le_of_ble_eq_true rfl) rfl ?_
    refine g_aloadN_n (n := 1) (i := 1) rfl rfl d_R_reasonOfWay_0 ?_
    refine g_ifnonnullN d_R_reasonOfWay_1 ?_
    refine g_iconst_i d_R_reasonOfWay_4 ?_
    refine g_ireturn_i rfl d_R_reasonOfWay_5 ?_
    exact hQ
  · exact e4.elim
  · exact e4.elim
  · obtain ⟨bf, ga, c1, c2, c3⟩ := id e4
    have c1 := g_imm (E := E) (w := w) c1
    have c2 := g_imm (E := E) (w := w) c2
    have hq := o5.head
    refine g_enter (by decide) rfl rfl (fun h => by first | rfl | cases h) (Nat.le_of_ble_eq_true rfl) rfl ?_
    refine g_aload_n (n := 1) (i := 1) rfl rfl d_R_reasonOfWay_0 ?_
    refine g_ifnonnull (tgt := 6) (by decide) d_R_reasonOfWay_1 ?_
    refine g_aload_n (n := 0) (i := 0) rfl rfl d_R_reasonOfWay_6 ?_
    refine g_getfield 1 8 f_R_46 (by assumption) (by rfl) d_R_reasonOfWay_7 ?_
    refine g_aload_n (n := 1) (i := 1) rfl rfl d_R_reasonOfWay_10 ?_
    refine g_getfield 7 2 f_R_170 (by assumption) (by rfl) d_R_reasonOfWay_11 ?_
    refine g_isub_i d_R_reasonOfWay_14 ?_
    refine g_istore_n (n := 3) (i := 3) rfl (by decide) rfl d_R_reasonOfWay_15 ?_
    refine g_iload_n (n := 3) (i := 3) rfl rfl d_R_reasonOfWay_16 ?_
    refine g_aload_n (n := 1) (i := 1) rfl rfl d_R_reasonOfWay_17 ?_
    refine g_getfield 7 1 f_R_173 (by assumption) (by rfl) d_R_reasonOfWay_18 ?_
    refine g_aload_n (n := 2) (i := 2) rfl rfl d_R_reasonOfWay_21 ?_
    refine g_callV1 rfl rfl e_G_wayTo l_R_177 iv_G_wayTo 5 (by decide) rfl (by assumption) (by decide) (Nat.zero_le _) (Nat.zero_le _) (Nat.le_of_ble_eq_true rfl) d_R_reasonOfWay_22 (c_G_wayTo (by assumption) (by assumption) (by omega) ?_)
    refine g_ret ?_
    refine g_icmp_ge_i (tgt := 31) (by first | omega | (unfold wayZ; (repeat' split) <;> omega)) (by first | omega | (unfold wayZ; (repeat' split) <;> omega)) d_R_reasonOfWay_25 (by decide) (fun h25 => ?_) (fun h25 => ?_)
    · refine g_aload_n (n := 1) (i := 1) rfl rfl d_R_reasonOfWay_31 ?_
      refine g_getfield 7 1 f_R_173 (by assumption) (by rfl) d_R_reasonOfWay_32 ?_
      refine g_getfield 5 0 f_R_67 (by assumption) (by rfl) d_R_reasonOfWay_35 ?_
      refine g_aload_n (n := 2) (i := 2) rfl rfl d_R_reasonOfWay_38 ?_
      refine g_getfield 5 0 f_R_67 (by assumption) (by rfl) d_R_reasonOfWay_39 ?_
      refine g_icmp_ne_i (tgt := 49) (by first | omega | (unfold wayZ; (repeat' split) <;> omega)) (by first | omega | (unfold wayZ; (repeat' split) <;> omega)) d_R_reasonOfWay_42 (by decide) (fun h42 => ?_) (fun h42 => ?_)
      · refine g_iconst_i d_R_reasonOfWay_49 ?_
        refine g_istore (i := 4) (by decide) rfl d_R_reasonOfWay_50 ?_
        refine g_iload (i := 4) rfl d_R_reasonOfWay_52 ?_
        refine g_if_eq_i (tgt := 67) (by decide) d_R_reasonOfWay_54 (by decide) (fun h54 => ?_) (fun h => absurd h (by decide))
        refine g_iconst_i d_R_reasonOfWay_67 ?_
        refine g_ireturn_i rfl d_R_reasonOfWay_68 ?_
        exact g_qi hQ (by simp only [wayR]; (repeat' split) <;> omega)
      · refine g_iconst_i d_R_reasonOfWay_45 ?_
        refine g_goto (tgt := 50) (by decide) d_R_reasonOfWay_46 ?_
        refine g_istore (i := 4) (by decide) rfl d_R_reasonOfWay_50 ?_
        refine g_iload (i := 4) rfl d_R_reasonOfWay_52 ?_
        refine g_if_eq_i (tgt := 67) (by decide) d_R_reasonOfWay_54 (by decide) (fun h => absurd h (by decide)) (fun h54 => ?_)
        refine g_iload_n (n := 3) (i := 3) rfl rfl d_R_reasonOfWay_57 ?_
        refine g_iconst_i d_R_reasonOfWay_58 ?_
        refine g_icmp_ge_i (tgt := 67) (by first | omega | (unfold wayZ; (repeat' split) <;> omega)) (by decide) d_R_reasonOfWay_59 (by decide) (fun h59 => ?_) (fun h59 => ?_)
        · refine g_iconst_i d_R_reasonOfWay_67 ?_
          refine g_ireturn_i rfl d_R_reasonOfWay_68 ?_
          exact g_qi hQ (by simp only [wayR]; (repeat' split) <;> omega)
        · refine g_bipush_i (by decide) d_R_reasonOfWay_62 ?_
          refine g_goto (tgt := 68) (by decide) d_R_reasonOfWay_64 ?_
          refine g_ireturn_i rfl d_R_reasonOfWay_68 ?_
          exact g_qi hQ (by simp only [wayR]; (repeat' split) <;> omega)
    · refine g_bipush_i (by decide) d_R_reasonOfWay_28 ?_
      refine g_ireturn_i rfl d_R_reasonOfWay_30 ?_
      exact g_qi hQ (by simp only [wayR]; (repeat' split) <;> omega)


theorem c_R_reasonAgainst {E : gE} {w : gW} {im : gIm} {Q : gQ} {b : Nat} {R : Rz} (hz : RZ E w im b R) {ca cp : Nat} {n9 st su rf pn : Int} {q9 : Pt9} {la : Option Nat} {rs : List rT} (e2 : im ca = some (cardE n9 cp st su rf la)) (e3 : im cp = some (prodAt pn q9)) (e4 : chn im la rs) (o5 : okR rs) (rst : 0 ≤ st ∧ st ≤ 3) (rq : okP q9) {b9 : Nat} {gn gp gx : Int} (hg : im b9 = some (gateE gn gp gx)) (rg9 : (0 ≤ gn ∧ gn ≤ 11) ∧ (0 ≤ gp ∧ gp ≤ 3) ∧ (0 ≤ gx ∧ gx ≤ 99)) (hQ : Q (.inl (some (.int (iI (reasonZ R q9 st rs gn gp gx))))) w im) : GM E 3 y_R_reasonAgainst m_R_reasonAgainst 0 0 [.ref (gad E b), .ref ca, .ref b9] w im Q := by
  have hz9 := hz
  obtain ⟨rg, rp, rc, lc, ⟨hb, h0, h1, h2, h3, h4, hlc⟩, ⟨i1, i2, i3, i4, i5, i6⟩, ok⟩ := hz9
  obtain ⟨ok1, ok2, ok3, ok4, ok5, ok6, ok7, ok8, ok9⟩ := ok
  have co : g_cell E w im (gad E b) (resE E b R) := g_mut b (by omega) h0
  have cg : g_cell E w im (gad E (b + 1)) (rowE 4 12 rg) := g_mut (b + 1) (by omega) h1
  have cp : g_cell E w im (gad E (b + 2)) (rowE 5 8 rp) := g_mut (b + 2) (by omega) h2
  have cc : g_cell E w im (gad E (b + 3)) (rowE 6 20 rc) := g_mut (b + 3) (by omega) h3
  have cl : g_cell E w im (gad E (b + 4)) (intE 372 lc) := g_mut (b + 4) (by omega) h4
  have c1 := g_imm (E := E) (w := w) e2
  have c2 := g_imm (E := E) (w := w) e3
  have hlen := o5.1
  have cgt := g_imm (E := E) (w := w) hg
  refine g_enter (by decide) rfl rfl (fun h => by first | rfl | cases h) (Nat.le_of_ble_eq_true rfl) rfl ?_
  refine g_aload_n (n := 0) (i := 0) rfl rfl d_R_reasonAgainst_0 ?_
  refine g_aload_n (n := 2) (i := 2) rfl rfl d_R_reasonAgainst_1 ?_
  refine g_callV1 rfl rfl e_R_isShut l_R_124 iv_R_isShut 1 (by decide) rfl (by assumption) (by decide) (Nat.zero_le _) (Nat.zero_le _) (Nat.le_of_ble_eq_true rfl) d_R_reasonAgainst_2 (c_R_isShut (by assumption) (by assumption) (by omega) (fun hB => ?_) (fun hB => ?_))
  · refine g_ret ?_
    refine g_if_eq_i (tgt := 11) (by decide) d_R_reasonAgainst_5 (by decide) (fun h => absurd h (by decide)) (fun h5 => ?_)
    refine g_bipush_i (by decide) d_R_reasonAgainst_8 ?_
    refine g_ireturn_i rfl d_R_reasonAgainst_10 ?_
    exact g_qi hQ (by unfold reasonZ; simp_all [hasB_tb, validB_iff.symm, iI_if1])
  · refine g_ret ?_
    refine g_if_eq_i (tgt := 11) (by decide) d_R_reasonAgainst_5 (by decide) (fun h5 => ?_) (fun h => absurd h (by decide))
    refine g_aload_n (n := 1) (i := 1) rfl rfl d_R_reasonAgainst_11 ?_
    refine g_getfield 8 2 f_R_150 (by assumption) (by rfl) d_R_reasonAgainst_12 ?_
    refine g_if_eq_i (tgt := 26) (by omega) d_R_reasonAgainst_15 (by decide) (fun h15 => ?_) (fun h15 => ?_)
    · refine g_aload_n (n := 1) (i := 1) rfl rfl d_R_reasonAgainst_26 ?_
      refine g_getfield 8 1 f_R_87 (by assumption) (by rfl) d_R_reasonAgainst_27 ?_
      refine g_aload_n (n := 2) (i := 2) rfl rfl d_R_reasonAgainst_30 ?_
      refine g_getfield 5 1 f_R_143 (by assumption) (by rfl) d_R_reasonAgainst_31 ?_
      refine g_callV1 rfl rfl e_P_isFor l_R_146 iv_P_isFor 6 (by decide) rfl (by assumption) (by decide) (Nat.zero_le _) (Nat.zero_le _) (Nat.le_of_ble_eq_true rfl) d_R_reasonAgainst_34 (c_P_isFor (by assumption) (by omega) (fun hB => ?_) (fun hB => ?_))
      · refine g_ret ?_
        refine g_if_ne_i (tgt := 43) (by decide) d_R_reasonAgainst_37 (by decide) (fun h37 => ?_) (fun h => absurd h (by decide))
        refine g_aload_n (n := 1) (i := 1) rfl rfl d_R_reasonAgainst_43 ?_
        refine g_getfield 8 1 f_R_87 (by assumption) (by rfl) d_R_reasonAgainst_44 ?_
        refine g_aload_n (n := 0) (i := 0) rfl rfl d_R_reasonAgainst_47 ?_
        refine g_callV0 rfl rfl e_R_hour l_R_153 iv_R_hour 1 (by decide) rfl (by assumption) (by decide) (Nat.zero_le _) (Nat.zero_le _) (Nat.le_of_ble_eq_true rfl) d_R_reasonAgainst_48 (c_R_hour (by assumption) ?_)
        refine g_ret ?_
        refine g_callV1 rfl rfl e_P_isForHour l_R_157 iv_P_isForHour 6 (by decide) rfl (by assumption) (by decide) (Nat.zero_le _) (Nat.zero_le _) (Nat.le_of_ble_eq_true rfl) d_R_reasonAgainst_51 (c_P_isForHour (by assumption) (by omega) (fun hB => ?_) (fun hB => ?_))
        · refine g_ret ?_
          refine g_if_ne_i (tgt := 60) (by decide) d_R_reasonAgainst_54 (by decide) (fun h54 => ?_) (fun h => absurd h (by decide))
          refine g_aload_n (n := 1) (i := 1) rfl rfl d_R_reasonAgainst_60 ?_
          refine g_aload_n (n := 0) (i := 0) rfl rfl d_R_reasonAgainst_61 ?_
          refine g_callV0 rfl rfl e_R_today l_R_160 iv_R_today 1 (by decide) rfl (by assumption) (by decide) (Nat.zero_le _) (Nat.zero_le _) (Nat.le_of_ble_eq_true rfl) d_R_reasonAgainst_62 (c_R_today (by assumption) ?_)
          refine g_ret ?_
          refine g_callV1 rfl rfl e_C_isValidForRideOn l_R_163 iv_C_isValidForRideOn 8 (by decide) rfl (by assumption) (by decide) (Nat.zero_le _) (Nat.zero_le _) (Nat.le_of_ble_eq_true rfl) d_R_reasonAgainst_65 (c_C_isValidForRideOn (by assumption) (by assumption) (by assumption) (by assumption) (by omega) (by omega) (fun hB => ?_) (fun hB => ?_))
          · refine g_ret ?_
            refine g_if_ne_i (tgt := 74) (by decide) d_R_reasonAgainst_68 (by decide) (fun h68 => ?_) (fun h => absurd h (by decide))
            refine g_aload_n (n := 0) (i := 0) rfl rfl d_R_reasonAgainst_74 ?_
            refine g_aload_n (n := 1) (i := 1) rfl rfl d_R_reasonAgainst_75 ?_
            refine g_getfield 8 5 f_R_91 (by assumption) (by rfl) d_R_reasonAgainst_76 ?_
            refine g_aload_n (n := 2) (i := 2) rfl rfl d_R_reasonAgainst_79 ?_
            refine g_callV2 rfl rfl e_R_reasonOfWay l_R_166 iv_R_reasonOfWay 1 (by decide) rfl (by assumption) (by decide) (Nat.zero_le _) (Nat.zero_le _) (Nat.le_of_ble_eq_true rfl) d_R_reasonAgainst_80 (c_R_reasonOfWay (by assumption) (by assumption) (by assumption) (by assumption) (by omega) ?_)
            refine g_ret ?_
            refine g_ireturn_i rfl d_R_reasonAgainst_83 ?_
            exact g_qi hQ (by unfold reasonZ; simp_all [hasB_tb, validB_iff.symm, iI_if1])
          · refine g_ret ?_
            refine g_if_ne_i (tgt := 74) (by decide) d_R_reasonAgainst_68 (by decide) (fun h => absurd h (by decide)) (fun h68 => ?_)
            refine g_bipush_i (by decide) d_R_reasonAgainst_71 ?_
            refine g_ireturn_i rfl d_R_reasonAgainst_73 ?_
            exact g_qi hQ (by unfold reasonZ; simp_all [hasB_tb, validB_iff.symm, iI_if1])
        · refine g_ret ?_
          refine g_if_ne_i (tgt := 60) (by decide) d_R_reasonAgainst_54 (by decide) (fun h => absurd h (by decide)) (fun h54 => ?_)
          refine g_bipush_i (by decide) d_R_reasonAgainst_57 ?_
          refine g_ireturn_i rfl d_R_reasonAgainst_59 ?_
          exact g_qi hQ (by unfold reasonZ; simp_all [hasB_tb, validB_iff.symm, iI_if1])
      · refine g_ret ?_
        refine g_if_ne_i (tgt := 43) (by decide) d_R_reasonAgainst_37 (by decide) (fun h => absurd h (by decide)) (fun h37 => ?_)
        refine g_bipush_i (by decide) d_R_reasonAgainst_40 ?_
        refine g_ireturn_i rfl d_R_reasonAgainst_42 ?_
        exact g_qi hQ (by unfold reasonZ; simp_all [hasB_tb, validB_iff.symm, iI_if1])
    · refine g_bipush_i (by decide) d_R_reasonAgainst_18 ?_
      refine g_aload_n (n := 1) (i := 1) rfl rfl d_R_reasonAgainst_20 ?_
      refine g_getfield 8 2 f_R_150 (by assumption) (by rfl) d_R_reasonAgainst_21 ?_
      refine g_iadd_i d_R_reasonAgainst_24 ?_
      refine g_ireturn_i rfl d_R_reasonAgainst_25 ?_
      exact g_qi hQ (by unfold reasonZ; simp_all [hasB_tb, validB_iff.symm, iI_if1])

