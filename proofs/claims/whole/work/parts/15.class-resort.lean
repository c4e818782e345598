/-! ===== the resort ===== -/
def sumN (f : Int → Int) : Nat → Int
  | 0 => 0
  | n + 1 => sumN f n + f n
def sumZ (f : Int → Int) (k : Int) : Int := sumN f k.toNat
theorem sumZ_0 {f : Int → Int} : sumZ f 0 = 0 := rfl
theorem sumZ_s {f : Int → Int} {k : Int} (h : 0 ≤ k) : sumZ f (k + 1) = sumZ f k + f k := by
  unfold sumZ
  rw [show (k + 1).toNat = k.toNat + 1 by omega, sumN, Int.toNat_of_nonneg h]
def orN (f : Int → Nat) : Nat → Nat
  | 0 => 0
  | n + 1 => orN f n ||| f n
def orZ (f : Int → Nat) (k : Int) : Nat := orN f k.toNat
theorem orZ_0 {f : Int → Nat} : orZ f 0 = 0 := rfl
theorem orZ_s {f : Int → Nat} {k : Int} (h : 0 ≤ k) : orZ f (k + 1) = orZ f k ||| f k := by
  unfold orZ
  rw [show (k + 1).toNat = k.toNat + 1 by omega, orN, Int.toNat_of_nonneg h]
theorem sumN_cong {f g : Int → Int} {n : Nat} (h : ∀ k : Int, 0 ≤ k → k < n → f k = g k) : sumN f n = sumN g n := by
  induction n with
  | zero => rfl
  | succ n ih => rw [sumN, sumN, ih (fun k h0 h1 => h k h0 (by omega)), h n (by omega) (by omega)]
theorem sumZ_cong {f g : Int → Int} {n : Int} (h : ∀ k : Int, 0 ≤ k → k < n → f k = g k) : sumZ f n = sumZ g n := sumN_cong fun k h0 h1 => h k h0 (by omega)
theorem orN_cong {f g : Int → Nat} {n : Nat} (h : ∀ k : Int, 0 ≤ k → k < n → f k = g k) : orN f n = orN g n := by
  induction n with
  | zero => rfl
  | succ n ih => rw [orN, orN, ih (fun k h0 h1 => h k h0 (by omega)), h n (by omega) (by omega)]
theorem orZ_cong {f g : Int → Nat} {n : Int} (h : ∀ k : Int, 0 ≤ k → k < n → f k = g k) : orZ f n = orZ g n := orN_cong fun k h0 h1 => h k h0 (by omega)
/-- a sum over all places of a row of which only the first ones are used -/
theorem sumZ_cut {f : Int → Int} {c n : Int} (h0 : 0 ≤ c) (h : c ≤ n) : sumZ (fun k => if k < c then f k else 0) n = sumZ f c := by
  obtain ⟨d, rfl⟩ : ∃ d : Nat, n = c + d := ⟨(n - c).toNat, by omega⟩
  clear h
  induction d with
  | zero => rw [Int.natCast_zero, Int.add_zero]; exact sumZ_cong fun k _ h1 => if_pos h1
  | succ d ih => rw [show c + ((d + 1 : Nat) : Int) = (c + d) + 1 by omega, sumZ_s (by omega), ih, if_neg (by omega), Int.add_zero]
theorem orZ_cut {f : Int → Nat} {c n : Int} (h0 : 0 ≤ c) (h : c ≤ n) : orZ (fun k => if k < c then f k else 0) n = orZ f c := by
  obtain ⟨d, rfl⟩ : ∃ d : Nat, n = c + d := ⟨(n - c).toNat, by omega⟩
  clear h
  induction d with
  | zero => rw [Int.natCast_zero, Int.add_zero]; exact orZ_cong fun k _ h1 => if_pos h1
  | succ d ih => rw [show c + ((d + 1 : Nat) : Int) = (c + d) + 1 by omega, orZ_s (by omega), ih, if_neg (by omega), Nat.or_zero]
theorem orN_lt {f : Int → Nat} {b n : Nat} (h : ∀ k : Int, 0 ≤ k → k < n → f k < 2 ^ b) : orN f n < 2 ^ b := by
  induction n with
  | zero => exact Nat.two_pow_pos b
  | succ n ih => exact Nat.or_lt_two_pow (ih fun k h0 h1 => h k h0 (by omega)) (h n (by omega) (by omega))
/-- gates: partner, position; products: kind, amount, first, last, partners, price; cards: product, state, successor, refunded, rides -/
abbrev Gt : Type := Int × Int
abbrev Pt9 : Type := Int × Int × Int × Int × Int × Int
abbrev Ct : Type := Int × Int × Int × Int × List rT
/-- all that changes can change: counts (gates, products, cards), shut gates, clock; gates; products; cards; closed minutes -/
abbrev Rz : Type := (Int × Int × Int × Int × Int) × (Int → Gt) × (Int → Pt9) × (Int → Ct) × (Int → Int)
abbrev zg (R : Rz) : Int := R.1.1
abbrev zp (R : Rz) : Int := R.1.2.1
abbrev zc (R : Rz) : Int := R.1.2.2.1
abbrev zs (R : Rz) : Int := R.1.2.2.2.1
abbrev zk (R : Rz) : Int := R.1.2.2.2.2
abbrev zG (R : Rz) : Int → Gt := R.2.1
abbrev zP (R : Rz) : Int → Pt9 := R.2.2.1
abbrev zC (R : Rz) : Int → Ct := R.2.2.2.1
abbrev zL (R : Rz) : Int → Int := R.2.2.2.2
/-- the counted minutes of a day between two -/
def cbZ (f t d : Int) : Int := max 0 (min t (d * 1440 + 960) - max f (d * 1440 + 480))
/-- its numbers are in their ranges -/
def okZ (R : Rz) : Prop := (0 ≤ zg R ∧ zg R ≤ 12) ∧ (0 ≤ zp R ∧ zp R ≤ 8) ∧ (0 ≤ zc R ∧ zc R ≤ 20) ∧ (0 ≤ zs R ∧ zs R < 4096) ∧ (480 ≤ zk R ∧ zk R ≤ 43200) ∧
  (∀ i, 0 ≤ i ∧ i < zg R → (0 ≤ (zG R i).1 ∧ (zG R i).1 ≤ 3) ∧ (0 ≤ (zG R i).2 ∧ (zG R i).2 ≤ 99)) ∧
  (∀ i, 0 ≤ i ∧ i < zp R → (0 ≤ (zP R i).1 ∧ (zP R i).1 ≤ 2) ∧ (1 ≤ (zP R i).2.1 ∧ (zP R i).2.1 ≤ 9) ∧ (0 ≤ (zP R i).2.2.1 ∧ (zP R i).2.2.1 ≤ 23) ∧ (0 ≤ (zP R i).2.2.2.1 ∧ (zP R i).2.2.2.1 ≤ 23) ∧ (1 ≤ (zP R i).2.2.2.2.1 ∧ (zP R i).2.2.2.2.1 ≤ 15) ∧ (1 ≤ (zP R i).2.2.2.2.2 ∧ (zP R i).2.2.2.2.2 ≤ 9999)) ∧
  (∀ i, 0 ≤ i ∧ i < zc R → (0 ≤ (zC R i).1 ∧ (zC R i).1 < zp R) ∧ (0 ≤ (zC R i).2.1 ∧ (zC R i).2.1 ≤ 3) ∧ ((zC R i).2.2.1 = -1 ∨ (i < (zC R i).2.2.1 ∧ (zC R i).2.2.1 < zc R)) ∧ (0 ≤ (zC R i).2.2.2.1 ∧ (zC R i).2.2.2.1 ≤ 400000) ∧ okR (zC R i).2.2.2.2) ∧
  (∀ j, 0 ≤ j ∧ j < 372 → 0 ≤ zL R j ∧ zL R j ≤ cbZ 0 (zk R) (j % 31))
def prodAt (n : Int) (q : Pt9) : gA := prodE n q.1 q.2.1 q.2.2.1 q.2.2.2.1 q.2.2.2.2.1 q.2.2.2.2.2
/-- what the rows of references mean -/
def RI (im : gIm) (rg rp rc : Int → Option Nat) (R : Rz) : Prop :=
  (∀ i, 0 ≤ i ∧ i < zg R → ∃ a, rg i = some a ∧ im a = some (gateE i (zG R i).1 (zG R i).2)) ∧ (∀ i, zg R ≤ i ∧ i < 12 → rg i = none) ∧
  (∀ i, 0 ≤ i ∧ i < zp R → ∃ a, rp i = some a ∧ im a = some (prodAt i (zP R i))) ∧ (∀ i, zp R ≤ i ∧ i < 8 → rp i = none) ∧
  (∀ i, 0 ≤ i ∧ i < zc R → ∃ a p la, rc i = some a ∧ im a = some (cardE i p (zC R i).2.1 (zC R i).2.2.1 (zC R i).2.2.2.1 la) ∧ im p = some (prodAt (zC R i).1 (zP R (zC R i).1)) ∧ chn im la (zC R i).2.2.2.2) ∧ (∀ i, zc R ≤ i ∧ i < 20 → rc i = none)
abbrev resE (E : gE) (b : Nat) (R : Rz) : gA := .inr (1, [.ref (gad E (b + 1)), .ref (gad E (b + 2)), .ref (gad E (b + 3)), .ref (gad E (b + 4)), .int (iI (zg R)), .int (iI (zp R)), .int (iI (zc R)), .int (iI (zs R)), .int (iI (zk R))])
abbrev rowE (t n : Nat) (r : Int → Option Nat) : gA := .inl (t, n, .inr (.inr (.inr (.inr (fun j : Nat => r j)))))
abbrev intE (n : Nat) (m : Int → Int) : gA := .inl (0, n, .inl (fun j : Nat => iI (m j)))
/-- the five cells of a resort, from the fixed cell b on -/
def RW (E : gE) (w : gW) (b : Nat) (rg rp rc : Int → Option Nat) (lc : Int → Int) (R : Rz) : Prop :=
  b + 4 < gN E ∧ w b = resE E b R ∧ w (b + 1) = rowE 4 12 rg ∧ w (b + 2) = rowE 5 8 rp ∧ w (b + 3) = rowE 6 20 rc ∧ w (b + 4) = intE 372 lc ∧ ∀ j, 0 ≤ j ∧ j < 372 → lc j = zL R j
def RZ (E : gE) (w : gW) (im : gIm) (b : Nat) (R : Rz) : Prop := ∃ rg rp rc lc, RW E w b rg rp rc lc R ∧ RI im rg rp rc R ∧ okZ R

theorem c_R_today {E : gE} {w : gW} {im : gIm} {Q : gQ} {b : Nat} {R : Rz} (hz : RZ E w im b R) (hQ : Q (.inl (some (.int (iI (zk R / 1440))))) w im) : GM E 0 y_R_today m_R_today 0 0 [.ref (gad E b)] w im Q := by
  have hz9 := hz
  obtain ⟨rg, rp, rc, lc, ⟨hb, h0, h1, h2, h3, h4, hlc⟩, ⟨i1, i2, i3, i4, i5, i6⟩, ok⟩ := hz9
  obtain ⟨ok1, ok2, ok3, ok4, ok5, ok6, ok7, ok8, ok9⟩ := ok
  have co : g_cell E w im (gad E b) (resE E b R) := g_mut b (by omega) h0
  have cg : g_cell E w im (gad E (b + 1)) (rowE 4 12 rg) := g_mut (b + 1) (by omega) h1
  have cp : g_cell E w im (gad E (b + 2)) (rowE 5 8 rp) := g_mut (b + 2) (by omega) h2
  have cc : g_cell E w im (gad E (b + 3)) (rowE 6 20 rc) := g_mut (b + 3) (by omega) h3
  have cl : g_cell E w im (gad E (b + 4)) (intE 372 lc) := g_mut (b + 4) (by omega) h4
  refine g_enter (by decide) rfl rfl (fun h => by first | rfl | cases h) (Nat.le_of_ble_eq_true rfl) rfl ?_
  refine g_aload_n (n := 0) (i := 0) rfl rfl d_R_today_0 ?_
  refine g_getfield 1 8 f_R_46 (by assumption) (by rfl) d_R_today_1 ?_
  refine g_sipush_i (by decide) d_R_today_4 ?_
  refine g_idiv_i (by omega) (by omega) d_R_today_7 ?_
  refine g_ireturn_i rfl d_R_today_8 ?_
  exact hQ

theorem c_R_hour {E : gE} {w : gW} {im : gIm} {Q : gQ} {b : Nat} {R : Rz} (hz : RZ E w im b R) (hQ : Q (.inl (some (.int (iI (zk R % 1440 / 60))))) w im) : GM E 0 y_R_hour m_R_hour 0 0 [.ref (gad E b)] w im Q := by
  have hz9 := hz
  obtain ⟨rg, rp, rc, lc, ⟨hb, h0, h1, h2, h3, h4, hlc⟩, ⟨i1, i2, i3, i4, i5, i6⟩, ok⟩ := hz9
  obtain ⟨ok1, ok2, ok3, ok4, ok5, ok6, ok7, ok8, ok9⟩ := ok
  have co : g_cell E w im (gad E b) (resE E b R) := g_mut b (by omega) h0
  have cg : g_cell E w im (gad E (b + 1)) (rowE 4 12 rg) := g_mut (b + 1) (by omega) h1
  have cp : g_cell E w im (gad E (b + 2)) (rowE 5 8 rp) := g_mut (b + 2) (by omega) h2
  have cc : g_cell E w im (gad E (b + 3)) (rowE 6 20 rc) := g_mut (b + 3) (by omega) h3
  have cl : g_cell E w im (gad E (b + 4)) (intE 372 lc) := g_mut (b + 4) (by omega) h4
  refine g_enter (by decide) rfl rfl (fun h => by first | rfl | cases h) (Nat.le_of_ble_eq_true rfl) rfl ?_
  refine g_aload_n (n := 0) (i := 0) rfl rfl d_R_hour_0 ?_
  refine g_getfield 1 8 f_R_46 (by assumption) (by rfl) d_R_hour_1 ?_
  refine g_sipush_i (by decide) d_R_hour_4 ?_
  refine g_irem_i (by omega) (by omega) d_R_hour_7 ?_
  refine g_bipush_i (by decide) d_R_hour_8 ?_
  refine g_idiv_i (by omega) (by omega) d_R_hour_10 ?_
  refine g_ireturn_i rfl d_R_hour_11 ?_
  exact hQ

theorem c_R_gateAt {E : gE} {w : gW} {im : gIm} {Q : gQ} {b : Nat} {R : Rz} (hz : RZ E w im b R) {x : Int} (rx : -2147483648 ≤ x ∧ x < 2147483648) (hQ1 : ∀ a, (0 ≤ x ∧ x < zg R) → im a = some (gateE x (zG R x).1 (zG R x).2) → Q (.inl (some (.ref a))) w im) (hQ2 : ¬ (0 ≤ x ∧ x < zg R) → Q (.inl (some .null)) w im) : GM E 0 y_R_gateAt m_R_gateAt 0 0 [.ref (gad E b), .int (iI x)] w im Q := by
  have hz9 := hz
  obtain ⟨rg, rp, rc, lc, ⟨hb, h0, h1, h2, h3, h4, hlc⟩, ⟨i1, i2, i3, i4, i5, i6⟩, ok⟩ := hz9
  obtain ⟨ok1, ok2, ok3, ok4, ok5, ok6, ok7, ok8, ok9⟩ := ok
  have co : g_cell E w im (gad E b) (resE E b R) := g_mut b (by omega) h0
  have cg : g_cell E w im (gad E (b + 1)) (rowE 4 12 rg) := g_mut (b + 1) (by omega) h1
  have cp : g_cell E w im (gad E (b + 2)) (rowE 5 8 rp) := g_mut (b + 2) (by omega) h2
  have cc : g_cell E w im (gad E (b + 3)) (rowE 6 20 rc) := g_mut (b + 3) (by omega) h3
  have cl : g_cell E w im (gad E (b + 4)) (intE 372 lc) := g_mut (b + 4) (by omega) h4
  by_cases hx : 0 ≤ x ∧ x < zg R
  · obtain ⟨a, e1, e2⟩ := i1 x hx
    refine g_enter (by decide) rfl rfl (fun h => by first | rfl | cases h) (Nat.le_of_ble_eq_true rfl) rfl ?_
    refine g_iload_n (n := 1) (i := 1) rfl rfl d_R_gateAt_0 ?_
    refine g_if_lt_i (tgt := 22) (by omega) d_R_gateAt_1 (by decide) (fun h => by exfalso; omega) (fun h1 => ?_)
    refine g_iload_n (n := 1) (i := 1) rfl rfl d_R_gateAt_4 ?_
    refine g_aload_n (n := 0) (i := 0) rfl rfl d_R_gateAt_5 ?_
    refine g_getfield 1 0 f_R_11 (by assumption) (by rfl) d_R_gateAt_6 ?_
    refine g_alen_i (by assumption) (by decide) d_R_gateAt_9 ?_
    refine g_icmp_ge_i (tgt := 22) (by omega) (by omega) d_R_gateAt_10 (by decide) (fun h => by exfalso; omega) (fun h10 => ?_)
    refine g_aload_n (n := 0) (i := 0) rfl rfl d_R_gateAt_13 ?_
    refine g_getfield 1 0 f_R_11 (by assumption) (by rfl) d_R_gateAt_14 ?_
    refine g_iload_n (n := 1) (i := 1) rfl rfl d_R_gateAt_17 ?_
    refine g_aaload_i (by assumption) (by decide) (by rfl) (by omega) (by omega) (by rfl) (by assumption) d_R_gateAt_18 ?_
    refine g_goto (tgt := 23) (by decide) d_R_gateAt_19 ?_
    refine g_areturn rfl (Or.inl ⟨_, rfl⟩) (Or.inr ⟨_, rfl⟩) d_R_gateAt_23 ?_
    exact hQ1 a hx e2
  · by_cases hy : x < 0
    · refine g_enter (by decide) rfl rfl (fun h => by first | rfl | cases h) (Nat.le_of_ble_eq_true rfl) rfl ?_
      refine g_iload_n (n := 1) (i := 1) rfl rfl d_R_gateAt_0 ?_
      refine g_if_lt_i (tgt := 22) (by omega) d_R_gateAt_1 (by decide) (fun h1 => ?_) (fun h => by exfalso; omega)
      refine g_null d_R_gateAt_22 ?_
      refine g_areturn rfl (Or.inl ⟨_, rfl⟩) (Or.inl rfl) d_R_gateAt_23 ?_
      exact hQ2 (by omega)
    · by_cases hy2 : x < 12
      · have e1 := i2 x (by omega)
        refine g_enter (by decide) rfl rfl (fun h => by first | rfl | cases h) (Nat.le_of_ble_eq_true rfl) rfl ?_
        refine g_iload_n (n := 1) (i := 1) rfl rfl d_R_gateAt_0 ?_
        refine g_if_lt_i (tgt := 22) (by omega) d_R_gateAt_1 (by decide) (fun h => by exfalso; omega) (fun h1 => ?_)
        refine g_iload_n (n := 1) (i := 1) rfl rfl d_R_gateAt_4 ?_
        refine g_aload_n (n := 0) (i := 0) rfl rfl d_R_gateAt_5 ?_
        refine g_getfield 1 0 f_R_11 (by assumption) (by rfl) d_R_gateAt_6 ?_
        refine g_alen_i (by assumption) (by decide) d_R_gateAt_9 ?_
        refine g_icmp_ge_i (tgt := 22) (by omega) (by omega) d_R_gateAt_10 (by decide) (fun h => by exfalso; omega) (fun h10 => ?_)
        refine g_aload_n (n := 0) (i := 0) rfl rfl d_R_gateAt_13 ?_
        refine g_getfield 1 0 f_R_11 (by assumption) (by rfl) d_R_gateAt_14 ?_
        refine g_iload_n (n := 1) (i := 1) rfl rfl d_R_gateAt_17 ?_
        refine g_aaloadN_i (by assumption) (by decide) (by rfl) (by omega) (by omega) (by rfl) (by assumption) d_R_gateAt_18 ?_
        refine g_goto (tgt := 23) (by decide) d_R_gateAt_19 ?_
        refine g_areturn rfl (Or.inl ⟨_, rfl⟩) (Or.inl rfl) d_R_gateAt_23 ?_
        exact hQ2 (by omega)
      · refine g_enter (by decide) rfl rfl (fun h => by first | rfl | cases h) (Nat.le_of_ble_eq_true rfl) rfl ?_
        refine g_iload_n (n := 1) (i := 1) rfl rfl d_R_gateAt_0 ?_
        refine g_if_lt_i (tgt := 22) (by omega) d_R_gateAt_1 (by decide) (fun h => by exfalso; omega) (fun h1 => ?_)
        refine g_iload_n (n := 1) (i := 1) rfl rfl d_R_gateAt_4 ?_
        refine g_aload_n (n := 0) (i := 0) rfl rfl d_R_gateAt_5 ?_
        refine g_getfield 1 0 f_R_11 (by assumption) (by rfl) d_R_gateAt_6 ?_
        refine g_alen_i (by assumption) (by decide) d_R_gateAt_9 ?_
        refine g_icmp_ge_i (tgt := 22) (by omega) (by omega) d_R_gateAt_10 (by decide) (fun h10 => ?_) (fun h => by exfalso; omega)
        refine g_null d_R_gateAt_22 ?_
        refine g_areturn rfl (Or.inl ⟨_, rfl⟩) (Or.inl rfl) d_R_gateAt_23 ?_
        exact hQ2 (by omega)


theorem c_R_productAt {E : gE} {w : gW} {im : gIm} {Q : gQ} {b : Nat} {R : Rz} (hz : RZ E w im b R) {x : Int} (rx : -2147483648 ≤ x ∧ x < 2147483648) (hQ1 : ∀ a, (0 ≤ x ∧ x < zp R) → im a = some (prodAt x (zP R x)) → Q (.inl (some (.ref a))) w im) (hQ2 : ¬ (0 ≤ x ∧ x < zp R) → Q (.inl (some .null)) w im) : GM E 0 y_R_productAt m_R_productAt 0 0 [.ref (gad E b), .int (iI x)] w im Q := by
  have hz9 := hz
  obtain ⟨rg, rp, rc, lc, ⟨hb, h0, h1, h2, h3, h4, hlc⟩, ⟨i1, i2, i3, i4, i5, i6⟩, ok⟩ := hz9
  obtain ⟨ok1, ok2, ok3, ok4, ok5, ok6, ok7, ok8, ok9⟩ := ok
  have co : g_cell E w im (gad E b) (resE E b R) := g_mut b (by omega) h0
  have cg : g_cell E w im (gad E (b + 1)) (rowE 4 12 rg) := g_mut (b + 1) (by omega) h1
  have cp : g_cell E w im (gad E (b + 2)) (rowE 5 8 rp) := g_mut (b + 2) (by omega) h2
  have cc : g_cell E w im (gad E (b + 3)) (rowE 6 20 rc) := g_mut (b + 3) (by omega) h3
  have cl : g_cell E w im (gad E (b + 4)) (intE 372 lc) := g_mut (b + 4) (by omega) h4
  by_cases hx : 0 ≤ x ∧ x < zp R
  · obtain ⟨a, e1, e2⟩ := i3 x hx
    refine g_enter (by decide) rfl rfl (fun h => by first | rfl | cases h) (Nat.le_of_ble_eq_true rfl) rfl ?_
    refine g_iload_n (n := 1) (i := 1) rfl rfl d_R_productAt_0 ?_
    refine g_if_lt_i (tgt := 22) (by omega) d_R_productAt_1 (by decide) (fun h => by exfalso; omega) (fun h1 => ?_)
    refine g_iload_n (n := 1) (i := 1) rfl rfl d_R_productAt_4 ?_
    refine g_aload_n (n := 0) (i := 0) rfl rfl d_R_productAt_5 ?_
    refine g_getfield 1 1 f_R_19 (by assumption) (by rfl) d_R_productAt_6 ?_
    refine g_alen_i (by assumption) (by decide) d_R_productAt_9 ?_
    refine g_icmp_ge_i (tgt := 22) (by omega) (by omega) d_R_productAt_10 (by decide) (fun h => by exfalso; omega) (fun h10 => ?_)
    refine g_aload_n (n := 0) (i := 0) rfl rfl d_R_productAt_13 ?_
    refine g_getfield 1 1 f_R_19 (by assumption) (by rfl) d_R_productAt_14 ?_
    refine g_iload_n (n := 1) (i := 1) rfl rfl d_R_productAt_17 ?_
    refine g_aaload_i (by assumption) (by decide) (by rfl) (by omega) (by omega) (by rfl) (by assumption) d_R_productAt_18 ?_
    refine g_goto (tgt := 23) (by decide) d_R_productAt_19 ?_
    refine g_areturn rfl (Or.inl ⟨_, rfl⟩) (Or.inr ⟨_, rfl⟩) d_R_productAt_23 ?_
    exact hQ1 a hx e2
  · by_cases hy : x < 0
    · refine g_enter (by decide) rfl rfl (fun h => by first | rfl | cases h) (Nat.le_of_ble_eq_true rfl) rfl ?_
      refine g_iload_n (n := 1) (i := 1) rfl rfl d_R_productAt_0 ?_
      refine g_if_lt_i (tgt := 22) (by omega) d_R_productAt_1 (by decide) (fun h1 => ?_) (fun h => by exfalso; omega)
      refine g_null d_R_productAt_22 ?_
      refine g_areturn rfl (Or.inl ⟨_, rfl⟩) (Or.inl rfl) d_R_productAt_23 ?_
      exact hQ2 (by omega)
    · by_cases hy2 : x < 8
      · have e1 := i4 x (by omega)
        refine g_enter (by decide) rfl rfl (fun h => by first | rfl | cases h) (Nat.le_of_ble_eq_true rfl) rfl ?_
        refine g_iload_n (n := 1) (i := 1) rfl rfl d_R_productAt_0 ?_
        refine g_if_lt_i (tgt := 22) (by omega) d_R_productAt_1 (by decide) (fun h => by exfalso; omega) (fun h1 => ?_)
        refine g_iload_n (n := 1) (i := 1) rfl rfl d_R_productAt_4 ?_
        refine g_aload_n (n := 0) (i := 0) rfl rfl d_R_productAt_5 ?_
        refine g_getfield 1 1 f_R_19 (by assumption) (by rfl) d_R_productAt_6 ?_
        refine g_alen_i (by assumption) (by decide) d_R_productAt_9 ?_
        refine g_icmp_ge_i (tgt := 22) (by omega) (by omega) d_R_productAt_10 (by decide) (fun h => by exfalso; omega) (fun h10 => ?_)
        refine g_aload_n (n := 0) (i := 0) rfl rfl d_R_productAt_13 ?_
        refine g_getfield 1 1 f_R_19 (by assumption) (by rfl) d_R_productAt_14 ?_
        refine g_iload_n (n := 1) (i := 1) rfl rfl d_R_productAt_17 ?_
        refine g_aaloadN_i (by assumption) (by decide) (by rfl) (by omega) (by omega) (by rfl) (by assumption) d_R_productAt_18 ?_
        refine g_goto (tgt := 23) (by decide) d_R_productAt_19 ?_
        refine g_areturn rfl (Or.inl ⟨_, rfl⟩) (Or.inl rfl) d_R_productAt_23 ?_
        exact hQ2 (by omega)
      · refine g_enter (by decide) rfl rfl (fun h => by first | rfl | cases h) (Nat.le_of_ble_eq_true rfl) rfl ?_
        refine g_iload_n (n := 1) (i := 1) rfl rfl d_R_productAt_0 ?_
        refine g_if_lt_i (tgt := 22) (by omega) d_R_productAt_1 (by decide) (fun h => by exfalso; omega) (fun h1 => ?_)
        refine g_iload_n (n := 1) (i := 1) rfl rfl d_R_productAt_4 ?_
        refine g_aload_n (n := 0) (i := 0) rfl rfl d_R_productAt_5 ?_
        refine g_getfield 1 1 f_R_19 (by assumption) (by rfl) d_R_productAt_6 ?_
        refine g_alen_i (by assumption) (by decide) d_R_productAt_9 ?_
        refine g_icmp_ge_i (tgt := 22) (by omega) (by omega) d_R_productAt_10 (by decide) (fun h10 => ?_) (fun h => by exfalso; omega)
        refine g_null d_R_productAt_22 ?_
        refine g_areturn rfl (Or.inl ⟨_, rfl⟩) (Or.inl rfl) d_R_productAt_23 ?_
        exact hQ2 (by omega)


theorem c_R_cardAt {E : gE} {w : gW} {im : gIm} {Q : gQ} {b : Nat} {R : Rz} (hz : RZ E w im b R) {x : Int} (rx : -2147483648 ≤ x ∧ x < 2147483648) (hQ1 : ∀ a p la, (0 ≤ x ∧ x < zc R) → im a = some (cardE x p (zC R x).2.1 (zC R x).2.2.1 (zC R x).2.2.2.1 la) → im p = some (prodAt (zC R x).1 (zP R (zC R x).1)) → chn im la (zC R x).2.2.2.2 → Q (.inl (some (.ref a))) w im) (hQ2 : ¬ (0 ≤ x ∧ x < zc R) → Q (.inl (some .null)) w im) : GM E 0 y_R_cardAt m_R_cardAt 0 0 [.ref (gad E b), .int (iI x)] w im Q := by
  have hz9 := hz
  obtain ⟨rg, rp, rc, lc, ⟨hb, h0, h1, h2, h3, h4, hlc⟩, ⟨i1, i2, i3, i4, i5, i6⟩, ok⟩ := hz9
  obtain ⟨ok1, ok2, ok3, ok4, ok5, ok6, ok7, ok8, ok9⟩ := ok
  have co : g_cell E w im (gad E b) (resE E b R) := g_mut b (by omega) h0
  have cg : g_cell E w im (gad E (b + 1)) (rowE 4 12 rg) := g_mut (b + 1) (by omega) h1
  have cp : g_cell E w im (gad E (b + 2)) (rowE 5 8 rp) := g_mut (b + 2) (by omega) h2
  have cc : g_cell E w im (gad E (b + 3)) (rowE 6 20 rc) := g_mut (b + 3) (by omega) h3
  have cl : g_cell E w im (gad E (b + 4)) (intE 372 lc) := g_mut (b + 4) (by omega) h4
  by_cases hx : 0 ≤ x ∧ x < zc R
  · obtain ⟨a, p, la, e1, e2, e3, e4⟩ := i5 x hx
    refine g_enter (by decide) rfl rfl (fun h => by first | rfl | cases h) (Nat.le_of_ble_eq_true rfl) rfl ?_
    refine g_iload_n (n := 1) (i := 1) rfl rfl d_R_cardAt_0 ?_
    refine g_if_lt_i (tgt := 22) (by omega) d_R_cardAt_1 (by decide) (fun h => by exfalso; omega) (fun h1 => ?_)
    refine g_iload_n (n := 1) (i := 1) rfl rfl d_R_cardAt_4 ?_
    refine g_aload_n (n := 0) (i := 0) rfl rfl d_R_cardAt_5 ?_
    refine g_getfield 1 2 f_R_25 (by assumption) (by rfl) d_R_cardAt_6 ?_
    refine g_alen_i (by assumption) (by decide) d_R_cardAt_9 ?_
    refine g_icmp_ge_i (tgt := 22) (by omega) (by omega) d_R_cardAt_10 (by decide) (fun h => by exfalso; omega) (fun h10 => ?_)
    refine g_aload_n (n := 0) (i := 0) rfl rfl d_R_cardAt_13 ?_
    refine g_getfield 1 2 f_R_25 (by assumption) (by rfl) d_R_cardAt_14 ?_
    refine g_iload_n (n := 1) (i := 1) rfl rfl d_R_cardAt_17 ?_
    refine g_aaload_i (by assumption) (by decide) (by rfl) (by omega) (by omega) (by rfl) (by assumption) d_R_cardAt_18 ?_
    refine g_goto (tgt := 23) (by decide) d_R_cardAt_19 ?_
    refine g_areturn rfl (Or.inl ⟨_, rfl⟩) (Or.inr ⟨_, rfl⟩) d_R_cardAt_23 ?_
    exact hQ1 a p la hx e2 e3 e4
  · by_cases hy : x < 0
    · refine g_enter (by decide) rfl rfl (fun h => by first | rfl | cases h) (Nat.le_of_ble_eq_true rfl) rfl ?_
      refine g_iload_n (n := 1) (i := 1) rfl rfl d_R_cardAt_0 ?_
      refine g_if_lt_i (tgt := 22) (by omega) d_R_cardAt_1 (by decide) (fun h1 => ?_) (fun h => by exfalso; omega)
      refine g_null d_R_cardAt_22 ?_
      refine g_areturn rfl (Or.inl ⟨_, rfl⟩) (Or.inl rfl) d_R_cardAt_23 ?_
      exact hQ2 (by omega)
    · by_cases hy2 : x < 20
      · have e1 := i6 x (by omega)
        refine g_enter (by decide) rfl rfl (fun h => by first | rfl | cases h) (Nat.le_of_ble_eq_true rfl) rfl ?_
        refine g_iload_n (n := 1) (i := 1) rfl rfl d_R_cardAt_0 ?_
        refine g_if_lt_i (tgt := 22) (by omega) d_R_cardAt_1 (by decide) (fun h => by exfalso; omega) (fun h1 => ?_)
        refine g_iload_n (n := 1) (i := 1) rfl rfl d_R_cardAt_4 ?_
        refine g_aload_n (n := 0) (i := 0) rfl rfl d_R_cardAt_5 ?_
        refine g_getfield 1 2 f_R_25 (by assumption) (by rfl) d_R_cardAt_6 ?_
        refine g_alen_i (by assumption) (by decide) d_R_cardAt_9 ?_
        refine g_icmp_ge_i (tgt := 22) (by omega) (by omega) d_R_cardAt_10 (by decide) (fun h => by exfalso; omega) (fun h10 => ?_)
        refine g_aload_n (n := 0) (i := 0) rfl rfl d_R_cardAt_13 ?_
        refine g_getfield 1 2 f_R_25 (by assumption) (by rfl) d_R_cardAt_14 ?_
        refine g_iload_n (n := 1) (i := 1) rfl rfl d_R_cardAt_17 ?_
        refine g_aaloadN_i (by assumption) (by decide) (by rfl) (by omega) (by omega) (by rfl) (by assumption) d_R_cardAt_18 ?_
        refine g_goto (tgt := 23) (by decide) d_R_cardAt_19 ?_
        refine g_areturn rfl (Or.inl ⟨_, rfl⟩) (Or.inl rfl) d_R_cardAt_23 ?_
        exact hQ2 (by omega)
      · refine g_enter (by decide) rfl rfl (fun h => by first | rfl | cases h) (Nat.le_of_ble_eq_true rfl) rfl ?_
        refine g_iload_n (n := 1) (i := 1) rfl rfl d_R_cardAt_0 ?_
        refine g_if_lt_i (tgt := 22) (by omega) d_R_cardAt_1 (by decide) (fun h => by exfalso; omega) (fun h1 => ?_)
        refine g_iload_n (n := 1) (i := 1) rfl rfl d_R_cardAt_4 ?_
        refine g_aload_n (n := 0) (i := 0) rfl rfl d_R_cardAt_5 ?_
        refine g_getfield 1 2 f_R_25 (by assumption) (by rfl) d_R_cardAt_6 ?_
        refine g_alen_i (by assumption) (by decide) d_R_cardAt_9 ?_
        refine g_icmp_ge_i (tgt := 22) (by omega) (by omega) d_R_cardAt_10 (by decide) (fun h10 => ?_) (fun h => by exfalso; omega)
        refine g_null d_R_cardAt_22 ?_
        refine g_areturn rfl (Or.inl ⟨_, rfl⟩) (Or.inl rfl) d_R_cardAt_23 ?_
        exact hQ2 (by omega)


theorem c_R_cardsInForce {E : gE} {w : gW} {im : gIm} {Q : gQ} {b : Nat} {R : Rz} (hz : RZ E w im b R) (hQ : Q (.inl (some (.int (iI (sumZ (fun k9 => if k9 < zc R then (if (zC R k9).2.1 = 2 then 0 else 1) else 0) 20))))) w im) : GM E 0 y_R_cardsInForce m_R_cardsInForce 0 0 [.ref (gad E b)] w im Q := by
  have hz9 := hz
  obtain ⟨rg, rp, rc, lc, ⟨hb, h0, h1, h2, h3, h4, hlc⟩, ⟨i1, i2, i3, i4, i5, i6⟩, ok⟩ := hz9
  obtain ⟨ok1, ok2, ok3, ok4, ok5, ok6, ok7, ok8, ok9⟩ := ok
  have co : g_cell E w im (gad E b) (resE E b R) := g_mut b (by omega) h0
  have cg : g_cell E w im (gad E (b + 1)) (rowE 4 12 rg) := g_mut (b + 1) (by omega) h1
  have cp : g_cell E w im (gad E (b + 2)) (rowE 5 8 rp) := g_mut (b + 2) (by omega) h2
  have cc : g_cell E w im (gad E (b + 3)) (rowE 6 20 rc) := g_mut (b + 3) (by omega) h3
  have cl : g_cell E w im (gad E (b + 4)) (intE 372 lc) := g_mut (b + 4) (by omega) h4
  have loop : ∀ (n9 : Nat) (k9 s9 : Int), 0 ≤ k9 → k9 + n9 = 20 → s9 = sumZ (fun k9 => if k9 < zc R then (if (zC R k9).2.1 = 2 then 0 else 1) else 0) k9 → G E 0 m_R_cardsInForce 13 [(0, .ref (gad E b)), (1, .int (iI s9)), (2, .ref (gad E (b + 3))), (3, .int (iI 20)), (4, .int (iI k9))] [] w im 0 0 Q := by
    intro n9
    induction n9 with
    | zero =>
      intro k9 s9 h9 hk9 hs9
      have e9 : k9 = 20 := by omega
      rw [e9] at hs9
      refine g_iload (i := 4) rfl d_R_cardsInForce_13 ?_
      refine g_iload_n (n := 3) (i := 3) rfl rfl d_R_cardsInForce_15 ?_
      refine g_icmp_ge_i (tgt := 53) (by omega) (by decide) d_R_cardsInForce_16 (by decide) (fun h16 => ?_) (fun h => by exfalso; omega)
      refine g_iload_n (n := 1) (i := 1) rfl rfl d_R_cardsInForce_53 ?_
      refine g_ireturn_i rfl d_R_cardsInForce_54 ?_
      exact g_qi hQ hs9
    | succ n9 ih =>
      intro k9 s9 h9 hk9 hs9
      by_cases hc9 : k9 < zc R
      · obtain ⟨a9, p9, la9, e1, e2, e3, e4⟩ := i5 k9 ⟨h9, hc9⟩
        have c1 := g_imm (E := E) (w := w) e2
        have c2 := g_imm (E := E) (w := w) e3
        obtain ⟨o1, o2, o3, o4, o5⟩ := ok8 k9 ⟨h9, hc9⟩
        have oq := ok7 (zC R k9).1 o1
        have hlen := o5.1
        refine g_iload (i := 4) rfl d_R_cardsInForce_13 ?_
        refine g_iload_n (n := 3) (i := 3) rfl rfl d_R_cardsInForce_15 ?_
        refine g_icmp_ge_i (tgt := 53) (by omega) (by decide) d_R_cardsInForce_16 (by decide) (fun h => by exfalso; omega) (fun h16 => ?_)
        refine g_aload_n (n := 2) (i := 2) rfl rfl d_R_cardsInForce_19 ?_
        refine g_iload (i := 4) rfl d_R_cardsInForce_20 ?_
        refine g_aaload_i (by assumption) (by decide) (by rfl) (by omega) (by omega) (by rfl) (by assumption) d_R_cardsInForce_22 ?_
        refine g_astore (i := 5) (by decide) rfl d_R_cardsInForce_23 ?_
        refine g_iload_n (n := 1) (i := 1) rfl rfl d_R_cardsInForce_25 ?_
        refine g_aload (i := 5) rfl d_R_cardsInForce_26 ?_
        refine g_ifnull d_R_cardsInForce_28 ?_
        refine g_aload (i := 5) rfl d_R_cardsInForce_31 ?_
        refine g_getfield 8 2 f_R_150 (by assumption) (by rfl) d_R_cardsInForce_33 ?_
        refine g_iconst_i d_R_cardsInForce_36 ?_
        refine g_icmp_eq_i (tgt := 44) (by omega) (by decide) d_R_cardsInForce_37 (by decide) (fun h37 => ?_) (fun h37 => ?_)
        · refine g_iconst_i d_R_cardsInForce_44 ?_
          refine g_iadd_i d_R_cardsInForce_45 ?_
          refine g_istore_n (n := 1) (i := 1) rfl (by decide) rfl d_R_cardsInForce_46 ?_
          refine g_iinc_i (i := 4) rfl (by decide) rfl d_R_cardsInForce_47 ?_
          refine g_goto (tgt := 13) (by decide) d_R_cardsInForce_50 ?_
          exact g_cut (lv' := [(0, .ref (gad E b)), (1, .int (iI _)), (2, .ref (gad E (b + 3))), (3, .int (iI 20)), (4, .int (iI (k9 + 1)))]) ⟨rfl, rfl, rfl, rfl, rfl, trivial⟩ (ih (k9 + 1) _ (by omega) (by omega) (by rw [sumZ_s (by omega)]; first | omega | (simp only [if_pos hc9]; omega) | (simp only [if_neg hc9]; omega) | (simp [*]; done) | (simp [*]; omega)))
        · refine g_iconst_i d_R_cardsInForce_40 ?_
          refine g_goto (tgt := 45) (by decide) d_R_cardsInForce_41 ?_
          refine g_iadd_i d_R_cardsInForce_45 ?_
          refine g_istore_n (n := 1) (i := 1) rfl (by decide) rfl d_R_cardsInForce_46 ?_
          refine g_iinc_i (i := 4) rfl (by decide) rfl d_R_cardsInForce_47 ?_
          refine g_goto (tgt := 13) (by decide) d_R_cardsInForce_50 ?_
          exact g_cut (lv' := [(0, .ref (gad E b)), (1, .int (iI _)), (2, .ref (gad E (b + 3))), (3, .int (iI 20)), (4, .int (iI (k9 + 1)))]) ⟨rfl, rfl, rfl, rfl, rfl, trivial⟩ (ih (k9 + 1) _ (by omega) (by omega) (by rw [sumZ_s (by omega)]; first | omega | (simp only [if_pos hc9]; omega) | (simp only [if_neg hc9]; omega) | (simp [*]; done) | (simp [*]; omega)))
      · have e1 := i6 k9 (by omega)
        refine g_iload (i := 4) rfl d_R_cardsInForce_13 ?_
        refine g_iload_n (n := 3) (i := 3) rfl rfl d_R_cardsInForce_15 ?_
        refine g_icmp_ge_i (tgt := 53) (by omega) (by decide) d_R_cardsInForce_16 (by decide) (fun h => by exfalso; omega) (fun h16 => ?_)
        refine g_aload_n (n := 2) (i := 2) rfl rfl d_R_cardsInForce_19 ?_
        refine g_iload (i := 4) rfl d_R_cardsInForce_20 ?_
        refine g_aaloadN_i (by assumption) (by decide) (by rfl) (by omega) (by omega) (by rfl) (by assumption) d_R_cardsInForce_22 ?_
        refine g_astoreN (i := 5) (by decide) rfl d_R_cardsInForce_23 ?_
        refine g_iload_n (n := 1) (i := 1) rfl rfl d_R_cardsInForce_25 ?_
        refine g_aloadN (i := 5) rfl d_R_cardsInForce_26 ?_
        refine g_ifnullN (tgt := 44) (by decide) d_R_cardsInForce_28 ?_
        refine g_iconst_i d_R_cardsInForce_44 ?_
        refine g_iadd_i d_R_cardsInForce_45 ?_
        refine g_istore_n (n := 1) (i := 1) rfl (by decide) rfl d_R_cardsInForce_46 ?_
        refine g_iinc_i (i := 4) rfl (by decide) rfl d_R_cardsInForce_47 ?_
        refine g_goto (tgt := 13) (by decide) d_R_cardsInForce_50 ?_
        exact g_cut (lv' := [(0, .ref (gad E b)), (1, .int (iI _)), (2, .ref (gad E (b + 3))), (3, .int (iI 20)), (4, .int (iI (k9 + 1)))]) ⟨rfl, rfl, rfl, rfl, rfl, trivial⟩ (ih (k9 + 1) _ (by omega) (by omega) (by rw [sumZ_s (by omega)]; first | omega | (simp only [if_pos hc9]; omega) | (simp only [if_neg hc9]; omega) | (simp [*]; done) | (simp [*]; omega)))
  refine g_enter (by decide) rfl rfl (fun h => by first | rfl | cases h) (Nat.le_of_ble_eq_true rfl) rfl ?_
  refine g_iconst_i d_R_cardsInForce_0 ?_
  refine g_istore_n (n := 1) (i := 1) rfl (by decide) rfl d_R_cardsInForce_1 ?_
  refine g_aload_n (n := 0) (i := 0) rfl rfl d_R_cardsInForce_2 ?_
  refine g_getfield 1 2 f_R_25 (by assumption) (by rfl) d_R_cardsInForce_3 ?_
  refine g_astore_n (n := 2) (i := 2) rfl (by decide) rfl d_R_cardsInForce_6 ?_
  refine g_aload_n (n := 2) (i := 2) rfl rfl d_R_cardsInForce_7 ?_
  refine g_alen_i (by assumption) (by decide) d_R_cardsInForce_8 ?_
  refine g_istore_n (n := 3) (i := 3) rfl (by decide) rfl d_R_cardsInForce_9 ?_
  refine g_iconst_i d_R_cardsInForce_10 ?_
  refine g_istore (i := 4) (by decide) rfl d_R_cardsInForce_11 ?_
  refine g_cut ?_ (loop 20 0 0 (by omega) (by omega) rfl)
  exact ⟨rfl, rfl, rfl, rfl, rfl, trivial⟩

theorem c_R_ridesOnAllCards {E : gE} {w : gW} {im : gIm} {Q : gQ} {b : Nat} {R : Rz} (hz : RZ E w im b R) (hQ : Q (.inl (some (.int (iI (sumZ (fun k9 => if k9 < zc R then ((zC R k9).2.2.2.2.length : Int) else 0) 20))))) w im) : GM E 1 y_R_ridesOnAllCards m_R_ridesOnAllCards 0 0 [.ref (gad E b)] w im Q := by
  have hz9 := hz
  obtain ⟨rg, rp, rc, lc, ⟨hb, h0, h1, h2, h3, h4, hlc⟩, ⟨i1, i2, i3, i4, i5, i6⟩, ok⟩ := hz9
  obtain ⟨ok1, ok2, ok3, ok4, ok5, ok6, ok7, ok8, ok9⟩ := ok
  have co : g_cell E w im (gad E b) (resE E b R) := g_mut b (by omega) h0
  have cg : g_cell E w im (gad E (b + 1)) (rowE 4 12 rg) := g_mut (b + 1) (by omega) h1
  have cp : g_cell E w im (gad E (b + 2)) (rowE 5 8 rp) := g_mut (b + 2) (by omega) h2
  have cc : g_cell E w im (gad E (b + 3)) (rowE 6 20 rc) := g_mut (b + 3) (by omega) h3
  have cl : g_cell E w im (gad E (b + 4)) (intE 372 lc) := g_mut (b + 4) (by omega) h4
  have loop : ∀ (n9 : Nat) (k9 s9 : Int), 0 ≤ k9 → k9 + n9 = 20 → s9 = sumZ (fun k9 => if k9 < zc R then ((zC R k9).2.2.2.2.length : Int) else 0) k9 → G E 1 m_R_ridesOnAllCards 13 [(0, .ref (gad E b)), (1, .int (iI s9)), (2, .ref (gad E (b + 3))), (3, .int (iI 20)), (4, .int (iI k9))] [] w im 0 0 Q := by
    intro n9
    induction n9 with
    | zero =>
      intro k9 s9 h9 hk9 hs9
      have e9 : k9 = 20 := by omega
      rw [e9] at hs9
      refine g_iload (i := 4) rfl d_R_ridesOnAllCards_13 ?_
      refine g_iload_n (n := 3) (i := 3) rfl rfl d_R_ridesOnAllCards_15 ?_
      refine g_icmp_ge_i (tgt := 48) (by omega) (by decide) d_R_ridesOnAllCards_16 (by decide) (fun h16 => ?_) (fun h => by exfalso; omega)
      refine g_iload_n (n := 1) (i := 1) rfl rfl d_R_ridesOnAllCards_48 ?_
      refine g_ireturn_i rfl d_R_ridesOnAllCards_49 ?_
      exact g_qi hQ hs9
    | succ n9 ih =>
      intro k9 s9 h9 hk9 hs9
      by_cases hc9 : k9 < zc R
      · obtain ⟨a9, p9, la9, e1, e2, e3, e4⟩ := i5 k9 ⟨h9, hc9⟩
        have c1 := g_imm (E := E) (w := w) e2
        have c2 := g_imm (E := E) (w := w) e3
        obtain ⟨o1, o2, o3, o4, o5⟩ := ok8 k9 ⟨h9, hc9⟩
        have oq := ok7 (zC R k9).1 o1
        have hlen := o5.1
        refine g_iload (i := 4) rfl d_R_ridesOnAllCards_13 ?_
        refine g_iload_n (n := 3) (i := 3) rfl rfl d_R_ridesOnAllCards_15 ?_
        refine g_icmp_ge_i (tgt := 48) (by omega) (by decide) d_R_ridesOnAllCards_16 (by decide) (fun h => by exfalso; omega) (fun h16 => ?_)
        refine g_aload_n (n := 2) (i := 2) rfl rfl d_R_ridesOnAllCards_19 ?_
        refine g_iload (i := 4) rfl d_R_ridesOnAllCards_20 ?_
        refine g_aaload_i (by assumption) (by decide) (by rfl) (by omega) (by omega) (by rfl) (by assumption) d_R_ridesOnAllCards_22 ?_
        refine g_astore (i := 5) (by decide) rfl d_R_ridesOnAllCards_23 ?_
        refine g_iload_n (n := 1) (i := 1) rfl rfl d_R_ridesOnAllCards_25 ?_
        refine g_aload (i := 5) rfl d_R_ridesOnAllCards_26 ?_
        refine g_ifnonnull (tgt := 35) (by decide) d_R_ridesOnAllCards_28 ?_
        refine g_aload (i := 5) rfl d_R_ridesOnAllCards_35 ?_
        refine g_callV0 rfl rfl e_C_rideCount l_R_189 iv_C_rideCount 8 (by decide) rfl (by assumption) (by decide) (Nat.zero_le _) (Nat.zero_le _) (Nat.le_of_ble_eq_true rfl) d_R_ridesOnAllCards_37 (c_C_rideCount (by assumption) (by assumption) (by assumption) ?_)
        refine g_ret ?_
        refine g_iadd_i d_R_ridesOnAllCards_40 ?_
        refine g_istore_n (n := 1) (i := 1) rfl (by decide) rfl d_R_ridesOnAllCards_41 ?_
        refine g_iinc_i (i := 4) rfl (by decide) rfl d_R_ridesOnAllCards_42 ?_
        refine g_goto (tgt := 13) (by decide) d_R_ridesOnAllCards_45 ?_
        exact g_cut (lv' := [(0, .ref (gad E b)), (1, .int (iI _)), (2, .ref (gad E (b + 3))), (3, .int (iI 20)), (4, .int (iI (k9 + 1)))]) ⟨rfl, rfl, rfl, rfl, rfl, trivial⟩ (ih (k9 + 1) _ (by omega) (by omega) (by rw [sumZ_s (by omega)]; first | omega | (simp only [if_pos hc9]; omega) | (simp only [if_neg hc9]; omega) | (simp [*]; done) | (simp [*]; omega)))
      · have e1 := i6 k9 (by omega)
        refine g_iload (i := 4) rfl d_R_ridesOnAllCards_13 ?_
        refine g_iload_n (n := 3) (i := 3) rfl rfl d_R_ridesOnAllCards_15 ?_
        refine g_icmp_ge_i (tgt := 48) (by omega) (by decide) d_R_ridesOnAllCards_16 (by decide) (fun h => by exfalso; omega) (fun h16 => ?_)
        refine g_aload_n (n := 2) (i := 2) rfl rfl d_R_ridesOnAllCards_19 ?_
        refine g_iload (i := 4) rfl d_R_ridesOnAllCards_20 ?_
        refine g_aaloadN_i (by assumption) (by decide) (by rfl) (by omega) (by omega) (by rfl) (by assumption) d_R_ridesOnAllCards_22 ?_
        refine g_astoreN (i := 5) (by decide) rfl d_R_ridesOnAllCards_23 ?_
        refine g_iload_n (n := 1) (i := 1) rfl rfl d_R_ridesOnAllCards_25 ?_
        refine g_aloadN (i := 5) rfl d_R_ridesOnAllCards_26 ?_
        refine g_ifnonnullN d_R_ridesOnAllCards_28 ?_
        refine g_iconst_i d_R_ridesOnAllCards_31 ?_
        refine g_goto (tgt := 40) (by decide) d_R_ridesOnAllCards_32 ?_
        refine g_iadd_i d_R_ridesOnAllCards_40 ?_
        refine g_istore_n (n := 1) (i := 1) rfl (by decide) rfl d_R_ridesOnAllCards_41 ?_
        refine g_iinc_i (i := 4) rfl (by decide) rfl d_R_ridesOnAllCards_42 ?_
        refine g_goto (tgt := 13) (by decide) d_R_ridesOnAllCards_45 ?_
        exact g_cut (lv' := [(0, .ref (gad E b)), (1, .int (iI _)), (2, .ref (gad E (b + 3))), (3, .int (iI 20)), (4, .int (iI (k9 + 1)))]) ⟨rfl, rfl, rfl, rfl, rfl, trivial⟩ (ih (k9 + 1) _ (by omega) (by omega) (by rw [sumZ_s (by omega)]; first | omega | (simp only [if_pos hc9]; omega) | (simp only [if_neg hc9]; omega) | (simp [*]; done) | (simp [*]; omega)))
  refine g_enter (by decide) rfl rfl (fun h => by first | rfl | cases h) (Nat.le_of_ble_eq_true rfl) rfl ?_
  refine g_iconst_i d_R_ridesOnAllCards_0 ?_
  refine g_istore_n (n := 1) (i := 1) rfl (by decide) rfl d_R_ridesOnAllCards_1 ?_
  refine g_aload_n (n := 0) (i := 0) rfl rfl d_R_ridesOnAllCards_2 ?_
  refine g_getfield 1 2 f_R_25 (by assumption) (by rfl) d_R_ridesOnAllCards_3 ?_
  refine g_astore_n (n := 2) (i := 2) rfl (by decide) rfl d_R_ridesOnAllCards_6 ?_
  refine g_aload_n (n := 2) (i := 2) rfl rfl d_R_ridesOnAllCards_7 ?_
  refine g_alen_i (by assumption) (by decide) d_R_ridesOnAllCards_8 ?_
  refine g_istore_n (n := 3) (i := 3) rfl (by decide) rfl d_R_ridesOnAllCards_9 ?_
  refine g_iconst_i d_R_ridesOnAllCards_10 ?_
  refine g_istore (i := 4) (by decide) rfl d_R_ridesOnAllCards_11 ?_
  refine g_cut ?_ (loop 20 0 0 (by omega) (by omega) rfl)
  exact ⟨rfl, rfl, rfl, rfl, rfl, trivial⟩

theorem c_R_allPrices {E : gE} {w : gW} {im : gIm} {Q : gQ} {b : Nat} {R : Rz} (hz : RZ E w im b R) (hQ : Q (.inl (some (.int (iI (sumZ (fun k9 => if k9 < zc R then (if (zC R k9).2.1 = 2 then 0 else (zP R (zC R k9).1).2.2.2.2.2) else 0) 20))))) w im) : GM E 1 y_R_allPrices m_R_allPrices 0 0 [.ref (gad E b)] w im Q := by
  have hz9 := hz
  obtain ⟨rg, rp, rc, lc, ⟨hb, h0, h1, h2, h3, h4, hlc⟩, ⟨i1, i2, i3, i4, i5, i6⟩, ok⟩ := hz9
  obtain ⟨ok1, ok2, ok3, ok4, ok5, ok6, ok7, ok8, ok9⟩ := ok
  have co : g_cell E w im (gad E b) (resE E b R) := g_mut b (by omega) h0
  have cg : g_cell E w im (gad E (b + 1)) (rowE 4 12 rg) := g_mut (b + 1) (by omega) h1
  have cp : g_cell E w im (gad E (b + 2)) (rowE 5 8 rp) := g_mut (b + 2) (by omega) h2
  have cc : g_cell E w im (gad E (b + 3)) (rowE 6 20 rc) := g_mut (b + 3) (by omega) h3
  have cl : g_cell E w im (gad E (b + 4)) (intE 372 lc) := g_mut (b + 4) (by omega) h4
  have loop : ∀ (n9 : Nat) (k9 s9 : Int), 0 ≤ k9 → k9 + n9 = 20 → s9 = sumZ (fun k9 => if k9 < zc R then (if (zC R k9).2.1 = 2 then 0 else (zP R (zC R k9).1).2.2.2.2.2) else 0) k9 → G E 1 m_R_allPrices 13 [(0, .ref (gad E b)), (1, .int (iI s9)), (2, .ref (gad E (b + 3))), (3, .int (iI 20)), (4, .int (iI k9))] [] w im 0 0 Q := by
    intro n9
    induction n9 with
    | zero =>
      intro k9 s9 h9 hk9 hs9
      have e9 : k9 = 20 := by omega
      rw [e9] at hs9
      refine g_iload (i := 4) rfl d_R_allPrices_13 ?_
      refine g_iload_n (n := 3) (i := 3) rfl rfl d_R_allPrices_15 ?_
      refine g_icmp_ge_i (tgt := 48) (by omega) (by decide) d_R_allPrices_16 (by decide) (fun h16 => ?_) (fun h => by exfalso; omega)
      refine g_iload_n (n := 1) (i := 1) rfl rfl d_R_allPrices_48 ?_
      refine g_ireturn_i rfl d_R_allPrices_49 ?_
      exact g_qi hQ hs9
    | succ n9 ih =>
      intro k9 s9 h9 hk9 hs9
      by_cases hc9 : k9 < zc R
      · obtain ⟨a9, p9, la9, e1, e2, e3, e4⟩ := i5 k9 ⟨h9, hc9⟩
        have c1 := g_imm (E := E) (w := w) e2
        have c2 := g_imm (E := E) (w := w) e3
        obtain ⟨o1, o2, o3, o4, o5⟩ := ok8 k9 ⟨h9, hc9⟩
        have oq := ok7 (zC R k9).1 o1
        have hlen := o5.1
        refine g_iload (i := 4) rfl d_R_allPrices_13 ?_
        refine g_iload_n (n := 3) (i := 3) rfl rfl d_R_allPrices_15 ?_
        refine g_icmp_ge_i (tgt := 48) (by omega) (by decide) d_R_allPrices_16 (by decide) (fun h => by exfalso; omega) (fun h16 => ?_)
        refine g_aload_n (n := 2) (i := 2) rfl rfl d_R_allPrices_19 ?_
        refine g_iload (i := 4) rfl d_R_allPrices_20 ?_
        refine g_aaload_i (by assumption) (by decide) (by rfl) (by omega) (by omega) (by rfl) (by assumption) d_R_allPrices_22 ?_
        refine g_astore (i := 5) (by decide) rfl d_R_allPrices_23 ?_
        refine g_iload_n (n := 1) (i := 1) rfl rfl d_R_allPrices_25 ?_
        refine g_aload (i := 5) rfl d_R_allPrices_26 ?_
        refine g_ifnonnull (tgt := 35) (by decide) d_R_allPrices_28 ?_
        refine g_aload (i := 5) rfl d_R_allPrices_35 ?_
        refine g_callV0 rfl rfl e_C_price l_R_216 iv_C_price 8 (by decide) rfl (by assumption) (by decide) (Nat.zero_le _) (Nat.zero_le _) (Nat.le_of_ble_eq_true rfl) d_R_allPrices_37 (c_C_price (by assumption) (by assumption) (by omega) ?_)
        refine g_ret ?_
        refine g_iadd_i d_R_allPrices_40 ?_
        refine g_istore_n (n := 1) (i := 1) rfl (by decide) rfl d_R_allPrices_41 ?_
        refine g_iinc_i (i := 4) rfl (by decide) rfl d_R_allPrices_42 ?_
        refine g_goto (tgt := 13) (by decide) d_R_allPrices_45 ?_
        exact g_cut (lv' := [(0, .ref (gad E b)), (1, .int (iI _)), (2, .ref (gad E (b + 3))), (3, .int (iI 20)), (4, .int (iI (k9 + 1)))]) ⟨rfl, rfl, rfl, rfl, rfl, trivial⟩ (ih (k9 + 1) _ (by omega) (by omega) (by rw [sumZ_s (by omega)]; first | omega | (simp only [if_pos hc9]; omega) | (simp only [if_neg hc9]; omega) | (simp [*]; done) | (simp [*]; omega)))
      · have e1 := i6 k9 (by omega)
        refine g_iload (i := 4) rfl d_R_allPrices_13 ?_
        refine g_iload_n (n := 3) (i := 3) rfl rfl d_R_allPrices_15 ?_
        refine g_icmp_ge_i (tgt := 48) (by omega) (by decide) d_R_allPrices_16 (by decide) (fun h => by exfalso; omega) (fun h16 => ?_)
        refine g_aload_n (n := 2) (i := 2) rfl rfl d_R_allPrices_19 ?_
        refine g_iload (i := 4) rfl d_R_allPrices_20 ?_
        refine g_aaloadN_i (by assumption) (by decide) (by rfl) (by omega) (by omega) (by rfl) (by assumption) d_R_allPrices_22 ?_
        refine g_astoreN (i := 5) (by decide) rfl d_R_allPrices_23 ?_
        refine g_iload_n (n := 1) (i := 1) rfl rfl d_R_allPrices_25 ?_
        refine g_aloadN (i := 5) rfl d_R_allPrices_26 ?_
        refine g_ifnonnullN d_R_allPrices_28 ?_
        refine g_iconst_i d_R_allPrices_31 ?_
        refine g_goto (tgt := 40) (by decide) d_R_allPrices_32 ?_
        refine g_iadd_i d_R_allPrices_40 ?_
        refine g_istore_n (n := 1) (i := 1) rfl (by decide) rfl d_R_allPrices_41 ?_
        refine g_iinc_i (i := 4) rfl (by decide) rfl d_R_allPrices_42 ?_
        refine g_goto (tgt := 13) (by decide) d_R_allPrices_45 ?_
        exact g_cut (lv' := [(0, .ref (gad E b)), (1, .int (iI _)), (2, .ref (gad E (b + 3))), (3, .int (iI 20)), (4, .int (iI (k9 + 1)))]) ⟨rfl, rfl, rfl, rfl, rfl, trivial⟩ (ih (k9 + 1) _ (by omega) (by omega) (by rw [sumZ_s (by omega)]; first | omega | (simp only [if_pos hc9]; omega) | (simp only [if_neg hc9]; omega) | (simp [*]; done) | (simp [*]; omega)))
  refine g_enter (by decide) rfl rfl (fun h => by first | rfl | cases h) (Nat.le_of_ble_eq_true rfl) rfl ?_
  refine g_iconst_i d_R_allPrices_0 ?_
  refine g_istore_n (n := 1) (i := 1) rfl (by decide) rfl d_R_allPrices_1 ?_
  refine g_aload_n (n := 0) (i := 0) rfl rfl d_R_allPrices_2 ?_
  refine g_getfield 1 2 f_R_25 (by assumption) (by rfl) d_R_allPrices_3 ?_
  refine g_astore_n (n := 2) (i := 2) rfl (by decide) rfl d_R_allPrices_6 ?_
  refine g_aload_n (n := 2) (i := 2) rfl rfl d_R_allPrices_7 ?_
  refine g_alen_i (by assumption) (by decide) d_R_allPrices_8 ?_
  refine g_istore_n (n := 3) (i := 3) rfl (by decide) rfl d_R_allPrices_9 ?_
  refine g_iconst_i d_R_allPrices_10 ?_
  refine g_istore (i := 4) (by decide) rfl d_R_allPrices_11 ?_
  refine g_cut ?_ (loop 20 0 0 (by omega) (by omega) rfl)
  exact ⟨rfl, rfl, rfl, rfl, rfl, trivial⟩

theorem c_R_allRefunds {E : gE} {w : gW} {im : gIm} {Q : gQ} {b : Nat} {R : Rz} (hz : RZ E w im b R) (hQ : Q (.inl (some (.int (iI (sumZ (fun k9 => if k9 < zc R then (zC R k9).2.2.2.1 else 0) 20))))) w im) : GM E 0 y_R_allRefunds m_R_allRefunds 0 0 [.ref (gad E b)] w im Q := by
  have hz9 := hz
  obtain ⟨rg, rp, rc, lc, ⟨hb, h0, h1, h2, h3, h4, hlc⟩, ⟨i1, i2, i3, i4, i5, i6⟩, ok⟩ := hz9
  obtain ⟨ok1, ok2, ok3, ok4, ok5, ok6, ok7, ok8, ok9⟩ := ok
  have co : g_cell E w im (gad E b) (resE E b R) := g_mut b (by omega) h0
  have cg : g_cell E w im (gad E (b + 1)) (rowE 4 12 rg) := g_mut (b + 1) (by omega) h1
  have cp : g_cell E w im (gad E (b + 2)) (rowE 5 8 rp) := g_mut (b + 2) (by omega) h2
  have cc : g_cell E w im (gad E (b + 3)) (rowE 6 20 rc) := g_mut (b + 3) (by omega) h3
  have cl : g_cell E w im (gad E (b + 4)) (intE 372 lc) := g_mut (b + 4) (by omega) h4
  have loop : ∀ (n9 : Nat) (k9 s9 : Int), 0 ≤ k9 → k9 + n9 = 20 → s9 = sumZ (fun k9 => if k9 < zc R then (zC R k9).2.2.2.1 else 0) k9 → G E 0 m_R_allRefunds 13 [(0, .ref (gad E b)), (1, .int (iI s9)), (2, .ref (gad E (b + 3))), (3, .int (iI 20)), (4, .int (iI k9))] [] w im 0 0 Q := by
    intro n9
    induction n9 with
    | zero =>
      intro k9 s9 h9 hk9 hs9
      have e9 : k9 = 20 := by omega
      rw [e9] at hs9
      refine g_iload (i := 4) rfl d_R_allRefunds_13 ?_
      refine g_iload_n (n := 3) (i := 3) rfl rfl d_R_allRefunds_15 ?_
      refine g_icmp_ge_i (tgt := 48) (by omega) (by decide) d_R_allRefunds_16 (by decide) (fun h16 => ?_) (fun h => by exfalso; omega)
      refine g_iload_n (n := 1) (i := 1) rfl rfl d_R_allRefunds_48 ?_
      refine g_ireturn_i rfl d_R_allRefunds_49 ?_
      exact g_qi hQ hs9
    | succ n9 ih =>
      intro k9 s9 h9 hk9 hs9
      by_cases hc9 : k9 < zc R
      · obtain ⟨a9, p9, la9, e1, e2, e3, e4⟩ := i5 k9 ⟨h9, hc9⟩
        have c1 := g_imm (E := E) (w := w) e2
        have c2 := g_imm (E := E) (w := w) e3
        obtain ⟨o1, o2, o3, o4, o5⟩ := ok8 k9 ⟨h9, hc9⟩
        have oq := ok7 (zC R k9).1 o1
        have hlen := o5.1
        refine g_iload (i := 4) rfl d_R_allRefunds_13 ?_
        refine g_iload_n (n := 3) (i := 3) rfl rfl d_R_allRefunds_15 ?_
        refine g_icmp_ge_i (tgt := 48) (by omega) (by decide) d_R_allRefunds_16 (by decide) (fun h => by exfalso; omega) (fun h16 => ?_)
        refine g_aload_n (n := 2) (i := 2) rfl rfl d_R_allRefunds_19 ?_
        refine g_iload (i := 4) rfl d_R_allRefunds_20 ?_
        refine g_aaload_i (by assumption) (by decide) (by rfl) (by omega) (by omega) (by rfl) (by assumption) d_R_allRefunds_22 ?_
        refine g_astore (i := 5) (by decide) rfl d_R_allRefunds_23 ?_
        refine g_iload_n (n := 1) (i := 1) rfl rfl d_R_allRefunds_25 ?_
        refine g_aload (i := 5) rfl d_R_allRefunds_26 ?_
        refine g_ifnonnull (tgt := 35) (by decide) d_R_allRefunds_28 ?_
        refine g_aload (i := 5) rfl d_R_allRefunds_35 ?_
        refine g_getfield 8 4 f_R_219 (by assumption) (by rfl) d_R_allRefunds_37 ?_
        refine g_iadd_i d_R_allRefunds_40 ?_
        refine g_istore_n (n := 1) (i := 1) rfl (by decide) rfl d_R_allRefunds_41 ?_
        refine g_iinc_i (i := 4) rfl (by decide) rfl d_R_allRefunds_42 ?_
        refine g_goto (tgt := 13) (by decide) d_R_allRefunds_45 ?_
        exact g_cut (lv' := [(0, .ref (gad E b)), (1, .int (iI _)), (2, .ref (gad E (b + 3))), (3, .int (iI 20)), (4, .int (iI (k9 + 1)))]) ⟨rfl, rfl, rfl, rfl, rfl, trivial⟩ (ih (k9 + 1) _ (by omega) (by omega) (by rw [sumZ_s (by omega)]; first | omega | (simp only [if_pos hc9]; omega) | (simp only [if_neg hc9]; omega) | (simp [*]; done) | (simp [*]; omega)))
      · have e1 := i6 k9 (by omega)
        refine g_iload (i := 4) rfl d_R_allRefunds_13 ?_
        refine g_iload_n (n := 3) (i := 3) rfl rfl d_R_allRefunds_15 ?_
        refine g_icmp_ge_i (tgt := 48) (by omega) (by decide) d_R_allRefunds_16 (by decide) (fun h => by exfalso; omega) (fun h16 => ?_)
        refine g_aload_n (n := 2) (i := 2) rfl rfl d_R_allRefunds_19 ?_
        refine g_iload (i := 4) rfl d_R_allRefunds_20 ?_
        refine g_aaloadN_i (by assumption) (by decide) (by rfl) (by omega) (by omega) (by rfl) (by assumption) d_R_allRefunds_22 ?_
        refine g_astoreN (i := 5) (by decide) rfl d_R_allRefunds_23 ?_
        refine g_iload_n (n := 1) (i := 1) rfl rfl d_R_allRefunds_25 ?_
        refine g_aloadN (i := 5) rfl d_R_allRefunds_26 ?_
        refine g_ifnonnullN d_R_allRefunds_28 ?_
        refine g_iconst_i d_R_allRefunds_31 ?_
        refine g_goto (tgt := 40) (by decide) d_R_allRefunds_32 ?_
        refine g_iadd_i d_R_allRefunds_40 ?_
        refine g_istore_n (n := 1) (i := 1) rfl (by decide) rfl d_R_allRefunds_41 ?_
        refine g_iinc_i (i := 4) rfl (by decide) rfl d_R_allRefunds_42 ?_
        refine g_goto (tgt := 13) (by decide) d_R_allRefunds_45 ?_
        exact g_cut (lv' := [(0, .ref (gad E b)), (1, .int (iI _)), (2, .ref (gad E (b + 3))), (3, .int (iI 20)), (4, .int (iI (k9 + 1)))]) ⟨rfl, rfl, rfl, rfl, rfl, trivial⟩ (ih (k9 + 1) _ (by omega) (by omega) (by rw [sumZ_s (by omega)]; first | omega | (simp only [if_pos hc9]; omega) | (simp only [if_neg hc9]; omega) | (simp [*]; done) | (simp [*]; omega)))
  refine g_enter (by decide) rfl rfl (fun h => by first | rfl | cases h) (Nat.le_of_ble_eq_true rfl) rfl ?_
  refine g_iconst_i d_R_allRefunds_0 ?_
  refine g_istore_n (n := 1) (i := 1) rfl (by decide) rfl d_R_allRefunds_1 ?_
  refine g_aload_n (n := 0) (i := 0) rfl rfl d_R_allRefunds_2 ?_
  refine g_getfield 1 2 f_R_25 (by assumption) (by rfl) d_R_allRefunds_3 ?_
  refine g_astore_n (n := 2) (i := 2) rfl (by decide) rfl d_R_allRefunds_6 ?_
  refine g_aload_n (n := 2) (i := 2) rfl rfl d_R_allRefunds_7 ?_
  refine g_alen_i (by assumption) (by decide) d_R_allRefunds_8 ?_
  refine g_istore_n (n := 3) (i := 3) rfl (by decide) rfl d_R_allRefunds_9 ?_
  refine g_iconst_i d_R_allRefunds_10 ?_
  refine g_istore (i := 4) (by decide) rfl d_R_allRefunds_11 ?_
  refine g_cut ?_ (loop 20 0 0 (by omega) (by omega) rfl)
  exact ⟨rfl, rfl, rfl, rfl, rfl, trivial⟩

theorem c_R_ridesAt {E : gE} {w : gW} {im : gIm} {Q : gQ} {b : Nat} {R : Rz} (hz : RZ E w im b R) {pa : Int} (rg9 : 0 ≤ pa ∧ pa ≤ 3) (hQ : Q (.inl (some (.int (iI (sumZ (fun k9 => if k9 < zc R then cntP pa (zC R k9).2.2.2.2 else 0) 20))))) w im) : GM E 1 y_R_ridesAt m_R_ridesAt 0 0 [.ref (gad E b), .int (iI pa)] w im Q := by
  have hz9 := hz
  obtain ⟨rg, rp, rc, lc, ⟨hb, h0, h1, h2, h3, h4, hlc⟩, ⟨i1, i2, i3, i4, i5, i6⟩, ok⟩ := hz9
  obtain ⟨ok1, ok2, ok3, ok4, ok5, ok6, ok7, ok8, ok9⟩ := ok
  have co : g_cell E w im (gad E b) (resE E b R) := g_mut b (by omega) h0
  have cg : g_cell E w im (gad E (b + 1)) (rowE 4 12 rg) := g_mut (b + 1) (by omega) h1
  have cp : g_cell E w im (gad E (b + 2)) (rowE 5 8 rp) := g_mut (b + 2) (by omega) h2
  have cc : g_cell E w im (gad E (b + 3)) (rowE 6 20 rc) := g_mut (b + 3) (by omega) h3
  have cl : g_cell E w im (gad E (b + 4)) (intE 372 lc) := g_mut (b + 4) (by omega) h4
  have loop : ∀ (n9 : Nat) (k9 s9 : Int), 0 ≤ k9 → k9 + n9 = 20 → s9 = sumZ (fun k9 => if k9 < zc R then cntP pa (zC R k9).2.2.2.2 else 0) k9 → G E 1 m_R_ridesAt 14 [(0, .ref (gad E b)), (1, .int (iI pa)), (2, .int (iI s9)), (3, .ref (gad E (b + 3))), (4, .int (iI 20)), (5, .int (iI k9))] [] w im 0 0 Q := by
    intro n9
    induction n9 with
    | zero =>
      intro k9 s9 h9 hk9 hs9
      have e9 : k9 = 20 := by omega
      rw [e9] at hs9
      refine g_iload (i := 5) rfl d_R_ridesAt_14 ?_
      refine g_iload (i := 4) rfl d_R_ridesAt_16 ?_
      refine g_icmp_ge_i (tgt := 51) (by omega) (by decide) d_R_ridesAt_18 (by decide) (fun h18 => ?_) (fun h => by exfalso; omega)
      refine g_iload_n (n := 2) (i := 2) rfl rfl d_R_ridesAt_51 ?_
      refine g_ireturn_i rfl d_R_ridesAt_52 ?_
      exact g_qi hQ hs9
    | succ n9 ih =>
      intro k9 s9 h9 hk9 hs9
      by_cases hc9 : k9 < zc R
      · obtain ⟨a9, p9, la9, e1, e2, e3, e4⟩ := i5 k9 ⟨h9, hc9⟩
        have c1 := g_imm (E := E) (w := w) e2
        have c2 := g_imm (E := E) (w := w) e3
        obtain ⟨o1, o2, o3, o4, o5⟩ := ok8 k9 ⟨h9, hc9⟩
        have oq := ok7 (zC R k9).1 o1
        have hlen := o5.1
        refine g_iload (i := 5) rfl d_R_ridesAt_14 ?_
        refine g_iload (i := 4) rfl d_R_ridesAt_16 ?_
        refine g_icmp_ge_i (tgt := 51) (by omega) (by decide) d_R_ridesAt_18 (by decide) (fun h => by exfalso; omega) (fun h18 => ?_)
        refine g_aload_n (n := 3) (i := 3) rfl rfl d_R_ridesAt_21 ?_
        refine g_iload (i := 5) rfl d_R_ridesAt_22 ?_
        refine g_aaload_i (by assumption) (by decide) (by rfl) (by omega) (by omega) (by rfl) (by assumption) d_R_ridesAt_24 ?_
        refine g_astore (i := 6) (by decide) rfl d_R_ridesAt_25 ?_
        refine g_iload_n (n := 2) (i := 2) rfl rfl d_R_ridesAt_27 ?_
        refine g_aload (i := 6) rfl d_R_ridesAt_28 ?_
        refine g_ifnonnull (tgt := 37) (by decide) d_R_ridesAt_30 ?_
        refine g_aload (i := 6) rfl d_R_ridesAt_37 ?_
        refine g_iload_n (n := 1) (i := 1) rfl rfl d_R_ridesAt_39 ?_
        refine g_callV1 rfl rfl e_C_ridesAt l_R_185 iv_C_ridesAt 8 (by decide) rfl (by assumption) (by decide) (Nat.zero_le _) (Nat.zero_le _) (Nat.le_of_ble_eq_true rfl) d_R_ridesAt_40 (c_C_ridesAt (by assumption) (by assumption) (by assumption) (by omega) ?_)
        refine g_ret ?_
        refine g_iadd_i d_R_ridesAt_43 ?_
        refine g_istore_n (n := 2) (i := 2) rfl (by decide) rfl d_R_ridesAt_44 ?_
        refine g_iinc_i (i := 5) rfl (by decide) rfl d_R_ridesAt_45 ?_
        refine g_goto (tgt := 14) (by decide) d_R_ridesAt_48 ?_
        exact g_cut (lv' := [(0, .ref (gad E b)), (1, .int (iI pa)), (2, .int (iI _)), (3, .ref (gad E (b + 3))), (4, .int (iI 20)), (5, .int (iI (k9 + 1)))]) ⟨rfl, rfl, rfl, rfl, rfl, rfl, trivial⟩ (ih (k9 + 1) _ (by omega) (by omega) (by rw [sumZ_s (by omega)]; first | omega | (simp only [if_pos hc9]; omega) | (simp only [if_neg hc9]; omega) | (simp [*]; done) | (simp [*]; omega)))
      · have e1 := i6 k9 (by omega)
        refine g_iload (i := 5) rfl d_R_ridesAt_14 ?_
        refine g_iload (i := 4) rfl d_R_ridesAt_16 ?_
        refine g_icmp_ge_i (tgt := 51) (by omega) (by decide) d_R_ridesAt_18 (by decide) (fun h => by exfalso; omega) (fun h18 => ?_)
        refine g_aload_n (n := 3) (i := 3) rfl rfl d_R_ridesAt_21 ?_
        refine g_iload (i := 5) rfl d_R_ridesAt_22 ?_
        refine g_aaloadN_i (by assumption) (by decide) (by rfl) (by omega) (by omega) (by rfl) (by assumption) d_R_ridesAt_24 ?_
        refine g_astoreN (i := 6) (by decide) rfl d_R_ridesAt_25 ?_
        refine g_iload_n (n := 2) (i := 2) rfl rfl d_R_ridesAt_27 ?_
        refine g_aloadN (i := 6) rfl d_R_ridesAt_28 ?_
        refine g_ifnonnullN d_R_ridesAt_30 ?_
        refine g_iconst_i d_R_ridesAt_33 ?_
        refine g_goto (tgt := 43) (by decide) d_R_ridesAt_34 ?_
        refine g_iadd_i d_R_ridesAt_43 ?_
        refine g_istore_n (n := 2) (i := 2) rfl (by decide) rfl d_R_ridesAt_44 ?_
        refine g_iinc_i (i := 5) rfl (by decide) rfl d_R_ridesAt_45 ?_
        refine g_goto (tgt := 14) (by decide) d_R_ridesAt_48 ?_
        exact g_cut (lv' := [(0, .ref (gad E b)), (1, .int (iI pa)), (2, .int (iI _)), (3, .ref (gad E (b + 3))), (4, .int (iI 20)), (5, .int (iI (k9 + 1)))]) ⟨rfl, rfl, rfl, rfl, rfl, rfl, trivial⟩ (ih (k9 + 1) _ (by omega) (by omega) (by rw [sumZ_s (by omega)]; first | omega | (simp only [if_pos hc9]; omega) | (simp only [if_neg hc9]; omega) | (simp [*]; done) | (simp [*]; omega)))
  refine g_enter (by decide) rfl rfl (fun h => by first | rfl | cases h) (Nat.le_of_ble_eq_true rfl) rfl ?_
  refine g_iconst_i d_R_ridesAt_0 ?_
  refine g_istore_n (n := 2) (i := 2) rfl (by decide) rfl d_R_ridesAt_1 ?_
  refine g_aload_n (n := 0) (i := 0) rfl rfl d_R_ridesAt_2 ?_
  refine g_getfield 1 2 f_R_25 (by assumption) (by rfl) d_R_ridesAt_3 ?_
  refine g_astore_n (n := 3) (i := 3) rfl (by decide) rfl d_R_ridesAt_6 ?_
  refine g_aload_n (n := 3) (i := 3) rfl rfl d_R_ridesAt_7 ?_
  refine g_alen_i (by assumption) (by decide) d_R_ridesAt_8 ?_
  refine g_istore (i := 4) (by decide) rfl d_R_ridesAt_9 ?_
  refine g_iconst_i d_R_ridesAt_11 ?_
  refine g_istore (i := 5) (by decide) rfl d_R_ridesAt_12 ?_
  refine g_cut ?_ (loop 20 0 0 (by omega) (by omega) rfl)
  exact ⟨rfl, rfl, rfl, rfl, rfl, rfl, trivial⟩

theorem c_R_gatesOf {E : gE} {w : gW} {im : gIm} {Q : gQ} {b : Nat} {R : Rz} (hz : RZ E w im b R) {pa : Int} (rg9 : 0 ≤ pa ∧ pa ≤ 3) (hQ : Q (.inl (some (.int (iI (sumZ (fun k9 => if k9 < zg R then (if (zG R k9).1 = pa then 1 else 0) else 0) 12))))) w im) : GM E 0 y_R_gatesOf m_R_gatesOf 0 0 [.ref (gad E b), .int (iI pa)] w im Q := by
  have hz9 := hz
  obtain ⟨rg, rp, rc, lc, ⟨hb, h0, h1, h2, h3, h4, hlc⟩, ⟨i1, i2, i3, i4, i5, i6⟩, ok⟩ := hz9
  obtain ⟨ok1, ok2, ok3, ok4, ok5, ok6, ok7, ok8, ok9⟩ := ok
  have co : g_cell E w im (gad E b) (resE E b R) := g_mut b (by omega) h0
  have cg : g_cell E w im (gad E (b + 1)) (rowE 4 12 rg) := g_mut (b + 1) (by omega) h1
  have cp : g_cell E w im (gad E (b + 2)) (rowE 5 8 rp) := g_mut (b + 2) (by omega) h2
  have cc : g_cell E w im (gad E (b + 3)) (rowE 6 20 rc) := g_mut (b + 3) (by omega) h3
  have cl : g_cell E w im (gad E (b + 4)) (intE 372 lc) := g_mut (b + 4) (by omega) h4
  have loop : ∀ (n9 : Nat) (k9 s9 : Int), 0 ≤ k9 → k9 + n9 = 12 → s9 = sumZ (fun k9 => if k9 < zg R then (if (zG R k9).1 = pa then 1 else 0) else 0) k9 → G E 0 m_R_gatesOf 14 [(0, .ref (gad E b)), (1, .int (iI pa)), (2, .int (iI s9)), (3, .ref (gad E (b + 1))), (4, .int (iI 12)), (5, .int (iI k9))] [] w im 0 0 Q := by
    intro n9
    induction n9 with
    | zero =>
      intro k9 s9 h9 hk9 hs9
      have e9 : k9 = 12 := by omega
      rw [e9] at hs9
      refine g_iload (i := 5) rfl d_R_gatesOf_14 ?_
      refine g_iload (i := 4) rfl d_R_gatesOf_16 ?_
      refine g_icmp_ge_i (tgt := 55) (by omega) (by decide) d_R_gatesOf_18 (by decide) (fun h18 => ?_) (fun h => by exfalso; omega)
      refine g_iload_n (n := 2) (i := 2) rfl rfl d_R_gatesOf_55 ?_
      refine g_ireturn_i rfl d_R_gatesOf_56 ?_
      exact g_qi hQ hs9
    | succ n9 ih =>
      intro k9 s9 h9 hk9 hs9
      by_cases hc9 : k9 < zg R
      · obtain ⟨a9, e1, e2⟩ := i1 k9 ⟨h9, hc9⟩
        have c1 := g_imm (E := E) (w := w) e2
        obtain ⟨o1, o2⟩ := ok6 k9 ⟨h9, hc9⟩
        refine g_iload (i := 5) rfl d_R_gatesOf_14 ?_
        refine g_iload (i := 4) rfl d_R_gatesOf_16 ?_
        refine g_icmp_ge_i (tgt := 55) (by omega) (by decide) d_R_gatesOf_18 (by decide) (fun h => by exfalso; omega) (fun h18 => ?_)
        refine g_aload_n (n := 3) (i := 3) rfl rfl d_R_gatesOf_21 ?_
        refine g_iload (i := 5) rfl d_R_gatesOf_22 ?_
        refine g_aaload_i (by assumption) (by decide) (by rfl) (by omega) (by omega) (by rfl) (by assumption) d_R_gatesOf_24 ?_
        refine g_astore (i := 6) (by decide) rfl d_R_gatesOf_25 ?_
        refine g_iload_n (n := 2) (i := 2) rfl rfl d_R_gatesOf_27 ?_
        refine g_aload (i := 6) rfl d_R_gatesOf_28 ?_
        refine g_ifnull d_R_gatesOf_30 ?_
        refine g_aload (i := 6) rfl d_R_gatesOf_33 ?_
        refine g_getfield 5 1 f_R_143 (by assumption) (by rfl) d_R_gatesOf_35 ?_
        refine g_iload_n (n := 1) (i := 1) rfl rfl d_R_gatesOf_38 ?_
        refine g_icmp_ne_i (tgt := 46) (by omega) (by omega) d_R_gatesOf_39 (by decide) (fun h39 => ?_) (fun h39 => ?_)
        · refine g_iconst_i d_R_gatesOf_46 ?_
          refine g_iadd_i d_R_gatesOf_47 ?_
          refine g_istore_n (n := 2) (i := 2) rfl (by decide) rfl d_R_gatesOf_48 ?_
          refine g_iinc_i (i := 5) rfl (by decide) rfl d_R_gatesOf_49 ?_
          refine g_goto (tgt := 14) (by decide) d_R_gatesOf_52 ?_
          exact g_cut (lv' := [(0, .ref (gad E b)), (1, .int (iI pa)), (2, .int (iI _)), (3, .ref (gad E (b + 1))), (4, .int (iI 12)), (5, .int (iI (k9 + 1)))]) ⟨rfl, rfl, rfl, rfl, rfl, rfl, trivial⟩ (ih (k9 + 1) _ (by omega) (by omega) (by rw [sumZ_s (by omega)]; first | omega | (simp only [if_pos hc9]; omega) | (simp only [if_neg hc9]; omega) | (simp [*]; done) | (simp [*]; omega)))
        · refine g_iconst_i d_R_gatesOf_42 ?_
          refine g_goto (tgt := 47) (by decide) d_R_gatesOf_43 ?_
          refine g_iadd_i d_R_gatesOf_47 ?_
          refine g_istore_n (n := 2) (i := 2) rfl (by decide) rfl d_R_gatesOf_48 ?_
          refine g_iinc_i (i := 5) rfl (by decide) rfl d_R_gatesOf_49 ?_
          refine g_goto (tgt := 14) (by decide) d_R_gatesOf_52 ?_
          exact g_cut (lv' := [(0, .ref (gad E b)), (1, .int (iI pa)), (2, .int (iI _)), (3, .ref (gad E (b + 1))), (4, .int (iI 12)), (5, .int (iI (k9 + 1)))]) ⟨rfl, rfl, rfl, rfl, rfl, rfl, trivial⟩ (ih (k9 + 1) _ (by omega) (by omega) (by rw [sumZ_s (by omega)]; first | omega | (simp only [if_pos hc9]; omega) | (simp only [if_neg hc9]; omega) | (simp [*]; done) | (simp [*]; omega)))
      · have e1 := i2 k9 (by omega)
        refine g_iload (i := 5) rfl d_R_gatesOf_14 ?_
        refine g_iload (i := 4) rfl d_R_gatesOf_16 ?_
        refine g_icmp_ge_i (tgt := 55) (by omega) (by decide) d_R_gatesOf_18 (by decide) (fun h => by exfalso; omega) (fun h18 => ?_)
        refine g_aload_n (n := 3) (i := 3) rfl rfl d_R_gatesOf_21 ?_
        refine g_iload (i := 5) rfl d_R_gatesOf_22 ?_
        refine g_aaloadN_i (by assumption) (by decide) (by rfl) (by omega) (by omega) (by rfl) (by assumption) d_R_gatesOf_24 ?_
        refine g_astoreN (i := 6) (by decide) rfl d_R_gatesOf_25 ?_
        refine g_iload_n (n := 2) (i := 2) rfl rfl d_R_gatesOf_27 ?_
        refine g_aloadN (i := 6) rfl d_R_gatesOf_28 ?_
        refine g_ifnullN (tgt := 46) (by decide) d_R_gatesOf_30 ?_
        refine g_iconst_i d_R_gatesOf_46 ?_
        refine g_iadd_i d_R_gatesOf_47 ?_
        refine g_istore_n (n := 2) (i := 2) rfl (by decide) rfl d_R_gatesOf_48 ?_
        refine g_iinc_i (i := 5) rfl (by decide) rfl d_R_gatesOf_49 ?_
        refine g_goto (tgt := 14) (by decide) d_R_gatesOf_52 ?_
        exact g_cut (lv' := [(0, .ref (gad E b)), (1, .int (iI pa)), (2, .int (iI _)), (3, .ref (gad E (b + 1))), (4, .int (iI 12)), (5, .int (iI (k9 + 1)))]) ⟨rfl, rfl, rfl, rfl, rfl, rfl, trivial⟩ (ih (k9 + 1) _ (by omega) (by omega) (by rw [sumZ_s (by omega)]; first | omega | (simp only [if_pos hc9]; omega) | (simp only [if_neg hc9]; omega) | (simp [*]; done) | (simp [*]; omega)))
  refine g_enter (by decide) rfl rfl (fun h => by first | rfl | cases h) (Nat.le_of_ble_eq_true rfl) rfl ?_
  refine g_iconst_i d_R_gatesOf_0 ?_
  refine g_istore_n (n := 2) (i := 2) rfl (by decide) rfl d_R_gatesOf_1 ?_
  refine g_aload_n (n := 0) (i := 0) rfl rfl d_R_gatesOf_2 ?_
  refine g_getfield 1 0 f_R_11 (by assumption) (by rfl) d_R_gatesOf_3 ?_
  refine g_astore_n (n := 3) (i := 3) rfl (by decide) rfl d_R_gatesOf_6 ?_
  refine g_aload_n (n := 3) (i := 3) rfl rfl d_R_gatesOf_7 ?_
  refine g_alen_i (by assumption) (by decide) d_R_gatesOf_8 ?_
  refine g_istore (i := 4) (by decide) rfl d_R_gatesOf_9 ?_
  refine g_iconst_i d_R_gatesOf_11 ?_
  refine g_istore (i := 5) (by decide) rfl d_R_gatesOf_12 ?_
  refine g_cut ?_ (loop 12 0 0 (by omega) (by omega) rfl)
  exact ⟨rfl, rfl, rfl, rfl, rfl, rfl, trivial⟩

