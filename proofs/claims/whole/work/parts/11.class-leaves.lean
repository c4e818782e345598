/-! ===== the class: gates, products, rides, cards ===== -/
abbrev gateE (n p x : Int) : gA := .inr (5, [.int (iI n), .int (iI p), .int (iI x)])
abbrev prodE (n k am f l ps pr : Int) : gA := .inr (6, [.int (iI n), .int (iI k), .int (iI am), .int (iI f), .int (iI l), .int (iI ps), .int (iI pr)])
abbrev rideE (bf : Option Nat) (g : Nat) (mi ct dy : Int) : gA := .inr (7, [va_rf bf, .ref g, .int (iI mi), .int (iI ct), .int (iI dy)])
abbrev cardE (n : Int) (p : Nat) (st su rf : Int) (la : Option Nat) : gA := .inr (8, [.int (iI n), .ref p, .int (iI st), .int (iI su), .int (iI rf), va_rf la])
/-- a ride: its gate's number, partner and position, and its minute -/
abbrev rT : Type := Int × Int × Int × Int
/-- the days on which there are rides, as a mask -/
def dmask : List rT → Nat
  | [] => 0
  | q :: r => dmask r ||| 2 ^ (q.2.2.2 / 1440).toNat
/-- the rides behind one another, the latest first -/
def chn (im : gIm) : Option Nat → List rT → Prop
  | none, [] => True
  | some a, q :: r => ∃ bf ga, im a = some (rideE bf ga q.2.2.2 ((r.length : Int) + 1) (dmask (q :: r))) ∧ im ga = some (gateE q.1 q.2.1 q.2.2.1) ∧ chn im bf r
  | _, _ => False
def okR (rs : List rT) : Prop := rs.length ≤ 1000 ∧ ∀ q ∈ rs, (0 ≤ q.1 ∧ q.1 ≤ 11) ∧ (0 ≤ q.2.1 ∧ q.2.1 ≤ 3) ∧ (0 ≤ q.2.2.1 ∧ q.2.2.1 ≤ 99) ∧ (0 ≤ q.2.2.2 ∧ q.2.2.2 ≤ 43200)
theorem okR.tail {q : rT} {r : List rT} (h : okR (q :: r)) : okR r := ⟨by have := h.1; simp only [List.length_cons] at this; omega, fun x hx => h.2 x (List.mem_cons_of_mem _ hx)⟩
theorem okR.head {q : rT} {r : List rT} (h : okR (q :: r)) : (0 ≤ q.1 ∧ q.1 ≤ 11) ∧ (0 ≤ q.2.1 ∧ q.2.1 ≤ 3) ∧ (0 ≤ q.2.2.1 ∧ q.2.2.1 ≤ 99) ∧ (0 ≤ q.2.2.2 ∧ q.2.2.2 ≤ 43200) := h.2 q List.mem_cons_self
theorem dmask_lt {rs : List rT} (h : okR rs) : dmask rs < 2147483648 := by
  induction rs with
  | nil => decide
  | cons q r ih =>
    have hq := h.head
    have h1 : dmask r < 2 ^ 31 := ih h.tail
    have h2 : 2 ^ (q.2.2.2 / 1440).toNat < 2 ^ 31 := Nat.pow_lt_pow_right (by decide) (by omega)
    exact Nat.or_lt_two_pow h1 h2
def wayZ (p x p' x' : Int) : Int := (if 0 ≤ x - x' then x - x' else 0 - (x - x')) + (if p = p' then 0 else 10)
/-- the bits of a number, counted; its lowest bit -/
def popc (n : Nat) : Nat := ((List.range 32).filter fun i => n.testBit i).length
def ntz (n : Nat) : Nat := ((List.range 32).filter fun i => !(n % 2 ^ (i + 1) == 0)).headD 32
def cntP (pa : Int) : List rT → Int
  | [] => 0
  | q :: r => cntP pa r + (if q.2.1 = pa then 1 else 0)
def cntG (g : Int) : List rT → Int
  | [] => 0
  | q :: r => cntG g r + (if q.1 = g then 1 else 0)
def waysOk : List rT → Prop
  | q :: q' :: r => wayZ q'.2.1 q'.2.2.1 q.2.1 q.2.2.1 ≤ q.2.2.2 - q'.2.2.2 ∧ waysOk (q' :: r)
  | _ => True
theorem cntP_nn {pa : Int} {rs : List rT} : 0 ≤ cntP pa rs ∧ cntP pa rs ≤ rs.length := by
  induction rs with
  | nil => simp [cntP]
  | cons q r ih => simp only [cntP, List.length_cons]; split <;> omega
theorem cntG_nn {g : Int} {rs : List rT} : 0 ≤ cntG g rs ∧ cntG g rs ≤ rs.length := by
  induction rs with
  | nil => simp [cntG]
  | cons q r ih => simp only [cntG, List.length_cons]; split <;> omega

theorem c_X_isBetween {E : gE} {w : gW} {im : gIm} {Q : gQ} {a b c : Int} (ra : -2147483648 ≤ a ∧ a < 2147483648) (rb : -2147483648 ≤ b ∧ b < 2147483648) (rc : -2147483648 ≤ c ∧ c < 2147483648) (hQ1 : (b ≤ a ∧ a ≤ c) → Q (.inl (some (.int (iI 1)))) w im) (hQ2 : ¬ (b ≤ a ∧ a ≤ c) → Q (.inl (some (.int (iI 0)))) w im) : GM E 0 y_X_isBetween m_X_isBetween 0 0 [.int (iI a), .int (iI b), .int (iI c)] w im Q := by
  refine g_enter (by decide) rfl rfl (fun h => by first | rfl | cases h) (Nat.le_of_ble_eq_true rfl) rfl ?_
  refine g_iload_n (n := 0) (i := 0) rfl rfl d_X_isBetween_0 ?_
  refine g_iload_n (n := 1) (i := 1) rfl rfl d_X_isBetween_1 ?_
  refine g_icmp_lt_i (tgt := 14) (by omega) (by omega) d_X_isBetween_2 (by decide) (fun h2 => ?_) (fun h2 => ?_)
  · refine g_iconst_i d_X_isBetween_14 ?_
    refine g_ireturn_0 rfl d_X_isBetween_15 ?_
    first | exact hQ1 (by omega) | exact hQ2 (by omega)
  · refine g_iload_n (n := 0) (i := 0) rfl rfl d_X_isBetween_5 ?_
    refine g_iload_n (n := 2) (i := 2) rfl rfl d_X_isBetween_6 ?_
    refine g_icmp_gt_i (tgt := 14) (by omega) (by omega) d_X_isBetween_7 (by decide) (fun h7 => ?_) (fun h7 => ?_)
    · refine g_iconst_i d_X_isBetween_14 ?_
      refine g_ireturn_0 rfl d_X_isBetween_15 ?_
      first | exact hQ1 (by omega) | exact hQ2 (by omega)
    · refine g_iconst_i d_X_isBetween_10 ?_
      refine g_goto (tgt := 15) (by decide) d_X_isBetween_11 ?_
      refine g_ireturn_1 rfl d_X_isBetween_15 ?_
      first | exact hQ1 (by omega) | exact hQ2 (by omega)

theorem c_X_isPartner {E : gE} {w : gW} {im : gIm} {Q : gQ} {a : Int} (ra : -2147483648 ≤ a ∧ a < 2147483648) (hQ1 : (0 ≤ a ∧ a ≤ 3) → Q (.inl (some (.int (iI 1)))) w im) (hQ2 : ¬ (0 ≤ a ∧ a ≤ 3) → Q (.inl (some (.int (iI 0)))) w im) : GM E 1 y_X_isPartner m_X_isPartner 0 0 [.int (iI a)] w im Q := by
  refine g_enter (by decide) rfl rfl (fun h => by first | rfl | cases h) (Nat.le_of_ble_eq_true rfl) rfl ?_
  refine g_iload_n (n := 0) (i := 0) rfl rfl d_X_isPartner_0 ?_
  refine g_iconst_i d_X_isPartner_1 ?_
  refine g_iconst_i d_X_isPartner_2 ?_
  refine g_callS3 rfl rfl e_X_isBetween l_X_67 st_X_isBetween (by decide) (Nat.zero_le _) (Nat.zero_le _) (Nat.le_of_ble_eq_true rfl) d_X_isPartner_3 (c_X_isBetween (by omega) (by omega) (by omega) (fun hB => ?_) (fun hB => ?_))
  · refine g_ret ?_
    refine g_ireturn_1 rfl d_X_isPartner_6 ?_
    first | exact hQ1 (by omega) | exact hQ2 (by omega)
  · refine g_ret ?_
    refine g_ireturn_0 rfl d_X_isPartner_6 ?_
    first | exact hQ1 (by omega) | exact hQ2 (by omega)

theorem c_X_isDay {E : gE} {w : gW} {im : gIm} {Q : gQ} {a : Int} (ra : -2147483648 ≤ a ∧ a < 2147483648) (hQ1 : (0 ≤ a ∧ a ≤ 30) → Q (.inl (some (.int (iI 1)))) w im) (hQ2 : ¬ (0 ≤ a ∧ a ≤ 30) → Q (.inl (some (.int (iI 0)))) w im) : GM E 1 y_X_isDay m_X_isDay 0 0 [.int (iI a)] w im Q := by
  refine g_enter (by decide) rfl rfl (fun h => by first | rfl | cases h) (Nat.le_of_ble_eq_true rfl) rfl ?_
  refine g_iload_n (n := 0) (i := 0) rfl rfl d_X_isDay_0 ?_
  refine g_iconst_i d_X_isDay_1 ?_
  refine g_bipush_i (by decide) d_X_isDay_2 ?_
  refine g_callS3 rfl rfl e_X_isBetween l_X_67 st_X_isBetween (by decide) (Nat.zero_le _) (Nat.zero_le _) (Nat.le_of_ble_eq_true rfl) d_X_isDay_4 (c_X_isBetween (by omega) (by omega) (by omega) (fun hB => ?_) (fun hB => ?_))
  · refine g_ret ?_
    refine g_ireturn_1 rfl d_X_isDay_7 ?_
    first | exact hQ1 (by omega) | exact hQ2 (by omega)
  · refine g_ret ?_
    refine g_ireturn_0 rfl d_X_isDay_7 ?_
    first | exact hQ1 (by omega) | exact hQ2 (by omega)

theorem c_X_requirePartner {E : gE} {w : gW} {im : gIm} {Q : gQ} {a : Int} (ra : -2147483648 ≤ a ∧ a < 2147483648) (hQ1 : (0 ≤ a ∧ a ≤ 3) → Q (.inl none) w im) (hQ2 : ¬ (0 ≤ a ∧ a ≤ 3) → Q (.inr "java/lang/IndexOutOfBoundsException") w im) : GM E 2 y_X_requirePartner m_X_requirePartner 1 6 [.int (iI a)] w im Q := by
  refine g_enter (by decide) rfl rfl (fun h => by first | rfl | cases h) (Nat.le_of_ble_eq_true rfl) rfl ?_
  refine g_iload_n (n := 0) (i := 0) rfl rfl d_X_requirePartner_0 ?_
  refine g_callS1 rfl rfl e_X_isPartner l_X_63 st_X_isPartner (by decide) (Nat.zero_le _) (Nat.zero_le _) (Nat.le_of_ble_eq_true rfl) d_X_requirePartner_1 (c_X_isPartner (by omega) (fun hB => ?_) (fun hB => ?_))
  · refine g_ret ?_
    refine g_if_ne_i (tgt := 18) (by decide) d_X_requirePartner_4 (by decide) (fun h4 => ?_) (fun h => absurd h (by decide))
    refine g_return rfl d_X_requirePartner_18 ?_
    first | exact hQ1 (by omega) | exact hQ2 (by omega)
  · refine g_ret ?_
    refine g_if_ne_i (tgt := 18) (by decide) d_X_requirePartner_4 (by decide) (fun h => absurd h (by decide)) (fun h4 => ?_)
    refine x_IOBw c_X_444 xs_459 rfl rfl (Nat.le_of_ble_eq_true rfl) (by omega) (by omega) d_X_requirePartner_7 d_X_requirePartner_10 d_X_requirePartner_11 d_X_requirePartner_14 d_X_requirePartner_17 ?_
    first | exact hQ1 (by omega) | exact hQ2 (by omega)

theorem c_G_wayTo {E : gE} {w : gW} {im : gIm} {Q : gQ} {a b : Nat} {n p x n' p' x' : Int} (h1 : g_cell E w im a (gateE n p x)) (h2 : g_cell E w im b (gateE n' p' x')) (r : (0 ≤ p ∧ p ≤ 3) ∧ (0 ≤ p' ∧ p' ≤ 3) ∧ (0 ≤ x ∧ x ≤ 99) ∧ (0 ≤ x' ∧ x' ≤ 99)) (hQ : Q (.inl (some (.int (iI (wayZ p x p' x'))))) w im) : GM E 0 y_G_wayTo m_G_wayTo 0 0 [.ref a, .ref b] w im Q := by
  refine g_enter (by decide) rfl rfl (fun h => by first | rfl | cases h) (Nat.le_of_ble_eq_true rfl) rfl ?_
  refine g_aload_n (n := 0) (i := 0) rfl rfl d_G_wayTo_0 ?_
  refine g_getfield 5 2 f_G_18 (by assumption) (by rfl) d_G_wayTo_1 ?_
  refine g_aload_n (n := 1) (i := 1) rfl rfl d_G_wayTo_4 ?_
  refine g_getfield 5 2 f_G_18 (by assumption) (by rfl) d_G_wayTo_5 ?_
  refine g_isub_i d_G_wayTo_8 ?_
  refine g_mabs_i l_G_21 x_abs.1 x_abs.2.1 x_abs.2.2 (Nat.le_of_ble_eq_true rfl) (by omega) d_G_wayTo_9 ?_
  refine g_istore_n (n := 2) (i := 2) rfl (by decide) rfl d_G_wayTo_12 ?_
  refine g_aload_n (n := 0) (i := 0) rfl rfl d_G_wayTo_13 ?_
  refine g_getfield 5 1 f_G_15 (by assumption) (by rfl) d_G_wayTo_14 ?_
  refine g_aload_n (n := 1) (i := 1) rfl rfl d_G_wayTo_17 ?_
  refine g_getfield 5 1 f_G_15 (by assumption) (by rfl) d_G_wayTo_18 ?_
  refine g_icmp_ne_i (tgt := 28) (by omega) (by omega) d_G_wayTo_21 (by decide) (fun h21 => ?_) (fun h21 => ?_)
  · refine g_iload_n (n := 2) (i := 2) rfl rfl d_G_wayTo_28 ?_
    refine g_bipush_i (by decide) d_G_wayTo_29 ?_
    refine g_iadd_i d_G_wayTo_31 ?_
    refine g_ireturn_i rfl d_G_wayTo_32 ?_
    exact g_qi hQ (by unfold wayZ; (repeat' split) <;> omega)
  · refine g_iload_n (n := 2) (i := 2) rfl rfl d_G_wayTo_24 ?_
    refine g_goto (tgt := 32) (by decide) d_G_wayTo_25 ?_
    refine g_ireturn_i rfl d_G_wayTo_32 ?_
    exact g_qi hQ (by unfold wayZ; (repeat' split) <;> omega)

theorem c_G_init {E : gE} {w : gW} {im : gIm} {Q : gQ} {a : Nat} {n p x : Int} (hm : im a = some (.inr (5, g_def 5))) (hQ : Q (.inl none) w (vf_upd im a (some (gateE n p x)))) : GM E 0 y_G_init m_G_init 0 0 [.ref a, .int (iI n), .int (iI p), .int (iI x)] w im Q := by
  refine g_enter (by decide) rfl rfl (fun h => by first | rfl | cases h) (Nat.le_of_ble_eq_true rfl) rfl ?_
  refine g_aload_n (n := 0) (i := 0) rfl rfl d_G_init_0 ?_
  refine g_objInit l_G_3 x_obj.1 x_obj.2 (Nat.le_of_ble_eq_true rfl) d_G_init_1 ?_
  refine g_aload_n (n := 0) (i := 0) rfl rfl d_G_init_4 ?_
  refine g_iload_n (n := 1) (i := 1) rfl rfl d_G_init_5 ?_
  refine g_putI_i 5 0 (by assumption) f_G_9 (Or.inr ⟨rfl, rfl⟩) (by rfl) (by rfl) (Nat.le_of_ble_eq_true rfl) d_G_init_6 ?_
  refine g_aload_n (n := 0) (i := 0) rfl rfl d_G_init_9 ?_
  refine g_iload_n (n := 2) (i := 2) rfl rfl d_G_init_10 ?_
  refine g_putI_i 5 1 vf_us f_G_15 (Or.inr ⟨rfl, rfl⟩) (by rfl) (by rfl) (Nat.le_of_ble_eq_true rfl) d_G_init_11 ?_
  refine g_aload_n (n := 0) (i := 0) rfl rfl d_G_init_14 ?_
  refine g_iload_n (n := 3) (i := 3) rfl rfl d_G_init_15 ?_
  refine g_putI_i 5 2 vf_us f_G_18 (Or.inr ⟨rfl, rfl⟩) (by rfl) (by rfl) (Nat.le_of_ble_eq_true rfl) d_G_init_16 ?_
  refine g_return rfl d_G_init_19 ?_
  rw [vf_uu, vf_uu] ; exact hQ

theorem c_P_init {E : gE} {w : gW} {im : gIm} {Q : gQ} {a : Nat} {n k am f l ps pr : Int} (hm : im a = some (.inr (6, g_def 6))) (hQ : Q (.inl none) w (vf_upd im a (some (prodE n k am f l ps pr)))) : GM E 0 y_P_init m_P_init 0 0 [.ref a, .int (iI n), .int (iI k), .int (iI am), .int (iI f), .int (iI l), .int (iI ps), .int (iI pr)] w im Q := by
  refine g_enter (by decide) rfl rfl (fun h => by first | rfl | cases h) (Nat.le_of_ble_eq_true rfl) rfl ?_
  refine g_aload_n (n := 0) (i := 0) rfl rfl d_P_init_0 ?_
  refine g_objInit l_P_3 x_obj.1 x_obj.2 (Nat.le_of_ble_eq_true rfl) d_P_init_1 ?_
  refine g_aload_n (n := 0) (i := 0) rfl rfl d_P_init_4 ?_
  refine g_iload_n (n := 1) (i := 1) rfl rfl d_P_init_5 ?_
  refine g_putI_i 6 0 (by assumption) f_P_9 (Or.inr ⟨rfl, rfl⟩) (by rfl) (by rfl) (Nat.le_of_ble_eq_true rfl) d_P_init_6 ?_
  refine g_aload_n (n := 0) (i := 0) rfl rfl d_P_init_9 ?_
  refine g_iload_n (n := 2) (i := 2) rfl rfl d_P_init_10 ?_
  refine g_putI_i 6 1 vf_us f_P_15 (Or.inr ⟨rfl, rfl⟩) (by rfl) (by rfl) (Nat.le_of_ble_eq_true rfl) d_P_init_11 ?_
  refine g_aload_n (n := 0) (i := 0) rfl rfl d_P_init_14 ?_
  refine g_iload_n (n := 3) (i := 3) rfl rfl d_P_init_15 ?_
  refine g_putI_i 6 2 vf_us f_P_18 (Or.inr ⟨rfl, rfl⟩) (by rfl) (by rfl) (Nat.le_of_ble_eq_true rfl) d_P_init_16 ?_
  refine g_aload_n (n := 0) (i := 0) rfl rfl d_P_init_19 ?_
  refine g_iload (i := 4) rfl d_P_init_20 ?_
  refine g_putI_i 6 3 vf_us f_P_21 (Or.inr ⟨rfl, rfl⟩) (by rfl) (by rfl) (Nat.le_of_ble_eq_true rfl) d_P_init_22 ?_
  refine g_aload_n (n := 0) (i := 0) rfl rfl d_P_init_25 ?_
  refine g_iload (i := 5) rfl d_P_init_26 ?_
  refine g_putI_i 6 4 vf_us f_P_24 (Or.inr ⟨rfl, rfl⟩) (by rfl) (by rfl) (Nat.le_of_ble_eq_true rfl) d_P_init_28 ?_
  refine g_aload_n (n := 0) (i := 0) rfl rfl d_P_init_31 ?_
  refine g_iload (i := 6) rfl d_P_init_32 ?_
  refine g_putI_i 6 5 vf_us f_P_27 (Or.inr ⟨rfl, rfl⟩) (by rfl) (by rfl) (Nat.le_of_ble_eq_true rfl) d_P_init_34 ?_
  refine g_aload_n (n := 0) (i := 0) rfl rfl d_P_init_37 ?_
  refine g_iload (i := 7) rfl d_P_init_38 ?_
  refine g_putI_i 6 6 vf_us f_P_30 (Or.inr ⟨rfl, rfl⟩) (by rfl) (by rfl) (Nat.le_of_ble_eq_true rfl) d_P_init_40 ?_
  refine g_return rfl d_P_init_43 ?_
  rw [vf_uu, vf_uu, vf_uu, vf_uu, vf_uu, vf_uu] ; exact hQ

theorem c_C_init {E : gE} {w : gW} {im : gIm} {Q : gQ} {a p : Nat} {n st su rf : Int} {la : Option Nat} (hm : im a = some (.inr (8, g_def 8))) (hQ : Q (.inl none) w (vf_upd im a (some (cardE n p st su rf la)))) : GM E 0 y_C_init m_C_init 0 0 [.ref a, .int (iI n), .ref p, .int (iI st), .int (iI su), .int (iI rf), va_rf la] w im Q := by
  rcases la with _ | la
  · refine g_enter (by decide) rfl rfl (fun h => by first | rfl | cases h) (Nat.le_of_ble_eq_true rfl) rfl ?_
    refine g_aload_n (n := 0) (i := 0) rfl rfl d_C_init_0 ?_
    refine g_objInit l_C_3 x_obj.1 x_obj.2 (Nat.le_of_ble_eq_true rfl) d_C_init_1 ?_
    refine g_aload_n (n := 0) (i := 0) rfl rfl d_C_init_4 ?_
    refine g_iload_n (n := 1) (i := 1) rfl rfl d_C_init_5 ?_
    refine g_putI_i 8 0 (by assumption) f_C_9 (Or.inr ⟨rfl, rfl⟩) (by rfl) (by rfl) (Nat.le_of_ble_eq_true rfl) d_C_init_6 ?_
    refine g_aload_n (n := 0) (i := 0) rfl rfl d_C_init_9 ?_
    refine g_aload_n (n := 2) (i := 2) rfl rfl d_C_init_10 ?_
    refine g_putI_i 8 1 vf_us f_C_15 (Or.inr ⟨rfl, rfl⟩) (by rfl) (by rfl) (Nat.le_of_ble_eq_true rfl) d_C_init_11 ?_
    refine g_aload_n (n := 0) (i := 0) rfl rfl d_C_init_14 ?_
    refine g_iload_n (n := 3) (i := 3) rfl rfl d_C_init_15 ?_
    refine g_putI_i 8 2 vf_us f_C_19 (Or.inr ⟨rfl, rfl⟩) (by rfl) (by rfl) (Nat.le_of_ble_eq_true rfl) d_C_init_16 ?_
    refine g_aload_n (n := 0) (i := 0) rfl rfl d_C_init_19 ?_
    refine g_iload (i := 4) rfl d_C_init_20 ?_
    refine g_putI_i 8 3 vf_us f_C_22 (Or.inr ⟨rfl, rfl⟩) (by rfl) (by rfl) (Nat.le_of_ble_eq_true rfl) d_C_init_22 ?_
    refine g_aload_n (n := 0) (i := 0) rfl rfl d_C_init_25 ?_
    refine g_iload (i := 5) rfl d_C_init_26 ?_
    refine g_putI_i 8 4 vf_us f_C_25 (Or.inr ⟨rfl, rfl⟩) (by rfl) (by rfl) (Nat.le_of_ble_eq_true rfl) d_C_init_28 ?_
    refine g_aload_n (n := 0) (i := 0) rfl rfl d_C_init_31 ?_
    refine g_aloadN (i := 6) rfl d_C_init_32 ?_
    refine g_putI_i 8 5 vf_us f_C_28 (Or.inr ⟨rfl, rfl⟩) (by rfl) (by rfl) (Nat.le_of_ble_eq_true rfl) d_C_init_34 ?_
    refine g_return rfl d_C_init_37 ?_
    rw [vf_uu, vf_uu, vf_uu, vf_uu, vf_uu] ; exact hQ
  · refine g_enter (by decide) rfl rfl (fun h => by first | rfl | cases h) (Nat.le_of_ble_eq_true rfl) rfl ?_
    refine g_aload_n (n := 0) (i := 0) rfl rfl d_C_init_0 ?_
    refine g_objInit l_C_3 x_obj.1 x_obj.2 (Nat.le_of_ble_eq_true rfl) d_C_init_1 ?_
    refine g_aload_n (n := 0) (i := 0) rfl rfl d_C_init_4 ?_
    refine g_iload_n (n := 1) (i := 1) rfl rfl d_C_init_5 ?_
    refine g_putI_i 8 0 (by assumption) f_C_9 (Or.inr ⟨rfl, rfl⟩) (by rfl) (by rfl) (Nat.le_of_ble_eq_true rfl) d_C_init_6 ?_
    refine g_aload_n (n := 0) (i := 0) rfl rfl d_C_init_9 ?_
    refine g_aload_n (n := 2) (i := 2) rfl rfl d_C_init_10 ?_
    refine g_putI_i 8 1 vf_us f_C_15 (Or.inr ⟨rfl, rfl⟩) (by rfl) (by rfl) (Nat.le_of_ble_eq_true rfl) d_C_init_11 ?_
    refine g_aload_n (n := 0) (i := 0) rfl rfl d_C_init_14 ?_
    refine g_iload_n (n := 3) (i := 3) rfl rfl d_C_init_15 ?_
    refine g_putI_i 8 2 vf_us f_C_19 (Or.inr ⟨rfl, rfl⟩) (by rfl) (by rfl) (Nat.le_of_ble_eq_true rfl) d_C_init_16 ?_
    refine g_aload_n (n := 0) (i := 0) rfl rfl d_C_init_19 ?_
    refine g_iload (i := 4) rfl d_C_init_20 ?_
    refine g_putI_i 8 3 vf_us f_C_22 (Or.inr ⟨rfl, rfl⟩) (by rfl) (by rfl) (Nat.le_of_ble_eq_true rfl) d_C_init_22 ?_
    refine g_aload_n (n := 0) (i := 0) rfl rfl d_C_init_25 ?_
    refine g_iload (i := 5) rfl d_C_init_26 ?_
    refine g_putI_i 8 4 vf_us f_C_25 (Or.inr ⟨rfl, rfl⟩) (by rfl) (by rfl) (Nat.le_of_ble_eq_true rfl) d_C_init_28 ?_
    refine g_aload_n (n := 0) (i := 0) rfl rfl d_C_init_31 ?_
    refine g_aload (i := 6) rfl d_C_init_32 ?_
    refine g_putI_i 8 5 vf_us f_C_28 (Or.inr ⟨rfl, rfl⟩) (by rfl) (by rfl) (Nat.le_of_ble_eq_true rfl) d_C_init_34 ?_
    refine g_return rfl d_C_init_37 ?_
    rw [vf_uu, vf_uu, vf_uu, vf_uu, vf_uu] ; exact hQ


theorem bit_at {a k : Nat} (ha : a < 2147483648) (hk : k < 31) : (iI a >>> (iI k &&& 31)) &&& iI 1 = iI (if a.testBit k then 1 else 0) := by
  have hs : ∀ k : Fin 31, ((iI ((k : Nat) : Int) &&& 31).toBitVec.smod 32).toNat = k := by decide +kernel
  have h1 := pk_shrN ha (iI k &&& 31) k (hs ⟨k, hk⟩)
  rw [show iI (a : Int) = nI a from (iI_nI a).symm, h1, show iI 1 = nI 1 from (iI_nI 1).symm, pk_andN (Nat.lt_of_le_of_lt (Nat.div_le_self _ _) (by omega)) 1 (by decide)]
  rw [iI_nI]
  congr 1
  rw [Nat.testBit_eq_decide_div_mod_eq]
  have := Nat.mod_lt (a / 2 ^ k) (show 0 < 2 ^ 1 by decide)
  by_cases h : a / 2 ^ k % 2 = 1
  · simp [h]
  · have h0 : a / 2 ^ k % 2 = 0 := by omega
    simp [h0]
def hasB (ps k : Int) : Prop := ps.toNat.testBit k.toNat = true
theorem bit_z {a k : Int} (ha : 0 ≤ a ∧ a < 2147483648) (hk : 0 ≤ k ∧ k < 31) : (iI a >>> (iI k &&& 31)) &&& iI 1 = iI (if a.toNat.testBit k.toNat then 1 else 0) := by
  have h := bit_at (a := a.toNat) (k := k.toNat) (by omega) (by omega)
  rwa [Int.toNat_of_nonneg ha.1, Int.toNat_of_nonneg hk.1] at h
theorem iI_if1 {c : Prop} [Decidable c] : (-2147483648 ≤ (if c then 1 else 0 : Int) ∧ (if c then 1 else 0 : Int) < 2147483648) := by split <;> omega

theorem c_P_isFor {E : gE} {w : gW} {im : gIm} {Q : gQ} {a : Nat} {n k am f l ps pr : Int} (h1 : g_cell E w im a (prodE n k am f l ps pr)) {pa : Int} (r : (0 ≤ ps ∧ ps ≤ 15) ∧ (0 ≤ pa ∧ pa ≤ 3)) (hQ1 : (hasB ps pa) → Q (.inl (some (.int (iI 1)))) w im) (hQ2 : ¬ (hasB ps pa) → Q (.inl (some (.int (iI 0)))) w im) : GM E 0 y_P_isFor m_P_isFor 0 0 [.ref a, .int (iI pa)] w im Q := by
  refine g_enter (by decide) rfl rfl (fun h => by first | rfl | cases h) (Nat.le_of_ble_eq_true rfl) rfl ?_
  refine g_aload_n (n := 0) (i := 0) rfl rfl d_P_isFor_0 ?_
  refine g_getfield 6 5 f_P_27 (by assumption) (by rfl) d_P_isFor_1 ?_
  refine g_iload_n (n := 1) (i := 1) rfl rfl d_P_isFor_4 ?_
  refine g_ishr d_P_isFor_5 ?_
  refine g_iconst_i d_P_isFor_6 ?_
  refine g_iand d_P_isFor_7 ?_
  rw [bit_z (by omega) (by omega)]
  refine g_iconst_i d_P_isFor_8 ?_
  refine g_icmp_ne_i (tgt := 16) (by first | omega | exact iI_if1) (by decide) d_P_isFor_9 (by decide) (fun h9 => ?_) (fun h9 => ?_)
  · refine g_iconst_i d_P_isFor_16 ?_
    refine g_ireturn_0 rfl d_P_isFor_17 ?_
    first | exact hQ1 (by unfold hasB; by_cases hz : ps.toNat.testBit pa.toNat = true <;> simp_all) | exact hQ2 (by unfold hasB; by_cases hz : ps.toNat.testBit pa.toNat = true <;> simp_all)
  · refine g_iconst_i d_P_isFor_12 ?_
    refine g_goto (tgt := 17) (by decide) d_P_isFor_13 ?_
    refine g_ireturn_1 rfl d_P_isFor_17 ?_
    first | exact hQ1 (by unfold hasB; by_cases hz : ps.toNat.testBit pa.toNat = true <;> simp_all) | exact hQ2 (by unfold hasB; by_cases hz : ps.toNat.testBit pa.toNat = true <;> simp_all)

theorem c_P_isForHour {E : gE} {w : gW} {im : gIm} {Q : gQ} {a : Nat} {n k am f l ps pr : Int} (h1 : g_cell E w im a (prodE n k am f l ps pr)) {h : Int} (r : (0 ≤ f ∧ f ≤ 23) ∧ (0 ≤ l ∧ l ≤ 23) ∧ (0 ≤ h ∧ h ≤ 23)) (hQ1 : (f ≤ h ∧ h ≤ l) → Q (.inl (some (.int (iI 1)))) w im) (hQ2 : ¬ (f ≤ h ∧ h ≤ l) → Q (.inl (some (.int (iI 0)))) w im) : GM E 1 y_P_isForHour m_P_isForHour 0 0 [.ref a, .int (iI h)] w im Q := by
  refine g_enter (by decide) rfl rfl (fun h => by first | rfl | cases h) (Nat.le_of_ble_eq_true rfl) rfl ?_
  refine g_iload_n (n := 1) (i := 1) rfl rfl d_P_isForHour_0 ?_
  refine g_aload_n (n := 0) (i := 0) rfl rfl d_P_isForHour_1 ?_
  refine g_getfield 6 3 f_P_21 (by assumption) (by rfl) d_P_isForHour_2 ?_
  refine g_aload_n (n := 0) (i := 0) rfl rfl d_P_isForHour_5 ?_
  refine g_getfield 6 4 f_P_24 (by assumption) (by rfl) d_P_isForHour_6 ?_
  refine g_callSN3 rfl rfl e_X_isBetween l_P_33 st_X_isBetween (by decide) (Nat.zero_le _) (Nat.zero_le _) (Nat.le_of_ble_eq_true rfl) d_P_isForHour_9 (c_X_isBetween (by omega) (by omega) (by omega) (fun hB => ?_) (fun hB => ?_))
  · refine g_ret ?_
    refine g_ireturn_1 rfl d_P_isForHour_12 ?_
    first | exact hQ1 (by omega) | exact hQ2 (by omega)
  · refine g_ret ?_
    refine g_ireturn_0 rfl d_P_isForHour_12 ?_
    first | exact hQ1 (by omega) | exact hQ2 (by omega)

theorem c_P_refundPerDay {E : gE} {w : gW} {im : gIm} {Q : gQ} {a : Nat} {n k am f l ps pr : Int} (h1 : g_cell E w im a (prodE n k am f l ps pr)) (r : (0 ≤ k ∧ k ≤ 2) ∧ (1 ≤ am ∧ am ≤ 9) ∧ (1 ≤ pr ∧ pr ≤ 9999)) (hQ : Q (.inl (some (.int (iI (if k = 2 then 0 else pr / am))))) w im) : GM E 0 y_P_refundPerDay m_P_refundPerDay 0 0 [.ref a] w im Q := by
  refine g_enter (by decide) rfl rfl (fun h => by first | rfl | cases h) (Nat.le_of_ble_eq_true rfl) rfl ?_
  refine g_aload_n (n := 0) (i := 0) rfl rfl d_P_refundPerDay_0 ?_
  refine g_getfield 6 1 f_P_15 (by assumption) (by rfl) d_P_refundPerDay_1 ?_
  refine g_iconst_i d_P_refundPerDay_4 ?_
  refine g_icmp_eq_i (tgt := 15) (by omega) (by decide) d_P_refundPerDay_5 (by decide) (fun h5 => ?_) (fun h5 => ?_)
  · refine g_iconst_i d_P_refundPerDay_15 ?_
    refine g_goto (tgt := 28) (by decide) d_P_refundPerDay_16 ?_
    refine g_ireturn_i rfl d_P_refundPerDay_28 ?_
    exact g_qi hQ (by (repeat' split) <;> omega)
  · refine g_aload_n (n := 0) (i := 0) rfl rfl d_P_refundPerDay_8 ?_
    refine g_getfield 6 2 f_P_18 (by assumption) (by rfl) d_P_refundPerDay_9 ?_
    refine g_if_gt_i (tgt := 19) (by omega) d_P_refundPerDay_12 (by decide) (fun h12 => ?_) (fun h12 => ?_)
    · refine g_aload_n (n := 0) (i := 0) rfl rfl d_P_refundPerDay_19 ?_
      refine g_getfield 6 6 f_P_30 (by assumption) (by rfl) d_P_refundPerDay_20 ?_
      refine g_aload_n (n := 0) (i := 0) rfl rfl d_P_refundPerDay_23 ?_
      refine g_getfield 6 2 f_P_18 (by assumption) (by rfl) d_P_refundPerDay_24 ?_
      refine g_idiv_i (by omega) (by omega) d_P_refundPerDay_27 ?_
      refine g_ireturn_i rfl d_P_refundPerDay_28 ?_
      exact g_qi hQ (by (repeat' split) <;> omega)
    · refine g_iconst_i d_P_refundPerDay_15 ?_
      refine g_goto (tgt := 28) (by decide) d_P_refundPerDay_16 ?_
      refine g_ireturn_i rfl d_P_refundPerDay_28 ?_
      exact g_qi hQ (by (repeat' split) <;> omega)

