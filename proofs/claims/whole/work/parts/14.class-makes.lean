/-! ===== new cells among old ones ===== -/
theorem g_cell.new {E : gE} {w : gW} {im : gIm} {a q : Nat} {x y : gA} (h : g_cell E w im a x) (hq : im q = none) : g_cell E w (vf_upd im q (some y)) a x := by
  rcases h with h | h
  · exact Or.inl h
  · refine Or.inr ?_
    have : a ≠ q := fun e => by rw [e, hq] at h; cases h
    rw [vf_un this]; exact h
theorem im_new {im : gIm} {a q : Nat} {x y : gA} (h : im a = some x) (hq : im q = none) : vf_upd im q (some y) a = some x := by
  have : a ≠ q := fun e => by rw [e, hq] at h; cases h
  rw [vf_un this]; exact h
theorem chn.new {im : gIm} {q : Nat} {y : gA} (hq : im q = none) : ∀ {rs : List rT} {la : Option Nat}, chn im la rs → chn (vf_upd im q (some y)) la rs := by
  intro rs
  induction rs with
  | nil => intro la h; cases la with
    | none => trivial
    | some a => exact h.elim
  | cons x r ih => intro la h; cases la with
    | none => exact h.elim
    | some a =>
      obtain ⟨bf, ga, c1, c2, c3⟩ := h
      exact ⟨bf, ga, im_new c1 hq, im_new c2 hq, ih c3⟩

theorem c_C_withRide {E : gE} {w : gW} {im : gIm} {Q : gQ} {a p : Nat} {n st su rf : Int} {la : Option Nat} (h1 : g_cell E w im a (cardE n p st su rf la)) {r : Nat} (hQ : ∀ q, im q = none → (∀ i, i < gN E → gad E i ≠ q) → Q (.inl (some (.ref q))) w (vf_upd im q (some (cardE n p st su rf (some r))))) : GM E 1 y_C_withRide m_C_withRide 1 6 [.ref a, .ref r] w im Q := by
  refine g_enter (by decide) rfl rfl (fun h => by first | rfl | cases h) (Nat.le_of_ble_eq_true rfl) rfl ?_
  refine g_new 8 (by decide) c_C_10 ni_C.1 ni_C.2 (by first | decide | omega) (by first | decide | omega) d_C_withRide_0 (fun q hq1 hq2 => ?_)
  have h1 := h1.new (y := .inr (8, g_def 8)) hq1
  refine g_dup rfl d_C_withRide_3 ?_
  refine g_aload_n (n := 0) (i := 0) rfl rfl d_C_withRide_4 ?_
  refine g_getfield 8 0 f_C_9 (by assumption) (by rfl) d_C_withRide_5 ?_
  refine g_aload_n (n := 0) (i := 0) rfl rfl d_C_withRide_8 ?_
  refine g_getfield 8 1 f_C_15 (by assumption) (by rfl) d_C_withRide_9 ?_
  refine g_aload_n (n := 0) (i := 0) rfl rfl d_C_withRide_12 ?_
  refine g_getfield 8 2 f_C_19 (by assumption) (by rfl) d_C_withRide_13 ?_
  refine g_aload_n (n := 0) (i := 0) rfl rfl d_C_withRide_16 ?_
  refine g_getfield 8 3 f_C_22 (by assumption) (by rfl) d_C_withRide_17 ?_
  refine g_aload_n (n := 0) (i := 0) rfl rfl d_C_withRide_20 ?_
  refine g_getfield 8 4 f_C_25 (by assumption) (by rfl) d_C_withRide_21 ?_
  refine g_aload_n (n := 1) (i := 1) rfl rfl d_C_withRide_24 ?_
  refine g_callI6 rfl rfl e_C_init l_C_32 is_C_init rfl (by decide) (Nat.zero_le _) (Nat.zero_le _) (Nat.le_of_ble_eq_true rfl) d_C_withRide_25 (c_C_init (la := some r) vf_us ?_)
  refine g_retv ?_
  rw [vf_uu]
  refine g_areturn rfl (Or.inl ⟨_, rfl⟩) (Or.inr ⟨_, rfl⟩) d_C_withRide_28 ?_
  exact hQ q hq1 hq2

theorem c_C_withBlock {E : gE} {w : gW} {im : gIm} {Q : gQ} {a p : Nat} {n st su rf : Int} {la : Option Nat} (h1 : g_cell E w im a (cardE n p st su rf la)) {ob : Int} (ro : 0 ≤ ob ∧ ob ≤ 1) (hQ : ∀ q, im q = none → (∀ i, i < gN E → gad E i ≠ q) → Q (.inl (some (.ref q))) w (vf_upd im q (some (cardE n p ob su rf la)))) : GM E 1 y_C_withBlock m_C_withBlock 1 6 [.ref a, .int (iI ob)] w im Q := by
  have hob : ob = 0 ∨ ob = 1 := by omega
  rcases hob with rfl | rfl
  · refine g_enter (by decide) rfl rfl (fun h => by first | rfl | cases h) (Nat.le_of_ble_eq_true rfl) rfl ?_
    refine g_new 8 (by decide) c_C_10 ni_C.1 ni_C.2 (by first | decide | omega) (by first | decide | omega) d_C_withBlock_0 (fun q hq1 hq2 => ?_)
    have h1 := h1.new (y := .inr (8, g_def 8)) hq1
    refine g_dup rfl d_C_withBlock_3 ?_
    refine g_aload_n (n := 0) (i := 0) rfl rfl d_C_withBlock_4 ?_
    refine g_getfield 8 0 f_C_9 (by assumption) (by rfl) d_C_withBlock_5 ?_
    refine g_aload_n (n := 0) (i := 0) rfl rfl d_C_withBlock_8 ?_
    refine g_getfield 8 1 f_C_15 (by assumption) (by rfl) d_C_withBlock_9 ?_
    refine g_iload_n (n := 1) (i := 1) rfl rfl d_C_withBlock_12 ?_
    refine g_if_eq_i (tgt := 20) (by decide) d_C_withBlock_13 (by decide) (fun h13 => ?_) (fun h => absurd h (by decide))
    refine g_iconst_i d_C_withBlock_20 ?_
    refine g_aload_n (n := 0) (i := 0) rfl rfl d_C_withBlock_21 ?_
    refine g_getfield 8 3 f_C_22 (by assumption) (by rfl) d_C_withBlock_22 ?_
    refine g_aload_n (n := 0) (i := 0) rfl rfl d_C_withBlock_25 ?_
    refine g_getfield 8 4 f_C_25 (by assumption) (by rfl) d_C_withBlock_26 ?_
    refine g_aload_n (n := 0) (i := 0) rfl rfl d_C_withBlock_29 ?_
    refine g_getfield 8 5 f_C_28 (by assumption) (by rfl) d_C_withBlock_30 ?_
    refine g_callI6 rfl rfl e_C_init l_C_32 is_C_init rfl (by decide) (Nat.zero_le _) (Nat.zero_le _) (Nat.le_of_ble_eq_true rfl) d_C_withBlock_33 (c_C_init (la := la) vf_us ?_)
    refine g_retv ?_
    rw [vf_uu]
    refine g_areturn rfl (Or.inl ⟨_, rfl⟩) (Or.inr ⟨_, rfl⟩) d_C_withBlock_36 ?_
    exact hQ q hq1 hq2
  · refine g_enter (by decide) rfl rfl (fun h => by first | rfl | cases h) (Nat.le_of_ble_eq_true rfl) rfl ?_
    refine g_new 8 (by decide) c_C_10 ni_C.1 ni_C.2 (by first | decide | omega) (by first | decide | omega) d_C_withBlock_0 (fun q hq1 hq2 => ?_)
    have h1 := h1.new (y := .inr (8, g_def 8)) hq1
    refine g_dup rfl d_C_withBlock_3 ?_
    refine g_aload_n (n := 0) (i := 0) rfl rfl d_C_withBlock_4 ?_
    refine g_getfield 8 0 f_C_9 (by assumption) (by rfl) d_C_withBlock_5 ?_
    refine g_aload_n (n := 0) (i := 0) rfl rfl d_C_withBlock_8 ?_
    refine g_getfield 8 1 f_C_15 (by assumption) (by rfl) d_C_withBlock_9 ?_
    refine g_iload_n (n := 1) (i := 1) rfl rfl d_C_withBlock_12 ?_
    refine g_if_eq_i (tgt := 20) (by decide) d_C_withBlock_13 (by decide) (fun h => absurd h (by decide)) (fun h13 => ?_)
    refine g_iconst_i d_C_withBlock_16 ?_
    refine g_goto (tgt := 21) (by decide) d_C_withBlock_17 ?_
    refine g_aload_n (n := 0) (i := 0) rfl rfl d_C_withBlock_21 ?_
    refine g_getfield 8 3 f_C_22 (by assumption) (by rfl) d_C_withBlock_22 ?_
    refine g_aload_n (n := 0) (i := 0) rfl rfl d_C_withBlock_25 ?_
    refine g_getfield 8 4 f_C_25 (by assumption) (by rfl) d_C_withBlock_26 ?_
    refine g_aload_n (n := 0) (i := 0) rfl rfl d_C_withBlock_29 ?_
    refine g_getfield 8 5 f_C_28 (by assumption) (by rfl) d_C_withBlock_30 ?_
    refine g_callI6 rfl rfl e_C_init l_C_32 is_C_init rfl (by decide) (Nat.zero_le _) (Nat.zero_le _) (Nat.le_of_ble_eq_true rfl) d_C_withBlock_33 (c_C_init (la := la) vf_us ?_)
    refine g_retv ?_
    rw [vf_uu]
    refine g_areturn rfl (Or.inl ⟨_, rfl⟩) (Or.inr ⟨_, rfl⟩) d_C_withBlock_36 ?_
    exact hQ q hq1 hq2


theorem c_C_replacedBy {E : gE} {w : gW} {im : gIm} {Q : gQ} {a p : Nat} {n st su rf : Int} {la : Option Nat} (h1 : g_cell E w im a (cardE n p st su rf la)) {o : Int} (hQ : ∀ q, im q = none → (∀ i, i < gN E → gad E i ≠ q) → Q (.inl (some (.ref q))) w (vf_upd im q (some (cardE n p 2 o rf none)))) : GM E 1 y_C_replacedBy m_C_replacedBy 1 6 [.ref a, .int (iI o)] w im Q := by
  refine g_enter (by decide) rfl rfl (fun h => by first | rfl | cases h) (Nat.le_of_ble_eq_true rfl) rfl ?_
  refine g_new 8 (by decide) c_C_10 ni_C.1 ni_C.2 (by first | decide | omega) (by first | decide | omega) d_C_replacedBy_0 (fun q hq1 hq2 => ?_)
  have h1 := h1.new (y := .inr (8, g_def 8)) hq1
  refine g_dup rfl d_C_replacedBy_3 ?_
  refine g_aload_n (n := 0) (i := 0) rfl rfl d_C_replacedBy_4 ?_
  refine g_getfield 8 0 f_C_9 (by assumption) (by rfl) d_C_replacedBy_5 ?_
  refine g_aload_n (n := 0) (i := 0) rfl rfl d_C_replacedBy_8 ?_
  refine g_getfield 8 1 f_C_15 (by assumption) (by rfl) d_C_replacedBy_9 ?_
  refine g_iconst_i d_C_replacedBy_12 ?_
  refine g_iload_n (n := 1) (i := 1) rfl rfl d_C_replacedBy_13 ?_
  refine g_aload_n (n := 0) (i := 0) rfl rfl d_C_replacedBy_14 ?_
  refine g_getfield 8 4 f_C_25 (by assumption) (by rfl) d_C_replacedBy_15 ?_
  refine g_null d_C_replacedBy_18 ?_
  refine g_callI6 rfl rfl e_C_init l_C_32 is_C_init rfl (by decide) (Nat.zero_le _) (Nat.zero_le _) (Nat.le_of_ble_eq_true rfl) d_C_replacedBy_19 (c_C_init (la := none) vf_us ?_)
  refine g_retv ?_
  rw [vf_uu]
  refine g_areturn rfl (Or.inl ⟨_, rfl⟩) (Or.inr ⟨_, rfl⟩) d_C_replacedBy_22 ?_
  exact hQ q hq1 hq2

theorem c_C_paidBack {E : gE} {w : gW} {im : gIm} {Q : gQ} {a p : Nat} {n st su rf : Int} {la : Option Nat} (h1 : g_cell E w im a (cardE n p st su rf la)) {o : Int} (hQ : ∀ q, im q = none → (∀ i, i < gN E → gad E i ≠ q) → Q (.inl (some (.ref q))) w (vf_upd im q (some (cardE n p 3 su o la)))) : GM E 1 y_C_paidBack m_C_paidBack 1 6 [.ref a, .int (iI o)] w im Q := by
  refine g_enter (by decide) rfl rfl (fun h => by first | rfl | cases h) (Nat.le_of_ble_eq_true rfl) rfl ?_
  refine g_new 8 (by decide) c_C_10 ni_C.1 ni_C.2 (by first | decide | omega) (by first | decide | omega) d_C_paidBack_0 (fun q hq1 hq2 => ?_)
  have h1 := h1.new (y := .inr (8, g_def 8)) hq1
  refine g_dup rfl d_C_paidBack_3 ?_
  refine g_aload_n (n := 0) (i := 0) rfl rfl d_C_paidBack_4 ?_
  refine g_getfield 8 0 f_C_9 (by assumption) (by rfl) d_C_paidBack_5 ?_
  refine g_aload_n (n := 0) (i := 0) rfl rfl d_C_paidBack_8 ?_
  refine g_getfield 8 1 f_C_15 (by assumption) (by rfl) d_C_paidBack_9 ?_
  refine g_iconst_i d_C_paidBack_12 ?_
  refine g_aload_n (n := 0) (i := 0) rfl rfl d_C_paidBack_13 ?_
  refine g_getfield 8 3 f_C_22 (by assumption) (by rfl) d_C_paidBack_14 ?_
  refine g_iload_n (n := 1) (i := 1) rfl rfl d_C_paidBack_17 ?_
  refine g_aload_n (n := 0) (i := 0) rfl rfl d_C_paidBack_18 ?_
  refine g_getfield 8 5 f_C_28 (by assumption) (by rfl) d_C_paidBack_19 ?_
  refine g_callI6 rfl rfl e_C_init l_C_32 is_C_init rfl (by decide) (Nat.zero_le _) (Nat.zero_le _) (Nat.le_of_ble_eq_true rfl) d_C_paidBack_22 (c_C_init (la := la) vf_us ?_)
  refine g_retv ?_
  rw [vf_uu]
  refine g_areturn rfl (Or.inl ⟨_, rfl⟩) (Or.inr ⟨_, rfl⟩) d_C_paidBack_25 ?_
  exact hQ q hq1 hq2

theorem c_I_init {E : gE} {w : gW} {im : gIm} {Q : gQ} {a g : Nat} {bf : Option Nat} {mi : Int} (rm : 0 ≤ mi ∧ mi ≤ 43200) (hm : im a = some (.inr (7, g_def 7))) (hne : bf ≠ some a) {rs : List rT} (hc : chn im bf rs) (ok : okR rs) (hQ : Q (.inl none) w (vf_upd im a (some (rideE bf g mi ((rs.length : Int) + 1) ((dmask rs ||| 2 ^ (mi / 1440).toNat : Nat)))))) : GM E 0 y_I_init m_I_init 0 0 [.ref a, va_rf bf, .ref g, .int (iI mi)] w im Q := by
  have hp2 : 2 ^ (mi / 1440).toNat < 2 ^ 31 := Nat.pow_lt_pow_right (by decide) (by omega)
  have hlen := ok.1
  rcases bf with _ | bf <;> rcases rs with _ | ⟨q, r⟩
  · refine g_enter (by decide) rfl rfl (fun h => by first | rfl | cases h) (Nat.le_of_ble_eq_true rfl) rfl ?_
    refine g_aload_n (n := 0) (i := 0) rfl rfl d_I_init_0 ?_
    refine g_objInit l_I_3 x_obj.1 x_obj.2 (Nat.le_of_ble_eq_true rfl) d_I_init_1 ?_
    refine g_iconst_i d_I_init_4 ?_
    refine g_iload_n (n := 3) (i := 3) rfl rfl d_I_init_5 ?_
    refine g_sipush_i (by decide) d_I_init_6 ?_
    refine g_idiv_i (by omega) (by omega) d_I_init_9 ?_
    refine g_ishl d_I_init_10 ?_
    rw [iI_shl1 (by omega)]
    refine g_istore (i := 4) (by decide) rfl d_I_init_11 ?_
    refine g_aload_n (n := 0) (i := 0) rfl rfl d_I_init_13 ?_
    refine g_aloadN_n (n := 1) (i := 1) rfl rfl d_I_init_14 ?_
    refine g_putI_i 7 0 (by assumption) f_I_9 (Or.inr ⟨rfl, rfl⟩) (by rfl) (by rfl) (Nat.le_of_ble_eq_true rfl) d_I_init_15 ?_
    refine g_aload_n (n := 0) (i := 0) rfl rfl d_I_init_18 ?_
    refine g_aload_n (n := 2) (i := 2) rfl rfl d_I_init_19 ?_
    refine g_putI_i 7 1 vf_us f_I_15 (Or.inr ⟨rfl, rfl⟩) (by rfl) (by rfl) (Nat.le_of_ble_eq_true rfl) d_I_init_20 ?_
    refine g_aload_n (n := 0) (i := 0) rfl rfl d_I_init_23 ?_
    refine g_iload_n (n := 3) (i := 3) rfl rfl d_I_init_24 ?_
    refine g_putI_i 7 2 vf_us f_I_19 (Or.inr ⟨rfl, rfl⟩) (by rfl) (by rfl) (Nat.le_of_ble_eq_true rfl) d_I_init_25 ?_
    refine g_aload_n (n := 0) (i := 0) rfl rfl d_I_init_28 ?_
    refine g_aloadN_n (n := 1) (i := 1) rfl rfl d_I_init_29 ?_
    refine g_ifnonnullN d_I_init_30 ?_
    refine g_iconst_i d_I_init_33 ?_
    refine g_goto (tgt := 43) (by decide) d_I_init_34 ?_
    refine g_putI_i 7 3 vf_us f_I_23 (Or.inr ⟨rfl, rfl⟩) (by rfl) (by rfl) (Nat.le_of_ble_eq_true rfl) d_I_init_43 ?_
    refine g_aload_n (n := 0) (i := 0) rfl rfl d_I_init_46 ?_
    refine g_aloadN_n (n := 1) (i := 1) rfl rfl d_I_init_47 ?_
    refine g_ifnonnullN d_I_init_48 ?_
    refine g_iload (i := 4) rfl d_I_init_51 ?_
    refine g_goto (tgt := 63) (by decide) d_I_init_53 ?_
    refine g_putI_i 7 4 vf_us f_I_26 (Or.inr ⟨rfl, rfl⟩) (by rfl) (by rfl) (Nat.le_of_ble_eq_true rfl) d_I_init_63 ?_
    refine g_return rfl d_I_init_66 ?_
    rw [vf_uu, vf_uu, vf_uu, vf_uu]
    rw [show (dmask [] ||| 2 ^ (mi / 1440).toNat) = 2 ^ (mi / 1440).toNat from Nat.zero_or _] at hQ
    exact hQ
  · exact hc.elim
  · exact hc.elim
  · obtain ⟨bf2, ga2, c1, c2, c3⟩ := hc
    have hb9 : bf ≠ a := fun e => hne (by rw [e])
    refine g_enter (by decide) rfl rfl (fun h => by first | rfl | cases h) (Nat.le_of_ble_eq_true rfl) rfl ?_
    refine g_aload_n (n := 0) (i := 0) rfl rfl d_I_init_0 ?_
    refine g_objInit l_I_3 x_obj.1 x_obj.2 (Nat.le_of_ble_eq_true rfl) d_I_init_1 ?_
    refine g_iconst_i d_I_init_4 ?_
    refine g_iload_n (n := 3) (i := 3) rfl rfl d_I_init_5 ?_
    refine g_sipush_i (by decide) d_I_init_6 ?_
    refine g_idiv_i (by omega) (by omega) d_I_init_9 ?_
    refine g_ishl d_I_init_10 ?_
    rw [iI_shl1 (by omega)]
    refine g_istore (i := 4) (by decide) rfl d_I_init_11 ?_
    refine g_aload_n (n := 0) (i := 0) rfl rfl d_I_init_13 ?_
    refine g_aload_n (n := 1) (i := 1) rfl rfl d_I_init_14 ?_
    refine g_putI_i 7 0 (by assumption) f_I_9 (Or.inr ⟨rfl, rfl⟩) (by rfl) (by rfl) (Nat.le_of_ble_eq_true rfl) d_I_init_15 ?_
    refine g_aload_n (n := 0) (i := 0) rfl rfl d_I_init_18 ?_
    refine g_aload_n (n := 2) (i := 2) rfl rfl d_I_init_19 ?_
    refine g_putI_i 7 1 vf_us f_I_15 (Or.inr ⟨rfl, rfl⟩) (by rfl) (by rfl) (Nat.le_of_ble_eq_true rfl) d_I_init_20 ?_
    refine g_aload_n (n := 0) (i := 0) rfl rfl d_I_init_23 ?_
    refine g_iload_n (n := 3) (i := 3) rfl rfl d_I_init_24 ?_
    refine g_putI_i 7 2 vf_us f_I_19 (Or.inr ⟨rfl, rfl⟩) (by rfl) (by rfl) (Nat.le_of_ble_eq_true rfl) d_I_init_25 ?_
    refine g_aload_n (n := 0) (i := 0) rfl rfl d_I_init_28 ?_
    refine g_aload_n (n := 1) (i := 1) rfl rfl d_I_init_29 ?_
    refine g_ifnonnull (tgt := 37) (by decide) d_I_init_30 ?_
    refine g_aload_n (n := 1) (i := 1) rfl rfl d_I_init_37 ?_
    refine g_getfield 7 3 f_I_23 (g_imm (by (repeat rw [vf_un hb9]); exact c1)) (by rfl) d_I_init_38 ?_
    refine g_iconst_i d_I_init_41 ?_
    refine g_iadd_i d_I_init_42 ?_
    refine g_putI_i 7 3 vf_us f_I_23 (Or.inr ⟨rfl, rfl⟩) (by rfl) (by rfl) (Nat.le_of_ble_eq_true rfl) d_I_init_43 ?_
    refine g_aload_n (n := 0) (i := 0) rfl rfl d_I_init_46 ?_
    refine g_aload_n (n := 1) (i := 1) rfl rfl d_I_init_47 ?_
    refine g_ifnonnull (tgt := 56) (by decide) d_I_init_48 ?_
    refine g_aload_n (n := 1) (i := 1) rfl rfl d_I_init_56 ?_
    refine g_getfield 7 4 f_I_26 (g_imm (by (repeat rw [vf_un hb9]); exact c1)) (by rfl) d_I_init_57 ?_
    refine g_iload (i := 4) rfl d_I_init_60 ?_
    refine g_ior d_I_init_62 ?_
    rw [iI_or]
    refine g_putI_i 7 4 vf_us f_I_26 (Or.inr ⟨rfl, rfl⟩) (by rfl) (by rfl) (Nat.le_of_ble_eq_true rfl) d_I_init_63 ?_
    refine g_return rfl d_I_init_66 ?_
    rw [vf_uu, vf_uu, vf_uu, vf_uu]
    exact hQ


