/-! ===== the reference: refunds, successors, validity, refusals ===== -/
def refM (m : Int → Int) (x : Int) : Int := if 1 < m (461 + 5 * x + 1) ∨ m (413 + 6 * m (461 + 5 * x + 0) + 0) = 2 then 0 else m (461 + 5 * x + 4) / m (413 + 6 * m (461 + 5 * x + 0) + 1) * daysM m x 1
def lastM (m : Int → Int) : Nat → Int → Int
  | 0, x => x
  | n + 1, x => if m (461 + 5 * x + 2) = -1 then x else lastM m n (m (461 + 5 * x + 2))
theorem daysM_rng {m : Int → Int} {x ca : Int} : 0 ≤ daysM m x ca ∧ daysM m x ca ≤ 31 := by
  have := sumZ_le (f := fun k9 => if hasDM m x k9 (m 4).toNat = true then (if ca = 0 then 1 else if isClB m (m (461 + 5 * x + 0)) k9 = true then 1 else 0) else 0) (c := 1) (n := 31) (by omega) (fun k9 _ _ => by (repeat' split) <;> omega)
  unfold daysM
  omega
/-- the ride of an index below the count is there -/
theorem raF_ex {m : Int → Int} {x y : Int} {n : Nat} {k c : Int} (hy : c ≤ y) (h : y - c < sumN (fun j => if m (561 + 3 * (k + j) + 0) = x then 1 else 0) n) (hk : 0 ≤ k) : k ≤ raF m x y n k c := by
  induction n generalizing k c with
  | zero => simp only [sumN] at h; omega
  | succ n ih =>
    have hs : sumN (fun j => if m (561 + 3 * (k + j) + 0) = x then 1 else 0) (n + 1) = (if m (561 + 3 * k + 0) = x then 1 else 0) + sumN (fun j => if m (561 + 3 * (k + 1 + j) + 0) = x then 1 else 0) n := by
      clear ih h
      induction n with
      | zero => simp [sumN]
      | succ n ih2 =>
        rw [sumN, ih2, sumN, show k + ((n + 1 : Nat) : Int) = k + 1 + (n : Int) by omega]
        omega
    rw [hs] at h
    rw [raF]
    split
    · rename_i e
      rw [if_pos e] at h
      split
      · omega
      · have := ih (k := k + 1) (c := c + 1) (by omega) (by omega) (by omega)
        omega
    · rename_i e
      rw [if_neg e] at h
      have := ih (k := k + 1) (c := c) (by omega) (by omega) (by omega)
      omega
theorem rideAtM_ok {m : Int → Int} {x y : Int} (h4 : 0 ≤ m 4) (hy : 0 ≤ y ∧ y < ridesOnM m x) : 0 ≤ rideAtM m x y ∧ rideAtM m x y < m 4 ∧ m (561 + 3 * rideAtM m x y + 0) = x := by
  have h1 := raF_rng (m := m) (x := x) (y := y) (n := (m 4).toNat) (k := 0) (c := 0) (Int.le_refl 0)
  have h2 := raF_ex (m := m) (x := x) (y := y) (n := (m 4).toNat) (k := 0) (c := 0) hy.1 (by
    have h3 := hy.2
    unfold ridesOnM sumZ at h3
    simp only [Int.zero_add]
    omega) (Int.le_refl 0)
  have e : rideAtM m x y = raF m x y (m 4).toNat 0 0 := rfl
  rw [← e] at h1 h2
  exact ⟨h2, by omega, h1.2.2 (by omega)⟩
theorem rideAtM_none {m : Int → Int} {x y : Int} (hy : rideAtM m x y ≠ -1) (h4 : 0 ≤ m 4) : 0 ≤ rideAtM m x y ∧ rideAtM m x y < m 4 := by
  have h1 := raF_rng (m := m) (x := x) (y := y) (n := (m 4).toNat) (k := 0) (c := 0) (Int.le_refl 0)
  have e : rideAtM m x y = raF m x y (m 4).toNat 0 0 := rfl
  rw [← e] at h1
  omega
def isVlM (m : Int → Int) (x : Int) : Prop := ridesOnM m x = 0 ∨ (if m (413 + 6 * m (461 + 5 * x + 0) + 0) = 2 then ridesOnM m x < 10 * m (413 + 6 * m (461 + 5 * x + 0) + 1) else if m (413 + 6 * m (461 + 5 * x + 0) + 0) = 0 then m 0 / 1440 < m (561 + 3 * rideAtM m x 0 + 2) / 1440 + m (413 + 6 * m (461 + 5 * x + 0) + 1) else m (561 + 3 * rideAtM m x (ridesOnM m x - 1) + 2) / 1440 = m 0 / 1440 ∨ daysM m x 0 < m (413 + 6 * m (461 + 5 * x + 0) + 1))

theorem c_M_refundOf {E : gE} {w : gW} {im : gIm} {Q : gQ} {f : Nat → Int} {m : Int → Int} (hm : MR E w f m) (ok : okM m) {x : Int} (rx : 0 ≤ x ∧ x < m 3) (hQ : Q (.inl (some (.int (iI (refM m x))))) w im) : GM E 4 y_M_refundOf m_M_refundOf 0 0 [.ref (gad E 62), .int (iI x)] w im Q := by
  obtain ⟨hn, u2, u3⟩ := id hm
  have k2 : g_cell E w im (gad E 62) _ := g_mut 62 (by omega) u2
  have k3 : g_cell E w im (gad E 63) _ := g_mut 63 (by omega) u3
  obtain ⟨z0, z1, z2, z3, z4, z5, z6, z7, z8, z9⟩ := id ok
  have zx := z8 x rx
  have zp := z7 (m (461 + 5 * x + 0)) (by omega)
  refine g_enter (by decide) rfl rfl (fun h => by first | rfl | cases h) (Nat.le_of_ble_eq_true rfl) rfl ?_
  refine g_aload_n (n := 0) (i := 0) rfl rfl d_M_refundOf_0 ?_
  refine g_iload_n (n := 1) (i := 1) rfl rfl d_M_refundOf_1 ?_
  refine g_iconst_i d_M_refundOf_2 ?_
  refine g_callV2 rfl rfl e_M_c l_M_90 iv_M_c 9 (by decide) rfl (by assumption) (by decide) (Nat.zero_le _) (Nat.zero_le _) (Nat.le_of_ble_eq_true rfl) d_M_refundOf_3 (c_M_c hm (by omega) (by omega) ?_)
  refine g_ret ?_
  refine g_istore_n (n := 2) (i := 2) rfl (by decide) rfl d_M_refundOf_6 ?_
  refine g_aload_n (n := 0) (i := 0) rfl rfl d_M_refundOf_7 ?_
  refine g_iload_n (n := 1) (i := 1) rfl rfl d_M_refundOf_8 ?_
  refine g_callV1 rfl rfl e_M_isGone l_M_154 iv_M_isGone 9 (by decide) rfl (by assumption) (by decide) (Nat.zero_le _) (Nat.zero_le _) (Nat.le_of_ble_eq_true rfl) d_M_refundOf_9 (c_M_isGone hm ok (by omega) (fun hG => ?_) (fun hG => ?_))
  · refine g_ret ?_
    refine g_if_ne_i (tgt := 25) (by decide) d_M_refundOf_12 (by decide) (fun h12 => ?_) (fun h => absurd h (by decide))
    refine g_iconst_i d_M_refundOf_25 ?_
    refine g_goto (tgt := 49) (by decide) d_M_refundOf_26 ?_
    refine g_ireturn_i rfl d_M_refundOf_49 ?_
    exact g_qi hQ (by unfold refM; first | (rw [if_pos (Or.inl hG)]; done) | (rw [if_pos (Or.inr h22)]; done) | (rw [if_neg (fun h => h.elim hG h22)]; done))
  · refine g_ret ?_
    refine g_if_ne_i (tgt := 25) (by decide) d_M_refundOf_12 (by decide) (fun h => absurd h (by decide)) (fun h12 => ?_)
    refine g_aload_n (n := 0) (i := 0) rfl rfl d_M_refundOf_15 ?_
    refine g_iload_n (n := 2) (i := 2) rfl rfl d_M_refundOf_16 ?_
    refine g_iconst_i d_M_refundOf_17 ?_
    refine g_callV2 rfl rfl e_M_p l_M_83 iv_M_p 9 (by decide) rfl (by assumption) (by decide) (Nat.zero_le _) (Nat.zero_le _) (Nat.le_of_ble_eq_true rfl) d_M_refundOf_18 (c_M_p hm (by omega) (by omega) ?_)
    refine g_ret ?_
    refine g_iconst_i d_M_refundOf_21 ?_
    refine g_icmp_ne_i (tgt := 29) (by omega) (by decide) d_M_refundOf_22 (by decide) (fun h22 => ?_) (fun h22 => ?_)
    · refine g_aload_n (n := 0) (i := 0) rfl rfl d_M_refundOf_29 ?_
      refine g_iload_n (n := 1) (i := 1) rfl rfl d_M_refundOf_30 ?_
      refine g_iconst_i d_M_refundOf_31 ?_
      refine g_callV2 rfl rfl e_M_c l_M_90 iv_M_c 9 (by decide) rfl (by assumption) (by decide) (Nat.zero_le _) (Nat.zero_le _) (Nat.le_of_ble_eq_true rfl) d_M_refundOf_32 (c_M_c hm (by omega) (by omega) ?_)
      refine g_ret ?_
      refine g_aload_n (n := 0) (i := 0) rfl rfl d_M_refundOf_35 ?_
      refine g_iload_n (n := 2) (i := 2) rfl rfl d_M_refundOf_36 ?_
      refine g_iconst_i d_M_refundOf_37 ?_
      refine g_callV2 rfl rfl e_M_p l_M_83 iv_M_p 9 (by decide) rfl (by assumption) (by decide) (Nat.zero_le _) (Nat.zero_le _) (Nat.le_of_ble_eq_true rfl) d_M_refundOf_38 (c_M_p hm (by omega) (by omega) ?_)
      refine g_ret ?_
      refine g_idiv_i (by omega) (by omega) d_M_refundOf_41 ?_
      refine g_aload_n (n := 0) (i := 0) rfl rfl d_M_refundOf_42 ?_
      refine g_iload_n (n := 1) (i := 1) rfl rfl d_M_refundOf_43 ?_
      refine g_iconst_i d_M_refundOf_44 ?_
      refine g_callV2 rfl rfl e_M_daysOf l_M_142 iv_M_daysOf 9 (by decide) rfl (by assumption) (by decide) (Nat.zero_le _) (Nat.zero_le _) (Nat.le_of_ble_eq_true rfl) d_M_refundOf_45 (c_M_daysOf hm ok (by omega) (by omega) ?_)
      refine g_ret ?_
      refine g_imul_i d_M_refundOf_48 ?_
      refine g_ireturn_i rfl d_M_refundOf_49 ?_
      exact g_qi hQ (by unfold refM; first | (rw [if_pos (Or.inl hG)]; done) | (rw [if_pos (Or.inr h22)]; done) | (rw [if_neg (fun h => h.elim hG h22)]; done))
    · refine g_iconst_i d_M_refundOf_25 ?_
      refine g_goto (tgt := 49) (by decide) d_M_refundOf_26 ?_
      refine g_ireturn_i rfl d_M_refundOf_49 ?_
      exact g_qi hQ (by unfold refM; first | (rw [if_pos (Or.inl hG)]; done) | (rw [if_pos (Or.inr h22)]; done) | (rw [if_neg (fun h => h.elim hG h22)]; done))

theorem c_M_sumOf {E : gE} {w : gW} {im : gIm} {Q : gQ} {f : Nat → Int} {m : Int → Int} (hm : MR E w f m) (ok : okM m) {y : Int} (ry : 0 ≤ y ∧ y ≤ 4) (hQ : Q (.inl (some (.int (iI (sumZ (fun k9 => if y = 0 then m (461 + 5 * k9 + 4) else if y = 1 then m (461 + 5 * k9 + 3) else if y = 4 then refM m k9 else if ridesOnM m k9 = 0 then m (461 + 5 * k9 + 4) - m (461 + 5 * k9 + 3) else 0) (m 3)))))) w im) : GM E 5 y_M_sumOf m_M_sumOf 0 0 [.ref (gad E 62), .int (iI y)] w im Q := by
  obtain ⟨hn, u2, u3⟩ := id hm
  have k2 : g_cell E w im (gad E 62) _ := g_mut 62 (by omega) u2
  have k3 : g_cell E w im (gad E 63) _ := g_mut 63 (by omega) u3
  obtain ⟨z0, z1, z2, z3, z4, z5, z6, z7, z8, z9⟩ := id ok
  have loop : ∀ (n9 : Nat) (k9 s9 : Int), 0 ≤ k9 → k9 + n9 = m 3 → s9 = sumZ (fun k9 => if y = 0 then m (461 + 5 * k9 + 4) else if y = 1 then m (461 + 5 * k9 + 3) else if y = 4 then refM m k9 else if ridesOnM m k9 = 0 then m (461 + 5 * k9 + 4) - m (461 + 5 * k9 + 3) else 0) k9 → G E 5 m_M_sumOf 4 [(0, .ref (gad E 62)), (1, .int (iI y)), (2, .int (iI s9)), (3, .int (iI k9))] [] w im 0 0 Q := by
    intro n9
    induction n9 with
    | zero =>
      intro k9 s9 h9 hk9 hs9
      have e9 : k9 = m 3 := by omega
      rw [e9] at hs9
      refine g_iload_n (n := 3) (i := 3) rfl rfl d_M_sumOf_4 ?_
      refine g_aload_n (n := 0) (i := 0) rfl rfl d_M_sumOf_5 ?_
      refine g_getfield 9 0 f_M_9 (by assumption) (by rfl) d_M_sumOf_6 ?_
      refine g_iconst_i d_M_sumOf_9 ?_
      refine g_iaload_i (by assumption) (by omega) (by omega) (by rfl) d_M_sumOf_10 ?_
      refine g_icmp_ge_i (tgt := 80) (by omega) (by omega) d_M_sumOf_11 (by decide) (fun h11 => ?_) (fun h => by exfalso; omega)
      refine g_iload_n (n := 2) (i := 2) rfl rfl d_M_sumOf_80 ?_
      refine g_ireturn_i rfl d_M_sumOf_81 ?_
      exact g_qi hQ hs9
    | succ n9 ih =>
      intro k9 s9 h9 hk9 hs9
      have hlt : k9 < m 3 := by omega
      have zi := z8 k9 ⟨h9, hlt⟩
      have hrn := ridesOnM_rng z4 (x := k9)
      refine g_iload_n (n := 3) (i := 3) rfl rfl d_M_sumOf_4 ?_
      refine g_aload_n (n := 0) (i := 0) rfl rfl d_M_sumOf_5 ?_
      refine g_getfield 9 0 f_M_9 (by assumption) (by rfl) d_M_sumOf_6 ?_
      refine g_iconst_i d_M_sumOf_9 ?_
      refine g_iaload_i (by assumption) (by omega) (by omega) (by rfl) d_M_sumOf_10 ?_
      refine g_icmp_ge_i (tgt := 80) (by omega) (by omega) d_M_sumOf_11 (by decide) (fun h => by exfalso; omega) (fun h11 => ?_)
      refine g_iload_n (n := 2) (i := 2) rfl rfl d_M_sumOf_14 ?_
      refine g_iload_n (n := 1) (i := 1) rfl rfl d_M_sumOf_15 ?_
      refine g_if_ne_i (tgt := 28) (by omega) d_M_sumOf_16 (by decide) (fun h16 => ?_) (fun h16 => ?_)
      · refine g_iload_n (n := 1) (i := 1) rfl rfl d_M_sumOf_28 ?_
        refine g_iconst_i d_M_sumOf_29 ?_
        refine g_icmp_ne_i (tgt := 42) (by omega) (by decide) d_M_sumOf_30 (by decide) (fun h30 => ?_) (fun h30 => ?_)
        · refine g_iload_n (n := 1) (i := 1) rfl rfl d_M_sumOf_42 ?_
          refine g_iconst_i d_M_sumOf_43 ?_
          refine g_icmp_ne_i (tgt := 55) (by omega) (by decide) d_M_sumOf_44 (by decide) (fun h44 => ?_) (fun h44 => ?_)
          · refine g_aload_n (n := 0) (i := 0) rfl rfl d_M_sumOf_55 ?_
            refine g_iload_n (n := 3) (i := 3) rfl rfl d_M_sumOf_56 ?_
            refine g_callV1 rfl rfl e_M_ridesOn l_M_136 iv_M_ridesOn 9 (by decide) rfl (by assumption) (by decide) (Nat.zero_le _) (Nat.zero_le _) (Nat.le_of_ble_eq_true rfl) d_M_sumOf_57 (c_M_ridesOn hm ok (by omega) ?_)
            refine g_ret ?_
            change G E 5 m_M_sumOf 60 _ [.int (iI (ridesOnM m k9)), .int (iI s9)] _ _ _ _ Q
            refine g_if_ne_i (tgt := 71) (by omega) d_M_sumOf_60 (by decide) (fun h60 => ?_) (fun h60 => ?_)
            · refine g_iconst_i d_M_sumOf_71 ?_
              refine g_iadd_i d_M_sumOf_72 ?_
              refine g_istore_n (n := 2) (i := 2) rfl (by decide) rfl d_M_sumOf_73 ?_
              refine g_iinc_i (i := 3) rfl (by decide) rfl d_M_sumOf_74 ?_
              refine g_goto (tgt := 4) (by decide) d_M_sumOf_77 ?_
              exact g_cut (lv' := [(0, .ref (gad E 62)), (1, .int (iI y)), (2, .int (iI _)), (3, .int (iI (k9 + 1)))]) ⟨rfl, rfl, rfl, rfl, trivial⟩ (ih (k9 + 1) _ (by omega) (by omega) (by rw [sumZ_s (by omega), hs9]; first | (rw [if_pos h16]; done) | (rw [if_neg h16, if_pos h30]; done) | (rw [if_neg h16, if_neg h30, if_pos h44]; done) | (rw [if_neg h16, if_neg h30, if_neg h44, if_pos h60]; done) | (rw [if_neg h16, if_neg h30, if_neg h44, if_neg h60]; done)))
            · refine g_aload_n (n := 0) (i := 0) rfl rfl d_M_sumOf_63 ?_
              refine g_iload_n (n := 3) (i := 3) rfl rfl d_M_sumOf_64 ?_
              refine g_callV1 rfl rfl e_M_keptOf l_M_175 iv_M_keptOf 9 (by decide) rfl (by assumption) (by decide) (Nat.zero_le _) (Nat.zero_le _) (Nat.le_of_ble_eq_true rfl) d_M_sumOf_65 (c_M_keptOf hm (by omega) ?_)
              refine g_ret ?_
              refine g_goto (tgt := 72) (by decide) d_M_sumOf_68 ?_
              refine g_iadd_i d_M_sumOf_72 ?_
              refine g_istore_n (n := 2) (i := 2) rfl (by decide) rfl d_M_sumOf_73 ?_
              refine g_iinc_i (i := 3) rfl (by decide) rfl d_M_sumOf_74 ?_
              refine g_goto (tgt := 4) (by decide) d_M_sumOf_77 ?_
              exact g_cut (lv' := [(0, .ref (gad E 62)), (1, .int (iI y)), (2, .int (iI _)), (3, .int (iI (k9 + 1)))]) ⟨rfl, rfl, rfl, rfl, trivial⟩ (ih (k9 + 1) _ (by omega) (by omega) (by rw [sumZ_s (by omega), hs9]; first | (rw [if_pos h16]; done) | (rw [if_neg h16, if_pos h30]; done) | (rw [if_neg h16, if_neg h30, if_pos h44]; done) | (rw [if_neg h16, if_neg h30, if_neg h44, if_pos h60]; done) | (rw [if_neg h16, if_neg h30, if_neg h44, if_neg h60]; done)))
          · refine g_aload_n (n := 0) (i := 0) rfl rfl d_M_sumOf_47 ?_
            refine g_iload_n (n := 3) (i := 3) rfl rfl d_M_sumOf_48 ?_
            refine g_callV1 rfl rfl e_M_refundOf l_M_172 iv_M_refundOf 9 (by decide) rfl (by assumption) (by decide) (Nat.zero_le _) (Nat.zero_le _) (Nat.le_of_ble_eq_true rfl) d_M_sumOf_49 (c_M_refundOf hm ok (by omega) ?_)
            refine g_ret ?_
            refine g_goto (tgt := 72) (by decide) d_M_sumOf_52 ?_
            refine g_iadd_i d_M_sumOf_72 ?_
            refine g_istore_n (n := 2) (i := 2) rfl (by decide) rfl d_M_sumOf_73 ?_
            refine g_iinc_i (i := 3) rfl (by decide) rfl d_M_sumOf_74 ?_
            refine g_goto (tgt := 4) (by decide) d_M_sumOf_77 ?_
            exact g_cut (lv' := [(0, .ref (gad E 62)), (1, .int (iI y)), (2, .int (iI _)), (3, .int (iI (k9 + 1)))]) ⟨rfl, rfl, rfl, rfl, trivial⟩ (ih (k9 + 1) _ (by omega) (by omega) (by rw [sumZ_s (by omega), hs9]; first | (rw [if_pos h16]; done) | (rw [if_neg h16, if_pos h30]; done) | (rw [if_neg h16, if_neg h30, if_pos h44]; done) | (rw [if_neg h16, if_neg h30, if_neg h44, if_pos h60]; done) | (rw [if_neg h16, if_neg h30, if_neg h44, if_neg h60]; done)))
        · refine g_aload_n (n := 0) (i := 0) rfl rfl d_M_sumOf_33 ?_
          refine g_iload_n (n := 3) (i := 3) rfl rfl d_M_sumOf_34 ?_
          refine g_iconst_i d_M_sumOf_35 ?_
          refine g_callV2 rfl rfl e_M_c l_M_90 iv_M_c 9 (by decide) rfl (by assumption) (by decide) (Nat.zero_le _) (Nat.zero_le _) (Nat.le_of_ble_eq_true rfl) d_M_sumOf_36 (c_M_c hm (by omega) (by omega) ?_)
          refine g_ret ?_
          refine g_goto (tgt := 72) (by decide) d_M_sumOf_39 ?_
          refine g_iadd_i d_M_sumOf_72 ?_
          refine g_istore_n (n := 2) (i := 2) rfl (by decide) rfl d_M_sumOf_73 ?_
          refine g_iinc_i (i := 3) rfl (by decide) rfl d_M_sumOf_74 ?_
          refine g_goto (tgt := 4) (by decide) d_M_sumOf_77 ?_
          exact g_cut (lv' := [(0, .ref (gad E 62)), (1, .int (iI y)), (2, .int (iI _)), (3, .int (iI (k9 + 1)))]) ⟨rfl, rfl, rfl, rfl, trivial⟩ (ih (k9 + 1) _ (by omega) (by omega) (by rw [sumZ_s (by omega), hs9]; first | (rw [if_pos h16]; done) | (rw [if_neg h16, if_pos h30]; done) | (rw [if_neg h16, if_neg h30, if_pos h44]; done) | (rw [if_neg h16, if_neg h30, if_neg h44, if_pos h60]; done) | (rw [if_neg h16, if_neg h30, if_neg h44, if_neg h60]; done)))
      · refine g_aload_n (n := 0) (i := 0) rfl rfl d_M_sumOf_19 ?_
        refine g_iload_n (n := 3) (i := 3) rfl rfl d_M_sumOf_20 ?_
        refine g_iconst_i d_M_sumOf_21 ?_
        refine g_callV2 rfl rfl e_M_c l_M_90 iv_M_c 9 (by decide) rfl (by assumption) (by decide) (Nat.zero_le _) (Nat.zero_le _) (Nat.le_of_ble_eq_true rfl) d_M_sumOf_22 (c_M_c hm (by omega) (by omega) ?_)
        refine g_ret ?_
        refine g_goto (tgt := 72) (by decide) d_M_sumOf_25 ?_
        refine g_iadd_i d_M_sumOf_72 ?_
        refine g_istore_n (n := 2) (i := 2) rfl (by decide) rfl d_M_sumOf_73 ?_
        refine g_iinc_i (i := 3) rfl (by decide) rfl d_M_sumOf_74 ?_
        refine g_goto (tgt := 4) (by decide) d_M_sumOf_77 ?_
        exact g_cut (lv' := [(0, .ref (gad E 62)), (1, .int (iI y)), (2, .int (iI _)), (3, .int (iI (k9 + 1)))]) ⟨rfl, rfl, rfl, rfl, trivial⟩ (ih (k9 + 1) _ (by omega) (by omega) (by rw [sumZ_s (by omega), hs9]; first | (rw [if_pos h16]; done) | (rw [if_neg h16, if_pos h30]; done) | (rw [if_neg h16, if_neg h30, if_pos h44]; done) | (rw [if_neg h16, if_neg h30, if_neg h44, if_pos h60]; done) | (rw [if_neg h16, if_neg h30, if_neg h44, if_neg h60]; done)))
  refine g_enter (by decide) rfl rfl (fun h => by first | rfl | cases h) (Nat.le_of_ble_eq_true rfl) rfl ?_
  refine g_iconst_i d_M_sumOf_0 ?_
  refine g_istore_n (n := 2) (i := 2) rfl (by decide) rfl d_M_sumOf_1 ?_
  refine g_iconst_i d_M_sumOf_2 ?_
  refine g_istore_n (n := 3) (i := 3) rfl (by decide) rfl d_M_sumOf_3 ?_
  refine g_cut ?_ (loop (m 3 : Int).toNat 0 0 (by omega) (by omega) rfl)
  exact ⟨rfl, rfl, rfl, rfl, trivial⟩

theorem c_M_lastOf {E : gE} {w : gW} {im : gIm} {Q : gQ} {f : Nat → Int} {m : Int → Int} (hm : MR E w f m) (ok : okM m) {x : Int} (rx : 0 ≤ x ∧ x < m 3) (hQ : Q (.inl (some (.int (iI (lastM m 20 x))))) w im) : GM E 1 y_M_lastOf m_M_lastOf 0 0 [.ref (gad E 62), .int (iI x)] w im Q := by
  obtain ⟨hn, u2, u3⟩ := id hm
  have k2 : g_cell E w im (gad E 62) _ := g_mut 62 (by omega) u2
  have k3 : g_cell E w im (gad E 63) _ := g_mut 63 (by omega) u3
  obtain ⟨z0, z1, z2, z3, z4, z5, z6, z7, z8, z9⟩ := id ok
  have loop : ∀ (n9 : Nat) (x9 : Int), (0 ≤ x9 ∧ x9 < m 3) → m 3 - x9 ≤ n9 → Q (.inl (some (.int (iI (lastM m n9 x9))))) w im → G E 1 m_M_lastOf 2 [(0, .ref (gad E 62)), (2, .int (iI x9))] [] w im 0 0 Q := by
    intro n9
    induction n9 with
    | zero =>
      intro x9 hx h9 hQ9
      omega
    | succ n9 ih =>
      intro x9 hx h9 hQ9
      have zi := z8 x9 hx
      rw [lastM] at hQ9
      refine g_aload_n (n := 0) (i := 0) rfl rfl d_M_lastOf_2 ?_
      refine g_iload_n (n := 2) (i := 2) rfl rfl d_M_lastOf_3 ?_
      refine g_iconst_i d_M_lastOf_4 ?_
      refine g_callV2 rfl rfl e_M_c l_M_90 iv_M_c 9 (by decide) rfl (by assumption) (by decide) (Nat.zero_le _) (Nat.zero_le _) (Nat.le_of_ble_eq_true rfl) d_M_lastOf_5 (c_M_c hm (by omega) (by omega) ?_)
      refine g_ret ?_
      refine g_iconst_i d_M_lastOf_8 ?_
      refine g_icmp_eq_i (tgt := 22) (by omega) (by decide) d_M_lastOf_9 (by decide) (fun h9 => ?_) (fun h9 => ?_)
      · refine g_iload_n (n := 2) (i := 2) rfl rfl d_M_lastOf_22 ?_
        refine g_ireturn_i rfl d_M_lastOf_23 ?_
        rw [if_pos (by assumption)] at hQ9
        exact hQ9
      · refine g_aload_n (n := 0) (i := 0) rfl rfl d_M_lastOf_12 ?_
        refine g_iload_n (n := 2) (i := 2) rfl rfl d_M_lastOf_13 ?_
        refine g_iconst_i d_M_lastOf_14 ?_
        refine g_callV2 rfl rfl e_M_c l_M_90 iv_M_c 9 (by decide) rfl (by assumption) (by decide) (Nat.zero_le _) (Nat.zero_le _) (Nat.le_of_ble_eq_true rfl) d_M_lastOf_15 (c_M_c hm (by omega) (by omega) ?_)
        refine g_ret ?_
        refine g_istore_n (n := 2) (i := 2) rfl (by decide) rfl d_M_lastOf_18 ?_
        refine g_goto (tgt := 2) (by decide) d_M_lastOf_19 ?_
        rw [if_neg (by assumption)] at hQ9
        exact g_cut (lv' := [(0, .ref (gad E 62)), (2, .int (iI _))]) ⟨rfl, rfl, trivial⟩ (ih _ (by omega) (by omega) hQ9)
  refine g_enter (by decide) rfl rfl (fun h => by first | rfl | cases h) (Nat.le_of_ble_eq_true rfl) rfl ?_
  refine g_iload_n (n := 1) (i := 1) rfl rfl d_M_lastOf_0 ?_
  refine g_istore_n (n := 2) (i := 2) rfl (by decide) rfl d_M_lastOf_1 ?_
  refine g_cut ?_ (loop 20 x rx (by omega) hQ)
  exact ⟨rfl, rfl, trivial⟩

