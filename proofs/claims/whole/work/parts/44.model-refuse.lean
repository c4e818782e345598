/-! ===== the reference: validity, refusals ===== -/
theorem c_M_ridesOn2 {E : gE} {w : gW} {im : gIm} {Q : gQ} {f : Nat → Int} {m : Int → Int} (hm : MR E w f m) (ok : okM m) {x : Int} (rx : 0 ≤ x ∧ x < 20) (hQ : Q (.inl (some (.int (iI (ridesOnM m x))))) w im) : GM E 1 y_M_ridesOn m_M_ridesOn 0 0 [.ref (gad E 62), .int (iI x)] w im Q := c_M_ridesOn hm ok rx hQ
theorem c_M_ridesOf2 {E : gE} {w : gW} {im : gIm} {Q : gQ} {f : Nat → Int} {m : Int → Int} (hm : MR E w f m) (ok : okM m) {x y : Int} (rx : 0 ≤ x ∧ x < 20) (ry : 0 ≤ y ∧ y ≤ 3) (hQ : Q (.inl (some (.int (iI (ridesOfM m x y))))) w im) : GM E 1 y_M_ridesOf m_M_ridesOf 0 0 [.ref (gad E 62), .int (iI x), .int (iI y)] w im Q := c_M_ridesOf hm ok rx ry hQ

theorem c_M_isValid {E : gE} {w : gW} {im : gIm} {Q : gQ} {f : Nat → Int} {m : Int → Int} (hm : MR E w f m) (ok : okM m) {x : Int} (rx : 0 ≤ x ∧ x < m 3) (hQ1 : (isVlM m x) → Q (.inl (some (.int (iI 1)))) w im) (hQ2 : ¬ (isVlM m x) → Q (.inl (some (.int (iI 0)))) w im) : GM E 4 y_M_isValid m_M_isValid 0 0 [.ref (gad E 62), .int (iI x)] w im Q := by
  obtain ⟨hn, u2, u3⟩ := id hm
  have k2 : g_cell E w im (gad E 62) _ := g_mut 62 (by omega) u2
  have k3 : g_cell E w im (gad E 63) _ := g_mut 63 (by omega) u3
  obtain ⟨z0, z1, z2, z3, z4, z5, z6, z7, z8, z9⟩ := id ok
  have zx := z8 x rx
  have zp := z7 (m (461 + 5 * x + 0)) (by omega)
  have hrn := ridesOnM_rng z4 (x := x)
  have hdr := daysM_rng (m := m) (x := x) (ca := 0)
  refine g_enter (by decide) rfl rfl (fun h => by first | rfl | cases h) (Nat.le_of_ble_eq_true rfl) rfl ?_
  refine g_aload_n (n := 0) (i := 0) rfl rfl d_M_isValid_0 ?_
  refine g_iload_n (n := 1) (i := 1) rfl rfl d_M_isValid_1 ?_
  refine g_callV1 rfl rfl e_M_ridesOn l_M_136 iv_M_ridesOn 9 (by decide) rfl (by assumption) (by decide) (Nat.zero_le _) (Nat.zero_le _) (Nat.le_of_ble_eq_true rfl) d_M_isValid_2 (c_M_ridesOn2 hm ok (by omega) ?_)
  refine g_ret ?_
  refine g_istore_n (n := 2) (i := 2) rfl (by decide) rfl d_M_isValid_5 ?_
  refine g_iload_n (n := 2) (i := 2) rfl rfl d_M_isValid_6 ?_
  refine g_if_ne_i (tgt := 12) (by omega) d_M_isValid_7 (by decide) (fun h7 => ?_) (fun h7 => ?_)
  · refine g_aload_n (n := 0) (i := 0) rfl rfl d_M_isValid_12 ?_
    refine g_iload_n (n := 1) (i := 1) rfl rfl d_M_isValid_13 ?_
    refine g_iconst_i d_M_isValid_14 ?_
    refine g_callV2 rfl rfl e_M_c l_M_90 iv_M_c 9 (by decide) rfl (by assumption) (by decide) (Nat.zero_le _) (Nat.zero_le _) (Nat.le_of_ble_eq_true rfl) d_M_isValid_15 (c_M_c hm (by omega) (by omega) ?_)
    refine g_ret ?_
    refine g_istore_n (n := 3) (i := 3) rfl (by decide) rfl d_M_isValid_18 ?_
    refine g_aload_n (n := 0) (i := 0) rfl rfl d_M_isValid_19 ?_
    refine g_iload_n (n := 3) (i := 3) rfl rfl d_M_isValid_20 ?_
    refine g_iconst_i d_M_isValid_21 ?_
    refine g_callV2 rfl rfl e_M_p l_M_83 iv_M_p 9 (by decide) rfl (by assumption) (by decide) (Nat.zero_le _) (Nat.zero_le _) (Nat.le_of_ble_eq_true rfl) d_M_isValid_22 (c_M_p hm (by omega) (by omega) ?_)
    refine g_ret ?_
    refine g_istore (i := 4) (by decide) rfl d_M_isValid_25 ?_
    refine g_aload_n (n := 0) (i := 0) rfl rfl d_M_isValid_27 ?_
    refine g_iload_n (n := 3) (i := 3) rfl rfl d_M_isValid_28 ?_
    refine g_iconst_i d_M_isValid_29 ?_
    refine g_callV2 rfl rfl e_M_p l_M_83 iv_M_p 9 (by decide) rfl (by assumption) (by decide) (Nat.zero_le _) (Nat.zero_le _) (Nat.le_of_ble_eq_true rfl) d_M_isValid_30 (c_M_p hm (by omega) (by omega) ?_)
    refine g_ret ?_
    refine g_iconst_i d_M_isValid_33 ?_
    refine g_icmp_ne_i (tgt := 52) (by omega) (by decide) d_M_isValid_34 (by decide) (fun h34 => ?_) (fun h34 => ?_)
    · refine g_aload_n (n := 0) (i := 0) rfl rfl d_M_isValid_52 ?_
      refine g_iload_n (n := 3) (i := 3) rfl rfl d_M_isValid_53 ?_
      refine g_iconst_i d_M_isValid_54 ?_
      refine g_callV2 rfl rfl e_M_p l_M_83 iv_M_p 9 (by decide) rfl (by assumption) (by decide) (Nat.zero_le _) (Nat.zero_le _) (Nat.le_of_ble_eq_true rfl) d_M_isValid_55 (c_M_p hm (by omega) (by omega) ?_)
      refine g_ret ?_
      refine g_if_ne_i (tgt := 92) (by omega) d_M_isValid_58 (by decide) (fun h58 => ?_) (fun h58 => ?_)
      · refine g_aload_n (n := 0) (i := 0) rfl rfl d_M_isValid_92 ?_
        refine g_aload_n (n := 0) (i := 0) rfl rfl d_M_isValid_93 ?_
        refine g_iload_n (n := 1) (i := 1) rfl rfl d_M_isValid_94 ?_
        refine g_iload_n (n := 2) (i := 2) rfl rfl d_M_isValid_95 ?_
        refine g_iconst_i d_M_isValid_96 ?_
        refine g_isub_i d_M_isValid_97 ?_
        refine g_callV2 rfl rfl e_M_rideAt l_M_139 iv_M_rideAt 9 (by decide) rfl (by assumption) (by decide) (Nat.zero_le _) (Nat.zero_le _) (Nat.le_of_ble_eq_true rfl) d_M_isValid_98 (c_M_rideAt hm ok (by omega) (by omega) ?_)
        refine g_ret ?_
        have hra := rideAtM_ok (m := m) (x := x) (y := ridesOnM m x - 1) z4.1 (by omega)
        have zr := z9 _ ⟨hra.1, hra.2.1⟩
        refine g_iconst_i d_M_isValid_101 ?_
        refine g_callV2 rfl rfl e_M_rideOf l_M_59 iv_M_rideOf 9 (by decide) rfl (by assumption) (by decide) (Nat.zero_le _) (Nat.zero_le _) (Nat.le_of_ble_eq_true rfl) d_M_isValid_102 (c_M_rideOf hm (by omega) (by omega) ?_)
        refine g_ret ?_
        refine g_sipush_i (by decide) d_M_isValid_105 ?_
        refine g_idiv_i (by omega) (by omega) d_M_isValid_108 ?_
        refine g_aload_n (n := 0) (i := 0) rfl rfl d_M_isValid_109 ?_
        refine g_callV0 rfl rfl e_M_today l_M_76 iv_M_today 9 (by decide) rfl (by assumption) (by decide) (Nat.zero_le _) (Nat.zero_le _) (Nat.le_of_ble_eq_true rfl) d_M_isValid_110 (c_M_today hm ok ?_)
        refine g_ret ?_
        refine g_icmp_eq_i (tgt := 127) (by omega) (by omega) d_M_isValid_113 (by decide) (fun h113 => ?_) (fun h113 => ?_)
        · refine g_iconst_i d_M_isValid_127 ?_
          refine g_goto (tgt := 132) (by decide) d_M_isValid_128 ?_
          refine g_ireturn_1 rfl d_M_isValid_132 ?_
          first | exact hQ1 (Or.inl (by omega)) | (refine hQ1 (Or.inr ?_); first | (rw [if_pos (by omega)]; omega) | (rw [if_neg (by omega), if_pos (by omega)]; omega) | (rw [if_neg (by omega), if_neg (by omega)]; omega)) | (refine hQ2 (fun h => ?_); rcases h with h | h; omega; first | (rw [if_pos (by omega)] at h; omega) | (rw [if_neg (by omega), if_pos (by omega)] at h; omega) | (rw [if_neg (by omega), if_neg (by omega)] at h; omega))
        · refine g_aload_n (n := 0) (i := 0) rfl rfl d_M_isValid_116 ?_
          refine g_iload_n (n := 1) (i := 1) rfl rfl d_M_isValid_117 ?_
          refine g_iconst_i d_M_isValid_118 ?_
          refine g_callV2 rfl rfl e_M_daysOf l_M_142 iv_M_daysOf 9 (by decide) rfl (by assumption) (by decide) (Nat.zero_le _) (Nat.zero_le _) (Nat.le_of_ble_eq_true rfl) d_M_isValid_119 (c_M_daysOf hm ok (by omega) (by omega) ?_)
          refine g_ret ?_
          refine g_iload (i := 4) rfl d_M_isValid_122 ?_
          refine g_icmp_ge_i (tgt := 131) (by omega) (by omega) d_M_isValid_124 (by decide) (fun h124 => ?_) (fun h124 => ?_)
          · refine g_iconst_i d_M_isValid_131 ?_
            refine g_ireturn_0 rfl d_M_isValid_132 ?_
            first | exact hQ1 (Or.inl (by omega)) | (refine hQ1 (Or.inr ?_); first | (rw [if_pos (by omega)]; omega) | (rw [if_neg (by omega), if_pos (by omega)]; omega) | (rw [if_neg (by omega), if_neg (by omega)]; omega)) | (refine hQ2 (fun h => ?_); rcases h with h | h; omega; first | (rw [if_pos (by omega)] at h; omega) | (rw [if_neg (by omega), if_pos (by omega)] at h; omega) | (rw [if_neg (by omega), if_neg (by omega)] at h; omega))
          · refine g_iconst_i d_M_isValid_127 ?_
            refine g_goto (tgt := 132) (by decide) d_M_isValid_128 ?_
            refine g_ireturn_1 rfl d_M_isValid_132 ?_
            first | exact hQ1 (Or.inl (by omega)) | (refine hQ1 (Or.inr ?_); first | (rw [if_pos (by omega)]; omega) | (rw [if_neg (by omega), if_pos (by omega)]; omega) | (rw [if_neg (by omega), if_neg (by omega)]; omega)) | (refine hQ2 (fun h => ?_); rcases h with h | h; omega; first | (rw [if_pos (by omega)] at h; omega) | (rw [if_neg (by omega), if_pos (by omega)] at h; omega) | (rw [if_neg (by omega), if_neg (by omega)] at h; omega))
      · refine g_aload_n (n := 0) (i := 0) rfl rfl d_M_isValid_61 ?_
        refine g_callV0 rfl rfl e_M_today l_M_76 iv_M_today 9 (by decide) rfl (by assumption) (by decide) (Nat.zero_le _) (Nat.zero_le _) (Nat.le_of_ble_eq_true rfl) d_M_isValid_62 (c_M_today hm ok ?_)
        refine g_ret ?_
        refine g_aload_n (n := 0) (i := 0) rfl rfl d_M_isValid_65 ?_
        refine g_aload_n (n := 0) (i := 0) rfl rfl d_M_isValid_66 ?_
        refine g_iload_n (n := 1) (i := 1) rfl rfl d_M_isValid_67 ?_
        refine g_iconst_i d_M_isValid_68 ?_
        refine g_callV2 rfl rfl e_M_rideAt l_M_139 iv_M_rideAt 9 (by decide) rfl (by assumption) (by decide) (Nat.zero_le _) (Nat.zero_le _) (Nat.le_of_ble_eq_true rfl) d_M_isValid_69 (c_M_rideAt hm ok (by omega) (by omega) ?_)
        refine g_ret ?_
        have hra := rideAtM_ok (m := m) (x := x) (y := 0) z4.1 (by omega)
        have zr := z9 _ ⟨hra.1, hra.2.1⟩
        refine g_iconst_i d_M_isValid_72 ?_
        refine g_callV2 rfl rfl e_M_rideOf l_M_59 iv_M_rideOf 9 (by decide) rfl (by assumption) (by decide) (Nat.zero_le _) (Nat.zero_le _) (Nat.le_of_ble_eq_true rfl) d_M_isValid_73 (c_M_rideOf hm (by omega) (by omega) ?_)
        refine g_ret ?_
        refine g_sipush_i (by decide) d_M_isValid_76 ?_
        refine g_idiv_i (by omega) (by omega) d_M_isValid_79 ?_
        refine g_iload (i := 4) rfl d_M_isValid_80 ?_
        refine g_iadd_i d_M_isValid_82 ?_
        refine g_icmp_ge_i (tgt := 90) (by omega) (by omega) d_M_isValid_83 (by decide) (fun h83 => ?_) (fun h83 => ?_)
        · refine g_iconst_i d_M_isValid_90 ?_
          refine g_ireturn_0 rfl d_M_isValid_91 ?_
          first | exact hQ1 (Or.inl (by omega)) | (refine hQ1 (Or.inr ?_); first | (rw [if_pos (by omega)]; omega) | (rw [if_neg (by omega), if_pos (by omega)]; omega) | (rw [if_neg (by omega), if_neg (by omega)]; omega)) | (refine hQ2 (fun h => ?_); rcases h with h | h; omega; first | (rw [if_pos (by omega)] at h; omega) | (rw [if_neg (by omega), if_pos (by omega)] at h; omega) | (rw [if_neg (by omega), if_neg (by omega)] at h; omega))
        · refine g_iconst_i d_M_isValid_86 ?_
          refine g_goto (tgt := 91) (by decide) d_M_isValid_87 ?_
          refine g_ireturn_1 rfl d_M_isValid_91 ?_
          first | exact hQ1 (Or.inl (by omega)) | (refine hQ1 (Or.inr ?_); first | (rw [if_pos (by omega)]; omega) | (rw [if_neg (by omega), if_pos (by omega)]; omega) | (rw [if_neg (by omega), if_neg (by omega)]; omega)) | (refine hQ2 (fun h => ?_); rcases h with h | h; omega; first | (rw [if_pos (by omega)] at h; omega) | (rw [if_neg (by omega), if_pos (by omega)] at h; omega) | (rw [if_neg (by omega), if_neg (by omega)] at h; omega))
    · refine g_iload_n (n := 2) (i := 2) rfl rfl d_M_isValid_37 ?_
      refine g_bipush_i (by decide) d_M_isValid_38 ?_
      refine g_iload (i := 4) rfl d_M_isValid_40 ?_
      refine g_imul_i d_M_isValid_42 ?_
      refine g_icmp_ge_i (tgt := 50) (by omega) (by omega) d_M_isValid_43 (by decide) (fun h43 => ?_) (fun h43 => ?_)
      · refine g_iconst_i d_M_isValid_50 ?_
        refine g_ireturn_0 rfl d_M_isValid_51 ?_
        first | exact hQ1 (Or.inl (by omega)) | (refine hQ1 (Or.inr ?_); first | (rw [if_pos (by omega)]; omega) | (rw [if_neg (by omega), if_pos (by omega)]; omega) | (rw [if_neg (by omega), if_neg (by omega)]; omega)) | (refine hQ2 (fun h => ?_); rcases h with h | h; omega; first | (rw [if_pos (by omega)] at h; omega) | (rw [if_neg (by omega), if_pos (by omega)] at h; omega) | (rw [if_neg (by omega), if_neg (by omega)] at h; omega))
      · refine g_iconst_i d_M_isValid_46 ?_
        refine g_goto (tgt := 51) (by decide) d_M_isValid_47 ?_
        refine g_ireturn_1 rfl d_M_isValid_51 ?_
        first | exact hQ1 (Or.inl (by omega)) | (refine hQ1 (Or.inr ?_); first | (rw [if_pos (by omega)]; omega) | (rw [if_neg (by omega), if_pos (by omega)]; omega) | (rw [if_neg (by omega), if_neg (by omega)]; omega)) | (refine hQ2 (fun h => ?_); rcases h with h | h; omega; first | (rw [if_pos (by omega)] at h; omega) | (rw [if_neg (by omega), if_pos (by omega)] at h; omega) | (rw [if_neg (by omega), if_neg (by omega)] at h; omega))
  · refine g_iconst_i d_M_isValid_10 ?_
    refine g_ireturn_1 rfl d_M_isValid_11 ?_
    first | exact hQ1 (Or.inl (by omega)) | (refine hQ1 (Or.inr ?_); first | (rw [if_pos (by omega)]; omega) | (rw [if_neg (by omega), if_pos (by omega)]; omega) | (rw [if_neg (by omega), if_neg (by omega)]; omega)) | (refine hQ2 (fun h => ?_); rcases h with h | h; omega; first | (rw [if_pos (by omega)] at h; omega) | (rw [if_neg (by omega), if_pos (by omega)] at h; omega) | (rw [if_neg (by omega), if_neg (by omega)] at h; omega))

/-- why a gate refuses a card, as the reference finds it -/
def rfsM (m : Int → Int) (x g r : Int) : Prop :=
  (m (5 + 34 * g + 2) = 1 ∧ r = 11) ∨ (¬ m (5 + 34 * g + 2) = 1 ∧ ((0 < m (461 + 5 * x + 1) ∧ r = 20 + m (461 + 5 * x + 1)) ∨ (¬ 0 < m (461 + 5 * x + 1) ∧
    ((¬ tb (m (413 + 6 * m (461 + 5 * x + 0) + 4)) (m (5 + 34 * g + 0)) = true ∧ r = 31) ∨ (tb (m (413 + 6 * m (461 + 5 * x + 0) + 4)) (m (5 + 34 * g + 0)) = true ∧
      ((¬ (m (413 + 6 * m (461 + 5 * x + 0) + 2) ≤ m 0 % 1440 / 60 ∧ m 0 % 1440 / 60 ≤ m (413 + 6 * m (461 + 5 * x + 0) + 3)) ∧ r = 32) ∨ ((m (413 + 6 * m (461 + 5 * x + 0) + 2) ≤ m 0 % 1440 / 60 ∧ m 0 % 1440 / 60 ≤ m (413 + 6 * m (461 + 5 * x + 0) + 3)) ∧
        ((¬ isVlM m x ∧ r = 33) ∨ (isVlM m x ∧
          ((rideAtM m x (ridesOnM m x - 1) = -1 ∧ r = 0) ∨ (¬ rideAtM m x (ridesOnM m x - 1) = -1 ∧
            r = (if m 0 - m (561 + 3 * rideAtM m x (ridesOnM m x - 1) + 2) < wayZ (m (5 + 34 * m (561 + 3 * rideAtM m x (ridesOnM m x - 1) + 1) + 0)) (m (5 + 34 * m (561 + 3 * rideAtM m x (ridesOnM m x - 1) + 1) + 1)) (m (5 + 34 * g + 0)) (m (5 + 34 * g + 1)) then 41 else if m (561 + 3 * rideAtM m x (ridesOnM m x - 1) + 1) = g ∧ m 0 - m (561 + 3 * rideAtM m x (ridesOnM m x - 1) + 2) < 5 then 42 else 0))))))))))))

theorem c_M_refusalBy {E : gE} {w : gW} {im : gIm} {Q : gQ} {f : Nat → Int} {m : Int → Int} (hm : MR E w f m) (ok : okM m) {x g : Int} (rx : 0 ≤ x ∧ x < m 3) (rg9 : 0 ≤ g ∧ g < m 1) (hQ : ∀ r, rfsM m x g r → Q (.inl (some (.int (iI r)))) w im) : GM E 5 y_M_refusalBy m_M_refusalBy 0 0 [.ref (gad E 62), .int (iI x), .int (iI g)] w im Q := by
  obtain ⟨hn, u2, u3⟩ := id hm
  have k2 : g_cell E w im (gad E 62) _ := g_mut 62 (by omega) u2
  have k3 : g_cell E w im (gad E 63) _ := g_mut 63 (by omega) u3
  obtain ⟨z0, z1, z2, z3, z4, z5, z6, z7, z8, z9⟩ := id ok
  have zx := z8 x rx
  have zp := z7 (m (461 + 5 * x + 0)) (by omega)
  have hrn := ridesOnM_rng z4 (x := x)
  have hdr := daysM_rng (m := m) (x := x) (ca := 0)
  have zg := z6 g rg9
  refine g_enter (by decide) rfl rfl (fun h => by first | rfl | cases h) (Nat.le_of_ble_eq_true rfl) rfl ?_
  refine g_aload_n (n := 0) (i := 0) rfl rfl d_M_refusalBy_0 ?_
  refine g_iload_n (n := 2) (i := 2) rfl rfl d_M_refusalBy_1 ?_
  refine g_iconst_i d_M_refusalBy_2 ?_
  refine g_callV2 rfl rfl e_M_g l_M_63 iv_M_g 9 (by decide) rfl (by assumption) (by decide) (Nat.zero_le _) (Nat.zero_le _) (Nat.le_of_ble_eq_true rfl) d_M_refusalBy_3 (c_M_g hm (by omega) (by omega) ?_)
  refine g_ret ?_
  refine g_iconst_i d_M_refusalBy_6 ?_
  refine g_icmp_ne_i (tgt := 13) (by first | omega | (unfold wayZ; (repeat' split) <;> omega)) (by decide) d_M_refusalBy_7 (by decide) (fun h7 => ?_) (fun h7 => ?_)
  · refine g_aload_n (n := 0) (i := 0) rfl rfl d_M_refusalBy_13 ?_
    refine g_iload_n (n := 1) (i := 1) rfl rfl d_M_refusalBy_14 ?_
    refine g_iconst_i d_M_refusalBy_15 ?_
    refine g_callV2 rfl rfl e_M_c l_M_90 iv_M_c 9 (by decide) rfl (by assumption) (by decide) (Nat.zero_le _) (Nat.zero_le _) (Nat.le_of_ble_eq_true rfl) d_M_refusalBy_16 (c_M_c hm (by omega) (by omega) ?_)
    refine g_ret ?_
    refine g_if_le_i (tgt := 32) (by first | omega | (unfold wayZ; (repeat' split) <;> omega)) d_M_refusalBy_19 (by decide) (fun h19 => ?_) (fun h19 => ?_)
    · refine g_aload_n (n := 0) (i := 0) rfl rfl d_M_refusalBy_32 ?_
      refine g_iload_n (n := 1) (i := 1) rfl rfl d_M_refusalBy_33 ?_
      refine g_iconst_i d_M_refusalBy_34 ?_
      refine g_callV2 rfl rfl e_M_c l_M_90 iv_M_c 9 (by decide) rfl (by assumption) (by decide) (Nat.zero_le _) (Nat.zero_le _) (Nat.le_of_ble_eq_true rfl) d_M_refusalBy_35 (c_M_c hm (by omega) (by omega) ?_)
      refine g_ret ?_
      refine g_istore_n (n := 3) (i := 3) rfl (by decide) rfl d_M_refusalBy_38 ?_
      refine g_aload_n (n := 0) (i := 0) rfl rfl d_M_refusalBy_39 ?_
      refine g_iload_n (n := 3) (i := 3) rfl rfl d_M_refusalBy_40 ?_
      refine g_iconst_i d_M_refusalBy_41 ?_
      refine g_callV2 rfl rfl e_M_p l_M_83 iv_M_p 9 (by decide) rfl (by assumption) (by decide) (Nat.zero_le _) (Nat.zero_le _) (Nat.le_of_ble_eq_true rfl) d_M_refusalBy_42 (c_M_p hm (by omega) (by omega) ?_)
      refine g_ret ?_
      refine g_aload_n (n := 0) (i := 0) rfl rfl d_M_refusalBy_45 ?_
      refine g_iload_n (n := 2) (i := 2) rfl rfl d_M_refusalBy_46 ?_
      refine g_iconst_i d_M_refusalBy_47 ?_
      refine g_callV2 rfl rfl e_M_g l_M_63 iv_M_g 9 (by decide) rfl (by assumption) (by decide) (Nat.zero_le _) (Nat.zero_le _) (Nat.le_of_ble_eq_true rfl) d_M_refusalBy_48 (c_M_g hm (by omega) (by omega) ?_)
      refine g_ret ?_
      refine g_callS2 rfl rfl e_M_has l_M_86 st_M_has (by decide) (Nat.zero_le _) (Nat.zero_le _) (Nat.le_of_ble_eq_true rfl) d_M_refusalBy_51 (c_M_has (by omega) (fun hB => ?_) (fun hB => ?_))
      · refine g_ret ?_
        refine g_if_ne_i (tgt := 60) (by decide) d_M_refusalBy_54 (by decide) (fun h54 => ?_) (fun h => absurd h (by decide))
        refine g_aload_n (n := 0) (i := 0) rfl rfl d_M_refusalBy_60 ?_
        refine g_callV0 rfl rfl e_M_hourNow l_M_114 iv_M_hourNow 9 (by decide) rfl (by assumption) (by decide) (Nat.zero_le _) (Nat.zero_le _) (Nat.le_of_ble_eq_true rfl) d_M_refusalBy_61 (c_M_hourNow hm ok ?_)
        refine g_ret ?_
        refine g_aload_n (n := 0) (i := 0) rfl rfl d_M_refusalBy_64 ?_
        refine g_iload_n (n := 3) (i := 3) rfl rfl d_M_refusalBy_65 ?_
        refine g_iconst_i d_M_refusalBy_66 ?_
        refine g_callV2 rfl rfl e_M_p l_M_83 iv_M_p 9 (by decide) rfl (by assumption) (by decide) (Nat.zero_le _) (Nat.zero_le _) (Nat.le_of_ble_eq_true rfl) d_M_refusalBy_67 (c_M_p hm (by omega) (by omega) ?_)
        refine g_ret ?_
        refine g_aload_n (n := 0) (i := 0) rfl rfl d_M_refusalBy_70 ?_
        refine g_iload_n (n := 3) (i := 3) rfl rfl d_M_refusalBy_71 ?_
        refine g_iconst_i d_M_refusalBy_72 ?_
        refine g_callV2 rfl rfl e_M_p l_M_83 iv_M_p 9 (by decide) rfl (by assumption) (by decide) (Nat.zero_le _) (Nat.zero_le _) (Nat.le_of_ble_eq_true rfl) d_M_refusalBy_73 (c_M_p hm (by omega) (by omega) ?_)
        refine g_ret ?_
        refine g_callS3 rfl rfl e_M_isIn l_M_45 st_M_isIn (by decide) (Nat.zero_le _) (Nat.zero_le _) (Nat.le_of_ble_eq_true rfl) d_M_refusalBy_76 (c_M_isIn (by omega) (by omega) (by omega) (fun hI => ?_) (fun hI => ?_))
        · refine g_ret ?_
          refine g_if_ne_i (tgt := 85) (by decide) d_M_refusalBy_79 (by decide) (fun h79 => ?_) (fun h => absurd h (by decide))
          refine g_aload_n (n := 0) (i := 0) rfl rfl d_M_refusalBy_85 ?_
          refine g_iload_n (n := 1) (i := 1) rfl rfl d_M_refusalBy_86 ?_
          refine g_callV1 rfl rfl e_M_isValid l_M_145 iv_M_isValid 9 (by decide) rfl (by assumption) (by decide) (Nat.zero_le _) (Nat.zero_le _) (Nat.le_of_ble_eq_true rfl) d_M_refusalBy_87 (c_M_isValid hm ok (by omega) (fun hV => ?_) (fun hV => ?_))
          · refine g_ret ?_
            refine g_if_ne_i (tgt := 96) (by decide) d_M_refusalBy_90 (by decide) (fun h90 => ?_) (fun h => absurd h (by decide))
            refine g_aload_n (n := 0) (i := 0) rfl rfl d_M_refusalBy_96 ?_
            refine g_iload_n (n := 1) (i := 1) rfl rfl d_M_refusalBy_97 ?_
            refine g_aload_n (n := 0) (i := 0) rfl rfl d_M_refusalBy_98 ?_
            refine g_iload_n (n := 1) (i := 1) rfl rfl d_M_refusalBy_99 ?_
            refine g_callV1 rfl rfl e_M_ridesOn l_M_136 iv_M_ridesOn 9 (by decide) rfl (by assumption) (by decide) (Nat.zero_le _) (Nat.zero_le _) (Nat.le_of_ble_eq_true rfl) d_M_refusalBy_100 (c_M_ridesOn2 hm ok (by omega) ?_)
            refine g_ret ?_
            refine g_iconst_i d_M_refusalBy_103 ?_
            refine g_isub_i d_M_refusalBy_104 ?_
            refine g_callV2 rfl rfl e_M_rideAt l_M_139 iv_M_rideAt 9 (by decide) rfl (by assumption) (by decide) (Nat.zero_le _) (Nat.zero_le _) (Nat.le_of_ble_eq_true rfl) d_M_refusalBy_105 (c_M_rideAt hm ok (by omega) (by omega) ?_)
            refine g_ret ?_
            have hrr := raF_rng (m := m) (x := x) (y := ridesOnM m x - 1) (n := (m 4).toNat) (k := 0) (c := 0) (Int.le_refl 0)
            rw [show raF m x (ridesOnM m x - 1) (m 4).toNat 0 0 = rideAtM m x (ridesOnM m x - 1) from rfl] at hrr
            refine g_istore (i := 4) (by decide) rfl d_M_refusalBy_108 ?_
            refine g_iload (i := 4) rfl d_M_refusalBy_110 ?_
            refine g_iconst_i d_M_refusalBy_112 ?_
            refine g_icmp_ne_i (tgt := 118) (by first | omega | (unfold wayZ; (repeat' split) <;> omega)) (by decide) d_M_refusalBy_113 (by decide) (fun h113 => ?_) (fun h113 => ?_)
            · have hrb := rideAtM_none (m := m) (x := x) (y := ridesOnM m x - 1) (by omega) z4.1
              have zr := z9 _ hrb
              have zrg := z6 (m (561 + 3 * rideAtM m x (ridesOnM m x - 1) + 1)) (by omega)
              refine g_aload_n (n := 0) (i := 0) rfl rfl d_M_refusalBy_118 ?_
              refine g_getfield 9 0 f_M_9 (by assumption) (by rfl) d_M_refusalBy_119 ?_
              refine g_iconst_i d_M_refusalBy_122 ?_
              refine g_iaload_i (by assumption) (by first | omega | (unfold wayZ; (repeat' split) <;> omega)) (by first | omega | (unfold wayZ; (repeat' split) <;> omega)) (by rfl) d_M_refusalBy_123 ?_
              refine g_aload_n (n := 0) (i := 0) rfl rfl d_M_refusalBy_124 ?_
              refine g_iload (i := 4) rfl d_M_refusalBy_125 ?_
              refine g_iconst_i d_M_refusalBy_127 ?_
              refine g_callV2 rfl rfl e_M_rideOf l_M_59 iv_M_rideOf 9 (by decide) rfl (by assumption) (by decide) (Nat.zero_le _) (Nat.zero_le _) (Nat.le_of_ble_eq_true rfl) d_M_refusalBy_128 (c_M_rideOf hm (by omega) (by omega) ?_)
              refine g_ret ?_
              refine g_isub_i d_M_refusalBy_131 ?_
              refine g_istore (i := 5) (by decide) rfl d_M_refusalBy_132 ?_
              refine g_iload (i := 5) rfl d_M_refusalBy_134 ?_
              refine g_aload_n (n := 0) (i := 0) rfl rfl d_M_refusalBy_136 ?_
              refine g_aload_n (n := 0) (i := 0) rfl rfl d_M_refusalBy_137 ?_
              refine g_iload (i := 4) rfl d_M_refusalBy_138 ?_
              refine g_iconst_i d_M_refusalBy_140 ?_
              refine g_callV2 rfl rfl e_M_rideOf l_M_59 iv_M_rideOf 9 (by decide) rfl (by assumption) (by decide) (Nat.zero_le _) (Nat.zero_le _) (Nat.le_of_ble_eq_true rfl) d_M_refusalBy_141 (c_M_rideOf hm (by omega) (by omega) ?_)
              refine g_ret ?_
              refine g_iload_n (n := 2) (i := 2) rfl rfl d_M_refusalBy_144 ?_
              refine g_callV2 rfl rfl e_M_wayOf l_M_103 iv_M_wayOf 9 (by decide) rfl (by assumption) (by decide) (Nat.zero_le _) (Nat.zero_le _) (Nat.le_of_ble_eq_true rfl) d_M_refusalBy_145 (c_M_wayOf hm ok (by omega) (by omega) ?_)
              refine g_ret ?_
              refine g_icmp_ge_i (tgt := 156) (by first | omega | (unfold wayZ; (repeat' split) <;> omega)) (by first | omega | (unfold wayZ; (repeat' split) <;> omega)) d_M_refusalBy_148 (by decide) (fun h148 => ?_) (fun h148 => ?_)
              · refine g_aload_n (n := 0) (i := 0) rfl rfl d_M_refusalBy_156 ?_
                refine g_iload (i := 4) rfl d_M_refusalBy_157 ?_
                refine g_iconst_i d_M_refusalBy_159 ?_
                refine g_callV2 rfl rfl e_M_rideOf l_M_59 iv_M_rideOf 9 (by decide) rfl (by assumption) (by decide) (Nat.zero_le _) (Nat.zero_le _) (Nat.le_of_ble_eq_true rfl) d_M_refusalBy_160 (c_M_rideOf hm (by omega) (by omega) ?_)
                refine g_ret ?_
                refine g_iload_n (n := 2) (i := 2) rfl rfl d_M_refusalBy_163 ?_
                refine g_icmp_ne_i (tgt := 178) (by first | omega | (unfold wayZ; (repeat' split) <;> omega)) (by first | omega | (unfold wayZ; (repeat' split) <;> omega)) d_M_refusalBy_164 (by decide) (fun h164 => ?_) (fun h164 => ?_)
                · refine g_iconst_i d_M_refusalBy_178 ?_
                  refine g_ireturn_i rfl d_M_refusalBy_179 ?_
                  exact hQ _ (Or.inr ⟨h7, Or.inr ⟨by omega, Or.inr ⟨hB, Or.inr ⟨hI, Or.inr ⟨hV, Or.inr ⟨by omega, by (repeat' split) <;> first | rfl | omega⟩⟩⟩⟩⟩⟩)
                · refine g_iload (i := 5) rfl d_M_refusalBy_167 ?_
                  refine g_iconst_i d_M_refusalBy_169 ?_
                  refine g_icmp_ge_i (tgt := 178) (by first | omega | (unfold wayZ; (repeat' split) <;> omega)) (by decide) d_M_refusalBy_170 (by decide) (fun h170 => ?_) (fun h170 => ?_)
                  · refine g_iconst_i d_M_refusalBy_178 ?_
                    refine g_ireturn_i rfl d_M_refusalBy_179 ?_
                    exact hQ _ (Or.inr ⟨h7, Or.inr ⟨by omega, Or.inr ⟨hB, Or.inr ⟨hI, Or.inr ⟨hV, Or.inr ⟨by omega, by (repeat' split) <;> first | rfl | omega⟩⟩⟩⟩⟩⟩)
                  · refine g_bipush_i (by decide) d_M_refusalBy_173 ?_
                    refine g_goto (tgt := 179) (by decide) d_M_refusalBy_175 ?_
                    refine g_ireturn_i rfl d_M_refusalBy_179 ?_
                    exact hQ _ (Or.inr ⟨h7, Or.inr ⟨by omega, Or.inr ⟨hB, Or.inr ⟨hI, Or.inr ⟨hV, Or.inr ⟨by omega, by (repeat' split) <;> first | rfl | omega⟩⟩⟩⟩⟩⟩)
              · refine g_bipush_i (by decide) d_M_refusalBy_151 ?_
                refine g_goto (tgt := 179) (by decide) d_M_refusalBy_153 ?_
                refine g_ireturn_i rfl d_M_refusalBy_179 ?_
                exact hQ _ (Or.inr ⟨h7, Or.inr ⟨by omega, Or.inr ⟨hB, Or.inr ⟨hI, Or.inr ⟨hV, Or.inr ⟨by omega, by (repeat' split) <;> first | rfl | omega⟩⟩⟩⟩⟩⟩)
            · refine g_iconst_i d_M_refusalBy_116 ?_
              refine g_ireturn_i rfl d_M_refusalBy_117 ?_
              exact hQ _ (Or.inr ⟨h7, Or.inr ⟨by omega, Or.inr ⟨hB, Or.inr ⟨hI, Or.inr ⟨hV, Or.inl ⟨by omega, rfl⟩⟩⟩⟩⟩⟩)
          · refine g_ret ?_
            refine g_if_ne_i (tgt := 96) (by decide) d_M_refusalBy_90 (by decide) (fun h => absurd h (by decide)) (fun h90 => ?_)
            refine g_bipush_i (by decide) d_M_refusalBy_93 ?_
            refine g_ireturn_i rfl d_M_refusalBy_95 ?_
            exact hQ _ (Or.inr ⟨h7, Or.inr ⟨by omega, Or.inr ⟨hB, Or.inr ⟨hI, Or.inl ⟨hV, rfl⟩⟩⟩⟩⟩)
        · refine g_ret ?_
          refine g_if_ne_i (tgt := 85) (by decide) d_M_refusalBy_79 (by decide) (fun h => absurd h (by decide)) (fun h79 => ?_)
          refine g_bipush_i (by decide) d_M_refusalBy_82 ?_
          refine g_ireturn_i rfl d_M_refusalBy_84 ?_
          exact hQ _ (Or.inr ⟨h7, Or.inr ⟨by omega, Or.inr ⟨hB, Or.inl ⟨hI, rfl⟩⟩⟩⟩)
      · refine g_ret ?_
        refine g_if_ne_i (tgt := 60) (by decide) d_M_refusalBy_54 (by decide) (fun h => absurd h (by decide)) (fun h54 => ?_)
        refine g_bipush_i (by decide) d_M_refusalBy_57 ?_
        refine g_ireturn_i rfl d_M_refusalBy_59 ?_
        exact hQ _ (Or.inr ⟨h7, Or.inr ⟨by omega, Or.inl ⟨hB, rfl⟩⟩⟩)
    · refine g_bipush_i (by decide) d_M_refusalBy_22 ?_
      refine g_aload_n (n := 0) (i := 0) rfl rfl d_M_refusalBy_24 ?_
      refine g_iload_n (n := 1) (i := 1) rfl rfl d_M_refusalBy_25 ?_
      refine g_iconst_i d_M_refusalBy_26 ?_
      refine g_callV2 rfl rfl e_M_c l_M_90 iv_M_c 9 (by decide) rfl (by assumption) (by decide) (Nat.zero_le _) (Nat.zero_le _) (Nat.le_of_ble_eq_true rfl) d_M_refusalBy_27 (c_M_c hm (by omega) (by omega) ?_)
      refine g_ret ?_
      refine g_iadd_i d_M_refusalBy_30 ?_
      refine g_ireturn_i rfl d_M_refusalBy_31 ?_
      exact hQ _ (Or.inr ⟨h7, Or.inl ⟨by omega, rfl⟩⟩)
  · refine g_bipush_i (by decide) d_M_refusalBy_10 ?_
    refine g_ireturn_i rfl d_M_refusalBy_12 ?_
    exact hQ _ (Or.inl ⟨h7, rfl⟩)

