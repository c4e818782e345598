/-! ===== the reference: shares ===== -/
def keptM (m : Int → Int) (x : Int) : Int := m (461 + 5 * x + 4) - m (461 + 5 * x + 3)
def mostM (m : Int → Int) (x : Int) : Nat → Int
  | 0 => 0
  | n + 1 => if ridesOfM m x (mostM m x n) < ridesOfM m x n then (n : Int) else mostM m x n
def partM (m : Int → Int) (x y : Int) : Int := (keptM m x * ridesOfM m x y).tdiv (ridesOnM m x)
def shareM (m : Int → Int) (x y : Int) : Int := if ridesOnM m x = 0 then 0 else partM m x y + (if y = mostM m x 4 then keptM m x - sumZ (fun k9 => partM m x k9) 4 else 0)
def sharesM (m : Int → Int) (y : Int) : Int := sumZ (fun k9 => shareM m k9 y) (m 3)
theorem mostM_rng {m : Int → Int} {x : Int} {n : Nat} (h : n ≤ 4) : 0 ≤ mostM m x n ∧ mostM m x n ≤ 3 := by
  induction n with
  | zero => simp [mostM]
  | succ n ih =>
    have := ih (by omega)
    rw [mostM]
    split <;> omega
theorem c_M_keptOf2 {E : gE} {w : gW} {im : gIm} {Q : gQ} {f : Nat → Int} {m : Int → Int} (hm : MR E w f m) {x : Int} (rx : 0 ≤ x ∧ x < 20) (hQ : Q (.inl (some (.int (iI (keptM m x))))) w im) : GM E 1 y_M_keptOf m_M_keptOf 0 0 [.ref (gad E 62), .int (iI x)] w im Q := c_M_keptOf hm rx hQ

theorem c_M_shareOf {E : gE} {w : gW} {im : gIm} {Q : gQ} {f : Nat → Int} {m : Int → Int} (hm : MR E w f m) (ok : okM m) {x y : Int} (rx : 0 ≤ x ∧ x < m 3) (ry : 0 ≤ y ∧ y ≤ 3) (hQ : Q (.inl (some (.int (iI (shareM m x y))))) w im) : GM E 2 y_M_shareOf m_M_shareOf 0 0 [.ref (gad E 62), .int (iI x), .int (iI y)] w im Q := by
  obtain ⟨hn, u2, u3⟩ := id hm
  have k2 : g_cell E w im (gad E 62) _ := g_mut 62 (by omega) u2
  have k3 : g_cell E w im (gad E 63) _ := g_mut 63 (by omega) u3
  obtain ⟨z0, z1, z2, z3, z4, z5, z6, z7, z8, z9⟩ := id ok
  have zx := z8 x rx
  have hrn := ridesOnM_rng z4 (x := x)
  have hkr : -500000 ≤ keptM m x ∧ keptM m x ≤ 500000 := by unfold keptM; omega
  have hro : ∀ y, 0 ≤ ridesOfM m x y ∧ ridesOfM m x y ≤ 600 := fun y => ridesOfM_rng z4
  have hml : ∀ y, -500000000 ≤ keptM m x * ridesOfM m x y ∧ keptM m x * ridesOfM m x y ≤ 500000000 := fun y => mul_rng hkr (by have := hro y; omega)
  have loop : ∀ (n9 j9 : Nat) (k9 s9 t9 : Int), ¬ ridesOnM m x = 0 → (j9 : Int) = k9 → k9 + n9 = 4 → s9 = keptM m x - sumZ (fun k9 => partM m x k9) k9 → t9 = mostM m x j9 → G E 2 m_M_shareOf 25 [(0, .ref (gad E 62)), (1, .int (iI x)), (2, .int (iI y)), (3, .int (iI (ridesOnM m x))), (4, .int (iI s9)), (5, .int (iI t9)), (6, .int (iI k9))] [] w im 0 0 Q := by
    intro n9
    induction n9 with
    | zero =>
      intro j9 k9 s9 t9 hr hj hk9 hs9 ht9
      have e9 : k9 = 4 := by omega
      have e8 : j9 = 4 := by omega
      have hmo := mostM_rng (m := m) (x := x) (n := j9) (by omega)
      rw [← ht9] at hmo
      rw [e9] at hs9
      rw [e8] at ht9
      refine g_iload (i := 6) rfl d_M_shareOf_25 ?_
      refine g_iconst_i d_M_shareOf_27 ?_
      refine g_icmp_ge_i (tgt := 83) (by omega) (by decide) d_M_shareOf_28 (by decide) (fun h28 => ?_) (fun h => by exfalso; omega)
      refine g_aload_n (n := 0) (i := 0) rfl rfl d_M_shareOf_83 ?_
      refine g_iload_n (n := 1) (i := 1) rfl rfl d_M_shareOf_84 ?_
      refine g_callV1 rfl rfl e_M_keptOf l_M_175 iv_M_keptOf 9 (by decide) rfl (by assumption) (by decide) (Nat.zero_le _) (Nat.zero_le _) (Nat.le_of_ble_eq_true rfl) d_M_shareOf_85 (c_M_keptOf2 hm (by omega) ?_)
      refine g_ret ?_
      refine g_aload_n (n := 0) (i := 0) rfl rfl d_M_shareOf_88 ?_
      refine g_iload_n (n := 1) (i := 1) rfl rfl d_M_shareOf_89 ?_
      refine g_iload_n (n := 2) (i := 2) rfl rfl d_M_shareOf_90 ?_
      refine g_callV2 rfl rfl e_M_ridesOf l_M_178 iv_M_ridesOf 9 (by decide) rfl (by assumption) (by decide) (Nat.zero_le _) (Nat.zero_le _) (Nat.le_of_ble_eq_true rfl) d_M_shareOf_91 (c_M_ridesOf2 hm ok (by omega) (by omega) ?_)
      refine g_ret ?_
      refine g_imul_i d_M_shareOf_94 ?_
      refine g_iload_n (n := 3) (i := 3) rfl rfl d_M_shareOf_95 ?_
      have hm9 := hml (y)
      refine g_idiv_t (by omega) (by omega) d_M_shareOf_96 ?_
      refine g_iload_n (n := 2) (i := 2) rfl rfl d_M_shareOf_97 ?_
      refine g_iload (i := 5) rfl d_M_shareOf_98 ?_
      refine g_icmp_ne_i (tgt := 108) (by omega) (by omega) d_M_shareOf_100 (by decide) (fun h100 => ?_) (fun h100 => ?_)
      · refine g_iconst_i d_M_shareOf_108 ?_
        refine g_iadd_i d_M_shareOf_109 ?_
        refine g_ireturn_i rfl d_M_shareOf_110 ?_
        exact g_qi hQ (by unfold shareM partM; rw [if_neg hr, ← ht9]; first | (rw [if_pos (by assumption), hs9]; rfl) | (rw [if_neg (by assumption)]))
      · refine g_iload (i := 4) rfl d_M_shareOf_103 ?_
        refine g_goto (tgt := 109) (by decide) d_M_shareOf_105 ?_
        refine g_iadd_i d_M_shareOf_109 ?_
        refine g_ireturn_i rfl d_M_shareOf_110 ?_
        exact g_qi hQ (by unfold shareM partM; rw [if_neg hr, ← ht9]; first | (rw [if_pos (by assumption), hs9]; rfl) | (rw [if_neg (by assumption)]))
    | succ n9 ih =>
      intro j9 k9 s9 t9 hr hj hk9 hs9 ht9
      have hmo := mostM_rng (m := m) (x := x) (n := j9) (by omega)
      rw [← ht9] at hmo
      have hr1 := hro k9
      have hr2 := hro t9
      refine g_iload (i := 6) rfl d_M_shareOf_25 ?_
      refine g_iconst_i d_M_shareOf_27 ?_
      refine g_icmp_ge_i (tgt := 83) (by omega) (by decide) d_M_shareOf_28 (by decide) (fun h => by exfalso; omega) (fun h28 => ?_)
      refine g_iload (i := 4) rfl d_M_shareOf_31 ?_
      refine g_aload_n (n := 0) (i := 0) rfl rfl d_M_shareOf_33 ?_
      refine g_iload_n (n := 1) (i := 1) rfl rfl d_M_shareOf_34 ?_
      refine g_callV1 rfl rfl e_M_keptOf l_M_175 iv_M_keptOf 9 (by decide) rfl (by assumption) (by decide) (Nat.zero_le _) (Nat.zero_le _) (Nat.le_of_ble_eq_true rfl) d_M_shareOf_35 (c_M_keptOf2 hm (by omega) ?_)
      refine g_ret ?_
      refine g_aload_n (n := 0) (i := 0) rfl rfl d_M_shareOf_38 ?_
      refine g_iload_n (n := 1) (i := 1) rfl rfl d_M_shareOf_39 ?_
      refine g_iload (i := 6) rfl d_M_shareOf_40 ?_
      refine g_callV2 rfl rfl e_M_ridesOf l_M_178 iv_M_ridesOf 9 (by decide) rfl (by assumption) (by decide) (Nat.zero_le _) (Nat.zero_le _) (Nat.le_of_ble_eq_true rfl) d_M_shareOf_42 (c_M_ridesOf2 hm ok (by omega) (by omega) ?_)
      refine g_ret ?_
      refine g_imul_i d_M_shareOf_45 ?_
      refine g_iload_n (n := 3) (i := 3) rfl rfl d_M_shareOf_46 ?_
      have hm9 := hml (k9)
      refine g_idiv_t (by omega) (by omega) d_M_shareOf_47 ?_
      refine g_isub_i d_M_shareOf_48 ?_
      refine g_istore (i := 4) (by decide) rfl d_M_shareOf_49 ?_
      refine g_aload_n (n := 0) (i := 0) rfl rfl d_M_shareOf_51 ?_
      refine g_iload_n (n := 1) (i := 1) rfl rfl d_M_shareOf_52 ?_
      refine g_iload (i := 6) rfl d_M_shareOf_53 ?_
      refine g_callV2 rfl rfl e_M_ridesOf l_M_178 iv_M_ridesOf 9 (by decide) rfl (by assumption) (by decide) (Nat.zero_le _) (Nat.zero_le _) (Nat.le_of_ble_eq_true rfl) d_M_shareOf_55 (c_M_ridesOf2 hm ok (by omega) (by omega) ?_)
      refine g_ret ?_
      refine g_aload_n (n := 0) (i := 0) rfl rfl d_M_shareOf_58 ?_
      refine g_iload_n (n := 1) (i := 1) rfl rfl d_M_shareOf_59 ?_
      refine g_iload (i := 5) rfl d_M_shareOf_60 ?_
      refine g_callV2 rfl rfl e_M_ridesOf l_M_178 iv_M_ridesOf 9 (by decide) rfl (by assumption) (by decide) (Nat.zero_le _) (Nat.zero_le _) (Nat.le_of_ble_eq_true rfl) d_M_shareOf_62 (c_M_ridesOf2 hm ok (by omega) (by omega) ?_)
      refine g_ret ?_
      refine g_icmp_le_i (tgt := 73) (by omega) (by omega) d_M_shareOf_65 (by decide) (fun h65 => ?_) (fun h65 => ?_)
      · refine g_iload (i := 5) rfl d_M_shareOf_73 ?_
        refine g_istore (i := 5) (by decide) rfl d_M_shareOf_75 ?_
        refine g_iinc_i (i := 6) rfl (by decide) rfl d_M_shareOf_77 ?_
        refine g_goto (tgt := 25) (by decide) d_M_shareOf_80 ?_
        exact g_cut (lv' := [(0, .ref (gad E 62)), (1, .int (iI x)), (2, .int (iI y)), (3, .int (iI (ridesOnM m x))), (4, .int (iI _)), (5, .int (iI _)), (6, .int (iI (k9 + 1)))]) ⟨rfl, rfl, rfl, rfl, rfl, rfl, rfl, trivial⟩ (ih (j9 + 1) (k9 + 1) _ _ hr (by omega) (by omega) (by rw [sumZ_s (by omega), hs9, show partM m x k9 = (keptM m x * ridesOfM m x k9).tdiv (ridesOnM m x) from rfl]; omega) (by rw [mostM, ← ht9, hj]; first | (rw [if_pos (by omega)]; done) | (rw [if_neg (by omega)]; done)))
      · refine g_iload (i := 6) rfl d_M_shareOf_68 ?_
        refine g_goto (tgt := 75) (by decide) d_M_shareOf_70 ?_
        refine g_istore (i := 5) (by decide) rfl d_M_shareOf_75 ?_
        refine g_iinc_i (i := 6) rfl (by decide) rfl d_M_shareOf_77 ?_
        refine g_goto (tgt := 25) (by decide) d_M_shareOf_80 ?_
        exact g_cut (lv' := [(0, .ref (gad E 62)), (1, .int (iI x)), (2, .int (iI y)), (3, .int (iI (ridesOnM m x))), (4, .int (iI _)), (5, .int (iI _)), (6, .int (iI (k9 + 1)))]) ⟨rfl, rfl, rfl, rfl, rfl, rfl, rfl, trivial⟩ (ih (j9 + 1) (k9 + 1) _ _ hr (by omega) (by omega) (by rw [sumZ_s (by omega), hs9, show partM m x k9 = (keptM m x * ridesOfM m x k9).tdiv (ridesOnM m x) from rfl]; omega) (by rw [mostM, ← ht9, hj]; first | (rw [if_pos (by omega)]; done) | (rw [if_neg (by omega)]; done)))
  refine g_enter (by decide) rfl rfl (fun h => by first | rfl | cases h) (Nat.le_of_ble_eq_true rfl) rfl ?_
  refine g_aload_n (n := 0) (i := 0) rfl rfl d_M_shareOf_0 ?_
  refine g_iload_n (n := 1) (i := 1) rfl rfl d_M_shareOf_1 ?_
  refine g_callV1 rfl rfl e_M_ridesOn l_M_136 iv_M_ridesOn 9 (by decide) rfl (by assumption) (by decide) (Nat.zero_le _) (Nat.zero_le _) (Nat.le_of_ble_eq_true rfl) d_M_shareOf_2 (c_M_ridesOn2 hm ok (by omega) ?_)
  refine g_ret ?_
  refine g_istore_n (n := 3) (i := 3) rfl (by decide) rfl d_M_shareOf_5 ?_
  refine g_iload_n (n := 3) (i := 3) rfl rfl d_M_shareOf_6 ?_
  refine g_if_ne_i (tgt := 12) (by omega) d_M_shareOf_7 (by decide) (fun h7 => ?_) (fun h7 => ?_)
  · refine g_aload_n (n := 0) (i := 0) rfl rfl d_M_shareOf_12 ?_
    refine g_iload_n (n := 1) (i := 1) rfl rfl d_M_shareOf_13 ?_
    refine g_callV1 rfl rfl e_M_keptOf l_M_175 iv_M_keptOf 9 (by decide) rfl (by assumption) (by decide) (Nat.zero_le _) (Nat.zero_le _) (Nat.le_of_ble_eq_true rfl) d_M_shareOf_14 (c_M_keptOf2 hm (by omega) ?_)
    refine g_ret ?_
    refine g_istore (i := 4) (by decide) rfl d_M_shareOf_17 ?_
    refine g_iconst_i d_M_shareOf_19 ?_
    refine g_istore (i := 5) (by decide) rfl d_M_shareOf_20 ?_
    refine g_iconst_i d_M_shareOf_22 ?_
    refine g_istore (i := 6) (by decide) rfl d_M_shareOf_23 ?_
    refine g_cut ?_ (loop 4 0 0 (keptM m x) 0 (by assumption) rfl (by omega) (by rw [sumZ_0, Int.sub_zero]) rfl)
    exact ⟨rfl, rfl, rfl, rfl, rfl, rfl, rfl, trivial⟩
  · refine g_iconst_i d_M_shareOf_10 ?_
    refine g_ireturn_i rfl d_M_shareOf_11 ?_
    exact g_qi hQ (by unfold shareM; rw [if_pos (by omega)])

theorem c_M_sharesOf {E : gE} {w : gW} {im : gIm} {Q : gQ} {f : Nat → Int} {m : Int → Int} (hm : MR E w f m) (ok : okM m) {y : Int} (ry : 0 ≤ y ∧ y ≤ 3) (hQ : Q (.inl (some (.int (iI (sumZ (fun k9 => shareM m k9 y) (m 3)))))) w im) : GM E 3 y_M_sharesOf m_M_sharesOf 0 0 [.ref (gad E 62), .int (iI y)] w im Q := by
  obtain ⟨hn, u2, u3⟩ := id hm
  have k2 : g_cell E w im (gad E 62) _ := g_mut 62 (by omega) u2
  have k3 : g_cell E w im (gad E 63) _ := g_mut 63 (by omega) u3
  obtain ⟨z0, z1, z2, z3, z4, z5, z6, z7, z8, z9⟩ := id ok
  have loop : ∀ (n9 : Nat) (k9 s9 : Int), 0 ≤ k9 → k9 + n9 = m 3 → s9 = sumZ (fun k9 => shareM m k9 y) k9 → G E 3 m_M_sharesOf 4 [(0, .ref (gad E 62)), (1, .int (iI y)), (2, .int (iI s9)), (3, .int (iI k9))] [] w im 0 0 Q := by
    intro n9
    induction n9 with
    | zero =>
      intro k9 s9 h9 hk9 hs9
      have e9 : k9 = m 3 := by omega
      rw [e9] at hs9
      refine g_iload_n (n := 3) (i := 3) rfl rfl d_M_sharesOf_4 ?_
      refine g_aload_n (n := 0) (i := 0) rfl rfl d_M_sharesOf_5 ?_
      refine g_getfield 9 0 f_M_9 (by assumption) (by rfl) d_M_sharesOf_6 ?_
      refine g_iconst_i d_M_sharesOf_9 ?_
      refine g_iaload_i (by assumption) (by omega) (by omega) (by rfl) d_M_sharesOf_10 ?_
      refine g_icmp_ge_i (tgt := 29) (by omega) (by omega) d_M_sharesOf_11 (by decide) (fun h11 => ?_) (fun h => by exfalso; omega)
      refine g_iload_n (n := 2) (i := 2) rfl rfl d_M_sharesOf_29 ?_
      refine g_ireturn_i rfl d_M_sharesOf_30 ?_
      exact g_qi hQ hs9
    | succ n9 ih =>
      intro k9 s9 h9 hk9 hs9
      have hlt : k9 < m 3 := by omega
      have zi := z8 k9 ⟨h9, hlt⟩
      refine g_iload_n (n := 3) (i := 3) rfl rfl d_M_sharesOf_4 ?_
      refine g_aload_n (n := 0) (i := 0) rfl rfl d_M_sharesOf_5 ?_
      refine g_getfield 9 0 f_M_9 (by assumption) (by rfl) d_M_sharesOf_6 ?_
      refine g_iconst_i d_M_sharesOf_9 ?_
      refine g_iaload_i (by assumption) (by omega) (by omega) (by rfl) d_M_sharesOf_10 ?_
      refine g_icmp_ge_i (tgt := 29) (by omega) (by omega) d_M_sharesOf_11 (by decide) (fun h => by exfalso; omega) (fun h11 => ?_)
      refine g_iload_n (n := 2) (i := 2) rfl rfl d_M_sharesOf_14 ?_
      refine g_aload_n (n := 0) (i := 0) rfl rfl d_M_sharesOf_15 ?_
      refine g_iload_n (n := 3) (i := 3) rfl rfl d_M_sharesOf_16 ?_
      refine g_iload_n (n := 1) (i := 1) rfl rfl d_M_sharesOf_17 ?_
      refine g_callV2 rfl rfl e_M_shareOf l_M_181 iv_M_shareOf 9 (by decide) rfl (by assumption) (by decide) (Nat.zero_le _) (Nat.zero_le _) (Nat.le_of_ble_eq_true rfl) d_M_sharesOf_18 (c_M_shareOf hm ok (by omega) (by omega) ?_)
      refine g_ret ?_
      refine g_iadd_i d_M_sharesOf_21 ?_
      refine g_istore_n (n := 2) (i := 2) rfl (by decide) rfl d_M_sharesOf_22 ?_
      refine g_iinc_i (i := 3) rfl (by decide) rfl d_M_sharesOf_23 ?_
      refine g_goto (tgt := 4) (by decide) d_M_sharesOf_26 ?_
      exact g_cut (lv' := [(0, .ref (gad E 62)), (1, .int (iI y)), (2, .int (iI _)), (3, .int (iI (k9 + 1)))]) ⟨rfl, rfl, rfl, rfl, trivial⟩ (ih (k9 + 1) _ (by omega) (by omega) (by rw [sumZ_s (by omega), hs9]))
  refine g_enter (by decide) rfl rfl (fun h => by first | rfl | cases h) (Nat.le_of_ble_eq_true rfl) rfl ?_
  refine g_iconst_i d_M_sharesOf_0 ?_
  refine g_istore_n (n := 2) (i := 2) rfl (by decide) rfl d_M_sharesOf_1 ?_
  refine g_iconst_i d_M_sharesOf_2 ?_
  refine g_istore_n (n := 3) (i := 3) rfl (by decide) rfl d_M_sharesOf_3 ?_
  refine g_cut ?_ (loop (m 3 : Int).toNat 0 0 (by omega) (by omega) rfl)
  exact ⟨rfl, rfl, rfl, rfl, trivial⟩

