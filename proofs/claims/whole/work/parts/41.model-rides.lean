/-! ===== the reference: more counts, rides of a card ===== -/
theorem iI_shl01 {z k : Int} (hz : 0 ≤ z ∧ z ≤ 1) (hk : 0 ≤ k ∧ k < 31) : iI z <<< (iI k &&& 31) = iI (((if z = 1 then 2 ^ k.toNat else 0 : Nat) : Nat) : Int) := by
  by_cases h : z = 1
  · rw [h, if_pos rfl]; exact iI_shl1 hk
  · have h0 : z = 0 := by omega
    have hs : ∀ k : Fin 31, iI 0 <<< (iI ((k : Nat) : Int) &&& 31) = iI 0 := by decide +kernel
    have := hs ⟨k.toNat, by omega⟩
    simp only [Int.toNat_of_nonneg hk.1] at this
    rw [h0, if_neg (by omega)]
    exact this

theorem c_M_cardsWith {E : gE} {w : gW} {im : gIm} {Q : gQ} {f : Nat → Int} {m : Int → Int} (hm : MR E w f m) (ok : okM m) {x y : Int} (rx : 0 ≤ x ∧ x < 8) (ry : 0 ≤ y ∧ y ≤ 1) (hQ : Q (.inl (some (.int (iI (sumZ (fun k9 => if m (461 + 5 * k9 + 1) = 2 then 0 else if m (461 + 5 * k9 + 0) = x then (if y = 0 then 1 else m (461 + 5 * k9 + 4)) else 0) (m 3)))))) w im) : GM E 1 y_M_cardsWith m_M_cardsWith 0 0 [.ref (gad E 62), .int (iI x), .int (iI y)] w im Q := by
  obtain ⟨hn, u2, u3⟩ := id hm
  have k2 : g_cell E w im (gad E 62) _ := g_mut 62 (by omega) u2
  have k3 : g_cell E w im (gad E 63) _ := g_mut 63 (by omega) u3
  obtain ⟨z0, z1, z2, z3, z4, z5, z6, z7, z8, z9⟩ := id ok
  have loop : ∀ (n9 : Nat) (k9 s9 : Int), 0 ≤ k9 → k9 + n9 = m 3 → s9 = sumZ (fun k9 => if m (461 + 5 * k9 + 1) = 2 then 0 else if m (461 + 5 * k9 + 0) = x then (if y = 0 then 1 else m (461 + 5 * k9 + 4)) else 0) k9 → G E 1 m_M_cardsWith 5 [(0, .ref (gad E 62)), (1, .int (iI x)), (2, .int (iI y)), (3, .int (iI s9)), (4, .int (iI k9))] [] w im 0 0 Q := by
    intro n9
    induction n9 with
    | zero =>
      intro k9 s9 h9 hk9 hs9
      have e9 : k9 = m 3 := by omega
      rw [e9] at hs9
      refine g_iload (i := 4) rfl d_M_cardsWith_5 ?_
      refine g_aload_n (n := 0) (i := 0) rfl rfl d_M_cardsWith_7 ?_
      refine g_getfield 9 0 f_M_9 (by assumption) (by rfl) d_M_cardsWith_8 ?_
      refine g_iconst_i d_M_cardsWith_11 ?_
      refine g_iaload_i (by assumption) (by omega) (by omega) (by rfl) d_M_cardsWith_12 ?_
      refine g_icmp_ge_i (tgt := 78) (by omega) (by omega) d_M_cardsWith_13 (by decide) (fun h13 => ?_) (fun h => by exfalso; omega)
      refine g_iload_n (n := 3) (i := 3) rfl rfl d_M_cardsWith_78 ?_
      refine g_ireturn_i rfl d_M_cardsWith_79 ?_
      exact g_qi hQ hs9
    | succ n9 ih =>
      intro k9 s9 h9 hk9 hs9
      have hlt : k9 < m 3 := by omega
      have zi := z8 k9 ⟨h9, hlt⟩
      refine g_iload (i := 4) rfl d_M_cardsWith_5 ?_
      refine g_aload_n (n := 0) (i := 0) rfl rfl d_M_cardsWith_7 ?_
      refine g_getfield 9 0 f_M_9 (by assumption) (by rfl) d_M_cardsWith_8 ?_
      refine g_iconst_i d_M_cardsWith_11 ?_
      refine g_iaload_i (by assumption) (by omega) (by omega) (by rfl) d_M_cardsWith_12 ?_
      refine g_icmp_ge_i (tgt := 78) (by omega) (by omega) d_M_cardsWith_13 (by decide) (fun h => by exfalso; omega) (fun h13 => ?_)
      refine g_aload_n (n := 0) (i := 0) rfl rfl d_M_cardsWith_16 ?_
      refine g_iload (i := 4) rfl d_M_cardsWith_17 ?_
      refine g_iconst_i d_M_cardsWith_19 ?_
      refine g_callV2 rfl rfl e_M_c l_M_90 iv_M_c 9 (by decide) rfl (by assumption) (by decide) (Nat.zero_le _) (Nat.zero_le _) (Nat.le_of_ble_eq_true rfl) d_M_cardsWith_20 (c_M_c hm (by omega) (by omega) ?_)
      refine g_ret ?_
      refine g_iconst_i d_M_cardsWith_23 ?_
      refine g_icmp_eq_i (tgt := 42) (by omega) (by decide) d_M_cardsWith_24 (by decide) (fun h24 => ?_) (fun h24 => ?_)
      · refine g_iconst_i d_M_cardsWith_42 ?_
        refine g_istore (i := 5) (by decide) rfl d_M_cardsWith_43 ?_
        refine g_iload_n (n := 3) (i := 3) rfl rfl d_M_cardsWith_45 ?_
        refine g_iload (i := 5) rfl d_M_cardsWith_46 ?_
        refine g_if_ne_i (tgt := 55) (by decide) d_M_cardsWith_48 (by decide) (fun h => absurd h (by decide)) (fun h48 => ?_)
        refine g_iconst_i d_M_cardsWith_51 ?_
        refine g_goto (tgt := 70) (by decide) d_M_cardsWith_52 ?_
        refine g_iadd_i d_M_cardsWith_70 ?_
        refine g_istore_n (n := 3) (i := 3) rfl (by decide) rfl d_M_cardsWith_71 ?_
        refine g_iinc_i (i := 4) rfl (by decide) rfl d_M_cardsWith_72 ?_
        refine g_goto (tgt := 5) (by decide) d_M_cardsWith_75 ?_
        exact g_cut (lv' := [(0, .ref (gad E 62)), (1, .int (iI x)), (2, .int (iI y)), (3, .int (iI _)), (4, .int (iI (k9 + 1)))]) ⟨rfl, rfl, rfl, rfl, rfl, trivial⟩ (ih (k9 + 1) _ (by omega) (by omega) (by rw [sumZ_s (by omega)]; first | omega | (simp [*]; done) | (simp [*]; omega)))
      · refine g_aload_n (n := 0) (i := 0) rfl rfl d_M_cardsWith_27 ?_
        refine g_iload (i := 4) rfl d_M_cardsWith_28 ?_
        refine g_iconst_i d_M_cardsWith_30 ?_
        refine g_callV2 rfl rfl e_M_c l_M_90 iv_M_c 9 (by decide) rfl (by assumption) (by decide) (Nat.zero_le _) (Nat.zero_le _) (Nat.le_of_ble_eq_true rfl) d_M_cardsWith_31 (c_M_c hm (by omega) (by omega) ?_)
        refine g_ret ?_
        refine g_iload_n (n := 1) (i := 1) rfl rfl d_M_cardsWith_34 ?_
        refine g_icmp_ne_i (tgt := 42) (by omega) (by omega) d_M_cardsWith_35 (by decide) (fun h35 => ?_) (fun h35 => ?_)
        · refine g_iconst_i d_M_cardsWith_42 ?_
          refine g_istore (i := 5) (by decide) rfl d_M_cardsWith_43 ?_
          refine g_iload_n (n := 3) (i := 3) rfl rfl d_M_cardsWith_45 ?_
          refine g_iload (i := 5) rfl d_M_cardsWith_46 ?_
          refine g_if_ne_i (tgt := 55) (by decide) d_M_cardsWith_48 (by decide) (fun h => absurd h (by decide)) (fun h48 => ?_)
          refine g_iconst_i d_M_cardsWith_51 ?_
          refine g_goto (tgt := 70) (by decide) d_M_cardsWith_52 ?_
          refine g_iadd_i d_M_cardsWith_70 ?_
          refine g_istore_n (n := 3) (i := 3) rfl (by decide) rfl d_M_cardsWith_71 ?_
          refine g_iinc_i (i := 4) rfl (by decide) rfl d_M_cardsWith_72 ?_
          refine g_goto (tgt := 5) (by decide) d_M_cardsWith_75 ?_
          exact g_cut (lv' := [(0, .ref (gad E 62)), (1, .int (iI x)), (2, .int (iI y)), (3, .int (iI _)), (4, .int (iI (k9 + 1)))]) ⟨rfl, rfl, rfl, rfl, rfl, trivial⟩ (ih (k9 + 1) _ (by omega) (by omega) (by rw [sumZ_s (by omega)]; first | omega | (simp [*]; done) | (simp [*]; omega)))
        · refine g_iconst_i d_M_cardsWith_38 ?_
          refine g_goto (tgt := 43) (by decide) d_M_cardsWith_39 ?_
          refine g_istore (i := 5) (by decide) rfl d_M_cardsWith_43 ?_
          refine g_iload_n (n := 3) (i := 3) rfl rfl d_M_cardsWith_45 ?_
          refine g_iload (i := 5) rfl d_M_cardsWith_46 ?_
          refine g_if_ne_i (tgt := 55) (by decide) d_M_cardsWith_48 (by decide) (fun h48 => ?_) (fun h => absurd h (by decide))
          refine g_iload_n (n := 2) (i := 2) rfl rfl d_M_cardsWith_55 ?_
          refine g_if_eq_i (tgt := 69) (by omega) d_M_cardsWith_56 (by decide) (fun h56 => ?_) (fun h56 => ?_)
          · refine g_iconst_i d_M_cardsWith_69 ?_
            refine g_iadd_i d_M_cardsWith_70 ?_
            refine g_istore_n (n := 3) (i := 3) rfl (by decide) rfl d_M_cardsWith_71 ?_
            refine g_iinc_i (i := 4) rfl (by decide) rfl d_M_cardsWith_72 ?_
            refine g_goto (tgt := 5) (by decide) d_M_cardsWith_75 ?_
            exact g_cut (lv' := [(0, .ref (gad E 62)), (1, .int (iI x)), (2, .int (iI y)), (3, .int (iI _)), (4, .int (iI (k9 + 1)))]) ⟨rfl, rfl, rfl, rfl, rfl, trivial⟩ (ih (k9 + 1) _ (by omega) (by omega) (by rw [sumZ_s (by omega)]; first | omega | (simp [*]; done) | (simp [*]; omega)))
          · refine g_aload_n (n := 0) (i := 0) rfl rfl d_M_cardsWith_59 ?_
            refine g_iload (i := 4) rfl d_M_cardsWith_60 ?_
            refine g_iconst_i d_M_cardsWith_62 ?_
            refine g_callV2 rfl rfl e_M_c l_M_90 iv_M_c 9 (by decide) rfl (by assumption) (by decide) (Nat.zero_le _) (Nat.zero_le _) (Nat.le_of_ble_eq_true rfl) d_M_cardsWith_63 (c_M_c hm (by omega) (by omega) ?_)
            refine g_ret ?_
            refine g_goto (tgt := 70) (by decide) d_M_cardsWith_66 ?_
            refine g_iadd_i d_M_cardsWith_70 ?_
            refine g_istore_n (n := 3) (i := 3) rfl (by decide) rfl d_M_cardsWith_71 ?_
            refine g_iinc_i (i := 4) rfl (by decide) rfl d_M_cardsWith_72 ?_
            refine g_goto (tgt := 5) (by decide) d_M_cardsWith_75 ?_
            exact g_cut (lv' := [(0, .ref (gad E 62)), (1, .int (iI x)), (2, .int (iI y)), (3, .int (iI _)), (4, .int (iI (k9 + 1)))]) ⟨rfl, rfl, rfl, rfl, rfl, trivial⟩ (ih (k9 + 1) _ (by omega) (by omega) (by rw [sumZ_s (by omega)]; first | omega | (simp [*]; done) | (simp [*]; omega)))
  refine g_enter (by decide) rfl rfl (fun h => by first | rfl | cases h) (Nat.le_of_ble_eq_true rfl) rfl ?_
  refine g_iconst_i d_M_cardsWith_0 ?_
  refine g_istore_n (n := 3) (i := 3) rfl (by decide) rfl d_M_cardsWith_1 ?_
  refine g_iconst_i d_M_cardsWith_2 ?_
  refine g_istore (i := 4) (by decide) rfl d_M_cardsWith_3 ?_
  refine g_cut ?_ (loop (m 3 : Int).toNat 0 0 (by omega) (by omega) rfl)
  exact ⟨rfl, rfl, rfl, rfl, rfl, trivial⟩

theorem c_M_closedGates {E : gE} {w : gW} {im : gIm} {Q : gQ} {f : Nat → Int} {m : Int → Int} (hm : MR E w f m) (ok : okM m) (hQ : Q (.inl (some (.int (iI (((orZ (fun k9 => if m (5 + 34 * k9 + 2) = 1 then 2 ^ k9.toNat else 0) (m 1) : Nat) : Int)))))) w im) : GM E 1 y_M_closedGates m_M_closedGates 0 0 [.ref (gad E 62)] w im Q := by
  obtain ⟨hn, u2, u3⟩ := id hm
  have k2 : g_cell E w im (gad E 62) _ := g_mut 62 (by omega) u2
  have k3 : g_cell E w im (gad E 63) _ := g_mut 63 (by omega) u3
  obtain ⟨z0, z1, z2, z3, z4, z5, z6, z7, z8, z9⟩ := id ok
  have loop : ∀ (n9 : Nat) (k9 s9 : Int), 0 ≤ k9 → k9 + n9 = m 1 → s9 = ((orZ (fun k9 => if m (5 + 34 * k9 + 2) = 1 then 2 ^ k9.toNat else 0) k9 : Nat) : Int) → G E 1 m_M_closedGates 4 [(0, .ref (gad E 62)), (1, .int (iI s9)), (2, .int (iI k9))] [] w im 0 0 Q := by
    intro n9
    induction n9 with
    | zero =>
      intro k9 s9 h9 hk9 hs9
      have e9 : k9 = m 1 := by omega
      rw [e9] at hs9
      refine g_iload_n (n := 2) (i := 2) rfl rfl d_M_closedGates_4 ?_
      refine g_aload_n (n := 0) (i := 0) rfl rfl d_M_closedGates_5 ?_
      refine g_getfield 9 0 f_M_9 (by assumption) (by rfl) d_M_closedGates_6 ?_
      refine g_iconst_i d_M_closedGates_9 ?_
      refine g_iaload_i (by assumption) (by omega) (by omega) (by rfl) d_M_closedGates_10 ?_
      refine g_icmp_ge_i (tgt := 31) (by omega) (by omega) d_M_closedGates_11 (by decide) (fun h11 => ?_) (fun h => by exfalso; omega)
      refine g_iload_n (n := 1) (i := 1) rfl rfl d_M_closedGates_31 ?_
      refine g_ireturn_i rfl d_M_closedGates_32 ?_
      exact g_qi hQ hs9
    | succ n9 ih =>
      intro k9 s9 h9 hk9 hs9
      have hlt : k9 < m 1 := by omega
      have zi := z6 k9 ⟨h9, hlt⟩
      refine g_iload_n (n := 2) (i := 2) rfl rfl d_M_closedGates_4 ?_
      refine g_aload_n (n := 0) (i := 0) rfl rfl d_M_closedGates_5 ?_
      refine g_getfield 9 0 f_M_9 (by assumption) (by rfl) d_M_closedGates_6 ?_
      refine g_iconst_i d_M_closedGates_9 ?_
      refine g_iaload_i (by assumption) (by omega) (by omega) (by rfl) d_M_closedGates_10 ?_
      refine g_icmp_ge_i (tgt := 31) (by omega) (by omega) d_M_closedGates_11 (by decide) (fun h => by exfalso; omega) (fun h11 => ?_)
      refine g_iload_n (n := 1) (i := 1) rfl rfl d_M_closedGates_14 ?_
      refine g_aload_n (n := 0) (i := 0) rfl rfl d_M_closedGates_15 ?_
      refine g_iload_n (n := 2) (i := 2) rfl rfl d_M_closedGates_16 ?_
      refine g_iconst_i d_M_closedGates_17 ?_
      refine g_callV2 rfl rfl e_M_g l_M_63 iv_M_g 9 (by decide) rfl (by assumption) (by decide) (Nat.zero_le _) (Nat.zero_le _) (Nat.le_of_ble_eq_true rfl) d_M_closedGates_18 (c_M_g hm (by omega) (by omega) ?_)
      refine g_ret ?_
      refine g_iload_n (n := 2) (i := 2) rfl rfl d_M_closedGates_21 ?_
      refine g_ishl d_M_closedGates_22 ?_
      rw [iI_shl01 (by omega) (by omega)]
      refine g_ior d_M_closedGates_23 ?_
      rw [hs9, iI_or]
      refine g_istore_n (n := 1) (i := 1) rfl (by decide) rfl d_M_closedGates_24 ?_
      refine g_iinc_i (i := 2) rfl (by decide) rfl d_M_closedGates_25 ?_
      refine g_goto (tgt := 4) (by decide) d_M_closedGates_28 ?_
      exact g_cut (lv' := [(0, .ref (gad E 62)), (1, .int (iI _)), (2, .int (iI (k9 + 1)))]) ⟨rfl, rfl, rfl, trivial⟩ (ih (k9 + 1) _ (by omega) (by omega) (by rw [orZ_s (by omega)]))
  refine g_enter (by decide) rfl rfl (fun h => by first | rfl | cases h) (Nat.le_of_ble_eq_true rfl) rfl ?_
  refine g_iconst_i d_M_closedGates_0 ?_
  refine g_istore_n (n := 1) (i := 1) rfl (by decide) rfl d_M_closedGates_1 ?_
  refine g_iconst_i d_M_closedGates_2 ?_
  refine g_istore_n (n := 2) (i := 2) rfl (by decide) rfl d_M_closedGates_3 ?_
  refine g_cut ?_ (loop (m 1 : Int).toNat 0 0 (by omega) (by omega) rfl)
  exact ⟨rfl, rfl, rfl, trivial⟩

def raF (m : Int → Int) (x y : Int) : Nat → Int → Int → Int
  | 0, _, _ => -1
  | n + 1, k, c => if m (561 + 3 * k + 0) = x then (if c = y then k else raF m x y n (k + 1) (c + 1)) else raF m x y n (k + 1) c
def rideAtM (m : Int → Int) (x y : Int) : Int := raF m x y (m 4).toNat 0 0

theorem c_M_rideAt {E : gE} {w : gW} {im : gIm} {Q : gQ} {f : Nat → Int} {m : Int → Int} (hm : MR E w f m) (ok : okM m) {x y : Int} (rx : 0 ≤ x ∧ x < 20) (ry : -2147483648 ≤ y ∧ y < 2147483648) (hQ : Q (.inl (some (.int (iI (rideAtM m x y))))) w im) : GM E 1 y_M_rideAt m_M_rideAt 0 0 [.ref (gad E 62), .int (iI x), .int (iI y)] w im Q := by
  obtain ⟨hn, u2, u3⟩ := id hm
  have k2 : g_cell E w im (gad E 62) _ := g_mut 62 (by omega) u2
  have k3 : g_cell E w im (gad E 63) _ := g_mut 63 (by omega) u3
  obtain ⟨z0, z1, z2, z3, z4, z5, z6, z7, z8, z9⟩ := id ok
  have loop : ∀ (n9 : Nat) (k9 c9 : Int), 0 ≤ k9 → k9 + n9 = m 4 → (0 ≤ c9 ∧ c9 ≤ k9) → raF m x y n9 k9 c9 = rideAtM m x y → G E 1 m_M_rideAt 5 [(0, .ref (gad E 62)), (1, .int (iI x)), (2, .int (iI y)), (3, .int (iI c9)), (4, .int (iI k9))] [] w im 0 0 Q := by
    intro n9
    induction n9 with
    | zero =>
      intro k9 c9 h9 hk9 hc9 he
      rw [raF] at he
      refine g_iload (i := 4) rfl d_M_rideAt_5 ?_
      refine g_aload_n (n := 0) (i := 0) rfl rfl d_M_rideAt_7 ?_
      refine g_getfield 9 0 f_M_9 (by assumption) (by rfl) d_M_rideAt_8 ?_
      refine g_iconst_i d_M_rideAt_11 ?_
      refine g_iaload_i (by assumption) (by omega) (by omega) (by rfl) d_M_rideAt_12 ?_
      refine g_icmp_ge_i (tgt := 44) (by omega) (by omega) d_M_rideAt_13 (by decide) (fun h13 => ?_) (fun h => by exfalso; omega)
      refine g_iconst_i d_M_rideAt_44 ?_
      refine g_ireturn_i rfl d_M_rideAt_45 ?_
      exact g_qi hQ he
    | succ n9 ih =>
      intro k9 c9 h9 hk9 hc9 he
      have hlt : k9 < m 4 := by omega
      rw [raF] at he
      have zi := z9 k9 ⟨h9, hlt⟩
      refine g_iload (i := 4) rfl d_M_rideAt_5 ?_
      refine g_aload_n (n := 0) (i := 0) rfl rfl d_M_rideAt_7 ?_
      refine g_getfield 9 0 f_M_9 (by assumption) (by rfl) d_M_rideAt_8 ?_
      refine g_iconst_i d_M_rideAt_11 ?_
      refine g_iaload_i (by assumption) (by omega) (by omega) (by rfl) d_M_rideAt_12 ?_
      refine g_icmp_ge_i (tgt := 44) (by omega) (by omega) d_M_rideAt_13 (by decide) (fun h => by exfalso; omega) (fun h13 => ?_)
      refine g_aload_n (n := 0) (i := 0) rfl rfl d_M_rideAt_16 ?_
      refine g_iload (i := 4) rfl d_M_rideAt_17 ?_
      refine g_iconst_i d_M_rideAt_19 ?_
      refine g_callV2 rfl rfl e_M_rideOf l_M_59 iv_M_rideOf 9 (by decide) rfl (by assumption) (by decide) (Nat.zero_le _) (Nat.zero_le _) (Nat.le_of_ble_eq_true rfl) d_M_rideAt_20 (c_M_rideOf hm (by omega) (by omega) ?_)
      refine g_ret ?_
      refine g_iload_n (n := 1) (i := 1) rfl rfl d_M_rideAt_23 ?_
      refine g_icmp_ne_i (tgt := 38) (by omega) (by omega) d_M_rideAt_24 (by decide) (fun h24 => ?_) (fun h24 => ?_)
      · refine g_iinc_i (i := 4) rfl (by decide) rfl d_M_rideAt_38 ?_
        refine g_goto (tgt := 5) (by decide) d_M_rideAt_41 ?_
        first
        | exact g_cut (lv' := [(0, .ref (gad E 62)), (1, .int (iI x)), (2, .int (iI y)), (3, .int (iI (c9 + 1))), (4, .int (iI (k9 + 1)))]) ⟨rfl, rfl, rfl, rfl, rfl, trivial⟩ (ih (k9 + 1) (c9 + 1) (by omega) (by omega) (by omega) (by rw [if_pos h24, if_neg h29] at he; exact he))
        | exact g_cut (lv' := [(0, .ref (gad E 62)), (1, .int (iI x)), (2, .int (iI y)), (3, .int (iI c9)), (4, .int (iI (k9 + 1)))]) ⟨rfl, rfl, rfl, rfl, rfl, trivial⟩ (ih (k9 + 1) c9 (by omega) (by omega) (by omega) (by rw [if_neg h24] at he; exact he))
      · refine g_iload_n (n := 3) (i := 3) rfl rfl d_M_rideAt_27 ?_
        refine g_iload_n (n := 2) (i := 2) rfl rfl d_M_rideAt_28 ?_
        refine g_icmp_ne_i (tgt := 35) (by omega) (by omega) d_M_rideAt_29 (by decide) (fun h29 => ?_) (fun h29 => ?_)
        · refine g_iinc_i (i := 3) rfl (by decide) rfl d_M_rideAt_35 ?_
          refine g_iinc_i (i := 4) rfl (by decide) rfl d_M_rideAt_38 ?_
          refine g_goto (tgt := 5) (by decide) d_M_rideAt_41 ?_
          first
          | exact g_cut (lv' := [(0, .ref (gad E 62)), (1, .int (iI x)), (2, .int (iI y)), (3, .int (iI (c9 + 1))), (4, .int (iI (k9 + 1)))]) ⟨rfl, rfl, rfl, rfl, rfl, trivial⟩ (ih (k9 + 1) (c9 + 1) (by omega) (by omega) (by omega) (by rw [if_pos h24, if_neg h29] at he; exact he))
          | exact g_cut (lv' := [(0, .ref (gad E 62)), (1, .int (iI x)), (2, .int (iI y)), (3, .int (iI c9)), (4, .int (iI (k9 + 1)))]) ⟨rfl, rfl, rfl, rfl, rfl, trivial⟩ (ih (k9 + 1) c9 (by omega) (by omega) (by omega) (by rw [if_neg h24] at he; exact he))
        · refine g_iload (i := 4) rfl d_M_rideAt_32 ?_
          refine g_ireturn_i rfl d_M_rideAt_34 ?_
          rw [if_pos h24, if_pos h29] at he
          exact g_qi hQ he
  refine g_enter (by decide) rfl rfl (fun h => by first | rfl | cases h) (Nat.le_of_ble_eq_true rfl) rfl ?_
  refine g_iconst_i d_M_rideAt_0 ?_
  refine g_istore_n (n := 3) (i := 3) rfl (by decide) rfl d_M_rideAt_1 ?_
  refine g_iconst_i d_M_rideAt_2 ?_
  refine g_istore (i := 4) (by decide) rfl d_M_rideAt_3 ?_
  refine g_cut ?_ (loop (m 4).toNat 0 0 (by omega) (by omega) (by omega) rfl)
  exact ⟨rfl, rfl, rfl, rfl, rfl, trivial⟩

theorem raF_rng {m : Int → Int} {x y : Int} {n : Nat} {k c : Int} (hk : 0 ≤ k) : -1 ≤ raF m x y n k c ∧ raF m x y n k c < k + n ∧ (raF m x y n k c ≠ -1 → m (561 + 3 * raF m x y n k c + 0) = x) := by
  induction n generalizing k c with
  | zero => refine ⟨by rw [raF]; omega, by rw [raF]; omega, fun h => absurd rfl h⟩
  | succ n ih =>
    rw [raF]
    split
    · split
      · exact ⟨by omega, by omega, fun _ => by assumption⟩
      · have := ih (k := k + 1) (c := c + 1) (by omega)
        exact ⟨this.1, by omega, this.2.2⟩
    · have := ih (k := k + 1) (c := c) (by omega)
      exact ⟨this.1, by omega, this.2.2⟩

