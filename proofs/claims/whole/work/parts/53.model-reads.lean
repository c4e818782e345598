/-! ===== the reference: openGates, card, meanRides, closedShare, isConsistent ===== -/
theorem rfsM_fun {m : Int → Int} {x g r s : Int} (h : rfsM m x g r) (k : rfsM m x g s) : r = s := by
  unfold rfsM at h k
  rcases h with ⟨a1, h⟩ | ⟨a1, ⟨a2, h⟩ | ⟨a2, ⟨a3, h⟩ | ⟨a3, ⟨a4, h⟩ | ⟨a4, ⟨a5, h⟩ | ⟨a5, ⟨a6, h⟩ | ⟨a6, h⟩⟩⟩⟩⟩⟩ <;> rcases k with ⟨b1, k⟩ | ⟨b1, ⟨b2, k⟩ | ⟨b2, ⟨b3, k⟩ | ⟨b3, ⟨b4, k⟩ | ⟨b4, ⟨b5, k⟩ | ⟨b5, ⟨b6, k⟩ | ⟨b6, k⟩⟩⟩⟩⟩⟩ <;> first | exact h.trans k.symm | contradiction
noncomputable def opF (m : Int → Int) (x g : Int) : Nat := @ite Nat (rfsM m x g 0) (Classical.propDecidable _) (2 ^ g.toNat) 0
noncomputable def opM (m : Int → Int) (x : Int) : Int := ((orZ (fun k9 => opF m x k9) (m 1) : Nat) : Int)
noncomputable def gOpe (m : Int → Int) (x : Int) : Int × Int := if 0 ≤ x ∧ x < m 3 then (0, opM m x) else (1, 0)

theorem rfsM_rng {m : Int → Int} {x g r : Int} (ok : okM m) (hx : 0 ≤ x ∧ x < m 3) (h : rfsM m x g r) : 0 ≤ r ∧ r ≤ 100 := by
  obtain ⟨z0, z1, z2, z3, z4, z5, z6, z7, z8, z9⟩ := ok
  have zx := z8 x hx
  unfold rfsM at h
  rcases h with ⟨a1, h⟩ | ⟨a1, ⟨a2, h⟩ | ⟨a2, ⟨a3, h⟩ | ⟨a3, ⟨a4, h⟩ | ⟨a4, ⟨a5, h⟩ | ⟨a5, ⟨a6, h⟩ | ⟨a6, h⟩⟩⟩⟩⟩⟩ <;> first | omega | (subst h; (repeat' split) <;> omega)

theorem c_M_openGates {E : gE} {w : gW} {im : gIm} {Q : gQ} {f : Nat → Int} {m : Int → Int} (hm : MR E w f m) (ok : okM m) {x : Int} (rx : -2147483648 ≤ x ∧ x < 2147483648) (hQ : ∀ t r w', (t, r) = gOpe m x → MTh E w f m t w' → Q (oV r) w' im) : GM E 6 y_M_openGates m_M_openGates 0 0 [.ref (gad E 62), .int (iI x)] w im Q := by
  obtain ⟨hn, u2, u3⟩ := id hm
  have k2 : g_cell E w im (gad E 62) _ := g_mut 62 (by omega) u2
  have k3 : g_cell E w im (gad E 63) _ := g_mut 63 (by omega) u3
  obtain ⟨z0, z1, z2, z3, z4, z5, z6, z7, z8, z9⟩ := id ok
  refine g_enter (by decide) rfl rfl (fun h => by first | rfl | cases h) (Nat.le_of_ble_eq_true rfl) rfl ?_
  refine g_aload_n (n := 0) (i := 0) rfl rfl d_M_openGates_0 ?_
  refine g_aload_n (n := 0) (i := 0) rfl rfl d_M_openGates_1 ?_
  refine g_iload_n (n := 1) (i := 1) rfl rfl d_M_openGates_2 ?_
  refine g_callV1 rfl rfl e_M_isCard l_M_148 iv_M_isCard 9 (by decide) rfl (by assumption) (by decide) (Nat.zero_le _) (Nat.zero_le _) (Nat.le_of_ble_eq_true rfl) d_M_openGates_3 (c_M_isCard hm ok rx (fun hA => ?_) (fun hA => ?_))
  · refine g_ret ?_
    refine g_if_eq_i (tgt := 13) (by decide) d_M_openGates_6 (by decide) (fun h => absurd h (by decide)) (fun h6 => ?_)
    refine g_iconst_i d_M_openGates_9 ?_
    refine g_goto (tgt := 14) (by decide) d_M_openGates_10 ?_
    refine g_putA 9 6 62 (by omega) u2 f_M_33 (Or.inl rfl) (by rfl) (by rfl) (Nat.le_of_ble_eq_true rfl) d_M_openGates_14 (fun w hs hn9 => ?_)
    have hth := hm.th (t := 0) hs hn9
    have hm0 := hm
    have hm := hth.1
    obtain ⟨hn, u2, u3⟩ := id hm
    have k2 : g_cell E w im (gad E 62) _ := g_mut 62 (by omega) u2
    have k3 : g_cell E w im (gad E 63) _ := g_mut 63 (by omega) u3
    refine g_iconst_i d_M_openGates_17 ?_
    refine g_istore_n (n := 2) (i := 2) rfl (by decide) rfl d_M_openGates_18 ?_
    refine g_iconst_i d_M_openGates_19 ?_
    refine g_istore_n (n := 3) (i := 3) rfl (by decide) rfl d_M_openGates_20 ?_
    have loop : ∀ (n9 : Nat) (k9 s9 : Int), 0 ≤ k9 → k9 + n9 = m 1 → s9 = ((orZ (fun k9 => opF m x k9) k9 : Nat) : Int) → G E 6 m_M_openGates 21 [(0, .ref (gad E 62)), (1, .int (iI x)), (2, .int (iI s9)), (3, .int (iI k9))] [] w im 0 0 Q := by
      intro n9
      induction n9 with
      | zero =>
        intro k9 s9 h9 hk9 hs9
        have e9 : k9 = m 1 := by omega
        rw [e9] at hs9
        refine g_iload_n (n := 3) (i := 3) rfl rfl d_M_openGates_21 ?_
        refine g_aload_n (n := 0) (i := 0) rfl rfl d_M_openGates_22 ?_
        refine g_getfield 9 0 f_M_9 (by assumption) (by rfl) d_M_openGates_23 ?_
        refine g_iconst_i d_M_openGates_26 ?_
        refine g_iaload_i (by assumption) (by omega) (by omega) (by rfl) d_M_openGates_27 ?_
        refine g_icmp_ge_i (tgt := 63) (by omega) (by omega) d_M_openGates_28 (by decide) (fun h28 => ?_) (fun h => by exfalso; omega)
        refine g_iload_n (n := 2) (i := 2) rfl rfl d_M_openGates_63 ?_
        refine g_ireturn_i rfl d_M_openGates_64 ?_
        exact hQ _ _ _ (by unfold gOpe; rw [if_pos hA, hs9]; rfl) ⟨_, hm, hth.2.1, hth.2.2, hn9⟩
      | succ n9 ih =>
        intro k9 s9 h9 hk9 hs9
        have hlt : k9 < m 1 := by omega
        refine g_iload_n (n := 3) (i := 3) rfl rfl d_M_openGates_21 ?_
        refine g_aload_n (n := 0) (i := 0) rfl rfl d_M_openGates_22 ?_
        refine g_getfield 9 0 f_M_9 (by assumption) (by rfl) d_M_openGates_23 ?_
        refine g_iconst_i d_M_openGates_26 ?_
        refine g_iaload_i (by assumption) (by omega) (by omega) (by rfl) d_M_openGates_27 ?_
        refine g_icmp_ge_i (tgt := 63) (by omega) (by omega) d_M_openGates_28 (by decide) (fun h => by exfalso; omega) (fun h28 => ?_)
        refine g_aload_n (n := 0) (i := 0) rfl rfl d_M_openGates_31 ?_
        refine g_getfield 9 6 f_M_33 k2 (by rfl) d_M_openGates_32 ?_
        rw [hth.2.1]
        refine g_if_ne_i (tgt := 63) (by decide) d_M_openGates_35 (by decide) (fun h => absurd h (by decide)) (fun h35 => ?_)
        refine g_iload_n (n := 2) (i := 2) rfl rfl d_M_openGates_38 ?_
        refine g_aload_n (n := 0) (i := 0) rfl rfl d_M_openGates_39 ?_
        refine g_iload_n (n := 1) (i := 1) rfl rfl d_M_openGates_40 ?_
        refine g_iload_n (n := 3) (i := 3) rfl rfl d_M_openGates_41 ?_
        refine g_callV2 rfl rfl e_M_refusalBy l_M_151 iv_M_refusalBy 9 (by decide) rfl (by assumption) (by decide) (Nat.zero_le _) (Nat.zero_le _) (Nat.le_of_ble_eq_true rfl) d_M_openGates_42 (c_M_refusalBy hm ok (by omega) (by omega) (fun r9 hr9 => ?_))
        refine g_ret ?_
        have hrr : 0 ≤ r9 ∧ r9 ≤ 100 := rfsM_rng ok (by omega) hr9
        refine g_if_ne_i (tgt := 54) (by omega) d_M_openGates_45 (by decide) (fun h45 => ?_) (fun h45 => ?_)
        · refine g_iconst_i d_M_openGates_54 ?_
          refine g_ior d_M_openGates_55 ?_
          first | rw [hs9, iI_or] | rw [hs9, show iI 0 = iI ((0 : Nat) : Int) from rfl, iI_or]
          refine g_istore_n (n := 2) (i := 2) rfl (by decide) rfl d_M_openGates_56 ?_
          refine g_iinc_i (i := 3) rfl (by decide) rfl d_M_openGates_57 ?_
          refine g_goto (tgt := 21) (by decide) d_M_openGates_60 ?_
          exact g_cut (lv' := [(0, .ref (gad E 62)), (1, .int (iI x)), (2, .int (iI _)), (3, .int (iI (k9 + 1)))]) ⟨rfl, rfl, rfl, rfl, trivial⟩ (ih (k9 + 1) _ (by omega) (by omega) (by rw [orZ_s (by omega)]; first | (rw [show opF m x k9 = 2 ^ k9.toNat from if_pos ((show r9 = 0 by omega) ▸ hr9)]; done) | (rw [show opF m x k9 = 0 from if_neg (fun h => by have := rfsM_fun hr9 h; omega)]; done)))
        · refine g_iconst_i d_M_openGates_48 ?_
          refine g_iload_n (n := 3) (i := 3) rfl rfl d_M_openGates_49 ?_
          refine g_ishl d_M_openGates_50 ?_
          rw [iI_shl1 (by omega)]
          refine g_goto (tgt := 55) (by decide) d_M_openGates_51 ?_
          refine g_ior d_M_openGates_55 ?_
          first | rw [hs9, iI_or] | rw [hs9, show iI 0 = iI ((0 : Nat) : Int) from rfl, iI_or]
          refine g_istore_n (n := 2) (i := 2) rfl (by decide) rfl d_M_openGates_56 ?_
          refine g_iinc_i (i := 3) rfl (by decide) rfl d_M_openGates_57 ?_
          refine g_goto (tgt := 21) (by decide) d_M_openGates_60 ?_
          exact g_cut (lv' := [(0, .ref (gad E 62)), (1, .int (iI x)), (2, .int (iI _)), (3, .int (iI (k9 + 1)))]) ⟨rfl, rfl, rfl, rfl, trivial⟩ (ih (k9 + 1) _ (by omega) (by omega) (by rw [orZ_s (by omega)]; first | (rw [show opF m x k9 = 2 ^ k9.toNat from if_pos ((show r9 = 0 by omega) ▸ hr9)]; done) | (rw [show opF m x k9 = 0 from if_neg (fun h => by have := rfsM_fun hr9 h; omega)]; done)))
    refine g_cut ?_ (loop (m 1).toNat 0 0 (by omega) (by omega) rfl)
    exact ⟨rfl, rfl, rfl, rfl, trivial⟩
  · refine g_ret ?_
    refine g_if_eq_i (tgt := 13) (by decide) d_M_openGates_6 (by decide) (fun h6 => ?_) (fun h => absurd h (by decide))
    refine g_iconst_i d_M_openGates_13 ?_
    refine g_putA 9 6 62 (by omega) u2 f_M_33 (Or.inl rfl) (by rfl) (by rfl) (Nat.le_of_ble_eq_true rfl) d_M_openGates_14 (fun w hs hn9 => ?_)
    have hth := hm.th (t := 1) hs hn9
    have hm0 := hm
    have hm := hth.1
    obtain ⟨hn, u2, u3⟩ := id hm
    have k2 : g_cell E w im (gad E 62) _ := g_mut 62 (by omega) u2
    have k3 : g_cell E w im (gad E 63) _ := g_mut 63 (by omega) u3
    refine g_iconst_i d_M_openGates_17 ?_
    refine g_istore_n (n := 2) (i := 2) rfl (by decide) rfl d_M_openGates_18 ?_
    refine g_iconst_i d_M_openGates_19 ?_
    refine g_istore_n (n := 3) (i := 3) rfl (by decide) rfl d_M_openGates_20 ?_
    refine g_iload_n (n := 3) (i := 3) rfl rfl d_M_openGates_21 ?_
    refine g_aload_n (n := 0) (i := 0) rfl rfl d_M_openGates_22 ?_
    refine g_getfield 9 0 f_M_9 (by assumption) (by rfl) d_M_openGates_23 ?_
    refine g_iconst_i d_M_openGates_26 ?_
    refine g_iaload_i (by assumption) (by omega) (by omega) (by rfl) d_M_openGates_27 ?_
    refine g_icmp_ge_i (tgt := 63) (by decide) (by omega) d_M_openGates_28 (by decide) (fun h28 => ?_) (fun h28 => ?_)
    · refine g_iload_n (n := 2) (i := 2) rfl rfl d_M_openGates_63 ?_
      refine g_ireturn_i rfl d_M_openGates_64 ?_
      exact hQ _ _ _ (by unfold gOpe; rw [if_neg hA]) ⟨_, hm, hth.2.1, hth.2.2, hn9⟩
    · refine g_aload_n (n := 0) (i := 0) rfl rfl d_M_openGates_31 ?_
      refine g_getfield 9 6 f_M_33 k2 (by rfl) d_M_openGates_32 ?_
      rw [hth.2.1]
      refine g_if_ne_i (tgt := 63) (by decide) d_M_openGates_35 (by decide) (fun h35 => ?_) (fun h => absurd h (by decide))
      refine g_iload_n (n := 2) (i := 2) rfl rfl d_M_openGates_63 ?_
      refine g_ireturn_i rfl d_M_openGates_64 ?_
      exact hQ _ _ _ (by unfold gOpe; rw [if_neg hA]) ⟨_, hm, hth.2.1, hth.2.2, hn9⟩

theorem lastM_rng {m : Int → Int} {n : Nat} {x : Int} (ok : okM m) (hx : 0 ≤ x ∧ x < m 3) : 0 ≤ lastM m n x ∧ lastM m n x < m 3 := by
  induction n generalizing x with
  | zero => exact hx
  | succ n ih =>
    rw [lastM]
    split
    · exact hx
    · rename_i h
      have := ok.2.2.2.2.2.2.2.2.1 x hx
      exact ih (by omega)
def lpM (m : Int → Int) (x : Int) : Int := m (461 + 5 * lastM m 20 x + 0)
def leftM (m : Int → Int) (x : Int) : Int := if m (413 + 6 * lpM m x + 0) = 2 then 10 * m (413 + 6 * lpM m x + 1) - ridesOnM m x else if m (413 + 6 * lpM m x + 0) = 1 then m (413 + 6 * lpM m x + 1) - daysM m x 0 else
  (if ridesOnM m x = 0 then m (413 + 6 * lpM m x + 1) else (if m (413 + 6 * lpM m x + 1) - (m 0 / 1440 - m (561 + 3 * rideAtM m x 0 + 2) / 1440) < 0 then 0 else m (413 + 6 * lpM m x + 1) - (m 0 / 1440 - m (561 + 3 * rideAtM m x 0 + 2) / 1440)))

theorem c_M_leftOn {E : gE} {w : gW} {im : gIm} {Q : gQ} {f : Nat → Int} {m : Int → Int} (hm : MR E w f m) (ok : okM m) {x : Int} (rx : 0 ≤ x ∧ x < m 3) (hQ : Q (.inl (some (.int (iI (leftM m x))))) w im) : GM E 4 y_M_leftOn m_M_leftOn 0 0 [.ref (gad E 62), .int (iI x)] w im Q := by
  obtain ⟨hn, u2, u3⟩ := id hm
  have k2 : g_cell E w im (gad E 62) _ := g_mut 62 (by omega) u2
  have k3 : g_cell E w im (gad E 63) _ := g_mut 63 (by omega) u3
  obtain ⟨z0, z1, z2, z3, z4, z5, z6, z7, z8, z9⟩ := id ok
  have hla := lastM_rng (n := 20) ok rx
  have zl := z8 (lastM m 20 x) hla
  have zp : (1 ≤ m (413 + 6 * lpM m x + 1) ∧ m (413 + 6 * lpM m x + 1) ≤ 9) ∧ (0 ≤ m (413 + 6 * lpM m x + 0) ∧ m (413 + 6 * lpM m x + 0) ≤ 2) ∧ 0 ≤ lpM m x ∧ lpM m x < m 2 := by have zq := z7 (lpM m x) zl.1; have zq2 : 0 ≤ lpM m x ∧ lpM m x < m 2 := zl.1; omega
  have hrn := ridesOnM_rng z4 (x := x)
  have hdr := daysM_rng (m := m) (x := x) (ca := 0)
  refine g_enter (by decide) rfl rfl (fun h => by first | rfl | cases h) (Nat.le_of_ble_eq_true rfl) rfl ?_
  refine g_aload_n (n := 0) (i := 0) rfl rfl d_M_leftOn_0 ?_
  refine g_aload_n (n := 0) (i := 0) rfl rfl d_M_leftOn_1 ?_
  refine g_iload_n (n := 1) (i := 1) rfl rfl d_M_leftOn_2 ?_
  refine g_callV1 rfl rfl e_M_lastOf l_M_166 iv_M_lastOf 9 (by decide) rfl (by assumption) (by decide) (Nat.zero_le _) (Nat.zero_le _) (Nat.le_of_ble_eq_true rfl) d_M_leftOn_3 (c_M_lastOf hm ok (by omega) ?_)
  refine g_ret ?_
  refine g_iconst_i d_M_leftOn_6 ?_
  refine g_callV2 rfl rfl e_M_c l_M_90 iv_M_c 9 (by decide) rfl (by assumption) (by decide) (Nat.zero_le _) (Nat.zero_le _) (Nat.le_of_ble_eq_true rfl) d_M_leftOn_7 (c_M_c hm (by omega) (by omega) ?_)
  refine g_ret ?_
  change G E 4 m_M_leftOn 10 _ [.int (iI (lpM m x))] _ _ _ _ Q
  refine g_istore_n (n := 2) (i := 2) rfl (by decide) rfl d_M_leftOn_10 ?_
  refine g_aload_n (n := 0) (i := 0) rfl rfl d_M_leftOn_11 ?_
  refine g_iload_n (n := 2) (i := 2) rfl rfl d_M_leftOn_12 ?_
  refine g_iconst_i d_M_leftOn_13 ?_
  refine g_callV2 rfl rfl e_M_p l_M_83 iv_M_p 9 (by decide) rfl (by assumption) (by decide) (Nat.zero_le _) (Nat.zero_le _) (Nat.le_of_ble_eq_true rfl) d_M_leftOn_14 (c_M_p hm (by omega) (by omega) ?_)
  refine g_ret ?_
  refine g_istore_n (n := 3) (i := 3) rfl (by decide) rfl d_M_leftOn_17 ?_
  refine g_aload_n (n := 0) (i := 0) rfl rfl d_M_leftOn_18 ?_
  refine g_iload_n (n := 1) (i := 1) rfl rfl d_M_leftOn_19 ?_
  refine g_callV1 rfl rfl e_M_ridesOn l_M_136 iv_M_ridesOn 9 (by decide) rfl (by assumption) (by decide) (Nat.zero_le _) (Nat.zero_le _) (Nat.le_of_ble_eq_true rfl) d_M_leftOn_20 (c_M_ridesOn2 hm ok (by omega) ?_)
  refine g_ret ?_
  refine g_istore (i := 4) (by decide) rfl d_M_leftOn_23 ?_
  refine g_aload_n (n := 0) (i := 0) rfl rfl d_M_leftOn_25 ?_
  refine g_iload_n (n := 2) (i := 2) rfl rfl d_M_leftOn_26 ?_
  refine g_iconst_i d_M_leftOn_27 ?_
  refine g_callV2 rfl rfl e_M_p l_M_83 iv_M_p 9 (by decide) rfl (by assumption) (by decide) (Nat.zero_le _) (Nat.zero_le _) (Nat.le_of_ble_eq_true rfl) d_M_leftOn_28 (c_M_p hm (by omega) (by omega) ?_)
  refine g_ret ?_
  refine g_iconst_i d_M_leftOn_31 ?_
  refine g_icmp_ne_i (tgt := 43) (by omega) (by decide) d_M_leftOn_32 (by decide) (fun h32 => ?_) (fun h32 => ?_)
  · refine g_aload_n (n := 0) (i := 0) rfl rfl d_M_leftOn_43 ?_
    refine g_iload_n (n := 2) (i := 2) rfl rfl d_M_leftOn_44 ?_
    refine g_iconst_i d_M_leftOn_45 ?_
    refine g_callV2 rfl rfl e_M_p l_M_83 iv_M_p 9 (by decide) rfl (by assumption) (by decide) (Nat.zero_le _) (Nat.zero_le _) (Nat.le_of_ble_eq_true rfl) d_M_leftOn_46 (c_M_p hm (by omega) (by omega) ?_)
    refine g_ret ?_
    refine g_iconst_i d_M_leftOn_49 ?_
    refine g_icmp_ne_i (tgt := 62) (by omega) (by decide) d_M_leftOn_50 (by decide) (fun h50 => ?_) (fun h50 => ?_)
    · refine g_iload (i := 4) rfl d_M_leftOn_62 ?_
      refine g_if_ne_i (tgt := 71) (by omega) d_M_leftOn_64 (by decide) (fun h64 => ?_) (fun h64 => ?_)
      · refine g_iload_n (n := 3) (i := 3) rfl rfl d_M_leftOn_71 ?_
        refine g_aload_n (n := 0) (i := 0) rfl rfl d_M_leftOn_72 ?_
        refine g_callV0 rfl rfl e_M_today l_M_76 iv_M_today 9 (by decide) rfl (by assumption) (by decide) (Nat.zero_le _) (Nat.zero_le _) (Nat.le_of_ble_eq_true rfl) d_M_leftOn_73 (c_M_today hm ok ?_)
        refine g_ret ?_
        refine g_aload_n (n := 0) (i := 0) rfl rfl d_M_leftOn_76 ?_
        refine g_aload_n (n := 0) (i := 0) rfl rfl d_M_leftOn_77 ?_
        refine g_iload_n (n := 1) (i := 1) rfl rfl d_M_leftOn_78 ?_
        refine g_iconst_i d_M_leftOn_79 ?_
        refine g_callV2 rfl rfl e_M_rideAt l_M_139 iv_M_rideAt 9 (by decide) rfl (by assumption) (by decide) (Nat.zero_le _) (Nat.zero_le _) (Nat.le_of_ble_eq_true rfl) d_M_leftOn_80 (c_M_rideAt hm ok (by omega) (by omega) ?_)
        refine g_ret ?_
        have hra := rideAtM_ok (m := m) (x := x) (y := 0) z4.1 (by omega)
        have zr := z9 _ ⟨hra.1, hra.2.1⟩
        refine g_iconst_i d_M_leftOn_83 ?_
        refine g_callV2 rfl rfl e_M_rideOf l_M_59 iv_M_rideOf 9 (by decide) rfl (by assumption) (by decide) (Nat.zero_le _) (Nat.zero_le _) (Nat.le_of_ble_eq_true rfl) d_M_leftOn_84 (c_M_rideOf hm (by omega) (by omega) ?_)
        refine g_ret ?_
        refine g_sipush_i (by decide) d_M_leftOn_87 ?_
        refine g_idiv_i (by omega) (by omega) d_M_leftOn_90 ?_
        refine g_isub_i d_M_leftOn_91 ?_
        refine g_isub_i d_M_leftOn_92 ?_
        refine g_istore (i := 5) (by decide) rfl d_M_leftOn_93 ?_
        refine g_iload (i := 5) rfl d_M_leftOn_95 ?_
        refine g_if_ge_i (tgt := 104) (by omega) d_M_leftOn_97 (by decide) (fun h97 => ?_) (fun h97 => ?_)
        · refine g_iload (i := 5) rfl d_M_leftOn_104 ?_
          refine g_ireturn_i rfl d_M_leftOn_106 ?_
          exact g_qi hQ (by unfold leftM; first | (rw [if_pos (by omega)]; done) | (rw [if_neg (by omega), if_pos (by omega)]; done) | (rw [if_neg (by omega), if_neg (by omega), if_pos (by omega)]; done) | (rw [if_neg (by omega), if_neg (by omega), if_pos (by omega)]; omega) | (rw [if_neg (by omega), if_neg (by omega), if_neg (by omega), if_pos (by omega)]; done) | (rw [if_neg (by omega), if_neg (by omega), if_neg (by omega), if_neg (by omega)]; done))
        · refine g_iconst_i d_M_leftOn_100 ?_
          refine g_goto (tgt := 106) (by decide) d_M_leftOn_101 ?_
          refine g_ireturn_i rfl d_M_leftOn_106 ?_
          exact g_qi hQ (by unfold leftM; first | (rw [if_pos (by omega)]; done) | (rw [if_neg (by omega), if_pos (by omega)]; done) | (rw [if_neg (by omega), if_neg (by omega), if_pos (by omega)]; done) | (rw [if_neg (by omega), if_neg (by omega), if_pos (by omega)]; omega) | (rw [if_neg (by omega), if_neg (by omega), if_neg (by omega), if_pos (by omega)]; done) | (rw [if_neg (by omega), if_neg (by omega), if_neg (by omega), if_neg (by omega)]; done))
      · refine g_iload_n (n := 3) (i := 3) rfl rfl d_M_leftOn_67 ?_
        refine g_goto (tgt := 93) (by decide) d_M_leftOn_68 ?_
        refine g_istore (i := 5) (by decide) rfl d_M_leftOn_93 ?_
        refine g_iload (i := 5) rfl d_M_leftOn_95 ?_
        refine g_if_ge_i (tgt := 104) (by omega) d_M_leftOn_97 (by decide) (fun h97 => ?_) (fun h97 => ?_)
        · refine g_iload (i := 5) rfl d_M_leftOn_104 ?_
          refine g_ireturn_i rfl d_M_leftOn_106 ?_
          exact g_qi hQ (by unfold leftM; first | (rw [if_pos (by omega)]; done) | (rw [if_neg (by omega), if_pos (by omega)]; done) | (rw [if_neg (by omega), if_neg (by omega), if_pos (by omega)]; done) | (rw [if_neg (by omega), if_neg (by omega), if_pos (by omega)]; omega) | (rw [if_neg (by omega), if_neg (by omega), if_neg (by omega), if_pos (by omega)]; done) | (rw [if_neg (by omega), if_neg (by omega), if_neg (by omega), if_neg (by omega)]; done))
        · refine g_iconst_i d_M_leftOn_100 ?_
          refine g_goto (tgt := 106) (by decide) d_M_leftOn_101 ?_
          refine g_ireturn_i rfl d_M_leftOn_106 ?_
          exact g_qi hQ (by unfold leftM; first | (rw [if_pos (by omega)]; done) | (rw [if_neg (by omega), if_pos (by omega)]; done) | (rw [if_neg (by omega), if_neg (by omega), if_pos (by omega)]; done) | (rw [if_neg (by omega), if_neg (by omega), if_pos (by omega)]; omega) | (rw [if_neg (by omega), if_neg (by omega), if_neg (by omega), if_pos (by omega)]; done) | (rw [if_neg (by omega), if_neg (by omega), if_neg (by omega), if_neg (by omega)]; done))
    · refine g_iload_n (n := 3) (i := 3) rfl rfl d_M_leftOn_53 ?_
      refine g_aload_n (n := 0) (i := 0) rfl rfl d_M_leftOn_54 ?_
      refine g_iload_n (n := 1) (i := 1) rfl rfl d_M_leftOn_55 ?_
      refine g_iconst_i d_M_leftOn_56 ?_
      refine g_callV2 rfl rfl e_M_daysOf l_M_142 iv_M_daysOf 9 (by decide) rfl (by assumption) (by decide) (Nat.zero_le _) (Nat.zero_le _) (Nat.le_of_ble_eq_true rfl) d_M_leftOn_57 (c_M_daysOf hm ok (by omega) (by omega) ?_)
      refine g_ret ?_
      refine g_isub_i d_M_leftOn_60 ?_
      refine g_ireturn_i rfl d_M_leftOn_61 ?_
      exact g_qi hQ (by unfold leftM; first | (rw [if_pos (by omega)]; done) | (rw [if_neg (by omega), if_pos (by omega)]; done) | (rw [if_neg (by omega), if_neg (by omega), if_pos (by omega)]; done) | (rw [if_neg (by omega), if_neg (by omega), if_pos (by omega)]; omega) | (rw [if_neg (by omega), if_neg (by omega), if_neg (by omega), if_pos (by omega)]; done) | (rw [if_neg (by omega), if_neg (by omega), if_neg (by omega), if_neg (by omega)]; done))
  · refine g_bipush_i (by decide) d_M_leftOn_35 ?_
    refine g_iload_n (n := 3) (i := 3) rfl rfl d_M_leftOn_37 ?_
    refine g_imul_i d_M_leftOn_38 ?_
    refine g_iload (i := 4) rfl d_M_leftOn_39 ?_
    refine g_isub_i d_M_leftOn_41 ?_
    refine g_ireturn_i rfl d_M_leftOn_42 ?_
    exact g_qi hQ (by unfold leftM; first | (rw [if_pos (by omega)]; done) | (rw [if_neg (by omega), if_pos (by omega)]; done) | (rw [if_neg (by omega), if_neg (by omega), if_pos (by omega)]; done) | (rw [if_neg (by omega), if_neg (by omega), if_pos (by omega)]; omega) | (rw [if_neg (by omega), if_neg (by omega), if_neg (by omega), if_pos (by omega)]; done) | (rw [if_neg (by omega), if_neg (by omega), if_neg (by omega), if_neg (by omega)]; done))

def gCard (m : Int → Int) (x y : Int) : Int × Int := if 0 ≤ x ∧ x < m 3 then
  (if y = 0 then (0, lpM m x) else if y = 1 then (0, m (461 + 5 * x + 1)) else if y = 2 then (0, ridesOnM m x) else if y = 3 then (0, daysM m x 0) else if y = 4 then (0, m (461 + 5 * x + 2)) else if y = 5 then (0, lastM m 20 x) else if y = 6 then (0, m (461 + 5 * x + 4)) else if y = 7 then (0, m (461 + 5 * x + 3)) else if y = 8 then (0, leftM m x) else (2, 0)) else (1, 0)

theorem c_M_card {E : gE} {w : gW} {im : gIm} {Q : gQ} {f : Nat → Int} {m : Int → Int} (hm : MR E w f m) (ok : okM m) {x y : Int} (rx : -2147483648 ≤ x ∧ x < 2147483648) (ry : -2147483648 ≤ y ∧ y < 2147483648) (hQ : ∀ t r w', (t, r) = gCard m x y → MTh E w f m t w' → Q (oV r) w' im) : GM E 5 y_M_card m_M_card 0 0 [.ref (gad E 62), .int (iI x), .int (iI y)] w im Q := by
  obtain ⟨hn, u2, u3⟩ := id hm
  have k2 : g_cell E w im (gad E 62) _ := g_mut 62 (by omega) u2
  have k3 : g_cell E w im (gad E 63) _ := g_mut 63 (by omega) u3
  obtain ⟨z0, z1, z2, z3, z4, z5, z6, z7, z8, z9⟩ := id ok
  refine g_enter (by decide) rfl rfl (fun h => by first | rfl | cases h) (Nat.le_of_ble_eq_true rfl) rfl ?_
  refine g_aload_n (n := 0) (i := 0) rfl rfl d_M_card_0 ?_
  refine g_iconst_i d_M_card_1 ?_
  refine g_putA 9 6 62 (by omega) u2 f_M_33 (Or.inl rfl) (by rfl) (by rfl) (Nat.le_of_ble_eq_true rfl) d_M_card_2 (fun w hs hn9 => ?_)
  have hth := hm.th (t := 0) hs hn9
  have hm0 := hm
  have hm := hth.1
  obtain ⟨hn, u2, u3⟩ := id hm
  have k2 : g_cell E w im (gad E 62) _ := g_mut 62 (by omega) u2
  have k3 : g_cell E w im (gad E 63) _ := g_mut 63 (by omega) u3
  refine g_aload_n (n := 0) (i := 0) rfl rfl d_M_card_5 ?_
  refine g_iload_n (n := 1) (i := 1) rfl rfl d_M_card_6 ?_
  refine g_callV1 rfl rfl e_M_isCard l_M_148 iv_M_isCard 9 (by decide) rfl (by assumption) (by decide) (Nat.zero_le _) (Nat.zero_le _) (Nat.le_of_ble_eq_true rfl) d_M_card_7 (c_M_isCard hm ok rx (fun hB => ?_) (fun hB => ?_))
  · refine g_ret ?_
    refine g_if_ne_i (tgt := 19) (by decide) d_M_card_10 (by decide) (fun h10 => ?_) (fun h => absurd h (by decide))
    refine g_iload_n (n := 2) (i := 2) rfl rfl d_M_card_19 ?_
    have hsw20 : y = 0 ∨ y = 1 ∨ y = 2 ∨ y = 3 ∨ y = 4 ∨ y = 5 ∨ y = 6 ∨ y = 7 ∨ y = 8 ∨ (y < 0 ∨ 8 < y) := by omega
    rcases hsw20 with rfl | rfl | rfl | rfl | rfl | rfl | rfl | rfl | rfl | hsw20
    · refine g_tableIn (off := 52) (tgt := 72) d_M_card_20 (by decide) (by decide) (by decide) (by decide) ?_
      refine g_aload_n (n := 0) (i := 0) rfl rfl d_M_card_72 ?_
      refine g_aload_n (n := 0) (i := 0) rfl rfl d_M_card_73 ?_
      refine g_iload_n (n := 1) (i := 1) rfl rfl d_M_card_74 ?_
      refine g_callV1 rfl rfl e_M_lastOf l_M_166 iv_M_lastOf 9 (by decide) rfl (by assumption) (by decide) (Nat.zero_le _) (Nat.zero_le _) (Nat.le_of_ble_eq_true rfl) d_M_card_75 (c_M_lastOf hm ok (by omega) ?_)
      refine g_ret ?_
      have hla := lastM_rng (n := 20) ok hB
      have zl := z8 (lastM m 20 x) hla
      refine g_iconst_i d_M_card_78 ?_
      refine g_callV2 rfl rfl e_M_c l_M_90 iv_M_c 9 (by decide) rfl (by assumption) (by decide) (Nat.zero_le _) (Nat.zero_le _) (Nat.le_of_ble_eq_true rfl) d_M_card_79 (c_M_c hm (by omega) (by omega) ?_)
      refine g_ret ?_
      refine g_ireturn_i rfl d_M_card_82 ?_
      exact hQ _ _ _ (by unfold gCard; first | (rw [if_pos hB]; rfl) | (rw [if_neg hB]; done) | (rw [if_pos hB, if_neg (by omega), if_neg (by omega), if_neg (by omega), if_neg (by omega), if_neg (by omega), if_neg (by omega), if_neg (by omega), if_neg (by omega), if_neg (by omega)]; done)) (⟨_, hm, hth.2.1, hth.2.2, hn9⟩)
    · refine g_tableIn (off := 63) (tgt := 83) d_M_card_20 (by decide) (by decide) (by decide) (by decide) ?_
      refine g_aload_n (n := 0) (i := 0) rfl rfl d_M_card_83 ?_
      refine g_iload_n (n := 1) (i := 1) rfl rfl d_M_card_84 ?_
      refine g_iconst_i d_M_card_85 ?_
      refine g_callV2 rfl rfl e_M_c l_M_90 iv_M_c 9 (by decide) rfl (by assumption) (by decide) (Nat.zero_le _) (Nat.zero_le _) (Nat.le_of_ble_eq_true rfl) d_M_card_86 (c_M_c hm (by omega) (by omega) ?_)
      refine g_ret ?_
      refine g_ireturn_i rfl d_M_card_89 ?_
      exact hQ _ _ _ (by unfold gCard; first | (rw [if_pos hB]; rfl) | (rw [if_neg hB]; done) | (rw [if_pos hB, if_neg (by omega), if_neg (by omega), if_neg (by omega), if_neg (by omega), if_neg (by omega), if_neg (by omega), if_neg (by omega), if_neg (by omega), if_neg (by omega)]; done)) (⟨_, hm, hth.2.1, hth.2.2, hn9⟩)
    · refine g_tableIn (off := 70) (tgt := 90) d_M_card_20 (by decide) (by decide) (by decide) (by decide) ?_
      refine g_aload_n (n := 0) (i := 0) rfl rfl d_M_card_90 ?_
      refine g_iload_n (n := 1) (i := 1) rfl rfl d_M_card_91 ?_
      refine g_callV1 rfl rfl e_M_ridesOn l_M_136 iv_M_ridesOn 9 (by decide) rfl (by assumption) (by decide) (Nat.zero_le _) (Nat.zero_le _) (Nat.le_of_ble_eq_true rfl) d_M_card_92 (c_M_ridesOn2 hm ok (by omega) ?_)
      refine g_ret ?_
      refine g_ireturn_i rfl d_M_card_95 ?_
      exact hQ _ _ _ (by unfold gCard; first | (rw [if_pos hB]; rfl) | (rw [if_neg hB]; done) | (rw [if_pos hB, if_neg (by omega), if_neg (by omega), if_neg (by omega), if_neg (by omega), if_neg (by omega), if_neg (by omega), if_neg (by omega), if_neg (by omega), if_neg (by omega)]; done)) (⟨_, hm, hth.2.1, hth.2.2, hn9⟩)
    · refine g_tableIn (off := 76) (tgt := 96) d_M_card_20 (by decide) (by decide) (by decide) (by decide) ?_
      refine g_aload_n (n := 0) (i := 0) rfl rfl d_M_card_96 ?_
      refine g_iload_n (n := 1) (i := 1) rfl rfl d_M_card_97 ?_
      refine g_iconst_i d_M_card_98 ?_
      refine g_callV2 rfl rfl e_M_daysOf l_M_142 iv_M_daysOf 9 (by decide) rfl (by assumption) (by decide) (Nat.zero_le _) (Nat.zero_le _) (Nat.le_of_ble_eq_true rfl) d_M_card_99 (c_M_daysOf hm ok (by omega) (by omega) ?_)
      refine g_ret ?_
      refine g_ireturn_i rfl d_M_card_102 ?_
      exact hQ _ _ _ (by unfold gCard; first | (rw [if_pos hB]; rfl) | (rw [if_neg hB]; done) | (rw [if_pos hB, if_neg (by omega), if_neg (by omega), if_neg (by omega), if_neg (by omega), if_neg (by omega), if_neg (by omega), if_neg (by omega), if_neg (by omega), if_neg (by omega)]; done)) (⟨_, hm, hth.2.1, hth.2.2, hn9⟩)
    · refine g_tableIn (off := 83) (tgt := 103) d_M_card_20 (by decide) (by decide) (by decide) (by decide) ?_
      refine g_aload_n (n := 0) (i := 0) rfl rfl d_M_card_103 ?_
      refine g_iload_n (n := 1) (i := 1) rfl rfl d_M_card_104 ?_
      refine g_iconst_i d_M_card_105 ?_
      refine g_callV2 rfl rfl e_M_c l_M_90 iv_M_c 9 (by decide) rfl (by assumption) (by decide) (Nat.zero_le _) (Nat.zero_le _) (Nat.le_of_ble_eq_true rfl) d_M_card_106 (c_M_c hm (by omega) (by omega) ?_)
      refine g_ret ?_
      refine g_ireturn_i rfl d_M_card_109 ?_
      exact hQ _ _ _ (by unfold gCard; first | (rw [if_pos hB]; rfl) | (rw [if_neg hB]; done) | (rw [if_pos hB, if_neg (by omega), if_neg (by omega), if_neg (by omega), if_neg (by omega), if_neg (by omega), if_neg (by omega), if_neg (by omega), if_neg (by omega), if_neg (by omega)]; done)) (⟨_, hm, hth.2.1, hth.2.2, hn9⟩)
    · refine g_tableIn (off := 90) (tgt := 110) d_M_card_20 (by decide) (by decide) (by decide) (by decide) ?_
      refine g_aload_n (n := 0) (i := 0) rfl rfl d_M_card_110 ?_
      refine g_iload_n (n := 1) (i := 1) rfl rfl d_M_card_111 ?_
      refine g_callV1 rfl rfl e_M_lastOf l_M_166 iv_M_lastOf 9 (by decide) rfl (by assumption) (by decide) (Nat.zero_le _) (Nat.zero_le _) (Nat.le_of_ble_eq_true rfl) d_M_card_112 (c_M_lastOf hm ok (by omega) ?_)
      refine g_ret ?_
      refine g_ireturn_i rfl d_M_card_115 ?_
      exact hQ _ _ _ (by unfold gCard; first | (rw [if_pos hB]; rfl) | (rw [if_neg hB]; done) | (rw [if_pos hB, if_neg (by omega), if_neg (by omega), if_neg (by omega), if_neg (by omega), if_neg (by omega), if_neg (by omega), if_neg (by omega), if_neg (by omega), if_neg (by omega)]; done)) (⟨_, hm, hth.2.1, hth.2.2, hn9⟩)
    · refine g_tableIn (off := 96) (tgt := 116) d_M_card_20 (by decide) (by decide) (by decide) (by decide) ?_
      refine g_aload_n (n := 0) (i := 0) rfl rfl d_M_card_116 ?_
      refine g_iload_n (n := 1) (i := 1) rfl rfl d_M_card_117 ?_
      refine g_iconst_i d_M_card_118 ?_
      refine g_callV2 rfl rfl e_M_c l_M_90 iv_M_c 9 (by decide) rfl (by assumption) (by decide) (Nat.zero_le _) (Nat.zero_le _) (Nat.le_of_ble_eq_true rfl) d_M_card_119 (c_M_c hm (by omega) (by omega) ?_)
      refine g_ret ?_
      refine g_ireturn_i rfl d_M_card_122 ?_
      exact hQ _ _ _ (by unfold gCard; first | (rw [if_pos hB]; rfl) | (rw [if_neg hB]; done) | (rw [if_pos hB, if_neg (by omega), if_neg (by omega), if_neg (by omega), if_neg (by omega), if_neg (by omega), if_neg (by omega), if_neg (by omega), if_neg (by omega), if_neg (by omega)]; done)) (⟨_, hm, hth.2.1, hth.2.2, hn9⟩)
    · refine g_tableIn (off := 103) (tgt := 123) d_M_card_20 (by decide) (by decide) (by decide) (by decide) ?_
      refine g_aload_n (n := 0) (i := 0) rfl rfl d_M_card_123 ?_
      refine g_iload_n (n := 1) (i := 1) rfl rfl d_M_card_124 ?_
      refine g_iconst_i d_M_card_125 ?_
      refine g_callV2 rfl rfl e_M_c l_M_90 iv_M_c 9 (by decide) rfl (by assumption) (by decide) (Nat.zero_le _) (Nat.zero_le _) (Nat.le_of_ble_eq_true rfl) d_M_card_126 (c_M_c hm (by omega) (by omega) ?_)
      refine g_ret ?_
      refine g_ireturn_i rfl d_M_card_129 ?_
      exact hQ _ _ _ (by unfold gCard; first | (rw [if_pos hB]; rfl) | (rw [if_neg hB]; done) | (rw [if_pos hB, if_neg (by omega), if_neg (by omega), if_neg (by omega), if_neg (by omega), if_neg (by omega), if_neg (by omega), if_neg (by omega), if_neg (by omega), if_neg (by omega)]; done)) (⟨_, hm, hth.2.1, hth.2.2, hn9⟩)
    · refine g_tableIn (off := 110) (tgt := 130) d_M_card_20 (by decide) (by decide) (by decide) (by decide) ?_
      refine g_aload_n (n := 0) (i := 0) rfl rfl d_M_card_130 ?_
      refine g_iload_n (n := 1) (i := 1) rfl rfl d_M_card_131 ?_
      refine g_callV1 rfl rfl e_M_leftOn l_M_169 iv_M_leftOn 9 (by decide) rfl (by assumption) (by decide) (Nat.zero_le _) (Nat.zero_le _) (Nat.le_of_ble_eq_true rfl) d_M_card_132 (c_M_leftOn hm ok (by omega) ?_)
      refine g_ret ?_
      refine g_ireturn_i rfl d_M_card_135 ?_
      exact hQ _ _ _ (by unfold gCard; first | (rw [if_pos hB]; rfl) | (rw [if_neg hB]; done) | (rw [if_pos hB, if_neg (by omega), if_neg (by omega), if_neg (by omega), if_neg (by omega), if_neg (by omega), if_neg (by omega), if_neg (by omega), if_neg (by omega), if_neg (by omega)]; done)) (⟨_, hm, hth.2.1, hth.2.2, hn9⟩)
    · refine g_tableOut (tgt := 136) d_M_card_20 (by rw [iI_toInt (by omega)]; exact hsw20) (by decide) ?_
      refine g_aload_n (n := 0) (i := 0) rfl rfl d_M_card_136 ?_
      refine g_iconst_i d_M_card_137 ?_
      refine g_callV1 rfl rfl e_M_fail l_M_52 iv_M_fail 9 (by decide) rfl (by assumption) (by decide) (Nat.zero_le _) (Nat.zero_le _) (Nat.le_of_ble_eq_true rfl) d_M_card_138 (c_M_fail hm (fun w hF => ?_))
      refine g_ret ?_
      refine g_ireturn_i rfl d_M_card_141 ?_
      exact hQ _ _ _ (by unfold gCard; first | (rw [if_pos hB]; rfl) | (rw [if_neg hB]; done) | (rw [if_pos hB, if_neg (by omega), if_neg (by omega), if_neg (by omega), if_neg (by omega), if_neg (by omega), if_neg (by omega), if_neg (by omega), if_neg (by omega), if_neg (by omega)]; done)) (MTh.trans hth.2.2 hn9 hF)
  · refine g_ret ?_
    refine g_if_ne_i (tgt := 19) (by decide) d_M_card_10 (by decide) (fun h => absurd h (by decide)) (fun h10 => ?_)
    refine g_aload_n (n := 0) (i := 0) rfl rfl d_M_card_13 ?_
    refine g_iconst_i d_M_card_14 ?_
    refine g_callV1 rfl rfl e_M_fail l_M_52 iv_M_fail 9 (by decide) rfl (by assumption) (by decide) (Nat.zero_le _) (Nat.zero_le _) (Nat.le_of_ble_eq_true rfl) d_M_card_15 (c_M_fail hm (fun w hF => ?_))
    refine g_ret ?_
    refine g_ireturn_i rfl d_M_card_18 ?_
    exact hQ _ _ _ (by unfold gCard; first | (rw [if_pos hB]; rfl) | (rw [if_neg hB]; done) | (rw [if_pos hB, if_neg (by omega), if_neg (by omega), if_neg (by omega), if_neg (by omega), if_neg (by omega), if_neg (by omega), if_neg (by omega), if_neg (by omega), if_neg (by omega)]; done)) (MTh.trans hth.2.2 hn9 hF)

def ifM (m : Int → Int) : Int := sumZ (fun k9 => if m (461 + 5 * k9 + 1) = 2 then 0 else 1) (m 3)
theorem ifM_rng {m : Int → Int} (h : 0 ≤ m 3 ∧ m 3 ≤ 20) : 0 ≤ ifM m ∧ ifM m ≤ 20 := by
  have := sumZ_le (f := fun k9 => if m (461 + 5 * k9 + 1) = 2 then 0 else 1) (c := 1) (n := m 3) h.1 (fun k9 _ _ => by (repeat' split) <;> omega)
  unfold ifM
  omega

theorem c_M_meanRides {E : gE} {w : gW} {im : gIm} {Q : gQ} {f : Nat → Int} {m : Int → Int} (hm : MR E w f m) (ok : okM m) (hQ1 : ifM m = 0 → ∀ w', MTh E w f m 1 w' → Q (.inl (some (.double FP.dconst0))) w' im) (hQ2 : ifM m ≠ 0 → ∀ w', MTh E w f m 0 w' → Q (.inl (some (.double (FP.ddiv (FP.i2d (iI (m 4))) (FP.i2d (iI (ifM m))))))) w' im) : GM E 1 y_M_meanRides m_M_meanRides 0 0 [.ref (gad E 62)] w im Q := by
  obtain ⟨hn, u2, u3⟩ := id hm
  have k2 : g_cell E w im (gad E 62) _ := g_mut 62 (by omega) u2
  have k3 : g_cell E w im (gad E 63) _ := g_mut 63 (by omega) u3
  obtain ⟨z0, z1, z2, z3, z4, z5, z6, z7, z8, z9⟩ := id ok
  refine g_enter (by decide) rfl rfl (fun h => by first | rfl | cases h) (Nat.le_of_ble_eq_true rfl) rfl ?_
  refine g_aload_n (n := 0) (i := 0) rfl rfl d_M_meanRides_0 ?_
  refine g_iconst_i d_M_meanRides_1 ?_
  refine g_putA 9 6 62 (by omega) u2 f_M_33 (Or.inl rfl) (by rfl) (by rfl) (Nat.le_of_ble_eq_true rfl) d_M_meanRides_2 (fun w hs hn9 => ?_)
  have hth := hm.th (t := 0) hs hn9
  have hm0 := hm
  have hm := hth.1
  obtain ⟨hn, u2, u3⟩ := id hm
  have k2 : g_cell E w im (gad E 62) _ := g_mut 62 (by omega) u2
  have k3 : g_cell E w im (gad E 63) _ := g_mut 63 (by omega) u3
  refine g_iconst_i d_M_meanRides_5 ?_
  refine g_istore_n (n := 1) (i := 1) rfl (by decide) rfl d_M_meanRides_6 ?_
  refine g_iconst_i d_M_meanRides_7 ?_
  refine g_istore_n (n := 2) (i := 2) rfl (by decide) rfl d_M_meanRides_8 ?_
  have hth0 := hth
  have hn90 := hn9
  have loop : ∀ (n9 : Nat) (k9 s9 : Int), 0 ≤ k9 → k9 + n9 = m 3 → s9 = sumZ (fun k9 => if m (461 + 5 * k9 + 1) = 2 then 0 else 1) k9 → G E 1 m_M_meanRides 9 [(0, .ref (gad E 62)), (1, .int (iI s9)), (2, .int (iI k9))] [] w im 0 0 Q := by
    intro n9
    induction n9 with
    | zero =>
      intro k9 s9 h9 hk9 hs9
      have e9 : k9 = m 3 := by omega
      rw [e9] at hs9
      have es : s9 = ifM m := hs9
      have hif := ifM_rng z3
      refine g_iload_n (n := 2) (i := 2) rfl rfl d_M_meanRides_9 ?_
      refine g_aload_n (n := 0) (i := 0) rfl rfl d_M_meanRides_10 ?_
      refine g_getfield 9 0 f_M_9 (by assumption) (by rfl) d_M_meanRides_11 ?_
      refine g_iconst_i d_M_meanRides_14 ?_
      refine g_iaload_i (by assumption) (by omega) (by omega) (by rfl) d_M_meanRides_15 ?_
      refine g_icmp_ge_i (tgt := 43) (by omega) (by omega) d_M_meanRides_16 (by decide) (fun h16 => ?_) (fun h => by exfalso; omega)
      refine g_iload_n (n := 1) (i := 1) rfl rfl d_M_meanRides_43 ?_
      refine g_if_ne_i (tgt := 54) (by omega) d_M_meanRides_44 (by decide) (fun h44 => ?_) (fun h44 => ?_)
      · refine g_aload_n (n := 0) (i := 0) rfl rfl d_M_meanRides_54 ?_
        refine g_getfield 9 0 f_M_9 (by assumption) (by rfl) d_M_meanRides_55 ?_
        refine g_iconst_i d_M_meanRides_58 ?_
        refine g_iaload_i (by assumption) (by omega) (by omega) (by rfl) d_M_meanRides_59 ?_
        refine g_i2d d_M_meanRides_60 ?_
        refine g_iload_n (n := 1) (i := 1) rfl rfl d_M_meanRides_61 ?_
        refine g_i2d d_M_meanRides_62 ?_
        refine g_ddiv (nn_ddiv (fun h => by rw [iI_0, iI_eq (by omega) (by omega)] at h; omega)) d_M_meanRides_63 ?_
        refine g_dreturn rfl d_M_meanRides_64 ?_
        rw [es]
        exact hQ2 (by omega) _ ⟨_, hm, hth.2.1, hth.2.2, hn9⟩
      · refine g_aload_n (n := 0) (i := 0) rfl rfl d_M_meanRides_47 ?_
        refine g_iconst_i d_M_meanRides_48 ?_
        refine g_putA 9 6 62 (by omega) u2 f_M_33 (Or.inl rfl) (by rfl) (by rfl) (Nat.le_of_ble_eq_true rfl) d_M_meanRides_49 (fun w hs hn9 => ?_)
        have hth := hm.th (t := 1) hs hn9
        have hm0 := hm
        have hm := hth.1
        obtain ⟨hn, u2, u3⟩ := id hm
        have k2 : g_cell E w im (gad E 62) _ := g_mut 62 (by omega) u2
        have k3 : g_cell E w im (gad E 63) _ := g_mut 63 (by omega) u3
        refine g_dconst0 d_M_meanRides_52 ?_
        refine g_dreturn rfl d_M_meanRides_53 ?_
        exact hQ1 (by omega) _ ⟨_, hm, hth.2.1, fun i hi => (hth.2.2 i hi).trans (hth0.2.2 i hi), fun j hj => (hn9 j hj).trans (hn90 j hj)⟩
    | succ n9 ih =>
      intro k9 s9 h9 hk9 hs9
      have hlt : k9 < m 3 := by omega
      have zi := z8 k9 ⟨h9, hlt⟩
      refine g_iload_n (n := 2) (i := 2) rfl rfl d_M_meanRides_9 ?_
      refine g_aload_n (n := 0) (i := 0) rfl rfl d_M_meanRides_10 ?_
      refine g_getfield 9 0 f_M_9 (by assumption) (by rfl) d_M_meanRides_11 ?_
      refine g_iconst_i d_M_meanRides_14 ?_
      refine g_iaload_i (by assumption) (by omega) (by omega) (by rfl) d_M_meanRides_15 ?_
      refine g_icmp_ge_i (tgt := 43) (by omega) (by omega) d_M_meanRides_16 (by decide) (fun h => by exfalso; omega) (fun h16 => ?_)
      refine g_iload_n (n := 1) (i := 1) rfl rfl d_M_meanRides_19 ?_
      refine g_aload_n (n := 0) (i := 0) rfl rfl d_M_meanRides_20 ?_
      refine g_iload_n (n := 2) (i := 2) rfl rfl d_M_meanRides_21 ?_
      refine g_iconst_i d_M_meanRides_22 ?_
      refine g_callV2 rfl rfl e_M_c l_M_90 iv_M_c 9 (by decide) rfl (by assumption) (by decide) (Nat.zero_le _) (Nat.zero_le _) (Nat.le_of_ble_eq_true rfl) d_M_meanRides_23 (c_M_c hm (by omega) (by omega) ?_)
      refine g_ret ?_
      refine g_iconst_i d_M_meanRides_26 ?_
      refine g_icmp_ne_i (tgt := 34) (by omega) (by decide) d_M_meanRides_27 (by decide) (fun h27 => ?_) (fun h27 => ?_)
      · refine g_iconst_i d_M_meanRides_34 ?_
        refine g_iadd_i d_M_meanRides_35 ?_
        refine g_istore_n (n := 1) (i := 1) rfl (by decide) rfl d_M_meanRides_36 ?_
        refine g_iinc_i (i := 2) rfl (by decide) rfl d_M_meanRides_37 ?_
        refine g_goto (tgt := 9) (by decide) d_M_meanRides_40 ?_
        exact g_cut (lv' := [(0, .ref (gad E 62)), (1, .int (iI _)), (2, .int (iI (k9 + 1)))]) ⟨rfl, rfl, rfl, trivial⟩ (ih (k9 + 1) _ (by omega) (by omega) (by rw [sumZ_s (by omega), hs9]; first | (rw [if_pos (by assumption)]; done) | (rw [if_neg (by assumption)]; done) | (rw [if_pos (by omega)]; done) | (rw [if_neg (by omega)]; done)))
      · refine g_iconst_i d_M_meanRides_30 ?_
        refine g_goto (tgt := 35) (by decide) d_M_meanRides_31 ?_
        refine g_iadd_i d_M_meanRides_35 ?_
        refine g_istore_n (n := 1) (i := 1) rfl (by decide) rfl d_M_meanRides_36 ?_
        refine g_iinc_i (i := 2) rfl (by decide) rfl d_M_meanRides_37 ?_
        refine g_goto (tgt := 9) (by decide) d_M_meanRides_40 ?_
        exact g_cut (lv' := [(0, .ref (gad E 62)), (1, .int (iI _)), (2, .int (iI (k9 + 1)))]) ⟨rfl, rfl, rfl, trivial⟩ (ih (k9 + 1) _ (by omega) (by omega) (by rw [sumZ_s (by omega), hs9]; first | (rw [if_pos (by assumption)]; done) | (rw [if_neg (by assumption)]; done) | (rw [if_pos (by omega)]; done) | (rw [if_neg (by omega)]; done)))
  refine g_cut ?_ (loop (m 3).toNat 0 0 (by omega) (by omega) rfl)
  exact ⟨rfl, rfl, rfl, trivial⟩

def cmM (m : Int → Int) : Int := 480 * (m 0 / 1440) + (if m 0 % 1440 - 480 < 0 then 0 else if 480 < m 0 % 1440 - 480 then 480 else m 0 % 1440 - 480)
def ciM (m : Int → Int) (x : Int) : Int := sumZ (fun k9 => m (5 + 34 * x + (3 + k9))) 31

theorem c_M_closedShare {E : gE} {w : gW} {im : gIm} {Q : gQ} {f : Nat → Int} {m : Int → Int} (hm : MR E w f m) (ok : okM m) {x : Int} (rx : -2147483648 ≤ x ∧ x < 2147483648) (hQ1 : ¬ (0 ≤ x ∧ x < m 1) → ∀ w', MTh E w f m 1 w' → Q (.inl (some (.float FP.fconst0))) w' im) (hQ2 : (0 ≤ x ∧ x < m 1) → cmM m = 0 → ∀ w', MTh E w f m 2 w' → Q (.inl (some (.float FP.fconst0))) w' im) (hQ3 : (0 ≤ x ∧ x < m 1) → cmM m ≠ 0 → ∀ w', MTh E w f m 0 w' → Q (.inl (some (.float (FP.fdiv (FP.i2f (iI (ciM m x))) (FP.i2f (iI (cmM m))))))) w' im) : GM E 3 y_M_closedShare m_M_closedShare 0 0 [.ref (gad E 62), .int (iI x)] w im Q := by
  obtain ⟨hn, u2, u3⟩ := id hm
  have k2 : g_cell E w im (gad E 62) _ := g_mut 62 (by omega) u2
  have k3 : g_cell E w im (gad E 63) _ := g_mut 63 (by omega) u3
  obtain ⟨z0, z1, z2, z3, z4, z5, z6, z7, z8, z9⟩ := id ok
  refine g_enter (by decide) rfl rfl (fun h => by first | rfl | cases h) (Nat.le_of_ble_eq_true rfl) rfl ?_
  refine g_aload_n (n := 0) (i := 0) rfl rfl d_M_closedShare_0 ?_
  refine g_aload_n (n := 0) (i := 0) rfl rfl d_M_closedShare_1 ?_
  refine g_iload_n (n := 1) (i := 1) rfl rfl d_M_closedShare_2 ?_
  refine g_callV1 rfl rfl e_M_isGate l_M_69 iv_M_isGate 9 (by decide) rfl (by assumption) (by decide) (Nat.zero_le _) (Nat.zero_le _) (Nat.le_of_ble_eq_true rfl) d_M_closedShare_3 (c_M_isGate hm ok rx (fun hA => ?_) (fun hA => ?_))
  · refine g_ret ?_
    refine g_if_eq_i (tgt := 13) (by decide) d_M_closedShare_6 (by decide) (fun h => absurd h (by decide)) (fun h6 => ?_)
    refine g_iconst_i d_M_closedShare_9 ?_
    refine g_goto (tgt := 14) (by decide) d_M_closedShare_10 ?_
    refine g_putA 9 6 62 (by omega) u2 f_M_33 (Or.inl rfl) (by rfl) (by rfl) (Nat.le_of_ble_eq_true rfl) d_M_closedShare_14 (fun w hs hn9 => ?_)
    have hth := hm.th (t := 0) hs hn9
    have hm0 := hm
    have hm := hth.1
    obtain ⟨hn, u2, u3⟩ := id hm
    have k2 : g_cell E w im (gad E 62) _ := g_mut 62 (by omega) u2
    have k3 : g_cell E w im (gad E 63) _ := g_mut 63 (by omega) u3
    refine g_aload_n (n := 0) (i := 0) rfl rfl d_M_closedShare_17 ?_
    refine g_getfield 9 6 f_M_33 k2 (by rfl) d_M_closedShare_18 ?_
    rw [hth.2.1]
    refine g_if_eq_i (tgt := 26) (by decide) d_M_closedShare_21 (by decide) (fun h21 => ?_) (fun h => absurd h (by decide))
    refine g_sipush_i (by decide) d_M_closedShare_26 ?_
    refine g_aload_n (n := 0) (i := 0) rfl rfl d_M_closedShare_29 ?_
    refine g_callV0 rfl rfl e_M_today l_M_76 iv_M_today 9 (by decide) rfl (by assumption) (by decide) (Nat.zero_le _) (Nat.zero_le _) (Nat.le_of_ble_eq_true rfl) d_M_closedShare_30 (c_M_today hm ok ?_)
    refine g_ret ?_
    refine g_imul_i d_M_closedShare_33 ?_
    refine g_istore_n (n := 2) (i := 2) rfl (by decide) rfl d_M_closedShare_34 ?_
    refine g_aload_n (n := 0) (i := 0) rfl rfl d_M_closedShare_35 ?_
    refine g_getfield 9 0 f_M_9 (by assumption) (by rfl) d_M_closedShare_36 ?_
    refine g_iconst_i d_M_closedShare_39 ?_
    refine g_iaload_i k3 (by omega) (by omega) (by rfl) d_M_closedShare_40 ?_
    refine g_sipush_i (by decide) d_M_closedShare_41 ?_
    refine g_irem_i (by omega) (by omega) d_M_closedShare_44 ?_
    refine g_sipush_i (by decide) d_M_closedShare_45 ?_
    refine g_isub_i d_M_closedShare_48 ?_
    refine g_istore_n (n := 3) (i := 3) rfl (by decide) rfl d_M_closedShare_49 ?_
    refine g_iload_n (n := 2) (i := 2) rfl rfl d_M_closedShare_50 ?_
    refine g_iload_n (n := 3) (i := 3) rfl rfl d_M_closedShare_51 ?_
    refine g_if_ge_i (tgt := 59) (by omega) d_M_closedShare_52 (by decide) (fun h52 => ?_) (fun h52 => ?_)
    · refine g_iload_n (n := 3) (i := 3) rfl rfl d_M_closedShare_59 ?_
      refine g_sipush_i (by decide) d_M_closedShare_60 ?_
      refine g_icmp_le_i (tgt := 72) (by omega) (by decide) d_M_closedShare_63 (by decide) (fun h63 => ?_) (fun h63 => ?_)
      · refine g_iload_n (n := 3) (i := 3) rfl rfl d_M_closedShare_72 ?_
        refine g_iadd_i d_M_closedShare_73 ?_
        refine g_istore_n (n := 2) (i := 2) rfl (by decide) rfl d_M_closedShare_74 ?_
        have hcm : cmM m = ((480 * (m 0 / 1440)) + ((m 0 % 1440) - 480)) := by unfold cmM; first | (rw [if_pos (by omega)]; done) | (rw [if_neg (by omega), if_pos (by omega)]; done) | (rw [if_neg (by omega), if_neg (by omega)]; done)
        refine g_iload_n (n := 2) (i := 2) rfl rfl d_M_closedShare_75 ?_
        refine g_if_ne_i (tgt := 86) (by omega) d_M_closedShare_76 (by decide) (fun h76 => ?_) (fun h76 => ?_)
        · refine g_aload_n (n := 0) (i := 0) rfl rfl d_M_closedShare_86 ?_
          refine g_iload_n (n := 1) (i := 1) rfl rfl d_M_closedShare_87 ?_
          refine g_callV1 rfl rfl e_M_closedInAll l_M_80 iv_M_closedInAll 9 (by decide) rfl (by assumption) (by decide) (Nat.zero_le _) (Nat.zero_le _) (Nat.le_of_ble_eq_true rfl) d_M_closedShare_88 (c_M_closedInAll hm ok (by omega) ?_)
          refine g_ret ?_
          refine g_i2f d_M_closedShare_91 ?_
          refine g_iload_n (n := 2) (i := 2) rfl rfl d_M_closedShare_92 ?_
          refine g_i2f d_M_closedShare_93 ?_
          refine g_fdiv (nn_fdiv (fun h => by rw [iI_0, iI_eq (by omega) (by omega)] at h; omega)) d_M_closedShare_94 ?_
          refine g_freturn rfl d_M_closedShare_95 ?_
          rw [← hcm]
          exact hQ3 hA (by omega) _ ⟨_, hm, hth.2.1, hth.2.2, hn9⟩
        · refine g_aload_n (n := 0) (i := 0) rfl rfl d_M_closedShare_79 ?_
          refine g_iconst_i d_M_closedShare_80 ?_
          have hth0 := hth
          have hn90 := hn9
          refine g_putA 9 6 62 (by omega) u2 f_M_33 (Or.inl rfl) (by rfl) (by rfl) (Nat.le_of_ble_eq_true rfl) d_M_closedShare_81 (fun w hs hn9 => ?_)
          have hth := hm.th (t := 2) hs hn9
          have hm0 := hm
          have hm := hth.1
          obtain ⟨hn, u2, u3⟩ := id hm
          have k2 : g_cell E w im (gad E 62) _ := g_mut 62 (by omega) u2
          have k3 : g_cell E w im (gad E 63) _ := g_mut 63 (by omega) u3
          refine g_fconst0 d_M_closedShare_84 ?_
          refine g_freturn rfl d_M_closedShare_85 ?_
          exact hQ2 hA (by omega) _ ⟨_, hm, hth.2.1, fun i hi => (hth.2.2 i hi).trans (hth0.2.2 i hi), fun j hj => (hn9 j hj).trans (hn90 j hj)⟩
      · refine g_sipush_i (by decide) d_M_closedShare_66 ?_
        refine g_goto (tgt := 73) (by decide) d_M_closedShare_69 ?_
        refine g_iadd_i d_M_closedShare_73 ?_
        refine g_istore_n (n := 2) (i := 2) rfl (by decide) rfl d_M_closedShare_74 ?_
        have hcm : cmM m = ((480 * (m 0 / 1440)) + 480) := by unfold cmM; first | (rw [if_pos (by omega)]; done) | (rw [if_neg (by omega), if_pos (by omega)]; done) | (rw [if_neg (by omega), if_neg (by omega)]; done)
        refine g_iload_n (n := 2) (i := 2) rfl rfl d_M_closedShare_75 ?_
        refine g_if_ne_i (tgt := 86) (by omega) d_M_closedShare_76 (by decide) (fun h76 => ?_) (fun h76 => ?_)
        · refine g_aload_n (n := 0) (i := 0) rfl rfl d_M_closedShare_86 ?_
          refine g_iload_n (n := 1) (i := 1) rfl rfl d_M_closedShare_87 ?_
          refine g_callV1 rfl rfl e_M_closedInAll l_M_80 iv_M_closedInAll 9 (by decide) rfl (by assumption) (by decide) (Nat.zero_le _) (Nat.zero_le _) (Nat.le_of_ble_eq_true rfl) d_M_closedShare_88 (c_M_closedInAll hm ok (by omega) ?_)
          refine g_ret ?_
          refine g_i2f d_M_closedShare_91 ?_
          refine g_iload_n (n := 2) (i := 2) rfl rfl d_M_closedShare_92 ?_
          refine g_i2f d_M_closedShare_93 ?_
          refine g_fdiv (nn_fdiv (fun h => by rw [iI_0, iI_eq (by omega) (by omega)] at h; omega)) d_M_closedShare_94 ?_
          refine g_freturn rfl d_M_closedShare_95 ?_
          rw [← hcm]
          exact hQ3 hA (by omega) _ ⟨_, hm, hth.2.1, hth.2.2, hn9⟩
        · refine g_aload_n (n := 0) (i := 0) rfl rfl d_M_closedShare_79 ?_
          refine g_iconst_i d_M_closedShare_80 ?_
          have hth0 := hth
          have hn90 := hn9
          refine g_putA 9 6 62 (by omega) u2 f_M_33 (Or.inl rfl) (by rfl) (by rfl) (Nat.le_of_ble_eq_true rfl) d_M_closedShare_81 (fun w hs hn9 => ?_)
          have hth := hm.th (t := 2) hs hn9
          have hm0 := hm
          have hm := hth.1
          obtain ⟨hn, u2, u3⟩ := id hm
          have k2 : g_cell E w im (gad E 62) _ := g_mut 62 (by omega) u2
          have k3 : g_cell E w im (gad E 63) _ := g_mut 63 (by omega) u3
          refine g_fconst0 d_M_closedShare_84 ?_
          refine g_freturn rfl d_M_closedShare_85 ?_
          exact hQ2 hA (by omega) _ ⟨_, hm, hth.2.1, fun i hi => (hth.2.2 i hi).trans (hth0.2.2 i hi), fun j hj => (hn9 j hj).trans (hn90 j hj)⟩
    · refine g_iconst_i d_M_closedShare_55 ?_
      refine g_goto (tgt := 73) (by decide) d_M_closedShare_56 ?_
      refine g_iadd_i d_M_closedShare_73 ?_
      refine g_istore_n (n := 2) (i := 2) rfl (by decide) rfl d_M_closedShare_74 ?_
      have hcm : cmM m = ((480 * (m 0 / 1440)) + 0) := by unfold cmM; first | (rw [if_pos (by omega)]; done) | (rw [if_neg (by omega), if_pos (by omega)]; done) | (rw [if_neg (by omega), if_neg (by omega)]; done)
      refine g_iload_n (n := 2) (i := 2) rfl rfl d_M_closedShare_75 ?_
      refine g_if_ne_i (tgt := 86) (by omega) d_M_closedShare_76 (by decide) (fun h76 => ?_) (fun h76 => ?_)
      · refine g_aload_n (n := 0) (i := 0) rfl rfl d_M_closedShare_86 ?_
        refine g_iload_n (n := 1) (i := 1) rfl rfl d_M_closedShare_87 ?_
        refine g_callV1 rfl rfl e_M_closedInAll l_M_80 iv_M_closedInAll 9 (by decide) rfl (by assumption) (by decide) (Nat.zero_le _) (Nat.zero_le _) (Nat.le_of_ble_eq_true rfl) d_M_closedShare_88 (c_M_closedInAll hm ok (by omega) ?_)
        refine g_ret ?_
        refine g_i2f d_M_closedShare_91 ?_
        refine g_iload_n (n := 2) (i := 2) rfl rfl d_M_closedShare_92 ?_
        refine g_i2f d_M_closedShare_93 ?_
        refine g_fdiv (nn_fdiv (fun h => by rw [iI_0, iI_eq (by omega) (by omega)] at h; omega)) d_M_closedShare_94 ?_
        refine g_freturn rfl d_M_closedShare_95 ?_
        rw [← hcm]
        exact hQ3 hA (by omega) _ ⟨_, hm, hth.2.1, hth.2.2, hn9⟩
      · refine g_aload_n (n := 0) (i := 0) rfl rfl d_M_closedShare_79 ?_
        refine g_iconst_i d_M_closedShare_80 ?_
        have hth0 := hth
        have hn90 := hn9
        refine g_putA 9 6 62 (by omega) u2 f_M_33 (Or.inl rfl) (by rfl) (by rfl) (Nat.le_of_ble_eq_true rfl) d_M_closedShare_81 (fun w hs hn9 => ?_)
        have hth := hm.th (t := 2) hs hn9
        have hm0 := hm
        have hm := hth.1
        obtain ⟨hn, u2, u3⟩ := id hm
        have k2 : g_cell E w im (gad E 62) _ := g_mut 62 (by omega) u2
        have k3 : g_cell E w im (gad E 63) _ := g_mut 63 (by omega) u3
        refine g_fconst0 d_M_closedShare_84 ?_
        refine g_freturn rfl d_M_closedShare_85 ?_
        exact hQ2 hA (by omega) _ ⟨_, hm, hth.2.1, fun i hi => (hth.2.2 i hi).trans (hth0.2.2 i hi), fun j hj => (hn9 j hj).trans (hn90 j hj)⟩
  · refine g_ret ?_
    refine g_if_eq_i (tgt := 13) (by decide) d_M_closedShare_6 (by decide) (fun h6 => ?_) (fun h => absurd h (by decide))
    refine g_iconst_i d_M_closedShare_13 ?_
    refine g_putA 9 6 62 (by omega) u2 f_M_33 (Or.inl rfl) (by rfl) (by rfl) (Nat.le_of_ble_eq_true rfl) d_M_closedShare_14 (fun w hs hn9 => ?_)
    have hth := hm.th (t := 1) hs hn9
    have hm0 := hm
    have hm := hth.1
    obtain ⟨hn, u2, u3⟩ := id hm
    have k2 : g_cell E w im (gad E 62) _ := g_mut 62 (by omega) u2
    have k3 : g_cell E w im (gad E 63) _ := g_mut 63 (by omega) u3
    refine g_aload_n (n := 0) (i := 0) rfl rfl d_M_closedShare_17 ?_
    refine g_getfield 9 6 f_M_33 k2 (by rfl) d_M_closedShare_18 ?_
    rw [hth.2.1]
    refine g_if_eq_i (tgt := 26) (by decide) d_M_closedShare_21 (by decide) (fun h => absurd h (by decide)) (fun h21 => ?_)
    refine g_fconst0 d_M_closedShare_24 ?_
    refine g_freturn rfl d_M_closedShare_25 ?_
    exact hQ1 hA _ ⟨_, hm, hth.2.1, hth.2.2, hn9⟩

