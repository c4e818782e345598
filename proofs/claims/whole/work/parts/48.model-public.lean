/-! ===== the reference: errorPosition, refusedOrder, refusal ===== -/
def gNum (x : Int) : Int × Int := if x = -1 then (1, 0) else (0, x)
def gRfs (r i : Int) : Int × Int := if r = 0 then (1, 0) else if 0 ≤ i ∧ i ≤ (if r = 11 then 2 else if r < 30 then 3 else 4) - 1 then (if i = (if r = 11 then 2 else if r < 30 then 3 else 4) - 1 then (0, r) else if i < 2 then (0, i + 1) else (0, if r < 40 then 3 else 4)) else (2, 0)

theorem c_M_errorPosition {E : gE} {w : gW} {im : gIm} {Q : gQ} {f : Nat → Int} {m : Int → Int} (hm : MR E w f m) (r8 : -1 ≤ f 8 ∧ f 8 ≤ 60) (hQ : ∀ t r w', (t, r) = gNum (f 8) → MTh E w f m t w' → Q (oV r) w' im) : GM E 0 y_M_errorPosition m_M_errorPosition 0 0 [.ref (gad E 62)] w im Q := by
  obtain ⟨hn, u2, u3⟩ := id hm
  have k2 : g_cell E w im (gad E 62) _ := g_mut 62 (by omega) u2
  have k3 : g_cell E w im (gad E 63) _ := g_mut 63 (by omega) u3
  refine g_enter (by decide) rfl rfl (fun h => by first | rfl | cases h) (Nat.le_of_ble_eq_true rfl) rfl ?_
  refine g_aload_n (n := 0) (i := 0) rfl rfl d_M_errorPosition_0 ?_
  refine g_aload_n (n := 0) (i := 0) rfl rfl d_M_errorPosition_1 ?_
  refine g_getfield 9 8 f_M_22 (by assumption) (by rfl) d_M_errorPosition_2 ?_
  refine g_iconst_i d_M_errorPosition_5 ?_
  refine g_icmp_ne_i (tgt := 13) (by omega) (by decide) d_M_errorPosition_6 (by decide) (fun h6 => ?_) (fun h6 => ?_)
  · refine g_iconst_i d_M_errorPosition_13 ?_
    refine g_putA 9 6 62 (by omega) u2 f_M_33 (Or.inl rfl) (by rfl) (by rfl) (Nat.le_of_ble_eq_true rfl) d_M_errorPosition_14 (fun w hs hn9 => ?_)
    have hth := hm.th (t := 0) hs hn9
    have hm0 := hm
    have hm := hth.1
    obtain ⟨hn, u2, u3⟩ := id hm
    have k2 : g_cell E w im (gad E 62) _ := g_mut 62 (by omega) u2
    have k3 : g_cell E w im (gad E 63) _ := g_mut 63 (by omega) u3
    refine g_aload_n (n := 0) (i := 0) rfl rfl d_M_errorPosition_17 ?_
    refine g_getfield 9 6 f_M_33 k2 (by rfl) d_M_errorPosition_18 ?_
    rw [hth.2.1]
    refine g_if_ne_i (tgt := 31) (by decide) d_M_errorPosition_21 (by decide) (fun h => absurd h (by decide)) (fun h21 => ?_)
    refine g_aload_n (n := 0) (i := 0) rfl rfl d_M_errorPosition_24 ?_
    refine g_getfield 9 8 f_M_22 k2 (by rfl) d_M_errorPosition_25 ?_
    rw [hth.2.2 8 (by decide)]
    refine g_goto (tgt := 32) (by decide) d_M_errorPosition_28 ?_
    refine g_ireturn_i rfl d_M_errorPosition_32 ?_
    exact hQ _ _ _ (by unfold gNum; first | (rw [if_pos (by omega)]; done) | (rw [if_neg (by omega)]; done)) ⟨_, hm, hth.2.1, hth.2.2, hn9⟩
  · refine g_iconst_i d_M_errorPosition_9 ?_
    refine g_goto (tgt := 14) (by decide) d_M_errorPosition_10 ?_
    refine g_putA 9 6 62 (by omega) u2 f_M_33 (Or.inl rfl) (by rfl) (by rfl) (Nat.le_of_ble_eq_true rfl) d_M_errorPosition_14 (fun w hs hn9 => ?_)
    have hth := hm.th (t := 1) hs hn9
    have hm0 := hm
    have hm := hth.1
    obtain ⟨hn, u2, u3⟩ := id hm
    have k2 : g_cell E w im (gad E 62) _ := g_mut 62 (by omega) u2
    have k3 : g_cell E w im (gad E 63) _ := g_mut 63 (by omega) u3
    refine g_aload_n (n := 0) (i := 0) rfl rfl d_M_errorPosition_17 ?_
    refine g_getfield 9 6 f_M_33 k2 (by rfl) d_M_errorPosition_18 ?_
    rw [hth.2.1]
    refine g_if_ne_i (tgt := 31) (by decide) d_M_errorPosition_21 (by decide) (fun h21 => ?_) (fun h => absurd h (by decide))
    refine g_iconst_i d_M_errorPosition_31 ?_
    refine g_ireturn_i rfl d_M_errorPosition_32 ?_
    exact hQ _ _ _ (by unfold gNum; first | (rw [if_pos (by omega)]; done) | (rw [if_neg (by omega)]; done)) ⟨_, hm, hth.2.1, hth.2.2, hn9⟩

theorem c_M_refusedOrder {E : gE} {w : gW} {im : gIm} {Q : gQ} {f : Nat → Int} {m : Int → Int} (hm : MR E w f m) (r8 : -1 ≤ f 9 ∧ f 9 ≤ 60) (hQ : ∀ t r w', (t, r) = gNum (f 9) → MTh E w f m t w' → Q (oV r) w' im) : GM E 0 y_M_refusedOrder m_M_refusedOrder 0 0 [.ref (gad E 62)] w im Q := by
  obtain ⟨hn, u2, u3⟩ := id hm
  have k2 : g_cell E w im (gad E 62) _ := g_mut 62 (by omega) u2
  have k3 : g_cell E w im (gad E 63) _ := g_mut 63 (by omega) u3
  refine g_enter (by decide) rfl rfl (fun h => by first | rfl | cases h) (Nat.le_of_ble_eq_true rfl) rfl ?_
  refine g_aload_n (n := 0) (i := 0) rfl rfl d_M_refusedOrder_0 ?_
  refine g_aload_n (n := 0) (i := 0) rfl rfl d_M_refusedOrder_1 ?_
  refine g_getfield 9 9 f_M_26 (by assumption) (by rfl) d_M_refusedOrder_2 ?_
  refine g_iconst_i d_M_refusedOrder_5 ?_
  refine g_icmp_ne_i (tgt := 13) (by omega) (by decide) d_M_refusedOrder_6 (by decide) (fun h6 => ?_) (fun h6 => ?_)
  · refine g_iconst_i d_M_refusedOrder_13 ?_
    refine g_putA 9 6 62 (by omega) u2 f_M_33 (Or.inl rfl) (by rfl) (by rfl) (Nat.le_of_ble_eq_true rfl) d_M_refusedOrder_14 (fun w hs hn9 => ?_)
    have hth := hm.th (t := 0) hs hn9
    have hm0 := hm
    have hm := hth.1
    obtain ⟨hn, u2, u3⟩ := id hm
    have k2 : g_cell E w im (gad E 62) _ := g_mut 62 (by omega) u2
    have k3 : g_cell E w im (gad E 63) _ := g_mut 63 (by omega) u3
    refine g_aload_n (n := 0) (i := 0) rfl rfl d_M_refusedOrder_17 ?_
    refine g_getfield 9 6 f_M_33 k2 (by rfl) d_M_refusedOrder_18 ?_
    rw [hth.2.1]
    refine g_if_ne_i (tgt := 31) (by decide) d_M_refusedOrder_21 (by decide) (fun h => absurd h (by decide)) (fun h21 => ?_)
    refine g_aload_n (n := 0) (i := 0) rfl rfl d_M_refusedOrder_24 ?_
    refine g_getfield 9 9 f_M_26 k2 (by rfl) d_M_refusedOrder_25 ?_
    rw [hth.2.2 9 (by decide)]
    refine g_goto (tgt := 32) (by decide) d_M_refusedOrder_28 ?_
    refine g_ireturn_i rfl d_M_refusedOrder_32 ?_
    exact hQ _ _ _ (by unfold gNum; first | (rw [if_pos (by omega)]; done) | (rw [if_neg (by omega)]; done)) ⟨_, hm, hth.2.1, hth.2.2, hn9⟩
  · refine g_iconst_i d_M_refusedOrder_9 ?_
    refine g_goto (tgt := 14) (by decide) d_M_refusedOrder_10 ?_
    refine g_putA 9 6 62 (by omega) u2 f_M_33 (Or.inl rfl) (by rfl) (by rfl) (Nat.le_of_ble_eq_true rfl) d_M_refusedOrder_14 (fun w hs hn9 => ?_)
    have hth := hm.th (t := 1) hs hn9
    have hm0 := hm
    have hm := hth.1
    obtain ⟨hn, u2, u3⟩ := id hm
    have k2 : g_cell E w im (gad E 62) _ := g_mut 62 (by omega) u2
    have k3 : g_cell E w im (gad E 63) _ := g_mut 63 (by omega) u3
    refine g_aload_n (n := 0) (i := 0) rfl rfl d_M_refusedOrder_17 ?_
    refine g_getfield 9 6 f_M_33 k2 (by rfl) d_M_refusedOrder_18 ?_
    rw [hth.2.1]
    refine g_if_ne_i (tgt := 31) (by decide) d_M_refusedOrder_21 (by decide) (fun h21 => ?_) (fun h => absurd h (by decide))
    refine g_iconst_i d_M_refusedOrder_31 ?_
    refine g_ireturn_i rfl d_M_refusedOrder_32 ?_
    exact hQ _ _ _ (by unfold gNum; first | (rw [if_pos (by omega)]; done) | (rw [if_neg (by omega)]; done)) ⟨_, hm, hth.2.1, hth.2.2, hn9⟩

theorem c_M_refusal {E : gE} {w : gW} {im : gIm} {Q : gQ} {f : Nat → Int} {m : Int → Int} (hm : MR E w f m) {x : Int} (rx : -2147483648 ≤ x ∧ x < 2147483648) (r7 : 0 ≤ f 7 ∧ f 7 ≤ 42) (hQ : ∀ t r w', (t, r) = gRfs (f 7) x → MTh E w f m t w' → Q (oV r) w' im) : GM E 1 y_M_refusal m_M_refusal 0 0 [.ref (gad E 62), .int (iI x)] w im Q := by
  obtain ⟨hn, u2, u3⟩ := id hm
  have k2 : g_cell E w im (gad E 62) _ := g_mut 62 (by omega) u2
  have k3 : g_cell E w im (gad E 63) _ := g_mut 63 (by omega) u3
  refine g_enter (by decide) rfl rfl (fun h => by first | rfl | cases h) (Nat.le_of_ble_eq_true rfl) rfl ?_
  refine g_aload_n (n := 0) (i := 0) rfl rfl d_M_refusal_0 ?_
  refine g_iconst_i d_M_refusal_1 ?_
  refine g_putA 9 6 62 (by omega) u2 f_M_33 (Or.inl rfl) (by rfl) (by rfl) (Nat.le_of_ble_eq_true rfl) d_M_refusal_2 (fun w hs hn9 => ?_)
  have hth := hm.th (t := 0) hs hn9
  have hm0 := hm
  have hm := hth.1
  obtain ⟨hn, u2, u3⟩ := id hm
  have k2 : g_cell E w im (gad E 62) _ := g_mut 62 (by omega) u2
  have k3 : g_cell E w im (gad E 63) _ := g_mut 63 (by omega) u3
  refine g_aload_n (n := 0) (i := 0) rfl rfl d_M_refusal_5 ?_
  refine g_getfield 9 7 f_M_49 k2 (by rfl) d_M_refusal_6 ?_
  rw [hth.2.2 7 (by decide)]
  refine g_if_ne_i (tgt := 18) (by omega) d_M_refusal_9 (by decide) (fun h9 => ?_) (fun h9 => ?_)
  · refine g_aload_n (n := 0) (i := 0) rfl rfl d_M_refusal_18 ?_
    refine g_getfield 9 7 f_M_49 k2 (by rfl) d_M_refusal_19 ?_
    rw [hth.2.2 7 (by decide)]
    refine g_bipush_i (by decide) d_M_refusal_22 ?_
    refine g_icmp_ne_i (tgt := 31) (by omega) (by decide) d_M_refusal_24 (by decide) (fun h24 => ?_) (fun h24 => ?_)
    · refine g_aload_n (n := 0) (i := 0) rfl rfl d_M_refusal_31 ?_
      refine g_getfield 9 7 f_M_49 k2 (by rfl) d_M_refusal_32 ?_
      rw [hth.2.2 7 (by decide)]
      refine g_bipush_i (by decide) d_M_refusal_35 ?_
      refine g_icmp_ge_i (tgt := 44) (by omega) (by decide) d_M_refusal_37 (by decide) (fun h37 => ?_) (fun h37 => ?_)
      · refine g_iconst_i d_M_refusal_44 ?_
        refine g_istore_n (n := 2) (i := 2) rfl (by decide) rfl d_M_refusal_45 ?_
        refine g_iload_n (n := 1) (i := 1) rfl rfl d_M_refusal_46 ?_
        refine g_iconst_i d_M_refusal_47 ?_
        refine g_iload_n (n := 2) (i := 2) rfl rfl d_M_refusal_48 ?_
        refine g_iconst_i d_M_refusal_49 ?_
        refine g_isub_i d_M_refusal_50 ?_
        refine g_callS3 rfl rfl e_M_isIn l_M_45 st_M_isIn (by decide) (Nat.zero_le _) (Nat.zero_le _) (Nat.le_of_ble_eq_true rfl) d_M_refusal_51 (c_M_isIn (by omega) (by omega) (by omega) (fun hB => ?_) (fun hB => ?_))
        · refine g_ret ?_
          refine g_if_ne_i (tgt := 63) (by decide) d_M_refusal_54 (by decide) (fun h54 => ?_) (fun h => absurd h (by decide))
          refine g_iload_n (n := 1) (i := 1) rfl rfl d_M_refusal_63 ?_
          refine g_iload_n (n := 2) (i := 2) rfl rfl d_M_refusal_64 ?_
          refine g_iconst_i d_M_refusal_65 ?_
          refine g_isub_i d_M_refusal_66 ?_
          refine g_icmp_ne_i (tgt := 75) (by omega) (by omega) d_M_refusal_67 (by decide) (fun h67 => ?_) (fun h67 => ?_)
          · refine g_iload_n (n := 1) (i := 1) rfl rfl d_M_refusal_75 ?_
            refine g_iconst_i d_M_refusal_76 ?_
            refine g_icmp_ge_i (tgt := 86) (by omega) (by decide) d_M_refusal_77 (by decide) (fun h77 => ?_) (fun h77 => ?_)
            · refine g_aload_n (n := 0) (i := 0) rfl rfl d_M_refusal_86 ?_
              refine g_getfield 9 7 f_M_49 k2 (by rfl) d_M_refusal_87 ?_
              rw [hth.2.2 7 (by decide)]
              refine g_bipush_i (by decide) d_M_refusal_90 ?_
              refine g_icmp_ge_i (tgt := 99) (by omega) (by decide) d_M_refusal_92 (by decide) (fun h92 => ?_) (fun h92 => ?_)
              · refine g_iconst_i d_M_refusal_99 ?_
                refine g_ireturn_i rfl d_M_refusal_100 ?_
                exact hQ _ _ _ (by unfold gRfs; (repeat' split) <;> first | rfl | (exfalso; omega)) ⟨_, hm, hth.2.1, hth.2.2, hn9⟩
              · refine g_iconst_i d_M_refusal_95 ?_
                refine g_goto (tgt := 100) (by decide) d_M_refusal_96 ?_
                refine g_ireturn_i rfl d_M_refusal_100 ?_
                exact hQ _ _ _ (by unfold gRfs; (repeat' split) <;> first | rfl | (exfalso; omega)) ⟨_, hm, hth.2.1, hth.2.2, hn9⟩
            · refine g_iload_n (n := 1) (i := 1) rfl rfl d_M_refusal_80 ?_
              refine g_iconst_i d_M_refusal_81 ?_
              refine g_iadd_i d_M_refusal_82 ?_
              refine g_goto (tgt := 100) (by decide) d_M_refusal_83 ?_
              refine g_ireturn_i rfl d_M_refusal_100 ?_
              exact hQ _ _ _ (by unfold gRfs; (repeat' split) <;> first | rfl | (exfalso; omega)) ⟨_, hm, hth.2.1, hth.2.2, hn9⟩
          · refine g_aload_n (n := 0) (i := 0) rfl rfl d_M_refusal_70 ?_
            refine g_getfield 9 7 f_M_49 k2 (by rfl) d_M_refusal_71 ?_
            rw [hth.2.2 7 (by decide)]
            refine g_ireturn_i rfl d_M_refusal_74 ?_
            exact hQ _ _ _ (by unfold gRfs; (repeat' split) <;> first | rfl | (exfalso; omega)) ⟨_, hm, hth.2.1, hth.2.2, hn9⟩
        · refine g_ret ?_
          refine g_if_ne_i (tgt := 63) (by decide) d_M_refusal_54 (by decide) (fun h => absurd h (by decide)) (fun h54 => ?_)
          refine g_aload_n (n := 0) (i := 0) rfl rfl d_M_refusal_57 ?_
          refine g_iconst_i d_M_refusal_58 ?_
          refine g_callV1 rfl rfl e_M_fail l_M_52 iv_M_fail 9 (by decide) rfl (by assumption) (by decide) (Nat.zero_le _) (Nat.zero_le _) (Nat.le_of_ble_eq_true rfl) d_M_refusal_59 (c_M_fail hm (fun w hF => ?_))
          refine g_ret ?_
          refine g_ireturn_i rfl d_M_refusal_62 ?_
          exact hQ _ _ _ (by unfold gRfs; (repeat' split) <;> first | rfl | (exfalso; omega)) (MTh.trans hth.2.2 hn9 hF)
      · refine g_iconst_i d_M_refusal_40 ?_
        refine g_goto (tgt := 45) (by decide) d_M_refusal_41 ?_
        refine g_istore_n (n := 2) (i := 2) rfl (by decide) rfl d_M_refusal_45 ?_
        refine g_iload_n (n := 1) (i := 1) rfl rfl d_M_refusal_46 ?_
        refine g_iconst_i d_M_refusal_47 ?_
        refine g_iload_n (n := 2) (i := 2) rfl rfl d_M_refusal_48 ?_
        refine g_iconst_i d_M_refusal_49 ?_
        refine g_isub_i d_M_refusal_50 ?_
        refine g_callS3 rfl rfl e_M_isIn l_M_45 st_M_isIn (by decide) (Nat.zero_le _) (Nat.zero_le _) (Nat.le_of_ble_eq_true rfl) d_M_refusal_51 (c_M_isIn (by omega) (by omega) (by omega) (fun hB => ?_) (fun hB => ?_))
        · refine g_ret ?_
          refine g_if_ne_i (tgt := 63) (by decide) d_M_refusal_54 (by decide) (fun h54 => ?_) (fun h => absurd h (by decide))
          refine g_iload_n (n := 1) (i := 1) rfl rfl d_M_refusal_63 ?_
          refine g_iload_n (n := 2) (i := 2) rfl rfl d_M_refusal_64 ?_
          refine g_iconst_i d_M_refusal_65 ?_
          refine g_isub_i d_M_refusal_66 ?_
          refine g_icmp_ne_i (tgt := 75) (by omega) (by omega) d_M_refusal_67 (by decide) (fun h67 => ?_) (fun h67 => ?_)
          · refine g_iload_n (n := 1) (i := 1) rfl rfl d_M_refusal_75 ?_
            refine g_iconst_i d_M_refusal_76 ?_
            refine g_icmp_ge_i (tgt := 86) (by omega) (by decide) d_M_refusal_77 (by decide) (fun h77 => ?_) (fun h77 => ?_)
            · refine g_aload_n (n := 0) (i := 0) rfl rfl d_M_refusal_86 ?_
              refine g_getfield 9 7 f_M_49 k2 (by rfl) d_M_refusal_87 ?_
              rw [hth.2.2 7 (by decide)]
              refine g_bipush_i (by decide) d_M_refusal_90 ?_
              refine g_icmp_ge_i (tgt := 99) (by omega) (by decide) d_M_refusal_92 (by decide) (fun h92 => ?_) (fun h92 => ?_)
              · refine g_iconst_i d_M_refusal_99 ?_
                refine g_ireturn_i rfl d_M_refusal_100 ?_
                exact hQ _ _ _ (by unfold gRfs; (repeat' split) <;> first | rfl | (exfalso; omega)) ⟨_, hm, hth.2.1, hth.2.2, hn9⟩
              · refine g_iconst_i d_M_refusal_95 ?_
                refine g_goto (tgt := 100) (by decide) d_M_refusal_96 ?_
                refine g_ireturn_i rfl d_M_refusal_100 ?_
                exact hQ _ _ _ (by unfold gRfs; (repeat' split) <;> first | rfl | (exfalso; omega)) ⟨_, hm, hth.2.1, hth.2.2, hn9⟩
            · refine g_iload_n (n := 1) (i := 1) rfl rfl d_M_refusal_80 ?_
              refine g_iconst_i d_M_refusal_81 ?_
              refine g_iadd_i d_M_refusal_82 ?_
              refine g_goto (tgt := 100) (by decide) d_M_refusal_83 ?_
              refine g_ireturn_i rfl d_M_refusal_100 ?_
              exact hQ _ _ _ (by unfold gRfs; (repeat' split) <;> first | rfl | (exfalso; omega)) ⟨_, hm, hth.2.1, hth.2.2, hn9⟩
          · refine g_aload_n (n := 0) (i := 0) rfl rfl d_M_refusal_70 ?_
            refine g_getfield 9 7 f_M_49 k2 (by rfl) d_M_refusal_71 ?_
            rw [hth.2.2 7 (by decide)]
            refine g_ireturn_i rfl d_M_refusal_74 ?_
            exact hQ _ _ _ (by unfold gRfs; (repeat' split) <;> first | rfl | (exfalso; omega)) ⟨_, hm, hth.2.1, hth.2.2, hn9⟩
        · refine g_ret ?_
          refine g_if_ne_i (tgt := 63) (by decide) d_M_refusal_54 (by decide) (fun h => absurd h (by decide)) (fun h54 => ?_)
          refine g_aload_n (n := 0) (i := 0) rfl rfl d_M_refusal_57 ?_
          refine g_iconst_i d_M_refusal_58 ?_
          refine g_callV1 rfl rfl e_M_fail l_M_52 iv_M_fail 9 (by decide) rfl (by assumption) (by decide) (Nat.zero_le _) (Nat.zero_le _) (Nat.le_of_ble_eq_true rfl) d_M_refusal_59 (c_M_fail hm (fun w hF => ?_))
          refine g_ret ?_
          refine g_ireturn_i rfl d_M_refusal_62 ?_
          exact hQ _ _ _ (by unfold gRfs; (repeat' split) <;> first | rfl | (exfalso; omega)) (MTh.trans hth.2.2 hn9 hF)
    · refine g_iconst_i d_M_refusal_27 ?_
      refine g_goto (tgt := 45) (by decide) d_M_refusal_28 ?_
      refine g_istore_n (n := 2) (i := 2) rfl (by decide) rfl d_M_refusal_45 ?_
      refine g_iload_n (n := 1) (i := 1) rfl rfl d_M_refusal_46 ?_
      refine g_iconst_i d_M_refusal_47 ?_
      refine g_iload_n (n := 2) (i := 2) rfl rfl d_M_refusal_48 ?_
      refine g_iconst_i d_M_refusal_49 ?_
      refine g_isub_i d_M_refusal_50 ?_
      refine g_callS3 rfl rfl e_M_isIn l_M_45 st_M_isIn (by decide) (Nat.zero_le _) (Nat.zero_le _) (Nat.le_of_ble_eq_true rfl) d_M_refusal_51 (c_M_isIn (by omega) (by omega) (by omega) (fun hB => ?_) (fun hB => ?_))
      · refine g_ret ?_
        refine g_if_ne_i (tgt := 63) (by decide) d_M_refusal_54 (by decide) (fun h54 => ?_) (fun h => absurd h (by decide))
        refine g_iload_n (n := 1) (i := 1) rfl rfl d_M_refusal_63 ?_
        refine g_iload_n (n := 2) (i := 2) rfl rfl d_M_refusal_64 ?_
        refine g_iconst_i d_M_refusal_65 ?_
        refine g_isub_i d_M_refusal_66 ?_
        refine g_icmp_ne_i (tgt := 75) (by omega) (by omega) d_M_refusal_67 (by decide) (fun h67 => ?_) (fun h67 => ?_)
        · refine g_iload_n (n := 1) (i := 1) rfl rfl d_M_refusal_75 ?_
          refine g_iconst_i d_M_refusal_76 ?_
          refine g_icmp_ge_i (tgt := 86) (by omega) (by decide) d_M_refusal_77 (by decide) (fun h77 => ?_) (fun h77 => ?_)
          · refine g_aload_n (n := 0) (i := 0) rfl rfl d_M_refusal_86 ?_
            refine g_getfield 9 7 f_M_49 k2 (by rfl) d_M_refusal_87 ?_
            rw [hth.2.2 7 (by decide)]
            refine g_bipush_i (by decide) d_M_refusal_90 ?_
            refine g_icmp_ge_i (tgt := 99) (by omega) (by decide) d_M_refusal_92 (by decide) (fun h92 => ?_) (fun h92 => ?_)
            · refine g_iconst_i d_M_refusal_99 ?_
              refine g_ireturn_i rfl d_M_refusal_100 ?_
              exact hQ _ _ _ (by unfold gRfs; (repeat' split) <;> first | rfl | (exfalso; omega)) ⟨_, hm, hth.2.1, hth.2.2, hn9⟩
            · refine g_iconst_i d_M_refusal_95 ?_
              refine g_goto (tgt := 100) (by decide) d_M_refusal_96 ?_
              refine g_ireturn_i rfl d_M_refusal_100 ?_
              exact hQ _ _ _ (by unfold gRfs; (repeat' split) <;> first | rfl | (exfalso; omega)) ⟨_, hm, hth.2.1, hth.2.2, hn9⟩
          · refine g_iload_n (n := 1) (i := 1) rfl rfl d_M_refusal_80 ?_
            refine g_iconst_i d_M_refusal_81 ?_
            refine g_iadd_i d_M_refusal_82 ?_
            refine g_goto (tgt := 100) (by decide) d_M_refusal_83 ?_
            refine g_ireturn_i rfl d_M_refusal_100 ?_
            exact hQ _ _ _ (by unfold gRfs; (repeat' split) <;> first | rfl | (exfalso; omega)) ⟨_, hm, hth.2.1, hth.2.2, hn9⟩
        · refine g_aload_n (n := 0) (i := 0) rfl rfl d_M_refusal_70 ?_
          refine g_getfield 9 7 f_M_49 k2 (by rfl) d_M_refusal_71 ?_
          rw [hth.2.2 7 (by decide)]
          refine g_ireturn_i rfl d_M_refusal_74 ?_
          exact hQ _ _ _ (by unfold gRfs; (repeat' split) <;> first | rfl | (exfalso; omega)) ⟨_, hm, hth.2.1, hth.2.2, hn9⟩
      · refine g_ret ?_
        refine g_if_ne_i (tgt := 63) (by decide) d_M_refusal_54 (by decide) (fun h => absurd h (by decide)) (fun h54 => ?_)
        refine g_aload_n (n := 0) (i := 0) rfl rfl d_M_refusal_57 ?_
        refine g_iconst_i d_M_refusal_58 ?_
        refine g_callV1 rfl rfl e_M_fail l_M_52 iv_M_fail 9 (by decide) rfl (by assumption) (by decide) (Nat.zero_le _) (Nat.zero_le _) (Nat.le_of_ble_eq_true rfl) d_M_refusal_59 (c_M_fail hm (fun w hF => ?_))
        refine g_ret ?_
        refine g_ireturn_i rfl d_M_refusal_62 ?_
        exact hQ _ _ _ (by unfold gRfs; (repeat' split) <;> first | rfl | (exfalso; omega)) (MTh.trans hth.2.2 hn9 hF)
  · refine g_aload_n (n := 0) (i := 0) rfl rfl d_M_refusal_12 ?_
    refine g_iconst_i d_M_refusal_13 ?_
    refine g_callV1 rfl rfl e_M_fail l_M_52 iv_M_fail 9 (by decide) rfl (by assumption) (by decide) (Nat.zero_le _) (Nat.zero_le _) (Nat.le_of_ble_eq_true rfl) d_M_refusal_14 (c_M_fail hm (fun w hF => ?_))
    refine g_ret ?_
    refine g_ireturn_i rfl d_M_refusal_17 ?_
    exact hQ _ _ _ (by unfold gRfs; (repeat' split) <;> first | rfl | (exfalso; omega)) (MTh.trans hth.2.2 hn9 hF)

