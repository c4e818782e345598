/-! ===== the reference: its other public reading methods ===== -/
def gatesM (m : Int → Int) (x : Int) : Int := ((orZ (fun k9 => if tb (m (413 + 6 * x + 4)) (m (5 + 34 * k9 + 0)) = true then 2 ^ k9.toNat else 0) (m 1) : Nat) : Int)
def cwM (m : Int → Int) (x y : Int) : Int := sumZ (fun k9 => if m (461 + 5 * k9 + 1) = 2 then 0 else if m (461 + 5 * k9 + 0) = x then (if y = 0 then 1 else m (461 + 5 * k9 + 4)) else 0) (m 3)
def gProd (m : Int → Int) (x y : Int) : Int × Int := if 0 ≤ x ∧ x < m 2 then (if 0 ≤ y ∧ y ≤ 5 then (0, m (413 + 6 * x + y)) else if y = 6 then (0, gatesM m x) else if 7 ≤ y ∧ y ≤ 8 then (if y = 8 then (0, cwM m x 1) else (0, cwM m x 0)) else (2, 0)) else (1, 0)
def rpM (m : Int → Int) (x : Int) : Int := sumZ (fun k9 => if m (5 + 34 * m (561 + 3 * k9 + 1) + 0) = x then 1 else 0) (m 4)
def gpM (m : Int → Int) (x : Int) : Int := sumZ (fun k9 => if m (5 + 34 * k9 + 0) = x then 1 else 0) (m 1)
def cpM (m : Int → Int) (x : Int) : Int := sumZ (fun k9 => if 0 < ridesOfM m k9 x then 1 else 0) (m 3)
def gPar (m : Int → Int) (x y : Int) : Int × Int := if 0 ≤ x ∧ x ≤ 3 then (if y = 0 then (0, sharesM m x) else if y = 1 then (0, rpM m x) else if y = 2 then (0, gpM m x) else if y = 3 then (0, cpM m x) else (2, 0)) else (1, 0)
def cgM (m : Int → Int) : Int := ((orZ (fun k9 => if m (5 + 34 * k9 + 2) = 1 then 2 ^ k9.toNat else 0) (m 1) : Nat) : Int)
def gSys (m : Int → Int) (f : Nat → Int) (x : Int) : Int × Int := if x = 0 then (0, m 0) else if x = 1 then (0, m 0 / 1440) else if x = 2 then (0, m 0 % 1440 / 60) else if x = 3 then (0, m 1) else if x = 4 then (0, m 2) else if x = 5 then (0, m 3) else if x = 6 then (0, m 4) else if x = 7 then (0, cgM m) else if x = 8 then (0, f 11) else if x = 9 then (0, f 2) else (1, 0)
def soM (m : Int → Int) (y : Int) : Int := sumZ (fun k9 => if y = 0 then m (461 + 5 * k9 + 4) else if y = 1 then m (461 + 5 * k9 + 3) else if y = 4 then refM m k9 else if ridesOnM m k9 = 0 then m (461 + 5 * k9 + 4) - m (461 + 5 * k9 + 3) else 0) (m 3)
def gAcc (m : Int → Int) (x : Int) : Int × Int := if 0 ≤ x ∧ x ≤ 4 then (if x = 2 then (0, sumZ (fun k9 => sharesM m k9) 4) else (0, soM m x)) else (1, 0)

theorem c_M_partner {E : gE} {w : gW} {im : gIm} {Q : gQ} {f : Nat → Int} {m : Int → Int} (hm : MR E w f m) (ok : okM m) {x y : Int} (rx : -2147483648 ≤ x ∧ x < 2147483648) (ry : -2147483648 ≤ y ∧ y < 2147483648) (hQ : ∀ t r w', (t, r) = gPar m x y → MTh E w f m t w' → Q (oV r) w' im) : GM E 4 y_M_partner m_M_partner 0 0 [.ref (gad E 62), .int (iI x), .int (iI y)] w im Q := by
  obtain ⟨hn, u2, u3⟩ := id hm
  have k2 : g_cell E w im (gad E 62) _ := g_mut 62 (by omega) u2
  have k3 : g_cell E w im (gad E 63) _ := g_mut 63 (by omega) u3
  obtain ⟨z0, z1, z2, z3, z4, z5, z6, z7, z8, z9⟩ := id ok
  refine g_enter (by decide) rfl rfl (fun h => by first | rfl | cases h) (Nat.le_of_ble_eq_true rfl) rfl ?_
  refine g_aload_n (n := 0) (i := 0) rfl rfl d_M_partner_0 ?_
  refine g_iconst_i d_M_partner_1 ?_
  refine g_putA 9 6 62 (by omega) u2 f_M_33 (Or.inl rfl) (by rfl) (by rfl) (Nat.le_of_ble_eq_true rfl) d_M_partner_2 (fun w hs hn9 => ?_)
  have hth := hm.th (t := 0) hs hn9
  have hm0 := hm
  have hm := hth.1
  obtain ⟨hn, u2, u3⟩ := id hm
  have k2 : g_cell E w im (gad E 62) _ := g_mut 62 (by omega) u2
  have k3 : g_cell E w im (gad E 63) _ := g_mut 63 (by omega) u3
  refine g_iload_n (n := 1) (i := 1) rfl rfl d_M_partner_5 ?_
  refine g_iconst_i d_M_partner_6 ?_
  refine g_iconst_i d_M_partner_7 ?_
  refine g_callS3 rfl rfl e_M_isIn l_M_45 st_M_isIn (by decide) (Nat.zero_le _) (Nat.zero_le _) (Nat.le_of_ble_eq_true rfl) d_M_partner_8 (c_M_isIn (by omega) (by omega) (by omega) (fun hB => ?_) (fun hB => ?_))
  · refine g_ret ?_
    refine g_if_ne_i (tgt := 20) (by decide) d_M_partner_11 (by decide) (fun h11 => ?_) (fun h => absurd h (by decide))
    refine g_iload_n (n := 2) (i := 2) rfl rfl d_M_partner_20 ?_
    have hsw21 : y = 0 ∨ y = 1 ∨ y = 2 ∨ y = 3 ∨ (y < 0 ∨ 3 < y) := by omega
    rcases hsw21 with rfl | rfl | rfl | rfl | hsw21
    · refine g_tableIn (off := 31) (tgt := 52) d_M_partner_21 (by decide) (by decide) (by decide) (by decide) ?_
      refine g_aload_n (n := 0) (i := 0) rfl rfl d_M_partner_52 ?_
      refine g_iload_n (n := 1) (i := 1) rfl rfl d_M_partner_53 ?_
      refine g_callV1 rfl rfl e_M_sharesOf l_M_184 iv_M_sharesOf 9 (by decide) rfl (by assumption) (by decide) (Nat.zero_le _) (Nat.zero_le _) (Nat.le_of_ble_eq_true rfl) d_M_partner_54 (c_M_sharesOf hm ok (by omega) ?_)
      refine g_ret ?_
      refine g_ireturn_i rfl d_M_partner_57 ?_
      exact hQ _ _ _ (by unfold gPar; first | (rw [if_pos hB]; rfl) | (rw [if_neg hB]; done) | (rw [if_pos hB, if_neg (by omega), if_neg (by omega), if_neg (by omega), if_neg (by omega)]; done)) (⟨_, hm, hth.2.1, hth.2.2, hn9⟩)
    · refine g_tableIn (off := 37) (tgt := 58) d_M_partner_21 (by decide) (by decide) (by decide) (by decide) ?_
      refine g_aload_n (n := 0) (i := 0) rfl rfl d_M_partner_58 ?_
      refine g_iload_n (n := 1) (i := 1) rfl rfl d_M_partner_59 ?_
      refine g_callV1 rfl rfl e_M_ridesOfPartner l_M_187 iv_M_ridesOfPartner 9 (by decide) rfl (by assumption) (by decide) (Nat.zero_le _) (Nat.zero_le _) (Nat.le_of_ble_eq_true rfl) d_M_partner_60 (c_M_ridesOfPartner hm ok (by omega) ?_)
      refine g_ret ?_
      refine g_ireturn_i rfl d_M_partner_63 ?_
      exact hQ _ _ _ (by unfold gPar; first | (rw [if_pos hB]; rfl) | (rw [if_neg hB]; done) | (rw [if_pos hB, if_neg (by omega), if_neg (by omega), if_neg (by omega), if_neg (by omega)]; done)) (⟨_, hm, hth.2.1, hth.2.2, hn9⟩)
    · refine g_tableIn (off := 43) (tgt := 64) d_M_partner_21 (by decide) (by decide) (by decide) (by decide) ?_
      refine g_aload_n (n := 0) (i := 0) rfl rfl d_M_partner_64 ?_
      refine g_iload_n (n := 1) (i := 1) rfl rfl d_M_partner_65 ?_
      refine g_callV1 rfl rfl e_M_gatesOfPartner l_M_190 iv_M_gatesOfPartner 9 (by decide) rfl (by assumption) (by decide) (Nat.zero_le _) (Nat.zero_le _) (Nat.le_of_ble_eq_true rfl) d_M_partner_66 (c_M_gatesOfPartner hm ok (by omega) ?_)
      refine g_ret ?_
      refine g_ireturn_i rfl d_M_partner_69 ?_
      exact hQ _ _ _ (by unfold gPar; first | (rw [if_pos hB]; rfl) | (rw [if_neg hB]; done) | (rw [if_pos hB, if_neg (by omega), if_neg (by omega), if_neg (by omega), if_neg (by omega)]; done)) (⟨_, hm, hth.2.1, hth.2.2, hn9⟩)
    · refine g_tableIn (off := 49) (tgt := 70) d_M_partner_21 (by decide) (by decide) (by decide) (by decide) ?_
      refine g_aload_n (n := 0) (i := 0) rfl rfl d_M_partner_70 ?_
      refine g_iload_n (n := 1) (i := 1) rfl rfl d_M_partner_71 ?_
      refine g_callV1 rfl rfl e_M_cardsOfPartner l_M_193 iv_M_cardsOfPartner 9 (by decide) rfl (by assumption) (by decide) (Nat.zero_le _) (Nat.zero_le _) (Nat.le_of_ble_eq_true rfl) d_M_partner_72 (c_M_cardsOfPartner hm ok (by omega) ?_)
      refine g_ret ?_
      refine g_ireturn_i rfl d_M_partner_75 ?_
      exact hQ _ _ _ (by unfold gPar; first | (rw [if_pos hB]; rfl) | (rw [if_neg hB]; done) | (rw [if_pos hB, if_neg (by omega), if_neg (by omega), if_neg (by omega), if_neg (by omega)]; done)) (⟨_, hm, hth.2.1, hth.2.2, hn9⟩)
    · refine g_tableOut (tgt := 76) d_M_partner_21 (by rw [iI_toInt (by omega)]; exact hsw21) (by decide) ?_
      refine g_aload_n (n := 0) (i := 0) rfl rfl d_M_partner_76 ?_
      refine g_iconst_i d_M_partner_77 ?_
      refine g_callV1 rfl rfl e_M_fail l_M_52 iv_M_fail 9 (by decide) rfl (by assumption) (by decide) (Nat.zero_le _) (Nat.zero_le _) (Nat.le_of_ble_eq_true rfl) d_M_partner_78 (c_M_fail hm (fun w hF => ?_))
      refine g_ret ?_
      refine g_ireturn_i rfl d_M_partner_81 ?_
      exact hQ _ _ _ (by unfold gPar; first | (rw [if_pos hB]; rfl) | (rw [if_neg hB]; done) | (rw [if_pos hB, if_neg (by omega), if_neg (by omega), if_neg (by omega), if_neg (by omega)]; done)) (MTh.trans hth.2.2 hn9 hF)
  · refine g_ret ?_
    refine g_if_ne_i (tgt := 20) (by decide) d_M_partner_11 (by decide) (fun h => absurd h (by decide)) (fun h11 => ?_)
    refine g_aload_n (n := 0) (i := 0) rfl rfl d_M_partner_14 ?_
    refine g_iconst_i d_M_partner_15 ?_
    refine g_callV1 rfl rfl e_M_fail l_M_52 iv_M_fail 9 (by decide) rfl (by assumption) (by decide) (Nat.zero_le _) (Nat.zero_le _) (Nat.le_of_ble_eq_true rfl) d_M_partner_16 (c_M_fail hm (fun w hF => ?_))
    refine g_ret ?_
    refine g_ireturn_i rfl d_M_partner_19 ?_
    exact hQ _ _ _ (by unfold gPar; first | (rw [if_pos hB]; rfl) | (rw [if_neg hB]; done) | (rw [if_pos hB, if_neg (by omega), if_neg (by omega), if_neg (by omega), if_neg (by omega)]; done)) (MTh.trans hth.2.2 hn9 hF)

theorem c_M_system {E : gE} {w : gW} {im : gIm} {Q : gQ} {f : Nat → Int} {m : Int → Int} (hm : MR E w f m) (ok : okM m) {x : Int} (rx : -2147483648 ≤ x ∧ x < 2147483648) (hQ : ∀ t r w', (t, r) = gSys m f x → MTh E w f m t w' → Q (oV r) w' im) : GM E 2 y_M_system m_M_system 0 0 [.ref (gad E 62), .int (iI x)] w im Q := by
  obtain ⟨hn, u2, u3⟩ := id hm
  have k2 : g_cell E w im (gad E 62) _ := g_mut 62 (by omega) u2
  have k3 : g_cell E w im (gad E 63) _ := g_mut 63 (by omega) u3
  obtain ⟨z0, z1, z2, z3, z4, z5, z6, z7, z8, z9⟩ := id ok
  refine g_enter (by decide) rfl rfl (fun h => by first | rfl | cases h) (Nat.le_of_ble_eq_true rfl) rfl ?_
  refine g_aload_n (n := 0) (i := 0) rfl rfl d_M_system_0 ?_
  refine g_iconst_i d_M_system_1 ?_
  refine g_putA 9 6 62 (by omega) u2 f_M_33 (Or.inl rfl) (by rfl) (by rfl) (Nat.le_of_ble_eq_true rfl) d_M_system_2 (fun w hs hn9 => ?_)
  have hth := hm.th (t := 0) hs hn9
  have hm0 := hm
  have hm := hth.1
  obtain ⟨hn, u2, u3⟩ := id hm
  have k2 : g_cell E w im (gad E 62) _ := g_mut 62 (by omega) u2
  have k3 : g_cell E w im (gad E 63) _ := g_mut 63 (by omega) u3
  refine g_iload_n (n := 1) (i := 1) rfl rfl d_M_system_5 ?_
  have hsw6 : x = 0 ∨ x = 1 ∨ x = 2 ∨ x = 3 ∨ x = 4 ∨ x = 5 ∨ x = 6 ∨ x = 7 ∨ x = 8 ∨ x = 9 ∨ (x < 0 ∨ 9 < x) := by omega
  rcases hsw6 with rfl | rfl | rfl | rfl | rfl | rfl | rfl | rfl | rfl | rfl | hsw6
  · refine g_tableIn (off := 54) (tgt := 60) d_M_system_6 (by decide) (by decide) (by decide) (by decide) ?_
    refine g_aload_n (n := 0) (i := 0) rfl rfl d_M_system_60 ?_
    refine g_getfield 9 0 f_M_9 (by assumption) (by rfl) d_M_system_61 ?_
    refine g_iconst_i d_M_system_64 ?_
    refine g_iaload_i (by assumption) (by omega) (by omega) (by rfl) d_M_system_65 ?_
    refine g_ireturn_i rfl d_M_system_66 ?_
    exact hQ _ _ _ rfl ⟨_, hm, hth.2.1, hth.2.2, hn9⟩
  · refine g_tableIn (off := 61) (tgt := 67) d_M_system_6 (by decide) (by decide) (by decide) (by decide) ?_
    refine g_aload_n (n := 0) (i := 0) rfl rfl d_M_system_67 ?_
    refine g_callV0 rfl rfl e_M_today l_M_76 iv_M_today 9 (by decide) rfl (by assumption) (by decide) (Nat.zero_le _) (Nat.zero_le _) (Nat.le_of_ble_eq_true rfl) d_M_system_68 (c_M_today hm ok ?_)
    refine g_ret ?_
    refine g_ireturn_i rfl d_M_system_71 ?_
    exact hQ _ _ _ rfl ⟨_, hm, hth.2.1, hth.2.2, hn9⟩
  · refine g_tableIn (off := 66) (tgt := 72) d_M_system_6 (by decide) (by decide) (by decide) (by decide) ?_
    refine g_aload_n (n := 0) (i := 0) rfl rfl d_M_system_72 ?_
    refine g_callV0 rfl rfl e_M_hourNow l_M_114 iv_M_hourNow 9 (by decide) rfl (by assumption) (by decide) (Nat.zero_le _) (Nat.zero_le _) (Nat.le_of_ble_eq_true rfl) d_M_system_73 (c_M_hourNow hm ok ?_)
    refine g_ret ?_
    refine g_ireturn_i rfl d_M_system_76 ?_
    exact hQ _ _ _ rfl ⟨_, hm, hth.2.1, hth.2.2, hn9⟩
  · refine g_tableIn (off := 71) (tgt := 77) d_M_system_6 (by decide) (by decide) (by decide) (by decide) ?_
    refine g_aload_n (n := 0) (i := 0) rfl rfl d_M_system_77 ?_
    refine g_getfield 9 0 f_M_9 (by assumption) (by rfl) d_M_system_78 ?_
    refine g_iconst_i d_M_system_81 ?_
    refine g_iaload_i (by assumption) (by omega) (by omega) (by rfl) d_M_system_82 ?_
    refine g_ireturn_i rfl d_M_system_83 ?_
    exact hQ _ _ _ rfl ⟨_, hm, hth.2.1, hth.2.2, hn9⟩
  · refine g_tableIn (off := 78) (tgt := 84) d_M_system_6 (by decide) (by decide) (by decide) (by decide) ?_
    refine g_aload_n (n := 0) (i := 0) rfl rfl d_M_system_84 ?_
    refine g_getfield 9 0 f_M_9 (by assumption) (by rfl) d_M_system_85 ?_
    refine g_iconst_i d_M_system_88 ?_
    refine g_iaload_i (by assumption) (by omega) (by omega) (by rfl) d_M_system_89 ?_
    refine g_ireturn_i rfl d_M_system_90 ?_
    exact hQ _ _ _ rfl ⟨_, hm, hth.2.1, hth.2.2, hn9⟩
  · refine g_tableIn (off := 85) (tgt := 91) d_M_system_6 (by decide) (by decide) (by decide) (by decide) ?_
    refine g_aload_n (n := 0) (i := 0) rfl rfl d_M_system_91 ?_
    refine g_getfield 9 0 f_M_9 (by assumption) (by rfl) d_M_system_92 ?_
    refine g_iconst_i d_M_system_95 ?_
    refine g_iaload_i (by assumption) (by omega) (by omega) (by rfl) d_M_system_96 ?_
    refine g_ireturn_i rfl d_M_system_97 ?_
    exact hQ _ _ _ rfl ⟨_, hm, hth.2.1, hth.2.2, hn9⟩
  · refine g_tableIn (off := 92) (tgt := 98) d_M_system_6 (by decide) (by decide) (by decide) (by decide) ?_
    refine g_aload_n (n := 0) (i := 0) rfl rfl d_M_system_98 ?_
    refine g_getfield 9 0 f_M_9 (by assumption) (by rfl) d_M_system_99 ?_
    refine g_iconst_i d_M_system_102 ?_
    refine g_iaload_i (by assumption) (by omega) (by omega) (by rfl) d_M_system_103 ?_
    refine g_ireturn_i rfl d_M_system_104 ?_
    exact hQ _ _ _ rfl ⟨_, hm, hth.2.1, hth.2.2, hn9⟩
  · refine g_tableIn (off := 99) (tgt := 105) d_M_system_6 (by decide) (by decide) (by decide) (by decide) ?_
    refine g_aload_n (n := 0) (i := 0) rfl rfl d_M_system_105 ?_
    refine g_callV0 rfl rfl e_M_closedGates l_M_117 iv_M_closedGates 9 (by decide) rfl (by assumption) (by decide) (Nat.zero_le _) (Nat.zero_le _) (Nat.le_of_ble_eq_true rfl) d_M_system_106 (c_M_closedGates hm ok ?_)
    refine g_ret ?_
    refine g_ireturn_i rfl d_M_system_109 ?_
    exact hQ _ _ _ rfl ⟨_, hm, hth.2.1, hth.2.2, hn9⟩
  · refine g_tableIn (off := 104) (tgt := 110) d_M_system_6 (by decide) (by decide) (by decide) (by decide) ?_
    refine g_aload_n (n := 0) (i := 0) rfl rfl d_M_system_110 ?_
    refine g_getfield 9 11 f_M_120 (by assumption) (by rfl) d_M_system_111 ?_
    refine g_ireturn_i rfl d_M_system_114 ?_
    exact hQ _ _ _ rfl ⟨_, hm, hth.2.1, hth.2.2, hn9⟩
  · refine g_tableIn (off := 109) (tgt := 115) d_M_system_6 (by decide) (by decide) (by decide) (by decide) ?_
    refine g_aload_n (n := 0) (i := 0) rfl rfl d_M_system_115 ?_
    refine g_getfield 9 2 f_M_36 (by assumption) (by rfl) d_M_system_116 ?_
    refine g_ireturn_i rfl d_M_system_119 ?_
    exact hQ _ _ _ rfl ⟨_, hm, hth.2.1, hth.2.2, hn9⟩
  · refine g_tableOut (tgt := 120) d_M_system_6 (by rw [iI_toInt (by omega)]; exact hsw6) (by decide) ?_
    refine g_aload_n (n := 0) (i := 0) rfl rfl d_M_system_120 ?_
    refine g_iconst_i d_M_system_121 ?_
    refine g_callV1 rfl rfl e_M_fail l_M_52 iv_M_fail 9 (by decide) rfl (by assumption) (by decide) (Nat.zero_le _) (Nat.zero_le _) (Nat.le_of_ble_eq_true rfl) d_M_system_122 (c_M_fail hm (fun w hF => ?_))
    refine g_ret ?_
    refine g_ireturn_i rfl d_M_system_125 ?_
    exact hQ _ _ _ (by unfold gSys; rw [if_neg (by omega), if_neg (by omega), if_neg (by omega), if_neg (by omega), if_neg (by omega), if_neg (by omega), if_neg (by omega), if_neg (by omega), if_neg (by omega), if_neg (by omega)]) (MTh.trans hth.2.2 hn9 hF)

theorem c_M_account {E : gE} {w : gW} {im : gIm} {Q : gQ} {f : Nat → Int} {m : Int → Int} (hm : MR E w f m) (ok : okM m) {x : Int} (rx : -2147483648 ≤ x ∧ x < 2147483648) (hQ : ∀ t r w', (t, r) = gAcc m x → MTh E w f m t w' → Q (oV r) w' im) : GM E 6 y_M_account m_M_account 0 0 [.ref (gad E 62), .int (iI x)] w im Q := by
  obtain ⟨hn, u2, u3⟩ := id hm
  have k2 : g_cell E w im (gad E 62) _ := g_mut 62 (by omega) u2
  have k3 : g_cell E w im (gad E 63) _ := g_mut 63 (by omega) u3
  obtain ⟨z0, z1, z2, z3, z4, z5, z6, z7, z8, z9⟩ := id ok
  refine g_enter (by decide) rfl rfl (fun h => by first | rfl | cases h) (Nat.le_of_ble_eq_true rfl) rfl ?_
  refine g_aload_n (n := 0) (i := 0) rfl rfl d_M_account_0 ?_
  refine g_iload_n (n := 1) (i := 1) rfl rfl d_M_account_1 ?_
  refine g_iconst_i d_M_account_2 ?_
  refine g_iconst_i d_M_account_3 ?_
  refine g_callS3 rfl rfl e_M_isIn l_M_45 st_M_isIn (by decide) (Nat.zero_le _) (Nat.zero_le _) (Nat.le_of_ble_eq_true rfl) d_M_account_4 (c_M_isIn (by omega) (by omega) (by omega) (fun hB => ?_) (fun hB => ?_))
  · refine g_ret ?_
    refine g_if_eq_i (tgt := 14) (by decide) d_M_account_7 (by decide) (fun h => absurd h (by decide)) (fun h7 => ?_)
    refine g_iconst_i d_M_account_10 ?_
    refine g_goto (tgt := 15) (by decide) d_M_account_11 ?_
    refine g_putA 9 6 62 (by omega) u2 f_M_33 (Or.inl rfl) (by rfl) (by rfl) (Nat.le_of_ble_eq_true rfl) d_M_account_15 (fun w hs hn9 => ?_)
    have hth := hm.th (t := 0) hs hn9
    have hm0 := hm
    have hm := hth.1
    obtain ⟨hn, u2, u3⟩ := id hm
    have k2 : g_cell E w im (gad E 62) _ := g_mut 62 (by omega) u2
    have k3 : g_cell E w im (gad E 63) _ := g_mut 63 (by omega) u3
    refine g_aload_n (n := 0) (i := 0) rfl rfl d_M_account_18 ?_
    refine g_getfield 9 6 f_M_33 k2 (by rfl) d_M_account_19 ?_
    rw [hth.2.1]
    refine g_if_eq_i (tgt := 29) (by decide) d_M_account_22 (by decide) (fun h22 => ?_) (fun h => absurd h (by decide))
    refine g_iload_n (n := 1) (i := 1) rfl rfl d_M_account_29 ?_
    refine g_iconst_i d_M_account_30 ?_
    refine g_icmp_ne_i (tgt := 41) (by omega) (by decide) d_M_account_31 (by decide) (fun h31 => ?_) (fun h31 => ?_)
    · refine g_aload_n (n := 0) (i := 0) rfl rfl d_M_account_41 ?_
      refine g_iload_n (n := 1) (i := 1) rfl rfl d_M_account_42 ?_
      refine g_callV1 rfl rfl e_M_sumOf l_M_199 iv_M_sumOf 9 (by decide) rfl (by assumption) (by decide) (Nat.zero_le _) (Nat.zero_le _) (Nat.le_of_ble_eq_true rfl) d_M_account_43 (c_M_sumOf hm ok (by omega) ?_)
      refine g_ret ?_
      refine g_ireturn_i rfl d_M_account_46 ?_
      first
      | exact hQ _ _ _ (by unfold gAcc; first | (rw [if_neg hB]; done) | (rw [if_neg hB]; rfl) | (rw [if_pos hB, if_pos (by omega)]; done) | (rw [if_pos hB, if_pos (by omega)]; rfl) | (rw [if_pos hB, if_neg (by omega)]; done) | (rw [if_pos hB, if_neg (by omega)]; rfl)) ⟨_, hm, hth.2.1, hth.2.2, hn9⟩
    · refine g_aload_n (n := 0) (i := 0) rfl rfl d_M_account_34 ?_
      refine g_callV0 rfl rfl e_M_sharesInAll l_M_196 iv_M_sharesInAll 9 (by decide) rfl (by assumption) (by decide) (Nat.zero_le _) (Nat.zero_le _) (Nat.le_of_ble_eq_true rfl) d_M_account_35 (c_M_sharesInAll hm ok ?_)
      refine g_ret ?_
      refine g_goto (tgt := 46) (by decide) d_M_account_38 ?_
      refine g_ireturn_i rfl d_M_account_46 ?_
      first
      | exact hQ _ _ _ (by unfold gAcc; first | (rw [if_neg hB]; done) | (rw [if_neg hB]; rfl) | (rw [if_pos hB, if_pos (by omega)]; done) | (rw [if_pos hB, if_pos (by omega)]; rfl) | (rw [if_pos hB, if_neg (by omega)]; done) | (rw [if_pos hB, if_neg (by omega)]; rfl)) ⟨_, hm, hth.2.1, hth.2.2, hn9⟩
  · refine g_ret ?_
    refine g_if_eq_i (tgt := 14) (by decide) d_M_account_7 (by decide) (fun h7 => ?_) (fun h => absurd h (by decide))
    refine g_iconst_i d_M_account_14 ?_
    refine g_putA 9 6 62 (by omega) u2 f_M_33 (Or.inl rfl) (by rfl) (by rfl) (Nat.le_of_ble_eq_true rfl) d_M_account_15 (fun w hs hn9 => ?_)
    have hth := hm.th (t := 1) hs hn9
    have hm0 := hm
    have hm := hth.1
    obtain ⟨hn, u2, u3⟩ := id hm
    have k2 : g_cell E w im (gad E 62) _ := g_mut 62 (by omega) u2
    have k3 : g_cell E w im (gad E 63) _ := g_mut 63 (by omega) u3
    refine g_aload_n (n := 0) (i := 0) rfl rfl d_M_account_18 ?_
    refine g_getfield 9 6 f_M_33 k2 (by rfl) d_M_account_19 ?_
    rw [hth.2.1]
    refine g_if_eq_i (tgt := 29) (by decide) d_M_account_22 (by decide) (fun h => absurd h (by decide)) (fun h22 => ?_)
    refine g_iconst_i d_M_account_25 ?_
    refine g_goto (tgt := 46) (by decide) d_M_account_26 ?_
    refine g_ireturn_i rfl d_M_account_46 ?_
    first
    | exact hQ _ _ _ (by unfold gAcc; first | (rw [if_neg hB]; done) | (rw [if_neg hB]; rfl) | (rw [if_pos hB, if_pos (by omega)]; done) | (rw [if_pos hB, if_pos (by omega)]; rfl) | (rw [if_pos hB, if_neg (by omega)]; done) | (rw [if_pos hB, if_neg (by omega)]; rfl)) ⟨_, hm, hth.2.1, hth.2.2, hn9⟩

theorem c_M_product {E : gE} {w : gW} {im : gIm} {Q : gQ} {f : Nat → Int} {m : Int → Int} (hm : MR E w f m) (ok : okM m) {x y : Int} (rx : -2147483648 ≤ x ∧ x < 2147483648) (ry : -2147483648 ≤ y ∧ y < 2147483648) (hQ : ∀ t r w', (t, r) = gProd m x y → MTh E w f m t w' → Q (oV r) w' im) : GM E 2 y_M_product m_M_product 0 0 [.ref (gad E 62), .int (iI x), .int (iI y)] w im Q := by
  obtain ⟨hn, u2, u3⟩ := id hm
  have k2 : g_cell E w im (gad E 62) _ := g_mut 62 (by omega) u2
  have k3 : g_cell E w im (gad E 63) _ := g_mut 63 (by omega) u3
  obtain ⟨z0, z1, z2, z3, z4, z5, z6, z7, z8, z9⟩ := id ok
  refine g_enter (by decide) rfl rfl (fun h => by first | rfl | cases h) (Nat.le_of_ble_eq_true rfl) rfl ?_
  refine g_aload_n (n := 0) (i := 0) rfl rfl d_M_product_0 ?_
  refine g_iconst_i d_M_product_1 ?_
  refine g_putA 9 6 62 (by omega) u2 f_M_33 (Or.inl rfl) (by rfl) (by rfl) (Nat.le_of_ble_eq_true rfl) d_M_product_2 (fun w hs hn9 => ?_)
  have hth := hm.th (t := 0) hs hn9
  have hm0 := hm
  have hm := hth.1
  obtain ⟨hn, u2, u3⟩ := id hm
  have k2 : g_cell E w im (gad E 62) _ := g_mut 62 (by omega) u2
  have k3 : g_cell E w im (gad E 63) _ := g_mut 63 (by omega) u3
  refine g_aload_n (n := 0) (i := 0) rfl rfl d_M_product_5 ?_
  refine g_iload_n (n := 1) (i := 1) rfl rfl d_M_product_6 ?_
  refine g_callV1 rfl rfl e_M_isProduct l_M_93 iv_M_isProduct 9 (by decide) rfl (by assumption) (by decide) (Nat.zero_le _) (Nat.zero_le _) (Nat.le_of_ble_eq_true rfl) d_M_product_7 (c_M_isProduct hm ok rx (fun hA => ?_) (fun hA => ?_))
  · refine g_ret ?_
    refine g_if_ne_i (tgt := 19) (by decide) d_M_product_10 (by decide) (fun h10 => ?_) (fun h => absurd h (by decide))
    refine g_iload_n (n := 2) (i := 2) rfl rfl d_M_product_19 ?_
    refine g_iconst_i d_M_product_20 ?_
    refine g_iconst_i d_M_product_21 ?_
    refine g_callS3 rfl rfl e_M_isIn l_M_45 st_M_isIn (by decide) (Nat.zero_le _) (Nat.zero_le _) (Nat.le_of_ble_eq_true rfl) d_M_product_22 (c_M_isIn (by omega) (by omega) (by omega) (fun hB => ?_) (fun hB => ?_))
    · refine g_ret ?_
      refine g_if_eq_i (tgt := 35) (by decide) d_M_product_25 (by decide) (fun h => absurd h (by decide)) (fun h25 => ?_)
      refine g_aload_n (n := 0) (i := 0) rfl rfl d_M_product_28 ?_
      refine g_iload_n (n := 1) (i := 1) rfl rfl d_M_product_29 ?_
      refine g_iload_n (n := 2) (i := 2) rfl rfl d_M_product_30 ?_
      refine g_callV2 rfl rfl e_M_p l_M_83 iv_M_p 9 (by decide) rfl (by assumption) (by decide) (Nat.zero_le _) (Nat.zero_le _) (Nat.le_of_ble_eq_true rfl) d_M_product_31 (c_M_p hm (by omega) (by omega) ?_)
      refine g_ret ?_
      refine g_ireturn_i rfl d_M_product_34 ?_
      first
      | exact hQ _ _ _ (by unfold gProd; first | (rw [if_neg hA]; done) | (rw [if_neg hA]; rfl) | (rw [if_pos hA, if_pos hB]; done) | (rw [if_pos hA, if_pos hB]; rfl) | (rw [if_pos hA, if_neg hB, if_pos (by omega)]; done) | (rw [if_pos hA, if_neg hB, if_pos (by omega)]; rfl) | (rw [if_pos hA, if_neg hB, if_neg (by omega), if_pos hC, if_pos (by omega)]; done) | (rw [if_pos hA, if_neg hB, if_neg (by omega), if_pos hC, if_pos (by omega)]; rfl) | (rw [if_pos hA, if_neg hB, if_neg (by omega), if_pos hC, if_neg (by omega)]; done) | (rw [if_pos hA, if_neg hB, if_neg (by omega), if_pos hC, if_neg (by omega)]; rfl) | (rw [if_pos hA, if_neg hB, if_neg (by omega), if_neg hC]; done) | (rw [if_pos hA, if_neg hB, if_neg (by omega), if_neg hC]; rfl)) ⟨_, hm, hth.2.1, hth.2.2, hn9⟩
      | exact hQ _ _ _ (by unfold gProd; first | (rw [if_neg hA]; done) | (rw [if_neg hA]; rfl) | (rw [if_pos hA, if_pos hB]; done) | (rw [if_pos hA, if_pos hB]; rfl) | (rw [if_pos hA, if_neg hB, if_pos (by omega)]; done) | (rw [if_pos hA, if_neg hB, if_pos (by omega)]; rfl) | (rw [if_pos hA, if_neg hB, if_neg (by omega), if_pos hC, if_pos (by omega)]; done) | (rw [if_pos hA, if_neg hB, if_neg (by omega), if_pos hC, if_pos (by omega)]; rfl) | (rw [if_pos hA, if_neg hB, if_neg (by omega), if_pos hC, if_neg (by omega)]; done) | (rw [if_pos hA, if_neg hB, if_neg (by omega), if_pos hC, if_neg (by omega)]; rfl) | (rw [if_pos hA, if_neg hB, if_neg (by omega), if_neg hC]; done) | (rw [if_pos hA, if_neg hB, if_neg (by omega), if_neg hC]; rfl)) (MTh.trans hth.2.2 hn9 hF)
    · refine g_ret ?_
      refine g_if_eq_i (tgt := 35) (by decide) d_M_product_25 (by decide) (fun h25 => ?_) (fun h => absurd h (by decide))
      refine g_iload_n (n := 2) (i := 2) rfl rfl d_M_product_35 ?_
      refine g_bipush_i (by decide) d_M_product_36 ?_
      refine g_icmp_ne_i (tgt := 49) (by omega) (by decide) d_M_product_38 (by decide) (fun h38 => ?_) (fun h38 => ?_)
      · refine g_iload_n (n := 2) (i := 2) rfl rfl d_M_product_49 ?_
        refine g_bipush_i (by decide) d_M_product_50 ?_
        refine g_bipush_i (by decide) d_M_product_52 ?_
        refine g_callS3 rfl rfl e_M_isIn l_M_45 st_M_isIn (by decide) (Nat.zero_le _) (Nat.zero_le _) (Nat.le_of_ble_eq_true rfl) d_M_product_54 (c_M_isIn (by omega) (by omega) (by omega) (fun hC => ?_) (fun hC => ?_))
        · refine g_ret ?_
          refine g_if_eq_i (tgt := 79) (by decide) d_M_product_57 (by decide) (fun h => absurd h (by decide)) (fun h57 => ?_)
          refine g_aload_n (n := 0) (i := 0) rfl rfl d_M_product_60 ?_
          refine g_iload_n (n := 1) (i := 1) rfl rfl d_M_product_61 ?_
          refine g_iload_n (n := 2) (i := 2) rfl rfl d_M_product_62 ?_
          refine g_bipush_i (by decide) d_M_product_63 ?_
          refine g_icmp_ne_i (tgt := 72) (by omega) (by decide) d_M_product_65 (by decide) (fun h65 => ?_) (fun h65 => ?_)
          · refine g_iconst_i d_M_product_72 ?_
            refine g_callV2 rfl rfl e_M_cardsWith l_M_99 iv_M_cardsWith 9 (by decide) rfl (by assumption) (by decide) (Nat.zero_le _) (Nat.zero_le _) (Nat.le_of_ble_eq_true rfl) d_M_product_73 (c_M_cardsWith hm ok (by omega) (by omega) ?_)
            refine g_ret ?_
            refine g_goto (tgt := 84) (by decide) d_M_product_76 ?_
            refine g_ireturn_i rfl d_M_product_84 ?_
            first
            | exact hQ _ _ _ (by unfold gProd; first | (rw [if_neg hA]; done) | (rw [if_neg hA]; rfl) | (rw [if_pos hA, if_pos hB]; done) | (rw [if_pos hA, if_pos hB]; rfl) | (rw [if_pos hA, if_neg hB, if_pos (by omega)]; done) | (rw [if_pos hA, if_neg hB, if_pos (by omega)]; rfl) | (rw [if_pos hA, if_neg hB, if_neg (by omega), if_pos hC, if_pos (by omega)]; done) | (rw [if_pos hA, if_neg hB, if_neg (by omega), if_pos hC, if_pos (by omega)]; rfl) | (rw [if_pos hA, if_neg hB, if_neg (by omega), if_pos hC, if_neg (by omega)]; done) | (rw [if_pos hA, if_neg hB, if_neg (by omega), if_pos hC, if_neg (by omega)]; rfl) | (rw [if_pos hA, if_neg hB, if_neg (by omega), if_neg hC]; done) | (rw [if_pos hA, if_neg hB, if_neg (by omega), if_neg hC]; rfl)) ⟨_, hm, hth.2.1, hth.2.2, hn9⟩
            | exact hQ _ _ _ (by unfold gProd; first | (rw [if_neg hA]; done) | (rw [if_neg hA]; rfl) | (rw [if_pos hA, if_pos hB]; done) | (rw [if_pos hA, if_pos hB]; rfl) | (rw [if_pos hA, if_neg hB, if_pos (by omega)]; done) | (rw [if_pos hA, if_neg hB, if_pos (by omega)]; rfl) | (rw [if_pos hA, if_neg hB, if_neg (by omega), if_pos hC, if_pos (by omega)]; done) | (rw [if_pos hA, if_neg hB, if_neg (by omega), if_pos hC, if_pos (by omega)]; rfl) | (rw [if_pos hA, if_neg hB, if_neg (by omega), if_pos hC, if_neg (by omega)]; done) | (rw [if_pos hA, if_neg hB, if_neg (by omega), if_pos hC, if_neg (by omega)]; rfl) | (rw [if_pos hA, if_neg hB, if_neg (by omega), if_neg hC]; done) | (rw [if_pos hA, if_neg hB, if_neg (by omega), if_neg hC]; rfl)) (MTh.trans hth.2.2 hn9 hF)
          · refine g_iconst_i d_M_product_68 ?_
            refine g_goto (tgt := 73) (by decide) d_M_product_69 ?_
            refine g_callV2 rfl rfl e_M_cardsWith l_M_99 iv_M_cardsWith 9 (by decide) rfl (by assumption) (by decide) (Nat.zero_le _) (Nat.zero_le _) (Nat.le_of_ble_eq_true rfl) d_M_product_73 (c_M_cardsWith hm ok (by omega) (by omega) ?_)
            refine g_ret ?_
            refine g_goto (tgt := 84) (by decide) d_M_product_76 ?_
            refine g_ireturn_i rfl d_M_product_84 ?_
            first
            | exact hQ _ _ _ (by unfold gProd; first | (rw [if_neg hA]; done) | (rw [if_neg hA]; rfl) | (rw [if_pos hA, if_pos hB]; done) | (rw [if_pos hA, if_pos hB]; rfl) | (rw [if_pos hA, if_neg hB, if_pos (by omega)]; done) | (rw [if_pos hA, if_neg hB, if_pos (by omega)]; rfl) | (rw [if_pos hA, if_neg hB, if_neg (by omega), if_pos hC, if_pos (by omega)]; done) | (rw [if_pos hA, if_neg hB, if_neg (by omega), if_pos hC, if_pos (by omega)]; rfl) | (rw [if_pos hA, if_neg hB, if_neg (by omega), if_pos hC, if_neg (by omega)]; done) | (rw [if_pos hA, if_neg hB, if_neg (by omega), if_pos hC, if_neg (by omega)]; rfl) | (rw [if_pos hA, if_neg hB, if_neg (by omega), if_neg hC]; done) | (rw [if_pos hA, if_neg hB, if_neg (by omega), if_neg hC]; rfl)) ⟨_, hm, hth.2.1, hth.2.2, hn9⟩
            | exact hQ _ _ _ (by unfold gProd; first | (rw [if_neg hA]; done) | (rw [if_neg hA]; rfl) | (rw [if_pos hA, if_pos hB]; done) | (rw [if_pos hA, if_pos hB]; rfl) | (rw [if_pos hA, if_neg hB, if_pos (by omega)]; done) | (rw [if_pos hA, if_neg hB, if_pos (by omega)]; rfl) | (rw [if_pos hA, if_neg hB, if_neg (by omega), if_pos hC, if_pos (by omega)]; done) | (rw [if_pos hA, if_neg hB, if_neg (by omega), if_pos hC, if_pos (by omega)]; rfl) | (rw [if_pos hA, if_neg hB, if_neg (by omega), if_pos hC, if_neg (by omega)]; done) | (rw [if_pos hA, if_neg hB, if_neg (by omega), if_pos hC, if_neg (by omega)]; rfl) | (rw [if_pos hA, if_neg hB, if_neg (by omega), if_neg hC]; done) | (rw [if_pos hA, if_neg hB, if_neg (by omega), if_neg hC]; rfl)) (MTh.trans hth.2.2 hn9 hF)
        · refine g_ret ?_
          refine g_if_eq_i (tgt := 79) (by decide) d_M_product_57 (by decide) (fun h57 => ?_) (fun h => absurd h (by decide))
          refine g_aload_n (n := 0) (i := 0) rfl rfl d_M_product_79 ?_
          refine g_iconst_i d_M_product_80 ?_
          refine g_callV1 rfl rfl e_M_fail l_M_52 iv_M_fail 9 (by decide) rfl (by assumption) (by decide) (Nat.zero_le _) (Nat.zero_le _) (Nat.le_of_ble_eq_true rfl) d_M_product_81 (c_M_fail hm (fun w hF => ?_))
          refine g_ret ?_
          refine g_ireturn_i rfl d_M_product_84 ?_
          first
          | exact hQ _ _ _ (by unfold gProd; first | (rw [if_neg hA]; done) | (rw [if_neg hA]; rfl) | (rw [if_pos hA, if_pos hB]; done) | (rw [if_pos hA, if_pos hB]; rfl) | (rw [if_pos hA, if_neg hB, if_pos (by omega)]; done) | (rw [if_pos hA, if_neg hB, if_pos (by omega)]; rfl) | (rw [if_pos hA, if_neg hB, if_neg (by omega), if_pos hC, if_pos (by omega)]; done) | (rw [if_pos hA, if_neg hB, if_neg (by omega), if_pos hC, if_pos (by omega)]; rfl) | (rw [if_pos hA, if_neg hB, if_neg (by omega), if_pos hC, if_neg (by omega)]; done) | (rw [if_pos hA, if_neg hB, if_neg (by omega), if_pos hC, if_neg (by omega)]; rfl) | (rw [if_pos hA, if_neg hB, if_neg (by omega), if_neg hC]; done) | (rw [if_pos hA, if_neg hB, if_neg (by omega), if_neg hC]; rfl)) ⟨_, hm, hth.2.1, hth.2.2, hn9⟩
          | exact hQ _ _ _ (by unfold gProd; first | (rw [if_neg hA]; done) | (rw [if_neg hA]; rfl) | (rw [if_pos hA, if_pos hB]; done) | (rw [if_pos hA, if_pos hB]; rfl) | (rw [if_pos hA, if_neg hB, if_pos (by omega)]; done) | (rw [if_pos hA, if_neg hB, if_pos (by omega)]; rfl) | (rw [if_pos hA, if_neg hB, if_neg (by omega), if_pos hC, if_pos (by omega)]; done) | (rw [if_pos hA, if_neg hB, if_neg (by omega), if_pos hC, if_pos (by omega)]; rfl) | (rw [if_pos hA, if_neg hB, if_neg (by omega), if_pos hC, if_neg (by omega)]; done) | (rw [if_pos hA, if_neg hB, if_neg (by omega), if_pos hC, if_neg (by omega)]; rfl) | (rw [if_pos hA, if_neg hB, if_neg (by omega), if_neg hC]; done) | (rw [if_pos hA, if_neg hB, if_neg (by omega), if_neg hC]; rfl)) (MTh.trans hth.2.2 hn9 hF)
      · refine g_aload_n (n := 0) (i := 0) rfl rfl d_M_product_41 ?_
        refine g_iload_n (n := 1) (i := 1) rfl rfl d_M_product_42 ?_
        refine g_callV1 rfl rfl e_M_gatesOf l_M_96 iv_M_gatesOf 9 (by decide) rfl (by assumption) (by decide) (Nat.zero_le _) (Nat.zero_le _) (Nat.le_of_ble_eq_true rfl) d_M_product_43 (c_M_gatesOf hm ok (by omega) ?_)
        refine g_ret ?_
        refine g_goto (tgt := 84) (by decide) d_M_product_46 ?_
        refine g_ireturn_i rfl d_M_product_84 ?_
        first
        | exact hQ _ _ _ (by unfold gProd; first | (rw [if_neg hA]; done) | (rw [if_neg hA]; rfl) | (rw [if_pos hA, if_pos hB]; done) | (rw [if_pos hA, if_pos hB]; rfl) | (rw [if_pos hA, if_neg hB, if_pos (by omega)]; done) | (rw [if_pos hA, if_neg hB, if_pos (by omega)]; rfl) | (rw [if_pos hA, if_neg hB, if_neg (by omega), if_pos hC, if_pos (by omega)]; done) | (rw [if_pos hA, if_neg hB, if_neg (by omega), if_pos hC, if_pos (by omega)]; rfl) | (rw [if_pos hA, if_neg hB, if_neg (by omega), if_pos hC, if_neg (by omega)]; done) | (rw [if_pos hA, if_neg hB, if_neg (by omega), if_pos hC, if_neg (by omega)]; rfl) | (rw [if_pos hA, if_neg hB, if_neg (by omega), if_neg hC]; done) | (rw [if_pos hA, if_neg hB, if_neg (by omega), if_neg hC]; rfl)) ⟨_, hm, hth.2.1, hth.2.2, hn9⟩
        | exact hQ _ _ _ (by unfold gProd; first | (rw [if_neg hA]; done) | (rw [if_neg hA]; rfl) | (rw [if_pos hA, if_pos hB]; done) | (rw [if_pos hA, if_pos hB]; rfl) | (rw [if_pos hA, if_neg hB, if_pos (by omega)]; done) | (rw [if_pos hA, if_neg hB, if_pos (by omega)]; rfl) | (rw [if_pos hA, if_neg hB, if_neg (by omega), if_pos hC, if_pos (by omega)]; done) | (rw [if_pos hA, if_neg hB, if_neg (by omega), if_pos hC, if_pos (by omega)]; rfl) | (rw [if_pos hA, if_neg hB, if_neg (by omega), if_pos hC, if_neg (by omega)]; done) | (rw [if_pos hA, if_neg hB, if_neg (by omega), if_pos hC, if_neg (by omega)]; rfl) | (rw [if_pos hA, if_neg hB, if_neg (by omega), if_neg hC]; done) | (rw [if_pos hA, if_neg hB, if_neg (by omega), if_neg hC]; rfl)) (MTh.trans hth.2.2 hn9 hF)
  · refine g_ret ?_
    refine g_if_ne_i (tgt := 19) (by decide) d_M_product_10 (by decide) (fun h => absurd h (by decide)) (fun h10 => ?_)
    refine g_aload_n (n := 0) (i := 0) rfl rfl d_M_product_13 ?_
    refine g_iconst_i d_M_product_14 ?_
    refine g_callV1 rfl rfl e_M_fail l_M_52 iv_M_fail 9 (by decide) rfl (by assumption) (by decide) (Nat.zero_le _) (Nat.zero_le _) (Nat.le_of_ble_eq_true rfl) d_M_product_15 (c_M_fail hm (fun w hF => ?_))
    refine g_ret ?_
    refine g_ireturn_i rfl d_M_product_18 ?_
    first
    | exact hQ _ _ _ (by unfold gProd; first | (rw [if_neg hA]; done) | (rw [if_neg hA]; rfl) | (rw [if_pos hA, if_pos hB]; done) | (rw [if_pos hA, if_pos hB]; rfl) | (rw [if_pos hA, if_neg hB, if_pos (by omega)]; done) | (rw [if_pos hA, if_neg hB, if_pos (by omega)]; rfl) | (rw [if_pos hA, if_neg hB, if_neg (by omega), if_pos hC, if_pos (by omega)]; done) | (rw [if_pos hA, if_neg hB, if_neg (by omega), if_pos hC, if_pos (by omega)]; rfl) | (rw [if_pos hA, if_neg hB, if_neg (by omega), if_pos hC, if_neg (by omega)]; done) | (rw [if_pos hA, if_neg hB, if_neg (by omega), if_pos hC, if_neg (by omega)]; rfl) | (rw [if_pos hA, if_neg hB, if_neg (by omega), if_neg hC]; done) | (rw [if_pos hA, if_neg hB, if_neg (by omega), if_neg hC]; rfl)) ⟨_, hm, hth.2.1, hth.2.2, hn9⟩
    | exact hQ _ _ _ (by unfold gProd; first | (rw [if_neg hA]; done) | (rw [if_neg hA]; rfl) | (rw [if_pos hA, if_pos hB]; done) | (rw [if_pos hA, if_pos hB]; rfl) | (rw [if_pos hA, if_neg hB, if_pos (by omega)]; done) | (rw [if_pos hA, if_neg hB, if_pos (by omega)]; rfl) | (rw [if_pos hA, if_neg hB, if_neg (by omega), if_pos hC, if_pos (by omega)]; done) | (rw [if_pos hA, if_neg hB, if_neg (by omega), if_pos hC, if_pos (by omega)]; rfl) | (rw [if_pos hA, if_neg hB, if_neg (by omega), if_pos hC, if_neg (by omega)]; done) | (rw [if_pos hA, if_neg hB, if_neg (by omega), if_pos hC, if_neg (by omega)]; rfl) | (rw [if_pos hA, if_neg hB, if_neg (by omega), if_neg hC]; done) | (rw [if_pos hA, if_neg hB, if_neg (by omega), if_neg hC]; rfl)) (MTh.trans hth.2.2 hn9 hF)

theorem c_M_reason {E : gE} {w : gW} {im : gIm} {Q : gQ} {f : Nat → Int} {m : Int → Int} (hm : MR E w f m) (ok : okM m) {x y : Int} (rx : -2147483648 ≤ x ∧ x < 2147483648) (ry : -2147483648 ≤ y ∧ y < 2147483648) (hQ : ∀ r w', (((0 ≤ x ∧ x < m 3) ∧ (0 ≤ y ∧ y < m 1)) ∧ rfsM m x y r ∧ MTh E w f m 0 w') ∨ (¬ ((0 ≤ x ∧ x < m 3) ∧ (0 ≤ y ∧ y < m 1)) ∧ r = 0 ∧ MTh E w f m 1 w') → Q (oV r) w' im) : GM E 6 y_M_reason m_M_reason 0 0 [.ref (gad E 62), .int (iI x), .int (iI y)] w im Q := by
  obtain ⟨hn, u2, u3⟩ := id hm
  have k2 : g_cell E w im (gad E 62) _ := g_mut 62 (by omega) u2
  have k3 : g_cell E w im (gad E 63) _ := g_mut 63 (by omega) u3
  obtain ⟨z0, z1, z2, z3, z4, z5, z6, z7, z8, z9⟩ := id ok
  refine g_enter (by decide) rfl rfl (fun h => by first | rfl | cases h) (Nat.le_of_ble_eq_true rfl) rfl ?_
  refine g_aload_n (n := 0) (i := 0) rfl rfl d_M_reason_0 ?_
  refine g_aload_n (n := 0) (i := 0) rfl rfl d_M_reason_1 ?_
  refine g_iload_n (n := 1) (i := 1) rfl rfl d_M_reason_2 ?_
  refine g_callV1 rfl rfl e_M_isCard l_M_148 iv_M_isCard 9 (by decide) rfl (by assumption) (by decide) (Nat.zero_le _) (Nat.zero_le _) (Nat.le_of_ble_eq_true rfl) d_M_reason_3 (c_M_isCard hm ok rx (fun hA => ?_) (fun hA => ?_))
  · refine g_ret ?_
    refine g_if_eq_i (tgt := 21) (by decide) d_M_reason_6 (by decide) (fun h => absurd h (by decide)) (fun h6 => ?_)
    refine g_aload_n (n := 0) (i := 0) rfl rfl d_M_reason_9 ?_
    refine g_iload_n (n := 2) (i := 2) rfl rfl d_M_reason_10 ?_
    refine g_callV1 rfl rfl e_M_isGate l_M_69 iv_M_isGate 9 (by decide) rfl (by assumption) (by decide) (Nat.zero_le _) (Nat.zero_le _) (Nat.le_of_ble_eq_true rfl) d_M_reason_11 (c_M_isGate hm ok ry (fun hB => ?_) (fun hB => ?_))
    · refine g_ret ?_
      refine g_if_eq_i (tgt := 21) (by decide) d_M_reason_14 (by decide) (fun h => absurd h (by decide)) (fun h14 => ?_)
      refine g_iconst_i d_M_reason_17 ?_
      refine g_goto (tgt := 22) (by decide) d_M_reason_18 ?_
      refine g_putA 9 6 62 (by omega) u2 f_M_33 (Or.inl rfl) (by rfl) (by rfl) (Nat.le_of_ble_eq_true rfl) d_M_reason_22 (fun w hs hn9 => ?_)
      have hth := hm.th (t := 0) hs hn9
      have hm0 := hm
      have hm := hth.1
      obtain ⟨hn, u2, u3⟩ := id hm
      have k2 : g_cell E w im (gad E 62) _ := g_mut 62 (by omega) u2
      have k3 : g_cell E w im (gad E 63) _ := g_mut 63 (by omega) u3
      refine g_aload_n (n := 0) (i := 0) rfl rfl d_M_reason_25 ?_
      refine g_getfield 9 6 f_M_33 k2 (by rfl) d_M_reason_26 ?_
      rw [hth.2.1]
      refine g_if_ne_i (tgt := 41) (by decide) d_M_reason_29 (by decide) (fun h => absurd h (by decide)) (fun h29 => ?_)
      refine g_aload_n (n := 0) (i := 0) rfl rfl d_M_reason_32 ?_
      refine g_iload_n (n := 1) (i := 1) rfl rfl d_M_reason_33 ?_
      refine g_iload_n (n := 2) (i := 2) rfl rfl d_M_reason_34 ?_
      refine g_callV2 rfl rfl e_M_refusalBy l_M_151 iv_M_refusalBy 9 (by decide) rfl (by assumption) (by decide) (Nat.zero_le _) (Nat.zero_le _) (Nat.le_of_ble_eq_true rfl) d_M_reason_35 (c_M_refusalBy hm ok (by omega) (by omega) (fun r9 hr9 => ?_))
      refine g_ret ?_
      refine g_goto (tgt := 42) (by decide) d_M_reason_38 ?_
      refine g_ireturn_i rfl d_M_reason_42 ?_
      first | exact hQ _ _ (Or.inl ⟨⟨hA, hB⟩, hr9, ⟨_, hm, hth.2.1, hth.2.2, hn9⟩⟩) | exact hQ _ _ (Or.inr ⟨fun h => hA h.1, rfl, ⟨_, hm, hth.2.1, hth.2.2, hn9⟩⟩) | exact hQ _ _ (Or.inr ⟨fun h => hB h.2, rfl, ⟨_, hm, hth.2.1, hth.2.2, hn9⟩⟩)
    · refine g_ret ?_
      refine g_if_eq_i (tgt := 21) (by decide) d_M_reason_14 (by decide) (fun h14 => ?_) (fun h => absurd h (by decide))
      refine g_iconst_i d_M_reason_21 ?_
      refine g_putA 9 6 62 (by omega) u2 f_M_33 (Or.inl rfl) (by rfl) (by rfl) (Nat.le_of_ble_eq_true rfl) d_M_reason_22 (fun w hs hn9 => ?_)
      have hth := hm.th (t := 1) hs hn9
      have hm0 := hm
      have hm := hth.1
      obtain ⟨hn, u2, u3⟩ := id hm
      have k2 : g_cell E w im (gad E 62) _ := g_mut 62 (by omega) u2
      have k3 : g_cell E w im (gad E 63) _ := g_mut 63 (by omega) u3
      refine g_aload_n (n := 0) (i := 0) rfl rfl d_M_reason_25 ?_
      refine g_getfield 9 6 f_M_33 k2 (by rfl) d_M_reason_26 ?_
      rw [hth.2.1]
      refine g_if_ne_i (tgt := 41) (by decide) d_M_reason_29 (by decide) (fun h29 => ?_) (fun h => absurd h (by decide))
      refine g_iconst_i d_M_reason_41 ?_
      refine g_ireturn_i rfl d_M_reason_42 ?_
      first | exact hQ _ _ (Or.inl ⟨⟨hA, hB⟩, hr9, ⟨_, hm, hth.2.1, hth.2.2, hn9⟩⟩) | exact hQ _ _ (Or.inr ⟨fun h => hA h.1, rfl, ⟨_, hm, hth.2.1, hth.2.2, hn9⟩⟩) | exact hQ _ _ (Or.inr ⟨fun h => hB h.2, rfl, ⟨_, hm, hth.2.1, hth.2.2, hn9⟩⟩)
  · refine g_ret ?_
    refine g_if_eq_i (tgt := 21) (by decide) d_M_reason_6 (by decide) (fun h6 => ?_) (fun h => absurd h (by decide))
    refine g_iconst_i d_M_reason_21 ?_
    refine g_putA 9 6 62 (by omega) u2 f_M_33 (Or.inl rfl) (by rfl) (by rfl) (Nat.le_of_ble_eq_true rfl) d_M_reason_22 (fun w hs hn9 => ?_)
    have hth := hm.th (t := 1) hs hn9
    have hm0 := hm
    have hm := hth.1
    obtain ⟨hn, u2, u3⟩ := id hm
    have k2 : g_cell E w im (gad E 62) _ := g_mut 62 (by omega) u2
    have k3 : g_cell E w im (gad E 63) _ := g_mut 63 (by omega) u3
    refine g_aload_n (n := 0) (i := 0) rfl rfl d_M_reason_25 ?_
    refine g_getfield 9 6 f_M_33 k2 (by rfl) d_M_reason_26 ?_
    rw [hth.2.1]
    refine g_if_ne_i (tgt := 41) (by decide) d_M_reason_29 (by decide) (fun h29 => ?_) (fun h => absurd h (by decide))
    refine g_iconst_i d_M_reason_41 ?_
    refine g_ireturn_i rfl d_M_reason_42 ?_
    first | exact hQ _ _ (Or.inl ⟨⟨hA, hB⟩, hr9, ⟨_, hm, hth.2.1, hth.2.2, hn9⟩⟩) | exact hQ _ _ (Or.inr ⟨fun h => hA h.1, rfl, ⟨_, hm, hth.2.1, hth.2.2, hn9⟩⟩) | exact hQ _ _ (Or.inr ⟨fun h => hB h.2, rfl, ⟨_, hm, hth.2.1, hth.2.2, hn9⟩⟩)

