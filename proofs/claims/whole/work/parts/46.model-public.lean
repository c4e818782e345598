/-! ===== the reference: its public reading methods ===== -/

theorem c_M_sharesInAll {E : gE} {w : gW} {im : gIm} {Q : gQ} {f : Nat → Int} {m : Int → Int} (hm : MR E w f m) (ok : okM m) (hQ : Q (.inl (some (.int (iI (sumZ (fun k9 => sharesM m k9) (4)))))) w im) : GM E 4 y_M_sharesInAll m_M_sharesInAll 0 0 [.ref (gad E 62)] w im Q := by
  obtain ⟨hn, u2, u3⟩ := id hm
  have k2 : g_cell E w im (gad E 62) _ := g_mut 62 (by omega) u2
  have k3 : g_cell E w im (gad E 63) _ := g_mut 63 (by omega) u3
  obtain ⟨z0, z1, z2, z3, z4, z5, z6, z7, z8, z9⟩ := id ok
  have loop : ∀ (n9 : Nat) (k9 s9 : Int), 0 ≤ k9 → k9 + n9 = 4 → s9 = sumZ (fun k9 => sharesM m k9) k9 → G E 4 m_M_sharesInAll 4 [(0, .ref (gad E 62)), (1, .int (iI s9)), (2, .int (iI k9))] [] w im 0 0 Q := by
    intro n9
    induction n9 with
    | zero =>
      intro k9 s9 h9 hk9 hs9
      have e9 : k9 = 4 := by omega
      rw [e9] at hs9
      refine g_iload_n (n := 2) (i := 2) rfl rfl d_M_sharesInAll_4 ?_
      refine g_iconst_i d_M_sharesInAll_5 ?_
      refine g_icmp_ge_i (tgt := 23) (by omega) (by decide) d_M_sharesInAll_6 (by decide) (fun h6 => ?_) (fun h => by exfalso; omega)
      refine g_iload_n (n := 1) (i := 1) rfl rfl d_M_sharesInAll_23 ?_
      refine g_ireturn_i rfl d_M_sharesInAll_24 ?_
      exact g_qi hQ hs9
    | succ n9 ih =>
      intro k9 s9 h9 hk9 hs9
      have hlt : k9 < 4 := by omega
      refine g_iload_n (n := 2) (i := 2) rfl rfl d_M_sharesInAll_4 ?_
      refine g_iconst_i d_M_sharesInAll_5 ?_
      refine g_icmp_ge_i (tgt := 23) (by omega) (by decide) d_M_sharesInAll_6 (by decide) (fun h => by exfalso; omega) (fun h6 => ?_)
      refine g_iload_n (n := 1) (i := 1) rfl rfl d_M_sharesInAll_9 ?_
      refine g_aload_n (n := 0) (i := 0) rfl rfl d_M_sharesInAll_10 ?_
      refine g_iload_n (n := 2) (i := 2) rfl rfl d_M_sharesInAll_11 ?_
      refine g_callV1 rfl rfl e_M_sharesOf l_M_184 iv_M_sharesOf 9 (by decide) rfl (by assumption) (by decide) (Nat.zero_le _) (Nat.zero_le _) (Nat.le_of_ble_eq_true rfl) d_M_sharesInAll_12 (c_M_sharesOf hm ok (by omega) ?_)
      refine g_ret ?_
      refine g_iadd_i d_M_sharesInAll_15 ?_
      refine g_istore_n (n := 1) (i := 1) rfl (by decide) rfl d_M_sharesInAll_16 ?_
      refine g_iinc_i (i := 2) rfl (by decide) rfl d_M_sharesInAll_17 ?_
      refine g_goto (tgt := 4) (by decide) d_M_sharesInAll_20 ?_
      exact g_cut (lv' := [(0, .ref (gad E 62)), (1, .int (iI _)), (2, .int (iI (k9 + 1)))]) ⟨rfl, rfl, rfl, trivial⟩ (ih (k9 + 1) _ (by omega) (by omega) (by rw [sumZ_s (by omega), hs9]; rfl))
  refine g_enter (by decide) rfl rfl (fun h => by first | rfl | cases h) (Nat.le_of_ble_eq_true rfl) rfl ?_
  refine g_iconst_i d_M_sharesInAll_0 ?_
  refine g_istore_n (n := 1) (i := 1) rfl (by decide) rfl d_M_sharesInAll_1 ?_
  refine g_iconst_i d_M_sharesInAll_2 ?_
  refine g_istore_n (n := 2) (i := 2) rfl (by decide) rfl d_M_sharesInAll_3 ?_
  refine g_cut ?_ (loop (4 : Int).toNat 0 0 (by omega) (by omega) rfl)
  exact ⟨rfl, rfl, rfl, trivial⟩

/-- only `thrown` has changed -/
def MTh (E : gE) (w : gW) (f : Nat → Int) (m : Int → Int) (t : Int) (w' : gW) : Prop := ∃ f', MR E w' f' m ∧ f' 6 = t ∧ (∀ i, i ≠ 6 → f' i = f i) ∧ ∀ j, j ≠ 62 → w' j = w j
theorem MTh.trans {E : gE} {w w1 w2 : gW} {f f1 : Nat → Int} {m : Int → Int} {t : Int} (h1 : ∀ i, i ≠ 6 → f1 i = f i) (h2 : ∀ j, j ≠ 62 → w1 j = w j) (h : MTh E w1 f1 m t w2) : MTh E w f m t w2 := by
  obtain ⟨f', a, b, c, d⟩ := h
  exact ⟨f', a, b, fun i hi => (c i hi).trans (h1 i hi), fun j hj => (d j hj).trans (h2 j hj)⟩
theorem MR.th {E : gE} {w w' : gW} {f : Nat → Int} {m : Int → Int} {t : Int} (h : MR E w f m) (hs : w' 62 = mE E (fU f 6 t)) (hw : ∀ j, j ≠ 62 → w' j = w j) : MR E w' (fU f 6 t) m ∧ fU f 6 t 6 = t ∧ ∀ i, i ≠ 6 → fU f 6 t i = f i :=
  ⟨⟨h.1, hs, (hw 63 (by omega)).trans h.2.2⟩, by simp [fU], fun i hi => by simp [fU, hi]⟩

theorem c_M_fail {E : gE} {w : gW} {im : gIm} {Q : gQ} {f : Nat → Int} {m : Int → Int} (hm : MR E w f m) {x : Int} (hQ : ∀ w', MTh E w f m x w' → Q (oV 0) w' im) : GM E 0 y_M_fail m_M_fail 0 0 [.ref (gad E 62), .int (iI x)] w im Q := by
  obtain ⟨hn, u2, u3⟩ := id hm
  have k2 : g_cell E w im (gad E 62) _ := g_mut 62 (by omega) u2
  have k3 : g_cell E w im (gad E 63) _ := g_mut 63 (by omega) u3
  refine g_enter (by decide) rfl rfl (fun h => by first | rfl | cases h) (Nat.le_of_ble_eq_true rfl) rfl ?_
  refine g_aload_n (n := 0) (i := 0) rfl rfl d_M_fail_0 ?_
  refine g_iload_n (n := 1) (i := 1) rfl rfl d_M_fail_1 ?_
  refine g_putA 9 6 62 (by omega) u2 f_M_33 (Or.inl rfl) (by rfl) (by rfl) (Nat.le_of_ble_eq_true rfl) d_M_fail_2 (fun w hs hn9 => ?_)
  have hth := hm.th (t := x) hs hn9
  have hm0 := hm
  have hm := hth.1
  obtain ⟨hn, u2, u3⟩ := id hm
  have k2 : g_cell E w im (gad E 62) _ := g_mut 62 (by omega) u2
  have k3 : g_cell E w im (gad E 63) _ := g_mut 63 (by omega) u3
  refine g_iconst_i d_M_fail_5 ?_
  refine g_ireturn_i rfl d_M_fail_6 ?_
  exact hQ _ ⟨_, hm, hth.2.1, hth.2.2, hn9⟩

def gGate (m : Int → Int) (x y : Int) : Int × Int := if 0 ≤ x ∧ x < m 1 then
  (if y = 0 then (0, m (5 + 34 * x + 0)) else if y = 1 then (0, m (5 + 34 * x + 1)) else if y = 2 then (0, m (5 + 34 * x + 2)) else if y = 3 then (0, sumZ (fun k9 => if m (561 + 3 * k9 + 1) = x then 1 else 0) (m 4)) else if y = 4 then (0, m (5 + 34 * x + (3 + m 0 / 1440))) else if y = 5 then (0, sumZ (fun k9 => m (5 + 34 * x + (3 + k9))) 31) else (2, 0)) else (1, 0)

theorem c_M_gate {E : gE} {w : gW} {im : gIm} {Q : gQ} {f : Nat → Int} {m : Int → Int} (hm : MR E w f m) (ok : okM m) {x y : Int} (rx : -2147483648 ≤ x ∧ x < 2147483648) (ry : -2147483648 ≤ y ∧ y < 2147483648) (hQ : ∀ t r w', (t, r) = gGate m x y → MTh E w f m t w' → Q (oV r) w' im) : GM E 3 y_M_gate m_M_gate 0 0 [.ref (gad E 62), .int (iI x), .int (iI y)] w im Q := by
  obtain ⟨hn, u2, u3⟩ := id hm
  have k2 : g_cell E w im (gad E 62) _ := g_mut 62 (by omega) u2
  have k3 : g_cell E w im (gad E 63) _ := g_mut 63 (by omega) u3
  obtain ⟨z0, z1, z2, z3, z4, z5, z6, z7, z8, z9⟩ := id ok
  refine g_enter (by decide) rfl rfl (fun h => by first | rfl | cases h) (Nat.le_of_ble_eq_true rfl) rfl ?_
  refine g_aload_n (n := 0) (i := 0) rfl rfl d_M_gate_0 ?_
  refine g_iconst_i d_M_gate_1 ?_
  refine g_putA 9 6 62 (by omega) u2 f_M_33 (Or.inl rfl) (by rfl) (by rfl) (Nat.le_of_ble_eq_true rfl) d_M_gate_2 (fun w hs hn9 => ?_)
  have hth := hm.th (t := 0) hs hn9
  have hm0 := hm
  have hm := hth.1
  obtain ⟨hn, u2, u3⟩ := id hm
  have k2 : g_cell E w im (gad E 62) _ := g_mut 62 (by omega) u2
  have k3 : g_cell E w im (gad E 63) _ := g_mut 63 (by omega) u3
  refine g_aload_n (n := 0) (i := 0) rfl rfl d_M_gate_5 ?_
  refine g_iload_n (n := 1) (i := 1) rfl rfl d_M_gate_6 ?_
  refine g_callV1 rfl rfl e_M_isGate l_M_69 iv_M_isGate 9 (by decide) rfl (by assumption) (by decide) (Nat.zero_le _) (Nat.zero_le _) (Nat.le_of_ble_eq_true rfl) d_M_gate_7 (c_M_isGate hm ok rx (fun hB => ?_) (fun hB => ?_))
  · refine g_ret ?_
    refine g_if_ne_i (tgt := 19) (by decide) d_M_gate_10 (by decide) (fun h10 => ?_) (fun h => absurd h (by decide))
    refine g_iload_n (n := 2) (i := 2) rfl rfl d_M_gate_19 ?_
    have hsw20 : y = 0 ∨ y = 1 ∨ y = 2 ∨ y = 3 ∨ y = 4 ∨ y = 5 ∨ (y < 0 ∨ 5 < y) := by omega
    rcases hsw20 with rfl | rfl | rfl | rfl | rfl | rfl | hsw20
    · refine g_tableIn (off := 40) (tgt := 60) d_M_gate_20 (by decide) (by decide) (by decide) (by decide) ?_
      refine g_aload_n (n := 0) (i := 0) rfl rfl d_M_gate_60 ?_
      refine g_iload_n (n := 1) (i := 1) rfl rfl d_M_gate_61 ?_
      refine g_iload_n (n := 2) (i := 2) rfl rfl d_M_gate_62 ?_
      refine g_callV2 rfl rfl e_M_g l_M_63 iv_M_g 9 (by decide) rfl (by assumption) (by decide) (Nat.zero_le _) (Nat.zero_le _) (Nat.le_of_ble_eq_true rfl) d_M_gate_63 (c_M_g hm (by omega) (by omega) ?_)
      refine g_ret ?_
      refine g_ireturn_i rfl d_M_gate_66 ?_
      exact hQ _ _ _ (by unfold gGate; first | (rw [if_pos hB]; rfl) | (rw [if_neg hB]; done) | (rw [if_pos hB, if_neg (by omega), if_neg (by omega), if_neg (by omega), if_neg (by omega), if_neg (by omega), if_neg (by omega)]; done)) (⟨_, hm, hth.2.1, hth.2.2, hn9⟩)
    · refine g_tableIn (off := 40) (tgt := 60) d_M_gate_20 (by decide) (by decide) (by decide) (by decide) ?_
      refine g_aload_n (n := 0) (i := 0) rfl rfl d_M_gate_60 ?_
      refine g_iload_n (n := 1) (i := 1) rfl rfl d_M_gate_61 ?_
      refine g_iload_n (n := 2) (i := 2) rfl rfl d_M_gate_62 ?_
      refine g_callV2 rfl rfl e_M_g l_M_63 iv_M_g 9 (by decide) rfl (by assumption) (by decide) (Nat.zero_le _) (Nat.zero_le _) (Nat.le_of_ble_eq_true rfl) d_M_gate_63 (c_M_g hm (by omega) (by omega) ?_)
      refine g_ret ?_
      refine g_ireturn_i rfl d_M_gate_66 ?_
      exact hQ _ _ _ (by unfold gGate; first | (rw [if_pos hB]; rfl) | (rw [if_neg hB]; done) | (rw [if_pos hB, if_neg (by omega), if_neg (by omega), if_neg (by omega), if_neg (by omega), if_neg (by omega), if_neg (by omega)]; done)) (⟨_, hm, hth.2.1, hth.2.2, hn9⟩)
    · refine g_tableIn (off := 40) (tgt := 60) d_M_gate_20 (by decide) (by decide) (by decide) (by decide) ?_
      refine g_aload_n (n := 0) (i := 0) rfl rfl d_M_gate_60 ?_
      refine g_iload_n (n := 1) (i := 1) rfl rfl d_M_gate_61 ?_
      refine g_iload_n (n := 2) (i := 2) rfl rfl d_M_gate_62 ?_
      refine g_callV2 rfl rfl e_M_g l_M_63 iv_M_g 9 (by decide) rfl (by assumption) (by decide) (Nat.zero_le _) (Nat.zero_le _) (Nat.le_of_ble_eq_true rfl) d_M_gate_63 (c_M_g hm (by omega) (by omega) ?_)
      refine g_ret ?_
      refine g_ireturn_i rfl d_M_gate_66 ?_
      exact hQ _ _ _ (by unfold gGate; first | (rw [if_pos hB]; rfl) | (rw [if_neg hB]; done) | (rw [if_pos hB, if_neg (by omega), if_neg (by omega), if_neg (by omega), if_neg (by omega), if_neg (by omega), if_neg (by omega)]; done)) (⟨_, hm, hth.2.1, hth.2.2, hn9⟩)
    · refine g_tableIn (off := 47) (tgt := 67) d_M_gate_20 (by decide) (by decide) (by decide) (by decide) ?_
      refine g_aload_n (n := 0) (i := 0) rfl rfl d_M_gate_67 ?_
      refine g_iload_n (n := 1) (i := 1) rfl rfl d_M_gate_68 ?_
      refine g_callV1 rfl rfl e_M_ridesAt l_M_73 iv_M_ridesAt 9 (by decide) rfl (by assumption) (by decide) (Nat.zero_le _) (Nat.zero_le _) (Nat.le_of_ble_eq_true rfl) d_M_gate_69 (c_M_ridesAt hm ok (by omega) ?_)
      refine g_ret ?_
      refine g_ireturn_i rfl d_M_gate_72 ?_
      exact hQ _ _ _ (by unfold gGate; first | (rw [if_pos hB]; rfl) | (rw [if_neg hB]; done) | (rw [if_pos hB, if_neg (by omega), if_neg (by omega), if_neg (by omega), if_neg (by omega), if_neg (by omega), if_neg (by omega)]; done)) (⟨_, hm, hth.2.1, hth.2.2, hn9⟩)
    · refine g_tableIn (off := 53) (tgt := 73) d_M_gate_20 (by decide) (by decide) (by decide) (by decide) ?_
      refine g_aload_n (n := 0) (i := 0) rfl rfl d_M_gate_73 ?_
      refine g_iload_n (n := 1) (i := 1) rfl rfl d_M_gate_74 ?_
      refine g_aload_n (n := 0) (i := 0) rfl rfl d_M_gate_75 ?_
      refine g_callV0 rfl rfl e_M_today l_M_76 iv_M_today 9 (by decide) rfl (by assumption) (by decide) (Nat.zero_le _) (Nat.zero_le _) (Nat.le_of_ble_eq_true rfl) d_M_gate_76 (c_M_today hm ok ?_)
      refine g_ret ?_
      refine g_callV2 rfl rfl e_M_closedOn l_M_66 iv_M_closedOn 9 (by decide) rfl (by assumption) (by decide) (Nat.zero_le _) (Nat.zero_le _) (Nat.le_of_ble_eq_true rfl) d_M_gate_79 (c_M_closedOn hm (by omega) (by omega) ?_)
      refine g_ret ?_
      refine g_ireturn_i rfl d_M_gate_82 ?_
      exact hQ _ _ _ (by unfold gGate; first | (rw [if_pos hB]; rfl) | (rw [if_neg hB]; done) | (rw [if_pos hB, if_neg (by omega), if_neg (by omega), if_neg (by omega), if_neg (by omega), if_neg (by omega), if_neg (by omega)]; done)) (⟨_, hm, hth.2.1, hth.2.2, hn9⟩)
    · refine g_tableIn (off := 63) (tgt := 83) d_M_gate_20 (by decide) (by decide) (by decide) (by decide) ?_
      refine g_aload_n (n := 0) (i := 0) rfl rfl d_M_gate_83 ?_
      refine g_iload_n (n := 1) (i := 1) rfl rfl d_M_gate_84 ?_
      refine g_callV1 rfl rfl e_M_closedInAll l_M_80 iv_M_closedInAll 9 (by decide) rfl (by assumption) (by decide) (Nat.zero_le _) (Nat.zero_le _) (Nat.le_of_ble_eq_true rfl) d_M_gate_85 (c_M_closedInAll hm ok (by omega) ?_)
      refine g_ret ?_
      refine g_ireturn_i rfl d_M_gate_88 ?_
      exact hQ _ _ _ (by unfold gGate; first | (rw [if_pos hB]; rfl) | (rw [if_neg hB]; done) | (rw [if_pos hB, if_neg (by omega), if_neg (by omega), if_neg (by omega), if_neg (by omega), if_neg (by omega), if_neg (by omega)]; done)) (⟨_, hm, hth.2.1, hth.2.2, hn9⟩)
    · refine g_tableOut (tgt := 89) d_M_gate_20 (by rw [iI_toInt (by omega)]; exact hsw20) (by decide) ?_
      refine g_aload_n (n := 0) (i := 0) rfl rfl d_M_gate_89 ?_
      refine g_iconst_i d_M_gate_90 ?_
      refine g_callV1 rfl rfl e_M_fail l_M_52 iv_M_fail 9 (by decide) rfl (by assumption) (by decide) (Nat.zero_le _) (Nat.zero_le _) (Nat.le_of_ble_eq_true rfl) d_M_gate_91 (c_M_fail hm (fun w hF => ?_))
      refine g_ret ?_
      refine g_ireturn_i rfl d_M_gate_94 ?_
      exact hQ _ _ _ (by unfold gGate; first | (rw [if_pos hB]; rfl) | (rw [if_neg hB]; done) | (rw [if_pos hB, if_neg (by omega), if_neg (by omega), if_neg (by omega), if_neg (by omega), if_neg (by omega), if_neg (by omega)]; done)) (MTh.trans hth.2.2 hn9 hF)
  · refine g_ret ?_
    refine g_if_ne_i (tgt := 19) (by decide) d_M_gate_10 (by decide) (fun h => absurd h (by decide)) (fun h10 => ?_)
    refine g_aload_n (n := 0) (i := 0) rfl rfl d_M_gate_13 ?_
    refine g_iconst_i d_M_gate_14 ?_
    refine g_callV1 rfl rfl e_M_fail l_M_52 iv_M_fail 9 (by decide) rfl (by assumption) (by decide) (Nat.zero_le _) (Nat.zero_le _) (Nat.le_of_ble_eq_true rfl) d_M_gate_15 (c_M_fail hm (fun w hF => ?_))
    refine g_ret ?_
    refine g_ireturn_i rfl d_M_gate_18 ?_
    exact hQ _ _ _ (by unfold gGate; first | (rw [if_pos hB]; rfl) | (rw [if_neg hB]; done) | (rw [if_pos hB, if_neg (by omega), if_neg (by omega), if_neg (by omega), if_neg (by omega), if_neg (by omega), if_neg (by omega)]; done)) (MTh.trans hth.2.2 hn9 hF)

def gWay (m : Int → Int) (x y : Int) : Int × Int := if (0 ≤ x ∧ x < m 1) ∧ (0 ≤ y ∧ y < m 1) then (0, wayZ (m (5 + 34 * x + 0)) (m (5 + 34 * x + 1)) (m (5 + 34 * y + 0)) (m (5 + 34 * y + 1))) else (1, 0)
def gClo (m : Int → Int) (x y : Int) : Int × Int := if 0 ≤ x ∧ x < m 1 then (if 0 ≤ y ∧ y ≤ 30 then (0, m (5 + 34 * x + (3 + y))) else (2, 0)) else (1, 0)
def gCld (m : Int → Int) (x y : Int) : Int × Int := if 0 ≤ x ∧ x < m 2 then (if 0 ≤ y ∧ y ≤ 30 then (0, if isClB m x y = true then 1 else 0) else (2, 0)) else (1, 0)
def gRfb (m : Int → Int) (x : Int) : Int × Int := if 0 ≤ x ∧ x < m 3 then (0, refM m x) else (1, 0)
def gSha (m : Int → Int) (x y : Int) : Int × Int := if (0 ≤ x ∧ x < m 3) ∧ (0 ≤ y ∧ y ≤ 3) then (0, shareM m x y) else (1, 0)

theorem c_M_way {E : gE} {w : gW} {im : gIm} {Q : gQ} {f : Nat → Int} {m : Int → Int} (hm : MR E w f m) (ok : okM m) {x y : Int} (rx : -2147483648 ≤ x ∧ x < 2147483648) (ry : -2147483648 ≤ y ∧ y < 2147483648) (hQ : ∀ t r w', (t, r) = gWay m x y → MTh E w f m t w' → Q (oV r) w' im) : GM E 2 y_M_way m_M_way 0 0 [.ref (gad E 62), .int (iI x), .int (iI y)] w im Q := by
  obtain ⟨hn, u2, u3⟩ := id hm
  have k2 : g_cell E w im (gad E 62) _ := g_mut 62 (by omega) u2
  have k3 : g_cell E w im (gad E 63) _ := g_mut 63 (by omega) u3
  obtain ⟨z0, z1, z2, z3, z4, z5, z6, z7, z8, z9⟩ := id ok
  refine g_enter (by decide) rfl rfl (fun h => by first | rfl | cases h) (Nat.le_of_ble_eq_true rfl) rfl ?_
  refine g_aload_n (n := 0) (i := 0) rfl rfl d_M_way_0 ?_
  refine g_aload_n (n := 0) (i := 0) rfl rfl d_M_way_1 ?_
  refine g_iload_n (n := 1) (i := 1) rfl rfl d_M_way_2 ?_
  refine g_callV1 rfl rfl e_M_isGate l_M_69 iv_M_isGate 9 (by decide) rfl (by assumption) (by decide) (Nat.zero_le _) (Nat.zero_le _) (Nat.le_of_ble_eq_true rfl) d_M_way_3 (c_M_isGate hm ok rx (fun hA => ?_) (fun hA => ?_))
  · refine g_ret ?_
    refine g_if_eq_i (tgt := 21) (by decide) d_M_way_6 (by decide) (fun h => absurd h (by decide)) (fun h6 => ?_)
    refine g_aload_n (n := 0) (i := 0) rfl rfl d_M_way_9 ?_
    refine g_iload_n (n := 2) (i := 2) rfl rfl d_M_way_10 ?_
    refine g_callV1 rfl rfl e_M_isGate l_M_69 iv_M_isGate 9 (by decide) rfl (by assumption) (by decide) (Nat.zero_le _) (Nat.zero_le _) (Nat.le_of_ble_eq_true rfl) d_M_way_11 (c_M_isGate hm ok ry (fun hB => ?_) (fun hB => ?_))
    · refine g_ret ?_
      refine g_if_eq_i (tgt := 21) (by decide) d_M_way_14 (by decide) (fun h => absurd h (by decide)) (fun h14 => ?_)
      refine g_iconst_i d_M_way_17 ?_
      refine g_goto (tgt := 22) (by decide) d_M_way_18 ?_
      refine g_putA 9 6 62 (by omega) u2 f_M_33 (Or.inl rfl) (by rfl) (by rfl) (Nat.le_of_ble_eq_true rfl) d_M_way_22 (fun w hs hn9 => ?_)
      have hth := hm.th (t := 0) hs hn9
      have hm0 := hm
      have hm := hth.1
      obtain ⟨hn, u2, u3⟩ := id hm
      have k2 : g_cell E w im (gad E 62) _ := g_mut 62 (by omega) u2
      have k3 : g_cell E w im (gad E 63) _ := g_mut 63 (by omega) u3
      refine g_aload_n (n := 0) (i := 0) rfl rfl d_M_way_25 ?_
      refine g_getfield 9 6 f_M_33 k2 (by rfl) d_M_way_26 ?_
      rw [hth.2.1]
      refine g_if_ne_i (tgt := 41) (by decide) d_M_way_29 (by decide) (fun h => absurd h (by decide)) (fun h29 => ?_)
      refine g_aload_n (n := 0) (i := 0) rfl rfl d_M_way_32 ?_
      refine g_iload_n (n := 1) (i := 1) rfl rfl d_M_way_33 ?_
      refine g_iload_n (n := 2) (i := 2) rfl rfl d_M_way_34 ?_
      refine g_callV2 rfl rfl e_M_wayOf l_M_103 iv_M_wayOf 9 (by decide) rfl (by assumption) (by decide) (Nat.zero_le _) (Nat.zero_le _) (Nat.le_of_ble_eq_true rfl) d_M_way_35 (c_M_wayOf hm ok (by omega) (by omega) ?_)
      refine g_ret ?_
      refine g_goto (tgt := 42) (by decide) d_M_way_38 ?_
      refine g_ireturn_i rfl d_M_way_42 ?_
      exact hQ _ _ _ (by unfold gWay; first | (rw [if_pos ⟨hA, hB⟩]; done) | (rw [if_neg (fun h => hA h.1)]; done) | (rw [if_neg (fun h => hB h.2)]; done)) ⟨_, hm, hth.2.1, hth.2.2, hn9⟩
    · refine g_ret ?_
      refine g_if_eq_i (tgt := 21) (by decide) d_M_way_14 (by decide) (fun h14 => ?_) (fun h => absurd h (by decide))
      refine g_iconst_i d_M_way_21 ?_
      refine g_putA 9 6 62 (by omega) u2 f_M_33 (Or.inl rfl) (by rfl) (by rfl) (Nat.le_of_ble_eq_true rfl) d_M_way_22 (fun w hs hn9 => ?_)
      have hth := hm.th (t := 1) hs hn9
      have hm0 := hm
      have hm := hth.1
      obtain ⟨hn, u2, u3⟩ := id hm
      have k2 : g_cell E w im (gad E 62) _ := g_mut 62 (by omega) u2
      have k3 : g_cell E w im (gad E 63) _ := g_mut 63 (by omega) u3
      refine g_aload_n (n := 0) (i := 0) rfl rfl d_M_way_25 ?_
      refine g_getfield 9 6 f_M_33 k2 (by rfl) d_M_way_26 ?_
      rw [hth.2.1]
      refine g_if_ne_i (tgt := 41) (by decide) d_M_way_29 (by decide) (fun h29 => ?_) (fun h => absurd h (by decide))
      refine g_iconst_i d_M_way_41 ?_
      refine g_ireturn_i rfl d_M_way_42 ?_
      exact hQ _ _ _ (by unfold gWay; first | (rw [if_pos ⟨hA, hB⟩]; done) | (rw [if_neg (fun h => hA h.1)]; done) | (rw [if_neg (fun h => hB h.2)]; done)) ⟨_, hm, hth.2.1, hth.2.2, hn9⟩
  · refine g_ret ?_
    refine g_if_eq_i (tgt := 21) (by decide) d_M_way_6 (by decide) (fun h6 => ?_) (fun h => absurd h (by decide))
    refine g_iconst_i d_M_way_21 ?_
    refine g_putA 9 6 62 (by omega) u2 f_M_33 (Or.inl rfl) (by rfl) (by rfl) (Nat.le_of_ble_eq_true rfl) d_M_way_22 (fun w hs hn9 => ?_)
    have hth := hm.th (t := 1) hs hn9
    have hm0 := hm
    have hm := hth.1
    obtain ⟨hn, u2, u3⟩ := id hm
    have k2 : g_cell E w im (gad E 62) _ := g_mut 62 (by omega) u2
    have k3 : g_cell E w im (gad E 63) _ := g_mut 63 (by omega) u3
    refine g_aload_n (n := 0) (i := 0) rfl rfl d_M_way_25 ?_
    refine g_getfield 9 6 f_M_33 k2 (by rfl) d_M_way_26 ?_
    rw [hth.2.1]
    refine g_if_ne_i (tgt := 41) (by decide) d_M_way_29 (by decide) (fun h29 => ?_) (fun h => absurd h (by decide))
    refine g_iconst_i d_M_way_41 ?_
    refine g_ireturn_i rfl d_M_way_42 ?_
    exact hQ _ _ _ (by unfold gWay; first | (rw [if_pos ⟨hA, hB⟩]; done) | (rw [if_neg (fun h => hA h.1)]; done) | (rw [if_neg (fun h => hB h.2)]; done)) ⟨_, hm, hth.2.1, hth.2.2, hn9⟩

theorem c_M_closedMinutes {E : gE} {w : gW} {im : gIm} {Q : gQ} {f : Nat → Int} {m : Int → Int} (hm : MR E w f m) (ok : okM m) {x y : Int} (rx : -2147483648 ≤ x ∧ x < 2147483648) (ry : -2147483648 ≤ y ∧ y < 2147483648) (hQ : ∀ t r w', (t, r) = gClo m x y → MTh E w f m t w' → Q (oV r) w' im) : GM E 2 y_M_closedMinutes m_M_closedMinutes 0 0 [.ref (gad E 62), .int (iI x), .int (iI y)] w im Q := by
  obtain ⟨hn, u2, u3⟩ := id hm
  have k2 : g_cell E w im (gad E 62) _ := g_mut 62 (by omega) u2
  have k3 : g_cell E w im (gad E 63) _ := g_mut 63 (by omega) u3
  obtain ⟨z0, z1, z2, z3, z4, z5, z6, z7, z8, z9⟩ := id ok
  refine g_enter (by decide) rfl rfl (fun h => by first | rfl | cases h) (Nat.le_of_ble_eq_true rfl) rfl ?_
  refine g_aload_n (n := 0) (i := 0) rfl rfl d_M_closedMinutes_0 ?_
  refine g_aload_n (n := 0) (i := 0) rfl rfl d_M_closedMinutes_1 ?_
  refine g_iload_n (n := 1) (i := 1) rfl rfl d_M_closedMinutes_2 ?_
  refine g_callV1 rfl rfl e_M_isGate l_M_69 iv_M_isGate 9 (by decide) rfl (by assumption) (by decide) (Nat.zero_le _) (Nat.zero_le _) (Nat.le_of_ble_eq_true rfl) d_M_closedMinutes_3 (c_M_isGate hm ok rx (fun hA => ?_) (fun hA => ?_))
  · refine g_ret ?_
    refine g_if_ne_i (tgt := 13) (by decide) d_M_closedMinutes_6 (by decide) (fun h6 => ?_) (fun h => absurd h (by decide))
    refine g_iload_n (n := 2) (i := 2) rfl rfl d_M_closedMinutes_13 ?_
    refine g_iconst_i d_M_closedMinutes_14 ?_
    refine g_bipush_i (by decide) d_M_closedMinutes_15 ?_
    refine g_callS3 rfl rfl e_M_isIn l_M_45 st_M_isIn (by decide) (Nat.zero_le _) (Nat.zero_le _) (Nat.le_of_ble_eq_true rfl) d_M_closedMinutes_17 (c_M_isIn (by omega) (by omega) (by omega) (fun hB => ?_) (fun hB => ?_))
    · refine g_ret ?_
      refine g_if_ne_i (tgt := 27) (by decide) d_M_closedMinutes_20 (by decide) (fun h20 => ?_) (fun h => absurd h (by decide))
      refine g_iconst_i d_M_closedMinutes_27 ?_
      refine g_putA 9 6 62 (by omega) u2 f_M_33 (Or.inl rfl) (by rfl) (by rfl) (Nat.le_of_ble_eq_true rfl) d_M_closedMinutes_28 (fun w hs hn9 => ?_)
      have hth := hm.th (t := 0) hs hn9
      have hm0 := hm
      have hm := hth.1
      obtain ⟨hn, u2, u3⟩ := id hm
      have k2 : g_cell E w im (gad E 62) _ := g_mut 62 (by omega) u2
      have k3 : g_cell E w im (gad E 63) _ := g_mut 63 (by omega) u3
      refine g_aload_n (n := 0) (i := 0) rfl rfl d_M_closedMinutes_31 ?_
      refine g_getfield 9 6 f_M_33 k2 (by rfl) d_M_closedMinutes_32 ?_
      rw [hth.2.1]
      refine g_if_ne_i (tgt := 47) (by decide) d_M_closedMinutes_35 (by decide) (fun h => absurd h (by decide)) (fun h35 => ?_)
      refine g_aload_n (n := 0) (i := 0) rfl rfl d_M_closedMinutes_38 ?_
      refine g_iload_n (n := 1) (i := 1) rfl rfl d_M_closedMinutes_39 ?_
      refine g_iload_n (n := 2) (i := 2) rfl rfl d_M_closedMinutes_40 ?_
      refine g_callV2 rfl rfl e_M_closedOn l_M_66 iv_M_closedOn 9 (by decide) rfl (by assumption) (by decide) (Nat.zero_le _) (Nat.zero_le _) (Nat.le_of_ble_eq_true rfl) d_M_closedMinutes_41 (c_M_closedOn hm (by omega) (by omega) ?_)
      refine g_ret ?_
      refine g_goto (tgt := 48) (by decide) d_M_closedMinutes_44 ?_
      refine g_ireturn_i rfl d_M_closedMinutes_48 ?_
      exact hQ _ _ _ (by unfold gClo; first | (rw [if_neg hA]; done) | (rw [if_pos hA, if_neg hB]; done) | (rw [if_pos hA, if_pos hB]; done)) ⟨_, hm, hth.2.1, hth.2.2, hn9⟩
    · refine g_ret ?_
      refine g_if_ne_i (tgt := 27) (by decide) d_M_closedMinutes_20 (by decide) (fun h => absurd h (by decide)) (fun h20 => ?_)
      refine g_iconst_i d_M_closedMinutes_23 ?_
      refine g_goto (tgt := 28) (by decide) d_M_closedMinutes_24 ?_
      refine g_putA 9 6 62 (by omega) u2 f_M_33 (Or.inl rfl) (by rfl) (by rfl) (Nat.le_of_ble_eq_true rfl) d_M_closedMinutes_28 (fun w hs hn9 => ?_)
      have hth := hm.th (t := 2) hs hn9
      have hm0 := hm
      have hm := hth.1
      obtain ⟨hn, u2, u3⟩ := id hm
      have k2 : g_cell E w im (gad E 62) _ := g_mut 62 (by omega) u2
      have k3 : g_cell E w im (gad E 63) _ := g_mut 63 (by omega) u3
      refine g_aload_n (n := 0) (i := 0) rfl rfl d_M_closedMinutes_31 ?_
      refine g_getfield 9 6 f_M_33 k2 (by rfl) d_M_closedMinutes_32 ?_
      rw [hth.2.1]
      refine g_if_ne_i (tgt := 47) (by decide) d_M_closedMinutes_35 (by decide) (fun h35 => ?_) (fun h => absurd h (by decide))
      refine g_iconst_i d_M_closedMinutes_47 ?_
      refine g_ireturn_i rfl d_M_closedMinutes_48 ?_
      exact hQ _ _ _ (by unfold gClo; first | (rw [if_neg hA]; done) | (rw [if_pos hA, if_neg hB]; done) | (rw [if_pos hA, if_pos hB]; done)) ⟨_, hm, hth.2.1, hth.2.2, hn9⟩
  · refine g_ret ?_
    refine g_if_ne_i (tgt := 13) (by decide) d_M_closedMinutes_6 (by decide) (fun h => absurd h (by decide)) (fun h6 => ?_)
    refine g_iconst_i d_M_closedMinutes_9 ?_
    refine g_goto (tgt := 28) (by decide) d_M_closedMinutes_10 ?_
    refine g_putA 9 6 62 (by omega) u2 f_M_33 (Or.inl rfl) (by rfl) (by rfl) (Nat.le_of_ble_eq_true rfl) d_M_closedMinutes_28 (fun w hs hn9 => ?_)
    have hth := hm.th (t := 1) hs hn9
    have hm0 := hm
    have hm := hth.1
    obtain ⟨hn, u2, u3⟩ := id hm
    have k2 : g_cell E w im (gad E 62) _ := g_mut 62 (by omega) u2
    have k3 : g_cell E w im (gad E 63) _ := g_mut 63 (by omega) u3
    refine g_aload_n (n := 0) (i := 0) rfl rfl d_M_closedMinutes_31 ?_
    refine g_getfield 9 6 f_M_33 k2 (by rfl) d_M_closedMinutes_32 ?_
    rw [hth.2.1]
    refine g_if_ne_i (tgt := 47) (by decide) d_M_closedMinutes_35 (by decide) (fun h35 => ?_) (fun h => absurd h (by decide))
    refine g_iconst_i d_M_closedMinutes_47 ?_
    refine g_ireturn_i rfl d_M_closedMinutes_48 ?_
    exact hQ _ _ _ (by unfold gClo; first | (rw [if_neg hA]; done) | (rw [if_pos hA, if_neg hB]; done) | (rw [if_pos hA, if_pos hB]; done)) ⟨_, hm, hth.2.1, hth.2.2, hn9⟩

theorem c_M_refundable {E : gE} {w : gW} {im : gIm} {Q : gQ} {f : Nat → Int} {m : Int → Int} (hm : MR E w f m) (ok : okM m) {x : Int} (rx : -2147483648 ≤ x ∧ x < 2147483648) (hQ : ∀ t r w', (t, r) = gRfb m x → MTh E w f m t w' → Q (oV r) w' im) : GM E 5 y_M_refundable m_M_refundable 0 0 [.ref (gad E 62), .int (iI x)] w im Q := by
  obtain ⟨hn, u2, u3⟩ := id hm
  have k2 : g_cell E w im (gad E 62) _ := g_mut 62 (by omega) u2
  have k3 : g_cell E w im (gad E 63) _ := g_mut 63 (by omega) u3
  obtain ⟨z0, z1, z2, z3, z4, z5, z6, z7, z8, z9⟩ := id ok
  refine g_enter (by decide) rfl rfl (fun h => by first | rfl | cases h) (Nat.le_of_ble_eq_true rfl) rfl ?_
  refine g_aload_n (n := 0) (i := 0) rfl rfl d_M_refundable_0 ?_
  refine g_aload_n (n := 0) (i := 0) rfl rfl d_M_refundable_1 ?_
  refine g_iload_n (n := 1) (i := 1) rfl rfl d_M_refundable_2 ?_
  refine g_callV1 rfl rfl e_M_isCard l_M_148 iv_M_isCard 9 (by decide) rfl (by assumption) (by decide) (Nat.zero_le _) (Nat.zero_le _) (Nat.le_of_ble_eq_true rfl) d_M_refundable_3 (c_M_isCard hm ok rx (fun hA => ?_) (fun hA => ?_))
  · refine g_ret ?_
    refine g_if_eq_i (tgt := 13) (by decide) d_M_refundable_6 (by decide) (fun h => absurd h (by decide)) (fun h6 => ?_)
    refine g_iconst_i d_M_refundable_9 ?_
    refine g_goto (tgt := 14) (by decide) d_M_refundable_10 ?_
    refine g_putA 9 6 62 (by omega) u2 f_M_33 (Or.inl rfl) (by rfl) (by rfl) (Nat.le_of_ble_eq_true rfl) d_M_refundable_14 (fun w hs hn9 => ?_)
    have hth := hm.th (t := 0) hs hn9
    have hm0 := hm
    have hm := hth.1
    obtain ⟨hn, u2, u3⟩ := id hm
    have k2 : g_cell E w im (gad E 62) _ := g_mut 62 (by omega) u2
    have k3 : g_cell E w im (gad E 63) _ := g_mut 63 (by omega) u3
    refine g_aload_n (n := 0) (i := 0) rfl rfl d_M_refundable_17 ?_
    refine g_getfield 9 6 f_M_33 k2 (by rfl) d_M_refundable_18 ?_
    rw [hth.2.1]
    refine g_if_ne_i (tgt := 32) (by decide) d_M_refundable_21 (by decide) (fun h => absurd h (by decide)) (fun h21 => ?_)
    refine g_aload_n (n := 0) (i := 0) rfl rfl d_M_refundable_24 ?_
    refine g_iload_n (n := 1) (i := 1) rfl rfl d_M_refundable_25 ?_
    refine g_callV1 rfl rfl e_M_refundOf l_M_172 iv_M_refundOf 9 (by decide) rfl (by assumption) (by decide) (Nat.zero_le _) (Nat.zero_le _) (Nat.le_of_ble_eq_true rfl) d_M_refundable_26 (c_M_refundOf hm ok (by omega) ?_)
    refine g_ret ?_
    refine g_goto (tgt := 33) (by decide) d_M_refundable_29 ?_
    refine g_ireturn_i rfl d_M_refundable_33 ?_
    exact hQ _ _ _ (by unfold gRfb; first | (rw [if_neg hA]; done) | (rw [if_pos hA]; done)) ⟨_, hm, hth.2.1, hth.2.2, hn9⟩
  · refine g_ret ?_
    refine g_if_eq_i (tgt := 13) (by decide) d_M_refundable_6 (by decide) (fun h6 => ?_) (fun h => absurd h (by decide))
    refine g_iconst_i d_M_refundable_13 ?_
    refine g_putA 9 6 62 (by omega) u2 f_M_33 (Or.inl rfl) (by rfl) (by rfl) (Nat.le_of_ble_eq_true rfl) d_M_refundable_14 (fun w hs hn9 => ?_)
    have hth := hm.th (t := 1) hs hn9
    have hm0 := hm
    have hm := hth.1
    obtain ⟨hn, u2, u3⟩ := id hm
    have k2 : g_cell E w im (gad E 62) _ := g_mut 62 (by omega) u2
    have k3 : g_cell E w im (gad E 63) _ := g_mut 63 (by omega) u3
    refine g_aload_n (n := 0) (i := 0) rfl rfl d_M_refundable_17 ?_
    refine g_getfield 9 6 f_M_33 k2 (by rfl) d_M_refundable_18 ?_
    rw [hth.2.1]
    refine g_if_ne_i (tgt := 32) (by decide) d_M_refundable_21 (by decide) (fun h21 => ?_) (fun h => absurd h (by decide))
    refine g_iconst_i d_M_refundable_32 ?_
    refine g_ireturn_i rfl d_M_refundable_33 ?_
    exact hQ _ _ _ (by unfold gRfb; first | (rw [if_neg hA]; done) | (rw [if_pos hA]; done)) ⟨_, hm, hth.2.1, hth.2.2, hn9⟩

theorem c_M_share {E : gE} {w : gW} {im : gIm} {Q : gQ} {f : Nat → Int} {m : Int → Int} (hm : MR E w f m) (ok : okM m) {x y : Int} (rx : -2147483648 ≤ x ∧ x < 2147483648) (ry : -2147483648 ≤ y ∧ y < 2147483648) (hQ : ∀ t r w', (t, r) = gSha m x y → MTh E w f m t w' → Q (oV r) w' im) : GM E 3 y_M_share m_M_share 0 0 [.ref (gad E 62), .int (iI x), .int (iI y)] w im Q := by
  obtain ⟨hn, u2, u3⟩ := id hm
  have k2 : g_cell E w im (gad E 62) _ := g_mut 62 (by omega) u2
  have k3 : g_cell E w im (gad E 63) _ := g_mut 63 (by omega) u3
  obtain ⟨z0, z1, z2, z3, z4, z5, z6, z7, z8, z9⟩ := id ok
  refine g_enter (by decide) rfl rfl (fun h => by first | rfl | cases h) (Nat.le_of_ble_eq_true rfl) rfl ?_
  refine g_aload_n (n := 0) (i := 0) rfl rfl d_M_share_0 ?_
  refine g_aload_n (n := 0) (i := 0) rfl rfl d_M_share_1 ?_
  refine g_iload_n (n := 1) (i := 1) rfl rfl d_M_share_2 ?_
  refine g_callV1 rfl rfl e_M_isCard l_M_148 iv_M_isCard 9 (by decide) rfl (by assumption) (by decide) (Nat.zero_le _) (Nat.zero_le _) (Nat.le_of_ble_eq_true rfl) d_M_share_3 (c_M_isCard hm ok rx (fun hA => ?_) (fun hA => ?_))
  · refine g_ret ?_
    refine g_if_eq_i (tgt := 22) (by decide) d_M_share_6 (by decide) (fun h => absurd h (by decide)) (fun h6 => ?_)
    refine g_iload_n (n := 2) (i := 2) rfl rfl d_M_share_9 ?_
    refine g_iconst_i d_M_share_10 ?_
    refine g_iconst_i d_M_share_11 ?_
    refine g_callS3 rfl rfl e_M_isIn l_M_45 st_M_isIn (by decide) (Nat.zero_le _) (Nat.zero_le _) (Nat.le_of_ble_eq_true rfl) d_M_share_12 (c_M_isIn (by omega) (by omega) (by omega) (fun hB => ?_) (fun hB => ?_))
    · refine g_ret ?_
      refine g_if_eq_i (tgt := 22) (by decide) d_M_share_15 (by decide) (fun h => absurd h (by decide)) (fun h15 => ?_)
      refine g_iconst_i d_M_share_18 ?_
      refine g_goto (tgt := 23) (by decide) d_M_share_19 ?_
      refine g_putA 9 6 62 (by omega) u2 f_M_33 (Or.inl rfl) (by rfl) (by rfl) (Nat.le_of_ble_eq_true rfl) d_M_share_23 (fun w hs hn9 => ?_)
      have hth := hm.th (t := 0) hs hn9
      have hm0 := hm
      have hm := hth.1
      obtain ⟨hn, u2, u3⟩ := id hm
      have k2 : g_cell E w im (gad E 62) _ := g_mut 62 (by omega) u2
      have k3 : g_cell E w im (gad E 63) _ := g_mut 63 (by omega) u3
      refine g_aload_n (n := 0) (i := 0) rfl rfl d_M_share_26 ?_
      refine g_getfield 9 6 f_M_33 k2 (by rfl) d_M_share_27 ?_
      rw [hth.2.1]
      refine g_if_ne_i (tgt := 42) (by decide) d_M_share_30 (by decide) (fun h => absurd h (by decide)) (fun h30 => ?_)
      refine g_aload_n (n := 0) (i := 0) rfl rfl d_M_share_33 ?_
      refine g_iload_n (n := 1) (i := 1) rfl rfl d_M_share_34 ?_
      refine g_iload_n (n := 2) (i := 2) rfl rfl d_M_share_35 ?_
      refine g_callV2 rfl rfl e_M_shareOf l_M_181 iv_M_shareOf 9 (by decide) rfl (by assumption) (by decide) (Nat.zero_le _) (Nat.zero_le _) (Nat.le_of_ble_eq_true rfl) d_M_share_36 (c_M_shareOf hm ok (by omega) (by omega) ?_)
      refine g_ret ?_
      refine g_goto (tgt := 43) (by decide) d_M_share_39 ?_
      refine g_ireturn_i rfl d_M_share_43 ?_
      exact hQ _ _ _ (by unfold gSha; first | (rw [if_pos ⟨hA, hB⟩]; done) | (rw [if_neg (fun h => hA h.1)]; done) | (rw [if_neg (fun h => hB h.2)]; done)) ⟨_, hm, hth.2.1, hth.2.2, hn9⟩
    · refine g_ret ?_
      refine g_if_eq_i (tgt := 22) (by decide) d_M_share_15 (by decide) (fun h15 => ?_) (fun h => absurd h (by decide))
      refine g_iconst_i d_M_share_22 ?_
      refine g_putA 9 6 62 (by omega) u2 f_M_33 (Or.inl rfl) (by rfl) (by rfl) (Nat.le_of_ble_eq_true rfl) d_M_share_23 (fun w hs hn9 => ?_)
      have hth := hm.th (t := 1) hs hn9
      have hm0 := hm
      have hm := hth.1
      obtain ⟨hn, u2, u3⟩ := id hm
      have k2 : g_cell E w im (gad E 62) _ := g_mut 62 (by omega) u2
      have k3 : g_cell E w im (gad E 63) _ := g_mut 63 (by omega) u3
      refine g_aload_n (n := 0) (i := 0) rfl rfl d_M_share_26 ?_
      refine g_getfield 9 6 f_M_33 k2 (by rfl) d_M_share_27 ?_
      rw [hth.2.1]
      refine g_if_ne_i (tgt := 42) (by decide) d_M_share_30 (by decide) (fun h30 => ?_) (fun h => absurd h (by decide))
      refine g_iconst_i d_M_share_42 ?_
      refine g_ireturn_i rfl d_M_share_43 ?_
      exact hQ _ _ _ (by unfold gSha; first | (rw [if_pos ⟨hA, hB⟩]; done) | (rw [if_neg (fun h => hA h.1)]; done) | (rw [if_neg (fun h => hB h.2)]; done)) ⟨_, hm, hth.2.1, hth.2.2, hn9⟩
  · refine g_ret ?_
    refine g_if_eq_i (tgt := 22) (by decide) d_M_share_6 (by decide) (fun h6 => ?_) (fun h => absurd h (by decide))
    refine g_iconst_i d_M_share_22 ?_
    refine g_putA 9 6 62 (by omega) u2 f_M_33 (Or.inl rfl) (by rfl) (by rfl) (Nat.le_of_ble_eq_true rfl) d_M_share_23 (fun w hs hn9 => ?_)
    have hth := hm.th (t := 1) hs hn9
    have hm0 := hm
    have hm := hth.1
    obtain ⟨hn, u2, u3⟩ := id hm
    have k2 : g_cell E w im (gad E 62) _ := g_mut 62 (by omega) u2
    have k3 : g_cell E w im (gad E 63) _ := g_mut 63 (by omega) u3
    refine g_aload_n (n := 0) (i := 0) rfl rfl d_M_share_26 ?_
    refine g_getfield 9 6 f_M_33 k2 (by rfl) d_M_share_27 ?_
    rw [hth.2.1]
    refine g_if_ne_i (tgt := 42) (by decide) d_M_share_30 (by decide) (fun h30 => ?_) (fun h => absurd h (by decide))
    refine g_iconst_i d_M_share_42 ?_
    refine g_ireturn_i rfl d_M_share_43 ?_
    exact hQ _ _ _ (by unfold gSha; first | (rw [if_pos ⟨hA, hB⟩]; done) | (rw [if_neg (fun h => hA h.1)]; done) | (rw [if_neg (fun h => hB h.2)]; done)) ⟨_, hm, hth.2.1, hth.2.2, hn9⟩

theorem c_M_isClosedDay {E : gE} {w : gW} {im : gIm} {Q : gQ} {f : Nat → Int} {m : Int → Int} (hm : MR E w f m) (ok : okM m) {x y : Int} (rx : -2147483648 ≤ x ∧ x < 2147483648) (ry : -2147483648 ≤ y ∧ y < 2147483648) (hQ : ∀ t r w', (t, r) = gCld m x y → MTh E w f m t w' → Q (oV r) w' im) : GM E 3 y_M_isClosedDay m_M_isClosedDay 0 0 [.ref (gad E 62), .int (iI x), .int (iI y)] w im Q := by
  obtain ⟨hn, u2, u3⟩ := id hm
  have k2 : g_cell E w im (gad E 62) _ := g_mut 62 (by omega) u2
  have k3 : g_cell E w im (gad E 63) _ := g_mut 63 (by omega) u3
  obtain ⟨z0, z1, z2, z3, z4, z5, z6, z7, z8, z9⟩ := id ok
  refine g_enter (by decide) rfl rfl (fun h => by first | rfl | cases h) (Nat.le_of_ble_eq_true rfl) rfl ?_
  refine g_aload_n (n := 0) (i := 0) rfl rfl d_M_isClosedDay_0 ?_
  refine g_aload_n (n := 0) (i := 0) rfl rfl d_M_isClosedDay_1 ?_
  refine g_iload_n (n := 1) (i := 1) rfl rfl d_M_isClosedDay_2 ?_
  refine g_callV1 rfl rfl e_M_isProduct l_M_93 iv_M_isProduct 9 (by decide) rfl (by assumption) (by decide) (Nat.zero_le _) (Nat.zero_le _) (Nat.le_of_ble_eq_true rfl) d_M_isClosedDay_3 (c_M_isProduct hm ok rx (fun hA => ?_) (fun hA => ?_))
  · refine g_ret ?_
    refine g_if_ne_i (tgt := 13) (by decide) d_M_isClosedDay_6 (by decide) (fun h6 => ?_) (fun h => absurd h (by decide))
    refine g_iload_n (n := 2) (i := 2) rfl rfl d_M_isClosedDay_13 ?_
    refine g_iconst_i d_M_isClosedDay_14 ?_
    refine g_bipush_i (by decide) d_M_isClosedDay_15 ?_
    refine g_callS3 rfl rfl e_M_isIn l_M_45 st_M_isIn (by decide) (Nat.zero_le _) (Nat.zero_le _) (Nat.le_of_ble_eq_true rfl) d_M_isClosedDay_17 (c_M_isIn (by omega) (by omega) (by omega) (fun hB => ?_) (fun hB => ?_))
    · refine g_ret ?_
      refine g_if_ne_i (tgt := 27) (by decide) d_M_isClosedDay_20 (by decide) (fun h20 => ?_) (fun h => absurd h (by decide))
      refine g_iconst_i d_M_isClosedDay_27 ?_
      refine g_putA 9 6 62 (by omega) u2 f_M_33 (Or.inl rfl) (by rfl) (by rfl) (Nat.le_of_ble_eq_true rfl) d_M_isClosedDay_28 (fun w hs hn9 => ?_)
      have hth := hm.th (t := 0) hs hn9
      have hm0 := hm
      have hm := hth.1
      obtain ⟨hn, u2, u3⟩ := id hm
      have k2 : g_cell E w im (gad E 62) _ := g_mut 62 (by omega) u2
      have k3 : g_cell E w im (gad E 63) _ := g_mut 63 (by omega) u3
      refine g_aload_n (n := 0) (i := 0) rfl rfl d_M_isClosedDay_31 ?_
      refine g_getfield 9 6 f_M_33 k2 (by rfl) d_M_isClosedDay_32 ?_
      rw [hth.2.1]
      refine g_if_ne_i (tgt := 51) (by decide) d_M_isClosedDay_35 (by decide) (fun h => absurd h (by decide)) (fun h35 => ?_)
      refine g_aload_n (n := 0) (i := 0) rfl rfl d_M_isClosedDay_38 ?_
      refine g_iload_n (n := 1) (i := 1) rfl rfl d_M_isClosedDay_39 ?_
      refine g_iload_n (n := 2) (i := 2) rfl rfl d_M_isClosedDay_40 ?_
      refine g_callV2 rfl rfl e_M_isClosed l_M_123 iv_M_isClosed 9 (by decide) rfl (by assumption) (by decide) (Nat.zero_le _) (Nat.zero_le _) (Nat.le_of_ble_eq_true rfl) d_M_isClosedDay_41 (c_M_isClosed hm ok (by omega) (by omega) (fun hC => ?_) (fun hC => ?_))
      · refine g_ret ?_
        refine g_if_eq_i (tgt := 51) (by decide) d_M_isClosedDay_44 (by decide) (fun h => absurd h (by decide)) (fun h44 => ?_)
        refine g_iconst_i d_M_isClosedDay_47 ?_
        refine g_goto (tgt := 52) (by decide) d_M_isClosedDay_48 ?_
        refine g_ireturn_1 rfl d_M_isClosedDay_52 ?_
        exact hQ _ _ _ (by unfold gCld; first | (rw [if_neg hA]; done) | (rw [if_pos hA, if_neg hB]; done) | (rw [if_pos hA, if_pos hB, if_pos hC]; done) | (rw [if_pos hA, if_pos hB, if_neg hC]; done)) ⟨_, hm, hth.2.1, hth.2.2, hn9⟩
      · refine g_ret ?_
        refine g_if_eq_i (tgt := 51) (by decide) d_M_isClosedDay_44 (by decide) (fun h44 => ?_) (fun h => absurd h (by decide))
        refine g_iconst_i d_M_isClosedDay_51 ?_
        refine g_ireturn_0 rfl d_M_isClosedDay_52 ?_
        exact hQ _ _ _ (by unfold gCld; first | (rw [if_neg hA]; done) | (rw [if_pos hA, if_neg hB]; done) | (rw [if_pos hA, if_pos hB, if_pos hC]; done) | (rw [if_pos hA, if_pos hB, if_neg hC]; done)) ⟨_, hm, hth.2.1, hth.2.2, hn9⟩
    · refine g_ret ?_
      refine g_if_ne_i (tgt := 27) (by decide) d_M_isClosedDay_20 (by decide) (fun h => absurd h (by decide)) (fun h20 => ?_)
      refine g_iconst_i d_M_isClosedDay_23 ?_
      refine g_goto (tgt := 28) (by decide) d_M_isClosedDay_24 ?_
      refine g_putA 9 6 62 (by omega) u2 f_M_33 (Or.inl rfl) (by rfl) (by rfl) (Nat.le_of_ble_eq_true rfl) d_M_isClosedDay_28 (fun w hs hn9 => ?_)
      have hth := hm.th (t := 2) hs hn9
      have hm0 := hm
      have hm := hth.1
      obtain ⟨hn, u2, u3⟩ := id hm
      have k2 : g_cell E w im (gad E 62) _ := g_mut 62 (by omega) u2
      have k3 : g_cell E w im (gad E 63) _ := g_mut 63 (by omega) u3
      refine g_aload_n (n := 0) (i := 0) rfl rfl d_M_isClosedDay_31 ?_
      refine g_getfield 9 6 f_M_33 k2 (by rfl) d_M_isClosedDay_32 ?_
      rw [hth.2.1]
      refine g_if_ne_i (tgt := 51) (by decide) d_M_isClosedDay_35 (by decide) (fun h35 => ?_) (fun h => absurd h (by decide))
      refine g_iconst_i d_M_isClosedDay_51 ?_
      refine g_ireturn_0 rfl d_M_isClosedDay_52 ?_
      exact hQ _ _ _ (by unfold gCld; first | (rw [if_neg hA]; done) | (rw [if_pos hA, if_neg hB]; done) | (rw [if_pos hA, if_pos hB, if_pos hC]; done) | (rw [if_pos hA, if_pos hB, if_neg hC]; done)) ⟨_, hm, hth.2.1, hth.2.2, hn9⟩
  · refine g_ret ?_
    refine g_if_ne_i (tgt := 13) (by decide) d_M_isClosedDay_6 (by decide) (fun h => absurd h (by decide)) (fun h6 => ?_)
    refine g_iconst_i d_M_isClosedDay_9 ?_
    refine g_goto (tgt := 28) (by decide) d_M_isClosedDay_10 ?_
    refine g_putA 9 6 62 (by omega) u2 f_M_33 (Or.inl rfl) (by rfl) (by rfl) (Nat.le_of_ble_eq_true rfl) d_M_isClosedDay_28 (fun w hs hn9 => ?_)
    have hth := hm.th (t := 1) hs hn9
    have hm0 := hm
    have hm := hth.1
    obtain ⟨hn, u2, u3⟩ := id hm
    have k2 : g_cell E w im (gad E 62) _ := g_mut 62 (by omega) u2
    have k3 : g_cell E w im (gad E 63) _ := g_mut 63 (by omega) u3
    refine g_aload_n (n := 0) (i := 0) rfl rfl d_M_isClosedDay_31 ?_
    refine g_getfield 9 6 f_M_33 k2 (by rfl) d_M_isClosedDay_32 ?_
    rw [hth.2.1]
    refine g_if_ne_i (tgt := 51) (by decide) d_M_isClosedDay_35 (by decide) (fun h35 => ?_) (fun h => absurd h (by decide))
    refine g_iconst_i d_M_isClosedDay_51 ?_
    refine g_ireturn_0 rfl d_M_isClosedDay_52 ?_
    exact hQ _ _ _ (by unfold gCld; first | (rw [if_neg hA]; done) | (rw [if_pos hA, if_neg hB]; done) | (rw [if_pos hA, if_pos hB, if_pos hC]; done) | (rw [if_pos hA, if_pos hB, if_neg hC]; done)) ⟨_, hm, hth.2.1, hth.2.2, hn9⟩

