/-! ===== the reference: pass ===== -/
def mRide (m : Int → Int) (x g : Int) : Int → Int := uI (uI (uI (uI m (561 + 3 * m 4) x) (561 + 3 * m 4 + 1) g) (561 + 3 * m 4 + 2) (m 0)) 4 (m 4 + 1)
theorem mRide_n {m : Int → Int} {x g j : Int} (h4 : 0 ≤ m 4) (h1 : j ≠ 4) (h2 : j < 561 + 3 * m 4 ∨ 563 + 3 * m 4 < j) : mRide m x g j = m j := by
  unfold mRide
  simp only [uI]
  (repeat' rw [if_neg (by omega)])
theorem mRide_4 {m : Int → Int} {x g : Int} : mRide m x g 4 = m 4 + 1 := uI_s
theorem mRide_c {m : Int → Int} {x g : Int} (h4 : 0 ≤ m 4) : mRide m x g (561 + 3 * m 4 + 0) = x := by
  unfold mRide
  rw [uI_n (by omega), uI_n (by omega), uI_n (by omega), Int.add_zero, uI_s]
theorem mRide_g {m : Int → Int} {x g : Int} (h4 : 0 ≤ m 4) : mRide m x g (561 + 3 * m 4 + 1) = g := by
  unfold mRide
  rw [uI_n (by omega), uI_n (by omega), uI_s]
theorem mRide_t {m : Int → Int} {x g : Int} (h4 : 0 ≤ m 4) : mRide m x g (561 + 3 * m 4 + 2) = m 0 := by
  unfold mRide
  rw [uI_n (by omega), uI_s]
theorem okM_ride {m : Int → Int} {x g : Int} (ok : okM m) (r4 : m 4 < 600) (hx : 0 ≤ x ∧ x < m 3) (hg : 0 ≤ g ∧ g < m 1) : okM (mRide m x g) := by
  obtain ⟨z0, z1, z2, z3, z4, z5, z6, z7, z8, z9⟩ := ok
  have e : ∀ j, j ≠ 4 → (j < 561 + 3 * m 4 ∨ 563 + 3 * m 4 < j) → mRide m x g j = m j := fun j h1 h2 => mRide_n z4.1 h1 h2
  have ec := mRide_c (m := m) (x := x) (g := g) z4.1
  have eg := mRide_g (m := m) (x := x) (g := g) z4.1
  have et := mRide_t (m := m) (x := x) (g := g) z4.1
  have e4 : mRide m x g 4 = m 4 + 1 := mRide_4
  unfold okM
  rw [e 0 (by omega) (by omega), e 1 (by omega) (by omega), e 2 (by omega) (by omega), e 3 (by omega) (by omega), e4]
  refine ⟨z0, z1, z2, z3, by omega, fun j hj => ?_, fun i hi => ?_, fun i hi => ?_, fun i hi => ?_, fun k hk => ?_⟩
  · by_cases h : j = 4
    · subst h; rw [e4]; omega
    · by_cases h2 : j < 561 + 3 * m 4 ∨ 563 + 3 * m 4 < j
      · rw [e j h h2]; exact z5 j hj
      · by_cases h3 : j = 561 + 3 * m 4 + 0
        · subst h3; rw [ec]; omega
        · by_cases h4 : j = 561 + 3 * m 4 + 1
          · subst h4; rw [eg]; omega
          · have h5 : j = 561 + 3 * m 4 + 2 := by omega
            subst h5; rw [et]; omega
  · rw [e _ (by omega) (by omega), e _ (by omega) (by omega), e _ (by omega) (by omega)]; exact z6 i hi
  · rw [e _ (by omega) (by omega), e _ (by omega) (by omega), e _ (by omega) (by omega), e _ (by omega) (by omega), e _ (by omega) (by omega), e _ (by omega) (by omega)]; exact z7 i hi
  · rw [e _ (by omega) (by omega), e _ (by omega) (by omega), e _ (by omega) (by omega), e _ (by omega) (by omega), e _ (by omega) (by omega)]; exact z8 i hi
  · by_cases h : k < m 4
    · rw [e _ (by omega) (by omega), e _ (by omega) (by omega), e _ (by omega) (by omega)]; exact z9 k ⟨hk.1, h⟩
    · have h2 : k = m 4 := by omega
      subst h2; rw [ec, eg, et]; omega
/-- a refused pass: thrown and the refusal have changed -/
def MTr (E : gE) (w : gW) (f : Nat → Int) (m : Int → Int) (r : Int) (w' : gW) : Prop := ∃ f', MR E w' f' m ∧ f' 6 = 2 ∧ f' 7 = r ∧ (∀ i, i ≠ 6 → i ≠ 7 → f' i = f i) ∧ ∀ j, j ≠ 62 → w' j = w j

theorem c_M_pass {E : gE} {w : gW} {im : gIm} {Q : gQ} {f : Nat → Int} {m : Int → Int} (hm : MR E w f m) (ok : okM m) {pa : Int → Int} (u4 : w 64 = intE 28488 pa) (u6 : ∃ tr, w 66 = intE 3561 tr) (r2 : 0 ≤ f 2 ∧ f 2 ≤ 8) (r4 : m 4 < 600) {x y : Int} (rx : -2147483648 ≤ x ∧ x < 2147483648) (ry : -2147483648 ≤ y ∧ y < 2147483648) (hQ1 : ¬ ((0 ≤ x ∧ x < m 3) ∧ (0 ≤ y ∧ y < m 1)) → ∀ w', MTh E w f m 1 w' → Q (oV 0) w' im) (hQ2 : ((0 ≤ x ∧ x < m 3) ∧ (0 ≤ y ∧ y < m 1)) → ∀ r w', rfsM m x y r → r ≠ 0 → MTr E w f m r w' → Q (oV 0) w' im) (hQ3 : ((0 ≤ x ∧ x < m 3) ∧ (0 ≤ y ∧ y < m 1)) → rfsM m x y 0 → ∀ w', MCh E w f m pa (mRide m x y) w' → Q (oV (ridesOnM (mRide m x y) x)) w' im) : GM E 6 y_M_pass m_M_pass 0 0 [.ref (gad E 62), .int (iI x), .int (iI y)] w im Q := by
  obtain ⟨hn, u2, u3⟩ := id hm
  have k2 : g_cell E w im (gad E 62) _ := g_mut 62 (by omega) u2
  have k3 : g_cell E w im (gad E 63) _ := g_mut 63 (by omega) u3
  obtain ⟨z0, z1, z2, z3, z4, z5, z6, z7, z8, z9⟩ := id ok
  refine g_enter (by decide) rfl rfl (fun h => by first | rfl | cases h) (Nat.le_of_ble_eq_true rfl) rfl ?_
  refine g_aload_n (n := 0) (i := 0) rfl rfl d_M_pass_0 ?_
  refine g_aload_n (n := 0) (i := 0) rfl rfl d_M_pass_1 ?_
  refine g_iload_n (n := 1) (i := 1) rfl rfl d_M_pass_2 ?_
  refine g_callV1 rfl rfl e_M_isCard l_M_148 iv_M_isCard 9 (by decide) rfl (by assumption) (by decide) (Nat.zero_le _) (Nat.zero_le _) (Nat.le_of_ble_eq_true rfl) d_M_pass_3 (c_M_isCard hm ok rx (fun hA => ?_) (fun hA => ?_))
  · refine g_ret ?_
    refine g_if_eq_i (tgt := 21) (by decide) d_M_pass_6 (by decide) (fun h => absurd h (by decide)) (fun h6 => ?_)
    refine g_aload_n (n := 0) (i := 0) rfl rfl d_M_pass_9 ?_
    refine g_iload_n (n := 2) (i := 2) rfl rfl d_M_pass_10 ?_
    refine g_callV1 rfl rfl e_M_isGate l_M_69 iv_M_isGate 9 (by decide) rfl (by assumption) (by decide) (Nat.zero_le _) (Nat.zero_le _) (Nat.le_of_ble_eq_true rfl) d_M_pass_11 (c_M_isGate hm ok ry (fun hB => ?_) (fun hB => ?_))
    · refine g_ret ?_
      refine g_if_eq_i (tgt := 21) (by decide) d_M_pass_14 (by decide) (fun h => absurd h (by decide)) (fun h14 => ?_)
      refine g_iconst_i d_M_pass_17 ?_
      refine g_goto (tgt := 22) (by decide) d_M_pass_18 ?_
      refine g_putA 9 6 62 (by omega) u2 f_M_33 (Or.inl rfl) (by rfl) (by rfl) (Nat.le_of_ble_eq_true rfl) d_M_pass_22 (fun w hs hn9 => ?_)
      have hth := hm.th (t := 0) hs hn9
      have hm0 := hm
      have hm := hth.1
      obtain ⟨hn, u2, u3⟩ := id hm
      have k2 : g_cell E w im (gad E 62) _ := g_mut 62 (by omega) u2
      have k3 : g_cell E w im (gad E 63) _ := g_mut 63 (by omega) u3
      have u4 := (hn9 64 (by omega)).trans u4
      have u6 : ∃ tr, w 66 = intE 3561 tr := by obtain ⟨tr, u6⟩ := u6; exact ⟨tr, (hn9 66 (by omega)).trans u6⟩
      have r22 : 0 ≤ fU f 6 (0) 2 ∧ fU f 6 (0) 2 ≤ 8 := r2
      refine g_aload_n (n := 0) (i := 0) rfl rfl d_M_pass_25 ?_
      refine g_getfield 9 6 f_M_33 k2 (by rfl) d_M_pass_26 ?_
      rw [hth.2.1]
      refine g_if_eq_i (tgt := 34) (by decide) d_M_pass_29 (by decide) (fun h29 => ?_) (fun h => absurd h (by decide))
      refine g_aload_n (n := 0) (i := 0) rfl rfl d_M_pass_34 ?_
      refine g_iload_n (n := 1) (i := 1) rfl rfl d_M_pass_35 ?_
      refine g_iload_n (n := 2) (i := 2) rfl rfl d_M_pass_36 ?_
      refine g_callV2 rfl rfl e_M_refusalBy l_M_151 iv_M_refusalBy 9 (by decide) rfl (by assumption) (by decide) (Nat.zero_le _) (Nat.zero_le _) (Nat.le_of_ble_eq_true rfl) d_M_pass_37 (c_M_refusalBy hm ok (by omega) (by omega) (fun r9 hr9 => ?_))
      refine g_ret ?_
      have hrr : 0 ≤ r9 ∧ r9 ≤ 100 := rfsM_rng ok (by omega) hr9
      refine g_istore_n (n := 3) (i := 3) rfl (by decide) rfl d_M_pass_40 ?_
      refine g_iload_n (n := 3) (i := 3) rfl rfl d_M_pass_41 ?_
      refine g_if_eq_i (tgt := 56) (by omega) d_M_pass_42 (by decide) (fun h42 => ?_) (fun h42 => ?_)
      · refine g_aload_n (n := 0) (i := 0) rfl rfl d_M_pass_56 ?_
        refine g_callV0 rfl rfl e_M_changes l_M_56 iv_M_changes 9 (by decide) rfl (by assumption) (by decide) (Nat.zero_le _) (Nat.zero_le _) (Nat.le_of_ble_eq_true rfl) d_M_pass_57 (c_M_changes hm u4 u6 r22 (fun w hG => ?_))
        refine g_retv ?_
        have hC := MCh.mk hth.2.2 hth.2.1 hn9 hG
        obtain ⟨f5, q5, hm, hC1, hC2, hC3, hC4, hC5, hC6, hC7⟩ := id hC
        obtain ⟨hn, u2, u3⟩ := id hm
        have k2 : g_cell E w im (gad E 62) _ := g_mut 62 (by omega) u2
        have k3 : g_cell E w im (gad E 63) _ := g_mut 63 (by omega) u3
        refine g_sipush_i (by decide) d_M_pass_60 ?_
        refine g_iconst_i d_M_pass_63 ?_
        refine g_aload_n (n := 0) (i := 0) rfl rfl d_M_pass_64 ?_
        refine g_getfield 9 0 f_M_9 (by assumption) (by rfl) d_M_pass_65 ?_
        refine g_iconst_i d_M_pass_68 ?_
        refine g_iaload_i (by assumption) (by omega) (by omega) (by rfl) d_M_pass_69 ?_
        refine g_imul_i d_M_pass_70 ?_
        refine g_iadd_i d_M_pass_71 ?_
        refine g_istore (i := 4) (by decide) rfl d_M_pass_72 ?_
        refine g_aload_n (n := 0) (i := 0) rfl rfl d_M_pass_74 ?_
        refine g_getfield 9 0 f_M_9 (by assumption) (by rfl) d_M_pass_75 ?_
        refine g_iload (i := 4) rfl d_M_pass_78 ?_
        refine g_iload_n (n := 1) (i := 1) rfl rfl d_M_pass_80 ?_
        refine g_iastoreA 63 (by omega) u3 (by omega) (by omega) (by rfl) d_M_pass_81 (fun w hs hn9 => ?_)
        have hC := hC.row hs hn9
        obtain ⟨f5, q5, hm, hC1, hC2, hC3, hC4, hC5, hC6, hC7⟩ := id hC
        obtain ⟨hn, u2, u3⟩ := id hm
        have k2 : g_cell E w im (gad E 62) _ := g_mut 62 (by omega) u2
        have k3 : g_cell E w im (gad E 63) _ := g_mut 63 (by omega) u3
        refine g_aload_n (n := 0) (i := 0) rfl rfl d_M_pass_82 ?_
        refine g_getfield 9 0 f_M_9 (by assumption) (by rfl) d_M_pass_83 ?_
        refine g_iload (i := 4) rfl d_M_pass_86 ?_
        refine g_iconst_i d_M_pass_88 ?_
        refine g_iadd_i d_M_pass_89 ?_
        refine g_iload_n (n := 2) (i := 2) rfl rfl d_M_pass_90 ?_
        refine g_iastoreA 63 (by omega) u3 (by omega) (by omega) (by rfl) d_M_pass_91 (fun w hs hn9 => ?_)
        have hC := hC.row hs hn9
        obtain ⟨f5, q5, hm, hC1, hC2, hC3, hC4, hC5, hC6, hC7⟩ := id hC
        obtain ⟨hn, u2, u3⟩ := id hm
        have k2 : g_cell E w im (gad E 62) _ := g_mut 62 (by omega) u2
        have k3 : g_cell E w im (gad E 63) _ := g_mut 63 (by omega) u3
        refine g_aload_n (n := 0) (i := 0) rfl rfl d_M_pass_92 ?_
        refine g_getfield 9 0 f_M_9 (by assumption) (by rfl) d_M_pass_93 ?_
        refine g_iload (i := 4) rfl d_M_pass_96 ?_
        refine g_iconst_i d_M_pass_98 ?_
        refine g_iadd_i d_M_pass_99 ?_
        refine g_aload_n (n := 0) (i := 0) rfl rfl d_M_pass_100 ?_
        refine g_getfield 9 0 f_M_9 (by assumption) (by rfl) d_M_pass_101 ?_
        refine g_iconst_i d_M_pass_104 ?_
        refine g_iaload_i (by assumption) (by omega) (by omega) (by rfl) d_M_pass_105 ?_
        refine g_iastoreA 63 (by omega) u3 (by omega) (by omega) (by rfl) d_M_pass_106 (fun w hs hn9 => ?_)
        have hC := hC.row hs hn9
        obtain ⟨f5, q5, hm, hC1, hC2, hC3, hC4, hC5, hC6, hC7⟩ := id hC
        obtain ⟨hn, u2, u3⟩ := id hm
        have k2 : g_cell E w im (gad E 62) _ := g_mut 62 (by omega) u2
        have k3 : g_cell E w im (gad E 63) _ := g_mut 63 (by omega) u3
        refine g_aload_n (n := 0) (i := 0) rfl rfl d_M_pass_107 ?_
        refine g_getfield 9 0 f_M_9 (by assumption) (by rfl) d_M_pass_108 ?_
        refine g_iconst_i d_M_pass_111 ?_
        refine g_dup2 rfl rfl d_M_pass_112 ?_
        refine g_iaload_i (by assumption) (by omega) (by omega) (by rfl) d_M_pass_113 ?_
        refine g_iconst_i d_M_pass_114 ?_
        refine g_iadd_i d_M_pass_115 ?_
        refine g_iastoreA 63 (by omega) u3 (by omega) (by omega) (by rfl) d_M_pass_116 (fun w hs hn9 => ?_)
        have hC := hC.row hs hn9
        obtain ⟨f5, q5, hm, hC1, hC2, hC3, hC4, hC5, hC6, hC7⟩ := id hC
        obtain ⟨hn, u2, u3⟩ := id hm
        have k2 : g_cell E w im (gad E 62) _ := g_mut 62 (by omega) u2
        have k3 : g_cell E w im (gad E 63) _ := g_mut 63 (by omega) u3
        have hrow : uI (uI (uI (uI m (561 + 3 * m 4) x) (561 + 3 * m 4 + 1) y) (561 + 3 * m 4 + 2) (uI (uI m (561 + 3 * m 4) x) (561 + 3 * m 4 + 1) y 0)) 4 (uI (uI (uI m (561 + 3 * m 4) x) (561 + 3 * m 4 + 1) y) (561 + 3 * m 4 + 2) (uI (uI m (561 + 3 * m 4) x) (561 + 3 * m 4 + 1) y 0) 4 + 1) = mRide m x y := by
          unfold mRide
          rw [show uI (uI m (561 + 3 * m 4) x) (561 + 3 * m 4 + 1) y 0 = m 0 by rw [uI_n (by omega), uI_n (by omega)]]
          congr 1
          rw [uI_n (by omega), uI_n (by omega), uI_n (by omega)]
        rw [hrow] at hC
        have ok8 := okM_ride ok r4 hA hB
        obtain ⟨f5, q5, hm, hC1, hC2, hC3, hC4, hC5, hC6, hC7⟩ := id hC
        obtain ⟨hn, u2, u3⟩ := id hm
        have k2 : g_cell E w im (gad E 62) _ := g_mut 62 (by omega) u2
        have k3 : g_cell E w im (gad E 63) _ := g_mut 63 (by omega) u3
        refine g_aload_n (n := 0) (i := 0) rfl rfl d_M_pass_117 ?_
        refine g_iload_n (n := 1) (i := 1) rfl rfl d_M_pass_118 ?_
        refine g_callV1 rfl rfl e_M_ridesOn l_M_136 iv_M_ridesOn 9 (by decide) rfl (by assumption) (by decide) (Nat.zero_le _) (Nat.zero_le _) (Nat.le_of_ble_eq_true rfl) d_M_pass_119 (c_M_ridesOn2 hm ok8 (by omega) ?_)
        refine g_ret ?_
        refine g_ireturn_i rfl d_M_pass_122 ?_
        exact hQ3 ⟨hA, hB⟩ ((show r9 = 0 by omega) ▸ hr9) _ hC
      · refine g_aload_n (n := 0) (i := 0) rfl rfl d_M_pass_45 ?_
        refine g_iload_n (n := 3) (i := 3) rfl rfl d_M_pass_46 ?_
        refine g_putA 9 7 62 (by omega) u2 f_M_49 (Or.inl rfl) (by rfl) (by rfl) (Nat.le_of_ble_eq_true rfl) d_M_pass_47 (fun w hs hn99 => ?_)
        have hm : MR E w (fU (fU f 6 0) 7 r9) m := ⟨hn, hs, (hn99 63 (by omega)).trans u3⟩
        obtain ⟨hn, u2, u3⟩ := id hm
        have k2 : g_cell E w im (gad E 62) _ := g_mut 62 (by omega) u2
        have k3 : g_cell E w im (gad E 63) _ := g_mut 63 (by omega) u3
        refine g_aload_n (n := 0) (i := 0) rfl rfl d_M_pass_50 ?_
        refine g_iconst_i d_M_pass_51 ?_
        refine g_callV1 rfl rfl e_M_fail l_M_52 iv_M_fail 9 (by decide) rfl (by assumption) (by decide) (Nat.zero_le _) (Nat.zero_le _) (Nat.le_of_ble_eq_true rfl) d_M_pass_52 (c_M_fail hm (fun w hF => ?_))
        refine g_ret ?_
        refine g_ireturn_i rfl d_M_pass_55 ?_
        obtain ⟨f8, a8, b8, c8, d8⟩ := hF
        exact hQ2 ⟨hA, hB⟩ r9 _ hr9 (by omega) ⟨f8, a8, b8, (c8 7 (by decide)).trans fU_s, fun i hi hj => (c8 i hi).trans ((fU_n hj).trans (fU_n hi)), fun j hj => (d8 j hj).trans ((hn99 j hj).trans (hn9 j hj))⟩
    · refine g_ret ?_
      refine g_if_eq_i (tgt := 21) (by decide) d_M_pass_14 (by decide) (fun h14 => ?_) (fun h => absurd h (by decide))
      refine g_iconst_i d_M_pass_21 ?_
      refine g_putA 9 6 62 (by omega) u2 f_M_33 (Or.inl rfl) (by rfl) (by rfl) (Nat.le_of_ble_eq_true rfl) d_M_pass_22 (fun w hs hn9 => ?_)
      have hth := hm.th (t := 1) hs hn9
      have hm0 := hm
      have hm := hth.1
      obtain ⟨hn, u2, u3⟩ := id hm
      have k2 : g_cell E w im (gad E 62) _ := g_mut 62 (by omega) u2
      have k3 : g_cell E w im (gad E 63) _ := g_mut 63 (by omega) u3
      have u4 := (hn9 64 (by omega)).trans u4
      have u6 : ∃ tr, w 66 = intE 3561 tr := by obtain ⟨tr, u6⟩ := u6; exact ⟨tr, (hn9 66 (by omega)).trans u6⟩
      have r22 : 0 ≤ fU f 6 (1) 2 ∧ fU f 6 (1) 2 ≤ 8 := r2
      refine g_aload_n (n := 0) (i := 0) rfl rfl d_M_pass_25 ?_
      refine g_getfield 9 6 f_M_33 k2 (by rfl) d_M_pass_26 ?_
      rw [hth.2.1]
      refine g_if_eq_i (tgt := 34) (by decide) d_M_pass_29 (by decide) (fun h => absurd h (by decide)) (fun h29 => ?_)
      refine g_iconst_i d_M_pass_32 ?_
      refine g_ireturn_i rfl d_M_pass_33 ?_
      first | exact hQ1 (fun h => hA h.1) _ ⟨_, hm, hth.2.1, hth.2.2, hn9⟩ | exact hQ1 (fun h => hB h.2) _ ⟨_, hm, hth.2.1, hth.2.2, hn9⟩
  · refine g_ret ?_
    refine g_if_eq_i (tgt := 21) (by decide) d_M_pass_6 (by decide) (fun h6 => ?_) (fun h => absurd h (by decide))
    refine g_iconst_i d_M_pass_21 ?_
    refine g_putA 9 6 62 (by omega) u2 f_M_33 (Or.inl rfl) (by rfl) (by rfl) (Nat.le_of_ble_eq_true rfl) d_M_pass_22 (fun w hs hn9 => ?_)
    have hth := hm.th (t := 1) hs hn9
    have hm0 := hm
    have hm := hth.1
    obtain ⟨hn, u2, u3⟩ := id hm
    have k2 : g_cell E w im (gad E 62) _ := g_mut 62 (by omega) u2
    have k3 : g_cell E w im (gad E 63) _ := g_mut 63 (by omega) u3
    have u4 := (hn9 64 (by omega)).trans u4
    have u6 : ∃ tr, w 66 = intE 3561 tr := by obtain ⟨tr, u6⟩ := u6; exact ⟨tr, (hn9 66 (by omega)).trans u6⟩
    have r22 : 0 ≤ fU f 6 (1) 2 ∧ fU f 6 (1) 2 ≤ 8 := r2
    refine g_aload_n (n := 0) (i := 0) rfl rfl d_M_pass_25 ?_
    refine g_getfield 9 6 f_M_33 k2 (by rfl) d_M_pass_26 ?_
    rw [hth.2.1]
    refine g_if_eq_i (tgt := 34) (by decide) d_M_pass_29 (by decide) (fun h => absurd h (by decide)) (fun h29 => ?_)
    refine g_iconst_i d_M_pass_32 ?_
    refine g_ireturn_i rfl d_M_pass_33 ?_
    first | exact hQ1 (fun h => hA h.1) _ ⟨_, hm, hth.2.1, hth.2.2, hn9⟩ | exact hQ1 (fun h => hB h.2) _ ⟨_, hm, hth.2.1, hth.2.2, hn9⟩

