/-! ===== the reference: closed days, refunds ===== -/
def cntGM (m : Int → Int) (x : Int) : Int := sumZ (fun k9 => if tb (m (413 + 6 * x + 4)) (m (5 + 34 * k9 + 0)) = true then 1 else 0) (m 1)
def minGM (m : Int → Int) (x d : Int) : Int := sumZ (fun k9 => if tb (m (413 + 6 * x + 4)) (m (5 + 34 * k9 + 0)) = true then m (5 + 34 * k9 + (3 + d)) else 0) (m 1)
def isClB (m : Int → Int) (x d : Int) : Bool := decide (0 < cntGM m x) && decide (480 * cntGM m x ≤ 2 * minGM m x d)
def hasDM (m : Int → Int) (x d : Int) : Nat → Bool
  | 0 => false
  | n + 1 => hasDM m x d n || (decide (m (561 + 3 * (n : Int) + 0) = x) && decide (m (561 + 3 * (n : Int) + 2) / 1440 = d))
def daysM (m : Int → Int) (x ca : Int) : Int := sumZ (fun k9 => if hasDM m x k9 (m 4).toNat = true then (if ca = 0 then 1 else if isClB m (m (461 + 5 * x + 0)) k9 = true then 1 else 0) else 0) 31
theorem hasDM_t {m : Int → Int} {x d : Int} {n : Nat} (h : hasDM m x d n = true) : hasDM m x d (n + 1) = true := by rw [hasDM, h, Bool.true_or]
theorem hasDM_n {m : Int → Int} {x d k : Int} {n : Nat} (h : hasDM m x d n = false) (hk : (n : Int) = k) (h1 : m (561 + 3 * k + 0) = x) (h2 : m (561 + 3 * k + 2) / 1440 = d) : hasDM m x d (n + 1) = true := by
  rw [hasDM, h, hk, decide_eq_true h1, decide_eq_true h2]; rfl
theorem hasDM_1 {m : Int → Int} {x d k : Int} {n : Nat} (h : hasDM m x d n = false) (hk : (n : Int) = k) (h1 : ¬ m (561 + 3 * k + 0) = x) : hasDM m x d (n + 1) = false := by
  rw [hasDM, h, hk, decide_eq_false h1]; rfl
theorem hasDM_2 {m : Int → Int} {x d k : Int} {n : Nat} (h : hasDM m x d n = false) (hk : (n : Int) = k) (h2 : ¬ m (561 + 3 * k + 2) / 1440 = d) : hasDM m x d (n + 1) = false := by
  rw [hasDM, h, hk, decide_eq_false h2, Bool.and_false]; rfl

theorem sumZ_p1 {f : Int → Int} {n : Int} (h : 0 ≤ n) : sumZ (fun k9 => f k9 + 1) n = sumZ f n + n := by
  obtain ⟨d, rfl⟩ : ∃ d : Nat, n = d := ⟨n.toNat, by omega⟩
  clear h
  induction d with
  | zero => rfl
  | succ d ih => rw [show ((d + 1 : Nat) : Int) = (d : Int) + 1 by omega, sumZ_s (by omega), sumZ_s (by omega), ih]; omega

theorem c_M_isClosed {E : gE} {w : gW} {im : gIm} {Q : gQ} {f : Nat → Int} {m : Int → Int} (hm : MR E w f m) (ok : okM m) {x d : Int} (rx : 0 ≤ x ∧ x < m 2) (rd : 0 ≤ d ∧ d ≤ 30) (hQ1 : (isClB m x d = true) → Q (.inl (some (.int (iI 1)))) w im) (hQ2 : ¬ (isClB m x d = true) → Q (.inl (some (.int (iI 0)))) w im) : GM E 2 y_M_isClosed m_M_isClosed 0 0 [.ref (gad E 62), .int (iI x), .int (iI d)] w im Q := by
  obtain ⟨hn, u2, u3⟩ := id hm
  have k2 : g_cell E w im (gad E 62) _ := g_mut 62 (by omega) u2
  have k3 : g_cell E w im (gad E 63) _ := g_mut 63 (by omega) u3
  obtain ⟨z0, z1, z2, z3, z4, z5, z6, z7, z8, z9⟩ := id ok
  have zp := z7 x rx
  have hb1 := sumZ_le (f := fun k9 => if tb (m (413 + 6 * x + 4)) (m (5 + 34 * k9 + 0)) = true then 1 else 0) (c := 1) (n := m 1) (by omega) (fun k9 _ _ => by (repeat' split) <;> omega)
  have hb2 := sumZ_le (f := fun k9 => (if tb (m (413 + 6 * x + 4)) (m (5 + 34 * k9 + 0)) = true then m (5 + 34 * k9 + (3 + d)) else 0) + 1) (c := 1000001) (n := m 1) (by omega) (fun k9 ha hb => by have := z5 (5 + 34 * k9 + (3 + d)) (by omega); (repeat' split) <;> omega)
  have hb3 : sumZ (fun k9 => (if tb (m (413 + 6 * x + 4)) (m (5 + 34 * k9 + 0)) = true then m (5 + 34 * k9 + (3 + d)) else 0) + 1) (m 1) = sumZ (fun k9 => if tb (m (413 + 6 * x + 4)) (m (5 + 34 * k9 + 0)) = true then m (5 + 34 * k9 + (3 + d)) else 0) (m 1) + m 1 := sumZ_p1 (by omega)
  have hcb : (0 < cntGM m x ∧ 480 * cntGM m x ≤ 2 * minGM m x d) ↔ isClB m x d = true := by simp [isClB]
  have loop : ∀ (n9 : Nat) (k9 s9 t9 : Int), 0 ≤ k9 → k9 + n9 = m 1 → s9 = sumZ (fun k9 => if tb (m (413 + 6 * x + 4)) (m (5 + 34 * k9 + 0)) = true then 1 else 0) k9 → t9 = sumZ (fun k9 => if tb (m (413 + 6 * x + 4)) (m (5 + 34 * k9 + 0)) = true then m (5 + 34 * k9 + (3 + d)) else 0) k9 → G E 2 m_M_isClosed 8 [(0, .ref (gad E 62)), (1, .int (iI x)), (2, .int (iI d)), (3, .int (iI s9)), (4, .int (iI t9)), (5, .int (iI k9))] [] w im 0 0 Q := by
    intro n9
    induction n9 with
    | zero =>
      intro k9 s9 t9 h9 hk9 hs9 ht9
      have e9 : k9 = m 1 := by omega
      rw [e9] at hs9 ht9
      rw [← hs9] at hb1
      rw [hb3, ← ht9] at hb2
      rw [show cntGM m x = s9 from hs9.symm, show minGM m x d = t9 from ht9.symm] at hcb
      refine g_iload (i := 5) rfl d_M_isClosed_8 ?_
      refine g_aload_n (n := 0) (i := 0) rfl rfl d_M_isClosed_10 ?_
      refine g_getfield 9 0 f_M_9 (by assumption) (by rfl) d_M_isClosed_11 ?_
      refine g_iconst_i d_M_isClosed_14 ?_
      refine g_iaload_i (by assumption) (by omega) (by omega) (by rfl) d_M_isClosed_15 ?_
      refine g_icmp_ge_i (tgt := 77) (by omega) (by omega) d_M_isClosed_16 (by decide) (fun h16 => ?_) (fun h => by exfalso; omega)
      refine g_iload_n (n := 3) (i := 3) rfl rfl d_M_isClosed_77 ?_
      refine g_if_le_i (tgt := 97) (by omega) d_M_isClosed_78 (by decide) (fun h78 => ?_) (fun h78 => ?_)
      · refine g_iconst_i d_M_isClosed_97 ?_
        refine g_ireturn_0 rfl d_M_isClosed_98 ?_
        first | exact hQ1 (hcb.1 (by omega)) | exact hQ2 (fun h9 => by have := hcb.2 h9; omega)
      · refine g_iconst_i d_M_isClosed_81 ?_
        refine g_iload (i := 4) rfl d_M_isClosed_82 ?_
        refine g_imul_i d_M_isClosed_84 ?_
        refine g_sipush_i (by decide) d_M_isClosed_85 ?_
        refine g_iload_n (n := 3) (i := 3) rfl rfl d_M_isClosed_88 ?_
        refine g_imul_i d_M_isClosed_89 ?_
        refine g_icmp_lt_i (tgt := 97) (by omega) (by omega) d_M_isClosed_90 (by decide) (fun h90 => ?_) (fun h90 => ?_)
        · refine g_iconst_i d_M_isClosed_97 ?_
          refine g_ireturn_0 rfl d_M_isClosed_98 ?_
          first | exact hQ1 (hcb.1 (by omega)) | exact hQ2 (fun h9 => by have := hcb.2 h9; omega)
        · refine g_iconst_i d_M_isClosed_93 ?_
          refine g_goto (tgt := 98) (by decide) d_M_isClosed_94 ?_
          refine g_ireturn_1 rfl d_M_isClosed_98 ?_
          first | exact hQ1 (hcb.1 (by omega)) | exact hQ2 (fun h9 => by have := hcb.2 h9; omega)
    | succ n9 ih =>
      intro k9 s9 t9 h9 hk9 hs9 ht9
      have hlt : k9 < m 1 := by omega
      have zi := z6 k9 ⟨h9, hlt⟩
      refine g_iload (i := 5) rfl d_M_isClosed_8 ?_
      refine g_aload_n (n := 0) (i := 0) rfl rfl d_M_isClosed_10 ?_
      refine g_getfield 9 0 f_M_9 (by assumption) (by rfl) d_M_isClosed_11 ?_
      refine g_iconst_i d_M_isClosed_14 ?_
      refine g_iaload_i (by assumption) (by omega) (by omega) (by rfl) d_M_isClosed_15 ?_
      refine g_icmp_ge_i (tgt := 77) (by omega) (by omega) d_M_isClosed_16 (by decide) (fun h => by exfalso; omega) (fun h16 => ?_)
      refine g_aload_n (n := 0) (i := 0) rfl rfl d_M_isClosed_19 ?_
      refine g_iload_n (n := 1) (i := 1) rfl rfl d_M_isClosed_20 ?_
      refine g_iconst_i d_M_isClosed_21 ?_
      refine g_callV2 rfl rfl e_M_p l_M_83 iv_M_p 9 (by decide) rfl (by assumption) (by decide) (Nat.zero_le _) (Nat.zero_le _) (Nat.le_of_ble_eq_true rfl) d_M_isClosed_22 (c_M_p hm (by omega) (by omega) ?_)
      refine g_ret ?_
      refine g_aload_n (n := 0) (i := 0) rfl rfl d_M_isClosed_25 ?_
      refine g_iload (i := 5) rfl d_M_isClosed_26 ?_
      refine g_iconst_i d_M_isClosed_28 ?_
      refine g_callV2 rfl rfl e_M_g l_M_63 iv_M_g 9 (by decide) rfl (by assumption) (by decide) (Nat.zero_le _) (Nat.zero_le _) (Nat.le_of_ble_eq_true rfl) d_M_isClosed_29 (c_M_g hm (by omega) (by omega) ?_)
      refine g_ret ?_
      refine g_callS2 rfl rfl e_M_has l_M_86 st_M_has (by decide) (Nat.zero_le _) (Nat.zero_le _) (Nat.le_of_ble_eq_true rfl) d_M_isClosed_32 (c_M_has (by omega) (fun hB => ?_) (fun hB => ?_))
      · refine g_ret ?_
        refine g_istore (i := 6) (by decide) rfl d_M_isClosed_35 ?_
        refine g_iload_n (n := 3) (i := 3) rfl rfl d_M_isClosed_37 ?_
        refine g_iload (i := 6) rfl d_M_isClosed_38 ?_
        refine g_if_eq_i (tgt := 47) (by decide) d_M_isClosed_40 (by decide) (fun h => absurd h (by decide)) (fun h40 => ?_)
        refine g_iconst_i d_M_isClosed_43 ?_
        refine g_goto (tgt := 48) (by decide) d_M_isClosed_44 ?_
        refine g_iadd_i d_M_isClosed_48 ?_
        refine g_istore_n (n := 3) (i := 3) rfl (by decide) rfl d_M_isClosed_49 ?_
        refine g_iload (i := 4) rfl d_M_isClosed_50 ?_
        refine g_iload (i := 6) rfl d_M_isClosed_52 ?_
        refine g_if_eq_i (tgt := 67) (by decide) d_M_isClosed_54 (by decide) (fun h => absurd h (by decide)) (fun h54 => ?_)
        refine g_aload_n (n := 0) (i := 0) rfl rfl d_M_isClosed_57 ?_
        refine g_iload (i := 5) rfl d_M_isClosed_58 ?_
        refine g_iload_n (n := 2) (i := 2) rfl rfl d_M_isClosed_60 ?_
        refine g_callV2 rfl rfl e_M_closedOn l_M_66 iv_M_closedOn 9 (by decide) rfl (by assumption) (by decide) (Nat.zero_le _) (Nat.zero_le _) (Nat.le_of_ble_eq_true rfl) d_M_isClosed_61 (c_M_closedOn hm (by omega) (by omega) ?_)
        refine g_ret ?_
        refine g_goto (tgt := 68) (by decide) d_M_isClosed_64 ?_
        refine g_iadd_i d_M_isClosed_68 ?_
        refine g_istore (i := 4) (by decide) rfl d_M_isClosed_69 ?_
        refine g_iinc_i (i := 5) rfl (by decide) rfl d_M_isClosed_71 ?_
        refine g_goto (tgt := 8) (by decide) d_M_isClosed_74 ?_
        exact g_cut (lv' := [(0, .ref (gad E 62)), (1, .int (iI x)), (2, .int (iI d)), (3, .int (iI _)), (4, .int (iI _)), (5, .int (iI (k9 + 1)))]) ⟨rfl, rfl, rfl, rfl, rfl, rfl, trivial⟩ (ih (k9 + 1) _ _ (by omega) (by omega) (by rw [sumZ_s (by omega)]; first | (rw [if_pos hB]; omega) | (rw [if_neg hB]; omega)) (by rw [sumZ_s (by omega)]; first | (rw [if_pos hB]; omega) | (rw [if_neg hB]; omega)))
      · refine g_ret ?_
        refine g_istore (i := 6) (by decide) rfl d_M_isClosed_35 ?_
        refine g_iload_n (n := 3) (i := 3) rfl rfl d_M_isClosed_37 ?_
        refine g_iload (i := 6) rfl d_M_isClosed_38 ?_
        refine g_if_eq_i (tgt := 47) (by decide) d_M_isClosed_40 (by decide) (fun h40 => ?_) (fun h => absurd h (by decide))
        refine g_iconst_i d_M_isClosed_47 ?_
        refine g_iadd_i d_M_isClosed_48 ?_
        refine g_istore_n (n := 3) (i := 3) rfl (by decide) rfl d_M_isClosed_49 ?_
        refine g_iload (i := 4) rfl d_M_isClosed_50 ?_
        refine g_iload (i := 6) rfl d_M_isClosed_52 ?_
        refine g_if_eq_i (tgt := 67) (by decide) d_M_isClosed_54 (by decide) (fun h54 => ?_) (fun h => absurd h (by decide))
        refine g_iconst_i d_M_isClosed_67 ?_
        refine g_iadd_i d_M_isClosed_68 ?_
        refine g_istore (i := 4) (by decide) rfl d_M_isClosed_69 ?_
        refine g_iinc_i (i := 5) rfl (by decide) rfl d_M_isClosed_71 ?_
        refine g_goto (tgt := 8) (by decide) d_M_isClosed_74 ?_
        exact g_cut (lv' := [(0, .ref (gad E 62)), (1, .int (iI x)), (2, .int (iI d)), (3, .int (iI _)), (4, .int (iI _)), (5, .int (iI (k9 + 1)))]) ⟨rfl, rfl, rfl, rfl, rfl, rfl, trivial⟩ (ih (k9 + 1) _ _ (by omega) (by omega) (by rw [sumZ_s (by omega)]; first | (rw [if_pos hB]; omega) | (rw [if_neg hB]; omega)) (by rw [sumZ_s (by omega)]; first | (rw [if_pos hB]; omega) | (rw [if_neg hB]; omega)))
  refine g_enter (by decide) rfl rfl (fun h => by first | rfl | cases h) (Nat.le_of_ble_eq_true rfl) rfl ?_
  refine g_iconst_i d_M_isClosed_0 ?_
  refine g_istore_n (n := 3) (i := 3) rfl (by decide) rfl d_M_isClosed_1 ?_
  refine g_iconst_i d_M_isClosed_2 ?_
  refine g_istore (i := 4) (by decide) rfl d_M_isClosed_3 ?_
  refine g_iconst_i d_M_isClosed_5 ?_
  refine g_istore (i := 5) (by decide) rfl d_M_isClosed_6 ?_
  refine g_cut ?_ (loop (m 1).toNat 0 0 0 (by omega) (by omega) rfl rfl)
  exact ⟨rfl, rfl, rfl, rfl, rfl, rfl, trivial⟩

theorem c_M_daysOf {E : gE} {w : gW} {im : gIm} {Q : gQ} {f : Nat → Int} {m : Int → Int} (hm : MR E w f m) (ok : okM m) {x ca : Int} (rx : 0 ≤ x ∧ x < m 3) (rca : 0 ≤ ca ∧ ca ≤ 1) (hQ : Q (.inl (some (.int (iI (daysM m x ca))))) w im) : GM E 3 y_M_daysOf m_M_daysOf 0 0 [.ref (gad E 62), .int (iI x), .int (iI ca)] w im Q := by
  obtain ⟨hn, u2, u3⟩ := id hm
  have k2 : g_cell E w im (gad E 62) _ := g_mut 62 (by omega) u2
  have k3 : g_cell E w im (gad E 63) _ := g_mut 63 (by omega) u3
  obtain ⟨z0, z1, z2, z3, z4, z5, z6, z7, z8, z9⟩ := id ok
  have zx := z8 x rx
  have loop : ∀ (n9 : Nat) (d9 s9 : Int), 0 ≤ d9 → d9 + n9 = 31 → s9 = sumZ (fun k9 => if hasDM m x k9 (m 4).toNat = true then (if ca = 0 then 1 else if isClB m (m (461 + 5 * x + 0)) k9 = true then 1 else 0) else 0) d9 → G E 3 m_M_daysOf 5 [(0, .ref (gad E 62)), (1, .int (iI x)), (2, .int (iI ca)), (3, .int (iI s9)), (4, .int (iI d9))] [] w im 0 0 Q := by
    intro n9
    induction n9 with
    | zero =>
      intro d9 s9 h9 hd9 hs9
      have e9 : d9 = 31 := by omega
      rw [e9] at hs9
      refine g_iload (i := 4) rfl d_M_daysOf_5 ?_
      refine g_bipush_i (by decide) d_M_daysOf_7 ?_
      refine g_icmp_ge_i (tgt := 112) (by omega) (by decide) d_M_daysOf_9 (by decide) (fun h9 => ?_) (fun h => by exfalso; omega)
      refine g_iload_n (n := 3) (i := 3) rfl rfl d_M_daysOf_112 ?_
      refine g_ireturn_i rfl d_M_daysOf_113 ?_
      exact g_qi hQ hs9
    | succ n9 ih =>
      intro d9 s9 h9 hd9 hs9
      have inner : ∀ (n8 j9 : Nat) (k9 e9 : Int), (j9 : Int) = k9 → k9 + n8 = m 4 → ((e9 = 1 ∧ hasDM m x d9 j9 = true) ∨ (e9 = 0 ∧ hasDM m x d9 j9 = false)) → G E 3 m_M_daysOf 18 [(0, .ref (gad E 62)), (1, .int (iI x)), (2, .int (iI ca)), (3, .int (iI s9)), (4, .int (iI d9)), (5, .int (iI e9)), (6, .int (iI k9))] [] w im 0 0 Q := by
        intro n8
        induction n8 with
        | zero =>
          intro j9 k9 e9 hj hk9 hb
          have ej : j9 = (m 4).toNat := by omega
          rw [ej] at hb
          rcases hb with ⟨rfl, hb⟩ | ⟨rfl, hb⟩
          · refine g_iload (i := 6) rfl d_M_daysOf_18 ?_
            refine g_aload_n (n := 0) (i := 0) rfl rfl d_M_daysOf_20 ?_
            refine g_getfield 9 0 f_M_9 (by assumption) (by rfl) d_M_daysOf_21 ?_
            refine g_iconst_i d_M_daysOf_24 ?_
            refine g_iaload_i (by assumption) (by omega) (by omega) (by rfl) d_M_daysOf_25 ?_
            refine g_icmp_ge_i (tgt := 74) (by omega) (by omega) d_M_daysOf_26 (by decide) (fun h26 => ?_) (fun h => by exfalso; omega)
            refine g_iload_n (n := 3) (i := 3) rfl rfl d_M_daysOf_74 ?_
            refine g_iload (i := 5) rfl d_M_daysOf_75 ?_
            refine g_if_eq_i (tgt := 103) (by decide) d_M_daysOf_77 (by decide) (fun h => absurd h (by decide)) (fun h77 => ?_)
            refine g_iload_n (n := 2) (i := 2) rfl rfl d_M_daysOf_80 ?_
            refine g_if_eq_i (tgt := 99) (by omega) d_M_daysOf_81 (by decide) (fun h81 => ?_) (fun h81 => ?_)
            · refine g_iconst_i d_M_daysOf_99 ?_
              refine g_goto (tgt := 104) (by decide) d_M_daysOf_100 ?_
              refine g_iadd_i d_M_daysOf_104 ?_
              refine g_istore_n (n := 3) (i := 3) rfl (by decide) rfl d_M_daysOf_105 ?_
              refine g_iinc_i (i := 4) rfl (by decide) rfl d_M_daysOf_106 ?_
              refine g_goto (tgt := 5) (by decide) d_M_daysOf_109 ?_
              exact g_cut (lv' := [(0, .ref (gad E 62)), (1, .int (iI x)), (2, .int (iI ca)), (3, .int (iI _)), (4, .int (iI (d9 + 1)))]) ⟨rfl, rfl, rfl, rfl, rfl, trivial⟩ (ih (d9 + 1) _ (by omega) (by omega) (by rw [sumZ_s (by omega)]; first | (rw [if_pos hb, if_pos h81, hs9]; done) | (rw [if_pos hb, if_neg h81, if_pos hC, hs9]; done) | (rw [if_pos hb, if_neg h81, if_neg hC, hs9]; done) | (rw [if_neg (by rw [hb]; exact Bool.false_ne_true), hs9]; done)))
            · refine g_aload_n (n := 0) (i := 0) rfl rfl d_M_daysOf_84 ?_
              refine g_aload_n (n := 0) (i := 0) rfl rfl d_M_daysOf_85 ?_
              refine g_iload_n (n := 1) (i := 1) rfl rfl d_M_daysOf_86 ?_
              refine g_iconst_i d_M_daysOf_87 ?_
              refine g_callV2 rfl rfl e_M_c l_M_90 iv_M_c 9 (by decide) rfl (by assumption) (by decide) (Nat.zero_le _) (Nat.zero_le _) (Nat.le_of_ble_eq_true rfl) d_M_daysOf_88 (c_M_c hm (by omega) (by omega) ?_)
              refine g_ret ?_
              refine g_iload (i := 4) rfl d_M_daysOf_91 ?_
              refine g_callV2 rfl rfl e_M_isClosed l_M_123 iv_M_isClosed 9 (by decide) rfl (by assumption) (by decide) (Nat.zero_le _) (Nat.zero_le _) (Nat.le_of_ble_eq_true rfl) d_M_daysOf_93 (c_M_isClosed hm ok (by omega) (by omega) (fun hC => ?_) (fun hC => ?_))
              · refine g_ret ?_
                refine g_if_eq_i (tgt := 103) (by decide) d_M_daysOf_96 (by decide) (fun h => absurd h (by decide)) (fun h96 => ?_)
                refine g_iconst_i d_M_daysOf_99 ?_
                refine g_goto (tgt := 104) (by decide) d_M_daysOf_100 ?_
                refine g_iadd_i d_M_daysOf_104 ?_
                refine g_istore_n (n := 3) (i := 3) rfl (by decide) rfl d_M_daysOf_105 ?_
                refine g_iinc_i (i := 4) rfl (by decide) rfl d_M_daysOf_106 ?_
                refine g_goto (tgt := 5) (by decide) d_M_daysOf_109 ?_
                exact g_cut (lv' := [(0, .ref (gad E 62)), (1, .int (iI x)), (2, .int (iI ca)), (3, .int (iI _)), (4, .int (iI (d9 + 1)))]) ⟨rfl, rfl, rfl, rfl, rfl, trivial⟩ (ih (d9 + 1) _ (by omega) (by omega) (by rw [sumZ_s (by omega)]; first | (rw [if_pos hb, if_pos h81, hs9]; done) | (rw [if_pos hb, if_neg h81, if_pos hC, hs9]; done) | (rw [if_pos hb, if_neg h81, if_neg hC, hs9]; done) | (rw [if_neg (by rw [hb]; exact Bool.false_ne_true), hs9]; done)))
              · refine g_ret ?_
                refine g_if_eq_i (tgt := 103) (by decide) d_M_daysOf_96 (by decide) (fun h96 => ?_) (fun h => absurd h (by decide))
                refine g_iconst_i d_M_daysOf_103 ?_
                refine g_iadd_i d_M_daysOf_104 ?_
                refine g_istore_n (n := 3) (i := 3) rfl (by decide) rfl d_M_daysOf_105 ?_
                refine g_iinc_i (i := 4) rfl (by decide) rfl d_M_daysOf_106 ?_
                refine g_goto (tgt := 5) (by decide) d_M_daysOf_109 ?_
                exact g_cut (lv' := [(0, .ref (gad E 62)), (1, .int (iI x)), (2, .int (iI ca)), (3, .int (iI _)), (4, .int (iI (d9 + 1)))]) ⟨rfl, rfl, rfl, rfl, rfl, trivial⟩ (ih (d9 + 1) _ (by omega) (by omega) (by rw [sumZ_s (by omega)]; first | (rw [if_pos hb, if_pos h81, hs9]; done) | (rw [if_pos hb, if_neg h81, if_pos hC, hs9]; done) | (rw [if_pos hb, if_neg h81, if_neg hC, hs9]; done) | (rw [if_neg (by rw [hb]; exact Bool.false_ne_true), hs9]; done)))
          · refine g_iload (i := 6) rfl d_M_daysOf_18 ?_
            refine g_aload_n (n := 0) (i := 0) rfl rfl d_M_daysOf_20 ?_
            refine g_getfield 9 0 f_M_9 (by assumption) (by rfl) d_M_daysOf_21 ?_
            refine g_iconst_i d_M_daysOf_24 ?_
            refine g_iaload_i (by assumption) (by omega) (by omega) (by rfl) d_M_daysOf_25 ?_
            refine g_icmp_ge_i (tgt := 74) (by omega) (by omega) d_M_daysOf_26 (by decide) (fun h26 => ?_) (fun h => by exfalso; omega)
            refine g_iload_n (n := 3) (i := 3) rfl rfl d_M_daysOf_74 ?_
            refine g_iload (i := 5) rfl d_M_daysOf_75 ?_
            refine g_if_eq_i (tgt := 103) (by decide) d_M_daysOf_77 (by decide) (fun h77 => ?_) (fun h => absurd h (by decide))
            refine g_iconst_i d_M_daysOf_103 ?_
            refine g_iadd_i d_M_daysOf_104 ?_
            refine g_istore_n (n := 3) (i := 3) rfl (by decide) rfl d_M_daysOf_105 ?_
            refine g_iinc_i (i := 4) rfl (by decide) rfl d_M_daysOf_106 ?_
            refine g_goto (tgt := 5) (by decide) d_M_daysOf_109 ?_
            exact g_cut (lv' := [(0, .ref (gad E 62)), (1, .int (iI x)), (2, .int (iI ca)), (3, .int (iI _)), (4, .int (iI (d9 + 1)))]) ⟨rfl, rfl, rfl, rfl, rfl, trivial⟩ (ih (d9 + 1) _ (by omega) (by omega) (by rw [sumZ_s (by omega)]; first | (rw [if_pos hb, if_pos h81, hs9]; done) | (rw [if_pos hb, if_neg h81, if_pos hC, hs9]; done) | (rw [if_pos hb, if_neg h81, if_neg hC, hs9]; done) | (rw [if_neg (by rw [hb]; exact Bool.false_ne_true), hs9]; done)))
        | succ n8 ih2 =>
          intro j9 k9 e9 hj hk9 hb
          have hlt : k9 < m 4 := by omega
          have zi := z9 k9 ⟨by omega, hlt⟩
          rcases hb with ⟨rfl, hb⟩ | ⟨rfl, hb⟩
          · refine g_iload (i := 6) rfl d_M_daysOf_18 ?_
            refine g_aload_n (n := 0) (i := 0) rfl rfl d_M_daysOf_20 ?_
            refine g_getfield 9 0 f_M_9 (by assumption) (by rfl) d_M_daysOf_21 ?_
            refine g_iconst_i d_M_daysOf_24 ?_
            refine g_iaload_i (by assumption) (by omega) (by omega) (by rfl) d_M_daysOf_25 ?_
            refine g_icmp_ge_i (tgt := 74) (by omega) (by omega) d_M_daysOf_26 (by decide) (fun h => by exfalso; omega) (fun h26 => ?_)
            refine g_iload (i := 5) rfl d_M_daysOf_29 ?_
            refine g_if_ne_i (tgt := 61) (by decide) d_M_daysOf_31 (by decide) (fun h31 => ?_) (fun h => absurd h (by decide))
            refine g_iconst_i d_M_daysOf_61 ?_
            refine g_goto (tgt := 66) (by decide) d_M_daysOf_62 ?_
            refine g_istore (i := 5) (by decide) rfl d_M_daysOf_66 ?_
            refine g_iinc_i (i := 6) rfl (by decide) rfl d_M_daysOf_68 ?_
            refine g_goto (tgt := 18) (by decide) d_M_daysOf_71 ?_
            exact g_cut (lv' := [(0, .ref (gad E 62)), (1, .int (iI x)), (2, .int (iI ca)), (3, .int (iI s9)), (4, .int (iI d9)), (5, .int (iI 1)), (6, .int (iI (k9 + 1)))]) ⟨rfl, rfl, rfl, rfl, rfl, rfl, rfl, trivial⟩ (ih2 (j9 + 1) (k9 + 1) 1 (by omega) (by omega) (Or.inl ⟨rfl, hasDM_t hb⟩))
          · refine g_iload (i := 6) rfl d_M_daysOf_18 ?_
            refine g_aload_n (n := 0) (i := 0) rfl rfl d_M_daysOf_20 ?_
            refine g_getfield 9 0 f_M_9 (by assumption) (by rfl) d_M_daysOf_21 ?_
            refine g_iconst_i d_M_daysOf_24 ?_
            refine g_iaload_i (by assumption) (by omega) (by omega) (by rfl) d_M_daysOf_25 ?_
            refine g_icmp_ge_i (tgt := 74) (by omega) (by omega) d_M_daysOf_26 (by decide) (fun h => by exfalso; omega) (fun h26 => ?_)
            refine g_iload (i := 5) rfl d_M_daysOf_29 ?_
            refine g_if_ne_i (tgt := 61) (by decide) d_M_daysOf_31 (by decide) (fun h => absurd h (by decide)) (fun h31 => ?_)
            refine g_aload_n (n := 0) (i := 0) rfl rfl d_M_daysOf_34 ?_
            refine g_iload (i := 6) rfl d_M_daysOf_35 ?_
            refine g_iconst_i d_M_daysOf_37 ?_
            refine g_callV2 rfl rfl e_M_rideOf l_M_59 iv_M_rideOf 9 (by decide) rfl (by assumption) (by decide) (Nat.zero_le _) (Nat.zero_le _) (Nat.le_of_ble_eq_true rfl) d_M_daysOf_38 (c_M_rideOf hm (by omega) (by omega) ?_)
            refine g_ret ?_
            refine g_iload_n (n := 1) (i := 1) rfl rfl d_M_daysOf_41 ?_
            refine g_icmp_ne_i (tgt := 65) (by omega) (by omega) d_M_daysOf_42 (by decide) (fun h42 => ?_) (fun h42 => ?_)
            · refine g_iconst_i d_M_daysOf_65 ?_
              refine g_istore (i := 5) (by decide) rfl d_M_daysOf_66 ?_
              refine g_iinc_i (i := 6) rfl (by decide) rfl d_M_daysOf_68 ?_
              refine g_goto (tgt := 18) (by decide) d_M_daysOf_71 ?_
              exact g_cut (lv' := [(0, .ref (gad E 62)), (1, .int (iI x)), (2, .int (iI ca)), (3, .int (iI s9)), (4, .int (iI d9)), (5, .int (iI 0)), (6, .int (iI (k9 + 1)))]) ⟨rfl, rfl, rfl, rfl, rfl, rfl, rfl, trivial⟩ (ih2 (j9 + 1) (k9 + 1) 0 (by omega) (by omega) (Or.inr ⟨rfl, by first | exact hasDM_1 hb hj h42 | exact hasDM_2 hb hj h58⟩))
            · refine g_aload_n (n := 0) (i := 0) rfl rfl d_M_daysOf_45 ?_
              refine g_iload (i := 6) rfl d_M_daysOf_46 ?_
              refine g_iconst_i d_M_daysOf_48 ?_
              refine g_callV2 rfl rfl e_M_rideOf l_M_59 iv_M_rideOf 9 (by decide) rfl (by assumption) (by decide) (Nat.zero_le _) (Nat.zero_le _) (Nat.le_of_ble_eq_true rfl) d_M_daysOf_49 (c_M_rideOf hm (by omega) (by omega) ?_)
              refine g_ret ?_
              refine g_sipush_i (by decide) d_M_daysOf_52 ?_
              refine g_idiv_i (by omega) (by omega) d_M_daysOf_55 ?_
              refine g_iload (i := 4) rfl d_M_daysOf_56 ?_
              refine g_icmp_ne_i (tgt := 65) (by omega) (by omega) d_M_daysOf_58 (by decide) (fun h58 => ?_) (fun h58 => ?_)
              · refine g_iconst_i d_M_daysOf_65 ?_
                refine g_istore (i := 5) (by decide) rfl d_M_daysOf_66 ?_
                refine g_iinc_i (i := 6) rfl (by decide) rfl d_M_daysOf_68 ?_
                refine g_goto (tgt := 18) (by decide) d_M_daysOf_71 ?_
                exact g_cut (lv' := [(0, .ref (gad E 62)), (1, .int (iI x)), (2, .int (iI ca)), (3, .int (iI s9)), (4, .int (iI d9)), (5, .int (iI 0)), (6, .int (iI (k9 + 1)))]) ⟨rfl, rfl, rfl, rfl, rfl, rfl, rfl, trivial⟩ (ih2 (j9 + 1) (k9 + 1) 0 (by omega) (by omega) (Or.inr ⟨rfl, by first | exact hasDM_1 hb hj h42 | exact hasDM_2 hb hj h58⟩))
              · refine g_iconst_i d_M_daysOf_61 ?_
                refine g_goto (tgt := 66) (by decide) d_M_daysOf_62 ?_
                refine g_istore (i := 5) (by decide) rfl d_M_daysOf_66 ?_
                refine g_iinc_i (i := 6) rfl (by decide) rfl d_M_daysOf_68 ?_
                refine g_goto (tgt := 18) (by decide) d_M_daysOf_71 ?_
                exact g_cut (lv' := [(0, .ref (gad E 62)), (1, .int (iI x)), (2, .int (iI ca)), (3, .int (iI s9)), (4, .int (iI d9)), (5, .int (iI 1)), (6, .int (iI (k9 + 1)))]) ⟨rfl, rfl, rfl, rfl, rfl, rfl, rfl, trivial⟩ (ih2 (j9 + 1) (k9 + 1) 1 (by omega) (by omega) (Or.inl ⟨rfl, hasDM_n hb hj h42 h58⟩))
      refine g_iload (i := 4) rfl d_M_daysOf_5 ?_
      refine g_bipush_i (by decide) d_M_daysOf_7 ?_
      refine g_icmp_ge_i (tgt := 112) (by omega) (by decide) d_M_daysOf_9 (by decide) (fun h => by exfalso; omega) (fun h9 => ?_)
      refine g_iconst_i d_M_daysOf_12 ?_
      refine g_istore (i := 5) (by decide) rfl d_M_daysOf_13 ?_
      refine g_iconst_i d_M_daysOf_15 ?_
      refine g_istore (i := 6) (by decide) rfl d_M_daysOf_16 ?_
      exact g_cut (lv' := [(0, .ref (gad E 62)), (1, .int (iI x)), (2, .int (iI ca)), (3, .int (iI s9)), (4, .int (iI d9)), (5, .int (iI 0)), (6, .int (iI 0))]) ⟨rfl, rfl, rfl, rfl, rfl, rfl, rfl, trivial⟩ (inner (m 4).toNat 0 0 0 rfl (by omega) (Or.inr ⟨rfl, rfl⟩))
  refine g_enter (by decide) rfl rfl (fun h => by first | rfl | cases h) (Nat.le_of_ble_eq_true rfl) rfl ?_
  refine g_iconst_i d_M_daysOf_0 ?_
  refine g_istore_n (n := 3) (i := 3) rfl (by decide) rfl d_M_daysOf_1 ?_
  refine g_iconst_i d_M_daysOf_2 ?_
  refine g_istore (i := 4) (by decide) rfl d_M_daysOf_3 ?_
  refine g_cut ?_ (loop 31 0 0 (by omega) (by omega) rfl)
  exact ⟨rfl, rfl, rfl, rfl, rfl, trivial⟩

