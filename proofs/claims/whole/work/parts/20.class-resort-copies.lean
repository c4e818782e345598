/-! ===== the resort: time, emptying, copying ===== -/
def goC (R : Rz) (m k : Int) (lc : Int → Int) (j : Int) : Int := if j / 31 < k ∧ j / 31 < zg R ∧ tb (zs R) (j / 31) = true then lc j + cbZ (zk R) (zk R + m) (j % 31) else lc j
def goL (R : Rz) (m : Int) (j : Int) : Int := zL R j + (if j / 31 < zg R ∧ tb (zs R) (j / 31) = true then cbZ (zk R) (zk R + m) (j % 31) else 0)
theorem goC_s {R : Rz} {m k : Int} {lc lc1 lc2 : Int → Int} (h0 : 0 ≤ k) (hk : k < zg R) (ht : tb (zs R) k = true) (h1 : ∀ j, 0 ≤ j ∧ j < 372 → lc1 j = goC R m k lc j) (h2 : ∀ j, lc2 j = if k * 31 ≤ j ∧ j < k * 31 + 31 then lc1 j + cbZ (zk R) (zk R + m) (j - k * 31) else lc1 j) : ∀ j, 0 ≤ j ∧ j < 372 → lc2 j = goC R m (k + 1) lc j := by
  intro j hj
  rw [h2, h1 j hj]
  simp only [goC]
  by_cases e : k * 31 ≤ j ∧ j < k * 31 + 31
  · have e1 : j / 31 = k := by omega
    have e2 : j % 31 = j - k * 31 := by omega
    rw [if_pos e, if_neg (fun h => by omega), if_pos ⟨by omega, by omega, by rw [e1]; exact ht⟩, e2]
  · rw [if_neg e]
    have e1 : j / 31 ≠ k := by omega
    by_cases e2 : j / 31 < k ∧ j / 31 < zg R ∧ tb (zs R) (j / 31) = true
    · rw [if_pos e2, if_pos ⟨by omega, e2.2⟩]
    · rw [if_neg e2, if_neg (fun h => e2 ⟨by omega, h.2⟩)]
theorem goC_n {R : Rz} {m k : Int} {lc lc1 : Int → Int} (ht : ¬ (k < zg R ∧ tb (zs R) k = true)) (h1 : ∀ j, 0 ≤ j ∧ j < 372 → lc1 j = goC R m k lc j) : ∀ j, 0 ≤ j ∧ j < 372 → lc1 j = goC R m (k + 1) lc j := by
  intro j hj
  rw [h1 j hj]
  simp only [goC]
  by_cases e2 : j / 31 < k ∧ j / 31 < zg R ∧ tb (zs R) (j / 31) = true
  · rw [if_pos e2, if_pos ⟨by omega, e2.2⟩]
  · rw [if_neg e2, if_neg (fun h => ?_)]
    by_cases e : j / 31 = k
    · exact ht (e ▸ h.2)
    · exact e2 ⟨by omega, h.2⟩
theorem goC_0 {R : Rz} {m : Int} {lc : Int → Int} : ∀ j, 0 ≤ j ∧ j < 372 → lc j = goC R m 0 lc j := by
  intro j hj
  rw [goC, if_neg (fun h => by omega)]
theorem goC_e {R : Rz} {m : Int} {lc lc1 : Int → Int} (h1 : ∀ j, 0 ≤ j ∧ j < 372 → lc1 j = goC R m 12 lc j) (hl : ∀ j, 0 ≤ j ∧ j < 372 → lc j = zL R j) : ∀ j, 0 ≤ j ∧ j < 372 → lc1 j = goL R m j := by
  intro j hj
  rw [h1 j hj]
  simp only [goC, goL]
  rw [hl j hj]
  by_cases e2 : j / 31 < zg R ∧ tb (zs R) (j / 31) = true
  · rw [if_pos ⟨by omega, e2⟩, if_pos e2]
  · rw [if_neg (fun h => e2 h.2), if_neg e2, Int.add_zero]
theorem okZ.time {R : Rz} {m : Int} (h : okZ R) (hm : 0 ≤ m ∧ zk R + m ≤ 43200) : okZ (zTime R (zk R + m) (goL R m)) := by
  obtain ⟨k1, k2, k3, k4, k5, k6, k7, k8, k9⟩ := h
  refine ⟨k1, k2, k3, k4, by rw [zk_Time]; omega, k6, k7, k8, fun j hj => ?_⟩
  rw [zk_Time, zL_Time]
  have h1 := k9 j hj
  have h2 : 0 ≤ j % 31 := by omega
  simp only [goL]
  generalize j % 31 = d at *
  split <;> (simp only [cbZ] at *; omega)

theorem c_R_isShut0 {E : gE} {w : gW} {im : gIm} {Q : gQ} {b : Nat} {R : Rz} (hb : b + 4 < gN E) (h0 : w b = resE E b R) (ok4 : 0 ≤ zs R ∧ zs R < 4096) {b9 : Nat} {gn gp gx : Int} (hg : im b9 = some (gateE gn gp gx)) (rg9 : (0 ≤ gn ∧ gn ≤ 11) ∧ (0 ≤ gp ∧ gp ≤ 3) ∧ (0 ≤ gx ∧ gx ≤ 99)) (hQ1 : (tb (zs R) gn = true) → Q (.inl (some (.int (iI 1)))) w im) (hQ2 : ¬ (tb (zs R) gn = true) → Q (.inl (some (.int (iI 0)))) w im) : GM E 0 y_R_isShut m_R_isShut 0 0 [.ref (gad E b), .ref b9] w im Q := by
  have co : g_cell E w im (gad E b) (resE E b R) := g_mut b (by omega) h0
  have cgt := g_imm (E := E) (w := w) hg
  refine g_enter (by decide) rfl rfl (fun h => by first | rfl | cases h) (Nat.le_of_ble_eq_true rfl) rfl ?_
  refine g_aload_n (n := 0) (i := 0) rfl rfl d_R_isShut_0 ?_
  refine g_getfield 1 7 f_R_43 (by assumption) (by rfl) d_R_isShut_1 ?_
  refine g_aload_n (n := 1) (i := 1) rfl rfl d_R_isShut_4 ?_
  refine g_getfield 5 0 f_R_67 (by assumption) (by rfl) d_R_isShut_5 ?_
  refine g_ishr d_R_isShut_8 ?_
  refine g_iconst_i d_R_isShut_9 ?_
  refine g_iand d_R_isShut_10 ?_
  rw [bit_z (by omega) (by omega)]
  refine g_iconst_i d_R_isShut_11 ?_
  refine g_icmp_ne_i (tgt := 19) (by first | omega | exact iI_if1) (by decide) d_R_isShut_12 (by decide) (fun h12 => ?_) (fun h12 => ?_)
  · refine g_iconst_i d_R_isShut_19 ?_
    refine g_ireturn_0 rfl d_R_isShut_20 ?_
    first | exact hQ1 (by unfold tb; by_cases hz9 : (zs R).toNat.testBit gn.toNat = true <;> simp_all) | exact hQ2 (by unfold tb; by_cases hz9 : (zs R).toNat.testBit gn.toNat = true <;> simp_all)
  · refine g_iconst_i d_R_isShut_15 ?_
    refine g_goto (tgt := 20) (by decide) d_R_isShut_16 ?_
    refine g_ireturn_1 rfl d_R_isShut_20 ?_
    first | exact hQ1 (by unfold tb; by_cases hz9 : (zs R).toNat.testBit gn.toNat = true <;> simp_all) | exact hQ2 (by unfold tb; by_cases hz9 : (zs R).toNat.testBit gn.toNat = true <;> simp_all)

theorem c_R_goOn {E : gE} {w : gW} {im : gIm} {Q : gQ} {b : Nat} {R : Rz} (hz : RZ E w im b R) {m : Int} (rm : 0 ≤ m ∧ zk R + m ≤ 43200) (hQ : ∀ w' im', RN E w im b (zTime R (zk R + m) (goL R m)) w' im' → Q (.inl none) w' im') : GM E 2 y_R_goOn m_R_goOn 0 0 [.ref (gad E b), .int (iI m)] w im Q := by
  have hz9 := hz
  obtain ⟨rg, rp, rc, lc, ⟨hb, h0, h1, h2, h3, h4, hlc⟩, ⟨i1, i2, i3, i4, i5, i6⟩, ok⟩ := hz9
  obtain ⟨ok1, ok2, ok3, ok4, ok5, ok6, ok7, ok8, ok9⟩ := ok
  have co : g_cell E w im (gad E b) (resE E b R) := g_mut b (by omega) h0
  have cg : g_cell E w im (gad E (b + 1)) (rowE 4 12 rg) := g_mut (b + 1) (by omega) h1
  have cp : g_cell E w im (gad E (b + 2)) (rowE 5 8 rp) := g_mut (b + 2) (by omega) h2
  have cc : g_cell E w im (gad E (b + 3)) (rowE 6 20 rc) := g_mut (b + 3) (by omega) h3
  have cl : g_cell E w im (gad E (b + 4)) (intE 372 lc) := g_mut (b + 4) (by omega) h4
  have loop : ∀ (n9 : Nat) (k9 : Int) (w1 : gW) (lc1 : Int → Int), 0 ≤ k9 → k9 + n9 = 12 → w1 (b + 4) = intE 372 lc1 → (∀ j, j ≠ b + 4 → w1 j = w j) → (∀ j, 0 ≤ j ∧ j < 372 → lc1 j = goC R m k9 lc j) → G E 2 m_R_goOn 19 [(0, .ref (gad E b)), (1, .int (iI m)), (2, .int (iI (zk R + m))), (3, .ref (gad E (b + 1))), (4, .int (iI 12)), (5, .int (iI k9))] [] w1 im 0 0 Q := by
    intro n9
    induction n9 with
    | zero =>
      intro k9 w lc1 h9 hk9 hl1 hw1 hf1
      have e9 : k9 = 12 := by omega
      rw [e9] at hf1
      have u0 := (hw1 b (by omega)).trans h0
      have u1 := (hw1 (b + 1) (by omega)).trans h1
      have u2 := (hw1 (b + 2) (by omega)).trans h2
      have u3 := (hw1 (b + 3) (by omega)).trans h3
      have u4 := hl1
      have hfr := fun i (hi : i < b ∨ b + 4 < i) => hw1 i (by omega)
      have co : g_cell E w im (gad E b) _ := g_mut b (by omega) u0
      have cg : g_cell E w im (gad E (b + 1)) _ := g_mut (b + 1) (by omega) u1
      have cp : g_cell E w im (gad E (b + 2)) _ := g_mut (b + 2) (by omega) u2
      have cc : g_cell E w im (gad E (b + 3)) _ := g_mut (b + 3) (by omega) u3
      have cl : g_cell E w im (gad E (b + 4)) _ := g_mut (b + 4) (by omega) u4
      refine g_iload (i := 5) rfl d_R_goOn_19 ?_
      refine g_iload (i := 4) rfl d_R_goOn_21 ?_
      refine g_icmp_ge_i (tgt := 63) (by omega) (by decide) d_R_goOn_23 (by decide) (fun h23 => ?_) (fun h => by exfalso; omega)
      refine g_aload_n (n := 0) (i := 0) rfl rfl d_R_goOn_63 ?_
      refine g_iload_n (n := 2) (i := 2) rfl rfl d_R_goOn_64 ?_
      refine g_putA 1 8 (b) (by omega) (by assumption) f_R_46 (Or.inl rfl) (by rfl) (by rfl) (Nat.le_of_ble_eq_true rfl) d_R_goOn_65 (fun w hs hn => ?_)
      have u1 := (hn (b + 1) (by omega)).trans u1
      have u2 := (hn (b + 2) (by omega)).trans u2
      have u3 := (hn (b + 3) (by omega)).trans u3
      have u4 := (hn (b + 4) (by omega)).trans u4
      have u0 : w (b) = resE E b (zTime R (zk R + m) (goL R m)) := hs
      have hfr := fun i (hi : i < b ∨ b + 4 < i) => (hn i (by omega)).trans (hfr i hi)
      have co : g_cell E w im (gad E b) _ := g_mut b (by omega) u0
      have cg : g_cell E w im (gad E (b + 1)) _ := g_mut (b + 1) (by omega) u1
      have cp : g_cell E w im (gad E (b + 2)) _ := g_mut (b + 2) (by omega) u2
      have cc : g_cell E w im (gad E (b + 3)) _ := g_mut (b + 3) (by omega) u3
      have cl : g_cell E w im (gad E (b + 4)) _ := g_mut (b + 4) (by omega) u4
      refine g_return rfl d_R_goOn_68 ?_
      exact hQ _ _ ⟨hfr, fun _ _ h => h, _, _, _, _, ⟨hb, u0, u1, u2, u3, u4, goC_e hf1 hlc⟩, ⟨i1, i2, i3, i4, i5, i6⟩, okZ.time ⟨ok1, ok2, ok3, ok4, ok5, ok6, ok7, ok8, ok9⟩ (by omega)⟩
    | succ n9 ih =>
      intro k9 w1 lc1 h9 hk9 hl1 hw1 hf1
      have u0 := (hw1 b (by omega)).trans h0
      have u1 := (hw1 (b + 1) (by omega)).trans h1
      have co : g_cell E w1 im (gad E b) _ := g_mut b (by omega) u0
      have cg : g_cell E w1 im (gad E (b + 1)) _ := g_mut (b + 1) (by omega) u1
      by_cases hc9 : k9 < zg R
      · obtain ⟨a9, e1, e2⟩ := i1 k9 ⟨h9, hc9⟩
        obtain ⟨o1, o2⟩ := ok6 k9 ⟨h9, hc9⟩
        have c1 := g_imm (E := E) (w := w1) e2
        refine g_iload (i := 5) rfl d_R_goOn_19 ?_
        refine g_iload (i := 4) rfl d_R_goOn_21 ?_
        refine g_icmp_ge_i (tgt := 63) (by omega) (by decide) d_R_goOn_23 (by decide) (fun h => by exfalso; omega) (fun h23 => ?_)
        refine g_aload_n (n := 3) (i := 3) rfl rfl d_R_goOn_26 ?_
        refine g_iload (i := 5) rfl d_R_goOn_27 ?_
        refine g_aaload_i (by assumption) (by decide) (by rfl) (by omega) (by omega) (by rfl) (by assumption) d_R_goOn_29 ?_
        refine g_astore (i := 6) (by decide) rfl d_R_goOn_30 ?_
        refine g_aload (i := 6) rfl d_R_goOn_32 ?_
        refine g_ifnull d_R_goOn_34 ?_
        refine g_aload_n (n := 0) (i := 0) rfl rfl d_R_goOn_37 ?_
        refine g_aload (i := 6) rfl d_R_goOn_38 ?_
        refine g_callV1 rfl rfl e_R_isShut l_R_124 iv_R_isShut 1 (by decide) rfl (by assumption) (by decide) (Nat.zero_le _) (Nat.zero_le _) (Nat.le_of_ble_eq_true rfl) d_R_goOn_40 (c_R_isShut0 hb u0 ok4 e2 (by omega) (fun hB => ?_) (fun hB => ?_))
        · refine g_ret ?_
          refine g_if_eq_i (tgt := 57) (by decide) d_R_goOn_43 (by decide) (fun h => absurd h (by decide)) (fun h43 => ?_)
          refine g_aload_n (n := 0) (i := 0) rfl rfl d_R_goOn_46 ?_
          refine g_aload (i := 6) rfl d_R_goOn_47 ?_
          refine g_aload_n (n := 0) (i := 0) rfl rfl d_R_goOn_49 ?_
          refine g_getfield 1 8 f_R_46 (by assumption) (by rfl) d_R_goOn_50 ?_
          refine g_iload_n (n := 2) (i := 2) rfl rfl d_R_goOn_53 ?_
          refine g_callV3 rfl rfl e_R_countClosed l_R_128 iv_R_countClosed 1 (by decide) rfl (by assumption) (by decide) (Nat.zero_le _) (Nat.zero_le _) (Nat.le_of_ble_eq_true rfl) d_R_goOn_54 (c_R_countClosed hb u0 hl1 e2 (by omega) (by omega) (fun w2 lc2 hs hl2 hn => ?_))
          refine g_retv ?_
          refine g_iinc_i (i := 5) rfl (by decide) rfl d_R_goOn_57 ?_
          refine g_goto (tgt := 19) (by decide) d_R_goOn_60 ?_
          first
          | exact g_cut (lv' := [(0, .ref (gad E b)), (1, .int (iI m)), (2, .int (iI (zk R + m))), (3, .ref (gad E (b + 1))), (4, .int (iI 12)), (5, .int (iI (k9 + 1)))]) ⟨rfl, rfl, rfl, rfl, rfl, rfl, trivial⟩ (ih (k9 + 1) w2 lc2 (by omega) (by omega) hs (fun j hj => (hn j hj).trans (hw1 j hj)) (goC_s h9 hc9 hB hf1 hl2))
          | exact g_cut (lv' := [(0, .ref (gad E b)), (1, .int (iI m)), (2, .int (iI (zk R + m))), (3, .ref (gad E (b + 1))), (4, .int (iI 12)), (5, .int (iI (k9 + 1)))]) ⟨rfl, rfl, rfl, rfl, rfl, rfl, trivial⟩ (ih (k9 + 1) w1 lc1 (by omega) (by omega) hl1 hw1 (goC_n (fun h => hB h.2) hf1))
        · refine g_ret ?_
          refine g_if_eq_i (tgt := 57) (by decide) d_R_goOn_43 (by decide) (fun h43 => ?_) (fun h => absurd h (by decide))
          refine g_iinc_i (i := 5) rfl (by decide) rfl d_R_goOn_57 ?_
          refine g_goto (tgt := 19) (by decide) d_R_goOn_60 ?_
          first
          | exact g_cut (lv' := [(0, .ref (gad E b)), (1, .int (iI m)), (2, .int (iI (zk R + m))), (3, .ref (gad E (b + 1))), (4, .int (iI 12)), (5, .int (iI (k9 + 1)))]) ⟨rfl, rfl, rfl, rfl, rfl, rfl, trivial⟩ (ih (k9 + 1) w2 lc2 (by omega) (by omega) hs (fun j hj => (hn j hj).trans (hw1 j hj)) (goC_s h9 hc9 hB hf1 hl2))
          | exact g_cut (lv' := [(0, .ref (gad E b)), (1, .int (iI m)), (2, .int (iI (zk R + m))), (3, .ref (gad E (b + 1))), (4, .int (iI 12)), (5, .int (iI (k9 + 1)))]) ⟨rfl, rfl, rfl, rfl, rfl, rfl, trivial⟩ (ih (k9 + 1) w1 lc1 (by omega) (by omega) hl1 hw1 (goC_n (fun h => hB h.2) hf1))
      · have e1 := i2 k9 (by omega)
        refine g_iload (i := 5) rfl d_R_goOn_19 ?_
        refine g_iload (i := 4) rfl d_R_goOn_21 ?_
        refine g_icmp_ge_i (tgt := 63) (by omega) (by decide) d_R_goOn_23 (by decide) (fun h => by exfalso; omega) (fun h23 => ?_)
        refine g_aload_n (n := 3) (i := 3) rfl rfl d_R_goOn_26 ?_
        refine g_iload (i := 5) rfl d_R_goOn_27 ?_
        refine g_aaloadN_i (by assumption) (by decide) (by rfl) (by omega) (by omega) (by rfl) (by assumption) d_R_goOn_29 ?_
        refine g_astoreN (i := 6) (by decide) rfl d_R_goOn_30 ?_
        refine g_aloadN (i := 6) rfl d_R_goOn_32 ?_
        refine g_ifnullN (tgt := 57) (by decide) d_R_goOn_34 ?_
        refine g_iinc_i (i := 5) rfl (by decide) rfl d_R_goOn_57 ?_
        refine g_goto (tgt := 19) (by decide) d_R_goOn_60 ?_
        exact g_cut (lv' := [(0, .ref (gad E b)), (1, .int (iI m)), (2, .int (iI (zk R + m))), (3, .ref (gad E (b + 1))), (4, .int (iI 12)), (5, .int (iI (k9 + 1)))]) ⟨rfl, rfl, rfl, rfl, rfl, rfl, trivial⟩ (ih (k9 + 1) w1 lc1 (by omega) (by omega) hl1 hw1 (goC_n (fun h => hc9 h.1) hf1))
  refine g_enter (by decide) rfl rfl (fun h => by first | rfl | cases h) (Nat.le_of_ble_eq_true rfl) rfl ?_
  refine g_aload_n (n := 0) (i := 0) rfl rfl d_R_goOn_0 ?_
  refine g_getfield 1 8 f_R_46 (by assumption) (by rfl) d_R_goOn_1 ?_
  refine g_iload_n (n := 1) (i := 1) rfl rfl d_R_goOn_4 ?_
  refine g_iadd_i d_R_goOn_5 ?_
  refine g_istore_n (n := 2) (i := 2) rfl (by decide) rfl d_R_goOn_6 ?_
  refine g_aload_n (n := 0) (i := 0) rfl rfl d_R_goOn_7 ?_
  refine g_getfield 1 0 f_R_11 (by assumption) (by rfl) d_R_goOn_8 ?_
  refine g_astore_n (n := 3) (i := 3) rfl (by decide) rfl d_R_goOn_11 ?_
  refine g_aload_n (n := 3) (i := 3) rfl rfl d_R_goOn_12 ?_
  refine g_alen_i (by assumption) (by decide) d_R_goOn_13 ?_
  refine g_istore (i := 4) (by decide) rfl d_R_goOn_14 ?_
  refine g_iconst_i d_R_goOn_16 ?_
  refine g_istore (i := 5) (by decide) rfl d_R_goOn_17 ?_
  refine g_cut ?_ (loop 12 0 w lc (by omega) (by omega) h4 (fun _ _ => rfl) goC_0)
  exact ⟨rfl, rfl, rfl, rfl, rfl, rfl, trivial⟩

theorem c_A_fill {E : gE} {w : gW} {im : gIm} {Q : gQ} {i0 n : Nat} {m : Int → Int} {v : Int} (hi : i0 < gN E) (hw : w i0 = intE n m) (hnb : n.blt 2147483648 = true) (hQ : ∀ w' m', w' i0 = intE n m' → (∀ j : Int, 0 ≤ j ∧ j < n → m' j = v) → (∀ j, j ≠ i0 → w' j = w j) → Q (.inl none) w' im) : GM E 0 y_A_fill m_A_fill 0 0 [.ref (gad E i0), .int (iI v)] w im Q := by
  have hn9 : n < 2147483648 := by simpa using hnb
  have loop : ∀ (n9 : Nat) (k9 : Int) (w1 : gW) (m1 : Int → Int), 0 ≤ k9 → k9 + n9 = n → w1 i0 = intE n m1 → (∀ j, j ≠ i0 → w1 j = w j) → (∀ j : Int, 0 ≤ j ∧ j < k9 → m1 j = v) → G E 0 m_A_fill 5 [(0, .ref (gad E i0)), (1, .int (iI v)), (2, .int (iI k9)), (3, .int (iI n))] [] w1 im 0 0 Q := by
    intro n9
    induction n9 with
    | zero =>
      intro k9 w1 m1 h9 hk9 hl1 hw1 hf1
      refine g_iload_n (n := 2) (i := 2) rfl rfl d_A_fill_5 ?_
      refine g_iload_n (n := 3) (i := 3) rfl rfl d_A_fill_6 ?_
      refine g_icmp_ge_i (tgt := 20) (by omega) (by omega) d_A_fill_7 (by decide) (fun h7 => ?_) (fun h => by exfalso; omega)
      refine g_return rfl d_A_fill_20 ?_
      exact hQ w1 m1 hl1 (fun j hj => hf1 j (by omega)) hw1
    | succ n9 ih =>
      intro k9 w1 m1 h9 hk9 hl1 hw1 hf1
      refine g_iload_n (n := 2) (i := 2) rfl rfl d_A_fill_5 ?_
      refine g_iload_n (n := 3) (i := 3) rfl rfl d_A_fill_6 ?_
      refine g_icmp_ge_i (tgt := 20) (by omega) (by omega) d_A_fill_7 (by decide) (fun h => by exfalso; omega) (fun h7 => ?_)
      refine g_aload_n (n := 0) (i := 0) rfl rfl d_A_fill_10 ?_
      refine g_iload_n (n := 2) (i := 2) rfl rfl d_A_fill_11 ?_
      refine g_iload_n (n := 1) (i := 1) rfl rfl d_A_fill_12 ?_
      refine g_iastoreA i0 hi hl1 (by omega) (by omega) hnb d_A_fill_13 (fun w2 hs hn => ?_)
      refine g_iinc_i (i := 2) rfl (by decide) rfl d_A_fill_14 ?_
      refine g_goto (tgt := 5) (by decide) d_A_fill_17 ?_
      exact g_cut (lv' := [(0, .ref (gad E i0)), (1, .int (iI v)), (2, .int (iI (k9 + 1))), (3, .int (iI n))]) ⟨rfl, rfl, rfl, rfl, trivial⟩ (ih (k9 + 1) w2 _ (by omega) (by omega) hs (fun j hj => (hn j hj).trans (hw1 j hj)) (fun j hj => by simp only [uI]; split <;> first | rfl | exact hf1 j (by omega)))
  have ca : g_cell E w im (gad E i0) (intE n m) := g_mut i0 hi hw
  refine g_enter (by decide) rfl rfl (fun h => by first | rfl | cases h) (Nat.le_of_ble_eq_true rfl) rfl ?_
  refine g_iconst_i d_A_fill_0 ?_
  refine g_istore_n (n := 2) (i := 2) rfl (by decide) rfl d_A_fill_1 ?_
  refine g_aload_n (n := 0) (i := 0) rfl rfl d_A_fill_2 ?_
  refine g_alen_i (by assumption) (by decide) d_A_fill_3 ?_
  refine g_istore_n (n := 3) (i := 3) rfl (by decide) rfl d_A_fill_4 ?_
  refine g_cut ?_ (loop n 0 w m (by omega) (by omega) hw (fun _ _ => rfl) (fun j hj => by omega))
  exact ⟨rfl, rfl, rfl, rfl, trivial⟩

theorem c_R_empty {E : gE} {w : gW} {im : gIm} {Q : gQ} {b : Nat} {R : Rz} (hz : RZ E w im b R) (hQ : ∀ w' im', RN E w im b zEmpty w' im' → Q (.inl none) w' im') : GM E 1 y_R_empty m_R_empty 0 0 [.ref (gad E b)] w im Q := by
  have hz9 := hz
  obtain ⟨rg, rp, rc, lc, ⟨hb, h0, h1, h2, h3, h4, hlc⟩, ⟨i1, i2, i3, i4, i5, i6⟩, ok⟩ := hz9
  obtain ⟨ok1, ok2, ok3, ok4, ok5, ok6, ok7, ok8, ok9⟩ := ok
  have co : g_cell E w im (gad E b) (resE E b R) := g_mut b (by omega) h0
  have cg : g_cell E w im (gad E (b + 1)) (rowE 4 12 rg) := g_mut (b + 1) (by omega) h1
  have cp : g_cell E w im (gad E (b + 2)) (rowE 5 8 rp) := g_mut (b + 2) (by omega) h2
  have cc : g_cell E w im (gad E (b + 3)) (rowE 6 20 rc) := g_mut (b + 3) (by omega) h3
  have cl : g_cell E w im (gad E (b + 4)) (intE 372 lc) := g_mut (b + 4) (by omega) h4
  have loop3 : ∀ (n9 : Nat) (k9 : Int) (w1 : gW) (r1 : Int → Option Nat) (q1 : Int → Option Nat) (q2 : Int → Option Nat), 0 ≤ k9 → k9 + n9 = 20 → w1 b = resE E b R → w1 (b + 1) = rowE 4 12 q1 → w1 (b + 2) = rowE 5 8 q2 → w1 (b + 3) = rowE 6 20 r1 → w1 (b + 4) = intE 372 lc → (∀ i, i < b ∨ b + 4 < i → w1 i = w i) → (∀ i : Int, 0 ≤ i ∧ i < 12 → q1 i = none) → (∀ i : Int, 0 ≤ i ∧ i < 8 → q2 i = none) → (∀ i : Int, 0 ≤ i ∧ i < k9 → r1 i = none) → G E 1 m_R_empty 50 [(0, .ref (gad E b)), (1, .int (iI k9))] [] w1 im 0 0 Q := by
    intro n9
    induction n9 with
    | zero =>
      intro k9 w r1 q1 q2 h9 hk9 u0 u1 u2 u3 u4 hfr hq1 hq2 hr1
      have e9 : k9 = 20 := by omega
      rw [e9] at hr1
      have co : g_cell E w im (gad E b) _ := g_mut b (by omega) u0
      have cg : g_cell E w im (gad E (b + 1)) _ := g_mut (b + 1) (by omega) u1
      have cp : g_cell E w im (gad E (b + 2)) _ := g_mut (b + 2) (by omega) u2
      have cc : g_cell E w im (gad E (b + 3)) _ := g_mut (b + 3) (by omega) u3
      have cl : g_cell E w im (gad E (b + 4)) _ := g_mut (b + 4) (by omega) u4
      refine g_iload_n (n := 1) (i := 1) rfl rfl d_R_empty_50 ?_
      refine g_aload_n (n := 0) (i := 0) rfl rfl d_R_empty_51 ?_
      refine g_getfield 1 2 f_R_25 (by assumption) (by rfl) d_R_empty_52 ?_
      refine g_alen_i (by assumption) (by decide) d_R_empty_55 ?_
      refine g_icmp_ge_i (tgt := 72) (by omega) (by omega) d_R_empty_56 (by decide) (fun h56 => ?_) (fun h => by exfalso; omega)
      refine g_aload_n (n := 0) (i := 0) rfl rfl d_R_empty_72 ?_
      refine g_getfield 1 3 f_R_29 (by assumption) (by rfl) d_R_empty_73 ?_
      refine g_iconst_i d_R_empty_76 ?_
      refine g_callS2 rfl rfl e_A_fill l_R_49 st_A_fill (by decide) (Nat.zero_le _) (Nat.zero_le _) (Nat.le_of_ble_eq_true rfl) d_R_empty_77 (c_A_fill (i0 := b + 4) (by omega) u4 (by rfl) (fun w lc2 hs hl2 hn => ?_))
      refine g_retv ?_
      have u0 := (hn (b) (by omega)).trans u0
      have u1 := (hn (b + 1) (by omega)).trans u1
      have u2 := (hn (b + 2) (by omega)).trans u2
      have u3 := (hn (b + 3) (by omega)).trans u3
      have u4 := hs
      have hfr := fun i (hi : i < b ∨ b + 4 < i) => (hn i (by omega)).trans (hfr i hi)
      have co : g_cell E w im (gad E b) _ := g_mut b (by omega) u0
      have cg : g_cell E w im (gad E (b + 1)) _ := g_mut (b + 1) (by omega) u1
      have cp : g_cell E w im (gad E (b + 2)) _ := g_mut (b + 2) (by omega) u2
      have cc : g_cell E w im (gad E (b + 3)) _ := g_mut (b + 3) (by omega) u3
      have cl : g_cell E w im (gad E (b + 4)) _ := g_mut (b + 4) (by omega) u4
      refine g_aload_n (n := 0) (i := 0) rfl rfl d_R_empty_80 ?_
      refine g_iconst_i d_R_empty_81 ?_
      refine g_putA 1 4 (b) (by omega) (by assumption) f_R_33 (Or.inl rfl) (by rfl) (by rfl) (Nat.le_of_ble_eq_true rfl) d_R_empty_82 (fun w hs hn => ?_)
      have u1 := (hn (b + 1) (by omega)).trans u1
      have u2 := (hn (b + 2) (by omega)).trans u2
      have u3 := (hn (b + 3) (by omega)).trans u3
      have u4 := (hn (b + 4) (by omega)).trans u4
      have u0 := hs
      have hfr := fun i (hi : i < b ∨ b + 4 < i) => (hn i (by omega)).trans (hfr i hi)
      have co : g_cell E w im (gad E b) _ := g_mut b (by omega) u0
      have cg : g_cell E w im (gad E (b + 1)) _ := g_mut (b + 1) (by omega) u1
      have cp : g_cell E w im (gad E (b + 2)) _ := g_mut (b + 2) (by omega) u2
      have cc : g_cell E w im (gad E (b + 3)) _ := g_mut (b + 3) (by omega) u3
      have cl : g_cell E w im (gad E (b + 4)) _ := g_mut (b + 4) (by omega) u4
      refine g_aload_n (n := 0) (i := 0) rfl rfl d_R_empty_85 ?_
      refine g_iconst_i d_R_empty_86 ?_
      refine g_putA 1 5 (b) (by omega) (by assumption) f_R_37 (Or.inl rfl) (by rfl) (by rfl) (Nat.le_of_ble_eq_true rfl) d_R_empty_87 (fun w hs hn => ?_)
      have u1 := (hn (b + 1) (by omega)).trans u1
      have u2 := (hn (b + 2) (by omega)).trans u2
      have u3 := (hn (b + 3) (by omega)).trans u3
      have u4 := (hn (b + 4) (by omega)).trans u4
      have u0 := hs
      have hfr := fun i (hi : i < b ∨ b + 4 < i) => (hn i (by omega)).trans (hfr i hi)
      have co : g_cell E w im (gad E b) _ := g_mut b (by omega) u0
      have cg : g_cell E w im (gad E (b + 1)) _ := g_mut (b + 1) (by omega) u1
      have cp : g_cell E w im (gad E (b + 2)) _ := g_mut (b + 2) (by omega) u2
      have cc : g_cell E w im (gad E (b + 3)) _ := g_mut (b + 3) (by omega) u3
      have cl : g_cell E w im (gad E (b + 4)) _ := g_mut (b + 4) (by omega) u4
      refine g_aload_n (n := 0) (i := 0) rfl rfl d_R_empty_90 ?_
      refine g_iconst_i d_R_empty_91 ?_
      refine g_putA 1 6 (b) (by omega) (by assumption) f_R_40 (Or.inl rfl) (by rfl) (by rfl) (Nat.le_of_ble_eq_true rfl) d_R_empty_92 (fun w hs hn => ?_)
      have u1 := (hn (b + 1) (by omega)).trans u1
      have u2 := (hn (b + 2) (by omega)).trans u2
      have u3 := (hn (b + 3) (by omega)).trans u3
      have u4 := (hn (b + 4) (by omega)).trans u4
      have u0 := hs
      have hfr := fun i (hi : i < b ∨ b + 4 < i) => (hn i (by omega)).trans (hfr i hi)
      have co : g_cell E w im (gad E b) _ := g_mut b (by omega) u0
      have cg : g_cell E w im (gad E (b + 1)) _ := g_mut (b + 1) (by omega) u1
      have cp : g_cell E w im (gad E (b + 2)) _ := g_mut (b + 2) (by omega) u2
      have cc : g_cell E w im (gad E (b + 3)) _ := g_mut (b + 3) (by omega) u3
      have cl : g_cell E w im (gad E (b + 4)) _ := g_mut (b + 4) (by omega) u4
      refine g_aload_n (n := 0) (i := 0) rfl rfl d_R_empty_95 ?_
      refine g_iconst_i d_R_empty_96 ?_
      refine g_putA 1 7 (b) (by omega) (by assumption) f_R_43 (Or.inl rfl) (by rfl) (by rfl) (Nat.le_of_ble_eq_true rfl) d_R_empty_97 (fun w hs hn => ?_)
      have u1 := (hn (b + 1) (by omega)).trans u1
      have u2 := (hn (b + 2) (by omega)).trans u2
      have u3 := (hn (b + 3) (by omega)).trans u3
      have u4 := (hn (b + 4) (by omega)).trans u4
      have u0 := hs
      have hfr := fun i (hi : i < b ∨ b + 4 < i) => (hn i (by omega)).trans (hfr i hi)
      have co : g_cell E w im (gad E b) _ := g_mut b (by omega) u0
      have cg : g_cell E w im (gad E (b + 1)) _ := g_mut (b + 1) (by omega) u1
      have cp : g_cell E w im (gad E (b + 2)) _ := g_mut (b + 2) (by omega) u2
      have cc : g_cell E w im (gad E (b + 3)) _ := g_mut (b + 3) (by omega) u3
      have cl : g_cell E w im (gad E (b + 4)) _ := g_mut (b + 4) (by omega) u4
      refine g_aload_n (n := 0) (i := 0) rfl rfl d_R_empty_100 ?_
      refine g_sipush_i (by decide) d_R_empty_101 ?_
      refine g_putA 1 8 (b) (by omega) (by assumption) f_R_46 (Or.inl rfl) (by rfl) (by rfl) (Nat.le_of_ble_eq_true rfl) d_R_empty_104 (fun w hs hn => ?_)
      have u1 := (hn (b + 1) (by omega)).trans u1
      have u2 := (hn (b + 2) (by omega)).trans u2
      have u3 := (hn (b + 3) (by omega)).trans u3
      have u4 := (hn (b + 4) (by omega)).trans u4
      have u0 : w (b) = resE E b zEmpty := hs
      have hfr := fun i (hi : i < b ∨ b + 4 < i) => (hn i (by omega)).trans (hfr i hi)
      have co : g_cell E w im (gad E b) _ := g_mut b (by omega) u0
      have cg : g_cell E w im (gad E (b + 1)) _ := g_mut (b + 1) (by omega) u1
      have cp : g_cell E w im (gad E (b + 2)) _ := g_mut (b + 2) (by omega) u2
      have cc : g_cell E w im (gad E (b + 3)) _ := g_mut (b + 3) (by omega) u3
      have cl : g_cell E w im (gad E (b + 4)) _ := g_mut (b + 4) (by omega) u4
      refine g_return rfl d_R_empty_107 ?_
      exact hQ _ _ ⟨hfr, fun _ _ h => h, _, _, _, _, ⟨hb, u0, u1, u2, u3, u4, hl2⟩, ⟨fun i hi => by have hi : 0 ≤ i ∧ i < 0 := hi; omega, fun i hi => hq1 i hi, fun i hi => by have hi : 0 ≤ i ∧ i < 0 := hi; omega, fun i hi => hq2 i hi, fun i hi => by have hi : 0 ≤ i ∧ i < 0 := hi; omega, fun i hi => hr1 i hi⟩, okZ.empty⟩
    | succ n9 ih =>
      intro k9 w r1 q1 q2 h9 hk9 u0 u1 u2 u3 u4 hfr hq1 hq2 hr1
      have co : g_cell E w im (gad E b) _ := g_mut b (by omega) u0
      have cg : g_cell E w im (gad E (b + 1)) _ := g_mut (b + 1) (by omega) u1
      have cp : g_cell E w im (gad E (b + 2)) _ := g_mut (b + 2) (by omega) u2
      have cc : g_cell E w im (gad E (b + 3)) _ := g_mut (b + 3) (by omega) u3
      have cl : g_cell E w im (gad E (b + 4)) _ := g_mut (b + 4) (by omega) u4
      refine g_iload_n (n := 1) (i := 1) rfl rfl d_R_empty_50 ?_
      refine g_aload_n (n := 0) (i := 0) rfl rfl d_R_empty_51 ?_
      refine g_getfield 1 2 f_R_25 (by assumption) (by rfl) d_R_empty_52 ?_
      refine g_alen_i (by assumption) (by decide) d_R_empty_55 ?_
      refine g_icmp_ge_i (tgt := 72) (by omega) (by omega) d_R_empty_56 (by decide) (fun h => by exfalso; omega) (fun h56 => ?_)
      refine g_aload_n (n := 0) (i := 0) rfl rfl d_R_empty_59 ?_
      refine g_getfield 1 2 f_R_25 (by assumption) (by rfl) d_R_empty_60 ?_
      refine g_iload_n (n := 1) (i := 1) rfl rfl d_R_empty_63 ?_
      refine g_null d_R_empty_64 ?_
      refine g_aastoreNA (b + 3) (by omega) (by assumption) (by decide) (by rfl) (by omega) (by omega) (by rfl) d_R_empty_65 (fun w hs hn => ?_)
      have u0 := (hn (b) (by omega)).trans u0
      have u1 := (hn (b + 1) (by omega)).trans u1
      have u2 := (hn (b + 2) (by omega)).trans u2
      have u4 := (hn (b + 4) (by omega)).trans u4
      have u3 := hs
      have hfr := fun i (hi : i < b ∨ b + 4 < i) => (hn i (by omega)).trans (hfr i hi)
      have co : g_cell E w im (gad E b) _ := g_mut b (by omega) u0
      have cg : g_cell E w im (gad E (b + 1)) _ := g_mut (b + 1) (by omega) u1
      have cp : g_cell E w im (gad E (b + 2)) _ := g_mut (b + 2) (by omega) u2
      have cc : g_cell E w im (gad E (b + 3)) _ := g_mut (b + 3) (by omega) u3
      have cl : g_cell E w im (gad E (b + 4)) _ := g_mut (b + 4) (by omega) u4
      refine g_iinc_i (i := 1) rfl (by decide) rfl d_R_empty_66 ?_
      refine g_goto (tgt := 50) (by decide) d_R_empty_69 ?_
      exact g_cut (lv' := [(0, .ref (gad E b)), (1, .int (iI (k9 + 1)))]) ⟨rfl, rfl, trivial⟩ (ih (k9 + 1) w _ q1 q2 (by omega) (by omega) u0 u1 u2 u3 u4 hfr hq1 hq2 (fun i hi => by simp only [uI]; split <;> first | rfl | exact hr1 i (by omega)))
  have loop2 : ∀ (n9 : Nat) (k9 : Int) (w1 : gW) (r1 : Int → Option Nat) (q1 : Int → Option Nat), 0 ≤ k9 → k9 + n9 = 8 → w1 b = resE E b R → w1 (b + 1) = rowE 4 12 q1 → w1 (b + 2) = rowE 5 8 r1 → w1 (b + 3) = rowE 6 20 rc → w1 (b + 4) = intE 372 lc → (∀ i, i < b ∨ b + 4 < i → w1 i = w i) → (∀ i : Int, 0 ≤ i ∧ i < 12 → q1 i = none) → (∀ i : Int, 0 ≤ i ∧ i < k9 → r1 i = none) → G E 1 m_R_empty 26 [(0, .ref (gad E b)), (1, .int (iI k9))] [] w1 im 0 0 Q := by
    intro n9
    induction n9 with
    | zero =>
      intro k9 w r1 q1 h9 hk9 u0 u1 u2 u3 u4 hfr hq1 hr1
      have e9 : k9 = 8 := by omega
      rw [e9] at hr1
      have co : g_cell E w im (gad E b) _ := g_mut b (by omega) u0
      have cg : g_cell E w im (gad E (b + 1)) _ := g_mut (b + 1) (by omega) u1
      have cp : g_cell E w im (gad E (b + 2)) _ := g_mut (b + 2) (by omega) u2
      have cc : g_cell E w im (gad E (b + 3)) _ := g_mut (b + 3) (by omega) u3
      have cl : g_cell E w im (gad E (b + 4)) _ := g_mut (b + 4) (by omega) u4
      refine g_iload_n (n := 1) (i := 1) rfl rfl d_R_empty_26 ?_
      refine g_aload_n (n := 0) (i := 0) rfl rfl d_R_empty_27 ?_
      refine g_getfield 1 1 f_R_19 (by assumption) (by rfl) d_R_empty_28 ?_
      refine g_alen_i (by assumption) (by decide) d_R_empty_31 ?_
      refine g_icmp_ge_i (tgt := 48) (by omega) (by omega) d_R_empty_32 (by decide) (fun h32 => ?_) (fun h => by exfalso; omega)
      refine g_iconst_i d_R_empty_48 ?_
      refine g_istore_n (n := 1) (i := 1) rfl (by decide) rfl d_R_empty_49 ?_
      exact g_cut (lv' := [(0, .ref (gad E b)), (1, .int (iI 0))]) ⟨rfl, rfl, trivial⟩ (loop3 20 0 w _ q1 r1 (by omega) (by omega) u0 u1 u2 u3 u4 hfr hq1 hr1 (fun i hi => by omega))
    | succ n9 ih =>
      intro k9 w r1 q1 h9 hk9 u0 u1 u2 u3 u4 hfr hq1 hr1
      have co : g_cell E w im (gad E b) _ := g_mut b (by omega) u0
      have cg : g_cell E w im (gad E (b + 1)) _ := g_mut (b + 1) (by omega) u1
      have cp : g_cell E w im (gad E (b + 2)) _ := g_mut (b + 2) (by omega) u2
      have cc : g_cell E w im (gad E (b + 3)) _ := g_mut (b + 3) (by omega) u3
      have cl : g_cell E w im (gad E (b + 4)) _ := g_mut (b + 4) (by omega) u4
      refine g_iload_n (n := 1) (i := 1) rfl rfl d_R_empty_26 ?_
      refine g_aload_n (n := 0) (i := 0) rfl rfl d_R_empty_27 ?_
      refine g_getfield 1 1 f_R_19 (by assumption) (by rfl) d_R_empty_28 ?_
      refine g_alen_i (by assumption) (by decide) d_R_empty_31 ?_
      refine g_icmp_ge_i (tgt := 48) (by omega) (by omega) d_R_empty_32 (by decide) (fun h => by exfalso; omega) (fun h32 => ?_)
      refine g_aload_n (n := 0) (i := 0) rfl rfl d_R_empty_35 ?_
      refine g_getfield 1 1 f_R_19 (by assumption) (by rfl) d_R_empty_36 ?_
      refine g_iload_n (n := 1) (i := 1) rfl rfl d_R_empty_39 ?_
      refine g_null d_R_empty_40 ?_
      refine g_aastoreNA (b + 2) (by omega) (by assumption) (by decide) (by rfl) (by omega) (by omega) (by rfl) d_R_empty_41 (fun w hs hn => ?_)
      have u0 := (hn (b) (by omega)).trans u0
      have u1 := (hn (b + 1) (by omega)).trans u1
      have u3 := (hn (b + 3) (by omega)).trans u3
      have u4 := (hn (b + 4) (by omega)).trans u4
      have u2 := hs
      have hfr := fun i (hi : i < b ∨ b + 4 < i) => (hn i (by omega)).trans (hfr i hi)
      have co : g_cell E w im (gad E b) _ := g_mut b (by omega) u0
      have cg : g_cell E w im (gad E (b + 1)) _ := g_mut (b + 1) (by omega) u1
      have cp : g_cell E w im (gad E (b + 2)) _ := g_mut (b + 2) (by omega) u2
      have cc : g_cell E w im (gad E (b + 3)) _ := g_mut (b + 3) (by omega) u3
      have cl : g_cell E w im (gad E (b + 4)) _ := g_mut (b + 4) (by omega) u4
      refine g_iinc_i (i := 1) rfl (by decide) rfl d_R_empty_42 ?_
      refine g_goto (tgt := 26) (by decide) d_R_empty_45 ?_
      exact g_cut (lv' := [(0, .ref (gad E b)), (1, .int (iI (k9 + 1)))]) ⟨rfl, rfl, trivial⟩ (ih (k9 + 1) w _ q1 (by omega) (by omega) u0 u1 u2 u3 u4 hfr hq1 (fun i hi => by simp only [uI]; split <;> first | rfl | exact hr1 i (by omega)))
  have loop1 : ∀ (n9 : Nat) (k9 : Int) (w1 : gW) (r1 : Int → Option Nat), 0 ≤ k9 → k9 + n9 = 12 → w1 b = resE E b R → w1 (b + 1) = rowE 4 12 r1 → w1 (b + 2) = rowE 5 8 rp → w1 (b + 3) = rowE 6 20 rc → w1 (b + 4) = intE 372 lc → (∀ i, i < b ∨ b + 4 < i → w1 i = w i) → (∀ i : Int, 0 ≤ i ∧ i < k9 → r1 i = none) → G E 1 m_R_empty 2 [(0, .ref (gad E b)), (1, .int (iI k9))] [] w1 im 0 0 Q := by
    intro n9
    induction n9 with
    | zero =>
      intro k9 w r1 h9 hk9 u0 u1 u2 u3 u4 hfr hr1
      have e9 : k9 = 12 := by omega
      rw [e9] at hr1
      have co : g_cell E w im (gad E b) _ := g_mut b (by omega) u0
      have cg : g_cell E w im (gad E (b + 1)) _ := g_mut (b + 1) (by omega) u1
      have cp : g_cell E w im (gad E (b + 2)) _ := g_mut (b + 2) (by omega) u2
      have cc : g_cell E w im (gad E (b + 3)) _ := g_mut (b + 3) (by omega) u3
      have cl : g_cell E w im (gad E (b + 4)) _ := g_mut (b + 4) (by omega) u4
      refine g_iload_n (n := 1) (i := 1) rfl rfl d_R_empty_2 ?_
      refine g_aload_n (n := 0) (i := 0) rfl rfl d_R_empty_3 ?_
      refine g_getfield 1 0 f_R_11 (by assumption) (by rfl) d_R_empty_4 ?_
      refine g_alen_i (by assumption) (by decide) d_R_empty_7 ?_
      refine g_icmp_ge_i (tgt := 24) (by omega) (by omega) d_R_empty_8 (by decide) (fun h8 => ?_) (fun h => by exfalso; omega)
      refine g_iconst_i d_R_empty_24 ?_
      refine g_istore_n (n := 1) (i := 1) rfl (by decide) rfl d_R_empty_25 ?_
      exact g_cut (lv' := [(0, .ref (gad E b)), (1, .int (iI 0))]) ⟨rfl, rfl, trivial⟩ (loop2 8 0 w _ r1 (by omega) (by omega) u0 u1 u2 u3 u4 hfr hr1 (fun i hi => by omega))
    | succ n9 ih =>
      intro k9 w r1 h9 hk9 u0 u1 u2 u3 u4 hfr hr1
      have co : g_cell E w im (gad E b) _ := g_mut b (by omega) u0
      have cg : g_cell E w im (gad E (b + 1)) _ := g_mut (b + 1) (by omega) u1
      have cp : g_cell E w im (gad E (b + 2)) _ := g_mut (b + 2) (by omega) u2
      have cc : g_cell E w im (gad E (b + 3)) _ := g_mut (b + 3) (by omega) u3
      have cl : g_cell E w im (gad E (b + 4)) _ := g_mut (b + 4) (by omega) u4
      refine g_iload_n (n := 1) (i := 1) rfl rfl d_R_empty_2 ?_
      refine g_aload_n (n := 0) (i := 0) rfl rfl d_R_empty_3 ?_
      refine g_getfield 1 0 f_R_11 (by assumption) (by rfl) d_R_empty_4 ?_
      refine g_alen_i (by assumption) (by decide) d_R_empty_7 ?_
      refine g_icmp_ge_i (tgt := 24) (by omega) (by omega) d_R_empty_8 (by decide) (fun h => by exfalso; omega) (fun h8 => ?_)
      refine g_aload_n (n := 0) (i := 0) rfl rfl d_R_empty_11 ?_
      refine g_getfield 1 0 f_R_11 (by assumption) (by rfl) d_R_empty_12 ?_
      refine g_iload_n (n := 1) (i := 1) rfl rfl d_R_empty_15 ?_
      refine g_null d_R_empty_16 ?_
      refine g_aastoreNA (b + 1) (by omega) (by assumption) (by decide) (by rfl) (by omega) (by omega) (by rfl) d_R_empty_17 (fun w hs hn => ?_)
      have u0 := (hn (b) (by omega)).trans u0
      have u2 := (hn (b + 2) (by omega)).trans u2
      have u3 := (hn (b + 3) (by omega)).trans u3
      have u4 := (hn (b + 4) (by omega)).trans u4
      have u1 := hs
      have hfr := fun i (hi : i < b ∨ b + 4 < i) => (hn i (by omega)).trans (hfr i hi)
      have co : g_cell E w im (gad E b) _ := g_mut b (by omega) u0
      have cg : g_cell E w im (gad E (b + 1)) _ := g_mut (b + 1) (by omega) u1
      have cp : g_cell E w im (gad E (b + 2)) _ := g_mut (b + 2) (by omega) u2
      have cc : g_cell E w im (gad E (b + 3)) _ := g_mut (b + 3) (by omega) u3
      have cl : g_cell E w im (gad E (b + 4)) _ := g_mut (b + 4) (by omega) u4
      refine g_iinc_i (i := 1) rfl (by decide) rfl d_R_empty_18 ?_
      refine g_goto (tgt := 2) (by decide) d_R_empty_21 ?_
      exact g_cut (lv' := [(0, .ref (gad E b)), (1, .int (iI (k9 + 1)))]) ⟨rfl, rfl, trivial⟩ (ih (k9 + 1) w _ (by omega) (by omega) u0 u1 u2 u3 u4 hfr (fun i hi => by simp only [uI]; split <;> first | rfl | exact hr1 i (by omega)))
  refine g_enter (by decide) rfl rfl (fun h => by first | rfl | cases h) (Nat.le_of_ble_eq_true rfl) rfl ?_
  refine g_iconst_i d_R_empty_0 ?_
  refine g_istore_n (n := 1) (i := 1) rfl (by decide) rfl d_R_empty_1 ?_
  refine g_cut ?_ (loop1 12 0 w rg (by omega) (by omega) h0 h1 h2 h3 h4 (fun _ _ => rfl) (fun i hi => by omega))
  exact ⟨rfl, rfl, trivial⟩

