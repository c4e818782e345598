/-! ===== the reference: it carries orders out ===== -/
/-- a row that has nothing beyond its end -/
def outZ (m : Int → Int) : Prop := ∀ j, j < 0 ∨ 3561 ≤ j → m j = 0
theorem MZ.out {m : Int → Int} {R : Rz} (h : MZ m R) : outZ m := h.2.2.2.2.2.2.2.2.2.2.2
theorem MS.refl {E : gE} {w : gW} {f : Nat → Int} {m : Int → Int} (h : MR E w f m) : MS E w f m w := ⟨h, fun _ _ => rfl⟩
theorem zAddN_s {R : Rz} {n : Int} {k : Int} (h : 0 ≤ k) : zAddN R n (k + 1).toNat = zAddC (zAddN R n k.toNat) (n, 0, -1, 0, []) := by
  rw [show (k + 1).toNat = k.toNat + 1 by omega, zAddN]
theorem ord_s {R : Rz} {n t : Int} : ordZ R 115 n t = if isP R n ∧ zc R + t ≤ 20 then (true, zAddN R n t.toNat) else (false, R) := by unfold ordZ; rw [if_pos rfl]
theorem ord_b {R : Rz} {n t : Int} : ordZ R 98 n t = if isC R n ∧ ¬ settled R n then (true, zBlk R n 1) else (false, R) := by unfold ordZ; rw [if_neg (by decide), if_pos rfl]
theorem ord_u {R : Rz} {n t : Int} : ordZ R 117 n t = if isC R n ∧ ¬ settled R n then (true, zBlk R n 0) else (false, R) := by unfold ordZ; rw [if_neg (by decide), if_neg (by decide), if_pos rfl]
theorem ord_r {R : Rz} {n t : Int} : ordZ R 114 n t = if isC R n ∧ ¬ settled R n ∧ zc R + 1 ≤ 20 then (true, zExch R n) else (false, R) := by unfold ordZ; rw [if_neg (by decide), if_neg (by decide), if_neg (by decide), if_pos rfl]
theorem ord_c {R : Rz} {n t : Int} : ordZ R 99 n t = if isG R n then (true, zShut R (shutZ (zs R) n 1)) else (false, R) := by unfold ordZ; rw [if_neg (by decide), if_neg (by decide), if_neg (by decide), if_neg (by decide), if_pos rfl]
theorem ord_o {R : Rz} {n t : Int} : ordZ R 111 n t = if isG R n then (true, zShut R (shutZ (zs R) n 0)) else (false, R) := by unfold ordZ; rw [if_neg (by decide), if_neg (by decide), if_neg (by decide), if_neg (by decide), if_neg (by decide), if_pos rfl]
theorem ord_w {R : Rz} {n t : Int} : ordZ R 119 n t = if n ≤ 2880 ∧ zk R + n ≤ 43200 then (true, zTime R (zk R + n) (goL R n)) else (false, R) := by unfold ordZ; rw [if_neg (by decide), if_neg (by decide), if_neg (by decide), if_neg (by decide), if_neg (by decide), if_neg (by decide), if_pos rfl]
theorem settled_iff {m : Int → Int} {R : Rz} (ok : okM m) (h : MZ m R) {x : Int} (hx : 0 ≤ x ∧ x < m 3) : settled R x ↔ 1 < m (461 + 5 * x + 1) := by
  have zx := ok.2.2.2.2.2.2.2.2.1 x hx
  unfold settled
  rw [h.2.2.2.2.2.2.1 x hx]
  show (m (461 + 5 * x + 1) = 2 ∨ m (461 + 5 * x + 1) = 3) ↔ _
  omega
theorem okZ_addN {R : Rz} {n : Int} {k : Nat} (h : okZ R) (hn : 0 ≤ n ∧ n < zp R) (hk : zc R + k ≤ 20) : okZ (zAddN R n k) := by
  induction k with
  | zero => exact h
  | succ k ih =>
    have hc := zc_addN (R := R) (pn := n) (n := k)
    have hp := zp_addN (R := R) (pn := n) (n := k)
    exact (ih (by omega)).addC (by omega) ⟨by rw [hp]; exact hn, by show (0 : Int) ≤ 0 ∧ (0 : Int) ≤ 3; omega, Or.inl rfl, by show (0 : Int) ≤ 0 ∧ (0 : Int) ≤ 400000; omega, okR.nil⟩
theorem okZ_ord {R : Rz} {l n t : Int} (h : okZ R) (hn : 0 ≤ n) (ht : l = 115 → 0 ≤ t) : okZ (ordZ R l n t).2 := by
  obtain ⟨k1, k2, k3, k4, k5, k6, k7, k8, k9⟩ := id h
  have hs := fun on => shutZ_rng (s := zs R) (g := n) (on := on)
  unfold ordZ
  split
  · rename_i hl
    have ht := ht hl
    split
    · rename_i h1
      exact okZ_addN h h1.1 (by omega)
    · exact h
  split
  · split
    · rename_i h1
      have := k8 n h1.1
      exact h.setC ⟨this.1, by show (0 : Int) ≤ 1 ∧ (1 : Int) ≤ 3; omega, this.2.2⟩
    · exact h
  split
  · split
    · rename_i h1
      have := k8 n h1.1
      exact h.setC ⟨this.1, by show (0 : Int) ≤ 0 ∧ (0 : Int) ≤ 3; omega, this.2.2⟩
    · exact h
  split
  · split
    · rename_i h1
      have := k8 n h1.1
      have h2 : okZ (zAddC R ((zC R n).1, 0, -1, 0, (zC R n).2.2.2.2)) := h.addC (by omega) ⟨this.1, by show (0 : Int) ≤ 0 ∧ (0 : Int) ≤ 3; omega, Or.inl rfl, by show (0 : Int) ≤ 0 ∧ (0 : Int) ≤ 400000; omega, this.2.2.2.2⟩
      exact h2.setC ⟨this.1, by show (0 : Int) ≤ 2 ∧ (2 : Int) ≤ 3; omega, Or.inr ⟨by show n < zc R; have := h1.1.2; omega, by show zc R < zc R + 1; omega⟩, this.2.2.2.1, okR.nil⟩
    · exact h
  split
  · split
    · rename_i h1
      exact h.shut (shutZ_rng k4 (by have := h1; omega))
    · exact h
  split
  · split
    · rename_i h1
      exact h.shut (shutZ_rng k4 (by have := h1; omega))
    · exact h
  split
  · split
    · rename_i h1
      exact h.time ⟨hn, h1.2⟩
    · exact h
  · exact h

theorem c_M_sells {E : gE} {w : gW} {im : gIm} {Q : gQ} {f : Nat → Int} {m : Int → Int} (hm : MR E w f m) (ok : okM m) {R : Rz} (h : MZ m R) (rn : 0 ≤ f 16 ∧ f 16 ≤ 99999) (rt : 0 ≤ f 17 ∧ f 17 ≤ 9) (hQ1 : (0 ≤ f 16 ∧ f 16 < m 2) → m 3 + f 17 ≤ 20 → ∀ w' m', MS E w f m' w' → okM m' → MZ m' (zAddN R (f 16) (f 17).toNat) → m' 4 = m 4 → Q (.inl (some (.int (iI 1)))) w' im) (hQ2 : ¬ ((0 ≤ f 16 ∧ f 16 < m 2) ∧ m 3 + f 17 ≤ 20) → ∀ w' m', MS E w f m' w' → outZ m' → Q (.inl (some (.int (iI 0)))) w' im) : GM E 3 y_M_sells m_M_sells 0 0 [.ref (gad E 62)] w im Q := by
  obtain ⟨hn, u2, u3⟩ := id hm
  have k2 : g_cell E w im (gad E 62) _ := g_mut 62 (by omega) u2
  have k3 : g_cell E w im (gad E 63) _ := g_mut 63 (by omega) u3
  obtain ⟨z0, z1, z2, z3, z4, z5, z6, z7, z8, z9⟩ := id ok
  have loop : ∀ (n9 : Nat) (k9 : Int) (w1 : gW) (m1 : Int → Int), (0 ≤ f 16 ∧ f 16 < m 2) → 0 ≤ k9 → k9 + n9 = f 17 → MS E w f m1 w1 → okM m1 → MZ m1 (zAddN R (f 16) k9.toNat) → m1 4 = m 4 → m1 3 = m 3 + k9 → m1 2 = m 2 → G E 3 m_M_sells 15 [(0, .ref (gad E 62)), (1, .int (iI k9))] [] w1 im 0 0 Q := by
    intro n9
    induction n9 with
    | zero =>
      intro k9 w m1 hp h9 hk9 hS ok1 h1 e4 e3 e2
      have e9 : k9 = f 17 := by omega
      obtain ⟨hm, hw9⟩ := id hS
      obtain ⟨hn, u2, u3⟩ := id hm
      have k2 : g_cell E w im (gad E 62) _ := g_mut 62 (by omega) u2
      have k3 : g_cell E w im (gad E 63) _ := g_mut 63 (by omega) u3
      have z31 := ok1.2.2.2.1
      refine g_iload_n (n := 1) (i := 1) rfl rfl d_M_sells_15 ?_
      refine g_aload_n (n := 0) (i := 0) rfl rfl d_M_sells_16 ?_
      refine g_getfield 9 17 f_M_230 k2 (by rfl) d_M_sells_17 ?_
      refine g_icmp_ge_i (tgt := 60) (by omega) (by omega) d_M_sells_20 (by decide) (fun h20 => ?_) (fun h => by exfalso; omega)
      refine g_iconst_i d_M_sells_60 ?_
      refine g_ireturn_1 rfl d_M_sells_61 ?_
      exact hQ1 hp (by omega) _ _ hS ok1 (e9 ▸ h1) e4
    | succ n9 ih =>
      intro k9 w m1 hp h9 hk9 hS ok1 h1 e4 e3 e2
      obtain ⟨hm, hw9⟩ := id hS
      obtain ⟨hn, u2, u3⟩ := id hm
      have k2 : g_cell E w im (gad E 62) _ := g_mut 62 (by omega) u2
      have k3 : g_cell E w im (gad E 63) _ := g_mut 63 (by omega) u3
      have z31 := ok1.2.2.2.1
      refine g_iload_n (n := 1) (i := 1) rfl rfl d_M_sells_15 ?_
      refine g_aload_n (n := 0) (i := 0) rfl rfl d_M_sells_16 ?_
      refine g_getfield 9 17 f_M_230 k2 (by rfl) d_M_sells_17 ?_
      refine g_icmp_ge_i (tgt := 60) (by omega) (by omega) d_M_sells_20 (by decide) (fun h => by exfalso; omega) (fun h20 => ?_)
      refine g_aload_n (n := 0) (i := 0) rfl rfl d_M_sells_23 ?_
      refine g_aload_n (n := 0) (i := 0) rfl rfl d_M_sells_24 ?_
      refine g_getfield 9 16 f_M_219 k2 (by rfl) d_M_sells_25 ?_
      refine g_callV1 rfl rfl e_M_sellProblem l_M_130 iv_M_sellProblem 9 (by decide) rfl (by assumption) (by decide) (Nat.zero_le _) (Nat.zero_le _) (Nat.le_of_ble_eq_true rfl) d_M_sells_28 (c_M_sellProblem2 (hQ3 := fun h => absurd ⟨hp.1, by omega⟩ h) hm ok1 (by omega) (fun hA hB => ?_) (fun hA hB => ?_))
      · refine g_ret ?_
        refine g_if_eq_i (tgt := 36) (by decide) d_M_sells_31 (by decide) (fun h => absurd h (by decide)) (fun h31 => ?_)
        refine g_iconst_i d_M_sells_34 ?_
        refine g_ireturn_0 rfl d_M_sells_35 ?_
        exact hQ2 (fun h => by omega) _ _ hS h1.out
      · refine g_ret ?_
        refine g_if_eq_i (tgt := 36) (by decide) d_M_sells_31 (by decide) (fun h31 => ?_) (fun h => absurd h (by decide))
        refine g_aload_n (n := 0) (i := 0) rfl rfl d_M_sells_36 ?_
        refine g_aload_n (n := 0) (i := 0) rfl rfl d_M_sells_37 ?_
        refine g_getfield 9 16 f_M_219 k2 (by rfl) d_M_sells_38 ?_
        refine g_aload_n (n := 0) (i := 0) rfl rfl d_M_sells_41 ?_
        refine g_aload_n (n := 0) (i := 0) rfl rfl d_M_sells_42 ?_
        refine g_getfield 9 16 f_M_219 k2 (by rfl) d_M_sells_43 ?_
        refine g_iconst_i d_M_sells_46 ?_
        refine g_callV2 rfl rfl e_M_p l_M_83 iv_M_p 9 (by decide) rfl (by assumption) (by decide) (Nat.zero_le _) (Nat.zero_le _) (Nat.le_of_ble_eq_true rfl) d_M_sells_47 (c_M_p hm (by omega) (by omega) ?_)
        refine g_ret ?_
        refine g_callV2 rfl rfl e_M_comesCard l_M_133 iv_M_comesCard 9 (by decide) rfl (by assumption) (by decide) (Nat.zero_le _) (Nat.zero_le _) (Nat.le_of_ble_eq_true rfl) d_M_sells_50 (c_M_comesCard hm (by omega) (fun w hS2 => ?_))
        refine g_ret ?_
        have hK := K_come ok1 h1 (p := f 16) (by omega) rfl (by omega)
        rw [← zAddN_s h9] at hK
        have hS := hS.trans hS2
        refine g_pop rfl d_M_sells_53 ?_
        refine g_iinc_i (i := 1) rfl (by decide) rfl d_M_sells_54 ?_
        refine g_goto (tgt := 15) (by decide) d_M_sells_57 ?_
        exact g_cut (lv' := [(0, .ref (gad E 62)), (1, .int (iI (k9 + 1)))]) ⟨rfl, rfl, trivial⟩ (ih (k9 + 1) w _ hp (by omega) (by omega) hS hK.1 hK.2 ((comeM_n z31.1 (by omega) (by omega)).trans e4) ((comeM_3 z31.1).trans (by omega)) ((comeM_n z31.1 (by omega) (by omega)).trans e2))
  refine g_enter (by decide) rfl rfl (fun h => by first | rfl | cases h) (Nat.le_of_ble_eq_true rfl) rfl ?_
  refine g_aload_n (n := 0) (i := 0) rfl rfl d_M_sells_0 ?_
  refine g_aload_n (n := 0) (i := 0) rfl rfl d_M_sells_1 ?_
  refine g_getfield 9 16 f_M_219 k2 (by rfl) d_M_sells_2 ?_
  refine g_callV1 rfl rfl e_M_isProduct l_M_93 iv_M_isProduct 9 (by decide) rfl (by assumption) (by decide) (Nat.zero_le _) (Nat.zero_le _) (Nat.le_of_ble_eq_true rfl) d_M_sells_5 (c_M_isProduct hm ok (by omega) (fun hA => ?_) (fun hA => ?_))
  · refine g_ret ?_
    refine g_if_ne_i (tgt := 13) (by decide) d_M_sells_8 (by decide) (fun h8 => ?_) (fun h => absurd h (by decide))
    refine g_iconst_i d_M_sells_13 ?_
    refine g_istore_n (n := 1) (i := 1) rfl (by decide) rfl d_M_sells_14 ?_
    exact g_cut (lv' := [(0, .ref (gad E 62)), (1, .int (iI 0))]) ⟨rfl, rfl, trivial⟩ (loop (f 17).toNat 0 w m hA (by omega) (by omega) (MS.refl hm) ok h rfl (by omega) rfl)
  · refine g_ret ?_
    refine g_if_ne_i (tgt := 13) (by decide) d_M_sells_8 (by decide) (fun h => absurd h (by decide)) (fun h8 => ?_)
    refine g_iconst_i d_M_sells_11 ?_
    refine g_ireturn_0 rfl d_M_sells_12 ?_
    exact hQ2 (fun h => hA h.1) _ _ (MS.refl hm) h.out

theorem rep_4 {m : Int → Int} {x : Int} (h3 : 0 ≤ m 3 ∧ m 3 ≤ 20) (hx : 0 ≤ x ∧ x < 20) : rplM m x 4 = m 4 := by
  unfold rplM
  rw [rplF_4]
  unfold rpl3
  rw [uI_n (by omega), uI_n (by omega), uI_n (by omega), comeM_n h3.1 (by omega) (by omega)]

theorem c_M_carriesOut {E : gE} {w : gW} {im : gIm} {Q : gQ} {f : Nat → Int} {m : Int → Int} (hm : MR E w f m) (ok : okM m) {R : Rz} (h : MZ m R) (oz : okZ R) (rl : f 15 = 115 ∨ numLB (f 15) = true) (rn : 0 ≤ f 16 ∧ f 16 ≤ 99999) (rt : f 15 = 115 → 0 ≤ f 17 ∧ f 17 ≤ 9) (hQ1 : (ordZ R (f 15) (f 16) (f 17)).1 = true → ∀ w' m', MS E w f m' w' → okM m' → MZ m' (ordZ R (f 15) (f 16) (f 17)).2 → m' 4 = m 4 → Q (.inl (some (.int (iI 1)))) w' im) (hQ2 : (ordZ R (f 15) (f 16) (f 17)).1 = false → ∀ w' m', MS E w f m' w' → outZ m' → Q (.inl (some (.int (iI 0)))) w' im) : GM E 4 y_M_carriesOut m_M_carriesOut 0 0 [.ref (gad E 62)] w im Q := by
  obtain ⟨hn, u2, u3⟩ := id hm
  have k2 : g_cell E w im (gad E 62) _ := g_mut 62 (by omega) u2
  have k3 : g_cell E w im (gad E 63) _ := g_mut 63 (by omega) u3
  obtain ⟨z0, z1, z2, z3, z4, z5, z6, z7, z8, z9⟩ := id ok
  refine g_enter (by decide) rfl rfl (fun h => by first | rfl | cases h) (Nat.le_of_ble_eq_true rfl) rfl ?_
  refine g_aload_n (n := 0) (i := 0) rfl rfl d_M_carriesOut_0 ?_
  refine g_getfield 9 15 f_M_226 k2 (by rfl) d_M_carriesOut_1 ?_
  have hsw : f 15 = 98 ∨ f 15 = 99 ∨ f 15 = 111 ∨ f 15 = 114 ∨ f 15 = 115 ∨ f 15 = 117 ∨ f 15 = 119 := by
    rcases rl with h | h
    · omega
    · simp only [numLB, decide_eq_true_eq] at h; omega
  rcases hsw with hz | hz | hz | hz | hz | hz | hz <;> rw [hz]
  · refine g_lookup (off := 57) (tgt := 61) d_M_carriesOut_4 (by decide) (by decide) (by decide) ?_
    rw [hz, ord_b] at hQ1 hQ2
    refine g_aload_n (n := 0) (i := 0) rfl rfl d_M_carriesOut_61 ?_
    refine g_aload_n (n := 0) (i := 0) rfl rfl d_M_carriesOut_62 ?_
    refine g_getfield 9 16 f_M_219 k2 (by rfl) d_M_carriesOut_63 ?_
    refine g_callV1 rfl rfl e_M_stateProblem l_M_157 iv_M_stateProblem 9 (by decide) rfl (by assumption) (by decide) (Nat.zero_le _) (Nat.zero_le _) (Nat.le_of_ble_eq_true rfl) d_M_carriesOut_66 (c_M_stateProblem2 hm ok (by omega) (fun hA hB => ?_) (fun hA hB => ?_) (fun hA => ?_))
    · refine g_ret ?_
      refine g_if_eq_i (tgt := 74) (by decide) d_M_carriesOut_69 (by decide) (fun h => absurd h (by decide)) (fun h69 => ?_)
      have hno : ¬ (isC R (f 16) ∧ ¬ settled R (f 16)) := by
        intro h9
        have h8 : 0 ≤ f 16 ∧ f 16 < m 3 := by have h9c := h9.1; unfold isC at h9c; rw [h.1.2.2.2] at h9c; exact h9c
        exact (not_congr (settled_iff ok h h8)).1 h9.2 hB
      refine g_iconst_i d_M_carriesOut_72 ?_
      refine g_ireturn_0 rfl d_M_carriesOut_73 ?_
      exact hQ2 (by rw [if_neg hno]) _ _ (MS.refl hm) h.out
    · refine g_ret ?_
      refine g_if_eq_i (tgt := 74) (by decide) d_M_carriesOut_69 (by decide) (fun h69 => ?_) (fun h => absurd h (by decide))
      refine g_aload_n (n := 0) (i := 0) rfl rfl d_M_carriesOut_74 ?_
      refine g_aload_n (n := 0) (i := 0) rfl rfl d_M_carriesOut_75 ?_
      refine g_getfield 9 16 f_M_219 k2 (by rfl) d_M_carriesOut_76 ?_
      refine g_iconst_i d_M_carriesOut_79 ?_
      refine g_aload_n (n := 0) (i := 0) rfl rfl d_M_carriesOut_80 ?_
      refine g_getfield 9 15 f_M_226 k2 (by rfl) d_M_carriesOut_81 ?_
      rw [hz]
      refine g_bipush_i (by decide) d_M_carriesOut_84 ?_
      refine g_icmp_ne_i (tgt := 93) (by decide) (by decide) d_M_carriesOut_86 (by decide) (fun h => absurd h (by decide)) (fun h86 => ?_)
      refine g_iconst_i d_M_carriesOut_89 ?_
      refine g_goto (tgt := 94) (by decide) d_M_carriesOut_90 ?_
      refine g_callV3 rfl rfl e_M_setC l_M_126 iv_M_setC 9 (by decide) rfl (by assumption) (by decide) (Nat.zero_le _) (Nat.zero_le _) (Nat.le_of_ble_eq_true rfl) d_M_carriesOut_94 (c_M_setC hm (by omega) (by omega) (fun w hS => ?_))
      refine g_retv ?_
      refine g_iconst_i d_M_carriesOut_97 ?_
      refine g_ireturn_1 rfl d_M_carriesOut_98 ?_
      have hK := K_block ok h hA (by omega) (show (1 : Int) = 0 ∨ (1 : Int) = 1 by omega)
      rw [if_pos ⟨by unfold isC; rw [h.1.2.2.2]; exact hA, (not_congr (settled_iff ok h hA)).2 hB⟩] at hQ1
      exact hQ1 rfl _ _ hS hK.1 hK.2 (uI_n (by omega))
    · refine g_ret ?_
      refine g_if_eq_i (tgt := 74) (by decide) d_M_carriesOut_69 (by decide) (fun h => absurd h (by decide)) (fun h69 => ?_)
      have hno : ¬ (isC R (f 16) ∧ ¬ settled R (f 16)) := by
        intro h9
        have h8 : 0 ≤ f 16 ∧ f 16 < m 3 := by have h9c := h9.1; unfold isC at h9c; rw [h.1.2.2.2] at h9c; exact h9c
        exact hA h8
      refine g_iconst_i d_M_carriesOut_72 ?_
      refine g_ireturn_0 rfl d_M_carriesOut_73 ?_
      exact hQ2 (by rw [if_neg hno]) _ _ (MS.refl hm) h.out
  · refine g_lookup (off := 146) (tgt := 150) d_M_carriesOut_4 (by decide) (by decide) (by decide) ?_
    rw [hz, ord_c] at hQ1 hQ2
    refine g_aload_n (n := 0) (i := 0) rfl rfl d_M_carriesOut_150 ?_
    refine g_aload_n (n := 0) (i := 0) rfl rfl d_M_carriesOut_151 ?_
    refine g_getfield 9 16 f_M_219 k2 (by rfl) d_M_carriesOut_152 ?_
    refine g_callV1 rfl rfl e_M_isGate l_M_69 iv_M_isGate 9 (by decide) rfl (by assumption) (by decide) (Nat.zero_le _) (Nat.zero_le _) (Nat.le_of_ble_eq_true rfl) d_M_carriesOut_155 (c_M_isGate hm ok (by omega) (fun hA => ?_) (fun hA => ?_))
    · refine g_ret ?_
      refine g_if_ne_i (tgt := 163) (by decide) d_M_carriesOut_158 (by decide) (fun h158 => ?_) (fun h => absurd h (by decide))
      refine g_aload_n (n := 0) (i := 0) rfl rfl d_M_carriesOut_163 ?_
      refine g_getfield 9 0 f_M_9 (by assumption) (by rfl) d_M_carriesOut_164 ?_
      refine g_iconst_i d_M_carriesOut_167 ?_
      refine g_bipush_i (by decide) d_M_carriesOut_168 ?_
      refine g_aload_n (n := 0) (i := 0) rfl rfl d_M_carriesOut_170 ?_
      refine g_getfield 9 16 f_M_219 k2 (by rfl) d_M_carriesOut_171 ?_
      refine g_imul_i d_M_carriesOut_174 ?_
      refine g_iadd_i d_M_carriesOut_175 ?_
      refine g_iconst_i d_M_carriesOut_176 ?_
      refine g_iadd_i d_M_carriesOut_177 ?_
      refine g_aload_n (n := 0) (i := 0) rfl rfl d_M_carriesOut_178 ?_
      refine g_getfield 9 15 f_M_226 k2 (by rfl) d_M_carriesOut_179 ?_
      rw [hz]
      refine g_bipush_i (by decide) d_M_carriesOut_182 ?_
      refine g_icmp_ne_i (tgt := 191) (by decide) (by decide) d_M_carriesOut_184 (by decide) (fun h => absurd h (by decide)) (fun h184 => ?_)
      refine g_iconst_i d_M_carriesOut_187 ?_
      refine g_goto (tgt := 192) (by decide) d_M_carriesOut_188 ?_
      refine g_iastoreA 63 (by omega) u3 (by omega) (by omega) (by rfl) d_M_carriesOut_192 (fun w hs hn9 => ?_)
      have hS := hm.row hs hn9
      refine g_iconst_i d_M_carriesOut_193 ?_
      refine g_ireturn_1 rfl d_M_carriesOut_194 ?_
      have hK := K_shut ok h oz hA (show (1 : Int) = 0 ∨ (1 : Int) = 1 by omega)
      rw [if_pos (show isG R (f 16) by unfold isG; rw [h.1.2.1]; exact hA)] at hQ1
      exact hQ1 rfl _ _ hS hK.1 hK.2 (uI_n (by omega))
    · refine g_ret ?_
      refine g_if_ne_i (tgt := 163) (by decide) d_M_carriesOut_158 (by decide) (fun h => absurd h (by decide)) (fun h158 => ?_)
      refine g_iconst_i d_M_carriesOut_161 ?_
      refine g_ireturn_0 rfl d_M_carriesOut_162 ?_
      exact hQ2 (by rw [if_neg (fun h9 => hA (by unfold isG at h9; rw [h.1.2.1] at h9; exact h9))]) _ _ (MS.refl hm) h.out
  · refine g_lookup (off := 146) (tgt := 150) d_M_carriesOut_4 (by decide) (by decide) (by decide) ?_
    rw [hz, ord_o] at hQ1 hQ2
    refine g_aload_n (n := 0) (i := 0) rfl rfl d_M_carriesOut_150 ?_
    refine g_aload_n (n := 0) (i := 0) rfl rfl d_M_carriesOut_151 ?_
    refine g_getfield 9 16 f_M_219 k2 (by rfl) d_M_carriesOut_152 ?_
    refine g_callV1 rfl rfl e_M_isGate l_M_69 iv_M_isGate 9 (by decide) rfl (by assumption) (by decide) (Nat.zero_le _) (Nat.zero_le _) (Nat.le_of_ble_eq_true rfl) d_M_carriesOut_155 (c_M_isGate hm ok (by omega) (fun hA => ?_) (fun hA => ?_))
    · refine g_ret ?_
      refine g_if_ne_i (tgt := 163) (by decide) d_M_carriesOut_158 (by decide) (fun h158 => ?_) (fun h => absurd h (by decide))
      refine g_aload_n (n := 0) (i := 0) rfl rfl d_M_carriesOut_163 ?_
      refine g_getfield 9 0 f_M_9 (by assumption) (by rfl) d_M_carriesOut_164 ?_
      refine g_iconst_i d_M_carriesOut_167 ?_
      refine g_bipush_i (by decide) d_M_carriesOut_168 ?_
      refine g_aload_n (n := 0) (i := 0) rfl rfl d_M_carriesOut_170 ?_
      refine g_getfield 9 16 f_M_219 k2 (by rfl) d_M_carriesOut_171 ?_
      refine g_imul_i d_M_carriesOut_174 ?_
      refine g_iadd_i d_M_carriesOut_175 ?_
      refine g_iconst_i d_M_carriesOut_176 ?_
      refine g_iadd_i d_M_carriesOut_177 ?_
      refine g_aload_n (n := 0) (i := 0) rfl rfl d_M_carriesOut_178 ?_
      refine g_getfield 9 15 f_M_226 k2 (by rfl) d_M_carriesOut_179 ?_
      rw [hz]
      refine g_bipush_i (by decide) d_M_carriesOut_182 ?_
      refine g_icmp_ne_i (tgt := 191) (by decide) (by decide) d_M_carriesOut_184 (by decide) (fun h184 => ?_) (fun h => absurd h (by decide))
      refine g_iconst_i d_M_carriesOut_191 ?_
      refine g_iastoreA 63 (by omega) u3 (by omega) (by omega) (by rfl) d_M_carriesOut_192 (fun w hs hn9 => ?_)
      have hS := hm.row hs hn9
      refine g_iconst_i d_M_carriesOut_193 ?_
      refine g_ireturn_1 rfl d_M_carriesOut_194 ?_
      have hK := K_shut ok h oz hA (show (0 : Int) = 0 ∨ (0 : Int) = 1 by omega)
      rw [if_pos (show isG R (f 16) by unfold isG; rw [h.1.2.1]; exact hA)] at hQ1
      exact hQ1 rfl _ _ hS hK.1 hK.2 (uI_n (by omega))
    · refine g_ret ?_
      refine g_if_ne_i (tgt := 163) (by decide) d_M_carriesOut_158 (by decide) (fun h => absurd h (by decide)) (fun h158 => ?_)
      refine g_iconst_i d_M_carriesOut_161 ?_
      refine g_ireturn_0 rfl d_M_carriesOut_162 ?_
      exact hQ2 (by rw [if_neg (fun h9 => hA (by unfold isG at h9; rw [h.1.2.1] at h9; exact h9))]) _ _ (MS.refl hm) h.out
  · refine g_lookup (off := 95) (tgt := 99) d_M_carriesOut_4 (by decide) (by decide) (by decide) ?_
    rw [hz, ord_r] at hQ1 hQ2
    refine g_aload_n (n := 0) (i := 0) rfl rfl d_M_carriesOut_99 ?_
    refine g_aload_n (n := 0) (i := 0) rfl rfl d_M_carriesOut_100 ?_
    refine g_getfield 9 16 f_M_219 k2 (by rfl) d_M_carriesOut_101 ?_
    refine g_callV1 rfl rfl e_M_replaceProblem l_M_160 iv_M_replaceProblem 9 (by decide) rfl (by assumption) (by decide) (Nat.zero_le _) (Nat.zero_le _) (Nat.le_of_ble_eq_true rfl) d_M_carriesOut_104 (c_M_replaceProblem2 hm ok (by omega) (fun hA hB => ?_) (fun hA hB => ?_) (fun hA => ?_))
    · refine g_ret ?_
      refine g_if_ne_i (tgt := 125) (by decide) d_M_carriesOut_107 (by decide) (fun h107 => ?_) (fun h => absurd h (by decide))
      have hno : ¬ (isC R (f 16) ∧ ¬ settled R (f 16) ∧ zc R + 1 ≤ 20) := by
        intro h9
        have h8 : 0 ≤ f 16 ∧ f 16 < m 3 := by have h9c := h9.1; unfold isC at h9c; rw [h.1.2.2.2] at h9c; exact h9c
        have h7 := (not_congr (settled_iff ok h h8)).1 h9.2.1
        have h6 := h9.2.2
        rw [h.1.2.2.2] at h6
        omega
      refine g_iconst_i d_M_carriesOut_125 ?_
      refine g_ireturn_0 rfl d_M_carriesOut_126 ?_
      exact hQ2 (by rw [if_neg hno]) _ _ (MS.refl hm) h.out
    · refine g_ret ?_
      refine g_if_ne_i (tgt := 125) (by decide) d_M_carriesOut_107 (by decide) (fun h => absurd h (by decide)) (fun h107 => ?_)
      refine g_aload_n (n := 0) (i := 0) rfl rfl d_M_carriesOut_110 ?_
      refine g_aload_n (n := 0) (i := 0) rfl rfl d_M_carriesOut_111 ?_
      refine g_getfield 9 16 f_M_219 k2 (by rfl) d_M_carriesOut_112 ?_
      refine g_callV1 rfl rfl e_M_replaces l_M_163 iv_M_replaces 9 (by decide) rfl (by assumption) (by decide) (Nat.zero_le _) (Nat.zero_le _) (Nat.le_of_ble_eq_true rfl) d_M_carriesOut_115 (c_M_replaces hm ok hA (by omega) (fun w hS => ?_))
      refine g_ret ?_
      refine g_if_lt_i (tgt := 125) (by omega) d_M_carriesOut_118 (by decide) (fun h => by exfalso; omega) (fun h118 => ?_)
      have hK := K_rep ok h hA (by omega) (by omega)
      rw [if_pos ⟨by unfold isC; rw [h.1.2.2.2]; exact hA, (not_congr (settled_iff ok h hA)).2 (fun h9 => hB (Or.inl h9)), by rw [h.1.2.2.2]; omega⟩] at hQ1
      refine g_iconst_i d_M_carriesOut_121 ?_
      refine g_goto (tgt := 126) (by decide) d_M_carriesOut_122 ?_
      refine g_ireturn_1 rfl d_M_carriesOut_126 ?_
      exact hQ1 rfl _ _ hS hK.1 hK.2 (rep_4 z3 (by omega))
    · refine g_ret ?_
      refine g_if_ne_i (tgt := 125) (by decide) d_M_carriesOut_107 (by decide) (fun h107 => ?_) (fun h => absurd h (by decide))
      have hno : ¬ (isC R (f 16) ∧ ¬ settled R (f 16) ∧ zc R + 1 ≤ 20) := by
        intro h9
        have h8 : 0 ≤ f 16 ∧ f 16 < m 3 := by have h9c := h9.1; unfold isC at h9c; rw [h.1.2.2.2] at h9c; exact h9c
        exact hA h8
      refine g_iconst_i d_M_carriesOut_125 ?_
      refine g_ireturn_0 rfl d_M_carriesOut_126 ?_
      exact hQ2 (by rw [if_neg hno]) _ _ (MS.refl hm) h.out
  · refine g_lookup (off := 52) (tgt := 56) d_M_carriesOut_4 (by decide) (by decide) (by decide) ?_
    rw [hz, ord_s] at hQ1 hQ2
    refine g_aload_n (n := 0) (i := 0) rfl rfl d_M_carriesOut_56 ?_
    refine g_callV0 rfl rfl e_M_sells l_M_236 iv_M_sells 9 (by decide) rfl (by assumption) (by decide) (Nat.zero_le _) (Nat.zero_le _) (Nat.le_of_ble_eq_true rfl) d_M_carriesOut_57 (c_M_sells hm ok h rn (rt hz) (fun hA hB w m9 hS ok9 h9 e49 => ?_) (fun hA w m9 hS o9 => ?_))
    · refine g_ret ?_
      have hyes : isP R (f 16) ∧ zc R + f 17 ≤ 20 := ⟨by unfold isP; rw [h.1.2.2.1]; exact hA, by rw [h.1.2.2.2]; exact hB⟩
      rw [if_pos hyes] at hQ1
      refine g_ireturn_1 rfl d_M_carriesOut_60 ?_
      exact hQ1 rfl _ _ hS ok9 h9 e49
    · refine g_ret ?_
      have hno : ¬ (isP R (f 16) ∧ zc R + f 17 ≤ 20) := by
        intro h8
        have h7 := h8.1
        unfold isP at h7
        rw [h.1.2.2.1] at h7
        have h6 := h8.2
        rw [h.1.2.2.2] at h6
        exact hA ⟨h7, h6⟩
      refine g_ireturn_0 rfl d_M_carriesOut_60 ?_
      exact hQ2 (by rw [if_neg hno]) _ _ hS o9
  · refine g_lookup (off := 57) (tgt := 61) d_M_carriesOut_4 (by decide) (by decide) (by decide) ?_
    rw [hz, ord_u] at hQ1 hQ2
    refine g_aload_n (n := 0) (i := 0) rfl rfl d_M_carriesOut_61 ?_
    refine g_aload_n (n := 0) (i := 0) rfl rfl d_M_carriesOut_62 ?_
    refine g_getfield 9 16 f_M_219 k2 (by rfl) d_M_carriesOut_63 ?_
    refine g_callV1 rfl rfl e_M_stateProblem l_M_157 iv_M_stateProblem 9 (by decide) rfl (by assumption) (by decide) (Nat.zero_le _) (Nat.zero_le _) (Nat.le_of_ble_eq_true rfl) d_M_carriesOut_66 (c_M_stateProblem2 hm ok (by omega) (fun hA hB => ?_) (fun hA hB => ?_) (fun hA => ?_))
    · refine g_ret ?_
      refine g_if_eq_i (tgt := 74) (by decide) d_M_carriesOut_69 (by decide) (fun h => absurd h (by decide)) (fun h69 => ?_)
      have hno : ¬ (isC R (f 16) ∧ ¬ settled R (f 16)) := by
        intro h9
        have h8 : 0 ≤ f 16 ∧ f 16 < m 3 := by have h9c := h9.1; unfold isC at h9c; rw [h.1.2.2.2] at h9c; exact h9c
        exact (not_congr (settled_iff ok h h8)).1 h9.2 hB
      refine g_iconst_i d_M_carriesOut_72 ?_
      refine g_ireturn_0 rfl d_M_carriesOut_73 ?_
      exact hQ2 (by rw [if_neg hno]) _ _ (MS.refl hm) h.out
    · refine g_ret ?_
      refine g_if_eq_i (tgt := 74) (by decide) d_M_carriesOut_69 (by decide) (fun h69 => ?_) (fun h => absurd h (by decide))
      refine g_aload_n (n := 0) (i := 0) rfl rfl d_M_carriesOut_74 ?_
      refine g_aload_n (n := 0) (i := 0) rfl rfl d_M_carriesOut_75 ?_
      refine g_getfield 9 16 f_M_219 k2 (by rfl) d_M_carriesOut_76 ?_
      refine g_iconst_i d_M_carriesOut_79 ?_
      refine g_aload_n (n := 0) (i := 0) rfl rfl d_M_carriesOut_80 ?_
      refine g_getfield 9 15 f_M_226 k2 (by rfl) d_M_carriesOut_81 ?_
      rw [hz]
      refine g_bipush_i (by decide) d_M_carriesOut_84 ?_
      refine g_icmp_ne_i (tgt := 93) (by decide) (by decide) d_M_carriesOut_86 (by decide) (fun h86 => ?_) (fun h => absurd h (by decide))
      refine g_iconst_i d_M_carriesOut_93 ?_
      refine g_callV3 rfl rfl e_M_setC l_M_126 iv_M_setC 9 (by decide) rfl (by assumption) (by decide) (Nat.zero_le _) (Nat.zero_le _) (Nat.le_of_ble_eq_true rfl) d_M_carriesOut_94 (c_M_setC hm (by omega) (by omega) (fun w hS => ?_))
      refine g_retv ?_
      refine g_iconst_i d_M_carriesOut_97 ?_
      refine g_ireturn_1 rfl d_M_carriesOut_98 ?_
      have hK := K_block ok h hA (by omega) (show (0 : Int) = 0 ∨ (0 : Int) = 1 by omega)
      rw [if_pos ⟨by unfold isC; rw [h.1.2.2.2]; exact hA, (not_congr (settled_iff ok h hA)).2 hB⟩] at hQ1
      exact hQ1 rfl _ _ hS hK.1 hK.2 (uI_n (by omega))
    · refine g_ret ?_
      refine g_if_eq_i (tgt := 74) (by decide) d_M_carriesOut_69 (by decide) (fun h => absurd h (by decide)) (fun h69 => ?_)
      have hno : ¬ (isC R (f 16) ∧ ¬ settled R (f 16)) := by
        intro h9
        have h8 : 0 ≤ f 16 ∧ f 16 < m 3 := by have h9c := h9.1; unfold isC at h9c; rw [h.1.2.2.2] at h9c; exact h9c
        exact hA h8
      refine g_iconst_i d_M_carriesOut_72 ?_
      refine g_ireturn_0 rfl d_M_carriesOut_73 ?_
      exact hQ2 (by rw [if_neg hno]) _ _ (MS.refl hm) h.out
  · refine g_lookup (off := 123) (tgt := 127) d_M_carriesOut_4 (by decide) (by decide) (by decide) ?_
    rw [hz, ord_w] at hQ1 hQ2
    refine g_aload_n (n := 0) (i := 0) rfl rfl d_M_carriesOut_127 ?_
    refine g_aload_n (n := 0) (i := 0) rfl rfl d_M_carriesOut_128 ?_
    refine g_getfield 9 16 f_M_219 k2 (by rfl) d_M_carriesOut_129 ?_
    refine g_callV1 rfl rfl e_M_advanceProblem l_M_107 iv_M_advanceProblem 9 (by decide) rfl (by assumption) (by decide) (Nat.zero_le _) (Nat.zero_le _) (Nat.le_of_ble_eq_true rfl) d_M_carriesOut_132 (c_M_advanceProblem hm ok (by omega) (fun hA hB => ?_) (fun hA hB => ?_) (fun hA => ?_))
    · refine g_ret ?_
      refine g_if_eq_i (tgt := 140) (by decide) d_M_carriesOut_135 (by decide) (fun h => absurd h (by decide)) (fun h135 => ?_)
      refine g_iconst_i d_M_carriesOut_138 ?_
      refine g_ireturn_0 rfl d_M_carriesOut_139 ?_
      exact hQ2 (by rw [if_neg (fun h9 => by rw [h.1.1] at h9; omega)]) _ _ (MS.refl hm) h.out
    · refine g_ret ?_
      refine g_if_eq_i (tgt := 140) (by decide) d_M_carriesOut_135 (by decide) (fun h135 => ?_) (fun h => absurd h (by decide))
      refine g_aload_n (n := 0) (i := 0) rfl rfl d_M_carriesOut_140 ?_
      refine g_aload_n (n := 0) (i := 0) rfl rfl d_M_carriesOut_141 ?_
      refine g_getfield 9 16 f_M_219 k2 (by rfl) d_M_carriesOut_142 ?_
      refine g_callV1 rfl rfl e_M_goesOn l_M_110 iv_M_goesOn 9 (by decide) rfl (by assumption) (by decide) (Nat.zero_le _) (Nat.zero_le _) (Nat.le_of_ble_eq_true rfl) d_M_carriesOut_145 (c_M_goesOn hm ⟨by omega, by omega, by omega, by omega⟩ (fun w hS => ?_))
      refine g_retv ?_
      refine g_iconst_i d_M_carriesOut_148 ?_
      refine g_ireturn_1 rfl d_M_carriesOut_149 ?_
      rw [if_pos (show f 16 ≤ 2880 ∧ zk R + f 16 ≤ 43200 by rw [h.1.1]; omega)] at hQ1
      have hK := K_time ok h (x := f 16) (oz.time ⟨rn.1, by rw [h.1.1]; omega⟩) rn.1 (by omega)
      exact hQ1 rfl _ _ hS hK.1 hK.2 (goF_h (by omega) (by omega) z1.2)
    · refine g_ret ?_
      refine g_if_eq_i (tgt := 140) (by decide) d_M_carriesOut_135 (by decide) (fun h => absurd h (by decide)) (fun h135 => ?_)
      refine g_iconst_i d_M_carriesOut_138 ?_
      refine g_ireturn_0 rfl d_M_carriesOut_139 ?_
      exact hQ2 (by rw [if_neg (fun h9 => by rw [h.1.1] at h9; omega)]) _ _ (MS.refl hm) h.out

