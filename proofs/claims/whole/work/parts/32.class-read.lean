/-! ===== read, append ===== -/
theorem rdAll_pos {n : Nat} {t : Tx} : (rdAll n t).1 = -1 ∨ (rdAll n t).1 = tp (rdAll n t).2 := by
  induction n generalizing t with
  | zero => exact Or.inr rfl
  | succ n ih =>
    rw [rdAll]
    split
    · split
      · exact ih
      · by_cases h : tp (rdOrder t).2 < tl (rdOrder t).2
        · rw [if_pos h]; exact Or.inr rfl
        · rw [if_neg h]; exact Or.inl rfl
    · exact Or.inr rfl
theorem frO_rng {n : Nat} {k : Int} {t : Tx} {R : Rz} (hk : 0 ≤ k) : -1 ≤ (frO n k t R).1 ∧ (frO n k t R).1 ≤ k + n := by
  induction n generalizing k t R with
  | zero => exact ⟨Int.le_refl _, (show (-1 : Int) ≤ k + 0 by omega)⟩
  | succ n ih =>
    rw [frO]
    split
    · split
      · have := ih (k := k + 1) (t := if sg (rdOrder t).2 = 59 then tSk (rdOrder t).2 else (rdOrder t).2) (R := (ordZ R (tc (rdOrder t).2) (tn (rdOrder t).2) (tt (rdOrder t).2)).2) (by omega)
        omega
      · exact ⟨(show -1 ≤ k by omega), (show k ≤ k + ((n + 1 : Nat) : Int) by omega)⟩
    · exact ⟨(show -1 ≤ k by omega), (show k ≤ k + ((n + 1 : Nat) : Int) by omega)⟩
def rd1 (c : CSt) : Int × Tx := rdAll 60 (tOr (tP (cT c) 0) 0)
def c1R (c : CSt) : CSt := cSetT c (rd1 c).2
def c2R (c : CSt) : CSt := cSetH (c1R c) (cx c) (ch c) (uI (cS c) (cx c) (cN c))
def fr2 (c : CSt) : Int × Tx × Rz := frO (to' (rd1 c).2).toNat 0 (tP (rd1 c).2 0) (cN c)
def c4R (c : CSt) : CSt := cSetT (cTR (c2R c) (fr2 c).2.1 (fr2 c).2.2) (tLn (fr2 c).2.1 0)
def eRead (c : CSt) : gO × CSt := if (rd1 c).1 = -1 then
    (if (fr2 c).1 = -1 then (oV (to' (fr2 c).2.1), cSetH (c4R c) (cNx c) (cCh c) (uI (cS c) (cx c) (cN c)))
     else (oUO, cSetF (cSetN (c4R c) (cN c)) ((cF c).1, (cF c).2.1, (cF c).2.2.1, (fr2 c).1)))
  else (oIA, cSetT (cSetF (c1R c) ((cF c).1, (cF c).2.1, (rd1 c).1, (cF c).2.2.2)) (tLn (rd1 c).2 0))

theorem c_X_read {E : gE} {w : gW} {im : gIm} {Q : gQ} {c : CSt} (hx : XW E w im c) (hQ : ∀ o c2 w' im', (o, c2) = eRead c → XN E w im c2 w' im' → Q (o) w' im') : GM E 6 y_X_read m_X_read 541 3246 [.ref (gad E 0)] w im Q := by
  have hx9 := hx
  obtain ⟨⟨hn, x0, x1, x2, x3, x4, x5, m61, x6⟩, ⟨r1, r2, r3⟩, o1, o2, o3, o4⟩ := hx9
  have k0 : g_cell E w im (gad E 0) _ := g_mut 0 (by omega) x0
  have k1 : g_cell E w im (gad E 56) _ := g_mut 56 (by omega) x1
  have k2 : g_cell E w im (gad E 57) _ := g_mut 57 (by omega) x2
  have k3 : g_cell E w im (gad E 58) _ := g_mut 58 (by omega) x3
  have k4 : g_cell E w im (gad E 59) _ := g_mut 59 (by omega) x4
  have k5 : g_cell E w im (gad E 60) _ := g_mut 60 (by omega) x5
  have k6 : g_cell E w im (gad E 61) _ := g_mut 61 (by omega) x6
  have kn := r1.cell
  have kk := r2.cell
  have hz := r1
  have hz9 := hz
  obtain ⟨rg, rp, rc, lc, ⟨hb, h0, h1, h2, h3, h4, hlc⟩, ⟨i1, i2, i3, i4, i5, i6⟩, ok⟩ := hz9
  obtain ⟨ok1, ok2, ok3, ok4, ok5, ok6, ok7, ok8, ok9⟩ := ok
  have co : g_cell E w im (gad E 1) (resE E 1 (cN c)) := g_mut 1 (by omega) h0
  have cg : g_cell E w im (gad E (1 + 1)) (rowE 4 12 rg) := g_mut (1 + 1) (by omega) h1
  have cp : g_cell E w im (gad E (1 + 2)) (rowE 5 8 rp) := g_mut (1 + 2) (by omega) h2
  have cc : g_cell E w im (gad E (1 + 3)) (rowE 6 20 rc) := g_mut (1 + 3) (by omega) h3
  have cl : g_cell E w im (gad E (1 + 4)) (intE 372 lc) := g_mut (1 + 4) (by omega) h4
  have o39 := o3
  obtain ⟨oa1, oa2, oa3, oa4⟩ := o39
  refine g_enter (by decide) rfl rfl (fun h => by first | rfl | cases h) (Nat.le_of_ble_eq_true rfl) rfl ?_
  refine g_aload_n (n := 0) (i := 0) rfl rfl d_X_read_0 ?_
  refine g_getfield 0 3 f_X_29 (by assumption) (by rfl) d_X_read_1 ?_
  refine g_callV0 rfl rfl e_T_findError l_X_404 iv_T_findError 3 (by decide) rfl (by assumption) (by decide) (Nat.zero_le _) (Nat.zero_le _) (Nat.le_of_ble_eq_true rfl) d_X_read_4 (c_T_findError hx.tw (fun w hT => ?_))
  refine g_ret ?_
  have hN : XN E _ _ (c1R c) w im := hx.sTN hT
  have hx := hN.2.2
  have hx9 := hx
  obtain ⟨⟨hn, x0, x1, x2, x3, x4, x5, m61, x6⟩, ⟨r1, r2, r3⟩, o1, o2, o3, o4⟩ := hx9
  have k0 : g_cell E w im (gad E 0) _ := g_mut 0 (by omega) x0
  have k1 : g_cell E w im (gad E 56) _ := g_mut 56 (by omega) x1
  have k2 : g_cell E w im (gad E 57) _ := g_mut 57 (by omega) x2
  have k3 : g_cell E w im (gad E 58) _ := g_mut 58 (by omega) x3
  have k4 : g_cell E w im (gad E 59) _ := g_mut 59 (by omega) x4
  have k5 : g_cell E w im (gad E 60) _ := g_mut 60 (by omega) x5
  have k6 : g_cell E w im (gad E 61) _ := g_mut 61 (by omega) x6
  have kn := r1.cell
  have kk := r2.cell
  have ok2 : okT (rd1 c).2 := o4
  obtain ⟨z1, z2, z3, z4, z5, z6, z7⟩ := ok2
  have hr1 : (rd1 c).1 = -1 ∨ (rd1 c).1 = tp (rd1 c).2 := rdAll_pos
  change G E 6 m_X_read _ _ [.int (iI (rd1 c).1)] _ _ _ _ Q
  refine g_istore_n (n := 1) (i := 1) rfl (by decide) rfl d_X_read_7 ?_
  refine g_iload_n (n := 1) (i := 1) rfl rfl d_X_read_8 ?_
  refine g_iconst_i d_X_read_9 ?_
  refine g_icmp_eq_i (tgt := 36) (by omega) (by decide) d_X_read_10 (by decide) (fun h10 => ?_) (fun h10 => ?_)
  · refine g_aload_n (n := 0) (i := 0) rfl rfl d_X_read_36 ?_
    refine g_getfield 0 2 f_X_22 (by assumption) (by rfl) d_X_read_37 ?_
    refine g_aload_n (n := 0) (i := 0) rfl rfl d_X_read_40 ?_
    refine g_getfield 0 0 f_X_12 (by assumption) (by rfl) d_X_read_41 ?_
    refine g_callV1 rfl rfl e_H_keep l_X_410 iv_H_keep 2 (by decide) rfl (by assumption) (by decide) (Nat.zero_le _) (Nat.zero_le _) (Nat.le_of_ble_eq_true rfl) d_X_read_44 (c_H_keep hx (fun w im hN2 => ?_))
    refine g_retv ?_
    have hN : XN E _ _ (c2R c) w im := hN.trans hN2
    have hx := hN.2.2
    have hx9 := hx
    obtain ⟨⟨hn, x0, x1, x2, x3, x4, x5, m61, x6⟩, ⟨r1, r2, r3⟩, o1, o2, o3, o4⟩ := hx9
    have k0 : g_cell E w im (gad E 0) _ := g_mut 0 (by omega) x0
    have k1 : g_cell E w im (gad E 56) _ := g_mut 56 (by omega) x1
    have k2 : g_cell E w im (gad E 57) _ := g_mut 57 (by omega) x2
    have k3 : g_cell E w im (gad E 58) _ := g_mut 58 (by omega) x3
    have k4 : g_cell E w im (gad E 59) _ := g_mut 59 (by omega) x4
    have k5 : g_cell E w im (gad E 60) _ := g_mut 60 (by omega) x5
    have k6 : g_cell E w im (gad E 61) _ := g_mut 61 (by omega) x6
    have kn := r1.cell
    have kk := r2.cell
    refine g_aload_n (n := 0) (i := 0) rfl rfl d_X_read_47 ?_
    refine g_callV0 rfl rfl e_X_firstRefusedOrder l_X_413 iv_X_firstRefusedOrder 0 (by decide) rfl (by assumption) (by decide) (by decide) (by decide) (Nat.le_of_ble_eq_true rfl) d_X_read_48 (c_X_firstRefusedOrder hx (fun w im hN2 => ?_))
    refine g_retn ?_
    have hN : XN E _ _ (cTR (c2R c) (fr2 c).2.1 (fr2 c).2.2) w im := hN.trans hN2
    have hx := hN.2.2
    have hx9 := hx
    obtain ⟨⟨hn, x0, x1, x2, x3, x4, x5, m61, x6⟩, ⟨r1, r2, r3⟩, o1, o2, o3, o4⟩ := hx9
    have k0 : g_cell E w im (gad E 0) _ := g_mut 0 (by omega) x0
    have k1 : g_cell E w im (gad E 56) _ := g_mut 56 (by omega) x1
    have k2 : g_cell E w im (gad E 57) _ := g_mut 57 (by omega) x2
    have k3 : g_cell E w im (gad E 58) _ := g_mut 58 (by omega) x3
    have k4 : g_cell E w im (gad E 59) _ := g_mut 59 (by omega) x4
    have k5 : g_cell E w im (gad E 60) _ := g_mut 60 (by omega) x5
    have k6 : g_cell E w im (gad E 61) _ := g_mut 61 (by omega) x6
    have kn := r1.cell
    have kk := r2.cell
    have hr2 : -1 ≤ (fr2 c).1 ∧ (fr2 c).1 ≤ 0 + (((to' (rd1 c).2).toNat : Nat) : Int) := frO_rng (Int.le_refl 0)
    change G E 6 m_X_read _ _ [.int (iI (fr2 c).1)] _ _ _ _ Q
    refine g_istore_n (n := 2) (i := 2) rfl (by decide) rfl d_X_read_51 ?_
    refine g_aload_n (n := 0) (i := 0) rfl rfl d_X_read_52 ?_
    refine g_getfield 0 3 f_X_29 (by assumption) (by rfl) d_X_read_53 ?_
    refine g_callV0 rfl rfl e_T_empty l_X_407 iv_T_empty 3 (by decide) rfl (by assumption) (by decide) (Nat.zero_le _) (Nat.zero_le _) (Nat.le_of_ble_eq_true rfl) d_X_read_56 (c_T_empty hx.tw (fun w hT => ?_))
    refine g_retv ?_
    have hN : XN E _ _ (c4R c) w im := hN.trans (hx.sTN hT)
    have hx := hN.2.2
    have hx9 := hx
    obtain ⟨⟨hn, x0, x1, x2, x3, x4, x5, m61, x6⟩, ⟨r1, r2, r3⟩, o1, o2, o3, o4⟩ := hx9
    have k0 : g_cell E w im (gad E 0) _ := g_mut 0 (by omega) x0
    have k1 : g_cell E w im (gad E 56) _ := g_mut 56 (by omega) x1
    have k2 : g_cell E w im (gad E 57) _ := g_mut 57 (by omega) x2
    have k3 : g_cell E w im (gad E 58) _ := g_mut 58 (by omega) x3
    have k4 : g_cell E w im (gad E 59) _ := g_mut 59 (by omega) x4
    have k5 : g_cell E w im (gad E 60) _ := g_mut 60 (by omega) x5
    have k6 : g_cell E w im (gad E 61) _ := g_mut 61 (by omega) x6
    have kn := r1.cell
    have kk := r2.cell
    refine g_iload_n (n := 2) (i := 2) rfl rfl d_X_read_59 ?_
    refine g_iconst_i d_X_read_60 ?_
    refine g_icmp_eq_i (tgt := 91) (by omega) (by decide) d_X_read_61 (by decide) (fun h61 => ?_) (fun h61 => ?_)
    · refine g_aload_n (n := 0) (i := 0) rfl rfl d_X_read_91 ?_
      refine g_getfield 0 2 f_X_22 (by assumption) (by rfl) d_X_read_92 ?_
      refine g_callV0 rfl rfl e_H_commit l_X_421 iv_H_commit 2 (by decide) rfl (by assumption) (by decide) (Nat.zero_le _) (Nat.zero_le _) (Nat.le_of_ble_eq_true rfl) d_X_read_95 (c_H_commit hx (fun w im hN2 => ?_))
      refine g_retv ?_
      have hN : XN E _ _ (cSetH (c4R c) (cNx c) (cCh c) (uI (cS c) (cx c) (cN c))) w im := hN.trans hN2
      have hx := hN.2.2
      have hx9 := hx
      obtain ⟨⟨hn, x0, x1, x2, x3, x4, x5, m61, x6⟩, ⟨r1, r2, r3⟩, o1, o2, o3, o4⟩ := hx9
      have k0 : g_cell E w im (gad E 0) _ := g_mut 0 (by omega) x0
      have k1 : g_cell E w im (gad E 56) _ := g_mut 56 (by omega) x1
      have k2 : g_cell E w im (gad E 57) _ := g_mut 57 (by omega) x2
      have k3 : g_cell E w im (gad E 58) _ := g_mut 58 (by omega) x3
      have k4 : g_cell E w im (gad E 59) _ := g_mut 59 (by omega) x4
      have k5 : g_cell E w im (gad E 60) _ := g_mut 60 (by omega) x5
      have k6 : g_cell E w im (gad E 61) _ := g_mut 61 (by omega) x6
      have kn := r1.cell
      have kk := r2.cell
      refine g_aload_n (n := 0) (i := 0) rfl rfl d_X_read_98 ?_
      refine g_getfield 0 3 f_X_29 (by assumption) (by rfl) d_X_read_99 ?_
      refine g_getfield 3 3 f_X_424 (by assumption) (by rfl) d_X_read_102 ?_
      refine g_ireturn_i rfl d_X_read_105 ?_
      exact hQ _ _ _ _ (by unfold eRead; rw [if_pos (by omega), if_pos (by omega)]; rfl) hN
    · refine g_aload_n (n := 0) (i := 0) rfl rfl d_X_read_64 ?_
      refine g_getfield 0 2 f_X_22 (by assumption) (by rfl) d_X_read_65 ?_
      refine g_aload_n (n := 0) (i := 0) rfl rfl d_X_read_68 ?_
      refine g_getfield 0 0 f_X_12 (by assumption) (by rfl) d_X_read_69 ?_
      refine g_callV1 rfl rfl e_H_bringBack l_X_416 iv_H_bringBack 2 (by decide) rfl (by assumption) (by decide) (Nat.zero_le _) (Nat.zero_le _) (Nat.le_of_ble_eq_true rfl) d_X_read_72 (c_H_bringBack hx (fun w im hN2 => ?_))
      refine g_retv ?_
      have h9 := hN.trans hN2
      rw [show cS (c4R c) (cx (c4R c)) = cN c from uI_s] at h9
      have hN := h9
      have hx := hN.2.2
      have hx9 := hx
      obtain ⟨⟨hn, x0, x1, x2, x3, x4, x5, m61, x6⟩, ⟨r1, r2, r3⟩, o1, o2, o3, o4⟩ := hx9
      have k0 : g_cell E w im (gad E 0) _ := g_mut 0 (by omega) x0
      have k1 : g_cell E w im (gad E 56) _ := g_mut 56 (by omega) x1
      have k2 : g_cell E w im (gad E 57) _ := g_mut 57 (by omega) x2
      have k3 : g_cell E w im (gad E 58) _ := g_mut 58 (by omega) x3
      have k4 : g_cell E w im (gad E 59) _ := g_mut 59 (by omega) x4
      have k5 : g_cell E w im (gad E 60) _ := g_mut 60 (by omega) x5
      have k6 : g_cell E w im (gad E 61) _ := g_mut 61 (by omega) x6
      have kn := r1.cell
      have kk := r2.cell
      refine g_aload_n (n := 0) (i := 0) rfl rfl d_X_read_75 ?_
      refine g_iload_n (n := 2) (i := 2) rfl rfl d_X_read_76 ?_
      refine g_putA 0 8 0 (by omega) x0 f_X_51 (Or.inl rfl) (by rfl) (by rfl) (Nat.le_of_ble_eq_true rfl) d_X_read_77 (fun w hs hn9 => ?_)
      have hN2 := hN.trans (hx.sF (f := ((cF c).1, (cF c).2.1, (cF c).2.2.1, (fr2 c).1)) hs hn9 ⟨oa1, oa2, oa3, (show -1 ≤ (fr2 c).1 ∧ (fr2 c).1 ≤ 60 by omega)⟩)
      refine x_UOEw c_X_237 xs_419 rfl rfl (Nat.le_of_ble_eq_true rfl) (by omega) (by omega) d_X_read_80 d_X_read_83 d_X_read_84 d_X_read_87 d_X_read_90 ?_
      exact hQ _ _ _ _ (by unfold eRead; rw [if_pos (by omega), if_neg (by omega)]) hN2
  · refine g_aload_n (n := 0) (i := 0) rfl rfl d_X_read_13 ?_
    refine g_iload_n (n := 1) (i := 1) rfl rfl d_X_read_14 ?_
    refine g_putA 0 7 0 (by omega) x0 f_X_48 (Or.inl rfl) (by rfl) (by rfl) (Nat.le_of_ble_eq_true rfl) d_X_read_15 (fun w hs hn9 => ?_)
    have hN2 := hN.trans (hx.sF (f := ((cF c).1, (cF c).2.1, (rd1 c).1, (cF c).2.2.2)) hs hn9 ⟨oa1, oa2, (show -1 ≤ (rd1 c).1 ∧ (rd1 c).1 ≤ 60 by omega), oa4⟩)
    have k0 : g_cell E w im (gad E 0) _ := g_mut 0 (by omega) hs
    refine g_aload_n (n := 0) (i := 0) rfl rfl d_X_read_18 ?_
    refine g_getfield 0 3 f_X_29 (by assumption) (by rfl) d_X_read_19 ?_
    refine g_callV0 rfl rfl e_T_empty l_X_407 iv_T_empty 3 (by decide) rfl (g_mut 58 (by omega) hN2.2.2.1.2.2.2.2.1) (by decide) (Nat.zero_le _) (Nat.zero_le _) (Nat.le_of_ble_eq_true rfl) d_X_read_22 (c_T_empty hN2.2.2.tw (fun w hT => ?_))
    refine g_retv ?_
    have hN3 := hN2.trans (hN2.2.2.sTN hT)
    refine x_IAEw c_X_71 xs_408 rfl rfl (Nat.le_of_ble_eq_true rfl) (by omega) (by omega) d_X_read_25 d_X_read_28 d_X_read_29 d_X_read_32 d_X_read_35 ?_
    exact hQ _ _ _ _ (by unfold eRead; rw [if_neg (by omega)]; rfl) hN3

