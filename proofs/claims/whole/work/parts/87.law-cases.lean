/-! ===== the law's other cases ===== -/
theorem eUndo_no {c : CSt} (h : ch c = 0) : (eUndo c).2 = c := by unfold eUndo; rw [if_pos (by omega)]
theorem eRest_no {c : CSt} (h : (cF c).1 = 0) : (eRest c).2 = c := by unfold eRest; rw [if_pos h]
theorem eApp_1 {c : CSt} {x : Int} (h : okA x ≠ true) : (eApp c x).2 = c := by unfold eApp; rw [if_neg h]
theorem eApp_2 {c : CSt} {x : Int} (h : okA x = true) (h2 : ¬ tl (cT c) + cntO x ≤ 60) : (eApp c x).2 = c := by unfold eApp; rw [if_pos h, if_neg h2]
theorem rlen {m : Int → Int} {R : Rz} (ok : okM m) (h : MZ m R) {x : Int} (hx : isC R x) : (zC R x).2.2.2.2.length < 1000 := by
  unfold isC at hx
  rw [h.1.2.2.2] at hx
  have h1 := crs_len (m := m) (x := x)
  have h2 := ridesOnM_rng ok.2.2.2.2.1 (x := x)
  rw [h.2.2.2.2.2.2.1 x hx]
  show (crd m x (m 4).toNat).length < 1000
  omega

theorem op_8 {E : gE} {w : gW} {im : gIm} {Q : gQ} {c : CSt} {f : Nat → Int} {m pa sv : Int → Int} {n : Int} {I kc ks : Nat} (hL : (gX E).2.1 ≤ 3584) (hI : I + 7 ≤ (gX E).2.1) (hn6 : n < 600) (hkc : 541 ≤ kc) (hks : 3246 ≤ ks) (hCp : Cp E w im c f m pa sv n) (hN : ∀ w' im' c' f' m' pa' sv' kc' ks', Cp E w' im' c' f' m' pa' sv' (n + 1) → kc ≤ kc' + 541 → ks ≤ ks' + 3246 → G E 8 m_L_law 2306 [(0, .ref (gX E).1), (1, .ref (gad E 0)), (2, .ref (gad E 62)), (3, .ref (gad E 68)), (4, .ref (gad E 69)), (5, .int (iI (I : Int)))] [] w' im' kc' ks' Q) : G E 8 m_L_law 715 [(0, .ref (gX E).1), (1, .ref (gad E 0)), (2, .ref (gad E 62)), (3, .ref (gad E 68)), (4, .ref (gad E 69)), (5, .int (iI (I : Int)))] [] w im kc ks Q := by
  obtain ⟨hx, hm, u4, u5, u6, u7, ⟨g0, h68⟩, ⟨gd, hgd⟩, hP⟩ := id hCp
  have hR := hP.1
  obtain ⟨ok, hz, h4⟩ := id hR
  have oz := hx.2.1.1.okz
  have hgn : gN E = 70 := hm.1
  have k0 : g_cell E w im (gad E 0) _ := g_mut 0 (by omega) hx.1.2.1
  have hr2c : 0 ≤ f 2 ∧ f 2 ≤ 8 := by rw [hP.2.1.1]; exact hx.2.2.2.1
  have hs2 := sc_rng (E := E) (j := I + 2)
  have hs3 := sc_rng (E := E) (j := I + 3)
  refine g_aload_n (n := 1) (i := 1) rfl rfl d_L_law_715 ?_
  refine g_aload_n (n := 0) (i := 0) rfl rfl d_L_law_716 ?_
  refine g_iload (i := 5) rfl d_L_law_717 ?_
  refine g_iconst_i d_L_law_719 ?_
  refine g_iadd_i d_L_law_720 ?_
  refine g_sldI (k := 1) rfl (by omega) hL d_L_law_721 ?_
  refine g_aload_n (n := 0) (i := 0) rfl rfl d_L_law_722 ?_
  refine g_iload (i := 5) rfl d_L_law_723 ?_
  refine g_iconst_i d_L_law_725 ?_
  refine g_iadd_i d_L_law_726 ?_
  refine g_sldI (k := 2) rfl (by omega) hL d_L_law_727 ?_
  refine g_if_eq_i (tgt := 735) (by omega) d_L_law_728 (by decide) (fun h728 => ?_) (fun h728 => ?_)
  · refine g_iconst_i d_L_law_735 ?_
    obtain ⟨ta, ra, ma, hga⟩ : ∃ t r m', (t, r, m') = gClosed m (sc E (I + 1)) 0 := ⟨_, _, _, rfl⟩
    have hB0 := B_setClosed oz hR (x := (sc E (I + 1))) (on := 0) (by omega)
    rw [← hga] at hB0
    have hB := hB0.1
    have hb : 0 ≤ ra ∧ ra ≤ 1 := hB0.2.1
    have ha2 : ta ≠ 2 := hB0.2.2
    have hA : An sIB sIA (eClo c (sc E (I + 1)) 0).1 (ta, ra) := hB.1
    have hta := An_rng hA
    refine g_aload_n (n := 3) (i := 3) rfl rfl d_L_law_736 ?_
    refine g_callW4 rfl rfl e_L_setClosed l_L_164 st_L_setClosed (by decide) (by omega) (by omega) (Nat.le_of_ble_eq_true rfl) d_L_law_737 (c_L_setClosed hx sc_rng (by omega) hA ha2 hb h68 (fun w1 im1 g1 hLX h681 h69k hval => ?_))
    refine g_retn ?_
    obtain ⟨hm1, u41, u51, u61, u71⟩ := hCp.mid hLX
    have k2 : g_cell E w1 im1 (gad E 62) _ := g_mut 62 (by omega) hm1.2.1
    have h691 : w1 69 = dbE gd := (h69k 69 rfl).trans hgd
    refine g_istore (i := 6) (by decide) rfl d_L_law_740 ?_
    refine g_aload_n (n := 2) (i := 2) rfl rfl d_L_law_742 ?_
    refine g_aload_n (n := 0) (i := 0) rfl rfl d_L_law_743 ?_
    refine g_iload (i := 5) rfl d_L_law_744 ?_
    refine g_iconst_i d_L_law_746 ?_
    refine g_iadd_i d_L_law_747 ?_
    refine g_sldI (k := 1) rfl (by omega) hL d_L_law_748 ?_
    refine g_aload_n (n := 0) (i := 0) rfl rfl d_L_law_749 ?_
    refine g_iload (i := 5) rfl d_L_law_750 ?_
    refine g_iconst_i d_L_law_752 ?_
    refine g_iadd_i d_L_law_753 ?_
    refine g_sldI (k := 2) rfl (by omega) hL d_L_law_754 ?_
    refine g_if_eq_i (tgt := 762) (by omega) d_L_law_755 (by decide) (fun h755 => ?_) (fun h => by exfalso; omega)
    refine g_iconst_i d_L_law_762 ?_
    refine g_callV2 rfl rfl e_M_setClosed l_L_167 iv_M_setClosed 9 (by decide) rfl (by assumption) (by decide) (Nat.zero_le _) (Nat.zero_le _) (Nat.le_of_ble_eq_true rfl) d_L_law_763 (c_M_setClosed hm1 ok u41 u61 hr2c sc_rng (by omega) (fun t9 r9 m9 w2 he9 hM => ?_))
    refine g_ret ?_
    have he9 : (t9, r9, m9) = gClosed m (sc E (I + 1)) 0 := he9
    have e1 : t9 = ta := congrArg Prod.fst (he9.trans hga.symm)
    have e2 : r9 = ra := congrArg (fun x : Int × Int × (Int → Int) => x.2.1) (he9.trans hga.symm)
    obtain ⟨f2, m2, p2, hC2, ht2, h682, h692⟩ := hCp.out hB (he9.trans hga.symm) hLX h681 h691 hM
    have ht2 : f2 6 = ta := ht2.trans e1
    have hr2 : ta = 0 → r9 = ra := fun _ => e2
    have k2 : g_cell E w2 im1 (gad E 62) _ := g_mut 62 (by omega) hC2.2.1.2.1
    refine g_istore (i := 7) (by decide) rfl d_L_law_766 ?_
    refine g_aload_n (n := 2) (i := 2) rfl rfl d_L_law_768 ?_
    refine g_callV0 rfl rfl e_M_thrown l_L_141 iv_M_thrown 9 (by decide) rfl (by assumption) (by decide) (Nat.zero_le _) (Nat.zero_le _) (Nat.le_of_ble_eq_true rfl) d_L_law_769 (c_M_thrown hC2.2.1 ?_)
    refine g_ret ?_
    rw [ht2]
    refine g_iload (i := 6) rfl d_L_law_772 ?_
    refine g_icmp_eq (tgt := 779) d_L_law_774 (by decide) (fun _ => ?_) (fun h => absurd rfl h)
    refine g_iload (i := 6) rfl d_L_law_779 ?_
    refine g_if_ne_i (tgt := 803) (by omega) d_L_law_781 (by decide) (fun h781 => ?_) (fun h781 => ?_)
    · refine g_goto (tgt := 2306) (by decide) d_L_law_803 ?_
      exact g_cut (lv' := [(0, .ref (gX E).1), (1, .ref (gad E 0)), (2, .ref (gad E 62)), (3, .ref (gad E 68)), (4, .ref (gad E 69)), (5, .int (iI (I : Int)))]) ⟨rfl, rfl, rfl, rfl, rfl, rfl, trivial⟩ (hN _ _ _ _ _ _ _ _ _ hC2 (by omega) (by omega))
    · refine g_aload_n (n := 3) (i := 3) rfl rfl d_L_law_784 ?_
      refine g_iconst_i d_L_law_785 ?_
      have h0 : ta = 0 := by omega
      refine g_laload (j := 0) (f := g1) (g_mut 68 (by omega) h682) (iI_nI 0).symm (by decide) (by rfl) d_L_law_786 ?_
      refine g_iload (i := 7) rfl d_L_law_787 ?_
      refine g_if_eq_i (tgt := 796) (by omega) d_L_law_789 (by decide) (fun h789 => ?_) (fun h789 => ?_)
      · refine g_lconst (v := 0) (by decide) d_L_law_796 ?_
        refine g_lcmp d_L_law_797 ?_
        have hra := hr2 h0
        rw [hval h0]
        first
        | (rw [show ra = 1 by omega, show (iI 1).toInt64 = 1 by decide, lgc])
        | (rw [show ra = 0 by omega, show (iI 0).toInt64 = 0 by decide, lgc])
        refine g_if_eq_i (tgt := 803) (by decide) d_L_law_798 (by decide) (fun h798 => ?_) (fun h => absurd h (by decide))
        refine g_goto (tgt := 2306) (by decide) d_L_law_803 ?_
        exact g_cut (lv' := [(0, .ref (gX E).1), (1, .ref (gad E 0)), (2, .ref (gad E 62)), (3, .ref (gad E 68)), (4, .ref (gad E 69)), (5, .int (iI (I : Int)))]) ⟨rfl, rfl, rfl, rfl, rfl, rfl, trivial⟩ (hN _ _ _ _ _ _ _ _ _ hC2 (by omega) (by omega))
      · refine g_lconst (v := 1) (by decide) d_L_law_792 ?_
        refine g_goto (tgt := 797) (by decide) d_L_law_793 ?_
        refine g_lcmp d_L_law_797 ?_
        have hra := hr2 h0
        rw [hval h0]
        first
        | (rw [show ra = 1 by omega, show (iI 1).toInt64 = 1 by decide, lgc])
        | (rw [show ra = 0 by omega, show (iI 0).toInt64 = 0 by decide, lgc])
        refine g_if_eq_i (tgt := 803) (by decide) d_L_law_798 (by decide) (fun h798 => ?_) (fun h => absurd h (by decide))
        refine g_goto (tgt := 2306) (by decide) d_L_law_803 ?_
        exact g_cut (lv' := [(0, .ref (gX E).1), (1, .ref (gad E 0)), (2, .ref (gad E 62)), (3, .ref (gad E 68)), (4, .ref (gad E 69)), (5, .int (iI (I : Int)))]) ⟨rfl, rfl, rfl, rfl, rfl, rfl, trivial⟩ (hN _ _ _ _ _ _ _ _ _ hC2 (by omega) (by omega))
  · refine g_iconst_i d_L_law_731 ?_
    refine g_goto (tgt := 736) (by decide) d_L_law_732 ?_
    obtain ⟨ta, ra, ma, hga⟩ : ∃ t r m', (t, r, m') = gClosed m (sc E (I + 1)) 1 := ⟨_, _, _, rfl⟩
    have hB0 := B_setClosed oz hR (x := (sc E (I + 1))) (on := 1) (by omega)
    rw [← hga] at hB0
    have hB := hB0.1
    have hb : 0 ≤ ra ∧ ra ≤ 1 := hB0.2.1
    have ha2 : ta ≠ 2 := hB0.2.2
    have hA : An sIB sIA (eClo c (sc E (I + 1)) 1).1 (ta, ra) := hB.1
    have hta := An_rng hA
    refine g_aload_n (n := 3) (i := 3) rfl rfl d_L_law_736 ?_
    refine g_callW4 rfl rfl e_L_setClosed l_L_164 st_L_setClosed (by decide) (by omega) (by omega) (Nat.le_of_ble_eq_true rfl) d_L_law_737 (c_L_setClosed hx sc_rng (by omega) hA ha2 hb h68 (fun w1 im1 g1 hLX h681 h69k hval => ?_))
    refine g_retn ?_
    obtain ⟨hm1, u41, u51, u61, u71⟩ := hCp.mid hLX
    have k2 : g_cell E w1 im1 (gad E 62) _ := g_mut 62 (by omega) hm1.2.1
    have h691 : w1 69 = dbE gd := (h69k 69 rfl).trans hgd
    refine g_istore (i := 6) (by decide) rfl d_L_law_740 ?_
    refine g_aload_n (n := 2) (i := 2) rfl rfl d_L_law_742 ?_
    refine g_aload_n (n := 0) (i := 0) rfl rfl d_L_law_743 ?_
    refine g_iload (i := 5) rfl d_L_law_744 ?_
    refine g_iconst_i d_L_law_746 ?_
    refine g_iadd_i d_L_law_747 ?_
    refine g_sldI (k := 1) rfl (by omega) hL d_L_law_748 ?_
    refine g_aload_n (n := 0) (i := 0) rfl rfl d_L_law_749 ?_
    refine g_iload (i := 5) rfl d_L_law_750 ?_
    refine g_iconst_i d_L_law_752 ?_
    refine g_iadd_i d_L_law_753 ?_
    refine g_sldI (k := 2) rfl (by omega) hL d_L_law_754 ?_
    refine g_if_eq_i (tgt := 762) (by omega) d_L_law_755 (by decide) (fun h => by exfalso; omega) (fun h755 => ?_)
    refine g_iconst_i d_L_law_758 ?_
    refine g_goto (tgt := 763) (by decide) d_L_law_759 ?_
    refine g_callV2 rfl rfl e_M_setClosed l_L_167 iv_M_setClosed 9 (by decide) rfl (by assumption) (by decide) (Nat.zero_le _) (Nat.zero_le _) (Nat.le_of_ble_eq_true rfl) d_L_law_763 (c_M_setClosed hm1 ok u41 u61 hr2c sc_rng (by omega) (fun t9 r9 m9 w2 he9 hM => ?_))
    refine g_ret ?_
    have he9 : (t9, r9, m9) = gClosed m (sc E (I + 1)) 1 := he9
    have e1 : t9 = ta := congrArg Prod.fst (he9.trans hga.symm)
    have e2 : r9 = ra := congrArg (fun x : Int × Int × (Int → Int) => x.2.1) (he9.trans hga.symm)
    obtain ⟨f2, m2, p2, hC2, ht2, h682, h692⟩ := hCp.out hB (he9.trans hga.symm) hLX h681 h691 hM
    have ht2 : f2 6 = ta := ht2.trans e1
    have hr2 : ta = 0 → r9 = ra := fun _ => e2
    have k2 : g_cell E w2 im1 (gad E 62) _ := g_mut 62 (by omega) hC2.2.1.2.1
    refine g_istore (i := 7) (by decide) rfl d_L_law_766 ?_
    refine g_aload_n (n := 2) (i := 2) rfl rfl d_L_law_768 ?_
    refine g_callV0 rfl rfl e_M_thrown l_L_141 iv_M_thrown 9 (by decide) rfl (by assumption) (by decide) (Nat.zero_le _) (Nat.zero_le _) (Nat.le_of_ble_eq_true rfl) d_L_law_769 (c_M_thrown hC2.2.1 ?_)
    refine g_ret ?_
    rw [ht2]
    refine g_iload (i := 6) rfl d_L_law_772 ?_
    refine g_icmp_eq (tgt := 779) d_L_law_774 (by decide) (fun _ => ?_) (fun h => absurd rfl h)
    refine g_iload (i := 6) rfl d_L_law_779 ?_
    refine g_if_ne_i (tgt := 803) (by omega) d_L_law_781 (by decide) (fun h781 => ?_) (fun h781 => ?_)
    · refine g_goto (tgt := 2306) (by decide) d_L_law_803 ?_
      exact g_cut (lv' := [(0, .ref (gX E).1), (1, .ref (gad E 0)), (2, .ref (gad E 62)), (3, .ref (gad E 68)), (4, .ref (gad E 69)), (5, .int (iI (I : Int)))]) ⟨rfl, rfl, rfl, rfl, rfl, rfl, trivial⟩ (hN _ _ _ _ _ _ _ _ _ hC2 (by omega) (by omega))
    · refine g_aload_n (n := 3) (i := 3) rfl rfl d_L_law_784 ?_
      refine g_iconst_i d_L_law_785 ?_
      have h0 : ta = 0 := by omega
      refine g_laload (j := 0) (f := g1) (g_mut 68 (by omega) h682) (iI_nI 0).symm (by decide) (by rfl) d_L_law_786 ?_
      refine g_iload (i := 7) rfl d_L_law_787 ?_
      refine g_if_eq_i (tgt := 796) (by omega) d_L_law_789 (by decide) (fun h789 => ?_) (fun h789 => ?_)
      · refine g_lconst (v := 0) (by decide) d_L_law_796 ?_
        refine g_lcmp d_L_law_797 ?_
        have hra := hr2 h0
        rw [hval h0]
        first
        | (rw [show ra = 1 by omega, show (iI 1).toInt64 = 1 by decide, lgc])
        | (rw [show ra = 0 by omega, show (iI 0).toInt64 = 0 by decide, lgc])
        refine g_if_eq_i (tgt := 803) (by decide) d_L_law_798 (by decide) (fun h798 => ?_) (fun h => absurd h (by decide))
        refine g_goto (tgt := 2306) (by decide) d_L_law_803 ?_
        exact g_cut (lv' := [(0, .ref (gX E).1), (1, .ref (gad E 0)), (2, .ref (gad E 62)), (3, .ref (gad E 68)), (4, .ref (gad E 69)), (5, .int (iI (I : Int)))]) ⟨rfl, rfl, rfl, rfl, rfl, rfl, trivial⟩ (hN _ _ _ _ _ _ _ _ _ hC2 (by omega) (by omega))
      · refine g_lconst (v := 1) (by decide) d_L_law_792 ?_
        refine g_goto (tgt := 797) (by decide) d_L_law_793 ?_
        refine g_lcmp d_L_law_797 ?_
        have hra := hr2 h0
        rw [hval h0]
        first
        | (rw [show ra = 1 by omega, show (iI 1).toInt64 = 1 by decide, lgc])
        | (rw [show ra = 0 by omega, show (iI 0).toInt64 = 0 by decide, lgc])
        refine g_if_eq_i (tgt := 803) (by decide) d_L_law_798 (by decide) (fun h798 => ?_) (fun h => absurd h (by decide))
        refine g_goto (tgt := 2306) (by decide) d_L_law_803 ?_
        exact g_cut (lv' := [(0, .ref (gX E).1), (1, .ref (gad E 0)), (2, .ref (gad E 62)), (3, .ref (gad E 68)), (4, .ref (gad E 69)), (5, .int (iI (I : Int)))]) ⟨rfl, rfl, rfl, rfl, rfl, rfl, trivial⟩ (hN _ _ _ _ _ _ _ _ _ hC2 (by omega) (by omega))

theorem op_16 {E : gE} {w : gW} {im : gIm} {Q : gQ} {c : CSt} {f : Nat → Int} {m pa sv : Int → Int} {n : Int} {I kc ks : Nat} (hL : (gX E).2.1 ≤ 3584) (hI : I + 7 ≤ (gX E).2.1) (hn6 : n < 600) (hkc : 541 ≤ kc) (hks : 3246 ≤ ks) (hCp : Cp E w im c f m pa sv n) (hN : ∀ w' im' c' f' m' pa' sv' kc' ks', Cp E w' im' c' f' m' pa' sv' (n + 1) → kc ≤ kc' + 541 → ks ≤ ks' + 3246 → G E 8 m_L_law 2306 [(0, .ref (gX E).1), (1, .ref (gad E 0)), (2, .ref (gad E 62)), (3, .ref (gad E 68)), (4, .ref (gad E 69)), (5, .int (iI (I : Int)))] [] w' im' kc' ks' Q) : G E 8 m_L_law 1253 [(0, .ref (gX E).1), (1, .ref (gad E 0)), (2, .ref (gad E 62)), (3, .ref (gad E 68)), (4, .ref (gad E 69)), (5, .int (iI (I : Int)))] [] w im kc ks Q := by
  obtain ⟨hx, hm, u4, u5, u6, u7, ⟨g0, h68⟩, ⟨gd, hgd⟩, hP⟩ := id hCp
  have hR := hP.1
  obtain ⟨ok, hz, h4⟩ := id hR
  have oz := hx.2.1.1.okz
  have hgn : gN E = 70 := hm.1
  have k0 : g_cell E w im (gad E 0) _ := g_mut 0 (by omega) hx.1.2.1
  have hr2c : 0 ≤ f 2 ∧ f 2 ≤ 8 := by rw [hP.2.1.1]; exact hx.2.2.2.1
  have hs2 := sc_rng (E := E) (j := I + 2)
  have hs3 := sc_rng (E := E) (j := I + 3)
  refine g_aload_n (n := 1) (i := 1) rfl rfl d_L_law_1253 ?_
  refine g_aload_n (n := 0) (i := 0) rfl rfl d_L_law_1254 ?_
  refine g_iload (i := 5) rfl d_L_law_1255 ?_
  refine g_iconst_i d_L_law_1257 ?_
  refine g_iadd_i d_L_law_1258 ?_
  refine g_sldI (k := 1) rfl (by omega) hL d_L_law_1259 ?_
  refine g_aload_n (n := 0) (i := 0) rfl rfl d_L_law_1260 ?_
  refine g_iload (i := 5) rfl d_L_law_1261 ?_
  refine g_iconst_i d_L_law_1263 ?_
  refine g_iadd_i d_L_law_1264 ?_
  refine g_sldI (k := 2) rfl (by omega) hL d_L_law_1265 ?_
  refine g_if_eq_i (tgt := 1273) (by omega) d_L_law_1266 (by decide) (fun h1266 => ?_) (fun h1266 => ?_)
  · refine g_iconst_i d_L_law_1273 ?_
    obtain ⟨ta, ra, ma, hga⟩ : ∃ t r m', (t, r, m') = gBlk m (sc E (I + 1)) 0 := ⟨_, _, _, rfl⟩
    have hB0 := B_block hR (x := (sc E (I + 1))) (on := 0) (by omega)
    rw [← hga] at hB0
    have hB := hB0
    have hA : An sIB sIS (eBlk c (sc E (I + 1)) 0).1 (ta, ra) := hB.1
    have hta := An_rng hA
    refine g_aload_n (n := 3) (i := 3) rfl rfl d_L_law_1274 ?_
    refine g_callW4 rfl rfl e_L_block l_L_189 st_L_block (by decide) (by omega) (by omega) (Nat.le_of_ble_eq_true rfl) d_L_law_1275 (c_L_block hx sc_rng (by omega) hA h68 (fun w1 im1 g1 hLX h681 h69k hval => ?_))
    refine g_retn ?_
    obtain ⟨hm1, u41, u51, u61, u71⟩ := hCp.mid hLX
    have k2 : g_cell E w1 im1 (gad E 62) _ := g_mut 62 (by omega) hm1.2.1
    have h691 : w1 69 = dbE gd := (h69k 69 rfl).trans hgd
    refine g_istore (i := 6) (by decide) rfl d_L_law_1278 ?_
    refine g_aload_n (n := 2) (i := 2) rfl rfl d_L_law_1280 ?_
    refine g_aload_n (n := 0) (i := 0) rfl rfl d_L_law_1281 ?_
    refine g_iload (i := 5) rfl d_L_law_1282 ?_
    refine g_iconst_i d_L_law_1284 ?_
    refine g_iadd_i d_L_law_1285 ?_
    refine g_sldI (k := 1) rfl (by omega) hL d_L_law_1286 ?_
    refine g_aload_n (n := 0) (i := 0) rfl rfl d_L_law_1287 ?_
    refine g_iload (i := 5) rfl d_L_law_1288 ?_
    refine g_iconst_i d_L_law_1290 ?_
    refine g_iadd_i d_L_law_1291 ?_
    refine g_sldI (k := 2) rfl (by omega) hL d_L_law_1292 ?_
    refine g_if_eq_i (tgt := 1300) (by omega) d_L_law_1293 (by decide) (fun h1293 => ?_) (fun h => by exfalso; omega)
    refine g_iconst_i d_L_law_1300 ?_
    refine g_callV2 rfl rfl e_M_block l_L_191 iv_M_block 9 (by decide) rfl (by assumption) (by decide) (Nat.zero_le _) (Nat.zero_le _) (Nat.le_of_ble_eq_true rfl) d_L_law_1301 (c_M_block hm1 ok u41 u61 hr2c sc_rng (by omega) (fun t9 r9 m9 w2 he9 hM => ?_))
    refine g_ret ?_
    have he9 : (t9, r9, m9) = gBlk m (sc E (I + 1)) 0 := he9
    have e1 : t9 = ta := congrArg Prod.fst (he9.trans hga.symm)
    have e2 : r9 = ra := congrArg (fun x : Int × Int × (Int → Int) => x.2.1) (he9.trans hga.symm)
    obtain ⟨f2, m2, p2, hC2, ht2, h682, h692⟩ := hCp.out hB (he9.trans hga.symm) hLX h681 h691 hM
    have ht2 : f2 6 = ta := ht2.trans e1
    have hr2 : ta = 0 → r9 = ra := fun _ => e2
    have k2 : g_cell E w2 im1 (gad E 62) _ := g_mut 62 (by omega) hC2.2.1.2.1
    refine g_istore (i := 7) (by decide) rfl d_L_law_1304 ?_
    refine g_aload_n (n := 2) (i := 2) rfl rfl d_L_law_1306 ?_
    refine g_callV0 rfl rfl e_M_thrown l_L_141 iv_M_thrown 9 (by decide) rfl (by assumption) (by decide) (Nat.zero_le _) (Nat.zero_le _) (Nat.le_of_ble_eq_true rfl) d_L_law_1307 (c_M_thrown hC2.2.1 ?_)
    refine g_ret ?_
    rw [ht2]
    refine g_iload (i := 6) rfl d_L_law_1310 ?_
    refine g_icmp_eq (tgt := 1317) d_L_law_1312 (by decide) (fun _ => ?_) (fun h => absurd rfl h)
    refine g_iload (i := 6) rfl d_L_law_1317 ?_
    refine g_if_ne_i (tgt := 1334) (by omega) d_L_law_1319 (by decide) (fun h1319 => ?_) (fun h1319 => ?_)
    · refine g_goto (tgt := 2306) (by decide) d_L_law_1334 ?_
      exact g_cut (lv' := [(0, .ref (gX E).1), (1, .ref (gad E 0)), (2, .ref (gad E 62)), (3, .ref (gad E 68)), (4, .ref (gad E 69)), (5, .int (iI (I : Int)))]) ⟨rfl, rfl, rfl, rfl, rfl, rfl, trivial⟩ (hN _ _ _ _ _ _ _ _ _ hC2 (by omega) (by omega))
    · refine g_aload_n (n := 3) (i := 3) rfl rfl d_L_law_1322 ?_
      refine g_iconst_i d_L_law_1323 ?_
      have h0 : ta = 0 := by omega
      refine g_laload (j := 0) (f := g1) (g_mut 68 (by omega) h682) (iI_nI 0).symm (by decide) (by rfl) d_L_law_1324 ?_
      refine g_iload (i := 7) rfl d_L_law_1325 ?_
      refine g_i2l d_L_law_1327 ?_
      refine g_lcmp d_L_law_1328 ?_
      rw [hval h0, ← hr2 h0, lgc]
      refine g_if_eq_i (tgt := 1334) (by decide) d_L_law_1329 (by decide) (fun h1329 => ?_) (fun h => absurd h (by decide))
      refine g_goto (tgt := 2306) (by decide) d_L_law_1334 ?_
      exact g_cut (lv' := [(0, .ref (gX E).1), (1, .ref (gad E 0)), (2, .ref (gad E 62)), (3, .ref (gad E 68)), (4, .ref (gad E 69)), (5, .int (iI (I : Int)))]) ⟨rfl, rfl, rfl, rfl, rfl, rfl, trivial⟩ (hN _ _ _ _ _ _ _ _ _ hC2 (by omega) (by omega))
  · refine g_iconst_i d_L_law_1269 ?_
    refine g_goto (tgt := 1274) (by decide) d_L_law_1270 ?_
    obtain ⟨ta, ra, ma, hga⟩ : ∃ t r m', (t, r, m') = gBlk m (sc E (I + 1)) 1 := ⟨_, _, _, rfl⟩
    have hB0 := B_block hR (x := (sc E (I + 1))) (on := 1) (by omega)
    rw [← hga] at hB0
    have hB := hB0
    have hA : An sIB sIS (eBlk c (sc E (I + 1)) 1).1 (ta, ra) := hB.1
    have hta := An_rng hA
    refine g_aload_n (n := 3) (i := 3) rfl rfl d_L_law_1274 ?_
    refine g_callW4 rfl rfl e_L_block l_L_189 st_L_block (by decide) (by omega) (by omega) (Nat.le_of_ble_eq_true rfl) d_L_law_1275 (c_L_block hx sc_rng (by omega) hA h68 (fun w1 im1 g1 hLX h681 h69k hval => ?_))
    refine g_retn ?_
    obtain ⟨hm1, u41, u51, u61, u71⟩ := hCp.mid hLX
    have k2 : g_cell E w1 im1 (gad E 62) _ := g_mut 62 (by omega) hm1.2.1
    have h691 : w1 69 = dbE gd := (h69k 69 rfl).trans hgd
    refine g_istore (i := 6) (by decide) rfl d_L_law_1278 ?_
    refine g_aload_n (n := 2) (i := 2) rfl rfl d_L_law_1280 ?_
    refine g_aload_n (n := 0) (i := 0) rfl rfl d_L_law_1281 ?_
    refine g_iload (i := 5) rfl d_L_law_1282 ?_
    refine g_iconst_i d_L_law_1284 ?_
    refine g_iadd_i d_L_law_1285 ?_
    refine g_sldI (k := 1) rfl (by omega) hL d_L_law_1286 ?_
    refine g_aload_n (n := 0) (i := 0) rfl rfl d_L_law_1287 ?_
    refine g_iload (i := 5) rfl d_L_law_1288 ?_
    refine g_iconst_i d_L_law_1290 ?_
    refine g_iadd_i d_L_law_1291 ?_
    refine g_sldI (k := 2) rfl (by omega) hL d_L_law_1292 ?_
    refine g_if_eq_i (tgt := 1300) (by omega) d_L_law_1293 (by decide) (fun h => by exfalso; omega) (fun h1293 => ?_)
    refine g_iconst_i d_L_law_1296 ?_
    refine g_goto (tgt := 1301) (by decide) d_L_law_1297 ?_
    refine g_callV2 rfl rfl e_M_block l_L_191 iv_M_block 9 (by decide) rfl (by assumption) (by decide) (Nat.zero_le _) (Nat.zero_le _) (Nat.le_of_ble_eq_true rfl) d_L_law_1301 (c_M_block hm1 ok u41 u61 hr2c sc_rng (by omega) (fun t9 r9 m9 w2 he9 hM => ?_))
    refine g_ret ?_
    have he9 : (t9, r9, m9) = gBlk m (sc E (I + 1)) 1 := he9
    have e1 : t9 = ta := congrArg Prod.fst (he9.trans hga.symm)
    have e2 : r9 = ra := congrArg (fun x : Int × Int × (Int → Int) => x.2.1) (he9.trans hga.symm)
    obtain ⟨f2, m2, p2, hC2, ht2, h682, h692⟩ := hCp.out hB (he9.trans hga.symm) hLX h681 h691 hM
    have ht2 : f2 6 = ta := ht2.trans e1
    have hr2 : ta = 0 → r9 = ra := fun _ => e2
    have k2 : g_cell E w2 im1 (gad E 62) _ := g_mut 62 (by omega) hC2.2.1.2.1
    refine g_istore (i := 7) (by decide) rfl d_L_law_1304 ?_
    refine g_aload_n (n := 2) (i := 2) rfl rfl d_L_law_1306 ?_
    refine g_callV0 rfl rfl e_M_thrown l_L_141 iv_M_thrown 9 (by decide) rfl (by assumption) (by decide) (Nat.zero_le _) (Nat.zero_le _) (Nat.le_of_ble_eq_true rfl) d_L_law_1307 (c_M_thrown hC2.2.1 ?_)
    refine g_ret ?_
    rw [ht2]
    refine g_iload (i := 6) rfl d_L_law_1310 ?_
    refine g_icmp_eq (tgt := 1317) d_L_law_1312 (by decide) (fun _ => ?_) (fun h => absurd rfl h)
    refine g_iload (i := 6) rfl d_L_law_1317 ?_
    refine g_if_ne_i (tgt := 1334) (by omega) d_L_law_1319 (by decide) (fun h1319 => ?_) (fun h1319 => ?_)
    · refine g_goto (tgt := 2306) (by decide) d_L_law_1334 ?_
      exact g_cut (lv' := [(0, .ref (gX E).1), (1, .ref (gad E 0)), (2, .ref (gad E 62)), (3, .ref (gad E 68)), (4, .ref (gad E 69)), (5, .int (iI (I : Int)))]) ⟨rfl, rfl, rfl, rfl, rfl, rfl, trivial⟩ (hN _ _ _ _ _ _ _ _ _ hC2 (by omega) (by omega))
    · refine g_aload_n (n := 3) (i := 3) rfl rfl d_L_law_1322 ?_
      refine g_iconst_i d_L_law_1323 ?_
      have h0 : ta = 0 := by omega
      refine g_laload (j := 0) (f := g1) (g_mut 68 (by omega) h682) (iI_nI 0).symm (by decide) (by rfl) d_L_law_1324 ?_
      refine g_iload (i := 7) rfl d_L_law_1325 ?_
      refine g_i2l d_L_law_1327 ?_
      refine g_lcmp d_L_law_1328 ?_
      rw [hval h0, ← hr2 h0, lgc]
      refine g_if_eq_i (tgt := 1334) (by decide) d_L_law_1329 (by decide) (fun h1329 => ?_) (fun h => absurd h (by decide))
      refine g_goto (tgt := 2306) (by decide) d_L_law_1334 ?_
      exact g_cut (lv' := [(0, .ref (gX E).1), (1, .ref (gad E 0)), (2, .ref (gad E 62)), (3, .ref (gad E 68)), (4, .ref (gad E 69)), (5, .int (iI (I : Int)))]) ⟨rfl, rfl, rfl, rfl, rfl, rfl, trivial⟩ (hN _ _ _ _ _ _ _ _ _ hC2 (by omega) (by omega))

theorem op_19 {E : gE} {w : gW} {im : gIm} {Q : gQ} {c : CSt} {f : Nat → Int} {m pa sv : Int → Int} {n : Int} {I kc ks : Nat} (hL : (gX E).2.1 ≤ 3584) (hI : I + 7 ≤ (gX E).2.1) (hn6 : n < 600) (hkc : 541 ≤ kc) (hks : 3246 ≤ ks) (hCp : Cp E w im c f m pa sv n) (hN : ∀ w' im' c' f' m' pa' sv' kc' ks', Cp E w' im' c' f' m' pa' sv' (n + 1) → kc ≤ kc' + 541 → ks ≤ ks' + 3246 → G E 8 m_L_law 2306 [(0, .ref (gX E).1), (1, .ref (gad E 0)), (2, .ref (gad E 62)), (3, .ref (gad E 68)), (4, .ref (gad E 69)), (5, .int (iI (I : Int)))] [] w' im' kc' ks' Q) : G E 8 m_L_law 1461 [(0, .ref (gX E).1), (1, .ref (gad E 0)), (2, .ref (gad E 62)), (3, .ref (gad E 68)), (4, .ref (gad E 69)), (5, .int (iI (I : Int)))] [] w im kc ks Q := by
  obtain ⟨hx, hm, u4, u5, u6, u7, ⟨g0, h68⟩, ⟨gd, hgd⟩, hP⟩ := id hCp
  have hR := hP.1
  obtain ⟨ok, hz, h4⟩ := id hR
  have oz := hx.2.1.1.okz
  have hgn : gN E = 70 := hm.1
  have k0 : g_cell E w im (gad E 0) _ := g_mut 0 (by omega) hx.1.2.1
  have hr2c : 0 ≤ f 2 ∧ f 2 ≤ 8 := by rw [hP.2.1.1]; exact hx.2.2.2.1
  have hs2 := sc_rng (E := E) (j := I + 2)
  have hs3 := sc_rng (E := E) (j := I + 3)
  refine g_aload_n (n := 1) (i := 1) rfl rfl d_L_law_1461 ?_
  refine g_aload_n (n := 0) (i := 0) rfl rfl d_L_law_1462 ?_
  refine g_iload (i := 5) rfl d_L_law_1463 ?_
  refine g_iconst_i d_L_law_1465 ?_
  refine g_iadd_i d_L_law_1466 ?_
  refine g_sldI (k := 1) rfl (by omega) hL d_L_law_1467 ?_
  refine g_aload_n (n := 0) (i := 0) rfl rfl d_L_law_1468 ?_
  refine g_iload (i := 5) rfl d_L_law_1469 ?_
  refine g_iconst_i d_L_law_1471 ?_
  refine g_iadd_i d_L_law_1472 ?_
  refine g_sldI (k := 2) rfl (by omega) hL d_L_law_1473 ?_
  refine g_aload_n (n := 0) (i := 0) rfl rfl d_L_law_1474 ?_
  refine g_iload (i := 5) rfl d_L_law_1475 ?_
  refine g_iconst_i d_L_law_1477 ?_
  refine g_iadd_i d_L_law_1478 ?_
  refine g_sldI (k := 3) rfl (by omega) hL d_L_law_1479 ?_
  refine g_if_eq_i (tgt := 1487) (by omega) d_L_law_1480 (by decide) (fun h1480 => ?_) (fun h1480 => ?_)
  · refine g_iconst_i d_L_law_1487 ?_
    obtain ⟨ta, ra, hga⟩ : ∃ t r, (t, r) = gRide m (sc E (I + 1)) (sc E (I + 2)) 0 := ⟨_, _, rfl⟩
    have hA := A_ride hz (x := (sc E (I + 1))) (y := (sc E (I + 2))) (z := 0) (by omega)
    rw [← hga] at hA
    have hta := An_rng hA
    refine g_aload_n (n := 3) (i := 3) rfl rfl d_L_law_1488 ?_
    refine g_callW5 rfl rfl e_L_ride l_L_198 st_L_ride (by decide) (by omega) (by omega) (Nat.le_of_ble_eq_true rfl) d_L_law_1489 (c_L_ride hx sc_rng sc_rng (by omega) hA h68 (fun w1 im1 g1 hLX h681 h69k hval => ?_))
    refine g_retn ?_
    obtain ⟨hm1, u41, u51, u61, u71⟩ := hCp.mid hLX
    have k2 : g_cell E w1 im1 (gad E 62) _ := g_mut 62 (by omega) hm1.2.1
    have h691 : w1 69 = dbE gd := (h69k 69 rfl).trans hgd
    refine g_istore (i := 6) (by decide) rfl d_L_law_1492 ?_
    refine g_aload_n (n := 2) (i := 2) rfl rfl d_L_law_1494 ?_
    refine g_aload_n (n := 0) (i := 0) rfl rfl d_L_law_1495 ?_
    refine g_iload (i := 5) rfl d_L_law_1496 ?_
    refine g_iconst_i d_L_law_1498 ?_
    refine g_iadd_i d_L_law_1499 ?_
    refine g_sldI (k := 1) rfl (by omega) hL d_L_law_1500 ?_
    refine g_aload_n (n := 0) (i := 0) rfl rfl d_L_law_1501 ?_
    refine g_iload (i := 5) rfl d_L_law_1502 ?_
    refine g_iconst_i d_L_law_1504 ?_
    refine g_iadd_i d_L_law_1505 ?_
    refine g_sldI (k := 2) rfl (by omega) hL d_L_law_1506 ?_
    refine g_aload_n (n := 0) (i := 0) rfl rfl d_L_law_1507 ?_
    refine g_iload (i := 5) rfl d_L_law_1508 ?_
    refine g_iconst_i d_L_law_1510 ?_
    refine g_iadd_i d_L_law_1511 ?_
    refine g_sldI (k := 3) rfl (by omega) hL d_L_law_1512 ?_
    refine g_if_eq_i (tgt := 1520) (by omega) d_L_law_1513 (by decide) (fun h1513 => ?_) (fun h => by exfalso; omega)
    refine g_iconst_i d_L_law_1520 ?_
    refine g_callV3 rfl rfl e_M_ride l_L_201 iv_M_ride 9 (by decide) rfl (by assumption) (by decide) (Nat.zero_le _) (Nat.zero_le _) (Nat.le_of_ble_eq_true rfl) d_L_law_1521 (c_M_ride hm1 ok sc_rng sc_rng (by omega) (fun t9 r9 w2 he9 hM => ?_))
    refine g_ret ?_
    have e1 : t9 = ta := congrArg Prod.fst (he9.trans hga.symm)
    have e2 : r9 = ra := congrArg Prod.snd (he9.trans hga.symm)
    obtain ⟨f2, hC, ht2, h682, h692⟩ := hCp.read hLX h681 h691 hM
    have hC2 := hC.mono
    have ht2 : f2 6 = ta := ht2.trans e1
    have hr2 : ta = 0 → r9 = ra := fun _ => e2
    have k2 : g_cell E w2 im1 (gad E 62) _ := g_mut 62 (by omega) hC2.2.1.2.1
    refine g_istore (i := 7) (by decide) rfl d_L_law_1524 ?_
    refine g_aload_n (n := 2) (i := 2) rfl rfl d_L_law_1526 ?_
    refine g_callV0 rfl rfl e_M_thrown l_L_141 iv_M_thrown 9 (by decide) rfl (by assumption) (by decide) (Nat.zero_le _) (Nat.zero_le _) (Nat.le_of_ble_eq_true rfl) d_L_law_1527 (c_M_thrown hC2.2.1 ?_)
    refine g_ret ?_
    rw [ht2]
    refine g_iload (i := 6) rfl d_L_law_1530 ?_
    refine g_icmp_eq (tgt := 1537) d_L_law_1532 (by decide) (fun _ => ?_) (fun h => absurd rfl h)
    refine g_iload (i := 6) rfl d_L_law_1537 ?_
    refine g_if_ne_i (tgt := 1554) (by omega) d_L_law_1539 (by decide) (fun h1539 => ?_) (fun h1539 => ?_)
    · refine g_goto (tgt := 2306) (by decide) d_L_law_1554 ?_
      exact g_cut (lv' := [(0, .ref (gX E).1), (1, .ref (gad E 0)), (2, .ref (gad E 62)), (3, .ref (gad E 68)), (4, .ref (gad E 69)), (5, .int (iI (I : Int)))]) ⟨rfl, rfl, rfl, rfl, rfl, rfl, trivial⟩ (hN _ _ _ _ _ _ _ _ _ hC2 (by omega) (by omega))
    · refine g_aload_n (n := 3) (i := 3) rfl rfl d_L_law_1542 ?_
      refine g_iconst_i d_L_law_1543 ?_
      have h0 : ta = 0 := by omega
      refine g_laload (j := 0) (f := g1) (g_mut 68 (by omega) h682) (iI_nI 0).symm (by decide) (by rfl) d_L_law_1544 ?_
      refine g_iload (i := 7) rfl d_L_law_1545 ?_
      refine g_i2l d_L_law_1547 ?_
      refine g_lcmp d_L_law_1548 ?_
      rw [hval h0, ← hr2 h0, lgc]
      refine g_if_eq_i (tgt := 1554) (by decide) d_L_law_1549 (by decide) (fun h1549 => ?_) (fun h => absurd h (by decide))
      refine g_goto (tgt := 2306) (by decide) d_L_law_1554 ?_
      exact g_cut (lv' := [(0, .ref (gX E).1), (1, .ref (gad E 0)), (2, .ref (gad E 62)), (3, .ref (gad E 68)), (4, .ref (gad E 69)), (5, .int (iI (I : Int)))]) ⟨rfl, rfl, rfl, rfl, rfl, rfl, trivial⟩ (hN _ _ _ _ _ _ _ _ _ hC2 (by omega) (by omega))
  · refine g_iconst_i d_L_law_1483 ?_
    refine g_goto (tgt := 1488) (by decide) d_L_law_1484 ?_
    obtain ⟨ta, ra, hga⟩ : ∃ t r, (t, r) = gRide m (sc E (I + 1)) (sc E (I + 2)) 1 := ⟨_, _, rfl⟩
    have hA := A_ride hz (x := (sc E (I + 1))) (y := (sc E (I + 2))) (z := 1) (by omega)
    rw [← hga] at hA
    have hta := An_rng hA
    refine g_aload_n (n := 3) (i := 3) rfl rfl d_L_law_1488 ?_
    refine g_callW5 rfl rfl e_L_ride l_L_198 st_L_ride (by decide) (by omega) (by omega) (Nat.le_of_ble_eq_true rfl) d_L_law_1489 (c_L_ride hx sc_rng sc_rng (by omega) hA h68 (fun w1 im1 g1 hLX h681 h69k hval => ?_))
    refine g_retn ?_
    obtain ⟨hm1, u41, u51, u61, u71⟩ := hCp.mid hLX
    have k2 : g_cell E w1 im1 (gad E 62) _ := g_mut 62 (by omega) hm1.2.1
    have h691 : w1 69 = dbE gd := (h69k 69 rfl).trans hgd
    refine g_istore (i := 6) (by decide) rfl d_L_law_1492 ?_
    refine g_aload_n (n := 2) (i := 2) rfl rfl d_L_law_1494 ?_
    refine g_aload_n (n := 0) (i := 0) rfl rfl d_L_law_1495 ?_
    refine g_iload (i := 5) rfl d_L_law_1496 ?_
    refine g_iconst_i d_L_law_1498 ?_
    refine g_iadd_i d_L_law_1499 ?_
    refine g_sldI (k := 1) rfl (by omega) hL d_L_law_1500 ?_
    refine g_aload_n (n := 0) (i := 0) rfl rfl d_L_law_1501 ?_
    refine g_iload (i := 5) rfl d_L_law_1502 ?_
    refine g_iconst_i d_L_law_1504 ?_
    refine g_iadd_i d_L_law_1505 ?_
    refine g_sldI (k := 2) rfl (by omega) hL d_L_law_1506 ?_
    refine g_aload_n (n := 0) (i := 0) rfl rfl d_L_law_1507 ?_
    refine g_iload (i := 5) rfl d_L_law_1508 ?_
    refine g_iconst_i d_L_law_1510 ?_
    refine g_iadd_i d_L_law_1511 ?_
    refine g_sldI (k := 3) rfl (by omega) hL d_L_law_1512 ?_
    refine g_if_eq_i (tgt := 1520) (by omega) d_L_law_1513 (by decide) (fun h => by exfalso; omega) (fun h1513 => ?_)
    refine g_iconst_i d_L_law_1516 ?_
    refine g_goto (tgt := 1521) (by decide) d_L_law_1517 ?_
    refine g_callV3 rfl rfl e_M_ride l_L_201 iv_M_ride 9 (by decide) rfl (by assumption) (by decide) (Nat.zero_le _) (Nat.zero_le _) (Nat.le_of_ble_eq_true rfl) d_L_law_1521 (c_M_ride hm1 ok sc_rng sc_rng (by omega) (fun t9 r9 w2 he9 hM => ?_))
    refine g_ret ?_
    have e1 : t9 = ta := congrArg Prod.fst (he9.trans hga.symm)
    have e2 : r9 = ra := congrArg Prod.snd (he9.trans hga.symm)
    obtain ⟨f2, hC, ht2, h682, h692⟩ := hCp.read hLX h681 h691 hM
    have hC2 := hC.mono
    have ht2 : f2 6 = ta := ht2.trans e1
    have hr2 : ta = 0 → r9 = ra := fun _ => e2
    have k2 : g_cell E w2 im1 (gad E 62) _ := g_mut 62 (by omega) hC2.2.1.2.1
    refine g_istore (i := 7) (by decide) rfl d_L_law_1524 ?_
    refine g_aload_n (n := 2) (i := 2) rfl rfl d_L_law_1526 ?_
    refine g_callV0 rfl rfl e_M_thrown l_L_141 iv_M_thrown 9 (by decide) rfl (by assumption) (by decide) (Nat.zero_le _) (Nat.zero_le _) (Nat.le_of_ble_eq_true rfl) d_L_law_1527 (c_M_thrown hC2.2.1 ?_)
    refine g_ret ?_
    rw [ht2]
    refine g_iload (i := 6) rfl d_L_law_1530 ?_
    refine g_icmp_eq (tgt := 1537) d_L_law_1532 (by decide) (fun _ => ?_) (fun h => absurd rfl h)
    refine g_iload (i := 6) rfl d_L_law_1537 ?_
    refine g_if_ne_i (tgt := 1554) (by omega) d_L_law_1539 (by decide) (fun h1539 => ?_) (fun h1539 => ?_)
    · refine g_goto (tgt := 2306) (by decide) d_L_law_1554 ?_
      exact g_cut (lv' := [(0, .ref (gX E).1), (1, .ref (gad E 0)), (2, .ref (gad E 62)), (3, .ref (gad E 68)), (4, .ref (gad E 69)), (5, .int (iI (I : Int)))]) ⟨rfl, rfl, rfl, rfl, rfl, rfl, trivial⟩ (hN _ _ _ _ _ _ _ _ _ hC2 (by omega) (by omega))
    · refine g_aload_n (n := 3) (i := 3) rfl rfl d_L_law_1542 ?_
      refine g_iconst_i d_L_law_1543 ?_
      have h0 : ta = 0 := by omega
      refine g_laload (j := 0) (f := g1) (g_mut 68 (by omega) h682) (iI_nI 0).symm (by decide) (by rfl) d_L_law_1544 ?_
      refine g_iload (i := 7) rfl d_L_law_1545 ?_
      refine g_i2l d_L_law_1547 ?_
      refine g_lcmp d_L_law_1548 ?_
      rw [hval h0, ← hr2 h0, lgc]
      refine g_if_eq_i (tgt := 1554) (by decide) d_L_law_1549 (by decide) (fun h1549 => ?_) (fun h => absurd h (by decide))
      refine g_goto (tgt := 2306) (by decide) d_L_law_1554 ?_
      exact g_cut (lv' := [(0, .ref (gX E).1), (1, .ref (gad E 0)), (2, .ref (gad E 62)), (3, .ref (gad E 68)), (4, .ref (gad E 69)), (5, .int (iI (I : Int)))]) ⟨rfl, rfl, rfl, rfl, rfl, rfl, trivial⟩ (hN _ _ _ _ _ _ _ _ _ hC2 (by omega) (by omega))

theorem op_10 {E : gE} {w : gW} {im : gIm} {Q : gQ} {c : CSt} {f : Nat → Int} {m pa sv : Int → Int} {n : Int} {I kc ks : Nat} (hL : (gX E).2.1 ≤ 3584) (hI : I + 7 ≤ (gX E).2.1) (hn6 : n < 600) (hkc : 541 ≤ kc) (hks : 3246 ≤ ks) (hCp : Cp E w im c f m pa sv n) (hN : ∀ w' im' c' f' m' pa' sv' kc' ks', Cp E w' im' c' f' m' pa' sv' (n + 1) → kc ≤ kc' + 541 → ks ≤ ks' + 3246 → G E 8 m_L_law 2306 [(0, .ref (gX E).1), (1, .ref (gad E 0)), (2, .ref (gad E 62)), (3, .ref (gad E 68)), (4, .ref (gad E 69)), (5, .int (iI (I : Int)))] [] w' im' kc' ks' Q) : G E 8 m_L_law 874 [(0, .ref (gX E).1), (1, .ref (gad E 0)), (2, .ref (gad E 62)), (3, .ref (gad E 68)), (4, .ref (gad E 69)), (5, .int (iI (I : Int)))] [] w im kc ks Q := by
  obtain ⟨hx, hm, u4, u5, u6, u7, ⟨g0, h68⟩, ⟨gd, hgd⟩, hP⟩ := id hCp
  have hR := hP.1
  obtain ⟨ok, hz, h4⟩ := id hR
  have oz := hx.2.1.1.okz
  have hgn : gN E = 70 := hm.1
  have k0 : g_cell E w im (gad E 0) _ := g_mut 0 (by omega) hx.1.2.1
  have hr2c : 0 ≤ f 2 ∧ f 2 ≤ 8 := by rw [hP.2.1.1]; exact hx.2.2.2.1
  obtain ⟨ta, ra, hga⟩ : ∃ t r, (t, r) = gCld m (sc E (I + 1)) (sc E (I + 2)) := ⟨_, _, rfl⟩
  have hA := A_closedDay ok hz (x := (sc E (I + 1))) (y := (sc E (I + 2)))
  rw [← hga] at hA
  have hta := An_rng hA
  have hb : 0 ≤ ra ∧ ra ≤ 1 := by
    have h9 : ra = (gCld m (sc E (I + 1)) (sc E (I + 2))).2 := congrArg Prod.snd hga
    rw [h9]; exact cld_rng
  refine g_aload_n (n := 1) (i := 1) rfl rfl d_L_law_874 ?_
  refine g_aload_n (n := 0) (i := 0) rfl rfl d_L_law_875 ?_
  refine g_iload (i := 5) rfl d_L_law_876 ?_
  refine g_iconst_i d_L_law_878 ?_
  refine g_iadd_i d_L_law_879 ?_
  refine g_sldI (k := 1) rfl (by omega) hL d_L_law_880 ?_
  refine g_aload_n (n := 0) (i := 0) rfl rfl d_L_law_881 ?_
  refine g_iload (i := 5) rfl d_L_law_882 ?_
  refine g_iconst_i d_L_law_884 ?_
  refine g_iadd_i d_L_law_885 ?_
  refine g_sldI (k := 2) rfl (by omega) hL d_L_law_886 ?_
  refine g_aload_n (n := 3) (i := 3) rfl rfl d_L_law_887 ?_
  refine g_callW4 rfl rfl e_L_isClosedDay l_L_171 st_L_isClosedDay (by decide) (by omega) (by omega) (Nat.le_of_ble_eq_true rfl) d_L_law_888 (c_L_isClosedDay hx sc_rng sc_rng hA hb h68 (fun w1 im1 g1 hLX h681 h69k hval => ?_))
  refine g_retn ?_
  obtain ⟨hm1, u41, u51, u61, u71⟩ := hCp.mid hLX
  have k2 : g_cell E w1 im1 (gad E 62) _ := g_mut 62 (by omega) hm1.2.1
  have h691 : w1 69 = dbE gd := (h69k 69 rfl).trans hgd
  refine g_istore (i := 6) (by decide) rfl d_L_law_891 ?_
  refine g_aload_n (n := 2) (i := 2) rfl rfl d_L_law_893 ?_
  refine g_aload_n (n := 0) (i := 0) rfl rfl d_L_law_894 ?_
  refine g_iload (i := 5) rfl d_L_law_895 ?_
  refine g_iconst_i d_L_law_897 ?_
  refine g_iadd_i d_L_law_898 ?_
  refine g_sldI (k := 1) rfl (by omega) hL d_L_law_899 ?_
  refine g_aload_n (n := 0) (i := 0) rfl rfl d_L_law_900 ?_
  refine g_iload (i := 5) rfl d_L_law_901 ?_
  refine g_iconst_i d_L_law_903 ?_
  refine g_iadd_i d_L_law_904 ?_
  refine g_sldI (k := 2) rfl (by omega) hL d_L_law_905 ?_
  refine g_callV2 rfl rfl e_M_isClosedDay l_L_173 iv_M_isClosedDay 9 (by decide) rfl (by assumption) (by decide) (Nat.zero_le _) (Nat.zero_le _) (Nat.le_of_ble_eq_true rfl) d_L_law_906 (c_M_isClosedDay hm1 ok sc_rng sc_rng (fun t9 r9 w2 he9 hM => ?_))
  refine g_ret ?_
  have e1 : t9 = ta := congrArg Prod.fst (he9.trans hga.symm)
  have e2 : r9 = ra := congrArg Prod.snd (he9.trans hga.symm)
  obtain ⟨f2, hC, ht2, h682, h692⟩ := hCp.read hLX h681 h691 hM
  have hC2 := hC.mono
  have ht2 : f2 6 = ta := ht2.trans e1
  have hr2 : ta = 0 → r9 = ra := fun _ => e2
  have k2 : g_cell E w2 im1 (gad E 62) _ := g_mut 62 (by omega) hC2.2.1.2.1
  refine g_istore (i := 7) (by decide) rfl d_L_law_909 ?_
  refine g_aload_n (n := 2) (i := 2) rfl rfl d_L_law_911 ?_
  refine g_callV0 rfl rfl e_M_thrown l_L_141 iv_M_thrown 9 (by decide) rfl (by assumption) (by decide) (Nat.zero_le _) (Nat.zero_le _) (Nat.le_of_ble_eq_true rfl) d_L_law_912 (c_M_thrown hC2.2.1 ?_)
  refine g_ret ?_
  rw [ht2]
  refine g_iload (i := 6) rfl d_L_law_915 ?_
  refine g_icmp_eq (tgt := 922) d_L_law_917 (by decide) (fun _ => ?_) (fun h => absurd rfl h)
  refine g_iload (i := 6) rfl d_L_law_922 ?_
  refine g_if_ne_i (tgt := 946) (by omega) d_L_law_924 (by decide) (fun h924 => ?_) (fun h924 => ?_)
  · refine g_goto (tgt := 2306) (by decide) d_L_law_946 ?_
    exact g_cut (lv' := [(0, .ref (gX E).1), (1, .ref (gad E 0)), (2, .ref (gad E 62)), (3, .ref (gad E 68)), (4, .ref (gad E 69)), (5, .int (iI (I : Int)))]) ⟨rfl, rfl, rfl, rfl, rfl, rfl, trivial⟩ (hN _ _ _ _ _ _ _ _ _ hC2 (by omega) (by omega))
  · refine g_aload_n (n := 3) (i := 3) rfl rfl d_L_law_927 ?_
    refine g_iconst_i d_L_law_928 ?_
    have h0 : ta = 0 := by omega
    refine g_laload (j := 0) (f := g1) (g_mut 68 (by omega) h682) (iI_nI 0).symm (by decide) (by rfl) d_L_law_929 ?_
    refine g_iload (i := 7) rfl d_L_law_930 ?_
    refine g_if_eq_i (tgt := 939) (by omega) d_L_law_932 (by decide) (fun h932 => ?_) (fun h932 => ?_)
    · refine g_lconst (v := 0) (by decide) d_L_law_939 ?_
      refine g_lcmp d_L_law_940 ?_
      have hra := hr2 h0
      rw [hval h0]
      first
      | (rw [show ra = 1 by omega, show (iI 1).toInt64 = 1 by decide, lgc])
      | (rw [show ra = 0 by omega, show (iI 0).toInt64 = 0 by decide, lgc])
      refine g_if_eq_i (tgt := 946) (by decide) d_L_law_941 (by decide) (fun h941 => ?_) (fun h => absurd h (by decide))
      refine g_goto (tgt := 2306) (by decide) d_L_law_946 ?_
      exact g_cut (lv' := [(0, .ref (gX E).1), (1, .ref (gad E 0)), (2, .ref (gad E 62)), (3, .ref (gad E 68)), (4, .ref (gad E 69)), (5, .int (iI (I : Int)))]) ⟨rfl, rfl, rfl, rfl, rfl, rfl, trivial⟩ (hN _ _ _ _ _ _ _ _ _ hC2 (by omega) (by omega))
    · refine g_lconst (v := 1) (by decide) d_L_law_935 ?_
      refine g_goto (tgt := 940) (by decide) d_L_law_936 ?_
      refine g_lcmp d_L_law_940 ?_
      have hra := hr2 h0
      rw [hval h0]
      first
      | (rw [show ra = 1 by omega, show (iI 1).toInt64 = 1 by decide, lgc])
      | (rw [show ra = 0 by omega, show (iI 0).toInt64 = 0 by decide, lgc])
      refine g_if_eq_i (tgt := 946) (by decide) d_L_law_941 (by decide) (fun h941 => ?_) (fun h => absurd h (by decide))
      refine g_goto (tgt := 2306) (by decide) d_L_law_946 ?_
      exact g_cut (lv' := [(0, .ref (gX E).1), (1, .ref (gad E 0)), (2, .ref (gad E 62)), (3, .ref (gad E 68)), (4, .ref (gad E 69)), (5, .int (iI (I : Int)))]) ⟨rfl, rfl, rfl, rfl, rfl, rfl, trivial⟩ (hN _ _ _ _ _ _ _ _ _ hC2 (by omega) (by omega))

theorem op_13 {E : gE} {w : gW} {im : gIm} {Q : gQ} {c : CSt} {f : Nat → Int} {m pa sv : Int → Int} {n : Int} {I kc ks : Nat} (hL : (gX E).2.1 ≤ 3584) (hI : I + 7 ≤ (gX E).2.1) (hn6 : n < 600) (hkc : 541 ≤ kc) (hks : 3246 ≤ ks) (hCp : Cp E w im c f m pa sv n) (hN : ∀ w' im' c' f' m' pa' sv' kc' ks', Cp E w' im' c' f' m' pa' sv' (n + 1) → kc ≤ kc' + 541 → ks ≤ ks' + 3246 → G E 8 m_L_law 2306 [(0, .ref (gX E).1), (1, .ref (gad E 0)), (2, .ref (gad E 62)), (3, .ref (gad E 68)), (4, .ref (gad E 69)), (5, .int (iI (I : Int)))] [] w' im' kc' ks' Q) : G E 8 m_L_law 1073 [(0, .ref (gX E).1), (1, .ref (gad E 0)), (2, .ref (gad E 62)), (3, .ref (gad E 68)), (4, .ref (gad E 69)), (5, .int (iI (I : Int)))] [] w im kc ks Q := by
  obtain ⟨hx, hm, u4, u5, u6, u7, ⟨g0, h68⟩, ⟨gd, hgd⟩, hP⟩ := id hCp
  have hR := hP.1
  obtain ⟨ok, hz, h4⟩ := id hR
  have oz := hx.2.1.1.okz
  have hgn : gN E = 70 := hm.1
  have k0 : g_cell E w im (gad E 0) _ := g_mut 0 (by omega) hx.1.2.1
  have hr2c : 0 ≤ f 2 ∧ f 2 ≤ 8 := by rw [hP.2.1.1]; exact hx.2.2.2.1
  obtain ⟨ta, ra, hga⟩ : ∃ t r, (t, r) = aRea c m (sc E (I + 1)) (sc E (I + 2)) := ⟨_, _, rfl⟩
  have hA := A_reason (c := c) (x := (sc E (I + 1))) (y := (sc E (I + 2))) hz
  rw [← hga] at hA
  have hta := An_rng hA
  have ha2 : ta ≠ 2 := by
    have h9 : ta = (aRea c m (sc E (I + 1)) (sc E (I + 2))).1 := congrArg Prod.fst hga
    rw [h9]; exact n2_rea
  refine g_aload_n (n := 1) (i := 1) rfl rfl d_L_law_1073 ?_
  refine g_aload_n (n := 0) (i := 0) rfl rfl d_L_law_1074 ?_
  refine g_iload (i := 5) rfl d_L_law_1075 ?_
  refine g_iconst_i d_L_law_1077 ?_
  refine g_iadd_i d_L_law_1078 ?_
  refine g_sldI (k := 1) rfl (by omega) hL d_L_law_1079 ?_
  refine g_aload_n (n := 0) (i := 0) rfl rfl d_L_law_1080 ?_
  refine g_iload (i := 5) rfl d_L_law_1081 ?_
  refine g_iconst_i d_L_law_1083 ?_
  refine g_iadd_i d_L_law_1084 ?_
  refine g_sldI (k := 2) rfl (by omega) hL d_L_law_1085 ?_
  refine g_aload_n (n := 3) (i := 3) rfl rfl d_L_law_1086 ?_
  refine g_callW4 rfl rfl e_L_reason l_L_180 st_L_reason (by decide) (by omega) (by omega) (Nat.le_of_ble_eq_true rfl) d_L_law_1087 (c_L_reason hx sc_rng sc_rng hA ha2 h68 (fun w1 im1 g1 hLX h681 h69k hval => ?_))
  refine g_retn ?_
  obtain ⟨hm1, u41, u51, u61, u71⟩ := hCp.mid hLX
  have k2 : g_cell E w1 im1 (gad E 62) _ := g_mut 62 (by omega) hm1.2.1
  have h691 : w1 69 = dbE gd := (h69k 69 rfl).trans hgd
  refine g_istore (i := 6) (by decide) rfl d_L_law_1090 ?_
  refine g_aload_n (n := 2) (i := 2) rfl rfl d_L_law_1092 ?_
  refine g_aload_n (n := 0) (i := 0) rfl rfl d_L_law_1093 ?_
  refine g_iload (i := 5) rfl d_L_law_1094 ?_
  refine g_iconst_i d_L_law_1096 ?_
  refine g_iadd_i d_L_law_1097 ?_
  refine g_sldI (k := 1) rfl (by omega) hL d_L_law_1098 ?_
  refine g_aload_n (n := 0) (i := 0) rfl rfl d_L_law_1099 ?_
  refine g_iload (i := 5) rfl d_L_law_1100 ?_
  refine g_iconst_i d_L_law_1102 ?_
  refine g_iadd_i d_L_law_1103 ?_
  refine g_sldI (k := 2) rfl (by omega) hL d_L_law_1104 ?_
  refine g_callV2 rfl rfl e_M_reason l_L_182 iv_M_reason 9 (by decide) rfl (by assumption) (by decide) (Nat.zero_le _) (Nat.zero_le _) (Nat.le_of_ble_eq_true rfl) d_L_law_1105 (c_M_reason hm1 ok sc_rng sc_rng (fun r9 w2 hM => ?_))
  refine g_ret ?_
  have hM2 : ∃ t9, MTh E w1 f m t9 w2 ∧ (t9, r9) = aRea c m (sc E (I + 1)) (sc E (I + 2)) := by
    unfold aRea
    rcases hM with ⟨q1, q2, q3⟩ | ⟨q1, q2, q3⟩
    · exact ⟨0, q3, by rw [if_pos q1, rfsM_fun q2 (reason_eq ok hz q1.1 q1.2)]⟩
    · exact ⟨1, q3, by rw [if_neg q1, q2]⟩
  obtain ⟨t9, hM, he9⟩ := hM2
  have e1 : t9 = ta := congrArg Prod.fst (he9.trans hga.symm)
  have e2 : r9 = ra := congrArg Prod.snd (he9.trans hga.symm)
  obtain ⟨f2, hC, ht2, h682, h692⟩ := hCp.read hLX h681 h691 hM
  have hC2 := hC.mono
  have ht2 : f2 6 = ta := ht2.trans e1
  have hr2 : ta = 0 → r9 = ra := fun _ => e2
  have k2 : g_cell E w2 im1 (gad E 62) _ := g_mut 62 (by omega) hC2.2.1.2.1
  refine g_istore (i := 7) (by decide) rfl d_L_law_1108 ?_
  refine g_aload_n (n := 2) (i := 2) rfl rfl d_L_law_1110 ?_
  refine g_callV0 rfl rfl e_M_thrown l_L_141 iv_M_thrown 9 (by decide) rfl (by assumption) (by decide) (Nat.zero_le _) (Nat.zero_le _) (Nat.le_of_ble_eq_true rfl) d_L_law_1111 (c_M_thrown hC2.2.1 ?_)
  refine g_ret ?_
  rw [ht2]
  refine g_iload (i := 6) rfl d_L_law_1114 ?_
  refine g_icmp_eq (tgt := 1121) d_L_law_1116 (by decide) (fun _ => ?_) (fun h => absurd rfl h)
  refine g_iload (i := 6) rfl d_L_law_1121 ?_
  refine g_if_ne_i (tgt := 1138) (by omega) d_L_law_1123 (by decide) (fun h1123 => ?_) (fun h1123 => ?_)
  · refine g_goto (tgt := 2306) (by decide) d_L_law_1138 ?_
    exact g_cut (lv' := [(0, .ref (gX E).1), (1, .ref (gad E 0)), (2, .ref (gad E 62)), (3, .ref (gad E 68)), (4, .ref (gad E 69)), (5, .int (iI (I : Int)))]) ⟨rfl, rfl, rfl, rfl, rfl, rfl, trivial⟩ (hN _ _ _ _ _ _ _ _ _ hC2 (by omega) (by omega))
  · refine g_aload_n (n := 3) (i := 3) rfl rfl d_L_law_1126 ?_
    refine g_iconst_i d_L_law_1127 ?_
    have h0 : ta = 0 := by omega
    refine g_laload (j := 0) (f := g1) (g_mut 68 (by omega) h682) (iI_nI 0).symm (by decide) (by rfl) d_L_law_1128 ?_
    refine g_iload (i := 7) rfl d_L_law_1129 ?_
    refine g_i2l d_L_law_1131 ?_
    refine g_lcmp d_L_law_1132 ?_
    rw [hval h0, ← hr2 h0, lgc]
    refine g_if_eq_i (tgt := 1138) (by decide) d_L_law_1133 (by decide) (fun h1133 => ?_) (fun h => absurd h (by decide))
    refine g_goto (tgt := 2306) (by decide) d_L_law_1138 ?_
    exact g_cut (lv' := [(0, .ref (gX E).1), (1, .ref (gad E 0)), (2, .ref (gad E 62)), (3, .ref (gad E 68)), (4, .ref (gad E 69)), (5, .int (iI (I : Int)))]) ⟨rfl, rfl, rfl, rfl, rfl, rfl, trivial⟩ (hN _ _ _ _ _ _ _ _ _ hC2 (by omega) (by omega))

theorem op_12 {E : gE} {w : gW} {im : gIm} {Q : gQ} {c : CSt} {f : Nat → Int} {m pa sv : Int → Int} {n : Int} {I kc ks : Nat} (hL : (gX E).2.1 ≤ 3584) (hI : I + 7 ≤ (gX E).2.1) (hn6 : n < 600) (hkc : 541 ≤ kc) (hks : 3246 ≤ ks) (hCp : Cp E w im c f m pa sv n) (hN : ∀ w' im' c' f' m' pa' sv' kc' ks', Cp E w' im' c' f' m' pa' sv' (n + 1) → kc ≤ kc' + 541 → ks ≤ ks' + 3246 → G E 8 m_L_law 2306 [(0, .ref (gX E).1), (1, .ref (gad E 0)), (2, .ref (gad E 62)), (3, .ref (gad E 68)), (4, .ref (gad E 69)), (5, .int (iI (I : Int)))] [] w' im' kc' ks' Q) : G E 8 m_L_law 1005 [(0, .ref (gX E).1), (1, .ref (gad E 0)), (2, .ref (gad E 62)), (3, .ref (gad E 68)), (4, .ref (gad E 69)), (5, .int (iI (I : Int)))] [] w im kc ks Q := by
  obtain ⟨hx, hm, u4, u5, u6, u7, ⟨g0, h68⟩, ⟨gd, hgd⟩, hP⟩ := id hCp
  have hR := hP.1
  obtain ⟨ok, hz, h4⟩ := id hR
  have oz := hx.2.1.1.okz
  have hgn : gN E = 70 := hm.1
  have k0 : g_cell E w im (gad E 0) _ := g_mut 0 (by omega) hx.1.2.1
  have hr2c : 0 ≤ f 2 ∧ f 2 ≤ 8 := by rw [hP.2.1.1]; exact hx.2.2.2.1
  obtain ⟨ta, ra, hga⟩ : ∃ t r, (t, r) = aPass c m (sc E (I + 1)) (sc E (I + 2)) := ⟨_, _, rfl⟩
  have hA := A_pass hR hn6 (x := (sc E (I + 1))) (y := (sc E (I + 2)))
  rw [← hga] at hA
  have hta := An_rng hA
  refine g_aload_n (n := 1) (i := 1) rfl rfl d_L_law_1005 ?_
  refine g_aload_n (n := 0) (i := 0) rfl rfl d_L_law_1006 ?_
  refine g_iload (i := 5) rfl d_L_law_1007 ?_
  refine g_iconst_i d_L_law_1009 ?_
  refine g_iadd_i d_L_law_1010 ?_
  refine g_sldI (k := 1) rfl (by omega) hL d_L_law_1011 ?_
  refine g_aload_n (n := 0) (i := 0) rfl rfl d_L_law_1012 ?_
  refine g_iload (i := 5) rfl d_L_law_1013 ?_
  refine g_iconst_i d_L_law_1015 ?_
  refine g_iadd_i d_L_law_1016 ?_
  refine g_sldI (k := 2) rfl (by omega) hL d_L_law_1017 ?_
  refine g_aload_n (n := 3) (i := 3) rfl rfl d_L_law_1018 ?_
  refine g_callW4 rfl rfl e_L_pass l_L_177 st_L_pass (by decide) (by omega) (by omega) (Nat.le_of_ble_eq_true rfl) d_L_law_1019 (c_L_pass hx sc_rng sc_rng (fun h9 => rlen ok hz h9) hA h68 (fun w1 im1 g1 hLX h681 h69k hval => ?_))
  refine g_retn ?_
  obtain ⟨hm1, u41, u51, u61, u71⟩ := hCp.mid hLX
  have k2 : g_cell E w1 im1 (gad E 62) _ := g_mut 62 (by omega) hm1.2.1
  have h691 : w1 69 = dbE gd := (h69k 69 rfl).trans hgd
  refine g_istore (i := 6) (by decide) rfl d_L_law_1022 ?_
  refine g_aload_n (n := 2) (i := 2) rfl rfl d_L_law_1024 ?_
  refine g_aload_n (n := 0) (i := 0) rfl rfl d_L_law_1025 ?_
  refine g_iload (i := 5) rfl d_L_law_1026 ?_
  refine g_iconst_i d_L_law_1028 ?_
  refine g_iadd_i d_L_law_1029 ?_
  refine g_sldI (k := 1) rfl (by omega) hL d_L_law_1030 ?_
  refine g_aload_n (n := 0) (i := 0) rfl rfl d_L_law_1031 ?_
  refine g_iload (i := 5) rfl d_L_law_1032 ?_
  refine g_iconst_i d_L_law_1034 ?_
  refine g_iadd_i d_L_law_1035 ?_
  refine g_sldI (k := 2) rfl (by omega) hL d_L_law_1036 ?_
  refine g_callV2 rfl rfl e_M_pass l_L_179 iv_M_pass 9 (by decide) rfl (by assumption) (by decide) (Nat.zero_le _) (Nat.zero_le _) (Nat.le_of_ble_eq_true rfl) d_L_law_1037 (c_M_pass hm1 ok u41 u61 hr2c (by omega) sc_rng sc_rng (fun hNX w2 hM => ?_) (fun hNX r9 w2 hr9 hr0 hM => ?_) (fun hNX hr9 w2 hM => ?_))
  · refine g_ret ?_
    have ha : aPass c m (sc E (I + 1)) (sc E (I + 2)) = (1, 0) := by unfold aPass; rw [if_neg hNX]
    obtain ⟨⟨f2, hC2, ht2⟩, h682, h692⟩ := hCp.passOut hNX hLX h681 h691 hM
    have ht2 : f2 6 = ta := ht2.trans (congrArg Prod.fst hga.symm)
    have hr2 : ta = 0 → 0 = ra := fun _ => (congrArg Prod.snd (hga.trans ha)).symm
    have k2 : g_cell E w2 im1 (gad E 62) _ := g_mut 62 (by omega) hC2.2.1.2.1
    refine g_istore (i := 7) (by decide) rfl d_L_law_1040 ?_
    refine g_aload_n (n := 2) (i := 2) rfl rfl d_L_law_1042 ?_
    refine g_callV0 rfl rfl e_M_thrown l_L_141 iv_M_thrown 9 (by decide) rfl (by assumption) (by decide) (Nat.zero_le _) (Nat.zero_le _) (Nat.le_of_ble_eq_true rfl) d_L_law_1043 (c_M_thrown hC2.2.1 ?_)
    refine g_ret ?_
    rw [ht2]
    refine g_iload (i := 6) rfl d_L_law_1046 ?_
    refine g_icmp_eq (tgt := 1053) d_L_law_1048 (by decide) (fun _ => ?_) (fun h => absurd rfl h)
    refine g_iload (i := 6) rfl d_L_law_1053 ?_
    refine g_if_ne_i (tgt := 1070) (by omega) d_L_law_1055 (by decide) (fun h1055 => ?_) (fun h1055 => ?_)
    · refine g_goto (tgt := 2306) (by decide) d_L_law_1070 ?_
      exact g_cut (lv' := [(0, .ref (gX E).1), (1, .ref (gad E 0)), (2, .ref (gad E 62)), (3, .ref (gad E 68)), (4, .ref (gad E 69)), (5, .int (iI (I : Int)))]) ⟨rfl, rfl, rfl, rfl, rfl, rfl, trivial⟩ (hN _ _ _ _ _ _ _ _ _ hC2 (by omega) (by omega))
    · refine g_aload_n (n := 3) (i := 3) rfl rfl d_L_law_1058 ?_
      refine g_iconst_i d_L_law_1059 ?_
      have h0 : ta = 0 := by omega
      refine g_laload (j := 0) (f := g1) (g_mut 68 (by omega) h682) (iI_nI 0).symm (by decide) (by rfl) d_L_law_1060 ?_
      refine g_iload (i := 7) rfl d_L_law_1061 ?_
      refine g_i2l d_L_law_1063 ?_
      refine g_lcmp d_L_law_1064 ?_
      rw [hval h0, ← hr2 h0, lgc]
      refine g_if_eq_i (tgt := 1070) (by decide) d_L_law_1065 (by decide) (fun h1065 => ?_) (fun h => absurd h (by decide))
      refine g_goto (tgt := 2306) (by decide) d_L_law_1070 ?_
      exact g_cut (lv' := [(0, .ref (gX E).1), (1, .ref (gad E 0)), (2, .ref (gad E 62)), (3, .ref (gad E 68)), (4, .ref (gad E 69)), (5, .int (iI (I : Int)))]) ⟨rfl, rfl, rfl, rfl, rfl, rfl, trivial⟩ (hN _ _ _ _ _ _ _ _ _ hC2 (by omega) (by omega))
  · refine g_ret ?_
    have ha : aPass c m (sc E (I + 1)) (sc E (I + 2)) = (2, 0) := by unfold aPass; rw [if_pos hNX, if_neg (fun h9 => hr0 ((rfsM_fun hr9 (reason_eq ok hz hNX.1 hNX.2)).trans h9))]
    obtain ⟨⟨f2, hC2, ht2⟩, h682, h692⟩ := hCp.passNo hNX hr9 hr0 hLX h681 h691 hM
    have ht2 : f2 6 = ta := ht2.trans (congrArg Prod.fst hga.symm)
    have hr2 : ta = 0 → 0 = ra := fun _ => (congrArg Prod.snd (hga.trans ha)).symm
    have k2 : g_cell E w2 im1 (gad E 62) _ := g_mut 62 (by omega) hC2.2.1.2.1
    refine g_istore (i := 7) (by decide) rfl d_L_law_1040 ?_
    refine g_aload_n (n := 2) (i := 2) rfl rfl d_L_law_1042 ?_
    refine g_callV0 rfl rfl e_M_thrown l_L_141 iv_M_thrown 9 (by decide) rfl (by assumption) (by decide) (Nat.zero_le _) (Nat.zero_le _) (Nat.le_of_ble_eq_true rfl) d_L_law_1043 (c_M_thrown hC2.2.1 ?_)
    refine g_ret ?_
    rw [ht2]
    refine g_iload (i := 6) rfl d_L_law_1046 ?_
    refine g_icmp_eq (tgt := 1053) d_L_law_1048 (by decide) (fun _ => ?_) (fun h => absurd rfl h)
    refine g_iload (i := 6) rfl d_L_law_1053 ?_
    refine g_if_ne_i (tgt := 1070) (by omega) d_L_law_1055 (by decide) (fun h1055 => ?_) (fun h1055 => ?_)
    · refine g_goto (tgt := 2306) (by decide) d_L_law_1070 ?_
      exact g_cut (lv' := [(0, .ref (gX E).1), (1, .ref (gad E 0)), (2, .ref (gad E 62)), (3, .ref (gad E 68)), (4, .ref (gad E 69)), (5, .int (iI (I : Int)))]) ⟨rfl, rfl, rfl, rfl, rfl, rfl, trivial⟩ (hN _ _ _ _ _ _ _ _ _ hC2 (by omega) (by omega))
    · refine g_aload_n (n := 3) (i := 3) rfl rfl d_L_law_1058 ?_
      refine g_iconst_i d_L_law_1059 ?_
      have h0 : ta = 0 := by omega
      refine g_laload (j := 0) (f := g1) (g_mut 68 (by omega) h682) (iI_nI 0).symm (by decide) (by rfl) d_L_law_1060 ?_
      refine g_iload (i := 7) rfl d_L_law_1061 ?_
      refine g_i2l d_L_law_1063 ?_
      refine g_lcmp d_L_law_1064 ?_
      rw [hval h0, ← hr2 h0, lgc]
      refine g_if_eq_i (tgt := 1070) (by decide) d_L_law_1065 (by decide) (fun h1065 => ?_) (fun h => absurd h (by decide))
      refine g_goto (tgt := 2306) (by decide) d_L_law_1070 ?_
      exact g_cut (lv' := [(0, .ref (gX E).1), (1, .ref (gad E 0)), (2, .ref (gad E 62)), (3, .ref (gad E 68)), (4, .ref (gad E 69)), (5, .int (iI (I : Int)))]) ⟨rfl, rfl, rfl, rfl, rfl, rfl, trivial⟩ (hN _ _ _ _ _ _ _ _ _ hC2 (by omega) (by omega))
  · refine g_ret ?_
    obtain ⟨⟨f2, p2, hC2, ht2⟩, he5, h682, h692⟩ := hCp.passYes hn6 hNX hr9 hLX h681 h691 hM
    have ht2 : f2 6 = ta := ht2.trans (congrArg Prod.fst hga.symm)
    have hr2 : ta = 0 → ridesOnM (mRide m (sc E (I + 1)) (sc E (I + 2))) (sc E (I + 1)) = ra := fun _ => he5.symm.trans (congrArg Prod.snd hga.symm)
    have k2 : g_cell E w2 im1 (gad E 62) _ := g_mut 62 (by omega) hC2.2.1.2.1
    refine g_istore (i := 7) (by decide) rfl d_L_law_1040 ?_
    refine g_aload_n (n := 2) (i := 2) rfl rfl d_L_law_1042 ?_
    refine g_callV0 rfl rfl e_M_thrown l_L_141 iv_M_thrown 9 (by decide) rfl (by assumption) (by decide) (Nat.zero_le _) (Nat.zero_le _) (Nat.le_of_ble_eq_true rfl) d_L_law_1043 (c_M_thrown hC2.2.1 ?_)
    refine g_ret ?_
    rw [ht2]
    refine g_iload (i := 6) rfl d_L_law_1046 ?_
    refine g_icmp_eq (tgt := 1053) d_L_law_1048 (by decide) (fun _ => ?_) (fun h => absurd rfl h)
    refine g_iload (i := 6) rfl d_L_law_1053 ?_
    refine g_if_ne_i (tgt := 1070) (by omega) d_L_law_1055 (by decide) (fun h1055 => ?_) (fun h1055 => ?_)
    · refine g_goto (tgt := 2306) (by decide) d_L_law_1070 ?_
      exact g_cut (lv' := [(0, .ref (gX E).1), (1, .ref (gad E 0)), (2, .ref (gad E 62)), (3, .ref (gad E 68)), (4, .ref (gad E 69)), (5, .int (iI (I : Int)))]) ⟨rfl, rfl, rfl, rfl, rfl, rfl, trivial⟩ (hN _ _ _ _ _ _ _ _ _ hC2 (by omega) (by omega))
    · refine g_aload_n (n := 3) (i := 3) rfl rfl d_L_law_1058 ?_
      refine g_iconst_i d_L_law_1059 ?_
      have h0 : ta = 0 := by omega
      refine g_laload (j := 0) (f := g1) (g_mut 68 (by omega) h682) (iI_nI 0).symm (by decide) (by rfl) d_L_law_1060 ?_
      refine g_iload (i := 7) rfl d_L_law_1061 ?_
      refine g_i2l d_L_law_1063 ?_
      refine g_lcmp d_L_law_1064 ?_
      rw [hval h0, ← hr2 h0, lgc]
      refine g_if_eq_i (tgt := 1070) (by decide) d_L_law_1065 (by decide) (fun h1065 => ?_) (fun h => absurd h (by decide))
      refine g_goto (tgt := 2306) (by decide) d_L_law_1070 ?_
      exact g_cut (lv' := [(0, .ref (gX E).1), (1, .ref (gad E 0)), (2, .ref (gad E 62)), (3, .ref (gad E 68)), (4, .ref (gad E 69)), (5, .int (iI (I : Int)))]) ⟨rfl, rfl, rfl, rfl, rfl, rfl, trivial⟩ (hN _ _ _ _ _ _ _ _ _ hC2 (by omega) (by omega))

theorem op_28 {E : gE} {w : gW} {im : gIm} {Q : gQ} {c : CSt} {f : Nat → Int} {m pa sv : Int → Int} {n : Int} {I kc ks : Nat} (hL : (gX E).2.1 ≤ 3584) (hI : I + 7 ≤ (gX E).2.1) (hn6 : n < 600) (hkc : 541 ≤ kc) (hks : 3246 ≤ ks) (hCp : Cp E w im c f m pa sv n) (hN : ∀ w' im' c' f' m' pa' sv' kc' ks', Cp E w' im' c' f' m' pa' sv' (n + 1) → kc ≤ kc' + 541 → ks ≤ ks' + 3246 → G E 8 m_L_law 2306 [(0, .ref (gX E).1), (1, .ref (gad E 0)), (2, .ref (gad E 62)), (3, .ref (gad E 68)), (4, .ref (gad E 69)), (5, .int (iI (I : Int)))] [] w' im' kc' ks' Q) : G E 8 m_L_law 2017 [(0, .ref (gX E).1), (1, .ref (gad E 0)), (2, .ref (gad E 62)), (3, .ref (gad E 68)), (4, .ref (gad E 69)), (5, .int (iI (I : Int)))] [] w im kc ks Q := by
  obtain ⟨hx, hm, u4, u5, u6, u7, ⟨g0, h68⟩, ⟨gd, hgd⟩, hP⟩ := id hCp
  have hR := hP.1
  obtain ⟨ok, hz, h4⟩ := id hR
  have oz := hx.2.1.1.okz
  have hgn : gN E = 70 := hm.1
  have k0 : g_cell E w im (gad E 0) _ := g_mut 0 (by omega) hx.1.2.1
  have hr2c : 0 ≤ f 2 ∧ f 2 ≤ 8 := by rw [hP.2.1.1]; exact hx.2.2.2.1
  obtain ⟨ta, ra, hga⟩ : ∃ t r, (t, r) = aApp c (sc E (I + 1)) := ⟨_, _, rfl⟩
  have hA := A_append (c := c) (x := (sc E (I + 1)))
  rw [← hga] at hA
  have hta := An_rng hA
  refine g_aload_n (n := 1) (i := 1) rfl rfl d_L_law_2017 ?_
  refine g_aload_n (n := 0) (i := 0) rfl rfl d_L_law_2018 ?_
  refine g_iload (i := 5) rfl d_L_law_2019 ?_
  refine g_iconst_i d_L_law_2021 ?_
  refine g_iadd_i d_L_law_2022 ?_
  refine g_sldI (k := 1) rfl (by omega) hL d_L_law_2023 ?_
  refine g_aload_n (n := 3) (i := 3) rfl rfl d_L_law_2024 ?_
  refine g_callW3 rfl rfl e_L_append l_L_230 st_L_append (by decide) (by omega) (by omega) (Nat.le_of_ble_eq_true rfl) d_L_law_2025 (c_L_append hx sc_rng hA h68 (fun w1 im1 g1 hLX h681 h69k hval => ?_))
  refine g_retn ?_
  obtain ⟨hm1, u41, u51, u61, u71⟩ := hCp.mid hLX
  have k2 : g_cell E w1 im1 (gad E 62) _ := g_mut 62 (by omega) hm1.2.1
  have h691 : w1 69 = dbE gd := (h69k 69 rfl).trans hgd
  refine g_istore (i := 6) (by decide) rfl d_L_law_2028 ?_
  refine g_aload_n (n := 2) (i := 2) rfl rfl d_L_law_2030 ?_
  refine g_aload_n (n := 0) (i := 0) rfl rfl d_L_law_2031 ?_
  refine g_iload (i := 5) rfl d_L_law_2032 ?_
  refine g_iconst_i d_L_law_2034 ?_
  refine g_iadd_i d_L_law_2035 ?_
  refine g_sldI (k := 1) rfl (by omega) hL d_L_law_2036 ?_
  refine g_callV1 rfl rfl e_M_append l_L_232 iv_M_append 9 (by decide) rfl (by assumption) (by decide) (Nat.zero_le _) (Nat.zero_le _) (Nat.le_of_ble_eq_true rfl) d_L_law_2037 (c_M_append (t := cT c) hm1 u71 hP.2.2.2.2.2.2 hx.2.2.2.2.2.1 sc_rng (fun hk w2 hM => ?_) (fun hk hl w2 hM => ?_) (fun hk hl w2 f2 hM m6 m11 mf h67 hw => ?_))
  · refine g_ret ?_
    have ha : aApp c (sc E (I + 1)) = (1, 0) := by unfold aApp; rw [if_neg hk]
    rw [eApp_1 hk] at hLX
    obtain ⟨f2, hC, ht2, h682, h692⟩ := hCp.read hLX h681 h691 hM
    have hC2 := hC.mono
    have ht2 : f2 6 = ta := ht2.trans (congrArg Prod.fst (hga.trans ha)).symm
    have hr2 : ta = 0 → 0 = ra := fun _ => (congrArg Prod.snd (hga.trans ha)).symm
    have k2 : g_cell E w2 im1 (gad E 62) _ := g_mut 62 (by omega) hC2.2.1.2.1
    refine g_istore (i := 7) (by decide) rfl d_L_law_2040 ?_
    refine g_aload_n (n := 2) (i := 2) rfl rfl d_L_law_2042 ?_
    refine g_callV0 rfl rfl e_M_thrown l_L_141 iv_M_thrown 9 (by decide) rfl (by assumption) (by decide) (Nat.zero_le _) (Nat.zero_le _) (Nat.le_of_ble_eq_true rfl) d_L_law_2043 (c_M_thrown hC2.2.1 ?_)
    refine g_ret ?_
    rw [ht2]
    refine g_iload (i := 6) rfl d_L_law_2046 ?_
    refine g_icmp_eq (tgt := 2053) d_L_law_2048 (by decide) (fun _ => ?_) (fun h => absurd rfl h)
    refine g_iload (i := 6) rfl d_L_law_2053 ?_
    refine g_if_ne_i (tgt := 2070) (by omega) d_L_law_2055 (by decide) (fun h2055 => ?_) (fun h2055 => ?_)
    · refine g_goto (tgt := 2306) (by decide) d_L_law_2070 ?_
      exact g_cut (lv' := [(0, .ref (gX E).1), (1, .ref (gad E 0)), (2, .ref (gad E 62)), (3, .ref (gad E 68)), (4, .ref (gad E 69)), (5, .int (iI (I : Int)))]) ⟨rfl, rfl, rfl, rfl, rfl, rfl, trivial⟩ (hN _ _ _ _ _ _ _ _ _ hC2 (by omega) (by omega))
    · refine g_aload_n (n := 3) (i := 3) rfl rfl d_L_law_2058 ?_
      refine g_iconst_i d_L_law_2059 ?_
      have h0 : ta = 0 := by omega
      refine g_laload (j := 0) (f := g1) (g_mut 68 (by omega) h682) (iI_nI 0).symm (by decide) (by rfl) d_L_law_2060 ?_
      refine g_iload (i := 7) rfl d_L_law_2061 ?_
      refine g_i2l d_L_law_2063 ?_
      refine g_lcmp d_L_law_2064 ?_
      rw [hval h0, ← hr2 h0, lgc]
      refine g_if_eq_i (tgt := 2070) (by decide) d_L_law_2065 (by decide) (fun h2065 => ?_) (fun h => absurd h (by decide))
      refine g_goto (tgt := 2306) (by decide) d_L_law_2070 ?_
      exact g_cut (lv' := [(0, .ref (gX E).1), (1, .ref (gad E 0)), (2, .ref (gad E 62)), (3, .ref (gad E 68)), (4, .ref (gad E 69)), (5, .int (iI (I : Int)))]) ⟨rfl, rfl, rfl, rfl, rfl, rfl, trivial⟩ (hN _ _ _ _ _ _ _ _ _ hC2 (by omega) (by omega))
  · refine g_ret ?_
    have ha : aApp c (sc E (I + 1)) = (2, 0) := by unfold aApp; rw [if_pos hk, if_neg hl]
    rw [eApp_2 hk hl] at hLX
    obtain ⟨f2, hC, ht2, h682, h692⟩ := hCp.read hLX h681 h691 hM
    have hC2 := hC.mono
    have ht2 : f2 6 = ta := ht2.trans (congrArg Prod.fst (hga.trans ha)).symm
    have hr2 : ta = 0 → 0 = ra := fun _ => (congrArg Prod.snd (hga.trans ha)).symm
    have k2 : g_cell E w2 im1 (gad E 62) _ := g_mut 62 (by omega) hC2.2.1.2.1
    refine g_istore (i := 7) (by decide) rfl d_L_law_2040 ?_
    refine g_aload_n (n := 2) (i := 2) rfl rfl d_L_law_2042 ?_
    refine g_callV0 rfl rfl e_M_thrown l_L_141 iv_M_thrown 9 (by decide) rfl (by assumption) (by decide) (Nat.zero_le _) (Nat.zero_le _) (Nat.le_of_ble_eq_true rfl) d_L_law_2043 (c_M_thrown hC2.2.1 ?_)
    refine g_ret ?_
    rw [ht2]
    refine g_iload (i := 6) rfl d_L_law_2046 ?_
    refine g_icmp_eq (tgt := 2053) d_L_law_2048 (by decide) (fun _ => ?_) (fun h => absurd rfl h)
    refine g_iload (i := 6) rfl d_L_law_2053 ?_
    refine g_if_ne_i (tgt := 2070) (by omega) d_L_law_2055 (by decide) (fun h2055 => ?_) (fun h2055 => ?_)
    · refine g_goto (tgt := 2306) (by decide) d_L_law_2070 ?_
      exact g_cut (lv' := [(0, .ref (gX E).1), (1, .ref (gad E 0)), (2, .ref (gad E 62)), (3, .ref (gad E 68)), (4, .ref (gad E 69)), (5, .int (iI (I : Int)))]) ⟨rfl, rfl, rfl, rfl, rfl, rfl, trivial⟩ (hN _ _ _ _ _ _ _ _ _ hC2 (by omega) (by omega))
    · refine g_aload_n (n := 3) (i := 3) rfl rfl d_L_law_2058 ?_
      refine g_iconst_i d_L_law_2059 ?_
      have h0 : ta = 0 := by omega
      refine g_laload (j := 0) (f := g1) (g_mut 68 (by omega) h682) (iI_nI 0).symm (by decide) (by rfl) d_L_law_2060 ?_
      refine g_iload (i := 7) rfl d_L_law_2061 ?_
      refine g_i2l d_L_law_2063 ?_
      refine g_lcmp d_L_law_2064 ?_
      rw [hval h0, ← hr2 h0, lgc]
      refine g_if_eq_i (tgt := 2070) (by decide) d_L_law_2065 (by decide) (fun h2065 => ?_) (fun h => absurd h (by decide))
      refine g_goto (tgt := 2306) (by decide) d_L_law_2070 ?_
      exact g_cut (lv' := [(0, .ref (gX E).1), (1, .ref (gad E 0)), (2, .ref (gad E 62)), (3, .ref (gad E 68)), (4, .ref (gad E 69)), (5, .int (iI (I : Int)))]) ⟨rfl, rfl, rfl, rfl, rfl, rfl, trivial⟩ (hN _ _ _ _ _ _ _ _ _ hC2 (by omega) (by omega))
  · refine g_ret ?_
    have ha : aApp c (sc E (I + 1)) = (0, tl (t4A (cT c) (sc E (I + 1)))) := by unfold aApp; rw [if_pos hk, if_pos hl]
    obtain ⟨hC2, h682, h692⟩ := hCp.app hk hl hLX h681 h691 hM m6 m11 mf h67 hw
    have ht2 : f2 6 = ta := m6.trans (congrArg Prod.fst (hga.trans ha)).symm
    have hr2 : ta = 0 → tl (t4A (cT c) (sc E (I + 1))) = ra := fun _ => (congrArg Prod.snd (hga.trans ha)).symm
    have k2 : g_cell E w2 im1 (gad E 62) _ := g_mut 62 (by omega) hC2.2.1.2.1
    refine g_istore (i := 7) (by decide) rfl d_L_law_2040 ?_
    refine g_aload_n (n := 2) (i := 2) rfl rfl d_L_law_2042 ?_
    refine g_callV0 rfl rfl e_M_thrown l_L_141 iv_M_thrown 9 (by decide) rfl (by assumption) (by decide) (Nat.zero_le _) (Nat.zero_le _) (Nat.le_of_ble_eq_true rfl) d_L_law_2043 (c_M_thrown hC2.2.1 ?_)
    refine g_ret ?_
    rw [ht2]
    refine g_iload (i := 6) rfl d_L_law_2046 ?_
    refine g_icmp_eq (tgt := 2053) d_L_law_2048 (by decide) (fun _ => ?_) (fun h => absurd rfl h)
    refine g_iload (i := 6) rfl d_L_law_2053 ?_
    refine g_if_ne_i (tgt := 2070) (by omega) d_L_law_2055 (by decide) (fun h2055 => ?_) (fun h2055 => ?_)
    · refine g_goto (tgt := 2306) (by decide) d_L_law_2070 ?_
      exact g_cut (lv' := [(0, .ref (gX E).1), (1, .ref (gad E 0)), (2, .ref (gad E 62)), (3, .ref (gad E 68)), (4, .ref (gad E 69)), (5, .int (iI (I : Int)))]) ⟨rfl, rfl, rfl, rfl, rfl, rfl, trivial⟩ (hN _ _ _ _ _ _ _ _ _ hC2 (by omega) (by omega))
    · refine g_aload_n (n := 3) (i := 3) rfl rfl d_L_law_2058 ?_
      refine g_iconst_i d_L_law_2059 ?_
      have h0 : ta = 0 := by omega
      refine g_laload (j := 0) (f := g1) (g_mut 68 (by omega) h682) (iI_nI 0).symm (by decide) (by rfl) d_L_law_2060 ?_
      refine g_iload (i := 7) rfl d_L_law_2061 ?_
      refine g_i2l d_L_law_2063 ?_
      refine g_lcmp d_L_law_2064 ?_
      rw [hval h0, ← hr2 h0, lgc]
      refine g_if_eq_i (tgt := 2070) (by decide) d_L_law_2065 (by decide) (fun h2065 => ?_) (fun h => absurd h (by decide))
      refine g_goto (tgt := 2306) (by decide) d_L_law_2070 ?_
      exact g_cut (lv' := [(0, .ref (gX E).1), (1, .ref (gad E 0)), (2, .ref (gad E 62)), (3, .ref (gad E 68)), (4, .ref (gad E 69)), (5, .int (iI (I : Int)))]) ⟨rfl, rfl, rfl, rfl, rfl, rfl, trivial⟩ (hN _ _ _ _ _ _ _ _ _ hC2 (by omega) (by omega))

theorem op_29 {E : gE} {w : gW} {im : gIm} {Q : gQ} {c : CSt} {f : Nat → Int} {m pa sv : Int → Int} {n : Int} {I kc ks : Nat} (hL : (gX E).2.1 ≤ 3584) (hI : I + 7 ≤ (gX E).2.1) (hn6 : n < 600) (hkc : 541 ≤ kc) (hks : 3246 ≤ ks) (hCp : Cp E w im c f m pa sv n) (hN : ∀ w' im' c' f' m' pa' sv' kc' ks', Cp E w' im' c' f' m' pa' sv' (n + 1) → kc ≤ kc' + 541 → ks ≤ ks' + 3246 → G E 8 m_L_law 2306 [(0, .ref (gX E).1), (1, .ref (gad E 0)), (2, .ref (gad E 62)), (3, .ref (gad E 68)), (4, .ref (gad E 69)), (5, .int (iI (I : Int)))] [] w' im' kc' ks' Q) : G E 8 m_L_law 2073 [(0, .ref (gX E).1), (1, .ref (gad E 0)), (2, .ref (gad E 62)), (3, .ref (gad E 68)), (4, .ref (gad E 69)), (5, .int (iI (I : Int)))] [] w im kc ks Q := by
  obtain ⟨hx, hm, u4, u5, u6, u7, ⟨g0, h68⟩, ⟨gd, hgd⟩, hP⟩ := id hCp
  have hR := hP.1
  obtain ⟨ok, hz, h4⟩ := id hR
  have oz := hx.2.1.1.okz
  have hgn : gN E = 70 := hm.1
  have k0 : g_cell E w im (gad E 0) _ := g_mut 0 (by omega) hx.1.2.1
  have hr2c : 0 ≤ f 2 ∧ f 2 ≤ 8 := by rw [hP.2.1.1]; exact hx.2.2.2.1
  obtain ⟨ta, ra, hga⟩ : ∃ t r, (t, r) = aRead c := ⟨_, _, rfl⟩
  have hA := A_read (c := c)
  rw [← hga] at hA
  have hta := An_rng hA
  refine g_aload_n (n := 1) (i := 1) rfl rfl d_L_law_2073 ?_
  refine g_aload_n (n := 3) (i := 3) rfl rfl d_L_law_2074 ?_
  refine g_callW2 rfl rfl e_L_read l_L_233 st_L_read (by decide) (by omega) (by omega) (Nat.le_of_ble_eq_true rfl) d_L_law_2075 (c_L_read hx hA h68 (fun w1 im1 g1 hLX h681 h69k hval => ?_))
  refine g_retn ?_
  obtain ⟨hm1, u41, u51, u61, u71⟩ := hCp.mid hLX
  have k2 : g_cell E w1 im1 (gad E 62) _ := g_mut 62 (by omega) hm1.2.1
  have h691 : w1 69 = dbE gd := (h69k 69 rfl).trans hgd
  refine g_istore (i := 6) (by decide) rfl d_L_law_2078 ?_
  refine g_aload_n (n := 2) (i := 2) rfl rfl d_L_law_2080 ?_
  refine g_callV0 rfl rfl e_M_read l_L_236 iv_M_read 9 (by decide) rfl (by assumption) (by decide) (Nat.zero_le _) (Nat.zero_le _) (Nat.le_of_ble_eq_true rfl) d_L_law_2081 (c_M_read (t := tOr (tP (cT c) 0) 0) (R := cN c) hm1 ok hz oz u41 u61 hr2c u71 hP.2.2.2.2.2.2 rfl rfl hx.2.2.2.2.2.1 hx.2.2.2.2.2.2.2.2.2.2.2 (fun hA1 w2 f2 hm2 q6 q8 q11 qf hw => ?_) (fun hA1 hB1 w2 f2 hm2 q6 q9 q11 qf q66 hw => ?_) (fun hA1 hB1 w2 f2 m2 p2 hm2 ok2 hz2 e42 q6 q11 q2 qf q64 qRM q66 hw => ?_))
  · refine g_ret ?_
    have ha : aRead c = (1, 0) := by unfold aRead; rw [if_neg (show ¬ (rd1 c).1 = -1 from hA1)]
    obtain ⟨hC2, h682, h692⟩ := hCp.read1 hA1 hLX h681 h691 hm2 q8 q11 qf hw
    have ht2 : f2 6 = ta := q6.trans (congrArg Prod.fst (hga.trans ha)).symm
    have hr2 : ta = 0 → 0 = ra := fun _ => (congrArg Prod.snd (hga.trans ha)).symm
    have k2 : g_cell E w2 im1 (gad E 62) _ := g_mut 62 (by omega) hC2.2.1.2.1
    refine g_istore (i := 7) (by decide) rfl d_L_law_2084 ?_
    refine g_aload_n (n := 2) (i := 2) rfl rfl d_L_law_2086 ?_
    refine g_callV0 rfl rfl e_M_thrown l_L_141 iv_M_thrown 9 (by decide) rfl (by assumption) (by decide) (Nat.zero_le _) (Nat.zero_le _) (Nat.le_of_ble_eq_true rfl) d_L_law_2087 (c_M_thrown hC2.2.1 ?_)
    refine g_ret ?_
    rw [ht2]
    refine g_iload (i := 6) rfl d_L_law_2090 ?_
    refine g_icmp_eq (tgt := 2097) d_L_law_2092 (by decide) (fun _ => ?_) (fun h => absurd rfl h)
    refine g_iload (i := 6) rfl d_L_law_2097 ?_
    refine g_if_ne_i (tgt := 2114) (by omega) d_L_law_2099 (by decide) (fun h2099 => ?_) (fun h2099 => ?_)
    · refine g_goto (tgt := 2306) (by decide) d_L_law_2114 ?_
      exact g_cut (lv' := [(0, .ref (gX E).1), (1, .ref (gad E 0)), (2, .ref (gad E 62)), (3, .ref (gad E 68)), (4, .ref (gad E 69)), (5, .int (iI (I : Int)))]) ⟨rfl, rfl, rfl, rfl, rfl, rfl, trivial⟩ (hN _ _ _ _ _ _ _ _ _ hC2 (by omega) (by omega))
    · refine g_aload_n (n := 3) (i := 3) rfl rfl d_L_law_2102 ?_
      refine g_iconst_i d_L_law_2103 ?_
      have h0 : ta = 0 := by omega
      refine g_laload (j := 0) (f := g1) (g_mut 68 (by omega) h682) (iI_nI 0).symm (by decide) (by rfl) d_L_law_2104 ?_
      refine g_iload (i := 7) rfl d_L_law_2105 ?_
      refine g_i2l d_L_law_2107 ?_
      refine g_lcmp d_L_law_2108 ?_
      rw [hval h0, ← hr2 h0, lgc]
      refine g_if_eq_i (tgt := 2114) (by decide) d_L_law_2109 (by decide) (fun h2109 => ?_) (fun h => absurd h (by decide))
      refine g_goto (tgt := 2306) (by decide) d_L_law_2114 ?_
      exact g_cut (lv' := [(0, .ref (gX E).1), (1, .ref (gad E 0)), (2, .ref (gad E 62)), (3, .ref (gad E 68)), (4, .ref (gad E 69)), (5, .int (iI (I : Int)))]) ⟨rfl, rfl, rfl, rfl, rfl, rfl, trivial⟩ (hN _ _ _ _ _ _ _ _ _ hC2 (by omega) (by omega))
  · refine g_ret ?_
    have ha : aRead c = (2, 0) := by unfold aRead; rw [if_pos (show (rd1 c).1 = -1 from hA1), if_neg (show ¬ (fr2 c).1 = -1 from hB1)]
    obtain ⟨hC2, h682, h692⟩ := hCp.read2 hA1 hB1 hLX h681 h691 hm2 q9 q11 qf q66 hw
    have ht2 : f2 6 = ta := q6.trans (congrArg Prod.fst (hga.trans ha)).symm
    have hr2 : ta = 0 → 0 = ra := fun _ => (congrArg Prod.snd (hga.trans ha)).symm
    have k2 : g_cell E w2 im1 (gad E 62) _ := g_mut 62 (by omega) hC2.2.1.2.1
    refine g_istore (i := 7) (by decide) rfl d_L_law_2084 ?_
    refine g_aload_n (n := 2) (i := 2) rfl rfl d_L_law_2086 ?_
    refine g_callV0 rfl rfl e_M_thrown l_L_141 iv_M_thrown 9 (by decide) rfl (by assumption) (by decide) (Nat.zero_le _) (Nat.zero_le _) (Nat.le_of_ble_eq_true rfl) d_L_law_2087 (c_M_thrown hC2.2.1 ?_)
    refine g_ret ?_
    rw [ht2]
    refine g_iload (i := 6) rfl d_L_law_2090 ?_
    refine g_icmp_eq (tgt := 2097) d_L_law_2092 (by decide) (fun _ => ?_) (fun h => absurd rfl h)
    refine g_iload (i := 6) rfl d_L_law_2097 ?_
    refine g_if_ne_i (tgt := 2114) (by omega) d_L_law_2099 (by decide) (fun h2099 => ?_) (fun h2099 => ?_)
    · refine g_goto (tgt := 2306) (by decide) d_L_law_2114 ?_
      exact g_cut (lv' := [(0, .ref (gX E).1), (1, .ref (gad E 0)), (2, .ref (gad E 62)), (3, .ref (gad E 68)), (4, .ref (gad E 69)), (5, .int (iI (I : Int)))]) ⟨rfl, rfl, rfl, rfl, rfl, rfl, trivial⟩ (hN _ _ _ _ _ _ _ _ _ hC2 (by omega) (by omega))
    · refine g_aload_n (n := 3) (i := 3) rfl rfl d_L_law_2102 ?_
      refine g_iconst_i d_L_law_2103 ?_
      have h0 : ta = 0 := by omega
      refine g_laload (j := 0) (f := g1) (g_mut 68 (by omega) h682) (iI_nI 0).symm (by decide) (by rfl) d_L_law_2104 ?_
      refine g_iload (i := 7) rfl d_L_law_2105 ?_
      refine g_i2l d_L_law_2107 ?_
      refine g_lcmp d_L_law_2108 ?_
      rw [hval h0, ← hr2 h0, lgc]
      refine g_if_eq_i (tgt := 2114) (by decide) d_L_law_2109 (by decide) (fun h2109 => ?_) (fun h => absurd h (by decide))
      refine g_goto (tgt := 2306) (by decide) d_L_law_2114 ?_
      exact g_cut (lv' := [(0, .ref (gX E).1), (1, .ref (gad E 0)), (2, .ref (gad E 62)), (3, .ref (gad E 68)), (4, .ref (gad E 69)), (5, .int (iI (I : Int)))]) ⟨rfl, rfl, rfl, rfl, rfl, rfl, trivial⟩ (hN _ _ _ _ _ _ _ _ _ hC2 (by omega) (by omega))
  · refine g_ret ?_
    have ha : aRead c = (0, to' (rd1 c).2) := by unfold aRead; rw [if_pos (show (rd1 c).1 = -1 from hA1), if_pos (show (fr2 c).1 = -1 from hB1)]
    obtain ⟨hC2, h682, h692⟩ := hCp.read3 hA1 hB1 hLX h681 h691 hm2 ok2 hz2 e42 q11 q2 qf q64 qRM q66 hw
    have ht2 : f2 6 = ta := q6.trans (congrArg Prod.fst (hga.trans ha)).symm
    have hr2 : ta = 0 → to' (rdAll 60 (tOr (tP (cT c) 0) 0)).2 = ra := fun _ => (congrArg Prod.snd (hga.trans ha)).symm
    have k2 : g_cell E w2 im1 (gad E 62) _ := g_mut 62 (by omega) hC2.2.1.2.1
    refine g_istore (i := 7) (by decide) rfl d_L_law_2084 ?_
    refine g_aload_n (n := 2) (i := 2) rfl rfl d_L_law_2086 ?_
    refine g_callV0 rfl rfl e_M_thrown l_L_141 iv_M_thrown 9 (by decide) rfl (by assumption) (by decide) (Nat.zero_le _) (Nat.zero_le _) (Nat.le_of_ble_eq_true rfl) d_L_law_2087 (c_M_thrown hC2.2.1 ?_)
    refine g_ret ?_
    rw [ht2]
    refine g_iload (i := 6) rfl d_L_law_2090 ?_
    refine g_icmp_eq (tgt := 2097) d_L_law_2092 (by decide) (fun _ => ?_) (fun h => absurd rfl h)
    refine g_iload (i := 6) rfl d_L_law_2097 ?_
    refine g_if_ne_i (tgt := 2114) (by omega) d_L_law_2099 (by decide) (fun h2099 => ?_) (fun h2099 => ?_)
    · refine g_goto (tgt := 2306) (by decide) d_L_law_2114 ?_
      exact g_cut (lv' := [(0, .ref (gX E).1), (1, .ref (gad E 0)), (2, .ref (gad E 62)), (3, .ref (gad E 68)), (4, .ref (gad E 69)), (5, .int (iI (I : Int)))]) ⟨rfl, rfl, rfl, rfl, rfl, rfl, trivial⟩ (hN _ _ _ _ _ _ _ _ _ hC2 (by omega) (by omega))
    · refine g_aload_n (n := 3) (i := 3) rfl rfl d_L_law_2102 ?_
      refine g_iconst_i d_L_law_2103 ?_
      have h0 : ta = 0 := by omega
      refine g_laload (j := 0) (f := g1) (g_mut 68 (by omega) h682) (iI_nI 0).symm (by decide) (by rfl) d_L_law_2104 ?_
      refine g_iload (i := 7) rfl d_L_law_2105 ?_
      refine g_i2l d_L_law_2107 ?_
      refine g_lcmp d_L_law_2108 ?_
      rw [hval h0, ← hr2 h0, lgc]
      refine g_if_eq_i (tgt := 2114) (by decide) d_L_law_2109 (by decide) (fun h2109 => ?_) (fun h => absurd h (by decide))
      refine g_goto (tgt := 2306) (by decide) d_L_law_2114 ?_
      exact g_cut (lv' := [(0, .ref (gX E).1), (1, .ref (gad E 0)), (2, .ref (gad E 62)), (3, .ref (gad E 68)), (4, .ref (gad E 69)), (5, .int (iI (I : Int)))]) ⟨rfl, rfl, rfl, rfl, rfl, rfl, trivial⟩ (hN _ _ _ _ _ _ _ _ _ hC2 (by omega) (by omega))

theorem op_32 {E : gE} {w : gW} {im : gIm} {Q : gQ} {c : CSt} {f : Nat → Int} {m pa sv : Int → Int} {n : Int} {I kc ks : Nat} (hL : (gX E).2.1 ≤ 3584) (hI : I + 7 ≤ (gX E).2.1) (hn6 : n < 600) (hkc : 541 ≤ kc) (hks : 3246 ≤ ks) (hCp : Cp E w im c f m pa sv n) (hN : ∀ w' im' c' f' m' pa' sv' kc' ks', Cp E w' im' c' f' m' pa' sv' (n + 1) → kc ≤ kc' + 541 → ks ≤ ks' + 3246 → G E 8 m_L_law 2306 [(0, .ref (gX E).1), (1, .ref (gad E 0)), (2, .ref (gad E 62)), (3, .ref (gad E 68)), (4, .ref (gad E 69)), (5, .int (iI (I : Int)))] [] w' im' kc' ks' Q) : G E 8 m_L_law 2205 [(0, .ref (gX E).1), (1, .ref (gad E 0)), (2, .ref (gad E 62)), (3, .ref (gad E 68)), (4, .ref (gad E 69)), (5, .int (iI (I : Int)))] [] w im kc ks Q := by
  obtain ⟨hx, hm, u4, u5, u6, u7, ⟨g0, h68⟩, ⟨gd, hgd⟩, hP⟩ := id hCp
  have hR := hP.1
  obtain ⟨ok, hz, h4⟩ := id hR
  have oz := hx.2.1.1.okz
  have hgn : gN E = 70 := hm.1
  have k0 : g_cell E w im (gad E 0) _ := g_mut 0 (by omega) hx.1.2.1
  have hr2c : 0 ≤ f 2 ∧ f 2 ≤ 8 := by rw [hP.2.1.1]; exact hx.2.2.2.1
  obtain ⟨ta, ra, hga⟩ : ∃ t r, (t, r) = aUndo f := ⟨_, _, rfl⟩
  have hA := A_undo (c := c) (f := f) hP.2.1.1 hx.2.2.2.1.1
  rw [← hga] at hA
  have hta := An_rng hA
  have ha2 : ta ≠ 2 := by
    have h9 : ta = (aUndo f).1 := congrArg Prod.fst hga
    rw [h9]; unfold aUndo; split <;> first | (show (0 : Int) ≠ 2; decide) | (show (1 : Int) ≠ 2; decide)
  refine g_aload_n (n := 1) (i := 1) rfl rfl d_L_law_2205 ?_
  refine g_aload_n (n := 3) (i := 3) rfl rfl d_L_law_2206 ?_
  refine g_callW2 rfl rfl e_L_undo l_L_243 st_L_undo (by decide) (by omega) (by omega) (Nat.le_of_ble_eq_true rfl) d_L_law_2207 (c_L_undo hx hA ha2 h68 (fun w1 im1 g1 hLX h681 h69k hval => ?_))
  refine g_retn ?_
  obtain ⟨hm1, u41, u51, u61, u71⟩ := hCp.mid hLX
  have k2 : g_cell E w1 im1 (gad E 62) _ := g_mut 62 (by omega) hm1.2.1
  have h691 : w1 69 = dbE gd := (h69k 69 rfl).trans hgd
  refine g_istore (i := 6) (by decide) rfl d_L_law_2210 ?_
  refine g_aload_n (n := 2) (i := 2) rfl rfl d_L_law_2212 ?_
  refine g_callV0 rfl rfl e_M_undo l_L_245 iv_M_undo 9 (by decide) rfl (by assumption) (by decide) (Nat.zero_le _) (Nat.zero_le _) (Nat.le_of_ble_eq_true rfl) d_L_law_2213 (c_M_undo hm1 u41 hr2c (fun h0 w2 hM => ?_) (fun h0 w2 hM hw => ?_))
  · refine g_ret ?_
    have ha : aUndo f = (1, 0) := if_pos h0
    rw [eUndo_no (hP.2.1.1.symm.trans h0)] at hLX
    obtain ⟨f2, hC, ht2, h682, h692⟩ := hCp.read hLX h681 h691 hM
    have hC2 := hC.mono
    have ht2 : f2 6 = ta := ht2.trans (congrArg Prod.fst (hga.trans ha)).symm
    have hr2 : ta = 0 → 0 = ra := fun _ => (congrArg Prod.snd (hga.trans ha)).symm
    have k2 : g_cell E w2 im1 (gad E 62) _ := g_mut 62 (by omega) hC2.2.1.2.1
    refine g_istore (i := 7) (by decide) rfl d_L_law_2216 ?_
    refine g_aload_n (n := 2) (i := 2) rfl rfl d_L_law_2218 ?_
    refine g_callV0 rfl rfl e_M_thrown l_L_141 iv_M_thrown 9 (by decide) rfl (by assumption) (by decide) (Nat.zero_le _) (Nat.zero_le _) (Nat.le_of_ble_eq_true rfl) d_L_law_2219 (c_M_thrown hC2.2.1 ?_)
    refine g_ret ?_
    rw [ht2]
    refine g_iload (i := 6) rfl d_L_law_2222 ?_
    refine g_icmp_eq (tgt := 2229) d_L_law_2224 (by decide) (fun _ => ?_) (fun h => absurd rfl h)
    refine g_iload (i := 6) rfl d_L_law_2229 ?_
    refine g_if_ne_i (tgt := 2246) (by omega) d_L_law_2231 (by decide) (fun h2231 => ?_) (fun h2231 => ?_)
    · refine g_goto (tgt := 2306) (by decide) d_L_law_2246 ?_
      exact g_cut (lv' := [(0, .ref (gX E).1), (1, .ref (gad E 0)), (2, .ref (gad E 62)), (3, .ref (gad E 68)), (4, .ref (gad E 69)), (5, .int (iI (I : Int)))]) ⟨rfl, rfl, rfl, rfl, rfl, rfl, trivial⟩ (hN _ _ _ _ _ _ _ _ _ hC2 (by omega) (by omega))
    · refine g_aload_n (n := 3) (i := 3) rfl rfl d_L_law_2234 ?_
      refine g_iconst_i d_L_law_2235 ?_
      have h0 : ta = 0 := by omega
      refine g_laload (j := 0) (f := g1) (g_mut 68 (by omega) h682) (iI_nI 0).symm (by decide) (by rfl) d_L_law_2236 ?_
      refine g_iload (i := 7) rfl d_L_law_2237 ?_
      refine g_i2l d_L_law_2239 ?_
      refine g_lcmp d_L_law_2240 ?_
      rw [hval h0, ← hr2 h0, lgc]
      refine g_if_eq_i (tgt := 2246) (by decide) d_L_law_2241 (by decide) (fun h2241 => ?_) (fun h => absurd h (by decide))
      refine g_goto (tgt := 2306) (by decide) d_L_law_2246 ?_
      exact g_cut (lv' := [(0, .ref (gX E).1), (1, .ref (gad E 0)), (2, .ref (gad E 62)), (3, .ref (gad E 68)), (4, .ref (gad E 69)), (5, .int (iI (I : Int)))]) ⟨rfl, rfl, rfl, rfl, rfl, rfl, trivial⟩ (hN _ _ _ _ _ _ _ _ _ hC2 (by omega) (by omega))
  · refine g_ret ?_
    have ha : aUndo f = (0, f 2 - 1) := if_neg h0
    obtain ⟨f2, m2, hC2, ht2, h682, h692⟩ := hCp.undo h0 hLX h681 h691 hM hw
    have ht2 : f2 6 = ta := ht2.trans (congrArg Prod.fst (hga.trans ha)).symm
    have hr2 : ta = 0 → f 2 - 1 = ra := fun _ => (congrArg Prod.snd (hga.trans ha)).symm
    have k2 : g_cell E w2 im1 (gad E 62) _ := g_mut 62 (by omega) hC2.2.1.2.1
    refine g_istore (i := 7) (by decide) rfl d_L_law_2216 ?_
    refine g_aload_n (n := 2) (i := 2) rfl rfl d_L_law_2218 ?_
    refine g_callV0 rfl rfl e_M_thrown l_L_141 iv_M_thrown 9 (by decide) rfl (by assumption) (by decide) (Nat.zero_le _) (Nat.zero_le _) (Nat.le_of_ble_eq_true rfl) d_L_law_2219 (c_M_thrown hC2.2.1 ?_)
    refine g_ret ?_
    rw [ht2]
    refine g_iload (i := 6) rfl d_L_law_2222 ?_
    refine g_icmp_eq (tgt := 2229) d_L_law_2224 (by decide) (fun _ => ?_) (fun h => absurd rfl h)
    refine g_iload (i := 6) rfl d_L_law_2229 ?_
    refine g_if_ne_i (tgt := 2246) (by omega) d_L_law_2231 (by decide) (fun h2231 => ?_) (fun h2231 => ?_)
    · refine g_goto (tgt := 2306) (by decide) d_L_law_2246 ?_
      exact g_cut (lv' := [(0, .ref (gX E).1), (1, .ref (gad E 0)), (2, .ref (gad E 62)), (3, .ref (gad E 68)), (4, .ref (gad E 69)), (5, .int (iI (I : Int)))]) ⟨rfl, rfl, rfl, rfl, rfl, rfl, trivial⟩ (hN _ _ _ _ _ _ _ _ _ hC2 (by omega) (by omega))
    · refine g_aload_n (n := 3) (i := 3) rfl rfl d_L_law_2234 ?_
      refine g_iconst_i d_L_law_2235 ?_
      have h0 : ta = 0 := by omega
      refine g_laload (j := 0) (f := g1) (g_mut 68 (by omega) h682) (iI_nI 0).symm (by decide) (by rfl) d_L_law_2236 ?_
      refine g_iload (i := 7) rfl d_L_law_2237 ?_
      refine g_i2l d_L_law_2239 ?_
      refine g_lcmp d_L_law_2240 ?_
      rw [hval h0, ← hr2 h0, lgc]
      refine g_if_eq_i (tgt := 2246) (by decide) d_L_law_2241 (by decide) (fun h2241 => ?_) (fun h => absurd h (by decide))
      refine g_goto (tgt := 2306) (by decide) d_L_law_2246 ?_
      exact g_cut (lv' := [(0, .ref (gX E).1), (1, .ref (gad E 0)), (2, .ref (gad E 62)), (3, .ref (gad E 68)), (4, .ref (gad E 69)), (5, .int (iI (I : Int)))]) ⟨rfl, rfl, rfl, rfl, rfl, rfl, trivial⟩ (hN _ _ _ _ _ _ _ _ _ hC2 (by omega) (by omega))

theorem op_34 {E : gE} {w : gW} {im : gIm} {Q : gQ} {c : CSt} {f : Nat → Int} {m pa sv : Int → Int} {n : Int} {I kc ks : Nat} (hL : (gX E).2.1 ≤ 3584) (hI : I + 7 ≤ (gX E).2.1) (hn6 : n < 600) (hkc : 541 ≤ kc) (hks : 3246 ≤ ks) (hCp : Cp E w im c f m pa sv n) (hN : ∀ w' im' c' f' m' pa' sv' kc' ks', Cp E w' im' c' f' m' pa' sv' (n + 1) → kc ≤ kc' + 541 → ks ≤ ks' + 3246 → G E 8 m_L_law 2306 [(0, .ref (gX E).1), (1, .ref (gad E 0)), (2, .ref (gad E 62)), (3, .ref (gad E 68)), (4, .ref (gad E 69)), (5, .int (iI (I : Int)))] [] w' im' kc' ks' Q) : G E 8 m_L_law 2262 [(0, .ref (gX E).1), (1, .ref (gad E 0)), (2, .ref (gad E 62)), (3, .ref (gad E 68)), (4, .ref (gad E 69)), (5, .int (iI (I : Int)))] [] w im kc ks Q := by
  obtain ⟨hx, hm, u4, u5, u6, u7, ⟨g0, h68⟩, ⟨gd, hgd⟩, hP⟩ := id hCp
  have hR := hP.1
  obtain ⟨ok, hz, h4⟩ := id hR
  have oz := hx.2.1.1.okz
  have hgn : gN E = 70 := hm.1
  have k0 : g_cell E w im (gad E 0) _ := g_mut 0 (by omega) hx.1.2.1
  have hr2c : 0 ≤ f 2 ∧ f 2 ≤ 8 := by rw [hP.2.1.1]; exact hx.2.2.2.1
  obtain ⟨ta, ra, hga⟩ : ∃ t r, (t, r) = aRest f sv := ⟨_, _, rfl⟩
  have hA := A_restore (c := c) (f := f) (sv := sv) hP.2.2.1.1 hx.2.2.2.2.1.1 hP.2.2.1.2.2
  rw [← hga] at hA
  have hta := An_rng hA
  have ha2 : ta ≠ 2 := by
    have h9 : ta = (aRest f sv).1 := congrArg Prod.fst hga
    rw [h9]; unfold aRest; split <;> first | (show (0 : Int) ≠ 2; decide) | (show (1 : Int) ≠ 2; decide)
  have hr4 : 0 ≤ f 4 ∧ f 4 ≤ 1 := by rw [hP.2.2.1.1]; exact hx.2.2.2.2.1.1
  refine g_aload_n (n := 1) (i := 1) rfl rfl d_L_law_2262 ?_
  refine g_aload_n (n := 3) (i := 3) rfl rfl d_L_law_2263 ?_
  refine g_callW2 rfl rfl e_L_restore l_L_250 st_L_restore (by decide) (by omega) (by omega) (Nat.le_of_ble_eq_true rfl) d_L_law_2264 (c_L_restore hx hA ha2 h68 (fun w1 im1 g1 hLX h681 h69k hval => ?_))
  refine g_retn ?_
  obtain ⟨hm1, u41, u51, u61, u71⟩ := hCp.mid hLX
  have k2 : g_cell E w1 im1 (gad E 62) _ := g_mut 62 (by omega) hm1.2.1
  have h691 : w1 69 = dbE gd := (h69k 69 rfl).trans hgd
  refine g_istore (i := 6) (by decide) rfl d_L_law_2267 ?_
  refine g_aload_n (n := 2) (i := 2) rfl rfl d_L_law_2269 ?_
  refine g_callV0 rfl rfl e_M_restore l_L_252 iv_M_restore 9 (by decide) rfl (by assumption) (by decide) (Nat.zero_le _) (Nat.zero_le _) (Nat.le_of_ble_eq_true rfl) d_L_law_2270 (c_M_restore hm1 u51 hr4 (fun h0 w2 hM => ?_) (fun h0 w2 hM hw => ?_))
  · refine g_ret ?_
    have ha : aRest f sv = (1, 0) := if_pos h0
    rw [eRest_no (hP.2.2.1.1.symm.trans h0)] at hLX
    obtain ⟨f2, hC, ht2, h682, h692⟩ := hCp.read hLX h681 h691 hM
    have hC2 := hC.mono
    have ht2 : f2 6 = ta := ht2.trans (congrArg Prod.fst (hga.trans ha)).symm
    have hr2 : ta = 0 → 0 = ra := fun _ => (congrArg Prod.snd (hga.trans ha)).symm
    have k2 : g_cell E w2 im1 (gad E 62) _ := g_mut 62 (by omega) hC2.2.1.2.1
    refine g_istore (i := 7) (by decide) rfl d_L_law_2273 ?_
    refine g_aload_n (n := 2) (i := 2) rfl rfl d_L_law_2275 ?_
    refine g_callV0 rfl rfl e_M_thrown l_L_141 iv_M_thrown 9 (by decide) rfl (by assumption) (by decide) (Nat.zero_le _) (Nat.zero_le _) (Nat.le_of_ble_eq_true rfl) d_L_law_2276 (c_M_thrown hC2.2.1 ?_)
    refine g_ret ?_
    rw [ht2]
    refine g_iload (i := 6) rfl d_L_law_2279 ?_
    refine g_icmp_eq (tgt := 2286) d_L_law_2281 (by decide) (fun _ => ?_) (fun h => absurd rfl h)
    refine g_iload (i := 6) rfl d_L_law_2286 ?_
    refine g_if_ne_i (tgt := 2303) (by omega) d_L_law_2288 (by decide) (fun h2288 => ?_) (fun h2288 => ?_)
    · refine g_goto (tgt := 2306) (by decide) d_L_law_2303 ?_
      exact g_cut (lv' := [(0, .ref (gX E).1), (1, .ref (gad E 0)), (2, .ref (gad E 62)), (3, .ref (gad E 68)), (4, .ref (gad E 69)), (5, .int (iI (I : Int)))]) ⟨rfl, rfl, rfl, rfl, rfl, rfl, trivial⟩ (hN _ _ _ _ _ _ _ _ _ hC2 (by omega) (by omega))
    · refine g_aload_n (n := 3) (i := 3) rfl rfl d_L_law_2291 ?_
      refine g_iconst_i d_L_law_2292 ?_
      have h0 : ta = 0 := by omega
      refine g_laload (j := 0) (f := g1) (g_mut 68 (by omega) h682) (iI_nI 0).symm (by decide) (by rfl) d_L_law_2293 ?_
      refine g_iload (i := 7) rfl d_L_law_2294 ?_
      refine g_i2l d_L_law_2296 ?_
      refine g_lcmp d_L_law_2297 ?_
      rw [hval h0, ← hr2 h0, lgc]
      refine g_if_eq_i (tgt := 2303) (by decide) d_L_law_2298 (by decide) (fun h2298 => ?_) (fun h => absurd h (by decide))
      refine g_goto (tgt := 2306) (by decide) d_L_law_2303 ?_
      exact g_cut (lv' := [(0, .ref (gX E).1), (1, .ref (gad E 0)), (2, .ref (gad E 62)), (3, .ref (gad E 68)), (4, .ref (gad E 69)), (5, .int (iI (I : Int)))]) ⟨rfl, rfl, rfl, rfl, rfl, rfl, trivial⟩ (hN _ _ _ _ _ _ _ _ _ hC2 (by omega) (by omega))
  · refine g_ret ?_
    have ha : aRest f sv = (0, sv 3) := if_neg h0
    obtain ⟨⟨f2, m2, hC2, ht2⟩, he5, h682, h692⟩ := hCp.rest h0 hLX h681 h691 hM hw
    have ht2 : f2 6 = ta := ht2.trans (congrArg Prod.fst (hga.trans ha)).symm
    have hr2 : ta = 0 → cpy sv m 3561 3 = ra := fun _ => he5.trans (congrArg Prod.snd (hga.trans ha)).symm
    have k2 : g_cell E w2 im1 (gad E 62) _ := g_mut 62 (by omega) hC2.2.1.2.1
    refine g_istore (i := 7) (by decide) rfl d_L_law_2273 ?_
    refine g_aload_n (n := 2) (i := 2) rfl rfl d_L_law_2275 ?_
    refine g_callV0 rfl rfl e_M_thrown l_L_141 iv_M_thrown 9 (by decide) rfl (by assumption) (by decide) (Nat.zero_le _) (Nat.zero_le _) (Nat.le_of_ble_eq_true rfl) d_L_law_2276 (c_M_thrown hC2.2.1 ?_)
    refine g_ret ?_
    rw [ht2]
    refine g_iload (i := 6) rfl d_L_law_2279 ?_
    refine g_icmp_eq (tgt := 2286) d_L_law_2281 (by decide) (fun _ => ?_) (fun h => absurd rfl h)
    refine g_iload (i := 6) rfl d_L_law_2286 ?_
    refine g_if_ne_i (tgt := 2303) (by omega) d_L_law_2288 (by decide) (fun h2288 => ?_) (fun h2288 => ?_)
    · refine g_goto (tgt := 2306) (by decide) d_L_law_2303 ?_
      exact g_cut (lv' := [(0, .ref (gX E).1), (1, .ref (gad E 0)), (2, .ref (gad E 62)), (3, .ref (gad E 68)), (4, .ref (gad E 69)), (5, .int (iI (I : Int)))]) ⟨rfl, rfl, rfl, rfl, rfl, rfl, trivial⟩ (hN _ _ _ _ _ _ _ _ _ hC2 (by omega) (by omega))
    · refine g_aload_n (n := 3) (i := 3) rfl rfl d_L_law_2291 ?_
      refine g_iconst_i d_L_law_2292 ?_
      have h0 : ta = 0 := by omega
      refine g_laload (j := 0) (f := g1) (g_mut 68 (by omega) h682) (iI_nI 0).symm (by decide) (by rfl) d_L_law_2293 ?_
      refine g_iload (i := 7) rfl d_L_law_2294 ?_
      refine g_i2l d_L_law_2296 ?_
      refine g_lcmp d_L_law_2297 ?_
      rw [hval h0, ← hr2 h0, lgc]
      refine g_if_eq_i (tgt := 2303) (by decide) d_L_law_2298 (by decide) (fun h2298 => ?_) (fun h => absurd h (by decide))
      refine g_goto (tgt := 2306) (by decide) d_L_law_2303 ?_
      exact g_cut (lv' := [(0, .ref (gX E).1), (1, .ref (gad E 0)), (2, .ref (gad E 62)), (3, .ref (gad E 68)), (4, .ref (gad E 69)), (5, .int (iI (I : Int)))]) ⟨rfl, rfl, rfl, rfl, rfl, rfl, trivial⟩ (hN _ _ _ _ _ _ _ _ _ hC2 (by omega) (by omega))

