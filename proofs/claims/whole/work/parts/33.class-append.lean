/-! ===== append ===== -/
def oct (x s : Int) : Int := (((iI x).toUInt32 >>> ((iI s).toUInt32 &&& Int32.toUInt32 31)).toInt32 &&& iI 255).toInt
theorem oct_eq {x s : Int} : ((iI x).toUInt32 >>> ((iI s).toUInt32 &&& Int32.toUInt32 31)).toInt32 &&& iI 255 = iI (oct x s) := iI_of _
theorem and255 (v : Int32) : 0 ≤ (v &&& iI 255).toInt ∧ (v &&& iI 255).toInt ≤ 255 := by
  have h : (v &&& iI 255).toBitVec.toNat ≤ 255 := by
    rw [Int32.toBitVec_and, BitVec.toNat_and]
    exact Nat.le_trans Nat.and_le_right (by decide)
  have h2 : (v &&& iI 255).toInt = ((v &&& iI 255).toBitVec.toNat : Int) := BitVec.toInt_eq_toNat_of_lt (by omega)
  omega
theorem oct_rng {x s : Int} : 0 ≤ oct x s ∧ oct x s ≤ 255 := and255 _
def okO (o : Int) : Prop := o = 0 ∨ (32 ≤ o ∧ o ≤ 126)
def okOB (o : Int) : Bool := decide (o = 0 ∨ (32 ≤ o ∧ o ≤ 126))
theorem okOB_iff {o : Int} : okOB o = true ↔ okO o := by simp [okOB, okO]
def nzO (o : Int) : Int := if o = 0 then 0 else 1
def cntO (x : Int) : Int := nzO (oct x 24) + nzO (oct x 16) + nzO (oct x 8) + nzO (oct x 0)
def t1A (t : Tx) (x : Int) : Tx := tPut t (oct x 24)
def t2A (t : Tx) (x : Int) : Tx := tPut (t1A t x) (oct x 16)
def t3A (t : Tx) (x : Int) : Tx := tPut (t2A t x) (oct x 8)
def t4A (t : Tx) (x : Int) : Tx := tPut (t3A t x) (oct x 0)
def okA (x : Int) : Bool := okOB (oct x 24) && okOB (oct x 16) && okOB (oct x 8) && okOB (oct x 0)
def eApp (c : CSt) (x : Int) : gO × CSt := if okA x = true then (if tl (cT c) + cntO x ≤ 60 then (oV (tl (t4A (cT c) x)), cSetT c (t4A (cT c) x)) else (oIS, c)) else (oIA, c)
theorem okA_iff {x : Int} : okA x = true ↔ okO (oct x 24) ∧ okO (oct x 16) ∧ okO (oct x 8) ∧ okO (oct x 0) := by
  simp only [okA, Bool.and_eq_true, okOB_iff, and_assoc]
theorem cSetT_self {c : CSt} : cSetT c (cT c) = c := rfl

theorem c_X_append {E : gE} {w : gW} {im : gIm} {Q : gQ} {c : CSt} (hx : XW E w im c) {x : Int} (rx : -2147483648 ≤ x ∧ x < 2147483648) (hQ : ∀ o c2 w' im', (o, c2) = eApp c x → XN E w im c2 w' im' → Q (o) w' im') : GM E 1 y_X_append m_X_append 1 6 [.ref (gad E 0), .int (iI x)] w im Q := by
  have hx9 := hx
  obtain ⟨⟨hn, x0, x1, x2, x3, x4, x5, m61, x6⟩, ⟨r1, r2, r3⟩, o1, o2, o3, o4⟩ := hx9
  have k0 : g_cell E w im (gad E 0) _ := g_mut 0 (by omega) x0
  have k1 : g_cell E w im (gad E 56) _ := g_mut 56 (by omega) x1
  have k2 : g_cell E w im (gad E 57) _ := g_mut 57 (by omega) x2
  have k3 : g_cell E w im (gad E 58) _ := g_mut 58 (by omega) x3
  have k4 : g_cell E w im (gad E 59) _ := g_mut 59 (by omega) x4
  have k5 : g_cell E w im (gad E 60) _ := g_mut 60 (by omega) x5
  have k6 : g_cell E w im (gad E 61) _ := g_mut 61 (by omega) x6
  have kn := r1.cell
  have kk := r2.cell
  have hz := r1
  have hz9 := hz
  obtain ⟨rg, rp, rc, lc, ⟨hb, h0, h1, h2, h3, h4, hlc⟩, ⟨i1, i2, i3, i4, i5, i6⟩, ok⟩ := hz9
  obtain ⟨ok1, ok2, ok3, ok4, ok5, ok6, ok7, ok8, ok9⟩ := ok
  have co : g_cell E w im (gad E 1) (resE E 1 (cN c)) := g_mut 1 (by omega) h0
  have cg : g_cell E w im (gad E (1 + 1)) (rowE 4 12 rg) := g_mut (1 + 1) (by omega) h1
  have cp : g_cell E w im (gad E (1 + 2)) (rowE 5 8 rp) := g_mut (1 + 2) (by omega) h2
  have cc : g_cell E w im (gad E (1 + 3)) (rowE 6 20 rc) := g_mut (1 + 3) (by omega) h3
  have cl : g_cell E w im (gad E (1 + 4)) (intE 372 lc) := g_mut (1 + 4) (by omega) h4
  have tlr : 0 ≤ tl (cT c) ∧ tl (cT c) ≤ 60 := o4.1
  have b4 : ∀ w1 : gW, XN E w im (cSetT c (t4A (cT c) x)) w1 im → okA x = true → tl (cT c) + cntO x ≤ 60 → G E 1 m_X_append 93 [(0, .ref (gad E 0)), (1, .int (iI x)), (3, .int (iI (-8)))] [] w1 im 1 6 Q := by
    intro w hN hk hl
    have hx := hN.2.2
    have hx9 := hx
    obtain ⟨⟨hn, x0, x1, x2, x3, x4, x5, m61, x6⟩, ⟨r1, r2, r3⟩, o1, o2, o3, o4⟩ := hx9
    have k0 : g_cell E w im (gad E 0) _ := g_mut 0 (by omega) x0
    have k1 : g_cell E w im (gad E 56) _ := g_mut 56 (by omega) x1
    have k2 : g_cell E w im (gad E 57) _ := g_mut 57 (by omega) x2
    have k3 : g_cell E w im (gad E 58) _ := g_mut 58 (by omega) x3
    have k4 : g_cell E w im (gad E 59) _ := g_mut 59 (by omega) x4
    have k5 : g_cell E w im (gad E 60) _ := g_mut 60 (by omega) x5
    have k6 : g_cell E w im (gad E 61) _ := g_mut 61 (by omega) x6
    have kn := r1.cell
    have kk := r2.cell
    refine g_iload_n (n := 3) (i := 3) rfl rfl d_X_append_93 ?_
    refine g_if_lt_i (tgt := 117) (by omega) d_X_append_94 (by decide) (fun h94 => ?_) (fun h => by exfalso; omega)
    refine g_aload_n (n := 0) (i := 0) rfl rfl d_X_append_117 ?_
    refine g_getfield 0 3 f_X_29 (by assumption) (by rfl) d_X_append_118 ?_
    refine g_getfield 3 1 f_X_199 (by assumption) (by rfl) d_X_append_121 ?_
    refine g_ireturn_i rfl d_X_append_124 ?_
    exact hQ _ _ _ _ (by unfold eApp; rw [if_pos hk, if_pos hl]; rfl) hN
  have b3 : ∀ w1 : gW, XN E w im (cSetT c (t3A (cT c) x)) w1 im → okA x = true → tl (cT c) + cntO x ≤ 60 → G E 1 m_X_append 93 [(0, .ref (gad E 0)), (1, .int (iI x)), (3, .int (iI 0))] [] w1 im 1 6 Q := by
    intro w hN hk hl
    have hx := hN.2.2
    have hx9 := hx
    obtain ⟨⟨hn, x0, x1, x2, x3, x4, x5, m61, x6⟩, ⟨r1, r2, r3⟩, o1, o2, o3, o4⟩ := hx9
    have k0 : g_cell E w im (gad E 0) _ := g_mut 0 (by omega) x0
    have k1 : g_cell E w im (gad E 56) _ := g_mut 56 (by omega) x1
    have k2 : g_cell E w im (gad E 57) _ := g_mut 57 (by omega) x2
    have k3 : g_cell E w im (gad E 58) _ := g_mut 58 (by omega) x3
    have k4 : g_cell E w im (gad E 59) _ := g_mut 59 (by omega) x4
    have k5 : g_cell E w im (gad E 60) _ := g_mut 60 (by omega) x5
    have k6 : g_cell E w im (gad E 61) _ := g_mut 61 (by omega) x6
    have kn := r1.cell
    have kk := r2.cell
    refine g_iload_n (n := 3) (i := 3) rfl rfl d_X_append_93 ?_
    refine g_if_lt_i (tgt := 117) (by omega) d_X_append_94 (by decide) (fun h => by exfalso; omega) (fun h94 => ?_)
    refine g_aload_n (n := 0) (i := 0) rfl rfl d_X_append_97 ?_
    refine g_getfield 0 3 f_X_29 (by assumption) (by rfl) d_X_append_98 ?_
    refine g_iload_n (n := 1) (i := 1) rfl rfl d_X_append_101 ?_
    refine g_iload_n (n := 3) (i := 3) rfl rfl d_X_append_102 ?_
    refine g_iushr rfl d_X_append_103 ?_
    refine g_sipush_i (by decide) d_X_append_104 ?_
    refine g_iand d_X_append_107 ?_
    rw [oct_eq]
    refine g_callV1 rfl rfl e_T_put l_X_401 iv_T_put 3 (by decide) rfl (by assumption) (by decide) (Nat.zero_le _) (Nat.zero_le _) (Nat.le_of_ble_eq_true rfl) d_X_append_108 (c_T_put (t := t3A (cT c) x) hx.tw oct_rng (fun w hT => ?_))
    refine g_retv ?_
    refine g_iinc_i (i := 3) rfl (by decide) rfl d_X_append_111 ?_
    refine g_goto (tgt := 93) (by decide) d_X_append_114 ?_
    exact g_cut (lv' := [(0, .ref (gad E 0)), (1, .int (iI x)), (3, .int (iI (-8)))]) ⟨rfl, rfl, rfl, trivial⟩ (b4 w (hN.trans (hx.sTN hT)) hk hl)
  have b2 : ∀ w1 : gW, XN E w im (cSetT c (t2A (cT c) x)) w1 im → okA x = true → tl (cT c) + cntO x ≤ 60 → G E 1 m_X_append 93 [(0, .ref (gad E 0)), (1, .int (iI x)), (3, .int (iI 8))] [] w1 im 1 6 Q := by
    intro w hN hk hl
    have hx := hN.2.2
    have hx9 := hx
    obtain ⟨⟨hn, x0, x1, x2, x3, x4, x5, m61, x6⟩, ⟨r1, r2, r3⟩, o1, o2, o3, o4⟩ := hx9
    have k0 : g_cell E w im (gad E 0) _ := g_mut 0 (by omega) x0
    have k1 : g_cell E w im (gad E 56) _ := g_mut 56 (by omega) x1
    have k2 : g_cell E w im (gad E 57) _ := g_mut 57 (by omega) x2
    have k3 : g_cell E w im (gad E 58) _ := g_mut 58 (by omega) x3
    have k4 : g_cell E w im (gad E 59) _ := g_mut 59 (by omega) x4
    have k5 : g_cell E w im (gad E 60) _ := g_mut 60 (by omega) x5
    have k6 : g_cell E w im (gad E 61) _ := g_mut 61 (by omega) x6
    have kn := r1.cell
    have kk := r2.cell
    refine g_iload_n (n := 3) (i := 3) rfl rfl d_X_append_93 ?_
    refine g_if_lt_i (tgt := 117) (by omega) d_X_append_94 (by decide) (fun h => by exfalso; omega) (fun h94 => ?_)
    refine g_aload_n (n := 0) (i := 0) rfl rfl d_X_append_97 ?_
    refine g_getfield 0 3 f_X_29 (by assumption) (by rfl) d_X_append_98 ?_
    refine g_iload_n (n := 1) (i := 1) rfl rfl d_X_append_101 ?_
    refine g_iload_n (n := 3) (i := 3) rfl rfl d_X_append_102 ?_
    refine g_iushr rfl d_X_append_103 ?_
    refine g_sipush_i (by decide) d_X_append_104 ?_
    refine g_iand d_X_append_107 ?_
    rw [oct_eq]
    refine g_callV1 rfl rfl e_T_put l_X_401 iv_T_put 3 (by decide) rfl (by assumption) (by decide) (Nat.zero_le _) (Nat.zero_le _) (Nat.le_of_ble_eq_true rfl) d_X_append_108 (c_T_put (t := t2A (cT c) x) hx.tw oct_rng (fun w hT => ?_))
    refine g_retv ?_
    refine g_iinc_i (i := 3) rfl (by decide) rfl d_X_append_111 ?_
    refine g_goto (tgt := 93) (by decide) d_X_append_114 ?_
    exact g_cut (lv' := [(0, .ref (gad E 0)), (1, .int (iI x)), (3, .int (iI 0))]) ⟨rfl, rfl, rfl, trivial⟩ (b3 w (hN.trans (hx.sTN hT)) hk hl)
  have b1 : ∀ w1 : gW, XN E w im (cSetT c (t1A (cT c) x)) w1 im → okA x = true → tl (cT c) + cntO x ≤ 60 → G E 1 m_X_append 93 [(0, .ref (gad E 0)), (1, .int (iI x)), (3, .int (iI 16))] [] w1 im 1 6 Q := by
    intro w hN hk hl
    have hx := hN.2.2
    have hx9 := hx
    obtain ⟨⟨hn, x0, x1, x2, x3, x4, x5, m61, x6⟩, ⟨r1, r2, r3⟩, o1, o2, o3, o4⟩ := hx9
    have k0 : g_cell E w im (gad E 0) _ := g_mut 0 (by omega) x0
    have k1 : g_cell E w im (gad E 56) _ := g_mut 56 (by omega) x1
    have k2 : g_cell E w im (gad E 57) _ := g_mut 57 (by omega) x2
    have k3 : g_cell E w im (gad E 58) _ := g_mut 58 (by omega) x3
    have k4 : g_cell E w im (gad E 59) _ := g_mut 59 (by omega) x4
    have k5 : g_cell E w im (gad E 60) _ := g_mut 60 (by omega) x5
    have k6 : g_cell E w im (gad E 61) _ := g_mut 61 (by omega) x6
    have kn := r1.cell
    have kk := r2.cell
    refine g_iload_n (n := 3) (i := 3) rfl rfl d_X_append_93 ?_
    refine g_if_lt_i (tgt := 117) (by omega) d_X_append_94 (by decide) (fun h => by exfalso; omega) (fun h94 => ?_)
    refine g_aload_n (n := 0) (i := 0) rfl rfl d_X_append_97 ?_
    refine g_getfield 0 3 f_X_29 (by assumption) (by rfl) d_X_append_98 ?_
    refine g_iload_n (n := 1) (i := 1) rfl rfl d_X_append_101 ?_
    refine g_iload_n (n := 3) (i := 3) rfl rfl d_X_append_102 ?_
    refine g_iushr rfl d_X_append_103 ?_
    refine g_sipush_i (by decide) d_X_append_104 ?_
    refine g_iand d_X_append_107 ?_
    rw [oct_eq]
    refine g_callV1 rfl rfl e_T_put l_X_401 iv_T_put 3 (by decide) rfl (by assumption) (by decide) (Nat.zero_le _) (Nat.zero_le _) (Nat.le_of_ble_eq_true rfl) d_X_append_108 (c_T_put (t := t1A (cT c) x) hx.tw oct_rng (fun w hT => ?_))
    refine g_retv ?_
    refine g_iinc_i (i := 3) rfl (by decide) rfl d_X_append_111 ?_
    refine g_goto (tgt := 93) (by decide) d_X_append_114 ?_
    exact g_cut (lv' := [(0, .ref (gad E 0)), (1, .int (iI x)), (3, .int (iI 8))]) ⟨rfl, rfl, rfl, trivial⟩ (b2 w (hN.trans (hx.sTN hT)) hk hl)
  have b0 : ∀ w1 : gW, XN E w im (cSetT c (cT c)) w1 im → okA x = true → tl (cT c) + cntO x ≤ 60 → G E 1 m_X_append 93 [(0, .ref (gad E 0)), (1, .int (iI x)), (3, .int (iI 24))] [] w1 im 1 6 Q := by
    intro w hN hk hl
    have hx := hN.2.2
    have hx9 := hx
    obtain ⟨⟨hn, x0, x1, x2, x3, x4, x5, m61, x6⟩, ⟨r1, r2, r3⟩, o1, o2, o3, o4⟩ := hx9
    have k0 : g_cell E w im (gad E 0) _ := g_mut 0 (by omega) x0
    have k1 : g_cell E w im (gad E 56) _ := g_mut 56 (by omega) x1
    have k2 : g_cell E w im (gad E 57) _ := g_mut 57 (by omega) x2
    have k3 : g_cell E w im (gad E 58) _ := g_mut 58 (by omega) x3
    have k4 : g_cell E w im (gad E 59) _ := g_mut 59 (by omega) x4
    have k5 : g_cell E w im (gad E 60) _ := g_mut 60 (by omega) x5
    have k6 : g_cell E w im (gad E 61) _ := g_mut 61 (by omega) x6
    have kn := r1.cell
    have kk := r2.cell
    refine g_iload_n (n := 3) (i := 3) rfl rfl d_X_append_93 ?_
    refine g_if_lt_i (tgt := 117) (by omega) d_X_append_94 (by decide) (fun h => by exfalso; omega) (fun h94 => ?_)
    refine g_aload_n (n := 0) (i := 0) rfl rfl d_X_append_97 ?_
    refine g_getfield 0 3 f_X_29 (by assumption) (by rfl) d_X_append_98 ?_
    refine g_iload_n (n := 1) (i := 1) rfl rfl d_X_append_101 ?_
    refine g_iload_n (n := 3) (i := 3) rfl rfl d_X_append_102 ?_
    refine g_iushr rfl d_X_append_103 ?_
    refine g_sipush_i (by decide) d_X_append_104 ?_
    refine g_iand d_X_append_107 ?_
    rw [oct_eq]
    refine g_callV1 rfl rfl e_T_put l_X_401 iv_T_put 3 (by decide) rfl (by assumption) (by decide) (Nat.zero_le _) (Nat.zero_le _) (Nat.le_of_ble_eq_true rfl) d_X_append_108 (c_T_put (t := cT c) hx.tw oct_rng (fun w hT => ?_))
    refine g_retv ?_
    refine g_iinc_i (i := 3) rfl (by decide) rfl d_X_append_111 ?_
    refine g_goto (tgt := 93) (by decide) d_X_append_114 ?_
    exact g_cut (lv' := [(0, .ref (gad E 0)), (1, .int (iI x)), (3, .int (iI 16))]) ⟨rfl, rfl, rfl, trivial⟩ (b1 w (hN.trans (hx.sTN hT)) hk hl)
  have a4 : ∀ s9 : Int, s9 = nzO (oct x 24) + nzO (oct x 16) + nzO (oct x 8) + nzO (oct x 0) → okO (oct x 24) → okO (oct x 16) → okO (oct x 8) → okO (oct x 0) → G E 1 m_X_append 5 [(0, .ref (gad E 0)), (1, .int (iI x)), (2, .int (iI s9)), (3, .int (iI (-8)))] [] w im 1 6 Q := by
    intro s9 hs9 hk24 hk16 hk8 hk0
    have hka : okA x = true := okA_iff.2 ⟨hk24, hk16, hk8, hk0⟩
    have hct : s9 = cntO x := hs9
    have hn0 : ∀ o, 0 ≤ nzO o ∧ nzO o ≤ 1 := fun o => by unfold nzO; split <;> omega
    have n1 := hn0 (oct x 24)
    have n2 := hn0 (oct x 16)
    have n3 := hn0 (oct x 8)
    have n4 := hn0 (oct x 0)
    refine g_iload_n (n := 3) (i := 3) rfl rfl d_X_append_5 ?_
    refine g_if_lt_i (tgt := 65) (by omega) d_X_append_6 (by decide) (fun h6 => ?_) (fun h => by exfalso; omega)
    refine g_aload_n (n := 0) (i := 0) rfl rfl d_X_append_65 ?_
    refine g_getfield 0 3 f_X_29 (by assumption) (by rfl) d_X_append_66 ?_
    refine g_getfield 3 1 f_X_199 (by assumption) (by rfl) d_X_append_69 ?_
    refine g_iload_n (n := 2) (i := 2) rfl rfl d_X_append_72 ?_
    refine g_iadd_i d_X_append_73 ?_
    refine g_bipush_i (by decide) d_X_append_74 ?_
    refine g_icmp_le_i (tgt := 90) (by omega) (by decide) d_X_append_76 (by decide) (fun h76 => ?_) (fun h76 => ?_)
    · refine g_bipush_i (by decide) d_X_append_90 ?_
      refine g_istore_n (n := 3) (i := 3) rfl (by decide) rfl d_X_append_92 ?_
      exact g_cut (lv' := [(0, .ref (gad E 0)), (1, .int (iI x)), (3, .int (iI 24))]) ⟨rfl, rfl, rfl, trivial⟩ (b0 w (XN.refl hx) hka (by omega))
    · refine x_ISEw c_X_81 xs_399 rfl rfl (Nat.le_of_ble_eq_true rfl) (by omega) (by omega) d_X_append_79 d_X_append_82 d_X_append_83 d_X_append_86 d_X_append_89 ?_
      exact hQ _ _ _ _ (by unfold eApp; rw [if_pos hka, if_neg (by omega)]) (XN.refl hx)
  have a3 : ∀ s9 : Int, s9 = nzO (oct x 24) + nzO (oct x 16) + nzO (oct x 8) → okO (oct x 24) → okO (oct x 16) → okO (oct x 8) → G E 1 m_X_append 5 [(0, .ref (gad E 0)), (1, .int (iI x)), (2, .int (iI s9)), (3, .int (iI 0))] [] w im 1 6 Q := by
    intro s9 hs9 hk24 hk16 hk8
    have hor := oct_rng (x := x) (s := 0)
    refine g_iload_n (n := 3) (i := 3) rfl rfl d_X_append_5 ?_
    refine g_if_lt_i (tgt := 65) (by omega) d_X_append_6 (by decide) (fun h => by exfalso; omega) (fun h6 => ?_)
    refine g_iload_n (n := 1) (i := 1) rfl rfl d_X_append_9 ?_
    refine g_iload_n (n := 3) (i := 3) rfl rfl d_X_append_10 ?_
    refine g_iushr rfl d_X_append_11 ?_
    refine g_sipush_i (by decide) d_X_append_12 ?_
    refine g_iand d_X_append_15 ?_
    rw [oct_eq]
    refine g_istore (i := 4) (by decide) rfl d_X_append_16 ?_
    refine g_iload (i := 4) rfl d_X_append_18 ?_
    refine g_if_eq_i (tgt := 46) (by omega) d_X_append_20 (by decide) (fun h20 => ?_) (fun h20 => ?_)
    · refine g_iload_n (n := 2) (i := 2) rfl rfl d_X_append_46 ?_
      refine g_iload (i := 4) rfl d_X_append_47 ?_
      refine g_if_eq_i (tgt := 56) (by omega) d_X_append_49 (by decide) (fun h49 => ?_) (fun h49 => ?_)
      · refine g_iconst_i d_X_append_56 ?_
        refine g_iadd_i d_X_append_57 ?_
        refine g_istore_n (n := 2) (i := 2) rfl (by decide) rfl d_X_append_58 ?_
        refine g_iinc_i (i := 3) rfl (by decide) rfl d_X_append_59 ?_
        refine g_goto (tgt := 5) (by decide) d_X_append_62 ?_
        first
        | (exfalso; omega)
        | (have e : nzO (oct x 0) = 0 := if_pos h20; exact g_cut (lv' := [(0, .ref (gad E 0)), (1, .int (iI x)), (2, .int (iI _)), (3, .int (iI (-8)))]) ⟨rfl, rfl, rfl, rfl, trivial⟩ (a4 _ (by rw [hs9, e]) hk24 hk16 hk8 (Or.inl h20)))
        | (have e : nzO (oct x 0) = 1 := if_neg h20; exact g_cut (lv' := [(0, .ref (gad E 0)), (1, .int (iI x)), (2, .int (iI _)), (3, .int (iI (-8)))]) ⟨rfl, rfl, rfl, rfl, trivial⟩ (a4 _ (by rw [hs9, e]) hk24 hk16 hk8 (Or.inr hB)))
      · refine g_iconst_i d_X_append_52 ?_
        refine g_goto (tgt := 57) (by decide) d_X_append_53 ?_
        refine g_iadd_i d_X_append_57 ?_
        refine g_istore_n (n := 2) (i := 2) rfl (by decide) rfl d_X_append_58 ?_
        refine g_iinc_i (i := 3) rfl (by decide) rfl d_X_append_59 ?_
        refine g_goto (tgt := 5) (by decide) d_X_append_62 ?_
        first
        | (exfalso; omega)
        | (have e : nzO (oct x 0) = 0 := if_pos h20; exact g_cut (lv' := [(0, .ref (gad E 0)), (1, .int (iI x)), (2, .int (iI _)), (3, .int (iI (-8)))]) ⟨rfl, rfl, rfl, rfl, trivial⟩ (a4 _ (by rw [hs9, e]) hk24 hk16 hk8 (Or.inl h20)))
        | (have e : nzO (oct x 0) = 1 := if_neg h20; exact g_cut (lv' := [(0, .ref (gad E 0)), (1, .int (iI x)), (2, .int (iI _)), (3, .int (iI (-8)))]) ⟨rfl, rfl, rfl, rfl, trivial⟩ (a4 _ (by rw [hs9, e]) hk24 hk16 hk8 (Or.inr hB)))
    · refine g_iload (i := 4) rfl d_X_append_23 ?_
      refine g_bipush_i (by decide) d_X_append_25 ?_
      refine g_bipush_i (by decide) d_X_append_27 ?_
      refine g_callS3 rfl rfl e_X_isBetween l_X_67 st_X_isBetween (by decide) (Nat.zero_le _) (Nat.zero_le _) (Nat.le_of_ble_eq_true rfl) d_X_append_29 (c_X_isBetween (by omega) (by omega) (by omega) (fun hB => ?_) (fun hB => ?_))
      · refine g_ret ?_
        refine g_if_ne_i (tgt := 46) (by decide) d_X_append_32 (by decide) (fun h32 => ?_) (fun h => absurd h (by decide))
        refine g_iload_n (n := 2) (i := 2) rfl rfl d_X_append_46 ?_
        refine g_iload (i := 4) rfl d_X_append_47 ?_
        refine g_if_eq_i (tgt := 56) (by omega) d_X_append_49 (by decide) (fun h49 => ?_) (fun h49 => ?_)
        · refine g_iconst_i d_X_append_56 ?_
          refine g_iadd_i d_X_append_57 ?_
          refine g_istore_n (n := 2) (i := 2) rfl (by decide) rfl d_X_append_58 ?_
          refine g_iinc_i (i := 3) rfl (by decide) rfl d_X_append_59 ?_
          refine g_goto (tgt := 5) (by decide) d_X_append_62 ?_
          first
          | (exfalso; omega)
          | (have e : nzO (oct x 0) = 0 := if_pos h20; exact g_cut (lv' := [(0, .ref (gad E 0)), (1, .int (iI x)), (2, .int (iI _)), (3, .int (iI (-8)))]) ⟨rfl, rfl, rfl, rfl, trivial⟩ (a4 _ (by rw [hs9, e]) hk24 hk16 hk8 (Or.inl h20)))
          | (have e : nzO (oct x 0) = 1 := if_neg h20; exact g_cut (lv' := [(0, .ref (gad E 0)), (1, .int (iI x)), (2, .int (iI _)), (3, .int (iI (-8)))]) ⟨rfl, rfl, rfl, rfl, trivial⟩ (a4 _ (by rw [hs9, e]) hk24 hk16 hk8 (Or.inr hB)))
        · refine g_iconst_i d_X_append_52 ?_
          refine g_goto (tgt := 57) (by decide) d_X_append_53 ?_
          refine g_iadd_i d_X_append_57 ?_
          refine g_istore_n (n := 2) (i := 2) rfl (by decide) rfl d_X_append_58 ?_
          refine g_iinc_i (i := 3) rfl (by decide) rfl d_X_append_59 ?_
          refine g_goto (tgt := 5) (by decide) d_X_append_62 ?_
          first
          | (exfalso; omega)
          | (have e : nzO (oct x 0) = 0 := if_pos h20; exact g_cut (lv' := [(0, .ref (gad E 0)), (1, .int (iI x)), (2, .int (iI _)), (3, .int (iI (-8)))]) ⟨rfl, rfl, rfl, rfl, trivial⟩ (a4 _ (by rw [hs9, e]) hk24 hk16 hk8 (Or.inl h20)))
          | (have e : nzO (oct x 0) = 1 := if_neg h20; exact g_cut (lv' := [(0, .ref (gad E 0)), (1, .int (iI x)), (2, .int (iI _)), (3, .int (iI (-8)))]) ⟨rfl, rfl, rfl, rfl, trivial⟩ (a4 _ (by rw [hs9, e]) hk24 hk16 hk8 (Or.inr hB)))
      · refine g_ret ?_
        refine g_if_ne_i (tgt := 46) (by decide) d_X_append_32 (by decide) (fun h => absurd h (by decide)) (fun h32 => ?_)
        refine x_IAEw c_X_71 xs_397 rfl rfl (Nat.le_of_ble_eq_true rfl) (by omega) (by omega) d_X_append_35 d_X_append_38 d_X_append_39 d_X_append_42 d_X_append_45 ?_
        exact hQ _ _ _ _ (by unfold eApp; rw [if_neg (fun h => ((okA_iff.1 h).2.2.2).elim h20 hB)]) (XN.refl hx)
  have a2 : ∀ s9 : Int, s9 = nzO (oct x 24) + nzO (oct x 16) → okO (oct x 24) → okO (oct x 16) → G E 1 m_X_append 5 [(0, .ref (gad E 0)), (1, .int (iI x)), (2, .int (iI s9)), (3, .int (iI 8))] [] w im 1 6 Q := by
    intro s9 hs9 hk24 hk16
    have hor := oct_rng (x := x) (s := 8)
    refine g_iload_n (n := 3) (i := 3) rfl rfl d_X_append_5 ?_
    refine g_if_lt_i (tgt := 65) (by omega) d_X_append_6 (by decide) (fun h => by exfalso; omega) (fun h6 => ?_)
    refine g_iload_n (n := 1) (i := 1) rfl rfl d_X_append_9 ?_
    refine g_iload_n (n := 3) (i := 3) rfl rfl d_X_append_10 ?_
    refine g_iushr rfl d_X_append_11 ?_
    refine g_sipush_i (by decide) d_X_append_12 ?_
    refine g_iand d_X_append_15 ?_
    rw [oct_eq]
    refine g_istore (i := 4) (by decide) rfl d_X_append_16 ?_
    refine g_iload (i := 4) rfl d_X_append_18 ?_
    refine g_if_eq_i (tgt := 46) (by omega) d_X_append_20 (by decide) (fun h20 => ?_) (fun h20 => ?_)
    · refine g_iload_n (n := 2) (i := 2) rfl rfl d_X_append_46 ?_
      refine g_iload (i := 4) rfl d_X_append_47 ?_
      refine g_if_eq_i (tgt := 56) (by omega) d_X_append_49 (by decide) (fun h49 => ?_) (fun h49 => ?_)
      · refine g_iconst_i d_X_append_56 ?_
        refine g_iadd_i d_X_append_57 ?_
        refine g_istore_n (n := 2) (i := 2) rfl (by decide) rfl d_X_append_58 ?_
        refine g_iinc_i (i := 3) rfl (by decide) rfl d_X_append_59 ?_
        refine g_goto (tgt := 5) (by decide) d_X_append_62 ?_
        first
        | (exfalso; omega)
        | (have e : nzO (oct x 8) = 0 := if_pos h20; exact g_cut (lv' := [(0, .ref (gad E 0)), (1, .int (iI x)), (2, .int (iI _)), (3, .int (iI 0))]) ⟨rfl, rfl, rfl, rfl, trivial⟩ (a3 _ (by rw [hs9, e]) hk24 hk16 (Or.inl h20)))
        | (have e : nzO (oct x 8) = 1 := if_neg h20; exact g_cut (lv' := [(0, .ref (gad E 0)), (1, .int (iI x)), (2, .int (iI _)), (3, .int (iI 0))]) ⟨rfl, rfl, rfl, rfl, trivial⟩ (a3 _ (by rw [hs9, e]) hk24 hk16 (Or.inr hB)))
      · refine g_iconst_i d_X_append_52 ?_
        refine g_goto (tgt := 57) (by decide) d_X_append_53 ?_
        refine g_iadd_i d_X_append_57 ?_
        refine g_istore_n (n := 2) (i := 2) rfl (by decide) rfl d_X_append_58 ?_
        refine g_iinc_i (i := 3) rfl (by decide) rfl d_X_append_59 ?_
        refine g_goto (tgt := 5) (by decide) d_X_append_62 ?_
        first
        | (exfalso; omega)
        | (have e : nzO (oct x 8) = 0 := if_pos h20; exact g_cut (lv' := [(0, .ref (gad E 0)), (1, .int (iI x)), (2, .int (iI _)), (3, .int (iI 0))]) ⟨rfl, rfl, rfl, rfl, trivial⟩ (a3 _ (by rw [hs9, e]) hk24 hk16 (Or.inl h20)))
        | (have e : nzO (oct x 8) = 1 := if_neg h20; exact g_cut (lv' := [(0, .ref (gad E 0)), (1, .int (iI x)), (2, .int (iI _)), (3, .int (iI 0))]) ⟨rfl, rfl, rfl, rfl, trivial⟩ (a3 _ (by rw [hs9, e]) hk24 hk16 (Or.inr hB)))
    · refine g_iload (i := 4) rfl d_X_append_23 ?_
      refine g_bipush_i (by decide) d_X_append_25 ?_
      refine g_bipush_i (by decide) d_X_append_27 ?_
      refine g_callS3 rfl rfl e_X_isBetween l_X_67 st_X_isBetween (by decide) (Nat.zero_le _) (Nat.zero_le _) (Nat.le_of_ble_eq_true rfl) d_X_append_29 (c_X_isBetween (by omega) (by omega) (by omega) (fun hB => ?_) (fun hB => ?_))
      · refine g_ret ?_
        refine g_if_ne_i (tgt := 46) (by decide) d_X_append_32 (by decide) (fun h32 => ?_) (fun h => absurd h (by decide))
        refine g_iload_n (n := 2) (i := 2) rfl rfl d_X_append_46 ?_
        refine g_iload (i := 4) rfl d_X_append_47 ?_
        refine g_if_eq_i (tgt := 56) (by omega) d_X_append_49 (by decide) (fun h49 => ?_) (fun h49 => ?_)
        · refine g_iconst_i d_X_append_56 ?_
          refine g_iadd_i d_X_append_57 ?_
          refine g_istore_n (n := 2) (i := 2) rfl (by decide) rfl d_X_append_58 ?_
          refine g_iinc_i (i := 3) rfl (by decide) rfl d_X_append_59 ?_
          refine g_goto (tgt := 5) (by decide) d_X_append_62 ?_
          first
          | (exfalso; omega)
          | (have e : nzO (oct x 8) = 0 := if_pos h20; exact g_cut (lv' := [(0, .ref (gad E 0)), (1, .int (iI x)), (2, .int (iI _)), (3, .int (iI 0))]) ⟨rfl, rfl, rfl, rfl, trivial⟩ (a3 _ (by rw [hs9, e]) hk24 hk16 (Or.inl h20)))
          | (have e : nzO (oct x 8) = 1 := if_neg h20; exact g_cut (lv' := [(0, .ref (gad E 0)), (1, .int (iI x)), (2, .int (iI _)), (3, .int (iI 0))]) ⟨rfl, rfl, rfl, rfl, trivial⟩ (a3 _ (by rw [hs9, e]) hk24 hk16 (Or.inr hB)))
        · refine g_iconst_i d_X_append_52 ?_
          refine g_goto (tgt := 57) (by decide) d_X_append_53 ?_
          refine g_iadd_i d_X_append_57 ?_
          refine g_istore_n (n := 2) (i := 2) rfl (by decide) rfl d_X_append_58 ?_
          refine g_iinc_i (i := 3) rfl (by decide) rfl d_X_append_59 ?_
          refine g_goto (tgt := 5) (by decide) d_X_append_62 ?_
          first
          | (exfalso; omega)
          | (have e : nzO (oct x 8) = 0 := if_pos h20; exact g_cut (lv' := [(0, .ref (gad E 0)), (1, .int (iI x)), (2, .int (iI _)), (3, .int (iI 0))]) ⟨rfl, rfl, rfl, rfl, trivial⟩ (a3 _ (by rw [hs9, e]) hk24 hk16 (Or.inl h20)))
          | (have e : nzO (oct x 8) = 1 := if_neg h20; exact g_cut (lv' := [(0, .ref (gad E 0)), (1, .int (iI x)), (2, .int (iI _)), (3, .int (iI 0))]) ⟨rfl, rfl, rfl, rfl, trivial⟩ (a3 _ (by rw [hs9, e]) hk24 hk16 (Or.inr hB)))
      · refine g_ret ?_
        refine g_if_ne_i (tgt := 46) (by decide) d_X_append_32 (by decide) (fun h => absurd h (by decide)) (fun h32 => ?_)
        refine x_IAEw c_X_71 xs_397 rfl rfl (Nat.le_of_ble_eq_true rfl) (by omega) (by omega) d_X_append_35 d_X_append_38 d_X_append_39 d_X_append_42 d_X_append_45 ?_
        exact hQ _ _ _ _ (by unfold eApp; rw [if_neg (fun h => ((okA_iff.1 h).2.2.1).elim h20 hB)]) (XN.refl hx)
  have a1 : ∀ s9 : Int, s9 = nzO (oct x 24) → okO (oct x 24) → G E 1 m_X_append 5 [(0, .ref (gad E 0)), (1, .int (iI x)), (2, .int (iI s9)), (3, .int (iI 16))] [] w im 1 6 Q := by
    intro s9 hs9 hk24
    have hor := oct_rng (x := x) (s := 16)
    refine g_iload_n (n := 3) (i := 3) rfl rfl d_X_append_5 ?_
    refine g_if_lt_i (tgt := 65) (by omega) d_X_append_6 (by decide) (fun h => by exfalso; omega) (fun h6 => ?_)
    refine g_iload_n (n := 1) (i := 1) rfl rfl d_X_append_9 ?_
    refine g_iload_n (n := 3) (i := 3) rfl rfl d_X_append_10 ?_
    refine g_iushr rfl d_X_append_11 ?_
    refine g_sipush_i (by decide) d_X_append_12 ?_
    refine g_iand d_X_append_15 ?_
    rw [oct_eq]
    refine g_istore (i := 4) (by decide) rfl d_X_append_16 ?_
    refine g_iload (i := 4) rfl d_X_append_18 ?_
    refine g_if_eq_i (tgt := 46) (by omega) d_X_append_20 (by decide) (fun h20 => ?_) (fun h20 => ?_)
    · refine g_iload_n (n := 2) (i := 2) rfl rfl d_X_append_46 ?_
      refine g_iload (i := 4) rfl d_X_append_47 ?_
      refine g_if_eq_i (tgt := 56) (by omega) d_X_append_49 (by decide) (fun h49 => ?_) (fun h49 => ?_)
      · refine g_iconst_i d_X_append_56 ?_
        refine g_iadd_i d_X_append_57 ?_
        refine g_istore_n (n := 2) (i := 2) rfl (by decide) rfl d_X_append_58 ?_
        refine g_iinc_i (i := 3) rfl (by decide) rfl d_X_append_59 ?_
        refine g_goto (tgt := 5) (by decide) d_X_append_62 ?_
        first
        | (exfalso; omega)
        | (have e : nzO (oct x 16) = 0 := if_pos h20; exact g_cut (lv' := [(0, .ref (gad E 0)), (1, .int (iI x)), (2, .int (iI _)), (3, .int (iI 8))]) ⟨rfl, rfl, rfl, rfl, trivial⟩ (a2 _ (by rw [hs9, e]) hk24 (Or.inl h20)))
        | (have e : nzO (oct x 16) = 1 := if_neg h20; exact g_cut (lv' := [(0, .ref (gad E 0)), (1, .int (iI x)), (2, .int (iI _)), (3, .int (iI 8))]) ⟨rfl, rfl, rfl, rfl, trivial⟩ (a2 _ (by rw [hs9, e]) hk24 (Or.inr hB)))
      · refine g_iconst_i d_X_append_52 ?_
        refine g_goto (tgt := 57) (by decide) d_X_append_53 ?_
        refine g_iadd_i d_X_append_57 ?_
        refine g_istore_n (n := 2) (i := 2) rfl (by decide) rfl d_X_append_58 ?_
        refine g_iinc_i (i := 3) rfl (by decide) rfl d_X_append_59 ?_
        refine g_goto (tgt := 5) (by decide) d_X_append_62 ?_
        first
        | (exfalso; omega)
        | (have e : nzO (oct x 16) = 0 := if_pos h20; exact g_cut (lv' := [(0, .ref (gad E 0)), (1, .int (iI x)), (2, .int (iI _)), (3, .int (iI 8))]) ⟨rfl, rfl, rfl, rfl, trivial⟩ (a2 _ (by rw [hs9, e]) hk24 (Or.inl h20)))
        | (have e : nzO (oct x 16) = 1 := if_neg h20; exact g_cut (lv' := [(0, .ref (gad E 0)), (1, .int (iI x)), (2, .int (iI _)), (3, .int (iI 8))]) ⟨rfl, rfl, rfl, rfl, trivial⟩ (a2 _ (by rw [hs9, e]) hk24 (Or.inr hB)))
    · refine g_iload (i := 4) rfl d_X_append_23 ?_
      refine g_bipush_i (by decide) d_X_append_25 ?_
      refine g_bipush_i (by decide) d_X_append_27 ?_
      refine g_callS3 rfl rfl e_X_isBetween l_X_67 st_X_isBetween (by decide) (Nat.zero_le _) (Nat.zero_le _) (Nat.le_of_ble_eq_true rfl) d_X_append_29 (c_X_isBetween (by omega) (by omega) (by omega) (fun hB => ?_) (fun hB => ?_))
      · refine g_ret ?_
        refine g_if_ne_i (tgt := 46) (by decide) d_X_append_32 (by decide) (fun h32 => ?_) (fun h => absurd h (by decide))
        refine g_iload_n (n := 2) (i := 2) rfl rfl d_X_append_46 ?_
        refine g_iload (i := 4) rfl d_X_append_47 ?_
        refine g_if_eq_i (tgt := 56) (by omega) d_X_append_49 (by decide) (fun h49 => ?_) (fun h49 => ?_)
        · refine g_iconst_i d_X_append_56 ?_
          refine g_iadd_i d_X_append_57 ?_
          refine g_istore_n (n := 2) (i := 2) rfl (by decide) rfl d_X_append_58 ?_
          refine g_iinc_i (i := 3) rfl (by decide) rfl d_X_append_59 ?_
          refine g_goto (tgt := 5) (by decide) d_X_append_62 ?_
          first
          | (exfalso; omega)
          | (have e : nzO (oct x 16) = 0 := if_pos h20; exact g_cut (lv' := [(0, .ref (gad E 0)), (1, .int (iI x)), (2, .int (iI _)), (3, .int (iI 8))]) ⟨rfl, rfl, rfl, rfl, trivial⟩ (a2 _ (by rw [hs9, e]) hk24 (Or.inl h20)))
          | (have e : nzO (oct x 16) = 1 := if_neg h20; exact g_cut (lv' := [(0, .ref (gad E 0)), (1, .int (iI x)), (2, .int (iI _)), (3, .int (iI 8))]) ⟨rfl, rfl, rfl, rfl, trivial⟩ (a2 _ (by rw [hs9, e]) hk24 (Or.inr hB)))
        · refine g_iconst_i d_X_append_52 ?_
          refine g_goto (tgt := 57) (by decide) d_X_append_53 ?_
          refine g_iadd_i d_X_append_57 ?_
          refine g_istore_n (n := 2) (i := 2) rfl (by decide) rfl d_X_append_58 ?_
          refine g_iinc_i (i := 3) rfl (by decide) rfl d_X_append_59 ?_
          refine g_goto (tgt := 5) (by decide) d_X_append_62 ?_
          first
          | (exfalso; omega)
          | (have e : nzO (oct x 16) = 0 := if_pos h20; exact g_cut (lv' := [(0, .ref (gad E 0)), (1, .int (iI x)), (2, .int (iI _)), (3, .int (iI 8))]) ⟨rfl, rfl, rfl, rfl, trivial⟩ (a2 _ (by rw [hs9, e]) hk24 (Or.inl h20)))
          | (have e : nzO (oct x 16) = 1 := if_neg h20; exact g_cut (lv' := [(0, .ref (gad E 0)), (1, .int (iI x)), (2, .int (iI _)), (3, .int (iI 8))]) ⟨rfl, rfl, rfl, rfl, trivial⟩ (a2 _ (by rw [hs9, e]) hk24 (Or.inr hB)))
      · refine g_ret ?_
        refine g_if_ne_i (tgt := 46) (by decide) d_X_append_32 (by decide) (fun h => absurd h (by decide)) (fun h32 => ?_)
        refine x_IAEw c_X_71 xs_397 rfl rfl (Nat.le_of_ble_eq_true rfl) (by omega) (by omega) d_X_append_35 d_X_append_38 d_X_append_39 d_X_append_42 d_X_append_45 ?_
        exact hQ _ _ _ _ (by unfold eApp; rw [if_neg (fun h => ((okA_iff.1 h).2.1).elim h20 hB)]) (XN.refl hx)
  have a0 : ∀ s9 : Int, s9 = 0 → G E 1 m_X_append 5 [(0, .ref (gad E 0)), (1, .int (iI x)), (2, .int (iI s9)), (3, .int (iI 24))] [] w im 1 6 Q := by
    intro s9 hs9
    have hor := oct_rng (x := x) (s := 24)
    refine g_iload_n (n := 3) (i := 3) rfl rfl d_X_append_5 ?_
    refine g_if_lt_i (tgt := 65) (by omega) d_X_append_6 (by decide) (fun h => by exfalso; omega) (fun h6 => ?_)
    refine g_iload_n (n := 1) (i := 1) rfl rfl d_X_append_9 ?_
    refine g_iload_n (n := 3) (i := 3) rfl rfl d_X_append_10 ?_
    refine g_iushr rfl d_X_append_11 ?_
    refine g_sipush_i (by decide) d_X_append_12 ?_
    refine g_iand d_X_append_15 ?_
    rw [oct_eq]
    refine g_istore (i := 4) (by decide) rfl d_X_append_16 ?_
    refine g_iload (i := 4) rfl d_X_append_18 ?_
    refine g_if_eq_i (tgt := 46) (by omega) d_X_append_20 (by decide) (fun h20 => ?_) (fun h20 => ?_)
    · refine g_iload_n (n := 2) (i := 2) rfl rfl d_X_append_46 ?_
      refine g_iload (i := 4) rfl d_X_append_47 ?_
      refine g_if_eq_i (tgt := 56) (by omega) d_X_append_49 (by decide) (fun h49 => ?_) (fun h49 => ?_)
      · refine g_iconst_i d_X_append_56 ?_
        refine g_iadd_i d_X_append_57 ?_
        refine g_istore_n (n := 2) (i := 2) rfl (by decide) rfl d_X_append_58 ?_
        refine g_iinc_i (i := 3) rfl (by decide) rfl d_X_append_59 ?_
        refine g_goto (tgt := 5) (by decide) d_X_append_62 ?_
        first
        | (exfalso; omega)
        | (have e : nzO (oct x 24) = 0 := if_pos h20; exact g_cut (lv' := [(0, .ref (gad E 0)), (1, .int (iI x)), (2, .int (iI _)), (3, .int (iI 16))]) ⟨rfl, rfl, rfl, rfl, trivial⟩ (a1 _ (by omega) (Or.inl h20)))
        | (have e : nzO (oct x 24) = 1 := if_neg h20; exact g_cut (lv' := [(0, .ref (gad E 0)), (1, .int (iI x)), (2, .int (iI _)), (3, .int (iI 16))]) ⟨rfl, rfl, rfl, rfl, trivial⟩ (a1 _ (by omega) (Or.inr hB)))
      · refine g_iconst_i d_X_append_52 ?_
        refine g_goto (tgt := 57) (by decide) d_X_append_53 ?_
        refine g_iadd_i d_X_append_57 ?_
        refine g_istore_n (n := 2) (i := 2) rfl (by decide) rfl d_X_append_58 ?_
        refine g_iinc_i (i := 3) rfl (by decide) rfl d_X_append_59 ?_
        refine g_goto (tgt := 5) (by decide) d_X_append_62 ?_
        first
        | (exfalso; omega)
        | (have e : nzO (oct x 24) = 0 := if_pos h20; exact g_cut (lv' := [(0, .ref (gad E 0)), (1, .int (iI x)), (2, .int (iI _)), (3, .int (iI 16))]) ⟨rfl, rfl, rfl, rfl, trivial⟩ (a1 _ (by omega) (Or.inl h20)))
        | (have e : nzO (oct x 24) = 1 := if_neg h20; exact g_cut (lv' := [(0, .ref (gad E 0)), (1, .int (iI x)), (2, .int (iI _)), (3, .int (iI 16))]) ⟨rfl, rfl, rfl, rfl, trivial⟩ (a1 _ (by omega) (Or.inr hB)))
    · refine g_iload (i := 4) rfl d_X_append_23 ?_
      refine g_bipush_i (by decide) d_X_append_25 ?_
      refine g_bipush_i (by decide) d_X_append_27 ?_
      refine g_callS3 rfl rfl e_X_isBetween l_X_67 st_X_isBetween (by decide) (Nat.zero_le _) (Nat.zero_le _) (Nat.le_of_ble_eq_true rfl) d_X_append_29 (c_X_isBetween (by omega) (by omega) (by omega) (fun hB => ?_) (fun hB => ?_))
      · refine g_ret ?_
        refine g_if_ne_i (tgt := 46) (by decide) d_X_append_32 (by decide) (fun h32 => ?_) (fun h => absurd h (by decide))
        refine g_iload_n (n := 2) (i := 2) rfl rfl d_X_append_46 ?_
        refine g_iload (i := 4) rfl d_X_append_47 ?_
        refine g_if_eq_i (tgt := 56) (by omega) d_X_append_49 (by decide) (fun h49 => ?_) (fun h49 => ?_)
        · refine g_iconst_i d_X_append_56 ?_
          refine g_iadd_i d_X_append_57 ?_
          refine g_istore_n (n := 2) (i := 2) rfl (by decide) rfl d_X_append_58 ?_
          refine g_iinc_i (i := 3) rfl (by decide) rfl d_X_append_59 ?_
          refine g_goto (tgt := 5) (by decide) d_X_append_62 ?_
          first
          | (exfalso; omega)
          | (have e : nzO (oct x 24) = 0 := if_pos h20; exact g_cut (lv' := [(0, .ref (gad E 0)), (1, .int (iI x)), (2, .int (iI _)), (3, .int (iI 16))]) ⟨rfl, rfl, rfl, rfl, trivial⟩ (a1 _ (by omega) (Or.inl h20)))
          | (have e : nzO (oct x 24) = 1 := if_neg h20; exact g_cut (lv' := [(0, .ref (gad E 0)), (1, .int (iI x)), (2, .int (iI _)), (3, .int (iI 16))]) ⟨rfl, rfl, rfl, rfl, trivial⟩ (a1 _ (by omega) (Or.inr hB)))
        · refine g_iconst_i d_X_append_52 ?_
          refine g_goto (tgt := 57) (by decide) d_X_append_53 ?_
          refine g_iadd_i d_X_append_57 ?_
          refine g_istore_n (n := 2) (i := 2) rfl (by decide) rfl d_X_append_58 ?_
          refine g_iinc_i (i := 3) rfl (by decide) rfl d_X_append_59 ?_
          refine g_goto (tgt := 5) (by decide) d_X_append_62 ?_
          first
          | (exfalso; omega)
          | (have e : nzO (oct x 24) = 0 := if_pos h20; exact g_cut (lv' := [(0, .ref (gad E 0)), (1, .int (iI x)), (2, .int (iI _)), (3, .int (iI 16))]) ⟨rfl, rfl, rfl, rfl, trivial⟩ (a1 _ (by omega) (Or.inl h20)))
          | (have e : nzO (oct x 24) = 1 := if_neg h20; exact g_cut (lv' := [(0, .ref (gad E 0)), (1, .int (iI x)), (2, .int (iI _)), (3, .int (iI 16))]) ⟨rfl, rfl, rfl, rfl, trivial⟩ (a1 _ (by omega) (Or.inr hB)))
      · refine g_ret ?_
        refine g_if_ne_i (tgt := 46) (by decide) d_X_append_32 (by decide) (fun h => absurd h (by decide)) (fun h32 => ?_)
        refine x_IAEw c_X_71 xs_397 rfl rfl (Nat.le_of_ble_eq_true rfl) (by omega) (by omega) d_X_append_35 d_X_append_38 d_X_append_39 d_X_append_42 d_X_append_45 ?_
        exact hQ _ _ _ _ (by unfold eApp; rw [if_neg (fun h => ((okA_iff.1 h).1).elim h20 hB)]) (XN.refl hx)
  refine g_enter (by decide) rfl rfl (fun h => by first | rfl | cases h) (Nat.le_of_ble_eq_true rfl) rfl ?_
  refine g_iconst_i d_X_append_0 ?_
  refine g_istore_n (n := 2) (i := 2) rfl (by decide) rfl d_X_append_1 ?_
  refine g_bipush_i (by decide) d_X_append_2 ?_
  refine g_istore_n (n := 3) (i := 3) rfl (by decide) rfl d_X_append_4 ?_
  refine g_cut ?_ (a0 0 rfl)
  exact ⟨rfl, rfl, rfl, rfl, trivial⟩

