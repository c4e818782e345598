/-! ===== the face of the class: what changes ===== -/
theorem RN.im {E : gE} {w : gW} {im im1 : gIm} {b : Nat} {R : Rz} {w' : gW} {im' : gIm} (hm : ∀ a x, im a = some x → im1 a = some x) (h : RN E w im1 b R w' im') : RN E w im b R w' im' := ⟨h.1, fun a x hx => h.2.1 a x (hm a x hx), h.2.2⟩
abbrev zExch (R : Rz) (x : Int) : Rz := zSetC (zAddC R ((zC R x).1, 0, -1, 0, (zC R x).2.2.2.2)) x ((zC R x).1, 2, zc R, (zC R x).2.2.2.1, [])
abbrev zPay (R : Rz) (x : Int) : Rz := zSetC R x ((zC R x).1, 3, (zC R x).2.2.1, refundZ R (zP R (zC R x).1) (zC R x).2.1 (zC R x).2.2.2.2, (zC R x).2.2.2.2)
abbrev zBlk (R : Rz) (x on : Int) : Rz := zSetC R x ((zC R x).1, on, (zC R x).2.2)
abbrev zRide (R : Rz) (x g : Int) : Rz := zSetC R x ((zC R x).1, (zC R x).2.1, (zC R x).2.2.1, (zC R x).2.2.2.1, (g, (zG R g).1, (zG R g).2, zk R) :: (zC R x).2.2.2.2)
abbrev settled (R : Rz) (x : Int) : Prop := (zC R x).2.1 = 2 ∨ (zC R x).2.1 = 3
abbrev cDo (c : CSt) (R : Rz) : CSt := cSetN (cRec c) R
def eClear (c : CSt) : gO × CSt := (oV (zc (cN c)), cSetF (cSetH (cSetN c zEmpty) (cx c) 0 (cS c)) ((cF c).1, 0, (cF c).2.2))
def eAddG (c : CSt) (p x : Int) : gO × CSt := if (0 ≤ p ∧ p ≤ 3) ∧ (0 ≤ x ∧ x ≤ 99) then (if zg (cN c) < 12 then (oV (zg (cN c)), cDo c (zAddG (cN c) (p, x))) else (oIS, c)) else (oIA, c)
def eAddP (c : CSt) (q : Pt9) : gO × CSt := if ((0 ≤ q.2.2.1 ∧ q.2.2.1 ≤ 23) ∧ (q.2.2.1 ≤ q.2.2.2.1 ∧ q.2.2.2.1 ≤ 23)) ∧ ((0 ≤ q.1 ∧ q.1 ≤ 2) ∧ (1 ≤ q.2.1 ∧ q.2.1 ≤ 9) ∧ (1 ≤ q.2.2.2.2.1 ∧ q.2.2.2.2.1 ≤ 15) ∧ (1 ≤ q.2.2.2.2.2 ∧ q.2.2.2.2.2 ≤ 9999)) then (if zp (cN c) < 8 then (oV (zp (cN c)), cDo c (zAddP (cN c) q)) else (oIS, c)) else (oIA, c)
def eAdv (c : CSt) (m : Int) : gO × CSt := if 0 ≤ m ∧ m ≤ 2880 then (if zk (cN c) + m ≤ 43200 then (oV (zk (cN c) + m), cDo c (zTime (cN c) (zk (cN c) + m) (goL (cN c) m))) else (oIS, c)) else (oIA, c)
def eClo (c : CSt) (x on : Int) : gO × CSt := if isG (cN c) x then (oV (if tb (zs (cN c)) x = true then 1 else 0), cDo c (zShut (cN c) (shutZ (zs (cN c)) x on))) else (oIB, c)
def eSell (c : CSt) (x : Int) : gO × CSt := if isP (cN c) x then (if zc (cN c) + 1 ≤ 20 then (oV (zc (cN c)), cDo c (zAddN (cN c) x 1)) else (oIS, c)) else (oIB, c)
def ePass (c : CSt) (x g : Int) : gO × CSt := if isC (cN c) x ∧ isG (cN c) g then (if reasonOf (cN c) x g = 0 then (oV ((zC (cN c) x).2.2.2.2.length + 1), cDo c (zRide (cN c) x g)) else (oUO, cSetF c ((cF c).1, reasonOf (cN c) x g, (cF c).2.2))) else (oIB, c)
def eBlk (c : CSt) (x on : Int) : gO × CSt := if isC (cN c) x then (if settled (cN c) x then (oIS, c) else (oV (zC (cN c) x).2.1, cDo c (zBlk (cN c) x on))) else (oIB, c)
def eRep (c : CSt) (x : Int) : gO × CSt := if isC (cN c) x then (if settled (cN c) x ∨ ¬ (zc (cN c) + 1 ≤ 20) then (oIS, c) else (oV (zc (cN c)), cDo c (zExch (cN c) x))) else (oIB, c)
def eRef (c : CSt) (x : Int) : gO × CSt := if isC (cN c) x then (if settled (cN c) x then (oIS, c) else (oV (refOf (cN c) x), cDo c (zPay (cN c) x))) else (oIB, c)
def eUndo (c : CSt) : gO × CSt := if ch c ≤ 0 then (oIS, c) else (oV (cCd c), cSetN (cSetH c (cPx c) (cCd c) (cS c)) (cS c (cPx c)))
def eSnap (c : CSt) : gO × CSt := (oV (zc (cN c)), cSetF (cSetK c (cN c)) (1, (cF c).2))
def eRest (c : CSt) : gO × CSt := if (cF c).1 = 0 then (oIS, c) else (oV (zc (cK c)), cSetH (cSetN c (cK c)) (cx c) 0 (cS c))

theorem c_X_setClosed {E : gE} {w : gW} {im : gIm} {Q : gQ} {c : CSt} (hx : XW E w im c) {x on : Int} (rx : -2147483648 ≤ x ∧ x < 2147483648) (ro : 0 ≤ on ∧ on ≤ 1) (hQ : ∀ o c2 w' im', (o, c2) = eClo c x on → XN E w im c2 w' im' → Q (o) w' im') : GM E 3 y_X_setClosed m_X_setClosed 1 6 [.ref (gad E 0), .int (iI x), .int (iI on)] w im Q := by
  have hx9 := hx
  obtain ⟨⟨hn, x0, x1, x2, x3, x4, x5, m61, x6⟩, ⟨r1, r2, r3⟩, o1, o2, o3, o4⟩ := hx9
  have k0 : g_cell E w im (gad E 0) _ := g_mut 0 (by omega) x0
  have k1 : g_cell E w im (gad E 56) _ := g_mut 56 (by omega) x1
  have k2 : g_cell E w im (gad E 57) _ := g_mut 57 (by omega) x2
  have k3 : g_cell E w im (gad E 58) _ := g_mut 58 (by omega) x3
  have k4 : g_cell E w im (gad E 59) _ := g_mut 59 (by omega) x4
  have k5 : g_cell E w im (gad E 60) _ := g_mut 60 (by omega) x5
  have k6 : g_cell E w im (gad E 61) _ := g_mut 61 (by omega) x6
  have kn := r1.cell
  have kk := r2.cell
  have hz := r1
  have hz9 := hz
  obtain ⟨rg, rp, rc, lc, ⟨hb, h0, h1, h2, h3, h4, hlc⟩, ⟨i1, i2, i3, i4, i5, i6⟩, ok⟩ := hz9
  obtain ⟨ok1, ok2, ok3, ok4, ok5, ok6, ok7, ok8, ok9⟩ := ok
  have co : g_cell E w im (gad E 1) (resE E 1 (cN c)) := g_mut 1 (by omega) h0
  have cg : g_cell E w im (gad E (1 + 1)) (rowE 4 12 rg) := g_mut (1 + 1) (by omega) h1
  have cp : g_cell E w im (gad E (1 + 2)) (rowE 5 8 rp) := g_mut (1 + 2) (by omega) h2
  have cc : g_cell E w im (gad E (1 + 3)) (rowE 6 20 rc) := g_mut (1 + 3) (by omega) h3
  have cl : g_cell E w im (gad E (1 + 4)) (intE 372 lc) := g_mut (1 + 4) (by omega) h4
  have o39 := o3
  obtain ⟨oa1, oa2, oa3, oa4⟩ := o39
  refine g_enter (by decide) rfl rfl (fun h => by first | rfl | cases h) (Nat.le_of_ble_eq_true rfl) rfl ?_
  refine g_aload_n (n := 0) (i := 0) rfl rfl d_X_setClosed_0 ?_
  refine g_iload_n (n := 1) (i := 1) rfl rfl d_X_setClosed_1 ?_
  refine g_callV1 rfl rfl e_X_existingGate l_X_115 iv_X_existingGate 0 (by decide) rfl (by assumption) (by decide) (by decide) (by decide) (Nat.le_of_ble_eq_true rfl) d_X_setClosed_2 (c_X_existingGate hx (by omega) (fun a hBa fa => ?_) (fun hBa => ?_))
  · refine g_retn ?_
    have ca := g_imm (E := E) (w := w) fa
    have va := ok6 x hBa
    refine g_astore_n (n := 3) (i := 3) rfl (by decide) rfl d_X_setClosed_5 ?_
    refine g_aload_n (n := 0) (i := 0) rfl rfl d_X_setClosed_6 ?_
    refine g_getfield 0 0 f_X_12 (by assumption) (by rfl) d_X_setClosed_7 ?_
    refine g_aload_n (n := 3) (i := 3) rfl rfl d_X_setClosed_10 ?_
    refine g_callV1 rfl rfl e_R_isShut l_X_125 iv_R_isShut 1 (by decide) rfl (by assumption) (by decide) (Nat.zero_le _) (Nat.zero_le _) (Nat.le_of_ble_eq_true rfl) d_X_setClosed_11 (c_R_isShut (by assumption) (by assumption) (by omega) (fun hB => ?_) (fun hB => ?_))
    · refine g_ret ?_
      refine g_istore (i := 4) (by decide) rfl d_X_setClosed_14 ?_
      refine g_aload_n (n := 0) (i := 0) rfl rfl d_X_setClosed_16 ?_
      refine g_getfield 0 2 f_X_22 (by assumption) (by rfl) d_X_setClosed_17 ?_
      refine g_aload_n (n := 0) (i := 0) rfl rfl d_X_setClosed_20 ?_
      refine g_getfield 0 0 f_X_12 (by assumption) (by rfl) d_X_setClosed_21 ?_
      refine g_callV1 rfl rfl e_H_record l_X_86 iv_H_record 2 (by decide) rfl (by assumption) (by decide) (Nat.zero_le _) (Nat.zero_le _) (Nat.le_of_ble_eq_true rfl) d_X_setClosed_24 (c_H_record hx (fun w im hN => ?_))
      refine g_retv ?_
      have hx := hN.2.2
      have hx9 := hx
      obtain ⟨⟨hn, x0, x1, x2, x3, x4, x5, m61, x6⟩, ⟨r1, r2, r3⟩, o1, o2, o3, o4⟩ := hx9
      have k0 : g_cell E w im (gad E 0) _ := g_mut 0 (by omega) x0
      have k1 : g_cell E w im (gad E 56) _ := g_mut 56 (by omega) x1
      have k2 : g_cell E w im (gad E 57) _ := g_mut 57 (by omega) x2
      have k3 : g_cell E w im (gad E 58) _ := g_mut 58 (by omega) x3
      have k4 : g_cell E w im (gad E 59) _ := g_mut 59 (by omega) x4
      have k5 : g_cell E w im (gad E 60) _ := g_mut 60 (by omega) x5
      have k6 : g_cell E w im (gad E 61) _ := g_mut 61 (by omega) x6
      have kn := r1.cell
      have kk := r2.cell
      have r1 : RZ E w im 1 (cN c) := r1
      have kn := r1.cell
      have hz := r1
      have hz9 := hz
      obtain ⟨rg, rp, rc, lc, ⟨hb, h0, h1, h2, h3, h4, hlc⟩, ⟨i1, i2, i3, i4, i5, i6⟩, ok⟩ := hz9
      obtain ⟨ok1, ok2, ok3, ok4, ok5, ok6, ok7, ok8, ok9⟩ := ok
      have co : g_cell E w im (gad E 1) (resE E 1 (cN c)) := g_mut 1 (by omega) h0
      have cg : g_cell E w im (gad E (1 + 1)) (rowE 4 12 rg) := g_mut (1 + 1) (by omega) h1
      have cp : g_cell E w im (gad E (1 + 2)) (rowE 5 8 rp) := g_mut (1 + 2) (by omega) h2
      have cc : g_cell E w im (gad E (1 + 3)) (rowE 6 20 rc) := g_mut (1 + 3) (by omega) h3
      have cl : g_cell E w im (gad E (1 + 4)) (intE 372 lc) := g_mut (1 + 4) (by omega) h4
      have fa := hN.2.1 _ _ fa
      refine g_aload_n (n := 0) (i := 0) rfl rfl d_X_setClosed_27 ?_
      refine g_getfield 0 0 f_X_12 (by assumption) (by rfl) d_X_setClosed_28 ?_
      refine g_aload_n (n := 3) (i := 3) rfl rfl d_X_setClosed_31 ?_
      refine g_iload_n (n := 2) (i := 2) rfl rfl d_X_setClosed_32 ?_
      refine g_callV2 rfl rfl e_R_shut l_X_207 iv_R_shut 1 (by decide) rfl kn (by decide) (Nat.zero_le _) (Nat.zero_le _) (Nat.le_of_ble_eq_true rfl) d_X_setClosed_33 (c_R_shut r1 fa (by omega) ro (fun w2 im2 hN2 => ?_))
      refine g_retv ?_
      refine g_iload (i := 4) rfl d_X_setClosed_36 ?_
      refine g_ireturn_1 rfl d_X_setClosed_38 ?_
      first | exact hQ _ _ _ _ (by unfold eClo; rw [if_pos hBa, if_pos hB]) (hN.trans (hx.sN hN2)) | exact hQ _ _ _ _ (by unfold eClo; rw [if_pos hBa, if_neg hB]) (hN.trans (hx.sN hN2))
    · refine g_ret ?_
      refine g_istore (i := 4) (by decide) rfl d_X_setClosed_14 ?_
      refine g_aload_n (n := 0) (i := 0) rfl rfl d_X_setClosed_16 ?_
      refine g_getfield 0 2 f_X_22 (by assumption) (by rfl) d_X_setClosed_17 ?_
      refine g_aload_n (n := 0) (i := 0) rfl rfl d_X_setClosed_20 ?_
      refine g_getfield 0 0 f_X_12 (by assumption) (by rfl) d_X_setClosed_21 ?_
      refine g_callV1 rfl rfl e_H_record l_X_86 iv_H_record 2 (by decide) rfl (by assumption) (by decide) (Nat.zero_le _) (Nat.zero_le _) (Nat.le_of_ble_eq_true rfl) d_X_setClosed_24 (c_H_record hx (fun w im hN => ?_))
      refine g_retv ?_
      have hx := hN.2.2
      have hx9 := hx
      obtain ⟨⟨hn, x0, x1, x2, x3, x4, x5, m61, x6⟩, ⟨r1, r2, r3⟩, o1, o2, o3, o4⟩ := hx9
      have k0 : g_cell E w im (gad E 0) _ := g_mut 0 (by omega) x0
      have k1 : g_cell E w im (gad E 56) _ := g_mut 56 (by omega) x1
      have k2 : g_cell E w im (gad E 57) _ := g_mut 57 (by omega) x2
      have k3 : g_cell E w im (gad E 58) _ := g_mut 58 (by omega) x3
      have k4 : g_cell E w im (gad E 59) _ := g_mut 59 (by omega) x4
      have k5 : g_cell E w im (gad E 60) _ := g_mut 60 (by omega) x5
      have k6 : g_cell E w im (gad E 61) _ := g_mut 61 (by omega) x6
      have kn := r1.cell
      have kk := r2.cell
      have r1 : RZ E w im 1 (cN c) := r1
      have kn := r1.cell
      have hz := r1
      have hz9 := hz
      obtain ⟨rg, rp, rc, lc, ⟨hb, h0, h1, h2, h3, h4, hlc⟩, ⟨i1, i2, i3, i4, i5, i6⟩, ok⟩ := hz9
      obtain ⟨ok1, ok2, ok3, ok4, ok5, ok6, ok7, ok8, ok9⟩ := ok
      have co : g_cell E w im (gad E 1) (resE E 1 (cN c)) := g_mut 1 (by omega) h0
      have cg : g_cell E w im (gad E (1 + 1)) (rowE 4 12 rg) := g_mut (1 + 1) (by omega) h1
      have cp : g_cell E w im (gad E (1 + 2)) (rowE 5 8 rp) := g_mut (1 + 2) (by omega) h2
      have cc : g_cell E w im (gad E (1 + 3)) (rowE 6 20 rc) := g_mut (1 + 3) (by omega) h3
      have cl : g_cell E w im (gad E (1 + 4)) (intE 372 lc) := g_mut (1 + 4) (by omega) h4
      have fa := hN.2.1 _ _ fa
      refine g_aload_n (n := 0) (i := 0) rfl rfl d_X_setClosed_27 ?_
      refine g_getfield 0 0 f_X_12 (by assumption) (by rfl) d_X_setClosed_28 ?_
      refine g_aload_n (n := 3) (i := 3) rfl rfl d_X_setClosed_31 ?_
      refine g_iload_n (n := 2) (i := 2) rfl rfl d_X_setClosed_32 ?_
      refine g_callV2 rfl rfl e_R_shut l_X_207 iv_R_shut 1 (by decide) rfl kn (by decide) (Nat.zero_le _) (Nat.zero_le _) (Nat.le_of_ble_eq_true rfl) d_X_setClosed_33 (c_R_shut r1 fa (by omega) ro (fun w2 im2 hN2 => ?_))
      refine g_retv ?_
      refine g_iload (i := 4) rfl d_X_setClosed_36 ?_
      refine g_ireturn_0 rfl d_X_setClosed_38 ?_
      first | exact hQ _ _ _ _ (by unfold eClo; rw [if_pos hBa, if_pos hB]) (hN.trans (hx.sN hN2)) | exact hQ _ _ _ _ (by unfold eClo; rw [if_pos hBa, if_neg hB]) (hN.trans (hx.sN hN2))
  · refine g_retx ?_
    exact hQ _ _ _ _ (by unfold eClo; first | (rw [if_neg hBa]; done)) (XN.refl hx)

theorem c_X_advance {E : gE} {w : gW} {im : gIm} {Q : gQ} {c : CSt} (hx : XW E w im c) {m : Int} (rm : -2147483648 ≤ m ∧ m < 2147483648) (hQ : ∀ o c2 w' im', (o, c2) = eAdv c m → XN E w im c2 w' im' → Q (o) w' im') : GM E 3 y_X_advance m_X_advance 1 6 [.ref (gad E 0), .int (iI m)] w im Q := by
  have hx9 := hx
  obtain ⟨⟨hn, x0, x1, x2, x3, x4, x5, m61, x6⟩, ⟨r1, r2, r3⟩, o1, o2, o3, o4⟩ := hx9
  have k0 : g_cell E w im (gad E 0) _ := g_mut 0 (by omega) x0
  have k1 : g_cell E w im (gad E 56) _ := g_mut 56 (by omega) x1
  have k2 : g_cell E w im (gad E 57) _ := g_mut 57 (by omega) x2
  have k3 : g_cell E w im (gad E 58) _ := g_mut 58 (by omega) x3
  have k4 : g_cell E w im (gad E 59) _ := g_mut 59 (by omega) x4
  have k5 : g_cell E w im (gad E 60) _ := g_mut 60 (by omega) x5
  have k6 : g_cell E w im (gad E 61) _ := g_mut 61 (by omega) x6
  have kn := r1.cell
  have kk := r2.cell
  have hz := r1
  have hz9 := hz
  obtain ⟨rg, rp, rc, lc, ⟨hb, h0, h1, h2, h3, h4, hlc⟩, ⟨i1, i2, i3, i4, i5, i6⟩, ok⟩ := hz9
  obtain ⟨ok1, ok2, ok3, ok4, ok5, ok6, ok7, ok8, ok9⟩ := ok
  have co : g_cell E w im (gad E 1) (resE E 1 (cN c)) := g_mut 1 (by omega) h0
  have cg : g_cell E w im (gad E (1 + 1)) (rowE 4 12 rg) := g_mut (1 + 1) (by omega) h1
  have cp : g_cell E w im (gad E (1 + 2)) (rowE 5 8 rp) := g_mut (1 + 2) (by omega) h2
  have cc : g_cell E w im (gad E (1 + 3)) (rowE 6 20 rc) := g_mut (1 + 3) (by omega) h3
  have cl : g_cell E w im (gad E (1 + 4)) (intE 372 lc) := g_mut (1 + 4) (by omega) h4
  have o39 := o3
  obtain ⟨oa1, oa2, oa3, oa4⟩ := o39
  refine g_enter (by decide) rfl rfl (fun h => by first | rfl | cases h) (Nat.le_of_ble_eq_true rfl) rfl ?_
  refine g_iload_n (n := 1) (i := 1) rfl rfl d_X_advance_0 ?_
  refine g_iconst_i d_X_advance_1 ?_
  refine g_sipush_i (by decide) d_X_advance_2 ?_
  refine g_callS3 rfl rfl e_X_isBetween l_X_67 st_X_isBetween (by decide) (Nat.zero_le _) (Nat.zero_le _) (Nat.le_of_ble_eq_true rfl) d_X_advance_5 (c_X_isBetween (by omega) (by omega) (by omega) (fun hB => ?_) (fun hB => ?_))
  · refine g_ret ?_
    refine g_if_ne_i (tgt := 21) (by decide) d_X_advance_8 (by decide) (fun h8 => ?_) (fun h => absurd h (by decide))
    refine g_aload_n (n := 0) (i := 0) rfl rfl d_X_advance_21 ?_
    refine g_getfield 0 0 f_X_12 (by assumption) (by rfl) d_X_advance_22 ?_
    refine g_getfield 1 8 f_X_180 (by assumption) (by rfl) d_X_advance_25 ?_
    refine g_iload_n (n := 1) (i := 1) rfl rfl d_X_advance_28 ?_
    refine g_iadd_i d_X_advance_29 ?_
    refine g_ldc_i (z := 43200) k_X_183 (by decide) d_X_advance_30 ?_
    refine g_icmp_le_i (tgt := 45) (by omega) (by decide) d_X_advance_32 (by decide) (fun h32 => ?_) (fun h32 => ?_)
    · refine g_aload_n (n := 0) (i := 0) rfl rfl d_X_advance_45 ?_
      refine g_getfield 0 2 f_X_22 (by assumption) (by rfl) d_X_advance_46 ?_
      refine g_aload_n (n := 0) (i := 0) rfl rfl d_X_advance_49 ?_
      refine g_getfield 0 0 f_X_12 (by assumption) (by rfl) d_X_advance_50 ?_
      refine g_callV1 rfl rfl e_H_record l_X_86 iv_H_record 2 (by decide) rfl (by assumption) (by decide) (Nat.zero_le _) (Nat.zero_le _) (Nat.le_of_ble_eq_true rfl) d_X_advance_53 (c_H_record hx (fun w im hN => ?_))
      refine g_retv ?_
      have hx := hN.2.2
      have hx9 := hx
      obtain ⟨⟨hn, x0, x1, x2, x3, x4, x5, m61, x6⟩, ⟨r1, r2, r3⟩, o1, o2, o3, o4⟩ := hx9
      have k0 : g_cell E w im (gad E 0) _ := g_mut 0 (by omega) x0
      have k1 : g_cell E w im (gad E 56) _ := g_mut 56 (by omega) x1
      have k2 : g_cell E w im (gad E 57) _ := g_mut 57 (by omega) x2
      have k3 : g_cell E w im (gad E 58) _ := g_mut 58 (by omega) x3
      have k4 : g_cell E w im (gad E 59) _ := g_mut 59 (by omega) x4
      have k5 : g_cell E w im (gad E 60) _ := g_mut 60 (by omega) x5
      have k6 : g_cell E w im (gad E 61) _ := g_mut 61 (by omega) x6
      have kn := r1.cell
      have kk := r2.cell
      have r1 : RZ E w im 1 (cN c) := r1
      have kn := r1.cell
      have hz := r1
      have hz9 := hz
      obtain ⟨rg, rp, rc, lc, ⟨hb, h0, h1, h2, h3, h4, hlc⟩, ⟨i1, i2, i3, i4, i5, i6⟩, ok⟩ := hz9
      obtain ⟨ok1, ok2, ok3, ok4, ok5, ok6, ok7, ok8, ok9⟩ := ok
      have co : g_cell E w im (gad E 1) (resE E 1 (cN c)) := g_mut 1 (by omega) h0
      have cg : g_cell E w im (gad E (1 + 1)) (rowE 4 12 rg) := g_mut (1 + 1) (by omega) h1
      have cp : g_cell E w im (gad E (1 + 2)) (rowE 5 8 rp) := g_mut (1 + 2) (by omega) h2
      have cc : g_cell E w im (gad E (1 + 3)) (rowE 6 20 rc) := g_mut (1 + 3) (by omega) h3
      have cl : g_cell E w im (gad E (1 + 4)) (intE 372 lc) := g_mut (1 + 4) (by omega) h4
      refine g_aload_n (n := 0) (i := 0) rfl rfl d_X_advance_56 ?_
      refine g_getfield 0 0 f_X_12 (by assumption) (by rfl) d_X_advance_57 ?_
      refine g_iload_n (n := 1) (i := 1) rfl rfl d_X_advance_60 ?_
      refine g_callV1 rfl rfl e_R_goOn l_X_186 iv_R_goOn 1 (by decide) rfl (by assumption) (by decide) (Nat.zero_le _) (Nat.zero_le _) (Nat.le_of_ble_eq_true rfl) d_X_advance_61 (c_R_goOn r1 (by omega) (fun w2 im2 hN2 => ?_))
      refine g_retv ?_
      have hN3 := hN.trans (hx.sN hN2)
      have hz3 : RZ E w2 im2 1 (zTime (cN c) (zk (cN c) + m) (goL (cN c) m)) := hN2.2.2
      have kn := hz3.cell
      have k0 : g_cell E w2 im2 (gad E 0) _ := g_mut 0 (by omega) hN3.2.2.1.2.1
      refine g_aload_n (n := 0) (i := 0) rfl rfl d_X_advance_64 ?_
      refine g_getfield 0 0 f_X_12 (by assumption) (by rfl) d_X_advance_65 ?_
      refine g_getfield 1 8 f_X_180 (by assumption) (by rfl) d_X_advance_68 ?_
      refine g_ireturn_i rfl d_X_advance_71 ?_
      exact hQ _ _ _ _ (by unfold eAdv; rw [if_pos hB, if_pos (by omega)]; rfl) hN3
    · refine x_ISE c_X_81 xs_184 rfl rfl (Nat.le_of_ble_eq_true rfl) (by omega) (by omega) d_X_advance_35 d_X_advance_38 d_X_advance_39 d_X_advance_41 d_X_advance_44 ?_
      exact hQ _ _ _ _ (by unfold eAdv; first | (rw [if_pos hB, if_neg (by omega)]; done) | (rw [if_neg hB]; done)) (XN.refl hx)
  · refine g_ret ?_
    refine g_if_ne_i (tgt := 21) (by decide) d_X_advance_8 (by decide) (fun h => absurd h (by decide)) (fun h8 => ?_)
    refine x_IAE c_X_71 xs_178 rfl rfl (Nat.le_of_ble_eq_true rfl) (by omega) (by omega) d_X_advance_11 d_X_advance_14 d_X_advance_15 d_X_advance_17 d_X_advance_20 ?_
    exact hQ _ _ _ _ (by unfold eAdv; first | (rw [if_pos hB, if_neg (by omega)]; done) | (rw [if_neg hB]; done)) (XN.refl hx)

theorem c_X_sell {E : gE} {w : gW} {im : gIm} {Q : gQ} {c : CSt} (hx : XW E w im c) {x : Int} (rx : -2147483648 ≤ x ∧ x < 2147483648) (hQ : ∀ o c2 w' im', (o, c2) = eSell c x → XN E w im c2 w' im' → Q (o) w' im') : GM E 3 y_X_sell m_X_sell 21 126 [.ref (gad E 0), .int (iI x)] w im Q := by
  have hx9 := hx
  obtain ⟨⟨hn, x0, x1, x2, x3, x4, x5, m61, x6⟩, ⟨r1, r2, r3⟩, o1, o2, o3, o4⟩ := hx9
  have k0 : g_cell E w im (gad E 0) _ := g_mut 0 (by omega) x0
  have k1 : g_cell E w im (gad E 56) _ := g_mut 56 (by omega) x1
  have k2 : g_cell E w im (gad E 57) _ := g_mut 57 (by omega) x2
  have k3 : g_cell E w im (gad E 58) _ := g_mut 58 (by omega) x3
  have k4 : g_cell E w im (gad E 59) _ := g_mut 59 (by omega) x4
  have k5 : g_cell E w im (gad E 60) _ := g_mut 60 (by omega) x5
  have k6 : g_cell E w im (gad E 61) _ := g_mut 61 (by omega) x6
  have kn := r1.cell
  have kk := r2.cell
  have hz := r1
  have hz9 := hz
  obtain ⟨rg, rp, rc, lc, ⟨hb, h0, h1, h2, h3, h4, hlc⟩, ⟨i1, i2, i3, i4, i5, i6⟩, ok⟩ := hz9
  obtain ⟨ok1, ok2, ok3, ok4, ok5, ok6, ok7, ok8, ok9⟩ := ok
  have co : g_cell E w im (gad E 1) (resE E 1 (cN c)) := g_mut 1 (by omega) h0
  have cg : g_cell E w im (gad E (1 + 1)) (rowE 4 12 rg) := g_mut (1 + 1) (by omega) h1
  have cp : g_cell E w im (gad E (1 + 2)) (rowE 5 8 rp) := g_mut (1 + 2) (by omega) h2
  have cc : g_cell E w im (gad E (1 + 3)) (rowE 6 20 rc) := g_mut (1 + 3) (by omega) h3
  have cl : g_cell E w im (gad E (1 + 4)) (intE 372 lc) := g_mut (1 + 4) (by omega) h4
  have o39 := o3
  obtain ⟨oa1, oa2, oa3, oa4⟩ := o39
  refine g_enter (by decide) rfl rfl (fun h => by first | rfl | cases h) (Nat.le_of_ble_eq_true rfl) rfl ?_
  refine g_aload_n (n := 0) (i := 0) rfl rfl d_X_sell_0 ?_
  refine g_iload_n (n := 1) (i := 1) rfl rfl d_X_sell_1 ?_
  refine g_callV1 rfl rfl e_X_existingProduct l_X_145 iv_X_existingProduct 0 (by decide) rfl (by assumption) (by decide) (by decide) (by decide) (Nat.le_of_ble_eq_true rfl) d_X_sell_2 (c_X_existingProduct hx (by omega) (fun a hBa fa => ?_) (fun hBa => ?_))
  · refine g_retn ?_
    have ca := g_imm (E := E) (w := w) fa
    have va := ok7 x hBa
    refine g_astore_n (n := 2) (i := 2) rfl (by decide) rfl d_X_sell_5 ?_
    refine g_aload_n (n := 0) (i := 0) rfl rfl d_X_sell_6 ?_
    refine g_getfield 0 0 f_X_12 (by assumption) (by rfl) d_X_sell_7 ?_
    refine g_iconst_i d_X_sell_10 ?_
    refine g_callV1 rfl rfl e_R_hasRoomForCards l_X_220 iv_R_hasRoomForCards 1 (by decide) rfl (by assumption) (by decide) (Nat.zero_le _) (Nat.zero_le _) (Nat.le_of_ble_eq_true rfl) d_X_sell_11 (c_R_hasRoomForCards (by assumption) (by omega) (fun hB => ?_) (fun hB => ?_))
    · refine g_ret ?_
      refine g_if_ne_i (tgt := 27) (by decide) d_X_sell_14 (by decide) (fun h14 => ?_) (fun h => absurd h (by decide))
      refine g_aload_n (n := 0) (i := 0) rfl rfl d_X_sell_27 ?_
      refine g_getfield 0 2 f_X_22 (by assumption) (by rfl) d_X_sell_28 ?_
      refine g_aload_n (n := 0) (i := 0) rfl rfl d_X_sell_31 ?_
      refine g_getfield 0 0 f_X_12 (by assumption) (by rfl) d_X_sell_32 ?_
      refine g_callV1 rfl rfl e_H_record l_X_86 iv_H_record 2 (by decide) rfl (by assumption) (by decide) (Nat.zero_le _) (Nat.zero_le _) (Nat.le_of_ble_eq_true rfl) d_X_sell_35 (c_H_record hx (fun w im hN => ?_))
      refine g_retv ?_
      have hx := hN.2.2
      have hx9 := hx
      obtain ⟨⟨hn, x0, x1, x2, x3, x4, x5, m61, x6⟩, ⟨r1, r2, r3⟩, o1, o2, o3, o4⟩ := hx9
      have k0 : g_cell E w im (gad E 0) _ := g_mut 0 (by omega) x0
      have k1 : g_cell E w im (gad E 56) _ := g_mut 56 (by omega) x1
      have k2 : g_cell E w im (gad E 57) _ := g_mut 57 (by omega) x2
      have k3 : g_cell E w im (gad E 58) _ := g_mut 58 (by omega) x3
      have k4 : g_cell E w im (gad E 59) _ := g_mut 59 (by omega) x4
      have k5 : g_cell E w im (gad E 60) _ := g_mut 60 (by omega) x5
      have k6 : g_cell E w im (gad E 61) _ := g_mut 61 (by omega) x6
      have kn := r1.cell
      have kk := r2.cell
      have r1 : RZ E w im 1 (cN c) := r1
      have kn := r1.cell
      have hz := r1
      have hz9 := hz
      obtain ⟨rg, rp, rc, lc, ⟨hb, h0, h1, h2, h3, h4, hlc⟩, ⟨i1, i2, i3, i4, i5, i6⟩, ok⟩ := hz9
      obtain ⟨ok1, ok2, ok3, ok4, ok5, ok6, ok7, ok8, ok9⟩ := ok
      have co : g_cell E w im (gad E 1) (resE E 1 (cN c)) := g_mut 1 (by omega) h0
      have cg : g_cell E w im (gad E (1 + 1)) (rowE 4 12 rg) := g_mut (1 + 1) (by omega) h1
      have cp : g_cell E w im (gad E (1 + 2)) (rowE 5 8 rp) := g_mut (1 + 2) (by omega) h2
      have cc : g_cell E w im (gad E (1 + 3)) (rowE 6 20 rc) := g_mut (1 + 3) (by omega) h3
      have cl : g_cell E w im (gad E (1 + 4)) (intE 372 lc) := g_mut (1 + 4) (by omega) h4
      have fa := hN.2.1 _ _ fa
      refine g_aload_n (n := 0) (i := 0) rfl rfl d_X_sell_38 ?_
      refine g_getfield 0 0 f_X_12 (by assumption) (by rfl) d_X_sell_39 ?_
      refine g_aload_n (n := 2) (i := 2) rfl rfl d_X_sell_42 ?_
      refine g_iconst_i d_X_sell_43 ?_
      refine g_callV2 rfl rfl e_R_insertCards l_X_225 iv_R_insertCards 1 (by decide) rfl (by assumption) (by decide) (by decide) (by decide) (Nat.le_of_ble_eq_true rfl) d_X_sell_44 (c_R_insertCards (x := 1) r1 fa hBa (by omega) (fun w2 im2 hN2 => ?_))
      refine g_retn ?_
      refine g_ireturn_i rfl d_X_sell_47 ?_
      exact hQ _ _ _ _ (by unfold eSell; rw [if_pos hBa, if_pos (by omega)]; rfl) (hN.trans (hx.sN hN2))
    · refine g_ret ?_
      refine g_if_ne_i (tgt := 27) (by decide) d_X_sell_14 (by decide) (fun h => absurd h (by decide)) (fun h14 => ?_)
      refine x_ISE c_X_81 xs_223 rfl rfl (Nat.le_of_ble_eq_true rfl) (by omega) (by omega) d_X_sell_17 d_X_sell_20 d_X_sell_21 d_X_sell_23 d_X_sell_26 ?_
      exact hQ _ _ _ _ (by unfold eSell; first | (rw [if_neg hBa]; done) | (rw [if_pos hBa, if_neg (by omega)]; done)) (XN.refl hx)
  · refine g_retx ?_
    exact hQ _ _ _ _ (by unfold eSell; first | (rw [if_neg hBa]; done) | (rw [if_pos hBa, if_neg (by omega)]; done)) (XN.refl hx)

theorem c_X_block {E : gE} {w : gW} {im : gIm} {Q : gQ} {c : CSt} (hx : XW E w im c) {x on : Int} (rx : -2147483648 ≤ x ∧ x < 2147483648) (ro : 0 ≤ on ∧ on ≤ 1) (hQ : ∀ o c2 w' im', (o, c2) = eBlk c x on → XN E w im c2 w' im' → Q (o) w' im') : GM E 3 y_X_block m_X_block 2 12 [.ref (gad E 0), .int (iI x), .int (iI on)] w im Q := by
  have hx9 := hx
  obtain ⟨⟨hn, x0, x1, x2, x3, x4, x5, m61, x6⟩, ⟨r1, r2, r3⟩, o1, o2, o3, o4⟩ := hx9
  have k0 : g_cell E w im (gad E 0) _ := g_mut 0 (by omega) x0
  have k1 : g_cell E w im (gad E 56) _ := g_mut 56 (by omega) x1
  have k2 : g_cell E w im (gad E 57) _ := g_mut 57 (by omega) x2
  have k3 : g_cell E w im (gad E 58) _ := g_mut 58 (by omega) x3
  have k4 : g_cell E w im (gad E 59) _ := g_mut 59 (by omega) x4
  have k5 : g_cell E w im (gad E 60) _ := g_mut 60 (by omega) x5
  have k6 : g_cell E w im (gad E 61) _ := g_mut 61 (by omega) x6
  have kn := r1.cell
  have kk := r2.cell
  have hz := r1
  have hz9 := hz
  obtain ⟨rg, rp, rc, lc, ⟨hb, h0, h1, h2, h3, h4, hlc⟩, ⟨i1, i2, i3, i4, i5, i6⟩, ok⟩ := hz9
  obtain ⟨ok1, ok2, ok3, ok4, ok5, ok6, ok7, ok8, ok9⟩ := ok
  have co : g_cell E w im (gad E 1) (resE E 1 (cN c)) := g_mut 1 (by omega) h0
  have cg : g_cell E w im (gad E (1 + 1)) (rowE 4 12 rg) := g_mut (1 + 1) (by omega) h1
  have cp : g_cell E w im (gad E (1 + 2)) (rowE 5 8 rp) := g_mut (1 + 2) (by omega) h2
  have cc : g_cell E w im (gad E (1 + 3)) (rowE 6 20 rc) := g_mut (1 + 3) (by omega) h3
  have cl : g_cell E w im (gad E (1 + 4)) (intE 372 lc) := g_mut (1 + 4) (by omega) h4
  have o39 := o3
  obtain ⟨oa1, oa2, oa3, oa4⟩ := o39
  refine g_enter (by decide) rfl rfl (fun h => by first | rfl | cases h) (Nat.le_of_ble_eq_true rfl) rfl ?_
  refine g_aload_n (n := 0) (i := 0) rfl rfl d_X_block_0 ?_
  refine g_iload_n (n := 1) (i := 1) rfl rfl d_X_block_1 ?_
  refine g_callV1 rfl rfl e_X_existingCard l_X_229 iv_X_existingCard 0 (by decide) rfl (by assumption) (by decide) (by decide) (by decide) (Nat.le_of_ble_eq_true rfl) d_X_block_2 (c_X_existingCard hx (by omega) (fun a pa la hBa fa ga ea => ?_) (fun hBa => ?_))
  · refine g_retn ?_
    have ca := g_imm (E := E) (w := w) fa
    have da := g_imm (E := E) (w := w) ga
    obtain ⟨q1, q2, q3, q4, q5⟩ := ok8 x hBa
    have oq := ok7 (zC (cN c) x).1 q1
    have hlen := q5.1
    have hdm := dmask_lt q5
    refine g_astore_n (n := 3) (i := 3) rfl (by decide) rfl d_X_block_5 ?_
    refine g_aload_n (n := 3) (i := 3) rfl rfl d_X_block_6 ?_
    refine g_callV0 rfl rfl e_C_isSettled l_X_260 iv_C_isSettled 8 (by decide) rfl (by assumption) (by decide) (Nat.zero_le _) (Nat.zero_le _) (Nat.le_of_ble_eq_true rfl) d_X_block_7 (c_C_isSettled ca (by omega) (fun hS => ?_) (fun hS => ?_))
    · refine g_ret ?_
      refine g_if_eq_i (tgt := 24) (by decide) d_X_block_10 (by decide) (fun h => absurd h (by decide)) (fun h10 => ?_)
      refine x_ISEw c_X_81 xs_266 rfl rfl (Nat.le_of_ble_eq_true rfl) (by omega) (by omega) d_X_block_13 d_X_block_16 d_X_block_17 d_X_block_20 d_X_block_23 ?_
      exact hQ _ _ _ _ (by unfold eBlk; first | (rw [if_neg hBa]; done) | (rw [if_pos hBa, if_pos hS]; done)) (XN.refl hx)
    · refine g_ret ?_
      refine g_if_eq_i (tgt := 24) (by decide) d_X_block_10 (by decide) (fun h10 => ?_) (fun h => absurd h (by decide))
      refine g_aload_n (n := 0) (i := 0) rfl rfl d_X_block_24 ?_
      refine g_getfield 0 2 f_X_22 (by assumption) (by rfl) d_X_block_25 ?_
      refine g_aload_n (n := 0) (i := 0) rfl rfl d_X_block_28 ?_
      refine g_getfield 0 0 f_X_12 (by assumption) (by rfl) d_X_block_29 ?_
      refine g_callV1 rfl rfl e_H_record l_X_86 iv_H_record 2 (by decide) rfl (by assumption) (by decide) (Nat.zero_le _) (Nat.zero_le _) (Nat.le_of_ble_eq_true rfl) d_X_block_32 (c_H_record hx (fun w im hN => ?_))
      refine g_retv ?_
      have hx := hN.2.2
      have hx9 := hx
      obtain ⟨⟨hn, x0, x1, x2, x3, x4, x5, m61, x6⟩, ⟨r1, r2, r3⟩, o1, o2, o3, o4⟩ := hx9
      have k0 : g_cell E w im (gad E 0) _ := g_mut 0 (by omega) x0
      have k1 : g_cell E w im (gad E 56) _ := g_mut 56 (by omega) x1
      have k2 : g_cell E w im (gad E 57) _ := g_mut 57 (by omega) x2
      have k3 : g_cell E w im (gad E 58) _ := g_mut 58 (by omega) x3
      have k4 : g_cell E w im (gad E 59) _ := g_mut 59 (by omega) x4
      have k5 : g_cell E w im (gad E 60) _ := g_mut 60 (by omega) x5
      have k6 : g_cell E w im (gad E 61) _ := g_mut 61 (by omega) x6
      have kn := r1.cell
      have kk := r2.cell
      have r1 : RZ E w im 1 (cN c) := r1
      have kn := r1.cell
      have hz := r1
      have hz9 := hz
      obtain ⟨rg, rp, rc, lc, ⟨hb, h0, h1, h2, h3, h4, hlc⟩, ⟨i1, i2, i3, i4, i5, i6⟩, ok⟩ := hz9
      obtain ⟨ok1, ok2, ok3, ok4, ok5, ok6, ok7, ok8, ok9⟩ := ok
      have co : g_cell E w im (gad E 1) (resE E 1 (cN c)) := g_mut 1 (by omega) h0
      have cg : g_cell E w im (gad E (1 + 1)) (rowE 4 12 rg) := g_mut (1 + 1) (by omega) h1
      have cp : g_cell E w im (gad E (1 + 2)) (rowE 5 8 rp) := g_mut (1 + 2) (by omega) h2
      have cc : g_cell E w im (gad E (1 + 3)) (rowE 6 20 rc) := g_mut (1 + 3) (by omega) h3
      have cl : g_cell E w im (gad E (1 + 4)) (intE 372 lc) := g_mut (1 + 4) (by omega) h4
      have fa := hN.2.1 _ _ fa
      have ga := hN.2.1 _ _ ga
      have ea := ea.mono hN.2.1
      refine g_aload_n (n := 0) (i := 0) rfl rfl d_X_block_35 ?_
      refine g_getfield 0 0 f_X_12 (by assumption) (by rfl) d_X_block_36 ?_
      refine g_aload_n (n := 3) (i := 3) rfl rfl d_X_block_39 ?_
      refine g_iload_n (n := 2) (i := 2) rfl rfl d_X_block_40 ?_
      refine g_callV2 rfl rfl e_R_setBlocked l_X_268 iv_R_setBlocked 1 (by decide) rfl (by assumption) (by decide) (by decide) (by decide) (Nat.le_of_ble_eq_true rfl) d_X_block_41 (c_R_setBlocked r1 hBa fa ga ea ro (fun w2 im2 hN2 => ?_))
      refine g_retvn ?_
      have fa := hN2.2.1 _ _ fa
      have ca := g_imm (E := E) (w := w2) fa
      refine g_aload_n (n := 3) (i := 3) rfl rfl d_X_block_44 ?_
      refine g_getfield 8 2 f_X_272 (by assumption) (by rfl) d_X_block_45 ?_
      refine g_ireturn_i rfl d_X_block_48 ?_
      exact hQ _ _ _ _ (by unfold eBlk; first | (rw [if_pos hBa, if_neg hS]; done)) (hN.trans (hx.sN hN2))
  · refine g_retx ?_
    exact hQ _ _ _ _ (by unfold eBlk; first | (rw [if_neg hBa]; done) | (rw [if_pos hBa, if_pos hS]; done)) (XN.refl hx)

theorem c_X_replace {E : gE} {w : gW} {im : gIm} {Q : gQ} {c : CSt} (hx : XW E w im c) {x : Int} (rx : -2147483648 ≤ x ∧ x < 2147483648) (hQ : ∀ o c2 w' im', (o, c2) = eRep c x → XN E w im c2 w' im' → Q (o) w' im') : GM E 3 y_X_replace m_X_replace 3 18 [.ref (gad E 0), .int (iI x)] w im Q := by
  have hx9 := hx
  obtain ⟨⟨hn, x0, x1, x2, x3, x4, x5, m61, x6⟩, ⟨r1, r2, r3⟩, o1, o2, o3, o4⟩ := hx9
  have k0 : g_cell E w im (gad E 0) _ := g_mut 0 (by omega) x0
  have k1 : g_cell E w im (gad E 56) _ := g_mut 56 (by omega) x1
  have k2 : g_cell E w im (gad E 57) _ := g_mut 57 (by omega) x2
  have k3 : g_cell E w im (gad E 58) _ := g_mut 58 (by omega) x3
  have k4 : g_cell E w im (gad E 59) _ := g_mut 59 (by omega) x4
  have k5 : g_cell E w im (gad E 60) _ := g_mut 60 (by omega) x5
  have k6 : g_cell E w im (gad E 61) _ := g_mut 61 (by omega) x6
  have kn := r1.cell
  have kk := r2.cell
  have hz := r1
  have hz9 := hz
  obtain ⟨rg, rp, rc, lc, ⟨hb, h0, h1, h2, h3, h4, hlc⟩, ⟨i1, i2, i3, i4, i5, i6⟩, ok⟩ := hz9
  obtain ⟨ok1, ok2, ok3, ok4, ok5, ok6, ok7, ok8, ok9⟩ := ok
  have co : g_cell E w im (gad E 1) (resE E 1 (cN c)) := g_mut 1 (by omega) h0
  have cg : g_cell E w im (gad E (1 + 1)) (rowE 4 12 rg) := g_mut (1 + 1) (by omega) h1
  have cp : g_cell E w im (gad E (1 + 2)) (rowE 5 8 rp) := g_mut (1 + 2) (by omega) h2
  have cc : g_cell E w im (gad E (1 + 3)) (rowE 6 20 rc) := g_mut (1 + 3) (by omega) h3
  have cl : g_cell E w im (gad E (1 + 4)) (intE 372 lc) := g_mut (1 + 4) (by omega) h4
  have o39 := o3
  obtain ⟨oa1, oa2, oa3, oa4⟩ := o39
  refine g_enter (by decide) rfl rfl (fun h => by first | rfl | cases h) (Nat.le_of_ble_eq_true rfl) rfl ?_
  refine g_aload_n (n := 0) (i := 0) rfl rfl d_X_replace_0 ?_
  refine g_iload_n (n := 1) (i := 1) rfl rfl d_X_replace_1 ?_
  refine g_callV1 rfl rfl e_X_existingCard l_X_229 iv_X_existingCard 0 (by decide) rfl (by assumption) (by decide) (by decide) (by decide) (Nat.le_of_ble_eq_true rfl) d_X_replace_2 (c_X_existingCard hx (by omega) (fun a pa la hBa fa ga ea => ?_) (fun hBa => ?_))
  · refine g_retn ?_
    have ca := g_imm (E := E) (w := w) fa
    have da := g_imm (E := E) (w := w) ga
    obtain ⟨q1, q2, q3, q4, q5⟩ := ok8 x hBa
    have oq := ok7 (zC (cN c) x).1 q1
    have hlen := q5.1
    have hdm := dmask_lt q5
    refine g_astore_n (n := 2) (i := 2) rfl (by decide) rfl d_X_replace_5 ?_
    refine g_aload_n (n := 2) (i := 2) rfl rfl d_X_replace_6 ?_
    refine g_callV0 rfl rfl e_C_isSettled l_X_260 iv_C_isSettled 8 (by decide) rfl (by assumption) (by decide) (Nat.zero_le _) (Nat.zero_le _) (Nat.le_of_ble_eq_true rfl) d_X_replace_7 (c_C_isSettled ca (by omega) (fun hS => ?_) (fun hS => ?_))
    · refine g_ret ?_
      refine g_if_ne_i (tgt := 24) (by decide) d_X_replace_10 (by decide) (fun h10 => ?_) (fun h => absurd h (by decide))
      refine x_ISEw c_X_81 xs_275 rfl rfl (Nat.le_of_ble_eq_true rfl) (by omega) (by omega) d_X_replace_24 d_X_replace_27 d_X_replace_28 d_X_replace_31 d_X_replace_34 ?_
      exact hQ _ _ _ _ (by unfold eRep; first | (rw [if_neg hBa]; done) | (rw [if_pos hBa, if_pos (Or.inl hS)]; done) | (rw [if_pos hBa, if_pos (Or.inr hR)]; done)) (XN.refl hx)
    · refine g_ret ?_
      refine g_if_ne_i (tgt := 24) (by decide) d_X_replace_10 (by decide) (fun h => absurd h (by decide)) (fun h10 => ?_)
      refine g_aload_n (n := 0) (i := 0) rfl rfl d_X_replace_13 ?_
      refine g_getfield 0 0 f_X_12 (by assumption) (by rfl) d_X_replace_14 ?_
      refine g_iconst_i d_X_replace_17 ?_
      refine g_callV1 rfl rfl e_R_hasRoomForCards l_X_220 iv_R_hasRoomForCards 1 (by decide) rfl (by assumption) (by decide) (Nat.zero_le _) (Nat.zero_le _) (Nat.le_of_ble_eq_true rfl) d_X_replace_18 (c_R_hasRoomForCards (x := 1) r1 (by omega) (fun hR => ?_) (fun hR => ?_))
      · refine g_ret ?_
        refine g_if_ne_i (tgt := 35) (by decide) d_X_replace_21 (by decide) (fun h21 => ?_) (fun h => absurd h (by decide))
        refine g_aload_n (n := 0) (i := 0) rfl rfl d_X_replace_35 ?_
        refine g_getfield 0 2 f_X_22 (by assumption) (by rfl) d_X_replace_36 ?_
        refine g_aload_n (n := 0) (i := 0) rfl rfl d_X_replace_39 ?_
        refine g_getfield 0 0 f_X_12 (by assumption) (by rfl) d_X_replace_40 ?_
        refine g_callV1 rfl rfl e_H_record l_X_86 iv_H_record 2 (by decide) rfl (by assumption) (by decide) (Nat.zero_le _) (Nat.zero_le _) (Nat.le_of_ble_eq_true rfl) d_X_replace_43 (c_H_record hx (fun w im hN => ?_))
        refine g_retv ?_
        have hx := hN.2.2
        have hx9 := hx
        obtain ⟨⟨hn, x0, x1, x2, x3, x4, x5, m61, x6⟩, ⟨r1, r2, r3⟩, o1, o2, o3, o4⟩ := hx9
        have k0 : g_cell E w im (gad E 0) _ := g_mut 0 (by omega) x0
        have k1 : g_cell E w im (gad E 56) _ := g_mut 56 (by omega) x1
        have k2 : g_cell E w im (gad E 57) _ := g_mut 57 (by omega) x2
        have k3 : g_cell E w im (gad E 58) _ := g_mut 58 (by omega) x3
        have k4 : g_cell E w im (gad E 59) _ := g_mut 59 (by omega) x4
        have k5 : g_cell E w im (gad E 60) _ := g_mut 60 (by omega) x5
        have k6 : g_cell E w im (gad E 61) _ := g_mut 61 (by omega) x6
        have kn := r1.cell
        have kk := r2.cell
        have r1 : RZ E w im 1 (cN c) := r1
        have kn := r1.cell
        have hz := r1
        have hz9 := hz
        obtain ⟨rg, rp, rc, lc, ⟨hb, h0, h1, h2, h3, h4, hlc⟩, ⟨i1, i2, i3, i4, i5, i6⟩, ok⟩ := hz9
        obtain ⟨ok1, ok2, ok3, ok4, ok5, ok6, ok7, ok8, ok9⟩ := ok
        have co : g_cell E w im (gad E 1) (resE E 1 (cN c)) := g_mut 1 (by omega) h0
        have cg : g_cell E w im (gad E (1 + 1)) (rowE 4 12 rg) := g_mut (1 + 1) (by omega) h1
        have cp : g_cell E w im (gad E (1 + 2)) (rowE 5 8 rp) := g_mut (1 + 2) (by omega) h2
        have cc : g_cell E w im (gad E (1 + 3)) (rowE 6 20 rc) := g_mut (1 + 3) (by omega) h3
        have cl : g_cell E w im (gad E (1 + 4)) (intE 372 lc) := g_mut (1 + 4) (by omega) h4
        have fa := hN.2.1 _ _ fa
        have ga := hN.2.1 _ _ ga
        have ea := ea.mono hN.2.1
        refine g_aload_n (n := 0) (i := 0) rfl rfl d_X_replace_46 ?_
        refine g_getfield 0 0 f_X_12 (by assumption) (by rfl) d_X_replace_47 ?_
        refine g_aload_n (n := 2) (i := 2) rfl rfl d_X_replace_50 ?_
        refine g_callV1 rfl rfl e_R_exchange l_X_277 iv_R_exchange 1 (by decide) rfl (by assumption) (by decide) (by decide) (by decide) (Nat.le_of_ble_eq_true rfl) d_X_replace_51 (c_R_exchange r1 hBa fa ga ea (by omega) (fun w2 im2 hN2 => ?_))
        refine g_retn ?_
        refine g_ireturn_i rfl d_X_replace_54 ?_
        exact hQ _ _ _ _ (by unfold eRep; first | (rw [if_pos hBa, if_neg (fun h => h.elim hS (fun h => h hR))]; done)) (hN.trans (hx.sN hN2))
      · refine g_ret ?_
        refine g_if_ne_i (tgt := 35) (by decide) d_X_replace_21 (by decide) (fun h => absurd h (by decide)) (fun h21 => ?_)
        refine x_ISEw c_X_81 xs_275 rfl rfl (Nat.le_of_ble_eq_true rfl) (by omega) (by omega) d_X_replace_24 d_X_replace_27 d_X_replace_28 d_X_replace_31 d_X_replace_34 ?_
        exact hQ _ _ _ _ (by unfold eRep; first | (rw [if_neg hBa]; done) | (rw [if_pos hBa, if_pos (Or.inl hS)]; done) | (rw [if_pos hBa, if_pos (Or.inr hR)]; done)) (XN.refl hx)
  · refine g_retx ?_
    exact hQ _ _ _ _ (by unfold eRep; first | (rw [if_neg hBa]; done) | (rw [if_pos hBa, if_pos (Or.inl hS)]; done) | (rw [if_pos hBa, if_pos (Or.inr hR)]; done)) (XN.refl hx)

theorem c_X_refund {E : gE} {w : gW} {im : gIm} {Q : gQ} {c : CSt} (hx : XW E w im c) {x : Int} (rx : -2147483648 ≤ x ∧ x < 2147483648) (hQ : ∀ o c2 w' im', (o, c2) = eRef c x → XN E w im c2 w' im' → Q (o) w' im') : GM E 5 y_X_refund m_X_refund 2 12 [.ref (gad E 0), .int (iI x)] w im Q := by
  have hx9 := hx
  obtain ⟨⟨hn, x0, x1, x2, x3, x4, x5, m61, x6⟩, ⟨r1, r2, r3⟩, o1, o2, o3, o4⟩ := hx9
  have k0 : g_cell E w im (gad E 0) _ := g_mut 0 (by omega) x0
  have k1 : g_cell E w im (gad E 56) _ := g_mut 56 (by omega) x1
  have k2 : g_cell E w im (gad E 57) _ := g_mut 57 (by omega) x2
  have k3 : g_cell E w im (gad E 58) _ := g_mut 58 (by omega) x3
  have k4 : g_cell E w im (gad E 59) _ := g_mut 59 (by omega) x4
  have k5 : g_cell E w im (gad E 60) _ := g_mut 60 (by omega) x5
  have k6 : g_cell E w im (gad E 61) _ := g_mut 61 (by omega) x6
  have kn := r1.cell
  have kk := r2.cell
  have hz := r1
  have hz9 := hz
  obtain ⟨rg, rp, rc, lc, ⟨hb, h0, h1, h2, h3, h4, hlc⟩, ⟨i1, i2, i3, i4, i5, i6⟩, ok⟩ := hz9
  obtain ⟨ok1, ok2, ok3, ok4, ok5, ok6, ok7, ok8, ok9⟩ := ok
  have co : g_cell E w im (gad E 1) (resE E 1 (cN c)) := g_mut 1 (by omega) h0
  have cg : g_cell E w im (gad E (1 + 1)) (rowE 4 12 rg) := g_mut (1 + 1) (by omega) h1
  have cp : g_cell E w im (gad E (1 + 2)) (rowE 5 8 rp) := g_mut (1 + 2) (by omega) h2
  have cc : g_cell E w im (gad E (1 + 3)) (rowE 6 20 rc) := g_mut (1 + 3) (by omega) h3
  have cl : g_cell E w im (gad E (1 + 4)) (intE 372 lc) := g_mut (1 + 4) (by omega) h4
  have o39 := o3
  obtain ⟨oa1, oa2, oa3, oa4⟩ := o39
  refine g_enter (by decide) rfl rfl (fun h => by first | rfl | cases h) (Nat.le_of_ble_eq_true rfl) rfl ?_
  refine g_aload_n (n := 0) (i := 0) rfl rfl d_X_refund_0 ?_
  refine g_iload_n (n := 1) (i := 1) rfl rfl d_X_refund_1 ?_
  refine g_callV1 rfl rfl e_X_existingCard l_X_229 iv_X_existingCard 0 (by decide) rfl (by assumption) (by decide) (by decide) (by decide) (Nat.le_of_ble_eq_true rfl) d_X_refund_2 (c_X_existingCard hx (by omega) (fun a pa la hBa fa ga ea => ?_) (fun hBa => ?_))
  · refine g_retn ?_
    have ca := g_imm (E := E) (w := w) fa
    have da := g_imm (E := E) (w := w) ga
    obtain ⟨q1, q2, q3, q4, q5⟩ := ok8 x hBa
    have oq := ok7 (zC (cN c) x).1 q1
    have hlen := q5.1
    have hdm := dmask_lt q5
    refine g_astore_n (n := 2) (i := 2) rfl (by decide) rfl d_X_refund_5 ?_
    refine g_aload_n (n := 2) (i := 2) rfl rfl d_X_refund_6 ?_
    refine g_callV0 rfl rfl e_C_isSettled l_X_260 iv_C_isSettled 8 (by decide) rfl (by assumption) (by decide) (Nat.zero_le _) (Nat.zero_le _) (Nat.le_of_ble_eq_true rfl) d_X_refund_7 (c_C_isSettled ca (by omega) (fun hS => ?_) (fun hS => ?_))
    · refine g_ret ?_
      refine g_if_eq_i (tgt := 24) (by decide) d_X_refund_10 (by decide) (fun h => absurd h (by decide)) (fun h10 => ?_)
      refine x_ISEw c_X_81 xs_266 rfl rfl (Nat.le_of_ble_eq_true rfl) (by omega) (by omega) d_X_refund_13 d_X_refund_16 d_X_refund_17 d_X_refund_20 d_X_refund_23 ?_
      exact hQ _ _ _ _ (by unfold eRef; first | (rw [if_neg hBa]; done) | (rw [if_pos hBa, if_pos hS]; done)) (XN.refl hx)
    · refine g_ret ?_
      refine g_if_eq_i (tgt := 24) (by decide) d_X_refund_10 (by decide) (fun h10 => ?_) (fun h => absurd h (by decide))
      refine g_aload_n (n := 0) (i := 0) rfl rfl d_X_refund_24 ?_
      refine g_getfield 0 2 f_X_22 (by assumption) (by rfl) d_X_refund_25 ?_
      refine g_aload_n (n := 0) (i := 0) rfl rfl d_X_refund_28 ?_
      refine g_getfield 0 0 f_X_12 (by assumption) (by rfl) d_X_refund_29 ?_
      refine g_callV1 rfl rfl e_H_record l_X_86 iv_H_record 2 (by decide) rfl (by assumption) (by decide) (Nat.zero_le _) (Nat.zero_le _) (Nat.le_of_ble_eq_true rfl) d_X_refund_32 (c_H_record hx (fun w im hN => ?_))
      refine g_retv ?_
      have hx := hN.2.2
      have hx9 := hx
      obtain ⟨⟨hn, x0, x1, x2, x3, x4, x5, m61, x6⟩, ⟨r1, r2, r3⟩, o1, o2, o3, o4⟩ := hx9
      have k0 : g_cell E w im (gad E 0) _ := g_mut 0 (by omega) x0
      have k1 : g_cell E w im (gad E 56) _ := g_mut 56 (by omega) x1
      have k2 : g_cell E w im (gad E 57) _ := g_mut 57 (by omega) x2
      have k3 : g_cell E w im (gad E 58) _ := g_mut 58 (by omega) x3
      have k4 : g_cell E w im (gad E 59) _ := g_mut 59 (by omega) x4
      have k5 : g_cell E w im (gad E 60) _ := g_mut 60 (by omega) x5
      have k6 : g_cell E w im (gad E 61) _ := g_mut 61 (by omega) x6
      have kn := r1.cell
      have kk := r2.cell
      have r1 : RZ E w im 1 (cN c) := r1
      have kn := r1.cell
      have hz := r1
      have hz9 := hz
      obtain ⟨rg, rp, rc, lc, ⟨hb, h0, h1, h2, h3, h4, hlc⟩, ⟨i1, i2, i3, i4, i5, i6⟩, ok⟩ := hz9
      obtain ⟨ok1, ok2, ok3, ok4, ok5, ok6, ok7, ok8, ok9⟩ := ok
      have co : g_cell E w im (gad E 1) (resE E 1 (cN c)) := g_mut 1 (by omega) h0
      have cg : g_cell E w im (gad E (1 + 1)) (rowE 4 12 rg) := g_mut (1 + 1) (by omega) h1
      have cp : g_cell E w im (gad E (1 + 2)) (rowE 5 8 rp) := g_mut (1 + 2) (by omega) h2
      have cc : g_cell E w im (gad E (1 + 3)) (rowE 6 20 rc) := g_mut (1 + 3) (by omega) h3
      have cl : g_cell E w im (gad E (1 + 4)) (intE 372 lc) := g_mut (1 + 4) (by omega) h4
      have fa := hN.2.1 _ _ fa
      have ga := hN.2.1 _ _ ga
      have ea := ea.mono hN.2.1
      refine g_aload_n (n := 0) (i := 0) rfl rfl d_X_refund_35 ?_
      refine g_getfield 0 0 f_X_12 (by assumption) (by rfl) d_X_refund_36 ?_
      refine g_aload_n (n := 2) (i := 2) rfl rfl d_X_refund_39 ?_
      refine g_callV1 rfl rfl e_R_payBack l_X_334 iv_R_payBack 1 (by decide) rfl (by assumption) (by decide) (by decide) (by decide) (Nat.le_of_ble_eq_true rfl) d_X_refund_40 (c_R_payBack r1 hBa fa ga ea (fun w2 im2 hN2 => ?_))
      refine g_retn ?_
      refine g_ireturn_i rfl d_X_refund_43 ?_
      exact hQ _ _ _ _ (by unfold eRef; rw [if_pos hBa, if_neg hS]; rfl) (hN.trans (hx.sN hN2))
  · refine g_retx ?_
    exact hQ _ _ _ _ (by unfold eRef; first | (rw [if_neg hBa]; done) | (rw [if_pos hBa, if_pos hS]; done)) (XN.refl hx)

theorem c_X_pass {E : gE} {w : gW} {im : gIm} {Q : gQ} {c : CSt} (hx : XW E w im c) {x y : Int} (rx : -2147483648 ≤ x ∧ x < 2147483648) (ry : -2147483648 ≤ y ∧ y < 2147483648) (hrl : isC (cN c) x → (zC (cN c) x).2.2.2.2.length < 1000) (hQ : ∀ o c2 w' im', (o, c2) = ePass c x y → XN E w im c2 w' im' → Q (o) w' im') : GM E 4 y_X_pass m_X_pass 4 24 [.ref (gad E 0), .int (iI x), .int (iI y)] w im Q := by
  have hx9 := hx
  obtain ⟨⟨hn, x0, x1, x2, x3, x4, x5, m61, x6⟩, ⟨r1, r2, r3⟩, o1, o2, o3, o4⟩ := hx9
  have k0 : g_cell E w im (gad E 0) _ := g_mut 0 (by omega) x0
  have k1 : g_cell E w im (gad E 56) _ := g_mut 56 (by omega) x1
  have k2 : g_cell E w im (gad E 57) _ := g_mut 57 (by omega) x2
  have k3 : g_cell E w im (gad E 58) _ := g_mut 58 (by omega) x3
  have k4 : g_cell E w im (gad E 59) _ := g_mut 59 (by omega) x4
  have k5 : g_cell E w im (gad E 60) _ := g_mut 60 (by omega) x5
  have k6 : g_cell E w im (gad E 61) _ := g_mut 61 (by omega) x6
  have kn := r1.cell
  have kk := r2.cell
  have hz := r1
  have hz9 := hz
  obtain ⟨rg, rp, rc, lc, ⟨hb, h0, h1, h2, h3, h4, hlc⟩, ⟨i1, i2, i3, i4, i5, i6⟩, ok⟩ := hz9
  obtain ⟨ok1, ok2, ok3, ok4, ok5, ok6, ok7, ok8, ok9⟩ := ok
  have co : g_cell E w im (gad E 1) (resE E 1 (cN c)) := g_mut 1 (by omega) h0
  have cg : g_cell E w im (gad E (1 + 1)) (rowE 4 12 rg) := g_mut (1 + 1) (by omega) h1
  have cp : g_cell E w im (gad E (1 + 2)) (rowE 5 8 rp) := g_mut (1 + 2) (by omega) h2
  have cc : g_cell E w im (gad E (1 + 3)) (rowE 6 20 rc) := g_mut (1 + 3) (by omega) h3
  have cl : g_cell E w im (gad E (1 + 4)) (intE 372 lc) := g_mut (1 + 4) (by omega) h4
  have o39 := o3
  obtain ⟨oa1, oa2, oa3, oa4⟩ := o39
  refine g_enter (by decide) rfl rfl (fun h => by first | rfl | cases h) (Nat.le_of_ble_eq_true rfl) rfl ?_
  refine g_aload_n (n := 0) (i := 0) rfl rfl d_X_pass_0 ?_
  refine g_iload_n (n := 1) (i := 1) rfl rfl d_X_pass_1 ?_
  refine g_callV1 rfl rfl e_X_existingCard l_X_229 iv_X_existingCard 0 (by decide) rfl (by assumption) (by decide) (by decide) (by decide) (Nat.le_of_ble_eq_true rfl) d_X_pass_2 (c_X_existingCard hx (by omega) (fun a pa la hBa fa ga ea => ?_) (fun hBa => ?_))
  · refine g_retn ?_
    have ca := g_imm (E := E) (w := w) fa
    have da := g_imm (E := E) (w := w) ga
    obtain ⟨q1, q2, q3, q4, q5⟩ := ok8 x hBa
    have oq := ok7 (zC (cN c) x).1 q1
    have hlen := q5.1
    have hdm := dmask_lt q5
    refine g_astore_n (n := 3) (i := 3) rfl (by decide) rfl d_X_pass_5 ?_
    refine g_aload_n (n := 0) (i := 0) rfl rfl d_X_pass_6 ?_
    refine g_iload_n (n := 2) (i := 2) rfl rfl d_X_pass_7 ?_
    refine g_callV1 rfl rfl e_X_existingGate l_X_115 iv_X_existingGate 0 (by decide) rfl (by assumption) (by decide) (by decide) (by decide) (Nat.le_of_ble_eq_true rfl) d_X_pass_8 (c_X_existingGate hx (by omega) (fun b hBb fb => ?_) (fun hBb => ?_))
    · refine g_retn ?_
      have cb := g_imm (E := E) (w := w) fb
      have vb := ok6 y hBb
      refine g_astore (i := 4) (by decide) rfl d_X_pass_11 ?_
      refine g_aload_n (n := 0) (i := 0) rfl rfl d_X_pass_13 ?_
      refine g_getfield 0 0 f_X_12 (by assumption) (by rfl) d_X_pass_14 ?_
      refine g_aload_n (n := 3) (i := 3) rfl rfl d_X_pass_17 ?_
      refine g_aload (i := 4) rfl d_X_pass_18 ?_
      refine g_callV2 rfl rfl e_R_reasonAgainst l_X_233 iv_R_reasonAgainst 1 (by decide) rfl (by assumption) (by decide) (Nat.zero_le _) (Nat.zero_le _) (Nat.le_of_ble_eq_true rfl) d_X_pass_20 (c_R_reasonAgainst hz fa ga ea q5 (by omega) oq fb (by omega) ?_)
      refine g_ret ?_
      have hrz : 0 ≤ reasonOf (cN c) x y ∧ reasonOf (cN c) x y ≤ 42 := reasonZ_rng (by omega)
      change G E 4 m_X_pass _ _ [.int (iI (reasonOf (cN c) x y))] _ _ _ _ Q
      refine g_istore (i := 5) (by decide) rfl d_X_pass_23 ?_
      refine g_iload (i := 5) rfl d_X_pass_25 ?_
      change G E 4 m_X_pass _ _ [.int (iI (reasonOf (cN c) x y))] _ _ _ _ Q
      refine g_if_eq_i (tgt := 46) (by omega) d_X_pass_27 (by decide) (fun h27 => ?_) (fun h27 => ?_)
      · refine g_aload_n (n := 0) (i := 0) rfl rfl d_X_pass_46 ?_
        refine g_getfield 0 2 f_X_22 (by assumption) (by rfl) d_X_pass_47 ?_
        refine g_aload_n (n := 0) (i := 0) rfl rfl d_X_pass_50 ?_
        refine g_getfield 0 0 f_X_12 (by assumption) (by rfl) d_X_pass_51 ?_
        refine g_callV1 rfl rfl e_H_record l_X_86 iv_H_record 2 (by decide) rfl (by assumption) (by decide) (Nat.zero_le _) (Nat.zero_le _) (Nat.le_of_ble_eq_true rfl) d_X_pass_54 (c_H_record hx (fun w im hN => ?_))
        refine g_retv ?_
        have hx := hN.2.2
        have hx9 := hx
        obtain ⟨⟨hn, x0, x1, x2, x3, x4, x5, m61, x6⟩, ⟨r1, r2, r3⟩, o1, o2, o3, o4⟩ := hx9
        have k0 : g_cell E w im (gad E 0) _ := g_mut 0 (by omega) x0
        have k1 : g_cell E w im (gad E 56) _ := g_mut 56 (by omega) x1
        have k2 : g_cell E w im (gad E 57) _ := g_mut 57 (by omega) x2
        have k3 : g_cell E w im (gad E 58) _ := g_mut 58 (by omega) x3
        have k4 : g_cell E w im (gad E 59) _ := g_mut 59 (by omega) x4
        have k5 : g_cell E w im (gad E 60) _ := g_mut 60 (by omega) x5
        have k6 : g_cell E w im (gad E 61) _ := g_mut 61 (by omega) x6
        have kn := r1.cell
        have kk := r2.cell
        have r1 : RZ E w im 1 (cN c) := r1
        have kn := r1.cell
        have hz := r1
        have hz9 := hz
        obtain ⟨rg, rp, rc, lc, ⟨hb, h0, h1, h2, h3, h4, hlc⟩, ⟨i1, i2, i3, i4, i5, i6⟩, ok⟩ := hz9
        obtain ⟨ok1, ok2, ok3, ok4, ok5, ok6, ok7, ok8, ok9⟩ := ok
        have co : g_cell E w im (gad E 1) (resE E 1 (cN c)) := g_mut 1 (by omega) h0
        have cg : g_cell E w im (gad E (1 + 1)) (rowE 4 12 rg) := g_mut (1 + 1) (by omega) h1
        have cp : g_cell E w im (gad E (1 + 2)) (rowE 5 8 rp) := g_mut (1 + 2) (by omega) h2
        have cc : g_cell E w im (gad E (1 + 3)) (rowE 6 20 rc) := g_mut (1 + 3) (by omega) h3
        have cl : g_cell E w im (gad E (1 + 4)) (intE 372 lc) := g_mut (1 + 4) (by omega) h4
        have fa := hN.2.1 _ _ fa
        have ga := hN.2.1 _ _ ga
        have ea := ea.mono hN.2.1
        have fb := hN.2.1 _ _ fb
        refine g_aload_n (n := 0) (i := 0) rfl rfl d_X_pass_57 ?_
        refine g_getfield 0 0 f_X_12 (by assumption) (by rfl) d_X_pass_58 ?_
        refine g_aload_n (n := 3) (i := 3) rfl rfl d_X_pass_61 ?_
        refine g_aload (i := 4) rfl d_X_pass_62 ?_
        refine g_callV2 rfl rfl e_R_addRide l_X_242 iv_R_addRide 1 (by decide) rfl (by assumption) (by decide) (by decide) (by decide) (Nat.le_of_ble_eq_true rfl) d_X_pass_64 (c_R_addRide r1 hBa fa ga ea fb (by omega) (hrl hBa) (fun w2 im2 hN2 => ?_))
        refine g_retn ?_
        refine g_ireturn_i rfl d_X_pass_67 ?_
        exact hQ _ _ _ _ (by unfold ePass; first | (rw [if_pos ⟨hBa, hBb⟩, if_pos (by omega)]; done)) (hN.trans (hx.sN hN2))
      · refine g_aload_n (n := 0) (i := 0) rfl rfl d_X_pass_30 ?_
        refine g_iload (i := 5) rfl d_X_pass_31 ?_
        refine g_putA 0 6 0 (by omega) x0 f_X_44 (Or.inl rfl) (by rfl) (by rfl) (Nat.le_of_ble_eq_true rfl) d_X_pass_33 (fun w hs hn9 => ?_)
        have hN3 := hx.sF (f := ((cF c).1, reasonOf (cN c) x y, (cF c).2.2)) hs hn9 ⟨oa1, hrz, oa3, oa4⟩
        refine x_UOE c_X_237 xs_239 rfl rfl (Nat.le_of_ble_eq_true rfl) (by omega) (by omega) d_X_pass_36 d_X_pass_39 d_X_pass_40 d_X_pass_42 d_X_pass_45 ?_
        exact hQ _ _ _ _ (by unfold ePass; first | (rw [if_pos ⟨hBa, hBb⟩, if_neg (by omega)]; done)) (hN3)
    · refine g_retx ?_
      exact hQ _ _ _ _ (by unfold ePass; first | (rw [if_neg (fun h => hBa h.1)]; done) | (rw [if_neg (fun h => hBb h.2)]; done)) (XN.refl hx)
  · refine g_retx ?_
    exact hQ _ _ _ _ (by unfold ePass; first | (rw [if_neg (fun h => hBa h.1)]; done) | (rw [if_neg (fun h => hBb h.2)]; done)) (XN.refl hx)

theorem c_X_addGate {E : gE} {w : gW} {im : gIm} {Q : gQ} {c : CSt} (hx : XW E w im c) {pa x : Int} (rpa : -2147483648 ≤ pa ∧ pa < 2147483648) (rx : -2147483648 ≤ x ∧ x < 2147483648) (hQ : ∀ o c2 w' im', (o, c2) = eAddG c pa x → XN E w im c2 w' im' → Q (o) w' im') : GM E 3 y_X_addGate m_X_addGate 1 6 [.ref (gad E 0), .int (iI pa), .int (iI x)] w im Q := by
  have hx9 := hx
  obtain ⟨⟨hn, x0, x1, x2, x3, x4, x5, m61, x6⟩, ⟨r1, r2, r3⟩, o1, o2, o3, o4⟩ := hx9
  have k0 : g_cell E w im (gad E 0) _ := g_mut 0 (by omega) x0
  have k1 : g_cell E w im (gad E 56) _ := g_mut 56 (by omega) x1
  have k2 : g_cell E w im (gad E 57) _ := g_mut 57 (by omega) x2
  have k3 : g_cell E w im (gad E 58) _ := g_mut 58 (by omega) x3
  have k4 : g_cell E w im (gad E 59) _ := g_mut 59 (by omega) x4
  have k5 : g_cell E w im (gad E 60) _ := g_mut 60 (by omega) x5
  have k6 : g_cell E w im (gad E 61) _ := g_mut 61 (by omega) x6
  have kn := r1.cell
  have kk := r2.cell
  have hz := r1
  have hz9 := hz
  obtain ⟨rg, rp, rc, lc, ⟨hb, h0, h1, h2, h3, h4, hlc⟩, ⟨i1, i2, i3, i4, i5, i6⟩, ok⟩ := hz9
  obtain ⟨ok1, ok2, ok3, ok4, ok5, ok6, ok7, ok8, ok9⟩ := ok
  have co : g_cell E w im (gad E 1) (resE E 1 (cN c)) := g_mut 1 (by omega) h0
  have cg : g_cell E w im (gad E (1 + 1)) (rowE 4 12 rg) := g_mut (1 + 1) (by omega) h1
  have cp : g_cell E w im (gad E (1 + 2)) (rowE 5 8 rp) := g_mut (1 + 2) (by omega) h2
  have cc : g_cell E w im (gad E (1 + 3)) (rowE 6 20 rc) := g_mut (1 + 3) (by omega) h3
  have cl : g_cell E w im (gad E (1 + 4)) (intE 372 lc) := g_mut (1 + 4) (by omega) h4
  have o39 := o3
  obtain ⟨oa1, oa2, oa3, oa4⟩ := o39
  refine g_enter (by decide) rfl rfl (fun h => by first | rfl | cases h) (Nat.le_of_ble_eq_true rfl) rfl ?_
  refine g_iload_n (n := 1) (i := 1) rfl rfl d_X_addGate_0 ?_
  refine g_callS1 rfl rfl e_X_isPartner l_X_63 st_X_isPartner (by decide) (Nat.zero_le _) (Nat.zero_le _) (Nat.le_of_ble_eq_true rfl) d_X_addGate_1 (c_X_isPartner rpa (fun hP => ?_) (fun hP => ?_))
  · refine g_ret ?_
    refine g_if_eq_i (tgt := 17) (by decide) d_X_addGate_4 (by decide) (fun h => absurd h (by decide)) (fun h4 => ?_)
    refine g_iload_n (n := 2) (i := 2) rfl rfl d_X_addGate_7 ?_
    refine g_iconst_i d_X_addGate_8 ?_
    refine g_bipush_i (by decide) d_X_addGate_9 ?_
    refine g_callS3 rfl rfl e_X_isBetween l_X_67 st_X_isBetween (by decide) (Nat.zero_le _) (Nat.zero_le _) (Nat.le_of_ble_eq_true rfl) d_X_addGate_11 (c_X_isBetween rx (by omega) (by omega) (fun hB => ?_) (fun hB => ?_))
    · refine g_ret ?_
      refine g_if_ne_i (tgt := 27) (by decide) d_X_addGate_14 (by decide) (fun h14 => ?_) (fun h => absurd h (by decide))
      refine g_aload_n (n := 0) (i := 0) rfl rfl d_X_addGate_27 ?_
      refine g_getfield 0 0 f_X_12 (by first | assumption | exact g_mut _ (by omega) (by assumption) | exact (r1.mono (fun _ _ => rfl) (fun _ _ h => im_new h hq1)).cell) (by rfl) d_X_addGate_28 ?_
      refine g_getfield 1 4 f_X_78 (by first | assumption | exact g_mut _ (by omega) (by assumption) | exact (r1.mono (fun _ _ => rfl) (fun _ _ h => im_new h hq1)).cell) (by rfl) d_X_addGate_31 ?_
      refine g_bipush_i (by decide) d_X_addGate_34 ?_
      refine g_icmp_lt_i (tgt := 49) (by omega) (by decide) d_X_addGate_36 (by decide) (fun h36 => ?_) (fun h36 => ?_)
      · refine g_aload_n (n := 0) (i := 0) rfl rfl d_X_addGate_49 ?_
        refine g_getfield 0 2 f_X_22 (by first | assumption | exact g_mut _ (by omega) (by assumption) | exact (r1.mono (fun _ _ => rfl) (fun _ _ h => im_new h hq1)).cell) (by rfl) d_X_addGate_50 ?_
        refine g_aload_n (n := 0) (i := 0) rfl rfl d_X_addGate_53 ?_
        refine g_getfield 0 0 f_X_12 (by first | assumption | exact g_mut _ (by omega) (by assumption) | exact (r1.mono (fun _ _ => rfl) (fun _ _ h => im_new h hq1)).cell) (by rfl) d_X_addGate_54 ?_
        refine g_callV1 rfl rfl e_H_record l_X_86 iv_H_record 2 (by decide) rfl (by first | assumption | exact g_mut _ (by omega) (by assumption) | exact (r1.mono (fun _ _ => rfl) (fun _ _ h => im_new h hq1)).cell) (by decide) (Nat.zero_le _) (Nat.zero_le _) (Nat.le_of_ble_eq_true rfl) d_X_addGate_57 (c_H_record hx (fun w im hN => ?_))
        refine g_retv ?_
        have hx := hN.2.2
        have hx9 := hx
        obtain ⟨⟨hn, x0, x1, x2, x3, x4, x5, m61, x6⟩, ⟨r1, r2, r3⟩, o1, o2, o3, o4⟩ := hx9
        have k0 : g_cell E w im (gad E 0) _ := g_mut 0 (by omega) x0
        have k1 : g_cell E w im (gad E 56) _ := g_mut 56 (by omega) x1
        have k2 : g_cell E w im (gad E 57) _ := g_mut 57 (by omega) x2
        have k3 : g_cell E w im (gad E 58) _ := g_mut 58 (by omega) x3
        have k4 : g_cell E w im (gad E 59) _ := g_mut 59 (by omega) x4
        have k5 : g_cell E w im (gad E 60) _ := g_mut 60 (by omega) x5
        have k6 : g_cell E w im (gad E 61) _ := g_mut 61 (by omega) x6
        have kn := r1.cell
        have kk := r2.cell
        have r1 : RZ E w im 1 (cN c) := r1
        have kn := r1.cell
        have hz := r1
        have hz9 := hz
        obtain ⟨rg, rp, rc, lc, ⟨hb, h0, h1, h2, h3, h4, hlc⟩, ⟨i1, i2, i3, i4, i5, i6⟩, ok⟩ := hz9
        obtain ⟨ok1, ok2, ok3, ok4, ok5, ok6, ok7, ok8, ok9⟩ := ok
        have co : g_cell E w im (gad E 1) (resE E 1 (cN c)) := g_mut 1 (by omega) h0
        have cg : g_cell E w im (gad E (1 + 1)) (rowE 4 12 rg) := g_mut (1 + 1) (by omega) h1
        have cp : g_cell E w im (gad E (1 + 2)) (rowE 5 8 rp) := g_mut (1 + 2) (by omega) h2
        have cc : g_cell E w im (gad E (1 + 3)) (rowE 6 20 rc) := g_mut (1 + 3) (by omega) h3
        have cl : g_cell E w im (gad E (1 + 4)) (intE 372 lc) := g_mut (1 + 4) (by omega) h4
        refine g_aload_n (n := 0) (i := 0) rfl rfl d_X_addGate_60 ?_
        refine g_getfield 0 0 f_X_12 (by first | assumption | exact g_mut _ (by omega) (by assumption) | exact (r1.mono (fun _ _ => rfl) (fun _ _ h => im_new h hq1)).cell) (by rfl) d_X_addGate_61 ?_
        refine g_new 5 (by decide) c_X_90 ni_G.1 ni_G.2 (by first | decide | omega) (by first | decide | omega) d_X_addGate_64 (fun q hq1 hq2 => ?_)
        refine g_dup rfl d_X_addGate_67 ?_
        refine g_aload_n (n := 0) (i := 0) rfl rfl d_X_addGate_68 ?_
        refine g_getfield 0 0 f_X_12 (by first | assumption | exact g_mut _ (by omega) (by assumption) | exact (r1.mono (fun _ _ => rfl) (fun _ _ h => im_new h hq1)).cell) (by rfl) d_X_addGate_69 ?_
        refine g_getfield 1 4 f_X_78 (by first | assumption | exact g_mut _ (by omega) (by assumption) | exact (r1.mono (fun _ _ => rfl) (fun _ _ h => im_new h hq1)).cell) (by rfl) d_X_addGate_72 ?_
        refine g_iload_n (n := 1) (i := 1) rfl rfl d_X_addGate_75 ?_
        refine g_iload_n (n := 2) (i := 2) rfl rfl d_X_addGate_76 ?_
        refine g_callI3 rfl rfl e_G_init l_X_92 is_G_init rfl (by decide) (Nat.zero_le _) (Nat.zero_le _) (Nat.le_of_ble_eq_true rfl) d_X_addGate_77 (c_G_init vf_us ?_)
        refine g_retv ?_
        rw [vf_uu]
        refine g_callV1 rfl rfl e_R_insertGate l_X_95 iv_R_insertGate 1 (by decide) rfl (r1.mono (fun _ _ => rfl) (fun _ _ h => im_new h hq1)).cell (by decide) (Nat.zero_le _) (Nat.zero_le _) (Nat.le_of_ble_eq_true rfl) d_X_addGate_80 (c_R_insertGate (b := 1) (r1.mono (fun _ _ => rfl) (fun _ _ h => im_new h hq1)) vf_us (by omega) (by omega) (fun w2 im2 hN2 => ?_))
        refine g_ret ?_
        refine g_ireturn_i rfl d_X_addGate_83 ?_
        exact hQ _ _ _ _ (by unfold eAddG; first | (rw [if_pos ⟨hP, hB⟩, if_pos (by omega)]; done)) (hN.trans (hx.sN (hN2.im (fun _ _ h => im_new h hq1))))
      · refine x_ISE c_X_81 xs_83 rfl rfl (Nat.le_of_ble_eq_true rfl) (by omega) (by omega) d_X_addGate_39 d_X_addGate_42 d_X_addGate_43 d_X_addGate_45 d_X_addGate_48 ?_
        exact hQ _ _ _ _ (by unfold eAddG; first | (rw [if_neg (fun h => hP h.1)]; done) | (rw [if_neg (fun h => hB h.2)]; done) | (rw [if_pos ⟨hP, hB⟩, if_neg (by omega)]; done)) (XN.refl hx)
    · refine g_ret ?_
      refine g_if_ne_i (tgt := 27) (by decide) d_X_addGate_14 (by decide) (fun h => absurd h (by decide)) (fun h14 => ?_)
      refine x_IAE c_X_71 xs_73 rfl rfl (Nat.le_of_ble_eq_true rfl) (by omega) (by omega) d_X_addGate_17 d_X_addGate_20 d_X_addGate_21 d_X_addGate_23 d_X_addGate_26 ?_
      exact hQ _ _ _ _ (by unfold eAddG; first | (rw [if_neg (fun h => hP h.1)]; done) | (rw [if_neg (fun h => hB h.2)]; done) | (rw [if_pos ⟨hP, hB⟩, if_neg (by omega)]; done)) (XN.refl hx)
  · refine g_ret ?_
    refine g_if_eq_i (tgt := 17) (by decide) d_X_addGate_4 (by decide) (fun h4 => ?_) (fun h => absurd h (by decide))
    refine x_IAE c_X_71 xs_73 rfl rfl (Nat.le_of_ble_eq_true rfl) (by omega) (by omega) d_X_addGate_17 d_X_addGate_20 d_X_addGate_21 d_X_addGate_23 d_X_addGate_26 ?_
    exact hQ _ _ _ _ (by unfold eAddG; first | (rw [if_neg (fun h => hP h.1)]; done) | (rw [if_neg (fun h => hB h.2)]; done) | (rw [if_pos ⟨hP, hB⟩, if_neg (by omega)]; done)) (XN.refl hx)

theorem c_X_addProduct {E : gE} {w : gW} {im : gIm} {Q : gQ} {c : CSt} (hx : XW E w im c) {kd am fh lh ps pr : Int} (rkd : -2147483648 ≤ kd ∧ kd < 2147483648) (ram : -2147483648 ≤ am ∧ am < 2147483648) (rfh : -2147483648 ≤ fh ∧ fh < 2147483648) (rlh : -2147483648 ≤ lh ∧ lh < 2147483648) (rps : -2147483648 ≤ ps ∧ ps < 2147483648) (rpr : -2147483648 ≤ pr ∧ pr < 2147483648) (hQ : ∀ o c2 w' im', (o, c2) = eAddP c (kd, am, fh, lh, ps, pr) → XN E w im c2 w' im' → Q (o) w' im') : GM E 3 y_X_addProduct m_X_addProduct 1 7 [.ref (gad E 0), .int (iI kd), .int (iI am), .int (iI fh), .int (iI lh), .int (iI ps), .int (iI pr)] w im Q := by
  have hx9 := hx
  obtain ⟨⟨hn, x0, x1, x2, x3, x4, x5, m61, x6⟩, ⟨r1, r2, r3⟩, o1, o2, o3, o4⟩ := hx9
  have k0 : g_cell E w im (gad E 0) _ := g_mut 0 (by omega) x0
  have k1 : g_cell E w im (gad E 56) _ := g_mut 56 (by omega) x1
  have k2 : g_cell E w im (gad E 57) _ := g_mut 57 (by omega) x2
  have k3 : g_cell E w im (gad E 58) _ := g_mut 58 (by omega) x3
  have k4 : g_cell E w im (gad E 59) _ := g_mut 59 (by omega) x4
  have k5 : g_cell E w im (gad E 60) _ := g_mut 60 (by omega) x5
  have k6 : g_cell E w im (gad E 61) _ := g_mut 61 (by omega) x6
  have kn := r1.cell
  have kk := r2.cell
  have hz := r1
  have hz9 := hz
  obtain ⟨rg, rp, rc, lc, ⟨hb, h0, h1, h2, h3, h4, hlc⟩, ⟨i1, i2, i3, i4, i5, i6⟩, ok⟩ := hz9
  obtain ⟨ok1, ok2, ok3, ok4, ok5, ok6, ok7, ok8, ok9⟩ := ok
  have co : g_cell E w im (gad E 1) (resE E 1 (cN c)) := g_mut 1 (by omega) h0
  have cg : g_cell E w im (gad E (1 + 1)) (rowE 4 12 rg) := g_mut (1 + 1) (by omega) h1
  have cp : g_cell E w im (gad E (1 + 2)) (rowE 5 8 rp) := g_mut (1 + 2) (by omega) h2
  have cc : g_cell E w im (gad E (1 + 3)) (rowE 6 20 rc) := g_mut (1 + 3) (by omega) h3
  have cl : g_cell E w im (gad E (1 + 4)) (intE 372 lc) := g_mut (1 + 4) (by omega) h4
  have o39 := o3
  obtain ⟨oa1, oa2, oa3, oa4⟩ := o39
  refine g_enter (by decide) rfl rfl (fun h => by first | rfl | cases h) (Nat.le_of_ble_eq_true rfl) rfl ?_
  refine g_iload_n (n := 3) (i := 3) rfl rfl d_X_addProduct_0 ?_
  refine g_iconst_i d_X_addProduct_1 ?_
  refine g_bipush_i (by decide) d_X_addProduct_2 ?_
  refine g_callS3 rfl rfl e_X_isBetween l_X_67 st_X_isBetween (by decide) (Nat.zero_le _) (Nat.zero_le _) (Nat.le_of_ble_eq_true rfl) d_X_addProduct_4 (c_X_isBetween rfh (by omega) (by omega) (fun b1 => ?_) (fun b1 => ?_))
  · refine g_ret ?_
    refine g_if_eq_i (tgt := 25) (by decide) d_X_addProduct_7 (by decide) (fun h => absurd h (by decide)) (fun h7 => ?_)
    refine g_iload (i := 4) rfl d_X_addProduct_10 ?_
    refine g_iload_n (n := 3) (i := 3) rfl rfl d_X_addProduct_12 ?_
    refine g_bipush_i (by decide) d_X_addProduct_13 ?_
    refine g_callS3 rfl rfl e_X_isBetween l_X_67 st_X_isBetween (by decide) (Nat.zero_le _) (Nat.zero_le _) (Nat.le_of_ble_eq_true rfl) d_X_addProduct_15 (c_X_isBetween rlh (by omega) (by omega) (fun b2 => ?_) (fun b2 => ?_))
    · refine g_ret ?_
      refine g_if_eq_i (tgt := 25) (by decide) d_X_addProduct_18 (by decide) (fun h => absurd h (by decide)) (fun h18 => ?_)
      refine g_iconst_i d_X_addProduct_21 ?_
      refine g_goto (tgt := 26) (by decide) d_X_addProduct_22 ?_
      refine g_istore (i := 7) (by decide) rfl d_X_addProduct_26 ?_
      refine g_iload_n (n := 1) (i := 1) rfl rfl d_X_addProduct_28 ?_
      refine g_iconst_i d_X_addProduct_29 ?_
      refine g_iconst_i d_X_addProduct_30 ?_
      refine g_callS3 rfl rfl e_X_isBetween l_X_67 st_X_isBetween (by decide) (Nat.zero_le _) (Nat.zero_le _) (Nat.le_of_ble_eq_true rfl) d_X_addProduct_31 (c_X_isBetween rkd (by omega) (by omega) (fun b3 => ?_) (fun b3 => ?_))
      · refine g_ret ?_
        refine g_if_eq_i (tgt := 74) (by decide) d_X_addProduct_34 (by decide) (fun h => absurd h (by decide)) (fun h34 => ?_)
        refine g_iload_n (n := 2) (i := 2) rfl rfl d_X_addProduct_37 ?_
        refine g_iconst_i d_X_addProduct_38 ?_
        refine g_bipush_i (by decide) d_X_addProduct_39 ?_
        refine g_callS3 rfl rfl e_X_isBetween l_X_67 st_X_isBetween (by decide) (Nat.zero_le _) (Nat.zero_le _) (Nat.le_of_ble_eq_true rfl) d_X_addProduct_41 (c_X_isBetween ram (by omega) (by omega) (fun b4 => ?_) (fun b4 => ?_))
        · refine g_ret ?_
          refine g_if_eq_i (tgt := 74) (by decide) d_X_addProduct_44 (by decide) (fun h => absurd h (by decide)) (fun h44 => ?_)
          refine g_iload (i := 5) rfl d_X_addProduct_47 ?_
          refine g_iconst_i d_X_addProduct_49 ?_
          refine g_bipush_i (by decide) d_X_addProduct_50 ?_
          refine g_callS3 rfl rfl e_X_isBetween l_X_67 st_X_isBetween (by decide) (Nat.zero_le _) (Nat.zero_le _) (Nat.le_of_ble_eq_true rfl) d_X_addProduct_52 (c_X_isBetween rps (by omega) (by omega) (fun b5 => ?_) (fun b5 => ?_))
          · refine g_ret ?_
            refine g_if_eq_i (tgt := 74) (by decide) d_X_addProduct_55 (by decide) (fun h => absurd h (by decide)) (fun h55 => ?_)
            refine g_iload (i := 6) rfl d_X_addProduct_58 ?_
            refine g_iconst_i d_X_addProduct_60 ?_
            refine g_sipush_i (by decide) d_X_addProduct_61 ?_
            refine g_callS3 rfl rfl e_X_isBetween l_X_67 st_X_isBetween (by decide) (Nat.zero_le _) (Nat.zero_le _) (Nat.le_of_ble_eq_true rfl) d_X_addProduct_64 (c_X_isBetween rpr (by omega) (by omega) (fun b6 => ?_) (fun b6 => ?_))
            · refine g_ret ?_
              refine g_if_eq_i (tgt := 74) (by decide) d_X_addProduct_67 (by decide) (fun h => absurd h (by decide)) (fun h67 => ?_)
              refine g_iconst_i d_X_addProduct_70 ?_
              refine g_goto (tgt := 75) (by decide) d_X_addProduct_71 ?_
              refine g_istore (i := 8) (by decide) rfl d_X_addProduct_75 ?_
              refine g_iload (i := 7) rfl d_X_addProduct_77 ?_
              refine g_if_eq_i (tgt := 87) (by decide) d_X_addProduct_79 (by decide) (fun h => absurd h (by decide)) (fun h79 => ?_)
              refine g_iload (i := 8) rfl d_X_addProduct_82 ?_
              refine g_if_ne_i (tgt := 97) (by decide) d_X_addProduct_84 (by decide) (fun h84 => ?_) (fun h => absurd h (by decide))
              refine g_aload_n (n := 0) (i := 0) rfl rfl d_X_addProduct_97 ?_
              refine g_getfield 0 0 f_X_12 (by first | assumption | exact g_mut _ (by omega) (by assumption) | exact (r1.mono (fun _ _ => rfl) (fun _ _ h => im_new h hq1)).cell) (by rfl) d_X_addProduct_98 ?_
              refine g_getfield 1 5 f_X_101 (by first | assumption | exact g_mut _ (by omega) (by assumption) | exact (r1.mono (fun _ _ => rfl) (fun _ _ h => im_new h hq1)).cell) (by rfl) d_X_addProduct_101 ?_
              refine g_bipush_i (by decide) d_X_addProduct_104 ?_
              refine g_icmp_lt_i (tgt := 119) (by omega) (by decide) d_X_addProduct_106 (by decide) (fun h106 => ?_) (fun h106 => ?_)
              · refine g_aload_n (n := 0) (i := 0) rfl rfl d_X_addProduct_119 ?_
                refine g_getfield 0 2 f_X_22 (by first | assumption | exact g_mut _ (by omega) (by assumption) | exact (r1.mono (fun _ _ => rfl) (fun _ _ h => im_new h hq1)).cell) (by rfl) d_X_addProduct_120 ?_
                refine g_aload_n (n := 0) (i := 0) rfl rfl d_X_addProduct_123 ?_
                refine g_getfield 0 0 f_X_12 (by first | assumption | exact g_mut _ (by omega) (by assumption) | exact (r1.mono (fun _ _ => rfl) (fun _ _ h => im_new h hq1)).cell) (by rfl) d_X_addProduct_124 ?_
                refine g_callV1 rfl rfl e_H_record l_X_86 iv_H_record 2 (by decide) rfl (by first | assumption | exact g_mut _ (by omega) (by assumption) | exact (r1.mono (fun _ _ => rfl) (fun _ _ h => im_new h hq1)).cell) (by decide) (Nat.zero_le _) (Nat.zero_le _) (Nat.le_of_ble_eq_true rfl) d_X_addProduct_127 (c_H_record hx (fun w im hN => ?_))
                refine g_retv ?_
                have hx := hN.2.2
                have hx9 := hx
                obtain ⟨⟨hn, x0, x1, x2, x3, x4, x5, m61, x6⟩, ⟨r1, r2, r3⟩, o1, o2, o3, o4⟩ := hx9
                have k0 : g_cell E w im (gad E 0) _ := g_mut 0 (by omega) x0
                have k1 : g_cell E w im (gad E 56) _ := g_mut 56 (by omega) x1
                have k2 : g_cell E w im (gad E 57) _ := g_mut 57 (by omega) x2
                have k3 : g_cell E w im (gad E 58) _ := g_mut 58 (by omega) x3
                have k4 : g_cell E w im (gad E 59) _ := g_mut 59 (by omega) x4
                have k5 : g_cell E w im (gad E 60) _ := g_mut 60 (by omega) x5
                have k6 : g_cell E w im (gad E 61) _ := g_mut 61 (by omega) x6
                have kn := r1.cell
                have kk := r2.cell
                have r1 : RZ E w im 1 (cN c) := r1
                have kn := r1.cell
                have hz := r1
                have hz9 := hz
                obtain ⟨rg, rp, rc, lc, ⟨hb, h0, h1, h2, h3, h4, hlc⟩, ⟨i1, i2, i3, i4, i5, i6⟩, ok⟩ := hz9
                obtain ⟨ok1, ok2, ok3, ok4, ok5, ok6, ok7, ok8, ok9⟩ := ok
                have co : g_cell E w im (gad E 1) (resE E 1 (cN c)) := g_mut 1 (by omega) h0
                have cg : g_cell E w im (gad E (1 + 1)) (rowE 4 12 rg) := g_mut (1 + 1) (by omega) h1
                have cp : g_cell E w im (gad E (1 + 2)) (rowE 5 8 rp) := g_mut (1 + 2) (by omega) h2
                have cc : g_cell E w im (gad E (1 + 3)) (rowE 6 20 rc) := g_mut (1 + 3) (by omega) h3
                have cl : g_cell E w im (gad E (1 + 4)) (intE 372 lc) := g_mut (1 + 4) (by omega) h4
                refine g_aload_n (n := 0) (i := 0) rfl rfl d_X_addProduct_130 ?_
                refine g_getfield 0 0 f_X_12 (by first | assumption | exact g_mut _ (by omega) (by assumption) | exact (r1.mono (fun _ _ => rfl) (fun _ _ h => im_new h hq1)).cell) (by rfl) d_X_addProduct_131 ?_
                refine g_new 6 (by decide) c_X_106 ni_P.1 ni_P.2 (by first | decide | omega) (by first | decide | omega) d_X_addProduct_134 (fun q hq1 hq2 => ?_)
                refine g_dup rfl d_X_addProduct_137 ?_
                refine g_aload_n (n := 0) (i := 0) rfl rfl d_X_addProduct_138 ?_
                refine g_getfield 0 0 f_X_12 (by first | assumption | exact g_mut _ (by omega) (by assumption) | exact (r1.mono (fun _ _ => rfl) (fun _ _ h => im_new h hq1)).cell) (by rfl) d_X_addProduct_139 ?_
                refine g_getfield 1 5 f_X_101 (by first | assumption | exact g_mut _ (by omega) (by assumption) | exact (r1.mono (fun _ _ => rfl) (fun _ _ h => im_new h hq1)).cell) (by rfl) d_X_addProduct_142 ?_
                refine g_iload_n (n := 1) (i := 1) rfl rfl d_X_addProduct_145 ?_
                refine g_iload_n (n := 2) (i := 2) rfl rfl d_X_addProduct_146 ?_
                refine g_iload_n (n := 3) (i := 3) rfl rfl d_X_addProduct_147 ?_
                refine g_iload (i := 4) rfl d_X_addProduct_148 ?_
                refine g_iload (i := 5) rfl d_X_addProduct_150 ?_
                refine g_iload (i := 6) rfl d_X_addProduct_152 ?_
                refine g_callI7 rfl rfl e_P_init l_X_108 is_P_init rfl (by decide) (Nat.zero_le _) (Nat.zero_le _) (Nat.le_of_ble_eq_true rfl) d_X_addProduct_154 (c_P_init vf_us ?_)
                refine g_retv ?_
                rw [vf_uu]
                refine g_callV1 rfl rfl e_R_insertProduct l_X_111 iv_R_insertProduct 1 (by decide) rfl (r1.mono (fun _ _ => rfl) (fun _ _ h => im_new h hq1)).cell (by decide) (Nat.zero_le _) (Nat.zero_le _) (Nat.le_of_ble_eq_true rfl) d_X_addProduct_157 (c_R_insertProduct (b := 1) (q := (kd, am, fh, lh, ps, pr)) (r1.mono (fun _ _ => rfl) (fun _ _ h => im_new h hq1)) vf_us ⟨b3, b4, b1, (show 0 ≤ lh ∧ lh ≤ 23 by omega), b5, b6⟩ (by omega) (fun w2 im2 hN2 => ?_))
                refine g_ret ?_
                refine g_ireturn_i rfl d_X_addProduct_160 ?_
                exact hQ _ _ _ _ (by unfold eAddP; first | (rw [if_pos ⟨⟨b1, b2⟩, b3, b4, b5, b6⟩, if_pos (show zp (cN c) < 8 by omega)]; done)) (hN.trans (hx.sN (hN2.im (fun _ _ h => im_new h hq1))))
              · refine x_ISE c_X_81 xs_104 rfl rfl (Nat.le_of_ble_eq_true rfl) (by omega) (by omega) d_X_addProduct_109 d_X_addProduct_112 d_X_addProduct_113 d_X_addProduct_115 d_X_addProduct_118 ?_
                exact hQ _ _ _ _ (by unfold eAddP; first | (rw [if_neg (fun h => b1 h.1.1)]; done) | (rw [if_neg (fun h => b2 h.1.2)]; done) | (rw [if_neg (fun h => b3 h.2.1)]; done) | (rw [if_neg (fun h => b4 h.2.2.1)]; done) | (rw [if_neg (fun h => b5 h.2.2.2.1)]; done) | (rw [if_neg (fun h => b6 h.2.2.2.2)]; done) | (rw [if_pos ⟨⟨b1, b2⟩, b3, b4, b5, b6⟩, if_neg (show ¬ zp (cN c) < 8 by omega)]; done)) (XN.refl hx)
            · refine g_ret ?_
              refine g_if_eq_i (tgt := 74) (by decide) d_X_addProduct_67 (by decide) (fun h67 => ?_) (fun h => absurd h (by decide))
              refine g_iconst_i d_X_addProduct_74 ?_
              refine g_istore (i := 8) (by decide) rfl d_X_addProduct_75 ?_
              refine g_iload (i := 7) rfl d_X_addProduct_77 ?_
              refine g_if_eq_i (tgt := 87) (by decide) d_X_addProduct_79 (by decide) (fun h => absurd h (by decide)) (fun h79 => ?_)
              refine g_iload (i := 8) rfl d_X_addProduct_82 ?_
              refine g_if_ne_i (tgt := 97) (by decide) d_X_addProduct_84 (by decide) (fun h => absurd h (by decide)) (fun h84 => ?_)
              refine x_IAE c_X_71 xs_99 rfl rfl (Nat.le_of_ble_eq_true rfl) (by omega) (by omega) d_X_addProduct_87 d_X_addProduct_90 d_X_addProduct_91 d_X_addProduct_93 d_X_addProduct_96 ?_
              exact hQ _ _ _ _ (by unfold eAddP; first | (rw [if_neg (fun h => b1 h.1.1)]; done) | (rw [if_neg (fun h => b2 h.1.2)]; done) | (rw [if_neg (fun h => b3 h.2.1)]; done) | (rw [if_neg (fun h => b4 h.2.2.1)]; done) | (rw [if_neg (fun h => b5 h.2.2.2.1)]; done) | (rw [if_neg (fun h => b6 h.2.2.2.2)]; done) | (rw [if_pos ⟨⟨b1, b2⟩, b3, b4, b5, b6⟩, if_neg (show ¬ zp (cN c) < 8 by omega)]; done)) (XN.refl hx)
          · refine g_ret ?_
            refine g_if_eq_i (tgt := 74) (by decide) d_X_addProduct_55 (by decide) (fun h55 => ?_) (fun h => absurd h (by decide))
            refine g_iconst_i d_X_addProduct_74 ?_
            refine g_istore (i := 8) (by decide) rfl d_X_addProduct_75 ?_
            refine g_iload (i := 7) rfl d_X_addProduct_77 ?_
            refine g_if_eq_i (tgt := 87) (by decide) d_X_addProduct_79 (by decide) (fun h => absurd h (by decide)) (fun h79 => ?_)
            refine g_iload (i := 8) rfl d_X_addProduct_82 ?_
            refine g_if_ne_i (tgt := 97) (by decide) d_X_addProduct_84 (by decide) (fun h => absurd h (by decide)) (fun h84 => ?_)
            refine x_IAE c_X_71 xs_99 rfl rfl (Nat.le_of_ble_eq_true rfl) (by omega) (by omega) d_X_addProduct_87 d_X_addProduct_90 d_X_addProduct_91 d_X_addProduct_93 d_X_addProduct_96 ?_
            exact hQ _ _ _ _ (by unfold eAddP; first | (rw [if_neg (fun h => b1 h.1.1)]; done) | (rw [if_neg (fun h => b2 h.1.2)]; done) | (rw [if_neg (fun h => b3 h.2.1)]; done) | (rw [if_neg (fun h => b4 h.2.2.1)]; done) | (rw [if_neg (fun h => b5 h.2.2.2.1)]; done) | (rw [if_neg (fun h => b6 h.2.2.2.2)]; done) | (rw [if_pos ⟨⟨b1, b2⟩, b3, b4, b5, b6⟩, if_neg (show ¬ zp (cN c) < 8 by omega)]; done)) (XN.refl hx)
        · refine g_ret ?_
          refine g_if_eq_i (tgt := 74) (by decide) d_X_addProduct_44 (by decide) (fun h44 => ?_) (fun h => absurd h (by decide))
          refine g_iconst_i d_X_addProduct_74 ?_
          refine g_istore (i := 8) (by decide) rfl d_X_addProduct_75 ?_
          refine g_iload (i := 7) rfl d_X_addProduct_77 ?_
          refine g_if_eq_i (tgt := 87) (by decide) d_X_addProduct_79 (by decide) (fun h => absurd h (by decide)) (fun h79 => ?_)
          refine g_iload (i := 8) rfl d_X_addProduct_82 ?_
          refine g_if_ne_i (tgt := 97) (by decide) d_X_addProduct_84 (by decide) (fun h => absurd h (by decide)) (fun h84 => ?_)
          refine x_IAE c_X_71 xs_99 rfl rfl (Nat.le_of_ble_eq_true rfl) (by omega) (by omega) d_X_addProduct_87 d_X_addProduct_90 d_X_addProduct_91 d_X_addProduct_93 d_X_addProduct_96 ?_
          exact hQ _ _ _ _ (by unfold eAddP; first | (rw [if_neg (fun h => b1 h.1.1)]; done) | (rw [if_neg (fun h => b2 h.1.2)]; done) | (rw [if_neg (fun h => b3 h.2.1)]; done) | (rw [if_neg (fun h => b4 h.2.2.1)]; done) | (rw [if_neg (fun h => b5 h.2.2.2.1)]; done) | (rw [if_neg (fun h => b6 h.2.2.2.2)]; done) | (rw [if_pos ⟨⟨b1, b2⟩, b3, b4, b5, b6⟩, if_neg (show ¬ zp (cN c) < 8 by omega)]; done)) (XN.refl hx)
      · refine g_ret ?_
        refine g_if_eq_i (tgt := 74) (by decide) d_X_addProduct_34 (by decide) (fun h34 => ?_) (fun h => absurd h (by decide))
        refine g_iconst_i d_X_addProduct_74 ?_
        refine g_istore (i := 8) (by decide) rfl d_X_addProduct_75 ?_
        refine g_iload (i := 7) rfl d_X_addProduct_77 ?_
        refine g_if_eq_i (tgt := 87) (by decide) d_X_addProduct_79 (by decide) (fun h => absurd h (by decide)) (fun h79 => ?_)
        refine g_iload (i := 8) rfl d_X_addProduct_82 ?_
        refine g_if_ne_i (tgt := 97) (by decide) d_X_addProduct_84 (by decide) (fun h => absurd h (by decide)) (fun h84 => ?_)
        refine x_IAE c_X_71 xs_99 rfl rfl (Nat.le_of_ble_eq_true rfl) (by omega) (by omega) d_X_addProduct_87 d_X_addProduct_90 d_X_addProduct_91 d_X_addProduct_93 d_X_addProduct_96 ?_
        exact hQ _ _ _ _ (by unfold eAddP; first | (rw [if_neg (fun h => b1 h.1.1)]; done) | (rw [if_neg (fun h => b2 h.1.2)]; done) | (rw [if_neg (fun h => b3 h.2.1)]; done) | (rw [if_neg (fun h => b4 h.2.2.1)]; done) | (rw [if_neg (fun h => b5 h.2.2.2.1)]; done) | (rw [if_neg (fun h => b6 h.2.2.2.2)]; done) | (rw [if_pos ⟨⟨b1, b2⟩, b3, b4, b5, b6⟩, if_neg (show ¬ zp (cN c) < 8 by omega)]; done)) (XN.refl hx)
    · refine g_ret ?_
      refine g_if_eq_i (tgt := 25) (by decide) d_X_addProduct_18 (by decide) (fun h18 => ?_) (fun h => absurd h (by decide))
      refine g_iconst_i d_X_addProduct_25 ?_
      refine g_istore (i := 7) (by decide) rfl d_X_addProduct_26 ?_
      refine g_iload_n (n := 1) (i := 1) rfl rfl d_X_addProduct_28 ?_
      refine g_iconst_i d_X_addProduct_29 ?_
      refine g_iconst_i d_X_addProduct_30 ?_
      refine g_callS3 rfl rfl e_X_isBetween l_X_67 st_X_isBetween (by decide) (Nat.zero_le _) (Nat.zero_le _) (Nat.le_of_ble_eq_true rfl) d_X_addProduct_31 (c_X_isBetween rkd (by omega) (by omega) (fun b3 => ?_) (fun b3 => ?_))
      · refine g_ret ?_
        refine g_if_eq_i (tgt := 74) (by decide) d_X_addProduct_34 (by decide) (fun h => absurd h (by decide)) (fun h34 => ?_)
        refine g_iload_n (n := 2) (i := 2) rfl rfl d_X_addProduct_37 ?_
        refine g_iconst_i d_X_addProduct_38 ?_
        refine g_bipush_i (by decide) d_X_addProduct_39 ?_
        refine g_callS3 rfl rfl e_X_isBetween l_X_67 st_X_isBetween (by decide) (Nat.zero_le _) (Nat.zero_le _) (Nat.le_of_ble_eq_true rfl) d_X_addProduct_41 (c_X_isBetween ram (by omega) (by omega) (fun b4 => ?_) (fun b4 => ?_))
        · refine g_ret ?_
          refine g_if_eq_i (tgt := 74) (by decide) d_X_addProduct_44 (by decide) (fun h => absurd h (by decide)) (fun h44 => ?_)
          refine g_iload (i := 5) rfl d_X_addProduct_47 ?_
          refine g_iconst_i d_X_addProduct_49 ?_
          refine g_bipush_i (by decide) d_X_addProduct_50 ?_
          refine g_callS3 rfl rfl e_X_isBetween l_X_67 st_X_isBetween (by decide) (Nat.zero_le _) (Nat.zero_le _) (Nat.le_of_ble_eq_true rfl) d_X_addProduct_52 (c_X_isBetween rps (by omega) (by omega) (fun b5 => ?_) (fun b5 => ?_))
          · refine g_ret ?_
            refine g_if_eq_i (tgt := 74) (by decide) d_X_addProduct_55 (by decide) (fun h => absurd h (by decide)) (fun h55 => ?_)
            refine g_iload (i := 6) rfl d_X_addProduct_58 ?_
            refine g_iconst_i d_X_addProduct_60 ?_
            refine g_sipush_i (by decide) d_X_addProduct_61 ?_
            refine g_callS3 rfl rfl e_X_isBetween l_X_67 st_X_isBetween (by decide) (Nat.zero_le _) (Nat.zero_le _) (Nat.le_of_ble_eq_true rfl) d_X_addProduct_64 (c_X_isBetween rpr (by omega) (by omega) (fun b6 => ?_) (fun b6 => ?_))
            · refine g_ret ?_
              refine g_if_eq_i (tgt := 74) (by decide) d_X_addProduct_67 (by decide) (fun h => absurd h (by decide)) (fun h67 => ?_)
              refine g_iconst_i d_X_addProduct_70 ?_
              refine g_goto (tgt := 75) (by decide) d_X_addProduct_71 ?_
              refine g_istore (i := 8) (by decide) rfl d_X_addProduct_75 ?_
              refine g_iload (i := 7) rfl d_X_addProduct_77 ?_
              refine g_if_eq_i (tgt := 87) (by decide) d_X_addProduct_79 (by decide) (fun h79 => ?_) (fun h => absurd h (by decide))
              refine x_IAE c_X_71 xs_99 rfl rfl (Nat.le_of_ble_eq_true rfl) (by omega) (by omega) d_X_addProduct_87 d_X_addProduct_90 d_X_addProduct_91 d_X_addProduct_93 d_X_addProduct_96 ?_
              exact hQ _ _ _ _ (by unfold eAddP; first | (rw [if_neg (fun h => b1 h.1.1)]; done) | (rw [if_neg (fun h => b2 h.1.2)]; done) | (rw [if_neg (fun h => b3 h.2.1)]; done) | (rw [if_neg (fun h => b4 h.2.2.1)]; done) | (rw [if_neg (fun h => b5 h.2.2.2.1)]; done) | (rw [if_neg (fun h => b6 h.2.2.2.2)]; done) | (rw [if_pos ⟨⟨b1, b2⟩, b3, b4, b5, b6⟩, if_neg (show ¬ zp (cN c) < 8 by omega)]; done)) (XN.refl hx)
            · refine g_ret ?_
              refine g_if_eq_i (tgt := 74) (by decide) d_X_addProduct_67 (by decide) (fun h67 => ?_) (fun h => absurd h (by decide))
              refine g_iconst_i d_X_addProduct_74 ?_
              refine g_istore (i := 8) (by decide) rfl d_X_addProduct_75 ?_
              refine g_iload (i := 7) rfl d_X_addProduct_77 ?_
              refine g_if_eq_i (tgt := 87) (by decide) d_X_addProduct_79 (by decide) (fun h79 => ?_) (fun h => absurd h (by decide))
              refine x_IAE c_X_71 xs_99 rfl rfl (Nat.le_of_ble_eq_true rfl) (by omega) (by omega) d_X_addProduct_87 d_X_addProduct_90 d_X_addProduct_91 d_X_addProduct_93 d_X_addProduct_96 ?_
              exact hQ _ _ _ _ (by unfold eAddP; first | (rw [if_neg (fun h => b1 h.1.1)]; done) | (rw [if_neg (fun h => b2 h.1.2)]; done) | (rw [if_neg (fun h => b3 h.2.1)]; done) | (rw [if_neg (fun h => b4 h.2.2.1)]; done) | (rw [if_neg (fun h => b5 h.2.2.2.1)]; done) | (rw [if_neg (fun h => b6 h.2.2.2.2)]; done) | (rw [if_pos ⟨⟨b1, b2⟩, b3, b4, b5, b6⟩, if_neg (show ¬ zp (cN c) < 8 by omega)]; done)) (XN.refl hx)
          · refine g_ret ?_
            refine g_if_eq_i (tgt := 74) (by decide) d_X_addProduct_55 (by decide) (fun h55 => ?_) (fun h => absurd h (by decide))
            refine g_iconst_i d_X_addProduct_74 ?_
            refine g_istore (i := 8) (by decide) rfl d_X_addProduct_75 ?_
            refine g_iload (i := 7) rfl d_X_addProduct_77 ?_
            refine g_if_eq_i (tgt := 87) (by decide) d_X_addProduct_79 (by decide) (fun h79 => ?_) (fun h => absurd h (by decide))
            refine x_IAE c_X_71 xs_99 rfl rfl (Nat.le_of_ble_eq_true rfl) (by omega) (by omega) d_X_addProduct_87 d_X_addProduct_90 d_X_addProduct_91 d_X_addProduct_93 d_X_addProduct_96 ?_
            exact hQ _ _ _ _ (by unfold eAddP; first | (rw [if_neg (fun h => b1 h.1.1)]; done) | (rw [if_neg (fun h => b2 h.1.2)]; done) | (rw [if_neg (fun h => b3 h.2.1)]; done) | (rw [if_neg (fun h => b4 h.2.2.1)]; done) | (rw [if_neg (fun h => b5 h.2.2.2.1)]; done) | (rw [if_neg (fun h => b6 h.2.2.2.2)]; done) | (rw [if_pos ⟨⟨b1, b2⟩, b3, b4, b5, b6⟩, if_neg (show ¬ zp (cN c) < 8 by omega)]; done)) (XN.refl hx)
        · refine g_ret ?_
          refine g_if_eq_i (tgt := 74) (by decide) d_X_addProduct_44 (by decide) (fun h44 => ?_) (fun h => absurd h (by decide))
          refine g_iconst_i d_X_addProduct_74 ?_
          refine g_istore (i := 8) (by decide) rfl d_X_addProduct_75 ?_
          refine g_iload (i := 7) rfl d_X_addProduct_77 ?_
          refine g_if_eq_i (tgt := 87) (by decide) d_X_addProduct_79 (by decide) (fun h79 => ?_) (fun h => absurd h (by decide))
          refine x_IAE c_X_71 xs_99 rfl rfl (Nat.le_of_ble_eq_true rfl) (by omega) (by omega) d_X_addProduct_87 d_X_addProduct_90 d_X_addProduct_91 d_X_addProduct_93 d_X_addProduct_96 ?_
          exact hQ _ _ _ _ (by unfold eAddP; first | (rw [if_neg (fun h => b1 h.1.1)]; done) | (rw [if_neg (fun h => b2 h.1.2)]; done) | (rw [if_neg (fun h => b3 h.2.1)]; done) | (rw [if_neg (fun h => b4 h.2.2.1)]; done) | (rw [if_neg (fun h => b5 h.2.2.2.1)]; done) | (rw [if_neg (fun h => b6 h.2.2.2.2)]; done) | (rw [if_pos ⟨⟨b1, b2⟩, b3, b4, b5, b6⟩, if_neg (show ¬ zp (cN c) < 8 by omega)]; done)) (XN.refl hx)
      · refine g_ret ?_
        refine g_if_eq_i (tgt := 74) (by decide) d_X_addProduct_34 (by decide) (fun h34 => ?_) (fun h => absurd h (by decide))
        refine g_iconst_i d_X_addProduct_74 ?_
        refine g_istore (i := 8) (by decide) rfl d_X_addProduct_75 ?_
        refine g_iload (i := 7) rfl d_X_addProduct_77 ?_
        refine g_if_eq_i (tgt := 87) (by decide) d_X_addProduct_79 (by decide) (fun h79 => ?_) (fun h => absurd h (by decide))
        refine x_IAE c_X_71 xs_99 rfl rfl (Nat.le_of_ble_eq_true rfl) (by omega) (by omega) d_X_addProduct_87 d_X_addProduct_90 d_X_addProduct_91 d_X_addProduct_93 d_X_addProduct_96 ?_
        exact hQ _ _ _ _ (by unfold eAddP; first | (rw [if_neg (fun h => b1 h.1.1)]; done) | (rw [if_neg (fun h => b2 h.1.2)]; done) | (rw [if_neg (fun h => b3 h.2.1)]; done) | (rw [if_neg (fun h => b4 h.2.2.1)]; done) | (rw [if_neg (fun h => b5 h.2.2.2.1)]; done) | (rw [if_neg (fun h => b6 h.2.2.2.2)]; done) | (rw [if_pos ⟨⟨b1, b2⟩, b3, b4, b5, b6⟩, if_neg (show ¬ zp (cN c) < 8 by omega)]; done)) (XN.refl hx)
  · refine g_ret ?_
    refine g_if_eq_i (tgt := 25) (by decide) d_X_addProduct_7 (by decide) (fun h7 => ?_) (fun h => absurd h (by decide))
    refine g_iconst_i d_X_addProduct_25 ?_
    refine g_istore (i := 7) (by decide) rfl d_X_addProduct_26 ?_
    refine g_iload_n (n := 1) (i := 1) rfl rfl d_X_addProduct_28 ?_
    refine g_iconst_i d_X_addProduct_29 ?_
    refine g_iconst_i d_X_addProduct_30 ?_
    refine g_callS3 rfl rfl e_X_isBetween l_X_67 st_X_isBetween (by decide) (Nat.zero_le _) (Nat.zero_le _) (Nat.le_of_ble_eq_true rfl) d_X_addProduct_31 (c_X_isBetween rkd (by omega) (by omega) (fun b3 => ?_) (fun b3 => ?_))
    · refine g_ret ?_
      refine g_if_eq_i (tgt := 74) (by decide) d_X_addProduct_34 (by decide) (fun h => absurd h (by decide)) (fun h34 => ?_)
      refine g_iload_n (n := 2) (i := 2) rfl rfl d_X_addProduct_37 ?_
      refine g_iconst_i d_X_addProduct_38 ?_
      refine g_bipush_i (by decide) d_X_addProduct_39 ?_
      refine g_callS3 rfl rfl e_X_isBetween l_X_67 st_X_isBetween (by decide) (Nat.zero_le _) (Nat.zero_le _) (Nat.le_of_ble_eq_true rfl) d_X_addProduct_41 (c_X_isBetween ram (by omega) (by omega) (fun b4 => ?_) (fun b4 => ?_))
      · refine g_ret ?_
        refine g_if_eq_i (tgt := 74) (by decide) d_X_addProduct_44 (by decide) (fun h => absurd h (by decide)) (fun h44 => ?_)
        refine g_iload (i := 5) rfl d_X_addProduct_47 ?_
        refine g_iconst_i d_X_addProduct_49 ?_
        refine g_bipush_i (by decide) d_X_addProduct_50 ?_
        refine g_callS3 rfl rfl e_X_isBetween l_X_67 st_X_isBetween (by decide) (Nat.zero_le _) (Nat.zero_le _) (Nat.le_of_ble_eq_true rfl) d_X_addProduct_52 (c_X_isBetween rps (by omega) (by omega) (fun b5 => ?_) (fun b5 => ?_))
        · refine g_ret ?_
          refine g_if_eq_i (tgt := 74) (by decide) d_X_addProduct_55 (by decide) (fun h => absurd h (by decide)) (fun h55 => ?_)
          refine g_iload (i := 6) rfl d_X_addProduct_58 ?_
          refine g_iconst_i d_X_addProduct_60 ?_
          refine g_sipush_i (by decide) d_X_addProduct_61 ?_
          refine g_callS3 rfl rfl e_X_isBetween l_X_67 st_X_isBetween (by decide) (Nat.zero_le _) (Nat.zero_le _) (Nat.le_of_ble_eq_true rfl) d_X_addProduct_64 (c_X_isBetween rpr (by omega) (by omega) (fun b6 => ?_) (fun b6 => ?_))
          · refine g_ret ?_
            refine g_if_eq_i (tgt := 74) (by decide) d_X_addProduct_67 (by decide) (fun h => absurd h (by decide)) (fun h67 => ?_)
            refine g_iconst_i d_X_addProduct_70 ?_
            refine g_goto (tgt := 75) (by decide) d_X_addProduct_71 ?_
            refine g_istore (i := 8) (by decide) rfl d_X_addProduct_75 ?_
            refine g_iload (i := 7) rfl d_X_addProduct_77 ?_
            refine g_if_eq_i (tgt := 87) (by decide) d_X_addProduct_79 (by decide) (fun h79 => ?_) (fun h => absurd h (by decide))
            refine x_IAE c_X_71 xs_99 rfl rfl (Nat.le_of_ble_eq_true rfl) (by omega) (by omega) d_X_addProduct_87 d_X_addProduct_90 d_X_addProduct_91 d_X_addProduct_93 d_X_addProduct_96 ?_
            exact hQ _ _ _ _ (by unfold eAddP; first | (rw [if_neg (fun h => b1 h.1.1)]; done) | (rw [if_neg (fun h => b2 h.1.2)]; done) | (rw [if_neg (fun h => b3 h.2.1)]; done) | (rw [if_neg (fun h => b4 h.2.2.1)]; done) | (rw [if_neg (fun h => b5 h.2.2.2.1)]; done) | (rw [if_neg (fun h => b6 h.2.2.2.2)]; done) | (rw [if_pos ⟨⟨b1, b2⟩, b3, b4, b5, b6⟩, if_neg (show ¬ zp (cN c) < 8 by omega)]; done)) (XN.refl hx)
          · refine g_ret ?_
            refine g_if_eq_i (tgt := 74) (by decide) d_X_addProduct_67 (by decide) (fun h67 => ?_) (fun h => absurd h (by decide))
            refine g_iconst_i d_X_addProduct_74 ?_
            refine g_istore (i := 8) (by decide) rfl d_X_addProduct_75 ?_
            refine g_iload (i := 7) rfl d_X_addProduct_77 ?_
            refine g_if_eq_i (tgt := 87) (by decide) d_X_addProduct_79 (by decide) (fun h79 => ?_) (fun h => absurd h (by decide))
            refine x_IAE c_X_71 xs_99 rfl rfl (Nat.le_of_ble_eq_true rfl) (by omega) (by omega) d_X_addProduct_87 d_X_addProduct_90 d_X_addProduct_91 d_X_addProduct_93 d_X_addProduct_96 ?_
            exact hQ _ _ _ _ (by unfold eAddP; first | (rw [if_neg (fun h => b1 h.1.1)]; done) | (rw [if_neg (fun h => b2 h.1.2)]; done) | (rw [if_neg (fun h => b3 h.2.1)]; done) | (rw [if_neg (fun h => b4 h.2.2.1)]; done) | (rw [if_neg (fun h => b5 h.2.2.2.1)]; done) | (rw [if_neg (fun h => b6 h.2.2.2.2)]; done) | (rw [if_pos ⟨⟨b1, b2⟩, b3, b4, b5, b6⟩, if_neg (show ¬ zp (cN c) < 8 by omega)]; done)) (XN.refl hx)
        · refine g_ret ?_
          refine g_if_eq_i (tgt := 74) (by decide) d_X_addProduct_55 (by decide) (fun h55 => ?_) (fun h => absurd h (by decide))
          refine g_iconst_i d_X_addProduct_74 ?_
          refine g_istore (i := 8) (by decide) rfl d_X_addProduct_75 ?_
          refine g_iload (i := 7) rfl d_X_addProduct_77 ?_
          refine g_if_eq_i (tgt := 87) (by decide) d_X_addProduct_79 (by decide) (fun h79 => ?_) (fun h => absurd h (by decide))
          refine x_IAE c_X_71 xs_99 rfl rfl (Nat.le_of_ble_eq_true rfl) (by omega) (by omega) d_X_addProduct_87 d_X_addProduct_90 d_X_addProduct_91 d_X_addProduct_93 d_X_addProduct_96 ?_
          exact hQ _ _ _ _ (by unfold eAddP; first | (rw [if_neg (fun h => b1 h.1.1)]; done) | (rw [if_neg (fun h => b2 h.1.2)]; done) | (rw [if_neg (fun h => b3 h.2.1)]; done) | (rw [if_neg (fun h => b4 h.2.2.1)]; done) | (rw [if_neg (fun h => b5 h.2.2.2.1)]; done) | (rw [if_neg (fun h => b6 h.2.2.2.2)]; done) | (rw [if_pos ⟨⟨b1, b2⟩, b3, b4, b5, b6⟩, if_neg (show ¬ zp (cN c) < 8 by omega)]; done)) (XN.refl hx)
      · refine g_ret ?_
        refine g_if_eq_i (tgt := 74) (by decide) d_X_addProduct_44 (by decide) (fun h44 => ?_) (fun h => absurd h (by decide))
        refine g_iconst_i d_X_addProduct_74 ?_
        refine g_istore (i := 8) (by decide) rfl d_X_addProduct_75 ?_
        refine g_iload (i := 7) rfl d_X_addProduct_77 ?_
        refine g_if_eq_i (tgt := 87) (by decide) d_X_addProduct_79 (by decide) (fun h79 => ?_) (fun h => absurd h (by decide))
        refine x_IAE c_X_71 xs_99 rfl rfl (Nat.le_of_ble_eq_true rfl) (by omega) (by omega) d_X_addProduct_87 d_X_addProduct_90 d_X_addProduct_91 d_X_addProduct_93 d_X_addProduct_96 ?_
        exact hQ _ _ _ _ (by unfold eAddP; first | (rw [if_neg (fun h => b1 h.1.1)]; done) | (rw [if_neg (fun h => b2 h.1.2)]; done) | (rw [if_neg (fun h => b3 h.2.1)]; done) | (rw [if_neg (fun h => b4 h.2.2.1)]; done) | (rw [if_neg (fun h => b5 h.2.2.2.1)]; done) | (rw [if_neg (fun h => b6 h.2.2.2.2)]; done) | (rw [if_pos ⟨⟨b1, b2⟩, b3, b4, b5, b6⟩, if_neg (show ¬ zp (cN c) < 8 by omega)]; done)) (XN.refl hx)
    · refine g_ret ?_
      refine g_if_eq_i (tgt := 74) (by decide) d_X_addProduct_34 (by decide) (fun h34 => ?_) (fun h => absurd h (by decide))
      refine g_iconst_i d_X_addProduct_74 ?_
      refine g_istore (i := 8) (by decide) rfl d_X_addProduct_75 ?_
      refine g_iload (i := 7) rfl d_X_addProduct_77 ?_
      refine g_if_eq_i (tgt := 87) (by decide) d_X_addProduct_79 (by decide) (fun h79 => ?_) (fun h => absurd h (by decide))
      refine x_IAE c_X_71 xs_99 rfl rfl (Nat.le_of_ble_eq_true rfl) (by omega) (by omega) d_X_addProduct_87 d_X_addProduct_90 d_X_addProduct_91 d_X_addProduct_93 d_X_addProduct_96 ?_
      exact hQ _ _ _ _ (by unfold eAddP; first | (rw [if_neg (fun h => b1 h.1.1)]; done) | (rw [if_neg (fun h => b2 h.1.2)]; done) | (rw [if_neg (fun h => b3 h.2.1)]; done) | (rw [if_neg (fun h => b4 h.2.2.1)]; done) | (rw [if_neg (fun h => b5 h.2.2.2.1)]; done) | (rw [if_neg (fun h => b6 h.2.2.2.2)]; done) | (rw [if_pos ⟨⟨b1, b2⟩, b3, b4, b5, b6⟩, if_neg (show ¬ zp (cN c) < 8 by omega)]; done)) (XN.refl hx)

theorem c_X_clear {E : gE} {w : gW} {im : gIm} {Q : gQ} {c : CSt} (hx : XW E w im c) (hQ : ∀ o c2 w' im', (o, c2) = eClear c → XN E w im c2 w' im' → Q (o) w' im') : GM E 2 y_X_clear m_X_clear 0 0 [.ref (gad E 0)] w im Q := by
  have hx9 := hx
  obtain ⟨⟨hn, x0, x1, x2, x3, x4, x5, m61, x6⟩, ⟨r1, r2, r3⟩, o1, o2, o3, o4⟩ := hx9
  have k0 : g_cell E w im (gad E 0) _ := g_mut 0 (by omega) x0
  have k1 : g_cell E w im (gad E 56) _ := g_mut 56 (by omega) x1
  have k2 : g_cell E w im (gad E 57) _ := g_mut 57 (by omega) x2
  have k3 : g_cell E w im (gad E 58) _ := g_mut 58 (by omega) x3
  have k4 : g_cell E w im (gad E 59) _ := g_mut 59 (by omega) x4
  have k5 : g_cell E w im (gad E 60) _ := g_mut 60 (by omega) x5
  have k6 : g_cell E w im (gad E 61) _ := g_mut 61 (by omega) x6
  have kn := r1.cell
  have kk := r2.cell
  have hz := r1
  have hz9 := hz
  obtain ⟨rg, rp, rc, lc, ⟨hb, h0, h1, h2, h3, h4, hlc⟩, ⟨i1, i2, i3, i4, i5, i6⟩, ok⟩ := hz9
  obtain ⟨ok1, ok2, ok3, ok4, ok5, ok6, ok7, ok8, ok9⟩ := ok
  have co : g_cell E w im (gad E 1) (resE E 1 (cN c)) := g_mut 1 (by omega) h0
  have cg : g_cell E w im (gad E (1 + 1)) (rowE 4 12 rg) := g_mut (1 + 1) (by omega) h1
  have cp : g_cell E w im (gad E (1 + 2)) (rowE 5 8 rp) := g_mut (1 + 2) (by omega) h2
  have cc : g_cell E w im (gad E (1 + 3)) (rowE 6 20 rc) := g_mut (1 + 3) (by omega) h3
  have cl : g_cell E w im (gad E (1 + 4)) (intE 372 lc) := g_mut (1 + 4) (by omega) h4
  have o39 := o3
  obtain ⟨oa1, oa2, oa3, oa4⟩ := o39
  refine g_enter (by decide) rfl rfl (fun h => by first | rfl | cases h) (Nat.le_of_ble_eq_true rfl) rfl ?_
  refine g_aload_n (n := 0) (i := 0) rfl rfl d_X_clear_0 ?_
  refine g_getfield 0 0 f_X_12 (by assumption) (by rfl) d_X_clear_1 ?_
  refine g_getfield 1 6 f_X_54 (by assumption) (by rfl) d_X_clear_4 ?_
  refine g_istore_n (n := 1) (i := 1) rfl (by decide) rfl d_X_clear_7 ?_
  refine g_aload_n (n := 0) (i := 0) rfl rfl d_X_clear_8 ?_
  refine g_getfield 0 0 f_X_12 (by assumption) (by rfl) d_X_clear_9 ?_
  refine g_callV0 rfl rfl e_R_empty l_X_57 iv_R_empty 1 (by decide) rfl (by assumption) (by decide) (Nat.zero_le _) (Nat.zero_le _) (Nat.le_of_ble_eq_true rfl) d_X_clear_12 (c_R_empty r1 (fun w im hN => ?_))
  refine g_retv ?_
  have hN := hx.sN hN
  have hx := hN.2.2
  have hx9 := hx
  obtain ⟨⟨hn, x0, x1, x2, x3, x4, x5, m61, x6⟩, ⟨r1, r2, r3⟩, o1, o2, o3, o4⟩ := hx9
  have k0 : g_cell E w im (gad E 0) _ := g_mut 0 (by omega) x0
  have k1 : g_cell E w im (gad E 56) _ := g_mut 56 (by omega) x1
  have k2 : g_cell E w im (gad E 57) _ := g_mut 57 (by omega) x2
  have k3 : g_cell E w im (gad E 58) _ := g_mut 58 (by omega) x3
  have k4 : g_cell E w im (gad E 59) _ := g_mut 59 (by omega) x4
  have k5 : g_cell E w im (gad E 60) _ := g_mut 60 (by omega) x5
  have k6 : g_cell E w im (gad E 61) _ := g_mut 61 (by omega) x6
  have kn := r1.cell
  have kk := r2.cell
  refine g_aload_n (n := 0) (i := 0) rfl rfl d_X_clear_15 ?_
  refine g_getfield 0 2 f_X_22 (by assumption) (by rfl) d_X_clear_16 ?_
  refine g_callV0 rfl rfl e_H_forget l_X_60 iv_H_forget 2 (by decide) rfl (by assumption) (by decide) (Nat.zero_le _) (Nat.zero_le _) (Nat.le_of_ble_eq_true rfl) d_X_clear_19 (c_H_forget hx (fun w im hN2 => ?_))
  refine g_retv ?_
  have hN := hN.trans hN2
  have hx := hN.2.2
  have hx9 := hx
  obtain ⟨⟨hn, x0, x1, x2, x3, x4, x5, m61, x6⟩, ⟨r1, r2, r3⟩, o1, o2, o3, o4⟩ := hx9
  have k0 : g_cell E w im (gad E 0) _ := g_mut 0 (by omega) x0
  have k1 : g_cell E w im (gad E 56) _ := g_mut 56 (by omega) x1
  have k2 : g_cell E w im (gad E 57) _ := g_mut 57 (by omega) x2
  have k3 : g_cell E w im (gad E 58) _ := g_mut 58 (by omega) x3
  have k4 : g_cell E w im (gad E 59) _ := g_mut 59 (by omega) x4
  have k5 : g_cell E w im (gad E 60) _ := g_mut 60 (by omega) x5
  have k6 : g_cell E w im (gad E 61) _ := g_mut 61 (by omega) x6
  have kn := r1.cell
  have kk := r2.cell
  refine g_aload_n (n := 0) (i := 0) rfl rfl d_X_clear_22 ?_
  refine g_iconst_i d_X_clear_23 ?_
  refine g_putA 0 6 0 (by omega) x0 f_X_44 (Or.inl rfl) (by rfl) (by rfl) (Nat.le_of_ble_eq_true rfl) d_X_clear_24 (fun w hs hn9 => ?_)
  have hN3 := hN.trans (hx.sF (f := ((cF c).1, 0, (cF c).2.2)) hs hn9 ⟨oa1, (show (0 : Int) ≤ 0 ∧ (0 : Int) ≤ 42 by omega), oa3, oa4⟩)
  refine g_iload_n (n := 1) (i := 1) rfl rfl d_X_clear_27 ?_
  refine g_ireturn_i rfl d_X_clear_28 ?_
  exact hQ _ _ _ _ rfl hN3

theorem c_X_undo {E : gE} {w : gW} {im : gIm} {Q : gQ} {c : CSt} (hx : XW E w im c) (hQ : ∀ o c2 w' im', (o, c2) = eUndo c → XN E w im c2 w' im' → Q (o) w' im') : GM E 3 y_X_undo m_X_undo 1 6 [.ref (gad E 0)] w im Q := by
  have hx9 := hx
  obtain ⟨⟨hn, x0, x1, x2, x3, x4, x5, m61, x6⟩, ⟨r1, r2, r3⟩, o1, o2, o3, o4⟩ := hx9
  have k0 : g_cell E w im (gad E 0) _ := g_mut 0 (by omega) x0
  have k1 : g_cell E w im (gad E 56) _ := g_mut 56 (by omega) x1
  have k2 : g_cell E w im (gad E 57) _ := g_mut 57 (by omega) x2
  have k3 : g_cell E w im (gad E 58) _ := g_mut 58 (by omega) x3
  have k4 : g_cell E w im (gad E 59) _ := g_mut 59 (by omega) x4
  have k5 : g_cell E w im (gad E 60) _ := g_mut 60 (by omega) x5
  have k6 : g_cell E w im (gad E 61) _ := g_mut 61 (by omega) x6
  have kn := r1.cell
  have kk := r2.cell
  have hz := r1
  have hz9 := hz
  obtain ⟨rg, rp, rc, lc, ⟨hb, h0, h1, h2, h3, h4, hlc⟩, ⟨i1, i2, i3, i4, i5, i6⟩, ok⟩ := hz9
  obtain ⟨ok1, ok2, ok3, ok4, ok5, ok6, ok7, ok8, ok9⟩ := ok
  have co : g_cell E w im (gad E 1) (resE E 1 (cN c)) := g_mut 1 (by omega) h0
  have cg : g_cell E w im (gad E (1 + 1)) (rowE 4 12 rg) := g_mut (1 + 1) (by omega) h1
  have cp : g_cell E w im (gad E (1 + 2)) (rowE 5 8 rp) := g_mut (1 + 2) (by omega) h2
  have cc : g_cell E w im (gad E (1 + 3)) (rowE 6 20 rc) := g_mut (1 + 3) (by omega) h3
  have cl : g_cell E w im (gad E (1 + 4)) (intE 372 lc) := g_mut (1 + 4) (by omega) h4
  have o39 := o3
  obtain ⟨oa1, oa2, oa3, oa4⟩ := o39
  refine g_enter (by decide) rfl rfl (fun h => by first | rfl | cases h) (Nat.le_of_ble_eq_true rfl) rfl ?_
  refine g_aload_n (n := 0) (i := 0) rfl rfl d_X_undo_0 ?_
  refine g_getfield 0 2 f_X_22 (by assumption) (by rfl) d_X_undo_1 ?_
  refine g_getfield 2 2 f_X_202 (by assumption) (by rfl) d_X_undo_4 ?_
  refine g_if_gt_i (tgt := 21) (by omega) d_X_undo_7 (by decide) (fun h7 => ?_) (fun h7 => ?_)
  · refine g_aload_n (n := 0) (i := 0) rfl rfl d_X_undo_21 ?_
    refine g_getfield 0 2 f_X_22 (by assumption) (by rfl) d_X_undo_22 ?_
    refine g_aload_n (n := 0) (i := 0) rfl rfl d_X_undo_25 ?_
    refine g_getfield 0 0 f_X_12 (by assumption) (by rfl) d_X_undo_26 ?_
    refine g_callV1 rfl rfl e_H_stepBack l_X_433 iv_H_stepBack 2 (by decide) rfl (by assumption) (by decide) (Nat.zero_le _) (Nat.zero_le _) (Nat.le_of_ble_eq_true rfl) d_X_undo_29 (c_H_stepBack hx (fun w im hN => ?_))
    refine g_retv ?_
    have hx := hN.2.2
    have hx9 := hx
    obtain ⟨⟨hn, x0, x1, x2, x3, x4, x5, m61, x6⟩, ⟨r1, r2, r3⟩, o1, o2, o3, o4⟩ := hx9
    have k0 : g_cell E w im (gad E 0) _ := g_mut 0 (by omega) x0
    have k1 : g_cell E w im (gad E 56) _ := g_mut 56 (by omega) x1
    have k2 : g_cell E w im (gad E 57) _ := g_mut 57 (by omega) x2
    have k3 : g_cell E w im (gad E 58) _ := g_mut 58 (by omega) x3
    have k4 : g_cell E w im (gad E 59) _ := g_mut 59 (by omega) x4
    have k5 : g_cell E w im (gad E 60) _ := g_mut 60 (by omega) x5
    have k6 : g_cell E w im (gad E 61) _ := g_mut 61 (by omega) x6
    have kn := r1.cell
    have kk := r2.cell
    refine g_aload_n (n := 0) (i := 0) rfl rfl d_X_undo_32 ?_
    refine g_getfield 0 2 f_X_22 (by assumption) (by rfl) d_X_undo_33 ?_
    refine g_getfield 2 2 f_X_202 (by assumption) (by rfl) d_X_undo_36 ?_
    refine g_ireturn_i rfl d_X_undo_39 ?_
    exact hQ _ _ _ _ (by unfold eUndo; rw [if_neg (by omega)]; rfl) hN
  · refine x_ISEw c_X_81 xs_431 rfl rfl (Nat.le_of_ble_eq_true rfl) (by omega) (by omega) d_X_undo_10 d_X_undo_13 d_X_undo_14 d_X_undo_17 d_X_undo_20 ?_
    exact hQ _ _ _ _ (by unfold eUndo; first | (rw [if_pos (by omega)]; done)) (XN.refl hx)

theorem c_X_snapshot {E : gE} {w : gW} {im : gIm} {Q : gQ} {c : CSt} (hx : XW E w im c) (hQ : ∀ o c2 w' im', (o, c2) = eSnap c → XN E w im c2 w' im' → Q (o) w' im') : GM E 1 y_X_snapshot m_X_snapshot 0 0 [.ref (gad E 0)] w im Q := by
  have hx9 := hx
  obtain ⟨⟨hn, x0, x1, x2, x3, x4, x5, m61, x6⟩, ⟨r1, r2, r3⟩, o1, o2, o3, o4⟩ := hx9
  have k0 : g_cell E w im (gad E 0) _ := g_mut 0 (by omega) x0
  have k1 : g_cell E w im (gad E 56) _ := g_mut 56 (by omega) x1
  have k2 : g_cell E w im (gad E 57) _ := g_mut 57 (by omega) x2
  have k3 : g_cell E w im (gad E 58) _ := g_mut 58 (by omega) x3
  have k4 : g_cell E w im (gad E 59) _ := g_mut 59 (by omega) x4
  have k5 : g_cell E w im (gad E 60) _ := g_mut 60 (by omega) x5
  have k6 : g_cell E w im (gad E 61) _ := g_mut 61 (by omega) x6
  have kn := r1.cell
  have kk := r2.cell
  have hz := r1
  have hz9 := hz
  obtain ⟨rg, rp, rc, lc, ⟨hb, h0, h1, h2, h3, h4, hlc⟩, ⟨i1, i2, i3, i4, i5, i6⟩, ok⟩ := hz9
  obtain ⟨ok1, ok2, ok3, ok4, ok5, ok6, ok7, ok8, ok9⟩ := ok
  have co : g_cell E w im (gad E 1) (resE E 1 (cN c)) := g_mut 1 (by omega) h0
  have cg : g_cell E w im (gad E (1 + 1)) (rowE 4 12 rg) := g_mut (1 + 1) (by omega) h1
  have cp : g_cell E w im (gad E (1 + 2)) (rowE 5 8 rp) := g_mut (1 + 2) (by omega) h2
  have cc : g_cell E w im (gad E (1 + 3)) (rowE 6 20 rc) := g_mut (1 + 3) (by omega) h3
  have cl : g_cell E w im (gad E (1 + 4)) (intE 372 lc) := g_mut (1 + 4) (by omega) h4
  have o39 := o3
  obtain ⟨oa1, oa2, oa3, oa4⟩ := o39
  refine g_enter (by decide) rfl rfl (fun h => by first | rfl | cases h) (Nat.le_of_ble_eq_true rfl) rfl ?_
  refine g_aload_n (n := 0) (i := 0) rfl rfl d_X_snapshot_0 ?_
  refine g_getfield 0 1 f_X_16 (by assumption) (by rfl) d_X_snapshot_1 ?_
  refine g_aload_n (n := 0) (i := 0) rfl rfl d_X_snapshot_4 ?_
  refine g_getfield 0 0 f_X_12 (by assumption) (by rfl) d_X_snapshot_5 ?_
  refine g_callV1 rfl rfl e_R_copyFrom l_X_436 iv_R_copyFrom 1 (by decide) rfl (by assumption) (by decide) (Nat.zero_le _) (Nat.zero_le _) (Nat.le_of_ble_eq_true rfl) d_X_snapshot_8 (c_R_copyFrom r2 r1 (by omega) (fun w im hN => ?_))
  refine g_retv ?_
  have hN := hx.sK hN
  have hx := hN.2.2
  have hx9 := hx
  obtain ⟨⟨hn, x0, x1, x2, x3, x4, x5, m61, x6⟩, ⟨r1, r2, r3⟩, o1, o2, o3, o4⟩ := hx9
  have k0 : g_cell E w im (gad E 0) _ := g_mut 0 (by omega) x0
  have k1 : g_cell E w im (gad E 56) _ := g_mut 56 (by omega) x1
  have k2 : g_cell E w im (gad E 57) _ := g_mut 57 (by omega) x2
  have k3 : g_cell E w im (gad E 58) _ := g_mut 58 (by omega) x3
  have k4 : g_cell E w im (gad E 59) _ := g_mut 59 (by omega) x4
  have k5 : g_cell E w im (gad E 60) _ := g_mut 60 (by omega) x5
  have k6 : g_cell E w im (gad E 61) _ := g_mut 61 (by omega) x6
  have kn := r1.cell
  have kk := r2.cell
  refine g_aload_n (n := 0) (i := 0) rfl rfl d_X_snapshot_11 ?_
  refine g_iconst_i d_X_snapshot_12 ?_
  refine g_putA 0 5 0 (by omega) x0 f_X_40 (Or.inl rfl) (by rfl) (by rfl) (Nat.le_of_ble_eq_true rfl) d_X_snapshot_13 (fun w hs hn9 => ?_)
  have hN3 := hN.trans (hx.sF (f := (1, (cF c).2)) hs hn9 ⟨(show (0 : Int) ≤ 1 ∧ (1 : Int) ≤ 1 by omega), oa2, oa3, oa4⟩)
  have k0 : g_cell E w im (gad E 0) _ := g_mut 0 (by omega) hs
  have kk := hN3.2.2.2.1.2.1.cell
  refine g_aload_n (n := 0) (i := 0) rfl rfl d_X_snapshot_16 ?_
  refine g_getfield 0 1 f_X_16 (by assumption) (by rfl) d_X_snapshot_17 ?_
  refine g_getfield 1 6 f_X_54 (by assumption) (by rfl) d_X_snapshot_20 ?_
  refine g_ireturn_i rfl d_X_snapshot_23 ?_
  exact hQ _ _ _ _ rfl hN3

theorem c_X_restore {E : gE} {w : gW} {im : gIm} {Q : gQ} {c : CSt} (hx : XW E w im c) (hQ : ∀ o c2 w' im', (o, c2) = eRest c → XN E w im c2 w' im' → Q (o) w' im') : GM E 1 y_X_restore m_X_restore 1 6 [.ref (gad E 0)] w im Q := by
  have hx9 := hx
  obtain ⟨⟨hn, x0, x1, x2, x3, x4, x5, m61, x6⟩, ⟨r1, r2, r3⟩, o1, o2, o3, o4⟩ := hx9
  have k0 : g_cell E w im (gad E 0) _ := g_mut 0 (by omega) x0
  have k1 : g_cell E w im (gad E 56) _ := g_mut 56 (by omega) x1
  have k2 : g_cell E w im (gad E 57) _ := g_mut 57 (by omega) x2
  have k3 : g_cell E w im (gad E 58) _ := g_mut 58 (by omega) x3
  have k4 : g_cell E w im (gad E 59) _ := g_mut 59 (by omega) x4
  have k5 : g_cell E w im (gad E 60) _ := g_mut 60 (by omega) x5
  have k6 : g_cell E w im (gad E 61) _ := g_mut 61 (by omega) x6
  have kn := r1.cell
  have kk := r2.cell
  have hz := r1
  have hz9 := hz
  obtain ⟨rg, rp, rc, lc, ⟨hb, h0, h1, h2, h3, h4, hlc⟩, ⟨i1, i2, i3, i4, i5, i6⟩, ok⟩ := hz9
  obtain ⟨ok1, ok2, ok3, ok4, ok5, ok6, ok7, ok8, ok9⟩ := ok
  have co : g_cell E w im (gad E 1) (resE E 1 (cN c)) := g_mut 1 (by omega) h0
  have cg : g_cell E w im (gad E (1 + 1)) (rowE 4 12 rg) := g_mut (1 + 1) (by omega) h1
  have cp : g_cell E w im (gad E (1 + 2)) (rowE 5 8 rp) := g_mut (1 + 2) (by omega) h2
  have cc : g_cell E w im (gad E (1 + 3)) (rowE 6 20 rc) := g_mut (1 + 3) (by omega) h3
  have cl : g_cell E w im (gad E (1 + 4)) (intE 372 lc) := g_mut (1 + 4) (by omega) h4
  have o39 := o3
  obtain ⟨oa1, oa2, oa3, oa4⟩ := o39
  refine g_enter (by decide) rfl rfl (fun h => by first | rfl | cases h) (Nat.le_of_ble_eq_true rfl) rfl ?_
  refine g_aload_n (n := 0) (i := 0) rfl rfl d_X_restore_0 ?_
  refine g_getfield 0 5 f_X_40 (by assumption) (by rfl) d_X_restore_1 ?_
  refine g_if_ne_i (tgt := 18) (by omega) d_X_restore_4 (by decide) (fun h4 => ?_) (fun h4 => ?_)
  · refine g_aload_n (n := 0) (i := 0) rfl rfl d_X_restore_18 ?_
    refine g_getfield 0 0 f_X_12 (by assumption) (by rfl) d_X_restore_19 ?_
    refine g_aload_n (n := 0) (i := 0) rfl rfl d_X_restore_22 ?_
    refine g_getfield 0 1 f_X_16 (by assumption) (by rfl) d_X_restore_23 ?_
    refine g_callV1 rfl rfl e_R_copyFrom l_X_436 iv_R_copyFrom 1 (by decide) rfl (by assumption) (by decide) (Nat.zero_le _) (Nat.zero_le _) (Nat.le_of_ble_eq_true rfl) d_X_restore_26 (c_R_copyFrom r1 r2 (by omega) (fun w im hN => ?_))
    refine g_retv ?_
    have hN := hx.sN hN
    have hx := hN.2.2
    have hx9 := hx
    obtain ⟨⟨hn, x0, x1, x2, x3, x4, x5, m61, x6⟩, ⟨r1, r2, r3⟩, o1, o2, o3, o4⟩ := hx9
    have k0 : g_cell E w im (gad E 0) _ := g_mut 0 (by omega) x0
    have k1 : g_cell E w im (gad E 56) _ := g_mut 56 (by omega) x1
    have k2 : g_cell E w im (gad E 57) _ := g_mut 57 (by omega) x2
    have k3 : g_cell E w im (gad E 58) _ := g_mut 58 (by omega) x3
    have k4 : g_cell E w im (gad E 59) _ := g_mut 59 (by omega) x4
    have k5 : g_cell E w im (gad E 60) _ := g_mut 60 (by omega) x5
    have k6 : g_cell E w im (gad E 61) _ := g_mut 61 (by omega) x6
    have kn := r1.cell
    have kk := r2.cell
    refine g_aload_n (n := 0) (i := 0) rfl rfl d_X_restore_29 ?_
    refine g_getfield 0 2 f_X_22 (by assumption) (by rfl) d_X_restore_30 ?_
    refine g_callV0 rfl rfl e_H_forget l_X_60 iv_H_forget 2 (by decide) rfl (by assumption) (by decide) (Nat.zero_le _) (Nat.zero_le _) (Nat.le_of_ble_eq_true rfl) d_X_restore_33 (c_H_forget hx (fun w im hN2 => ?_))
    refine g_retv ?_
    have hN := hN.trans hN2
    have hx := hN.2.2
    have hx9 := hx
    obtain ⟨⟨hn, x0, x1, x2, x3, x4, x5, m61, x6⟩, ⟨r1, r2, r3⟩, o1, o2, o3, o4⟩ := hx9
    have k0 : g_cell E w im (gad E 0) _ := g_mut 0 (by omega) x0
    have k1 : g_cell E w im (gad E 56) _ := g_mut 56 (by omega) x1
    have k2 : g_cell E w im (gad E 57) _ := g_mut 57 (by omega) x2
    have k3 : g_cell E w im (gad E 58) _ := g_mut 58 (by omega) x3
    have k4 : g_cell E w im (gad E 59) _ := g_mut 59 (by omega) x4
    have k5 : g_cell E w im (gad E 60) _ := g_mut 60 (by omega) x5
    have k6 : g_cell E w im (gad E 61) _ := g_mut 61 (by omega) x6
    have kn := r1.cell
    have kk := r2.cell
    refine g_aload_n (n := 0) (i := 0) rfl rfl d_X_restore_36 ?_
    refine g_getfield 0 0 f_X_12 (by assumption) (by rfl) d_X_restore_37 ?_
    refine g_getfield 1 6 f_X_54 (by assumption) (by rfl) d_X_restore_40 ?_
    refine g_ireturn_i rfl d_X_restore_43 ?_
    exact hQ _ _ _ _ (by unfold eRest; rw [if_neg (by omega)]; rfl) hN
  · refine x_ISEw c_X_81 xs_439 rfl rfl (Nat.le_of_ble_eq_true rfl) (by omega) (by omega) d_X_restore_7 d_X_restore_10 d_X_restore_11 d_X_restore_14 d_X_restore_17 ?_
    exact hQ _ _ _ _ (by unfold eRest; first | (rw [if_pos (by omega)]; done)) (XN.refl hx)

