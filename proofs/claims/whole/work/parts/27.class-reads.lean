/-! ===== the face of the class: what only reads ===== -/
abbrev oV (v : Int) : gO := .inl (some (.int (iI v)))
abbrev oIA : gO := .inr "java/lang/IllegalArgumentException"
abbrev oIS : gO := .inr "java/lang/IllegalStateException"
abbrev oIB : gO := .inr "java/lang/IndexOutOfBoundsException"
abbrev oUO : gO := .inr "java/lang/UnsupportedOperationException"
abbrev oNS : gO := .inr "java/util/NoSuchElementException"
abbrev oAR : gO := .inr "java/lang/ArithmeticException"
abbrev isG (R : Rz) (x : Int) : Prop := 0 ≤ x ∧ x < zg R
abbrev isP (R : Rz) (x : Int) : Prop := 0 ≤ x ∧ x < zp R
abbrev isC (R : Rz) (x : Int) : Prop := 0 ≤ x ∧ x < zc R
def thrG (R : Rz) (g : Int) : Int := sumZ (fun k9 => if k9 < zc R then cntG g (zC R k9).2.2.2.2 else 0) 20
def allDays (R : Rz) (g : Int) : Int := sumZ (fun k9 => zL R (g * 31 + k9)) 31
def gatesForZ (R : Rz) (ps : Int) : Int := ((orZ (fun k9 => if k9 < zg R then (if tb ps (zG R k9).1 = true then 2 ^ k9.toNat else 0) else 0) 12 : Nat) : Int)
def cardsWithZ (R : Rz) (pn : Int) : Int := sumZ (fun k9 => if k9 < zc R then (if (zC R k9).2.1 = 2 then 0 else if (zC R k9).1 = pn then 1 else 0) else 0) 20
def allRides (R : Rz) : Int := sumZ (fun k9 => if k9 < zc R then ((zC R k9).2.2.2.2.length : Int) else 0) 20
def inForce (R : Rz) : Int := sumZ (fun k9 => if k9 < zc R then (if (zC R k9).2.1 = 2 then 0 else 1) else 0) 20
def allPrice (R : Rz) : Int := sumZ (fun k9 => if k9 < zc R then (if (zC R k9).2.1 = 2 then 0 else (zP R (zC R k9).1).2.2.2.2.2) else 0) 20
def allRef (R : Rz) : Int := sumZ (fun k9 => if k9 < zc R then (zC R k9).2.2.2.1 else 0) 20
def allIdleZ (R : Rz) : Int := sumZ (fun k9 => if k9 < zc R then (if 0 < ((zC R k9).2.2.2.2.length : Int) then 0 else (if (zC R k9).2.1 = 2 then 0 else (zP R (zC R k9).1).2.2.2.2.2) - (zC R k9).2.2.2.1) else 0) 20
def refOf (R : Rz) (x : Int) : Int := refundZ R (zP R (zC R x).1) (zC R x).2.1 (zC R x).2.2.2.2
def allRefb (R : Rz) : Int := sumZ (fun k9 => if k9 < zc R then refundZ R (zP R (zC R k9).1) (zC R k9).2.1 (zC R k9).2.2.2.2 else 0) 20
def ridesAtP (R : Rz) (pa : Int) : Int := sumZ (fun k9 => if k9 < zc R then cntP pa (zC R k9).2.2.2.2 else 0) 20
def gatesOfP (R : Rz) (pa : Int) : Int := sumZ (fun k9 => if k9 < zg R then (if (zG R k9).1 = pa then 1 else 0) else 0) 12
def seenBy (R : Rz) (pa : Int) : Int := sumZ (fun k9 => if k9 < zc R then (if 0 < cntP pa (zC R k9).2.2.2.2 then 1 else 0) else 0) 20
def thrAll (R : Rz) : Int := sumZ (fun k9 => if k9 < zg R then sumZ (fun k9_1 => if k9_1 < zc R then cntG k9 (zC R k9_1).2.2.2.2 else 0) 20 else 0) 12
def reasonOf (R : Rz) (x g : Int) : Int := reasonZ R (zP R (zC R x).1) (zC R x).2.1 (zC R x).2.2.2.2 g (zG R g).1 (zG R g).2
def openOf (R : Rz) (x : Int) : Int := ((orZ (fun k9 => if k9 < zg R then (if reasonZ R (zP R (zC R x).1) (zC R x).2.1 (zC R x).2.2.2.2 k9 (zG R k9).1 (zG R k9).2 = 0 then 2 ^ k9.toNat else 0) else 0) 12 : Nat) : Int)
def oGate (R : Rz) (x y : Int) : gO := if isG R x then
  (if y = 0 then oV (zG R x).1 else if y = 1 then oV (zG R x).2 else if y = 2 then oV (if tb (zs R) x = true then 1 else 0) else if y = 3 then oV (thrG R x) else if y = 4 then oV (zL R (x * 31 + zk R / 1440)) else if y = 5 then oV (allDays R x) else oIA) else oIB
def oProd (R : Rz) (x y : Int) : gO := if isP R x then
  (if y = 0 then oV (zP R x).1 else if y = 1 then oV (zP R x).2.1 else if y = 2 then oV (zP R x).2.2.1 else if y = 3 then oV (zP R x).2.2.2.1 else if y = 4 then oV (zP R x).2.2.2.2.1 else if y = 5 then oV (zP R x).2.2.2.2.2 else if y = 6 then oV (gatesForZ R (zP R x).2.2.2.2.1) else if y = 7 then oV (cardsWithZ R x) else if y = 8 then oV (cardsWithZ R x * (zP R x).2.2.2.2.2) else oIA) else oIB
def oWay (R : Rz) (x y : Int) : gO := if isG R x ∧ isG R y then oV (wayZ (zG R x).1 (zG R x).2 (zG R y).1 (zG R y).2) else oIB
def oSys (R : Rz) (tl' ch' x : Int) : gO := if x = 0 then oV (zk R) else if x = 1 then oV (zk R / 1440) else if x = 2 then oV (zk R % 1440 / 60) else if x = 3 then oV (zg R) else if x = 4 then oV (zp R) else if x = 5 then oV (zc R) else if x = 6 then oV (allRides R) else if x = 7 then oV (zs R) else if x = 8 then oV tl' else if x = 9 then oV ch' else oIA
def oClo (R : Rz) (x y : Int) : gO := if isG R x then (if 0 ≤ y ∧ y ≤ 30 then oV (zL R (x * 31 + y)) else oIA) else oIB
def oCld (R : Rz) (x y : Int) : gO := if isP R x then (if 0 ≤ y ∧ y ≤ 30 then oV (if closedB R (zP R x).2.2.2.2.1 y = true then 1 else 0) else oIA) else oIB
def oRea (R : Rz) (x y : Int) : gO := if isC R x ∧ isG R y then oV (reasonOf R x y) else oIB
def oOpe (R : Rz) (x : Int) : gO := if isC R x then oV (openOf R x) else oIB
def oRfs (lr x : Int) : gO := if lr = 0 then oIS else if chainZ lr x = -1 then oNS else oV (chainZ lr x)
def oCard (R : Rz) (x y : Int) : gO := if isC R x then
  (if y = 0 then oV (zC R x).1 else if y = 1 then oV (zC R x).2.1 else if y = 2 then oV (zC R x).2.2.2.2.length else if y = 3 then oV (popc (dmask (zC R x).2.2.2.2) : Nat) else if y = 4 then oV (zC R x).2.2.1 else if y = 5 then oV (lastZ R 20 x) else if y = 6 then oV (if (zC R x).2.1 = 2 then 0 else (zP R (zC R x).1).2.2.2.2.2) else if y = 7 then oV (zC R x).2.2.2.1 else if y = 8 then oV (leftR (zP R (zC R x).1).1 (zP R (zC R x).1).2.1 (zC R x).2.2.2.2 (zk R / 1440)) else oIA) else oIB
def oRide (R : Rz) (x y z : Int) : gO := if isC R x then (match nthR (zC R x).2.2.2.2 y with | none => oNS | some q => oV (if z = 1 then q.1 else q.2.2.2)) else oIB
def oRfb (R : Rz) (x : Int) : gO := if isC R x then oV (refOf R x) else oIB
def oSha (R : Rz) (x y : Int) : gO := if isC R x ∧ (0 ≤ y ∧ y ≤ 3) then oV (shareC R x y) else oIB
def oPar (R : Rz) (x y : Int) : gO := if 0 ≤ x ∧ x ≤ 3 then (if y = 0 then oV (sharesP R x) else if y = 1 then oV (ridesAtP R x) else if y = 2 then oV (gatesOfP R x) else if y = 3 then oV (seenBy R x) else oIA) else oIB
def oAcc (R : Rz) (x : Int) : gO := if x = 0 then oV (allPrice R) else if x = 1 then oV (allRef R) else if x = 2 then oV (sharesA R) else if x = 3 then oV (allIdleZ R) else if x = 4 then oV (allRefb R) else oIA
def oNum (x : Int) : gO := if x = -1 then oNS else oV x

theorem c_X_gate {E : gE} {w : gW} {im : gIm} {Q : gQ} {c : CSt} (hx : XW E w im c) {x y : Int} (rx : -2147483648 ≤ x ∧ x < 2147483648) (ry : -2147483648 ≤ y ∧ y < 2147483648) (hQ : ∀ o w' im', o = oGate (cN c) x y → XN E w im c w' im' → Q (o) w' im') : GM E 2 y_X_gate m_X_gate 2 12 [.ref (gad E 0), .int (iI x), .int (iI y)] w im Q := by
  have hx9 := hx
  obtain ⟨⟨hn, x0, x1, x2, x3, x4, x5, m61, x6⟩, ⟨r1, r2, r3⟩, o1, o2, o3, o4⟩ := hx9
  have k0 : g_cell E w im (gad E 0) _ := g_mut 0 (by omega) x0
  have k1 : g_cell E w im (gad E 56) _ := g_mut 56 (by omega) x1
  have k2 : g_cell E w im (gad E 57) _ := g_mut 57 (by omega) x2
  have k3 : g_cell E w im (gad E 58) _ := g_mut 58 (by omega) x3
  have k4 : g_cell E w im (gad E 59) _ := g_mut 59 (by omega) x4
  have k5 : g_cell E w im (gad E 60) _ := g_mut 60 (by omega) x5
  have k6 : g_cell E w im (gad E 61) _ := g_mut 61 (by omega) x6
  have kn := r1.cell
  have kk := r2.cell
  have hz := r1
  have hz9 := hz
  obtain ⟨rg, rp, rc, lc, ⟨hb, h0, h1, h2, h3, h4, hlc⟩, ⟨i1, i2, i3, i4, i5, i6⟩, ok⟩ := hz9
  obtain ⟨ok1, ok2, ok3, ok4, ok5, ok6, ok7, ok8, ok9⟩ := ok
  have co : g_cell E w im (gad E 1) (resE E 1 (cN c)) := g_mut 1 (by omega) h0
  have cg : g_cell E w im (gad E (1 + 1)) (rowE 4 12 rg) := g_mut (1 + 1) (by omega) h1
  have cp : g_cell E w im (gad E (1 + 2)) (rowE 5 8 rp) := g_mut (1 + 2) (by omega) h2
  have cc : g_cell E w im (gad E (1 + 3)) (rowE 6 20 rc) := g_mut (1 + 3) (by omega) h3
  have cl : g_cell E w im (gad E (1 + 4)) (intE 372 lc) := g_mut (1 + 4) (by omega) h4
  refine g_enter (by decide) rfl rfl (fun h => by first | rfl | cases h) (Nat.le_of_ble_eq_true rfl) rfl ?_
  refine g_aload_n (n := 0) (i := 0) rfl rfl d_X_gate_0 ?_
  refine g_iload_n (n := 1) (i := 1) rfl rfl d_X_gate_1 ?_
  refine g_callV1 rfl rfl e_X_existingGate l_X_115 iv_X_existingGate 0 (by decide) rfl (by assumption) (by decide) (by decide) (by decide) (Nat.le_of_ble_eq_true rfl) d_X_gate_2 (c_X_existingGate hx (by omega) (fun a hBa fa => ?_) (fun hBa => ?_))
  · refine g_retn ?_
    have ca := g_imm (E := E) (w := w) fa
    have va := ok6 x hBa
    refine g_astore_n (n := 3) (i := 3) rfl (by decide) rfl d_X_gate_5 ?_
    refine g_iload_n (n := 2) (i := 2) rfl rfl d_X_gate_6 ?_
    have hsw7 : y = 0 ∨ y = 1 ∨ y = 2 ∨ y = 3 ∨ y = 4 ∨ y = 5 ∨ (y < 0 ∨ 5 < y) := by omega
    rcases hsw7 with rfl | rfl | rfl | rfl | rfl | rfl | hsw7
    · refine g_tableIn (off := 37) (tgt := 44) d_X_gate_7 (by decide) (by decide) (by decide) (by decide) ?_
      refine g_aload_n (n := 3) (i := 3) rfl rfl d_X_gate_44 ?_
      refine g_getfield 5 1 f_X_119 (by assumption) (by rfl) d_X_gate_45 ?_
      refine g_ireturn_i rfl d_X_gate_48 ?_
      exact hQ _ _ _ (by unfold oGate; first | (rw [if_pos hBa]; rfl) | (rw [if_neg hBa]; done) | (rw [if_pos hBa, if_neg (by omega), if_neg (by omega), if_neg (by omega), if_neg (by omega), if_neg (by omega), if_neg (by omega)]; done) | (rw [if_pos hBa]; exact congrArg oV (if_pos hB).symm) | (rw [if_pos hBa]; exact congrArg oV (if_neg hB).symm) | ((repeat' split) <;> first | rfl | (exfalso; omega) | (exfalso; simp_all))) (XN.refl hx)
    · refine g_tableIn (off := 42) (tgt := 49) d_X_gate_7 (by decide) (by decide) (by decide) (by decide) ?_
      refine g_aload_n (n := 3) (i := 3) rfl rfl d_X_gate_49 ?_
      refine g_getfield 5 2 f_X_122 (by assumption) (by rfl) d_X_gate_50 ?_
      refine g_ireturn_i rfl d_X_gate_53 ?_
      exact hQ _ _ _ (by unfold oGate; first | (rw [if_pos hBa]; rfl) | (rw [if_neg hBa]; done) | (rw [if_pos hBa, if_neg (by omega), if_neg (by omega), if_neg (by omega), if_neg (by omega), if_neg (by omega), if_neg (by omega)]; done) | (rw [if_pos hBa]; exact congrArg oV (if_pos hB).symm) | (rw [if_pos hBa]; exact congrArg oV (if_neg hB).symm) | ((repeat' split) <;> first | rfl | (exfalso; omega) | (exfalso; simp_all))) (XN.refl hx)
    · refine g_tableIn (off := 47) (tgt := 54) d_X_gate_7 (by decide) (by decide) (by decide) (by decide) ?_
      refine g_aload_n (n := 0) (i := 0) rfl rfl d_X_gate_54 ?_
      refine g_getfield 0 0 f_X_12 (by assumption) (by rfl) d_X_gate_55 ?_
      refine g_aload_n (n := 3) (i := 3) rfl rfl d_X_gate_58 ?_
      refine g_callV1 rfl rfl e_R_isShut l_X_125 iv_R_isShut 1 (by decide) rfl (by assumption) (by decide) (Nat.zero_le _) (Nat.zero_le _) (Nat.le_of_ble_eq_true rfl) d_X_gate_59 (c_R_isShut (by assumption) (by assumption) (by omega) (fun hB => ?_) (fun hB => ?_))
      · refine g_ret ?_
        refine g_if_eq_i (tgt := 69) (by decide) d_X_gate_62 (by decide) (fun h => absurd h (by decide)) (fun h62 => ?_)
        refine g_iconst_i d_X_gate_65 ?_
        refine g_goto (tgt := 70) (by decide) d_X_gate_66 ?_
        refine g_ireturn_i rfl d_X_gate_70 ?_
        exact hQ _ _ _ (by unfold oGate; first | (rw [if_pos hBa]; rfl) | (rw [if_neg hBa]; done) | (rw [if_pos hBa, if_neg (by omega), if_neg (by omega), if_neg (by omega), if_neg (by omega), if_neg (by omega), if_neg (by omega)]; done) | (rw [if_pos hBa]; exact congrArg oV (if_pos hB).symm) | (rw [if_pos hBa]; exact congrArg oV (if_neg hB).symm) | ((repeat' split) <;> first | rfl | (exfalso; omega) | (exfalso; simp_all))) (XN.refl hx)
      · refine g_ret ?_
        refine g_if_eq_i (tgt := 69) (by decide) d_X_gate_62 (by decide) (fun h62 => ?_) (fun h => absurd h (by decide))
        refine g_iconst_i d_X_gate_69 ?_
        refine g_ireturn_i rfl d_X_gate_70 ?_
        exact hQ _ _ _ (by unfold oGate; first | (rw [if_pos hBa]; rfl) | (rw [if_neg hBa]; done) | (rw [if_pos hBa, if_neg (by omega), if_neg (by omega), if_neg (by omega), if_neg (by omega), if_neg (by omega), if_neg (by omega)]; done) | (rw [if_pos hBa]; exact congrArg oV (if_pos hB).symm) | (rw [if_pos hBa]; exact congrArg oV (if_neg hB).symm) | ((repeat' split) <;> first | rfl | (exfalso; omega) | (exfalso; simp_all))) (XN.refl hx)
    · refine g_tableIn (off := 64) (tgt := 71) d_X_gate_7 (by decide) (by decide) (by decide) (by decide) ?_
      refine g_aload_n (n := 0) (i := 0) rfl rfl d_X_gate_71 ?_
      refine g_getfield 0 0 f_X_12 (by assumption) (by rfl) d_X_gate_72 ?_
      refine g_aload_n (n := 3) (i := 3) rfl rfl d_X_gate_75 ?_
      refine g_callV1 rfl rfl e_R_ridesThrough l_X_129 iv_R_ridesThrough 1 (by decide) rfl (by assumption) (by decide) (Nat.zero_le _) (Nat.zero_le _) (Nat.le_of_ble_eq_true rfl) d_X_gate_76 (c_R_ridesThrough (by assumption) (by assumption) (by omega) ?_)
      refine g_ret ?_
      refine g_ireturn_i rfl d_X_gate_79 ?_
      exact hQ _ _ _ (by unfold oGate; first | (rw [if_pos hBa]; rfl) | (rw [if_neg hBa]; done) | (rw [if_pos hBa, if_neg (by omega), if_neg (by omega), if_neg (by omega), if_neg (by omega), if_neg (by omega), if_neg (by omega)]; done) | (rw [if_pos hBa]; exact congrArg oV (if_pos hB).symm) | (rw [if_pos hBa]; exact congrArg oV (if_neg hB).symm) | ((repeat' split) <;> first | rfl | (exfalso; omega) | (exfalso; simp_all))) (XN.refl hx)
    · refine g_tableIn (off := 73) (tgt := 80) d_X_gate_7 (by decide) (by decide) (by decide) (by decide) ?_
      refine g_aload_n (n := 0) (i := 0) rfl rfl d_X_gate_80 ?_
      refine g_getfield 0 0 f_X_12 (by assumption) (by rfl) d_X_gate_81 ?_
      refine g_aload_n (n := 3) (i := 3) rfl rfl d_X_gate_84 ?_
      refine g_aload_n (n := 0) (i := 0) rfl rfl d_X_gate_85 ?_
      refine g_getfield 0 0 f_X_12 (by assumption) (by rfl) d_X_gate_86 ?_
      refine g_callV0 rfl rfl e_R_today l_X_132 iv_R_today 1 (by decide) rfl (by assumption) (by decide) (Nat.zero_le _) (Nat.zero_le _) (Nat.le_of_ble_eq_true rfl) d_X_gate_89 (c_R_today (by assumption) ?_)
      refine g_ret ?_
      refine g_callV2 rfl rfl e_R_closedOn l_X_136 iv_R_closedOn 1 (by decide) rfl (by assumption) (by decide) (Nat.zero_le _) (Nat.zero_le _) (Nat.le_of_ble_eq_true rfl) d_X_gate_92 (c_R_closedOn (by assumption) (by assumption) (by omega) (by omega) ?_)
      refine g_ret ?_
      refine g_ireturn_i rfl d_X_gate_95 ?_
      exact hQ _ _ _ (by unfold oGate; first | (rw [if_pos hBa]; rfl) | (rw [if_neg hBa]; done) | (rw [if_pos hBa, if_neg (by omega), if_neg (by omega), if_neg (by omega), if_neg (by omega), if_neg (by omega), if_neg (by omega)]; done) | (rw [if_pos hBa]; exact congrArg oV (if_pos hB).symm) | (rw [if_pos hBa]; exact congrArg oV (if_neg hB).symm) | ((repeat' split) <;> first | rfl | (exfalso; omega) | (exfalso; simp_all))) (XN.refl hx)
    · refine g_tableIn (off := 89) (tgt := 96) d_X_gate_7 (by decide) (by decide) (by decide) (by decide) ?_
      refine g_aload_n (n := 0) (i := 0) rfl rfl d_X_gate_96 ?_
      refine g_getfield 0 0 f_X_12 (by assumption) (by rfl) d_X_gate_97 ?_
      refine g_aload_n (n := 3) (i := 3) rfl rfl d_X_gate_100 ?_
      refine g_callV1 rfl rfl e_R_closedOnAllDays l_X_140 iv_R_closedOnAllDays 1 (by decide) rfl (by assumption) (by decide) (Nat.zero_le _) (Nat.zero_le _) (Nat.le_of_ble_eq_true rfl) d_X_gate_101 (c_R_closedOnAllDays (by assumption) (by assumption) (by omega) ?_)
      refine g_ret ?_
      refine g_ireturn_i rfl d_X_gate_104 ?_
      exact hQ _ _ _ (by unfold oGate; first | (rw [if_pos hBa]; rfl) | (rw [if_neg hBa]; done) | (rw [if_pos hBa, if_neg (by omega), if_neg (by omega), if_neg (by omega), if_neg (by omega), if_neg (by omega), if_neg (by omega)]; done) | (rw [if_pos hBa]; exact congrArg oV (if_pos hB).symm) | (rw [if_pos hBa]; exact congrArg oV (if_neg hB).symm) | ((repeat' split) <;> first | rfl | (exfalso; omega) | (exfalso; simp_all))) (XN.refl hx)
    · refine g_tableOut (tgt := 105) d_X_gate_7 (by rw [iI_toInt (by omega)]; exact hsw7) (by decide) ?_
      refine x_IAE c_X_71 xs_143 rfl rfl (Nat.le_of_ble_eq_true rfl) (by omega) (by omega) d_X_gate_105 d_X_gate_108 d_X_gate_109 d_X_gate_111 d_X_gate_114 ?_
      exact hQ _ _ _ (by unfold oGate; first | (rw [if_pos hBa]; rfl) | (rw [if_neg hBa]; done) | (rw [if_pos hBa, if_neg (by omega), if_neg (by omega), if_neg (by omega), if_neg (by omega), if_neg (by omega), if_neg (by omega)]; done) | (rw [if_pos hBa]; exact congrArg oV (if_pos hB).symm) | (rw [if_pos hBa]; exact congrArg oV (if_neg hB).symm) | ((repeat' split) <;> first | rfl | (exfalso; omega) | (exfalso; simp_all))) (XN.refl hx)
  · refine g_retx ?_
    exact hQ _ _ _ (by unfold oGate; first | (rw [if_pos hBa]; rfl) | (rw [if_neg hBa]; done) | (rw [if_pos hBa, if_neg (by omega), if_neg (by omega), if_neg (by omega), if_neg (by omega), if_neg (by omega), if_neg (by omega)]; done) | (rw [if_pos hBa]; exact congrArg oV (if_pos hB).symm) | (rw [if_pos hBa]; exact congrArg oV (if_neg hB).symm) | ((repeat' split) <;> first | rfl | (exfalso; omega) | (exfalso; simp_all))) (XN.refl hx)

theorem c_X_product {E : gE} {w : gW} {im : gIm} {Q : gQ} {c : CSt} (hx : XW E w im c) {x y : Int} (rx : -2147483648 ≤ x ∧ x < 2147483648) (ry : -2147483648 ≤ y ∧ y < 2147483648) (hQ : ∀ o w' im', o = oProd (cN c) x y → XN E w im c w' im' → Q (o) w' im') : GM E 2 y_X_product m_X_product 2 12 [.ref (gad E 0), .int (iI x), .int (iI y)] w im Q := by
  have hx9 := hx
  obtain ⟨⟨hn, x0, x1, x2, x3, x4, x5, m61, x6⟩, ⟨r1, r2, r3⟩, o1, o2, o3, o4⟩ := hx9
  have k0 : g_cell E w im (gad E 0) _ := g_mut 0 (by omega) x0
  have k1 : g_cell E w im (gad E 56) _ := g_mut 56 (by omega) x1
  have k2 : g_cell E w im (gad E 57) _ := g_mut 57 (by omega) x2
  have k3 : g_cell E w im (gad E 58) _ := g_mut 58 (by omega) x3
  have k4 : g_cell E w im (gad E 59) _ := g_mut 59 (by omega) x4
  have k5 : g_cell E w im (gad E 60) _ := g_mut 60 (by omega) x5
  have k6 : g_cell E w im (gad E 61) _ := g_mut 61 (by omega) x6
  have kn := r1.cell
  have kk := r2.cell
  have hz := r1
  have hz9 := hz
  obtain ⟨rg, rp, rc, lc, ⟨hb, h0, h1, h2, h3, h4, hlc⟩, ⟨i1, i2, i3, i4, i5, i6⟩, ok⟩ := hz9
  obtain ⟨ok1, ok2, ok3, ok4, ok5, ok6, ok7, ok8, ok9⟩ := ok
  have co : g_cell E w im (gad E 1) (resE E 1 (cN c)) := g_mut 1 (by omega) h0
  have cg : g_cell E w im (gad E (1 + 1)) (rowE 4 12 rg) := g_mut (1 + 1) (by omega) h1
  have cp : g_cell E w im (gad E (1 + 2)) (rowE 5 8 rp) := g_mut (1 + 2) (by omega) h2
  have cc : g_cell E w im (gad E (1 + 3)) (rowE 6 20 rc) := g_mut (1 + 3) (by omega) h3
  have cl : g_cell E w im (gad E (1 + 4)) (intE 372 lc) := g_mut (1 + 4) (by omega) h4
  refine g_enter (by decide) rfl rfl (fun h => by first | rfl | cases h) (Nat.le_of_ble_eq_true rfl) rfl ?_
  refine g_aload_n (n := 0) (i := 0) rfl rfl d_X_product_0 ?_
  refine g_iload_n (n := 1) (i := 1) rfl rfl d_X_product_1 ?_
  refine g_callV1 rfl rfl e_X_existingProduct l_X_145 iv_X_existingProduct 0 (by decide) rfl (by assumption) (by decide) (by decide) (by decide) (Nat.le_of_ble_eq_true rfl) d_X_product_2 (c_X_existingProduct hx (by omega) (fun a hBa fa => ?_) (fun hBa => ?_))
  · refine g_retn ?_
    have ca := g_imm (E := E) (w := w) fa
    have va := ok7 x hBa
    refine g_astore_n (n := 3) (i := 3) rfl (by decide) rfl d_X_product_5 ?_
    refine g_iload_n (n := 2) (i := 2) rfl rfl d_X_product_6 ?_
    have hsw7 : y = 0 ∨ y = 1 ∨ y = 2 ∨ y = 3 ∨ y = 4 ∨ y = 5 ∨ y = 6 ∨ y = 7 ∨ y = 8 ∨ (y < 0 ∨ 8 < y) := by omega
    rcases hsw7 with rfl | rfl | rfl | rfl | rfl | rfl | rfl | rfl | rfl | hsw7
    · refine g_tableIn (off := 49) (tgt := 56) d_X_product_7 (by decide) (by decide) (by decide) (by decide) ?_
      refine g_aload_n (n := 3) (i := 3) rfl rfl d_X_product_56 ?_
      refine g_getfield 6 1 f_X_149 (by assumption) (by rfl) d_X_product_57 ?_
      refine g_ireturn_i rfl d_X_product_60 ?_
      exact hQ _ _ _ (by unfold oProd; first | (rw [if_pos hBa]; rfl) | (rw [if_neg hBa]; done) | (rw [if_pos hBa, if_neg (by omega), if_neg (by omega), if_neg (by omega), if_neg (by omega), if_neg (by omega), if_neg (by omega), if_neg (by omega), if_neg (by omega), if_neg (by omega)]; done) | ((repeat' split) <;> first | rfl | (exfalso; omega) | (exfalso; simp_all))) (XN.refl hx)
    · refine g_tableIn (off := 54) (tgt := 61) d_X_product_7 (by decide) (by decide) (by decide) (by decide) ?_
      refine g_aload_n (n := 3) (i := 3) rfl rfl d_X_product_61 ?_
      refine g_getfield 6 2 f_X_152 (by assumption) (by rfl) d_X_product_62 ?_
      refine g_ireturn_i rfl d_X_product_65 ?_
      exact hQ _ _ _ (by unfold oProd; first | (rw [if_pos hBa]; rfl) | (rw [if_neg hBa]; done) | (rw [if_pos hBa, if_neg (by omega), if_neg (by omega), if_neg (by omega), if_neg (by omega), if_neg (by omega), if_neg (by omega), if_neg (by omega), if_neg (by omega), if_neg (by omega)]; done) | ((repeat' split) <;> first | rfl | (exfalso; omega) | (exfalso; simp_all))) (XN.refl hx)
    · refine g_tableIn (off := 59) (tgt := 66) d_X_product_7 (by decide) (by decide) (by decide) (by decide) ?_
      refine g_aload_n (n := 3) (i := 3) rfl rfl d_X_product_66 ?_
      refine g_getfield 6 3 f_X_155 (by assumption) (by rfl) d_X_product_67 ?_
      refine g_ireturn_i rfl d_X_product_70 ?_
      exact hQ _ _ _ (by unfold oProd; first | (rw [if_pos hBa]; rfl) | (rw [if_neg hBa]; done) | (rw [if_pos hBa, if_neg (by omega), if_neg (by omega), if_neg (by omega), if_neg (by omega), if_neg (by omega), if_neg (by omega), if_neg (by omega), if_neg (by omega), if_neg (by omega)]; done) | ((repeat' split) <;> first | rfl | (exfalso; omega) | (exfalso; simp_all))) (XN.refl hx)
    · refine g_tableIn (off := 64) (tgt := 71) d_X_product_7 (by decide) (by decide) (by decide) (by decide) ?_
      refine g_aload_n (n := 3) (i := 3) rfl rfl d_X_product_71 ?_
      refine g_getfield 6 4 f_X_158 (by assumption) (by rfl) d_X_product_72 ?_
      refine g_ireturn_i rfl d_X_product_75 ?_
      exact hQ _ _ _ (by unfold oProd; first | (rw [if_pos hBa]; rfl) | (rw [if_neg hBa]; done) | (rw [if_pos hBa, if_neg (by omega), if_neg (by omega), if_neg (by omega), if_neg (by omega), if_neg (by omega), if_neg (by omega), if_neg (by omega), if_neg (by omega), if_neg (by omega)]; done) | ((repeat' split) <;> first | rfl | (exfalso; omega) | (exfalso; simp_all))) (XN.refl hx)
    · refine g_tableIn (off := 69) (tgt := 76) d_X_product_7 (by decide) (by decide) (by decide) (by decide) ?_
      refine g_aload_n (n := 3) (i := 3) rfl rfl d_X_product_76 ?_
      refine g_getfield 6 5 f_X_161 (by assumption) (by rfl) d_X_product_77 ?_
      refine g_ireturn_i rfl d_X_product_80 ?_
      exact hQ _ _ _ (by unfold oProd; first | (rw [if_pos hBa]; rfl) | (rw [if_neg hBa]; done) | (rw [if_pos hBa, if_neg (by omega), if_neg (by omega), if_neg (by omega), if_neg (by omega), if_neg (by omega), if_neg (by omega), if_neg (by omega), if_neg (by omega), if_neg (by omega)]; done) | ((repeat' split) <;> first | rfl | (exfalso; omega) | (exfalso; simp_all))) (XN.refl hx)
    · refine g_tableIn (off := 74) (tgt := 81) d_X_product_7 (by decide) (by decide) (by decide) (by decide) ?_
      refine g_aload_n (n := 3) (i := 3) rfl rfl d_X_product_81 ?_
      refine g_getfield 6 6 f_X_164 (by assumption) (by rfl) d_X_product_82 ?_
      refine g_ireturn_i rfl d_X_product_85 ?_
      exact hQ _ _ _ (by unfold oProd; first | (rw [if_pos hBa]; rfl) | (rw [if_neg hBa]; done) | (rw [if_pos hBa, if_neg (by omega), if_neg (by omega), if_neg (by omega), if_neg (by omega), if_neg (by omega), if_neg (by omega), if_neg (by omega), if_neg (by omega), if_neg (by omega)]; done) | ((repeat' split) <;> first | rfl | (exfalso; omega) | (exfalso; simp_all))) (XN.refl hx)
    · refine g_tableIn (off := 79) (tgt := 86) d_X_product_7 (by decide) (by decide) (by decide) (by decide) ?_
      refine g_aload_n (n := 0) (i := 0) rfl rfl d_X_product_86 ?_
      refine g_getfield 0 0 f_X_12 (by assumption) (by rfl) d_X_product_87 ?_
      refine g_aload_n (n := 3) (i := 3) rfl rfl d_X_product_90 ?_
      refine g_callV1 rfl rfl e_R_gatesFor l_X_167 iv_R_gatesFor 1 (by decide) rfl (by assumption) (by decide) (Nat.zero_le _) (Nat.zero_le _) (Nat.le_of_ble_eq_true rfl) d_X_product_91 (c_R_gatesFor hz fa va ?_)
      refine g_ret ?_
      refine g_ireturn_i rfl d_X_product_94 ?_
      exact hQ _ _ _ (by unfold oProd; first | (rw [if_pos hBa]; rfl) | (rw [if_neg hBa]; done) | (rw [if_pos hBa, if_neg (by omega), if_neg (by omega), if_neg (by omega), if_neg (by omega), if_neg (by omega), if_neg (by omega), if_neg (by omega), if_neg (by omega), if_neg (by omega)]; done) | ((repeat' split) <;> first | rfl | (exfalso; omega) | (exfalso; simp_all))) (XN.refl hx)
    · refine g_tableIn (off := 88) (tgt := 95) d_X_product_7 (by decide) (by decide) (by decide) (by decide) ?_
      refine g_aload_n (n := 0) (i := 0) rfl rfl d_X_product_95 ?_
      refine g_getfield 0 0 f_X_12 (by assumption) (by rfl) d_X_product_96 ?_
      refine g_aload_n (n := 3) (i := 3) rfl rfl d_X_product_99 ?_
      refine g_callV1 rfl rfl e_R_cardsWith l_X_170 iv_R_cardsWith 1 (by decide) rfl (by assumption) (by decide) (Nat.zero_le _) (Nat.zero_le _) (Nat.le_of_ble_eq_true rfl) d_X_product_100 (c_R_cardsWith hz fa va (by omega) ?_)
      refine g_ret ?_
      refine g_ireturn_i rfl d_X_product_103 ?_
      exact hQ _ _ _ (by unfold oProd; first | (rw [if_pos hBa]; rfl) | (rw [if_neg hBa]; done) | (rw [if_pos hBa, if_neg (by omega), if_neg (by omega), if_neg (by omega), if_neg (by omega), if_neg (by omega), if_neg (by omega), if_neg (by omega), if_neg (by omega), if_neg (by omega)]; done) | ((repeat' split) <;> first | rfl | (exfalso; omega) | (exfalso; simp_all))) (XN.refl hx)
    · refine g_tableIn (off := 97) (tgt := 104) d_X_product_7 (by decide) (by decide) (by decide) (by decide) ?_
      refine g_aload_n (n := 0) (i := 0) rfl rfl d_X_product_104 ?_
      refine g_getfield 0 0 f_X_12 (by assumption) (by rfl) d_X_product_105 ?_
      refine g_aload_n (n := 3) (i := 3) rfl rfl d_X_product_108 ?_
      refine g_callV1 rfl rfl e_R_cardsWith l_X_170 iv_R_cardsWith 1 (by decide) rfl (by assumption) (by decide) (Nat.zero_le _) (Nat.zero_le _) (Nat.le_of_ble_eq_true rfl) d_X_product_109 (c_R_cardsWith hz fa va (by omega) ?_)
      refine g_ret ?_
      refine g_aload_n (n := 3) (i := 3) rfl rfl d_X_product_112 ?_
      refine g_getfield 6 6 f_X_164 (by assumption) (by rfl) d_X_product_113 ?_
      refine g_imul_i d_X_product_116 ?_
      refine g_ireturn_i rfl d_X_product_117 ?_
      exact hQ _ _ _ (by unfold oProd; first | (rw [if_pos hBa]; rfl) | (rw [if_neg hBa]; done) | (rw [if_pos hBa, if_neg (by omega), if_neg (by omega), if_neg (by omega), if_neg (by omega), if_neg (by omega), if_neg (by omega), if_neg (by omega), if_neg (by omega), if_neg (by omega)]; done) | ((repeat' split) <;> first | rfl | (exfalso; omega) | (exfalso; simp_all))) (XN.refl hx)
    · refine g_tableOut (tgt := 118) d_X_product_7 (by rw [iI_toInt (by omega)]; exact hsw7) (by decide) ?_
      refine x_IAE c_X_71 xs_173 rfl rfl (Nat.le_of_ble_eq_true rfl) (by omega) (by omega) d_X_product_118 d_X_product_121 d_X_product_122 d_X_product_124 d_X_product_127 ?_
      exact hQ _ _ _ (by unfold oProd; first | (rw [if_pos hBa]; rfl) | (rw [if_neg hBa]; done) | (rw [if_pos hBa, if_neg (by omega), if_neg (by omega), if_neg (by omega), if_neg (by omega), if_neg (by omega), if_neg (by omega), if_neg (by omega), if_neg (by omega), if_neg (by omega)]; done) | ((repeat' split) <;> first | rfl | (exfalso; omega) | (exfalso; simp_all))) (XN.refl hx)
  · refine g_retx ?_
    exact hQ _ _ _ (by unfold oProd; first | (rw [if_pos hBa]; rfl) | (rw [if_neg hBa]; done) | (rw [if_pos hBa, if_neg (by omega), if_neg (by omega), if_neg (by omega), if_neg (by omega), if_neg (by omega), if_neg (by omega), if_neg (by omega), if_neg (by omega), if_neg (by omega)]; done) | ((repeat' split) <;> first | rfl | (exfalso; omega) | (exfalso; simp_all))) (XN.refl hx)

theorem c_X_way {E : gE} {w : gW} {im : gIm} {Q : gQ} {c : CSt} (hx : XW E w im c) {x y : Int} (rx : -2147483648 ≤ x ∧ x < 2147483648) (ry : -2147483648 ≤ y ∧ y < 2147483648) (hQ : ∀ o w' im', o = oWay (cN c) x y → XN E w im c w' im' → Q (o) w' im') : GM E 2 y_X_way m_X_way 2 12 [.ref (gad E 0), .int (iI x), .int (iI y)] w im Q := by
  have hx9 := hx
  obtain ⟨⟨hn, x0, x1, x2, x3, x4, x5, m61, x6⟩, ⟨r1, r2, r3⟩, o1, o2, o3, o4⟩ := hx9
  have k0 : g_cell E w im (gad E 0) _ := g_mut 0 (by omega) x0
  have k1 : g_cell E w im (gad E 56) _ := g_mut 56 (by omega) x1
  have k2 : g_cell E w im (gad E 57) _ := g_mut 57 (by omega) x2
  have k3 : g_cell E w im (gad E 58) _ := g_mut 58 (by omega) x3
  have k4 : g_cell E w im (gad E 59) _ := g_mut 59 (by omega) x4
  have k5 : g_cell E w im (gad E 60) _ := g_mut 60 (by omega) x5
  have k6 : g_cell E w im (gad E 61) _ := g_mut 61 (by omega) x6
  have kn := r1.cell
  have kk := r2.cell
  have hz := r1
  have hz9 := hz
  obtain ⟨rg, rp, rc, lc, ⟨hb, h0, h1, h2, h3, h4, hlc⟩, ⟨i1, i2, i3, i4, i5, i6⟩, ok⟩ := hz9
  obtain ⟨ok1, ok2, ok3, ok4, ok5, ok6, ok7, ok8, ok9⟩ := ok
  have co : g_cell E w im (gad E 1) (resE E 1 (cN c)) := g_mut 1 (by omega) h0
  have cg : g_cell E w im (gad E (1 + 1)) (rowE 4 12 rg) := g_mut (1 + 1) (by omega) h1
  have cp : g_cell E w im (gad E (1 + 2)) (rowE 5 8 rp) := g_mut (1 + 2) (by omega) h2
  have cc : g_cell E w im (gad E (1 + 3)) (rowE 6 20 rc) := g_mut (1 + 3) (by omega) h3
  have cl : g_cell E w im (gad E (1 + 4)) (intE 372 lc) := g_mut (1 + 4) (by omega) h4
  refine g_enter (by decide) rfl rfl (fun h => by first | rfl | cases h) (Nat.le_of_ble_eq_true rfl) rfl ?_
  refine g_aload_n (n := 0) (i := 0) rfl rfl d_X_way_0 ?_
  refine g_iload_n (n := 1) (i := 1) rfl rfl d_X_way_1 ?_
  refine g_callV1 rfl rfl e_X_existingGate l_X_115 iv_X_existingGate 0 (by decide) rfl (by assumption) (by decide) (by decide) (by decide) (Nat.le_of_ble_eq_true rfl) d_X_way_2 (c_X_existingGate hx (by omega) (fun a hBa fa => ?_) (fun hBa => ?_))
  · refine g_retn ?_
    have ca := g_imm (E := E) (w := w) fa
    have va := ok6 x hBa
    refine g_astore_n (n := 3) (i := 3) rfl (by decide) rfl d_X_way_5 ?_
    refine g_aload_n (n := 0) (i := 0) rfl rfl d_X_way_6 ?_
    refine g_iload_n (n := 2) (i := 2) rfl rfl d_X_way_7 ?_
    refine g_callV1 rfl rfl e_X_existingGate l_X_115 iv_X_existingGate 0 (by decide) rfl (by assumption) (by decide) (by decide) (by decide) (Nat.le_of_ble_eq_true rfl) d_X_way_8 (c_X_existingGate hx (by omega) (fun b hBb fb => ?_) (fun hBb => ?_))
    · refine g_retn ?_
      have cb := g_imm (E := E) (w := w) fb
      have vb := ok6 y hBb
      refine g_astore (i := 4) (by decide) rfl d_X_way_11 ?_
      refine g_aload_n (n := 3) (i := 3) rfl rfl d_X_way_13 ?_
      refine g_aload (i := 4) rfl d_X_way_14 ?_
      refine g_callV1 rfl rfl e_G_wayTo l_X_175 iv_G_wayTo 5 (by decide) rfl (by assumption) (by decide) (Nat.zero_le _) (Nat.zero_le _) (Nat.le_of_ble_eq_true rfl) d_X_way_16 (c_G_wayTo ca cb (by omega) ?_)
      refine g_ret ?_
      refine g_ireturn_i rfl d_X_way_19 ?_
      exact hQ _ _ _ (by unfold oWay; first | rfl | (rw [if_pos ⟨hBa, hBb⟩]; done) | (rw [if_neg (fun h => hBa h.1)]; done) | (rw [if_neg (fun h => hBb h.2)]; done) | ((repeat' split) <;> first | rfl | (exfalso; omega) | (exfalso; simp_all))) (XN.refl hx)
    · refine g_retx ?_
      exact hQ _ _ _ (by unfold oWay; first | rfl | (rw [if_pos ⟨hBa, hBb⟩]; done) | (rw [if_neg (fun h => hBa h.1)]; done) | (rw [if_neg (fun h => hBb h.2)]; done) | ((repeat' split) <;> first | rfl | (exfalso; omega) | (exfalso; simp_all))) (XN.refl hx)
  · refine g_retx ?_
    exact hQ _ _ _ (by unfold oWay; first | rfl | (rw [if_pos ⟨hBa, hBb⟩]; done) | (rw [if_neg (fun h => hBa h.1)]; done) | (rw [if_neg (fun h => hBb h.2)]; done) | ((repeat' split) <;> first | rfl | (exfalso; omega) | (exfalso; simp_all))) (XN.refl hx)

theorem c_X_system {E : gE} {w : gW} {im : gIm} {Q : gQ} {c : CSt} (hx : XW E w im c) {x : Int} (rx : -2147483648 ≤ x ∧ x < 2147483648) (hQ : ∀ o w' im', o = oSys (cN c) (tl (cT c)) (ch c) x → XN E w im c w' im' → Q (o) w' im') : GM E 2 y_X_system m_X_system 1 6 [.ref (gad E 0), .int (iI x)] w im Q := by
  have hx9 := hx
  obtain ⟨⟨hn, x0, x1, x2, x3, x4, x5, m61, x6⟩, ⟨r1, r2, r3⟩, o1, o2, o3, o4⟩ := hx9
  have k0 : g_cell E w im (gad E 0) _ := g_mut 0 (by omega) x0
  have k1 : g_cell E w im (gad E 56) _ := g_mut 56 (by omega) x1
  have k2 : g_cell E w im (gad E 57) _ := g_mut 57 (by omega) x2
  have k3 : g_cell E w im (gad E 58) _ := g_mut 58 (by omega) x3
  have k4 : g_cell E w im (gad E 59) _ := g_mut 59 (by omega) x4
  have k5 : g_cell E w im (gad E 60) _ := g_mut 60 (by omega) x5
  have k6 : g_cell E w im (gad E 61) _ := g_mut 61 (by omega) x6
  have kn := r1.cell
  have kk := r2.cell
  have hz := r1
  have hz9 := hz
  obtain ⟨rg, rp, rc, lc, ⟨hb, h0, h1, h2, h3, h4, hlc⟩, ⟨i1, i2, i3, i4, i5, i6⟩, ok⟩ := hz9
  obtain ⟨ok1, ok2, ok3, ok4, ok5, ok6, ok7, ok8, ok9⟩ := ok
  have co : g_cell E w im (gad E 1) (resE E 1 (cN c)) := g_mut 1 (by omega) h0
  have cg : g_cell E w im (gad E (1 + 1)) (rowE 4 12 rg) := g_mut (1 + 1) (by omega) h1
  have cp : g_cell E w im (gad E (1 + 2)) (rowE 5 8 rp) := g_mut (1 + 2) (by omega) h2
  have cc : g_cell E w im (gad E (1 + 3)) (rowE 6 20 rc) := g_mut (1 + 3) (by omega) h3
  have cl : g_cell E w im (gad E (1 + 4)) (intE 372 lc) := g_mut (1 + 4) (by omega) h4
  refine g_enter (by decide) rfl rfl (fun h => by first | rfl | cases h) (Nat.le_of_ble_eq_true rfl) rfl ?_
  refine g_iload_n (n := 1) (i := 1) rfl rfl d_X_system_0 ?_
  have hsw1 : x = 0 ∨ x = 1 ∨ x = 2 ∨ x = 3 ∨ x = 4 ∨ x = 5 ∨ x = 6 ∨ x = 7 ∨ x = 8 ∨ x = 9 ∨ (x < 0 ∨ 9 < x) := by omega
  rcases hsw1 with rfl | rfl | rfl | rfl | rfl | rfl | rfl | rfl | rfl | rfl | hsw1
  · refine g_tableIn (off := 55) (tgt := 56) d_X_system_1 (by decide) (by decide) (by decide) (by decide) ?_
    refine g_aload_n (n := 0) (i := 0) rfl rfl d_X_system_56 ?_
    refine g_getfield 0 0 f_X_12 (by assumption) (by rfl) d_X_system_57 ?_
    refine g_getfield 1 8 f_X_180 (by assumption) (by rfl) d_X_system_60 ?_
    refine g_ireturn_i rfl d_X_system_63 ?_
    exact hQ _ _ _ (by unfold oSys; first | rfl | (rw [if_neg (by omega), if_neg (by omega), if_neg (by omega), if_neg (by omega), if_neg (by omega), if_neg (by omega), if_neg (by omega), if_neg (by omega), if_neg (by omega), if_neg (by omega)]; done) | ((repeat' split) <;> first | rfl | (exfalso; omega) | (exfalso; simp_all))) (XN.refl hx)
  · refine g_tableIn (off := 63) (tgt := 64) d_X_system_1 (by decide) (by decide) (by decide) (by decide) ?_
    refine g_aload_n (n := 0) (i := 0) rfl rfl d_X_system_64 ?_
    refine g_getfield 0 0 f_X_12 (by assumption) (by rfl) d_X_system_65 ?_
    refine g_callV0 rfl rfl e_R_today l_X_132 iv_R_today 1 (by decide) rfl (by assumption) (by decide) (Nat.zero_le _) (Nat.zero_le _) (Nat.le_of_ble_eq_true rfl) d_X_system_68 (c_R_today (by assumption) ?_)
    refine g_ret ?_
    refine g_ireturn_i rfl d_X_system_71 ?_
    exact hQ _ _ _ (by unfold oSys; first | rfl | (rw [if_neg (by omega), if_neg (by omega), if_neg (by omega), if_neg (by omega), if_neg (by omega), if_neg (by omega), if_neg (by omega), if_neg (by omega), if_neg (by omega), if_neg (by omega)]; done) | ((repeat' split) <;> first | rfl | (exfalso; omega) | (exfalso; simp_all))) (XN.refl hx)
  · refine g_tableIn (off := 71) (tgt := 72) d_X_system_1 (by decide) (by decide) (by decide) (by decide) ?_
    refine g_aload_n (n := 0) (i := 0) rfl rfl d_X_system_72 ?_
    refine g_getfield 0 0 f_X_12 (by assumption) (by rfl) d_X_system_73 ?_
    refine g_callV0 rfl rfl e_R_hour l_X_190 iv_R_hour 1 (by decide) rfl (by assumption) (by decide) (Nat.zero_le _) (Nat.zero_le _) (Nat.le_of_ble_eq_true rfl) d_X_system_76 (c_R_hour (by assumption) ?_)
    refine g_ret ?_
    refine g_ireturn_i rfl d_X_system_79 ?_
    exact hQ _ _ _ (by unfold oSys; first | rfl | (rw [if_neg (by omega), if_neg (by omega), if_neg (by omega), if_neg (by omega), if_neg (by omega), if_neg (by omega), if_neg (by omega), if_neg (by omega), if_neg (by omega), if_neg (by omega)]; done) | ((repeat' split) <;> first | rfl | (exfalso; omega) | (exfalso; simp_all))) (XN.refl hx)
  · refine g_tableIn (off := 79) (tgt := 80) d_X_system_1 (by decide) (by decide) (by decide) (by decide) ?_
    refine g_aload_n (n := 0) (i := 0) rfl rfl d_X_system_80 ?_
    refine g_getfield 0 0 f_X_12 (by assumption) (by rfl) d_X_system_81 ?_
    refine g_getfield 1 4 f_X_78 (by assumption) (by rfl) d_X_system_84 ?_
    refine g_ireturn_i rfl d_X_system_87 ?_
    exact hQ _ _ _ (by unfold oSys; first | rfl | (rw [if_neg (by omega), if_neg (by omega), if_neg (by omega), if_neg (by omega), if_neg (by omega), if_neg (by omega), if_neg (by omega), if_neg (by omega), if_neg (by omega), if_neg (by omega)]; done) | ((repeat' split) <;> first | rfl | (exfalso; omega) | (exfalso; simp_all))) (XN.refl hx)
  · refine g_tableIn (off := 87) (tgt := 88) d_X_system_1 (by decide) (by decide) (by decide) (by decide) ?_
    refine g_aload_n (n := 0) (i := 0) rfl rfl d_X_system_88 ?_
    refine g_getfield 0 0 f_X_12 (by assumption) (by rfl) d_X_system_89 ?_
    refine g_getfield 1 5 f_X_101 (by assumption) (by rfl) d_X_system_92 ?_
    refine g_ireturn_i rfl d_X_system_95 ?_
    exact hQ _ _ _ (by unfold oSys; first | rfl | (rw [if_neg (by omega), if_neg (by omega), if_neg (by omega), if_neg (by omega), if_neg (by omega), if_neg (by omega), if_neg (by omega), if_neg (by omega), if_neg (by omega), if_neg (by omega)]; done) | ((repeat' split) <;> first | rfl | (exfalso; omega) | (exfalso; simp_all))) (XN.refl hx)
  · refine g_tableIn (off := 95) (tgt := 96) d_X_system_1 (by decide) (by decide) (by decide) (by decide) ?_
    refine g_aload_n (n := 0) (i := 0) rfl rfl d_X_system_96 ?_
    refine g_getfield 0 0 f_X_12 (by assumption) (by rfl) d_X_system_97 ?_
    refine g_getfield 1 6 f_X_54 (by assumption) (by rfl) d_X_system_100 ?_
    refine g_ireturn_i rfl d_X_system_103 ?_
    exact hQ _ _ _ (by unfold oSys; first | rfl | (rw [if_neg (by omega), if_neg (by omega), if_neg (by omega), if_neg (by omega), if_neg (by omega), if_neg (by omega), if_neg (by omega), if_neg (by omega), if_neg (by omega), if_neg (by omega)]; done) | ((repeat' split) <;> first | rfl | (exfalso; omega) | (exfalso; simp_all))) (XN.refl hx)
  · refine g_tableIn (off := 103) (tgt := 104) d_X_system_1 (by decide) (by decide) (by decide) (by decide) ?_
    refine g_aload_n (n := 0) (i := 0) rfl rfl d_X_system_104 ?_
    refine g_getfield 0 0 f_X_12 (by assumption) (by rfl) d_X_system_105 ?_
    refine g_callV0 rfl rfl e_R_ridesOnAllCards l_X_193 iv_R_ridesOnAllCards 1 (by decide) rfl (by assumption) (by decide) (Nat.zero_le _) (Nat.zero_le _) (Nat.le_of_ble_eq_true rfl) d_X_system_108 (c_R_ridesOnAllCards (by assumption) ?_)
    refine g_ret ?_
    refine g_ireturn_i rfl d_X_system_111 ?_
    exact hQ _ _ _ (by unfold oSys; first | rfl | (rw [if_neg (by omega), if_neg (by omega), if_neg (by omega), if_neg (by omega), if_neg (by omega), if_neg (by omega), if_neg (by omega), if_neg (by omega), if_neg (by omega), if_neg (by omega)]; done) | ((repeat' split) <;> first | rfl | (exfalso; omega) | (exfalso; simp_all))) (XN.refl hx)
  · refine g_tableIn (off := 111) (tgt := 112) d_X_system_1 (by decide) (by decide) (by decide) (by decide) ?_
    refine g_aload_n (n := 0) (i := 0) rfl rfl d_X_system_112 ?_
    refine g_getfield 0 0 f_X_12 (by assumption) (by rfl) d_X_system_113 ?_
    refine g_getfield 1 7 f_X_196 (by assumption) (by rfl) d_X_system_116 ?_
    refine g_ireturn_i rfl d_X_system_119 ?_
    exact hQ _ _ _ (by unfold oSys; first | rfl | (rw [if_neg (by omega), if_neg (by omega), if_neg (by omega), if_neg (by omega), if_neg (by omega), if_neg (by omega), if_neg (by omega), if_neg (by omega), if_neg (by omega), if_neg (by omega)]; done) | ((repeat' split) <;> first | rfl | (exfalso; omega) | (exfalso; simp_all))) (XN.refl hx)
  · refine g_tableIn (off := 119) (tgt := 120) d_X_system_1 (by decide) (by decide) (by decide) (by decide) ?_
    refine g_aload_n (n := 0) (i := 0) rfl rfl d_X_system_120 ?_
    refine g_getfield 0 3 f_X_29 (by assumption) (by rfl) d_X_system_121 ?_
    refine g_getfield 3 1 f_X_199 (by assumption) (by rfl) d_X_system_124 ?_
    refine g_ireturn_i rfl d_X_system_127 ?_
    exact hQ _ _ _ (by unfold oSys; first | rfl | (rw [if_neg (by omega), if_neg (by omega), if_neg (by omega), if_neg (by omega), if_neg (by omega), if_neg (by omega), if_neg (by omega), if_neg (by omega), if_neg (by omega), if_neg (by omega)]; done) | ((repeat' split) <;> first | rfl | (exfalso; omega) | (exfalso; simp_all))) (XN.refl hx)
  · refine g_tableIn (off := 127) (tgt := 128) d_X_system_1 (by decide) (by decide) (by decide) (by decide) ?_
    refine g_aload_n (n := 0) (i := 0) rfl rfl d_X_system_128 ?_
    refine g_getfield 0 2 f_X_22 (by assumption) (by rfl) d_X_system_129 ?_
    refine g_getfield 2 2 f_X_202 (by assumption) (by rfl) d_X_system_132 ?_
    refine g_ireturn_i rfl d_X_system_135 ?_
    exact hQ _ _ _ (by unfold oSys; first | rfl | (rw [if_neg (by omega), if_neg (by omega), if_neg (by omega), if_neg (by omega), if_neg (by omega), if_neg (by omega), if_neg (by omega), if_neg (by omega), if_neg (by omega), if_neg (by omega)]; done) | ((repeat' split) <;> first | rfl | (exfalso; omega) | (exfalso; simp_all))) (XN.refl hx)
  · refine g_tableOut (tgt := 136) d_X_system_1 (by rw [iI_toInt (by omega)]; exact hsw1) (by decide) ?_
    refine x_IAE c_X_71 xs_205 rfl rfl (Nat.le_of_ble_eq_true rfl) (by omega) (by omega) d_X_system_136 d_X_system_139 d_X_system_140 d_X_system_142 d_X_system_145 ?_
    exact hQ _ _ _ (by unfold oSys; first | rfl | (rw [if_neg (by omega), if_neg (by omega), if_neg (by omega), if_neg (by omega), if_neg (by omega), if_neg (by omega), if_neg (by omega), if_neg (by omega), if_neg (by omega), if_neg (by omega)]; done) | ((repeat' split) <;> first | rfl | (exfalso; omega) | (exfalso; simp_all))) (XN.refl hx)

theorem c_X_closedMinutes {E : gE} {w : gW} {im : gIm} {Q : gQ} {c : CSt} (hx : XW E w im c) {x y : Int} (rx : -2147483648 ≤ x ∧ x < 2147483648) (ry : -2147483648 ≤ y ∧ y < 2147483648) (hQ : ∀ o w' im', o = oClo (cN c) x y → XN E w im c w' im' → Q (o) w' im') : GM E 2 y_X_closedMinutes m_X_closedMinutes 2 12 [.ref (gad E 0), .int (iI x), .int (iI y)] w im Q := by
  have hx9 := hx
  obtain ⟨⟨hn, x0, x1, x2, x3, x4, x5, m61, x6⟩, ⟨r1, r2, r3⟩, o1, o2, o3, o4⟩ := hx9
  have k0 : g_cell E w im (gad E 0) _ := g_mut 0 (by omega) x0
  have k1 : g_cell E w im (gad E 56) _ := g_mut 56 (by omega) x1
  have k2 : g_cell E w im (gad E 57) _ := g_mut 57 (by omega) x2
  have k3 : g_cell E w im (gad E 58) _ := g_mut 58 (by omega) x3
  have k4 : g_cell E w im (gad E 59) _ := g_mut 59 (by omega) x4
  have k5 : g_cell E w im (gad E 60) _ := g_mut 60 (by omega) x5
  have k6 : g_cell E w im (gad E 61) _ := g_mut 61 (by omega) x6
  have kn := r1.cell
  have kk := r2.cell
  have hz := r1
  have hz9 := hz
  obtain ⟨rg, rp, rc, lc, ⟨hb, h0, h1, h2, h3, h4, hlc⟩, ⟨i1, i2, i3, i4, i5, i6⟩, ok⟩ := hz9
  obtain ⟨ok1, ok2, ok3, ok4, ok5, ok6, ok7, ok8, ok9⟩ := ok
  have co : g_cell E w im (gad E 1) (resE E 1 (cN c)) := g_mut 1 (by omega) h0
  have cg : g_cell E w im (gad E (1 + 1)) (rowE 4 12 rg) := g_mut (1 + 1) (by omega) h1
  have cp : g_cell E w im (gad E (1 + 2)) (rowE 5 8 rp) := g_mut (1 + 2) (by omega) h2
  have cc : g_cell E w im (gad E (1 + 3)) (rowE 6 20 rc) := g_mut (1 + 3) (by omega) h3
  have cl : g_cell E w im (gad E (1 + 4)) (intE 372 lc) := g_mut (1 + 4) (by omega) h4
  refine g_enter (by decide) rfl rfl (fun h => by first | rfl | cases h) (Nat.le_of_ble_eq_true rfl) rfl ?_
  refine g_aload_n (n := 0) (i := 0) rfl rfl d_X_closedMinutes_0 ?_
  refine g_iload_n (n := 1) (i := 1) rfl rfl d_X_closedMinutes_1 ?_
  refine g_callV1 rfl rfl e_X_existingGate l_X_115 iv_X_existingGate 0 (by decide) rfl (by assumption) (by decide) (by decide) (by decide) (Nat.le_of_ble_eq_true rfl) d_X_closedMinutes_2 (c_X_existingGate hx (by omega) (fun a hBa fa => ?_) (fun hBa => ?_))
  · refine g_retn ?_
    have ca := g_imm (E := E) (w := w) fa
    have va := ok6 x hBa
    refine g_astore_n (n := 3) (i := 3) rfl (by decide) rfl d_X_closedMinutes_5 ?_
    refine g_iload_n (n := 2) (i := 2) rfl rfl d_X_closedMinutes_6 ?_
    refine g_callS1 rfl rfl e_X_isDay l_X_211 st_X_isDay (by decide) (Nat.zero_le _) (Nat.zero_le _) (Nat.le_of_ble_eq_true rfl) d_X_closedMinutes_7 (c_X_isDay (by omega) (fun hB => ?_) (fun hB => ?_))
    · refine g_ret ?_
      refine g_if_ne_i (tgt := 23) (by decide) d_X_closedMinutes_10 (by decide) (fun h10 => ?_) (fun h => absurd h (by decide))
      refine g_aload_n (n := 0) (i := 0) rfl rfl d_X_closedMinutes_23 ?_
      refine g_getfield 0 0 f_X_12 (by assumption) (by rfl) d_X_closedMinutes_24 ?_
      refine g_aload_n (n := 3) (i := 3) rfl rfl d_X_closedMinutes_27 ?_
      refine g_iload_n (n := 2) (i := 2) rfl rfl d_X_closedMinutes_28 ?_
      refine g_callV2 rfl rfl e_R_closedOn l_X_136 iv_R_closedOn 1 (by decide) rfl (by assumption) (by decide) (Nat.zero_le _) (Nat.zero_le _) (Nat.le_of_ble_eq_true rfl) d_X_closedMinutes_29 (c_R_closedOn hz fa (by omega) hB ?_)
      refine g_ret ?_
      refine g_ireturn_i rfl d_X_closedMinutes_32 ?_
      exact hQ _ _ _ (by unfold oClo; first | rfl | (rw [if_pos hBa, if_pos hB]; done) | (rw [if_pos hBa, if_neg hB]; done) | (rw [if_neg hBa]; done) | ((repeat' split) <;> first | rfl | (exfalso; omega) | (exfalso; simp_all))) (XN.refl hx)
    · refine g_ret ?_
      refine g_if_ne_i (tgt := 23) (by decide) d_X_closedMinutes_10 (by decide) (fun h => absurd h (by decide)) (fun h10 => ?_)
      refine x_IAE c_X_71 xs_214 rfl rfl (Nat.le_of_ble_eq_true rfl) (by omega) (by omega) d_X_closedMinutes_13 d_X_closedMinutes_16 d_X_closedMinutes_17 d_X_closedMinutes_19 d_X_closedMinutes_22 ?_
      exact hQ _ _ _ (by unfold oClo; first | rfl | (rw [if_pos hBa, if_pos hB]; done) | (rw [if_pos hBa, if_neg hB]; done) | (rw [if_neg hBa]; done) | ((repeat' split) <;> first | rfl | (exfalso; omega) | (exfalso; simp_all))) (XN.refl hx)
  · refine g_retx ?_
    exact hQ _ _ _ (by unfold oClo; first | rfl | (rw [if_pos hBa, if_pos hB]; done) | (rw [if_pos hBa, if_neg hB]; done) | (rw [if_neg hBa]; done) | ((repeat' split) <;> first | rfl | (exfalso; omega) | (exfalso; simp_all))) (XN.refl hx)

theorem c_X_isClosedDay {E : gE} {w : gW} {im : gIm} {Q : gQ} {c : CSt} (hx : XW E w im c) {x y : Int} (rx : -2147483648 ≤ x ∧ x < 2147483648) (ry : -2147483648 ≤ y ∧ y < 2147483648) (hQ : ∀ o w' im', o = oCld (cN c) x y → XN E w im c w' im' → Q (o) w' im') : GM E 2 y_X_isClosedDay m_X_isClosedDay 2 12 [.ref (gad E 0), .int (iI x), .int (iI y)] w im Q := by
  have hx9 := hx
  obtain ⟨⟨hn, x0, x1, x2, x3, x4, x5, m61, x6⟩, ⟨r1, r2, r3⟩, o1, o2, o3, o4⟩ := hx9
  have k0 : g_cell E w im (gad E 0) _ := g_mut 0 (by omega) x0
  have k1 : g_cell E w im (gad E 56) _ := g_mut 56 (by omega) x1
  have k2 : g_cell E w im (gad E 57) _ := g_mut 57 (by omega) x2
  have k3 : g_cell E w im (gad E 58) _ := g_mut 58 (by omega) x3
  have k4 : g_cell E w im (gad E 59) _ := g_mut 59 (by omega) x4
  have k5 : g_cell E w im (gad E 60) _ := g_mut 60 (by omega) x5
  have k6 : g_cell E w im (gad E 61) _ := g_mut 61 (by omega) x6
  have kn := r1.cell
  have kk := r2.cell
  have hz := r1
  have hz9 := hz
  obtain ⟨rg, rp, rc, lc, ⟨hb, h0, h1, h2, h3, h4, hlc⟩, ⟨i1, i2, i3, i4, i5, i6⟩, ok⟩ := hz9
  obtain ⟨ok1, ok2, ok3, ok4, ok5, ok6, ok7, ok8, ok9⟩ := ok
  have co : g_cell E w im (gad E 1) (resE E 1 (cN c)) := g_mut 1 (by omega) h0
  have cg : g_cell E w im (gad E (1 + 1)) (rowE 4 12 rg) := g_mut (1 + 1) (by omega) h1
  have cp : g_cell E w im (gad E (1 + 2)) (rowE 5 8 rp) := g_mut (1 + 2) (by omega) h2
  have cc : g_cell E w im (gad E (1 + 3)) (rowE 6 20 rc) := g_mut (1 + 3) (by omega) h3
  have cl : g_cell E w im (gad E (1 + 4)) (intE 372 lc) := g_mut (1 + 4) (by omega) h4
  refine g_enter (by decide) rfl rfl (fun h => by first | rfl | cases h) (Nat.le_of_ble_eq_true rfl) rfl ?_
  refine g_aload_n (n := 0) (i := 0) rfl rfl d_X_isClosedDay_0 ?_
  refine g_iload_n (n := 1) (i := 1) rfl rfl d_X_isClosedDay_1 ?_
  refine g_callV1 rfl rfl e_X_existingProduct l_X_145 iv_X_existingProduct 0 (by decide) rfl (by assumption) (by decide) (by decide) (by decide) (Nat.le_of_ble_eq_true rfl) d_X_isClosedDay_2 (c_X_existingProduct hx (by omega) (fun a hBa fa => ?_) (fun hBa => ?_))
  · refine g_retn ?_
    have ca := g_imm (E := E) (w := w) fa
    have va := ok7 x hBa
    refine g_astore_n (n := 3) (i := 3) rfl (by decide) rfl d_X_isClosedDay_5 ?_
    refine g_iload_n (n := 2) (i := 2) rfl rfl d_X_isClosedDay_6 ?_
    refine g_callS1 rfl rfl e_X_isDay l_X_211 st_X_isDay (by decide) (Nat.zero_le _) (Nat.zero_le _) (Nat.le_of_ble_eq_true rfl) d_X_isClosedDay_7 (c_X_isDay (by omega) (fun hB => ?_) (fun hB => ?_))
    · refine g_ret ?_
      refine g_if_ne_i (tgt := 23) (by decide) d_X_isClosedDay_10 (by decide) (fun h10 => ?_) (fun h => absurd h (by decide))
      refine g_aload_n (n := 0) (i := 0) rfl rfl d_X_isClosedDay_23 ?_
      refine g_getfield 0 0 f_X_12 (by assumption) (by rfl) d_X_isClosedDay_24 ?_
      refine g_aload_n (n := 3) (i := 3) rfl rfl d_X_isClosedDay_27 ?_
      refine g_iload_n (n := 2) (i := 2) rfl rfl d_X_isClosedDay_28 ?_
      refine g_callV2 rfl rfl e_R_isClosedFor l_X_216 iv_R_isClosedFor 1 (by decide) rfl (by assumption) (by decide) (Nat.zero_le _) (Nat.zero_le _) (Nat.le_of_ble_eq_true rfl) d_X_isClosedDay_29 (c_R_isClosedFor hz fa va hB (fun hC => ?_) (fun hC => ?_))
      · refine g_ret ?_
        refine g_ireturn_1 rfl d_X_isClosedDay_32 ?_
        exact hQ _ _ _ (by unfold oCld; first | rfl | (rw [if_neg hBa]; done) | (rw [if_pos hBa, if_neg hB]; done) | (rw [if_pos hBa, if_pos hB, if_pos hC]; done) | (rw [if_pos hBa, if_pos hB, if_neg hC]; done) | ((repeat' split) <;> first | rfl | (exfalso; omega) | (exfalso; simp_all))) (XN.refl hx)
      · refine g_ret ?_
        refine g_ireturn_0 rfl d_X_isClosedDay_32 ?_
        exact hQ _ _ _ (by unfold oCld; first | rfl | (rw [if_neg hBa]; done) | (rw [if_pos hBa, if_neg hB]; done) | (rw [if_pos hBa, if_pos hB, if_pos hC]; done) | (rw [if_pos hBa, if_pos hB, if_neg hC]; done) | ((repeat' split) <;> first | rfl | (exfalso; omega) | (exfalso; simp_all))) (XN.refl hx)
    · refine g_ret ?_
      refine g_if_ne_i (tgt := 23) (by decide) d_X_isClosedDay_10 (by decide) (fun h => absurd h (by decide)) (fun h10 => ?_)
      refine x_IAE c_X_71 xs_214 rfl rfl (Nat.le_of_ble_eq_true rfl) (by omega) (by omega) d_X_isClosedDay_13 d_X_isClosedDay_16 d_X_isClosedDay_17 d_X_isClosedDay_19 d_X_isClosedDay_22 ?_
      exact hQ _ _ _ (by unfold oCld; first | rfl | (rw [if_neg hBa]; done) | (rw [if_pos hBa, if_neg hB]; done) | (rw [if_pos hBa, if_pos hB, if_pos hC]; done) | (rw [if_pos hBa, if_pos hB, if_neg hC]; done) | ((repeat' split) <;> first | rfl | (exfalso; omega) | (exfalso; simp_all))) (XN.refl hx)
  · refine g_retx ?_
    exact hQ _ _ _ (by unfold oCld; first | rfl | (rw [if_neg hBa]; done) | (rw [if_pos hBa, if_neg hB]; done) | (rw [if_pos hBa, if_pos hB, if_pos hC]; done) | (rw [if_pos hBa, if_pos hB, if_neg hC]; done) | ((repeat' split) <;> first | rfl | (exfalso; omega) | (exfalso; simp_all))) (XN.refl hx)

theorem c_X_reason {E : gE} {w : gW} {im : gIm} {Q : gQ} {c : CSt} (hx : XW E w im c) {x y : Int} (rx : -2147483648 ≤ x ∧ x < 2147483648) (ry : -2147483648 ≤ y ∧ y < 2147483648) (hQ : ∀ o w' im', o = oRea (cN c) x y → XN E w im c w' im' → Q (o) w' im') : GM E 4 y_X_reason m_X_reason 2 12 [.ref (gad E 0), .int (iI x), .int (iI y)] w im Q := by
  have hx9 := hx
  obtain ⟨⟨hn, x0, x1, x2, x3, x4, x5, m61, x6⟩, ⟨r1, r2, r3⟩, o1, o2, o3, o4⟩ := hx9
  have k0 : g_cell E w im (gad E 0) _ := g_mut 0 (by omega) x0
  have k1 : g_cell E w im (gad E 56) _ := g_mut 56 (by omega) x1
  have k2 : g_cell E w im (gad E 57) _ := g_mut 57 (by omega) x2
  have k3 : g_cell E w im (gad E 58) _ := g_mut 58 (by omega) x3
  have k4 : g_cell E w im (gad E 59) _ := g_mut 59 (by omega) x4
  have k5 : g_cell E w im (gad E 60) _ := g_mut 60 (by omega) x5
  have k6 : g_cell E w im (gad E 61) _ := g_mut 61 (by omega) x6
  have kn := r1.cell
  have kk := r2.cell
  have hz := r1
  have hz9 := hz
  obtain ⟨rg, rp, rc, lc, ⟨hb, h0, h1, h2, h3, h4, hlc⟩, ⟨i1, i2, i3, i4, i5, i6⟩, ok⟩ := hz9
  obtain ⟨ok1, ok2, ok3, ok4, ok5, ok6, ok7, ok8, ok9⟩ := ok
  have co : g_cell E w im (gad E 1) (resE E 1 (cN c)) := g_mut 1 (by omega) h0
  have cg : g_cell E w im (gad E (1 + 1)) (rowE 4 12 rg) := g_mut (1 + 1) (by omega) h1
  have cp : g_cell E w im (gad E (1 + 2)) (rowE 5 8 rp) := g_mut (1 + 2) (by omega) h2
  have cc : g_cell E w im (gad E (1 + 3)) (rowE 6 20 rc) := g_mut (1 + 3) (by omega) h3
  have cl : g_cell E w im (gad E (1 + 4)) (intE 372 lc) := g_mut (1 + 4) (by omega) h4
  refine g_enter (by decide) rfl rfl (fun h => by first | rfl | cases h) (Nat.le_of_ble_eq_true rfl) rfl ?_
  refine g_aload_n (n := 0) (i := 0) rfl rfl d_X_reason_0 ?_
  refine g_iload_n (n := 1) (i := 1) rfl rfl d_X_reason_1 ?_
  refine g_callV1 rfl rfl e_X_existingCard l_X_229 iv_X_existingCard 0 (by decide) rfl (by assumption) (by decide) (by decide) (by decide) (Nat.le_of_ble_eq_true rfl) d_X_reason_2 (c_X_existingCard hx (by omega) (fun a pa la hBa fa ga ea => ?_) (fun hBa => ?_))
  · refine g_retn ?_
    have ca := g_imm (E := E) (w := w) fa
    have da := g_imm (E := E) (w := w) ga
    obtain ⟨q1, q2, q3, q4, q5⟩ := ok8 x hBa
    have oq := ok7 (zC (cN c) x).1 q1
    have hlen := q5.1
    have hdm := dmask_lt q5
    refine g_astore_n (n := 3) (i := 3) rfl (by decide) rfl d_X_reason_5 ?_
    refine g_aload_n (n := 0) (i := 0) rfl rfl d_X_reason_6 ?_
    refine g_iload_n (n := 2) (i := 2) rfl rfl d_X_reason_7 ?_
    refine g_callV1 rfl rfl e_X_existingGate l_X_115 iv_X_existingGate 0 (by decide) rfl (by assumption) (by decide) (by decide) (by decide) (Nat.le_of_ble_eq_true rfl) d_X_reason_8 (c_X_existingGate hx (by omega) (fun b hBb fb => ?_) (fun hBb => ?_))
    · refine g_retn ?_
      have cb := g_imm (E := E) (w := w) fb
      have vb := ok6 y hBb
      refine g_astore (i := 4) (by decide) rfl d_X_reason_11 ?_
      refine g_aload_n (n := 0) (i := 0) rfl rfl d_X_reason_13 ?_
      refine g_getfield 0 0 f_X_12 (by assumption) (by rfl) d_X_reason_14 ?_
      refine g_aload_n (n := 3) (i := 3) rfl rfl d_X_reason_17 ?_
      refine g_aload (i := 4) rfl d_X_reason_18 ?_
      refine g_callV2 rfl rfl e_R_reasonAgainst l_X_233 iv_R_reasonAgainst 1 (by decide) rfl (by assumption) (by decide) (Nat.zero_le _) (Nat.zero_le _) (Nat.le_of_ble_eq_true rfl) d_X_reason_20 (c_R_reasonAgainst hz fa ga ea q5 (by omega) oq fb (by omega) ?_)
      refine g_ret ?_
      refine g_ireturn_i rfl d_X_reason_23 ?_
      exact hQ _ _ _ (by unfold oRea; first | rfl | (rw [if_pos ⟨hBa, hBb⟩]; done) | (rw [if_neg (fun h => hBa h.1)]; done) | (rw [if_neg (fun h => hBb h.2)]; done) | ((repeat' split) <;> first | rfl | (exfalso; omega) | (exfalso; simp_all))) (XN.refl hx)
    · refine g_retx ?_
      exact hQ _ _ _ (by unfold oRea; first | rfl | (rw [if_pos ⟨hBa, hBb⟩]; done) | (rw [if_neg (fun h => hBa h.1)]; done) | (rw [if_neg (fun h => hBb h.2)]; done) | ((repeat' split) <;> first | rfl | (exfalso; omega) | (exfalso; simp_all))) (XN.refl hx)
  · refine g_retx ?_
    exact hQ _ _ _ (by unfold oRea; first | rfl | (rw [if_pos ⟨hBa, hBb⟩]; done) | (rw [if_neg (fun h => hBa h.1)]; done) | (rw [if_neg (fun h => hBb h.2)]; done) | ((repeat' split) <;> first | rfl | (exfalso; omega) | (exfalso; simp_all))) (XN.refl hx)

theorem c_X_openGates {E : gE} {w : gW} {im : gIm} {Q : gQ} {c : CSt} (hx : XW E w im c) {x : Int} (rx : -2147483648 ≤ x ∧ x < 2147483648) (hQ : ∀ o w' im', o = oOpe (cN c) x → XN E w im c w' im' → Q (o) w' im') : GM E 5 y_X_openGates m_X_openGates 1 6 [.ref (gad E 0), .int (iI x)] w im Q := by
  have hx9 := hx
  obtain ⟨⟨hn, x0, x1, x2, x3, x4, x5, m61, x6⟩, ⟨r1, r2, r3⟩, o1, o2, o3, o4⟩ := hx9
  have k0 : g_cell E w im (gad E 0) _ := g_mut 0 (by omega) x0
  have k1 : g_cell E w im (gad E 56) _ := g_mut 56 (by omega) x1
  have k2 : g_cell E w im (gad E 57) _ := g_mut 57 (by omega) x2
  have k3 : g_cell E w im (gad E 58) _ := g_mut 58 (by omega) x3
  have k4 : g_cell E w im (gad E 59) _ := g_mut 59 (by omega) x4
  have k5 : g_cell E w im (gad E 60) _ := g_mut 60 (by omega) x5
  have k6 : g_cell E w im (gad E 61) _ := g_mut 61 (by omega) x6
  have kn := r1.cell
  have kk := r2.cell
  have hz := r1
  have hz9 := hz
  obtain ⟨rg, rp, rc, lc, ⟨hb, h0, h1, h2, h3, h4, hlc⟩, ⟨i1, i2, i3, i4, i5, i6⟩, ok⟩ := hz9
  obtain ⟨ok1, ok2, ok3, ok4, ok5, ok6, ok7, ok8, ok9⟩ := ok
  have co : g_cell E w im (gad E 1) (resE E 1 (cN c)) := g_mut 1 (by omega) h0
  have cg : g_cell E w im (gad E (1 + 1)) (rowE 4 12 rg) := g_mut (1 + 1) (by omega) h1
  have cp : g_cell E w im (gad E (1 + 2)) (rowE 5 8 rp) := g_mut (1 + 2) (by omega) h2
  have cc : g_cell E w im (gad E (1 + 3)) (rowE 6 20 rc) := g_mut (1 + 3) (by omega) h3
  have cl : g_cell E w im (gad E (1 + 4)) (intE 372 lc) := g_mut (1 + 4) (by omega) h4
  refine g_enter (by decide) rfl rfl (fun h => by first | rfl | cases h) (Nat.le_of_ble_eq_true rfl) rfl ?_
  refine g_aload_n (n := 0) (i := 0) rfl rfl d_X_openGates_0 ?_
  refine g_getfield 0 0 f_X_12 (by assumption) (by rfl) d_X_openGates_1 ?_
  refine g_aload_n (n := 0) (i := 0) rfl rfl d_X_openGates_4 ?_
  refine g_iload_n (n := 1) (i := 1) rfl rfl d_X_openGates_5 ?_
  refine g_callV1 rfl rfl e_X_existingCard l_X_229 iv_X_existingCard 0 (by decide) rfl (by assumption) (by decide) (by decide) (by decide) (Nat.le_of_ble_eq_true rfl) d_X_openGates_6 (c_X_existingCard hx (by omega) (fun a pa la hBa fa ga ea => ?_) (fun hBa => ?_))
  · refine g_retn ?_
    have ca := g_imm (E := E) (w := w) fa
    have da := g_imm (E := E) (w := w) ga
    obtain ⟨q1, q2, q3, q4, q5⟩ := ok8 x hBa
    have oq := ok7 (zC (cN c) x).1 q1
    have hlen := q5.1
    have hdm := dmask_lt q5
    refine g_callV1 rfl rfl e_R_gatesThatLetPass l_X_245 iv_R_gatesThatLetPass 1 (by decide) rfl (by assumption) (by decide) (Nat.zero_le _) (Nat.zero_le _) (Nat.le_of_ble_eq_true rfl) d_X_openGates_9 (c_R_gatesThatLetPass hz fa ga ea q5 (by omega) oq ?_)
    refine g_ret ?_
    refine g_ireturn_i rfl d_X_openGates_12 ?_
    exact hQ _ _ _ (by unfold oOpe; first | (rw [if_pos hBa]; rfl) | (rw [if_neg hBa]; done) | ((repeat' split) <;> first | rfl | (exfalso; omega) | (exfalso; simp_all))) (XN.refl hx)
  · refine g_retx ?_
    exact hQ _ _ _ (by unfold oOpe; first | (rw [if_pos hBa]; rfl) | (rw [if_neg hBa]; done) | ((repeat' split) <;> first | rfl | (exfalso; omega) | (exfalso; simp_all))) (XN.refl hx)

theorem c_X_card {E : gE} {w : gW} {im : gIm} {Q : gQ} {c : CSt} (hx : XW E w im c) {x y : Int} (rx : -2147483648 ≤ x ∧ x < 2147483648) (ry : -2147483648 ≤ y ∧ y < 2147483648) (hQ : ∀ o w' im', o = oCard (cN c) x y → XN E w im c w' im' → Q (o) w' im') : GM E 3 y_X_card m_X_card 2 12 [.ref (gad E 0), .int (iI x), .int (iI y)] w im Q := by
  have hx9 := hx
  obtain ⟨⟨hn, x0, x1, x2, x3, x4, x5, m61, x6⟩, ⟨r1, r2, r3⟩, o1, o2, o3, o4⟩ := hx9
  have k0 : g_cell E w im (gad E 0) _ := g_mut 0 (by omega) x0
  have k1 : g_cell E w im (gad E 56) _ := g_mut 56 (by omega) x1
  have k2 : g_cell E w im (gad E 57) _ := g_mut 57 (by omega) x2
  have k3 : g_cell E w im (gad E 58) _ := g_mut 58 (by omega) x3
  have k4 : g_cell E w im (gad E 59) _ := g_mut 59 (by omega) x4
  have k5 : g_cell E w im (gad E 60) _ := g_mut 60 (by omega) x5
  have k6 : g_cell E w im (gad E 61) _ := g_mut 61 (by omega) x6
  have kn := r1.cell
  have kk := r2.cell
  have hz := r1
  have hz9 := hz
  obtain ⟨rg, rp, rc, lc, ⟨hb, h0, h1, h2, h3, h4, hlc⟩, ⟨i1, i2, i3, i4, i5, i6⟩, ok⟩ := hz9
  obtain ⟨ok1, ok2, ok3, ok4, ok5, ok6, ok7, ok8, ok9⟩ := ok
  have co : g_cell E w im (gad E 1) (resE E 1 (cN c)) := g_mut 1 (by omega) h0
  have cg : g_cell E w im (gad E (1 + 1)) (rowE 4 12 rg) := g_mut (1 + 1) (by omega) h1
  have cp : g_cell E w im (gad E (1 + 2)) (rowE 5 8 rp) := g_mut (1 + 2) (by omega) h2
  have cc : g_cell E w im (gad E (1 + 3)) (rowE 6 20 rc) := g_mut (1 + 3) (by omega) h3
  have cl : g_cell E w im (gad E (1 + 4)) (intE 372 lc) := g_mut (1 + 4) (by omega) h4
  refine g_enter (by decide) rfl rfl (fun h => by first | rfl | cases h) (Nat.le_of_ble_eq_true rfl) rfl ?_
  refine g_aload_n (n := 0) (i := 0) rfl rfl d_X_card_0 ?_
  refine g_iload_n (n := 1) (i := 1) rfl rfl d_X_card_1 ?_
  refine g_callV1 rfl rfl e_X_existingCard l_X_229 iv_X_existingCard 0 (by decide) rfl (by assumption) (by decide) (by decide) (by decide) (Nat.le_of_ble_eq_true rfl) d_X_card_2 (c_X_existingCard hx (by omega) (fun a pa la hBa fa ga ea => ?_) (fun hBa => ?_))
  · refine g_retn ?_
    have ca := g_imm (E := E) (w := w) fa
    have da := g_imm (E := E) (w := w) ga
    obtain ⟨q1, q2, q3, q4, q5⟩ := ok8 x hBa
    have oq := ok7 (zC (cN c) x).1 q1
    have hlen := q5.1
    have hdm := dmask_lt q5
    refine g_astore_n (n := 3) (i := 3) rfl (by decide) rfl d_X_card_5 ?_
    refine g_iload_n (n := 2) (i := 2) rfl rfl d_X_card_6 ?_
    have hsw7 : y = 0 ∨ y = 1 ∨ y = 2 ∨ y = 3 ∨ y = 4 ∨ y = 5 ∨ y = 6 ∨ y = 7 ∨ y = 8 ∨ (y < 0 ∨ 8 < y) := by omega
    rcases hsw7 with rfl | rfl | rfl | rfl | rfl | rfl | rfl | rfl | rfl | hsw7
    · refine g_tableIn (off := 49) (tgt := 56) d_X_card_7 (by decide) (by decide) (by decide) (by decide) ?_
      refine g_aload_n (n := 3) (i := 3) rfl rfl d_X_card_56 ?_
      refine g_getfield 8 1 f_X_280 (by assumption) (by rfl) d_X_card_57 ?_
      refine g_getfield 6 0 f_X_284 (by assumption) (by rfl) d_X_card_60 ?_
      refine g_ireturn_i rfl d_X_card_63 ?_
      exact hQ _ _ _ (by unfold oCard; first | (rw [if_pos hBa]; rfl) | (rw [if_neg hBa]; done) | (rw [if_pos hBa, if_neg (by omega), if_neg (by omega), if_neg (by omega), if_neg (by omega), if_neg (by omega), if_neg (by omega), if_neg (by omega), if_neg (by omega), if_neg (by omega)]; done) | ((repeat' split) <;> first | rfl | (exfalso; omega) | (exfalso; simp_all))) (XN.refl hx)
    · refine g_tableIn (off := 57) (tgt := 64) d_X_card_7 (by decide) (by decide) (by decide) (by decide) ?_
      refine g_aload_n (n := 3) (i := 3) rfl rfl d_X_card_64 ?_
      refine g_getfield 8 2 f_X_272 (by assumption) (by rfl) d_X_card_65 ?_
      refine g_ireturn_i rfl d_X_card_68 ?_
      exact hQ _ _ _ (by unfold oCard; first | (rw [if_pos hBa]; rfl) | (rw [if_neg hBa]; done) | (rw [if_pos hBa, if_neg (by omega), if_neg (by omega), if_neg (by omega), if_neg (by omega), if_neg (by omega), if_neg (by omega), if_neg (by omega), if_neg (by omega), if_neg (by omega)]; done) | ((repeat' split) <;> first | rfl | (exfalso; omega) | (exfalso; simp_all))) (XN.refl hx)
    · refine g_tableIn (off := 62) (tgt := 69) d_X_card_7 (by decide) (by decide) (by decide) (by decide) ?_
      refine g_aload_n (n := 3) (i := 3) rfl rfl d_X_card_69 ?_
      refine g_callV0 rfl rfl e_C_rideCount l_X_287 iv_C_rideCount 8 (by decide) rfl (by assumption) (by decide) (Nat.zero_le _) (Nat.zero_le _) (Nat.le_of_ble_eq_true rfl) d_X_card_70 (c_C_rideCount ca ea q5 ?_)
      refine g_ret ?_
      refine g_ireturn_i rfl d_X_card_73 ?_
      exact hQ _ _ _ (by unfold oCard; first | (rw [if_pos hBa]; rfl) | (rw [if_neg hBa]; done) | (rw [if_pos hBa, if_neg (by omega), if_neg (by omega), if_neg (by omega), if_neg (by omega), if_neg (by omega), if_neg (by omega), if_neg (by omega), if_neg (by omega), if_neg (by omega)]; done) | ((repeat' split) <;> first | rfl | (exfalso; omega) | (exfalso; simp_all))) (XN.refl hx)
    · refine g_tableIn (off := 67) (tgt := 74) d_X_card_7 (by decide) (by decide) (by decide) (by decide) ?_
      refine g_aload_n (n := 3) (i := 3) rfl rfl d_X_card_74 ?_
      refine g_callV0 rfl rfl e_C_dayMask l_X_290 iv_C_dayMask 8 (by decide) rfl (by assumption) (by decide) (Nat.zero_le _) (Nat.zero_le _) (Nat.le_of_ble_eq_true rfl) d_X_card_75 (c_C_dayMask ca ea q5 ?_)
      refine g_ret ?_
      refine g_callS1 rfl rfl e_J_bitCount l_X_293 st_J_bitCount (by decide) (Nat.zero_le _) (Nat.zero_le _) (Nat.le_of_ble_eq_true rfl) d_X_card_78 (c_J_bitCount hdm ?_)
      refine g_ret ?_
      refine g_ireturn_i rfl d_X_card_81 ?_
      exact hQ _ _ _ (by unfold oCard; first | (rw [if_pos hBa]; rfl) | (rw [if_neg hBa]; done) | (rw [if_pos hBa, if_neg (by omega), if_neg (by omega), if_neg (by omega), if_neg (by omega), if_neg (by omega), if_neg (by omega), if_neg (by omega), if_neg (by omega), if_neg (by omega)]; done) | ((repeat' split) <;> first | rfl | (exfalso; omega) | (exfalso; simp_all))) (XN.refl hx)
    · refine g_tableIn (off := 75) (tgt := 82) d_X_card_7 (by decide) (by decide) (by decide) (by decide) ?_
      refine g_aload_n (n := 3) (i := 3) rfl rfl d_X_card_82 ?_
      refine g_getfield 8 3 f_X_299 (by assumption) (by rfl) d_X_card_83 ?_
      refine g_ireturn_i rfl d_X_card_86 ?_
      exact hQ _ _ _ (by unfold oCard; first | (rw [if_pos hBa]; rfl) | (rw [if_neg hBa]; done) | (rw [if_pos hBa, if_neg (by omega), if_neg (by omega), if_neg (by omega), if_neg (by omega), if_neg (by omega), if_neg (by omega), if_neg (by omega), if_neg (by omega), if_neg (by omega)]; done) | ((repeat' split) <;> first | rfl | (exfalso; omega) | (exfalso; simp_all))) (XN.refl hx)
    · refine g_tableIn (off := 80) (tgt := 87) d_X_card_7 (by decide) (by decide) (by decide) (by decide) ?_
      refine g_aload_n (n := 0) (i := 0) rfl rfl d_X_card_87 ?_
      refine g_getfield 0 0 f_X_12 (by assumption) (by rfl) d_X_card_88 ?_
      refine g_aload_n (n := 3) (i := 3) rfl rfl d_X_card_91 ?_
      refine g_callV1 rfl rfl e_R_lastSuccessor l_X_302 iv_R_lastSuccessor 1 (by decide) rfl (by assumption) (by decide) (Nat.zero_le _) (Nat.zero_le _) (Nat.le_of_ble_eq_true rfl) d_X_card_92 (c_R_lastSuccessor hz fa ga ea q5 (by omega) oq hBa ?_)
      refine g_ret ?_
      refine g_ireturn_i rfl d_X_card_95 ?_
      exact hQ _ _ _ (by unfold oCard; first | (rw [if_pos hBa]; rfl) | (rw [if_neg hBa]; done) | (rw [if_pos hBa, if_neg (by omega), if_neg (by omega), if_neg (by omega), if_neg (by omega), if_neg (by omega), if_neg (by omega), if_neg (by omega), if_neg (by omega), if_neg (by omega)]; done) | ((repeat' split) <;> first | rfl | (exfalso; omega) | (exfalso; simp_all))) (XN.refl hx)
    · refine g_tableIn (off := 89) (tgt := 96) d_X_card_7 (by decide) (by decide) (by decide) (by decide) ?_
      refine g_aload_n (n := 3) (i := 3) rfl rfl d_X_card_96 ?_
      refine g_callV0 rfl rfl e_C_price l_X_305 iv_C_price 8 (by decide) rfl (by assumption) (by decide) (Nat.zero_le _) (Nat.zero_le _) (Nat.le_of_ble_eq_true rfl) d_X_card_97 (c_C_price ca da (by omega) ?_)
      refine g_ret ?_
      refine g_ireturn_i rfl d_X_card_100 ?_
      exact hQ _ _ _ (by unfold oCard; first | (rw [if_pos hBa]; rfl) | (rw [if_neg hBa]; done) | (rw [if_pos hBa, if_neg (by omega), if_neg (by omega), if_neg (by omega), if_neg (by omega), if_neg (by omega), if_neg (by omega), if_neg (by omega), if_neg (by omega), if_neg (by omega)]; done) | ((repeat' split) <;> first | rfl | (exfalso; omega) | (exfalso; simp_all))) (XN.refl hx)
    · refine g_tableIn (off := 94) (tgt := 101) d_X_card_7 (by decide) (by decide) (by decide) (by decide) ?_
      refine g_aload_n (n := 3) (i := 3) rfl rfl d_X_card_101 ?_
      refine g_getfield 8 4 f_X_307 (by assumption) (by rfl) d_X_card_102 ?_
      refine g_ireturn_i rfl d_X_card_105 ?_
      exact hQ _ _ _ (by unfold oCard; first | (rw [if_pos hBa]; rfl) | (rw [if_neg hBa]; done) | (rw [if_pos hBa, if_neg (by omega), if_neg (by omega), if_neg (by omega), if_neg (by omega), if_neg (by omega), if_neg (by omega), if_neg (by omega), if_neg (by omega), if_neg (by omega)]; done) | ((repeat' split) <;> first | rfl | (exfalso; omega) | (exfalso; simp_all))) (XN.refl hx)
    · refine g_tableIn (off := 99) (tgt := 106) d_X_card_7 (by decide) (by decide) (by decide) (by decide) ?_
      refine g_aload_n (n := 3) (i := 3) rfl rfl d_X_card_106 ?_
      refine g_aload_n (n := 0) (i := 0) rfl rfl d_X_card_107 ?_
      refine g_getfield 0 0 f_X_12 (by assumption) (by rfl) d_X_card_108 ?_
      refine g_callV0 rfl rfl e_R_today l_X_132 iv_R_today 1 (by decide) rfl (by assumption) (by decide) (Nat.zero_le _) (Nat.zero_le _) (Nat.le_of_ble_eq_true rfl) d_X_card_111 (c_R_today (by assumption) ?_)
      refine g_ret ?_
      refine g_callV1 rfl rfl e_C_leftOn l_X_310 iv_C_leftOn 8 (by decide) rfl (by assumption) (by decide) (Nat.zero_le _) (Nat.zero_le _) (Nat.le_of_ble_eq_true rfl) d_X_card_114 (c_C_leftOn ca da ea q5 (by omega) (by omega) ?_)
      refine g_ret ?_
      refine g_ireturn_i rfl d_X_card_117 ?_
      exact hQ _ _ _ (by unfold oCard; first | (rw [if_pos hBa]; rfl) | (rw [if_neg hBa]; done) | (rw [if_pos hBa, if_neg (by omega), if_neg (by omega), if_neg (by omega), if_neg (by omega), if_neg (by omega), if_neg (by omega), if_neg (by omega), if_neg (by omega), if_neg (by omega)]; done) | ((repeat' split) <;> first | rfl | (exfalso; omega) | (exfalso; simp_all))) (XN.refl hx)
    · refine g_tableOut (tgt := 118) d_X_card_7 (by rw [iI_toInt (by omega)]; exact hsw7) (by decide) ?_
      refine x_IAEw c_X_71 xs_313 rfl rfl (Nat.le_of_ble_eq_true rfl) (by omega) (by omega) d_X_card_118 d_X_card_121 d_X_card_122 d_X_card_125 d_X_card_128 ?_
      exact hQ _ _ _ (by unfold oCard; first | (rw [if_pos hBa]; rfl) | (rw [if_neg hBa]; done) | (rw [if_pos hBa, if_neg (by omega), if_neg (by omega), if_neg (by omega), if_neg (by omega), if_neg (by omega), if_neg (by omega), if_neg (by omega), if_neg (by omega), if_neg (by omega)]; done) | ((repeat' split) <;> first | rfl | (exfalso; omega) | (exfalso; simp_all))) (XN.refl hx)
  · refine g_retx ?_
    exact hQ _ _ _ (by unfold oCard; first | (rw [if_pos hBa]; rfl) | (rw [if_neg hBa]; done) | (rw [if_pos hBa, if_neg (by omega), if_neg (by omega), if_neg (by omega), if_neg (by omega), if_neg (by omega), if_neg (by omega), if_neg (by omega), if_neg (by omega), if_neg (by omega)]; done) | ((repeat' split) <;> first | rfl | (exfalso; omega) | (exfalso; simp_all))) (XN.refl hx)

theorem c_X_refundable {E : gE} {w : gW} {im : gIm} {Q : gQ} {c : CSt} (hx : XW E w im c) {x : Int} (rx : -2147483648 ≤ x ∧ x < 2147483648) (hQ : ∀ o w' im', o = oRfb (cN c) x → XN E w im c w' im' → Q (o) w' im') : GM E 4 y_X_refundable m_X_refundable 1 6 [.ref (gad E 0), .int (iI x)] w im Q := by
  have hx9 := hx
  obtain ⟨⟨hn, x0, x1, x2, x3, x4, x5, m61, x6⟩, ⟨r1, r2, r3⟩, o1, o2, o3, o4⟩ := hx9
  have k0 : g_cell E w im (gad E 0) _ := g_mut 0 (by omega) x0
  have k1 : g_cell E w im (gad E 56) _ := g_mut 56 (by omega) x1
  have k2 : g_cell E w im (gad E 57) _ := g_mut 57 (by omega) x2
  have k3 : g_cell E w im (gad E 58) _ := g_mut 58 (by omega) x3
  have k4 : g_cell E w im (gad E 59) _ := g_mut 59 (by omega) x4
  have k5 : g_cell E w im (gad E 60) _ := g_mut 60 (by omega) x5
  have k6 : g_cell E w im (gad E 61) _ := g_mut 61 (by omega) x6
  have kn := r1.cell
  have kk := r2.cell
  have hz := r1
  have hz9 := hz
  obtain ⟨rg, rp, rc, lc, ⟨hb, h0, h1, h2, h3, h4, hlc⟩, ⟨i1, i2, i3, i4, i5, i6⟩, ok⟩ := hz9
  obtain ⟨ok1, ok2, ok3, ok4, ok5, ok6, ok7, ok8, ok9⟩ := ok
  have co : g_cell E w im (gad E 1) (resE E 1 (cN c)) := g_mut 1 (by omega) h0
  have cg : g_cell E w im (gad E (1 + 1)) (rowE 4 12 rg) := g_mut (1 + 1) (by omega) h1
  have cp : g_cell E w im (gad E (1 + 2)) (rowE 5 8 rp) := g_mut (1 + 2) (by omega) h2
  have cc : g_cell E w im (gad E (1 + 3)) (rowE 6 20 rc) := g_mut (1 + 3) (by omega) h3
  have cl : g_cell E w im (gad E (1 + 4)) (intE 372 lc) := g_mut (1 + 4) (by omega) h4
  refine g_enter (by decide) rfl rfl (fun h => by first | rfl | cases h) (Nat.le_of_ble_eq_true rfl) rfl ?_
  refine g_aload_n (n := 0) (i := 0) rfl rfl d_X_refundable_0 ?_
  refine g_getfield 0 0 f_X_12 (by assumption) (by rfl) d_X_refundable_1 ?_
  refine g_aload_n (n := 0) (i := 0) rfl rfl d_X_refundable_4 ?_
  refine g_iload_n (n := 1) (i := 1) rfl rfl d_X_refundable_5 ?_
  refine g_callV1 rfl rfl e_X_existingCard l_X_229 iv_X_existingCard 0 (by decide) rfl (by assumption) (by decide) (by decide) (by decide) (Nat.le_of_ble_eq_true rfl) d_X_refundable_6 (c_X_existingCard hx (by omega) (fun a pa la hBa fa ga ea => ?_) (fun hBa => ?_))
  · refine g_retn ?_
    have ca := g_imm (E := E) (w := w) fa
    have da := g_imm (E := E) (w := w) ga
    obtain ⟨q1, q2, q3, q4, q5⟩ := ok8 x hBa
    have oq := ok7 (zC (cN c) x).1 q1
    have hlen := q5.1
    have hdm := dmask_lt q5
    refine g_callV1 rfl rfl e_R_refundFor l_X_331 iv_R_refundFor 1 (by decide) rfl (by assumption) (by decide) (Nat.zero_le _) (Nat.zero_le _) (Nat.le_of_ble_eq_true rfl) d_X_refundable_9 (c_R_refundFor hz fa ga ea q5 (by omega) oq ?_)
    refine g_ret ?_
    refine g_ireturn_i rfl d_X_refundable_12 ?_
    exact hQ _ _ _ (by unfold oRfb; first | (rw [if_pos hBa]; rfl) | (rw [if_neg hBa]; done) | ((repeat' split) <;> first | rfl | (exfalso; omega) | (exfalso; simp_all))) (XN.refl hx)
  · refine g_retx ?_
    exact hQ _ _ _ (by unfold oRfb; first | (rw [if_pos hBa]; rfl) | (rw [if_neg hBa]; done) | ((repeat' split) <;> first | rfl | (exfalso; omega) | (exfalso; simp_all))) (XN.refl hx)

