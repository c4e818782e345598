/-! ===== the face of the class: what it stands on ===== -/
def leftZ (R : Rz) (k : Int) : Int := (if (zC R k).2.1 = 2 then 0 else (zP R (zC R k).1).2.2.2.2.2) - (zC R k).2.2.2.1
def shareC (R : Rz) (k pa : Int) : Int := shareZ (leftZ R k) (zC R k).2.2.2.2 pa
def sharesP (R : Rz) (pa : Int) : Int := sumZ (fun k9 => if k9 < zc R then shareC R k9 pa else 0) 20
def sharesA (R : Rz) : Int := sumZ (fun k9 => sharesP R k9) 4
def chainZ (r i : Int) : Int := if i < 0 ∨ (if 3 < r / 10 then 3 else r / 10) < i then -1 else if i = (if 3 < r / 10 then 3 else r / 10) then r else if i < 2 then i + 1 else r / 10
abbrev cRec (c : CSt) : CSt := cSetH c (cNx c) (cCh c) (uI (cS c) (cx c) (cN c))

theorem c_X_existingGate {E : gE} {w : gW} {im : gIm} {Q : gQ} {c : CSt} (hx : XW E w im c) {x : Int} (rx : -2147483648 ≤ x ∧ x < 2147483648) (hQ1 : ∀ a, (0 ≤ x ∧ x < zg (cN c)) → im a = some (gateE x (zG (cN c) x).1 (zG (cN c) x).2) → Q (.inl (some (.ref a))) w im) (hQ2 : ¬ (0 ≤ x ∧ x < zg (cN c)) → Q (.inr "java/lang/IndexOutOfBoundsException") w im) : GM E 1 y_X_existingGate m_X_existingGate 1 6 [.ref (gad E 0), .int (iI x)] w im Q := by
  have hx9 := hx
  obtain ⟨⟨hn, x0, x1, x2, x3, x4, x5, m61, x6⟩, ⟨r1, r2, r3⟩, o1, o2, o3, o4⟩ := hx9
  have k0 : g_cell E w im (gad E 0) _ := g_mut 0 (by omega) x0
  have k1 : g_cell E w im (gad E 56) _ := g_mut 56 (by omega) x1
  have k2 : g_cell E w im (gad E 57) _ := g_mut 57 (by omega) x2
  have k3 : g_cell E w im (gad E 58) _ := g_mut 58 (by omega) x3
  have k4 : g_cell E w im (gad E 59) _ := g_mut 59 (by omega) x4
  have k5 : g_cell E w im (gad E 60) _ := g_mut 60 (by omega) x5
  have k6 : g_cell E w im (gad E 61) _ := g_mut 61 (by omega) x6
  have kn := r1.cell
  have kk := r2.cell
  refine g_enter (by decide) rfl rfl (fun h => by first | rfl | cases h) (Nat.le_of_ble_eq_true rfl) rfl ?_
  refine g_aload_n (n := 0) (i := 0) rfl rfl d_X_existingGate_0 ?_
  refine g_getfield 0 0 f_X_12 (by assumption) (by rfl) d_X_existingGate_1 ?_
  refine g_iload_n (n := 1) (i := 1) rfl rfl d_X_existingGate_4 ?_
  refine g_callV1 rfl rfl e_R_gateAt l_X_441 iv_R_gateAt 1 (by decide) rfl (by assumption) (by decide) (Nat.zero_le _) (Nat.zero_le _) (Nat.le_of_ble_eq_true rfl) d_X_existingGate_5 (c_R_gateAt r1 rx (fun a hB f1 => ?_) (fun hB => ?_))
  · refine g_ret ?_
    refine g_astore_n (n := 2) (i := 2) rfl (by decide) rfl d_X_existingGate_8 ?_
    refine g_aload_n (n := 2) (i := 2) rfl rfl d_X_existingGate_9 ?_
    refine g_ifnonnull (tgt := 24) (by decide) d_X_existingGate_10 ?_
    refine g_aload_n (n := 2) (i := 2) rfl rfl d_X_existingGate_24 ?_
    refine g_areturn rfl (Or.inl ⟨_, rfl⟩) (Or.inr ⟨_, rfl⟩) d_X_existingGate_25 ?_
    first | exact hQ1 a hB f1 | exact hQ2 hB
  · refine g_ret ?_
    refine g_astoreN_n (n := 2) (i := 2) rfl (by decide) rfl d_X_existingGate_8 ?_
    refine g_aloadN_n (n := 2) (i := 2) rfl rfl d_X_existingGate_9 ?_
    refine g_ifnonnullN d_X_existingGate_10 ?_
    refine x_IOBw c_X_444 xs_446 rfl rfl (Nat.le_of_ble_eq_true rfl) (by omega) (by omega) d_X_existingGate_13 d_X_existingGate_16 d_X_existingGate_17 d_X_existingGate_20 d_X_existingGate_23 ?_
    first | exact hQ1 a hB f1 | exact hQ2 hB

theorem c_X_existingProduct {E : gE} {w : gW} {im : gIm} {Q : gQ} {c : CSt} (hx : XW E w im c) {x : Int} (rx : -2147483648 ≤ x ∧ x < 2147483648) (hQ1 : ∀ a, (0 ≤ x ∧ x < zp (cN c)) → im a = some (prodAt x (zP (cN c) x)) → Q (.inl (some (.ref a))) w im) (hQ2 : ¬ (0 ≤ x ∧ x < zp (cN c)) → Q (.inr "java/lang/IndexOutOfBoundsException") w im) : GM E 1 y_X_existingProduct m_X_existingProduct 1 6 [.ref (gad E 0), .int (iI x)] w im Q := by
  have hx9 := hx
  obtain ⟨⟨hn, x0, x1, x2, x3, x4, x5, m61, x6⟩, ⟨r1, r2, r3⟩, o1, o2, o3, o4⟩ := hx9
  have k0 : g_cell E w im (gad E 0) _ := g_mut 0 (by omega) x0
  have k1 : g_cell E w im (gad E 56) _ := g_mut 56 (by omega) x1
  have k2 : g_cell E w im (gad E 57) _ := g_mut 57 (by omega) x2
  have k3 : g_cell E w im (gad E 58) _ := g_mut 58 (by omega) x3
  have k4 : g_cell E w im (gad E 59) _ := g_mut 59 (by omega) x4
  have k5 : g_cell E w im (gad E 60) _ := g_mut 60 (by omega) x5
  have k6 : g_cell E w im (gad E 61) _ := g_mut 61 (by omega) x6
  have kn := r1.cell
  have kk := r2.cell
  refine g_enter (by decide) rfl rfl (fun h => by first | rfl | cases h) (Nat.le_of_ble_eq_true rfl) rfl ?_
  refine g_aload_n (n := 0) (i := 0) rfl rfl d_X_existingProduct_0 ?_
  refine g_getfield 0 0 f_X_12 (by assumption) (by rfl) d_X_existingProduct_1 ?_
  refine g_iload_n (n := 1) (i := 1) rfl rfl d_X_existingProduct_4 ?_
  refine g_callV1 rfl rfl e_R_productAt l_X_449 iv_R_productAt 1 (by decide) rfl (by assumption) (by decide) (Nat.zero_le _) (Nat.zero_le _) (Nat.le_of_ble_eq_true rfl) d_X_existingProduct_5 (c_R_productAt r1 rx (fun a hB f1 => ?_) (fun hB => ?_))
  · refine g_ret ?_
    refine g_astore_n (n := 2) (i := 2) rfl (by decide) rfl d_X_existingProduct_8 ?_
    refine g_aload_n (n := 2) (i := 2) rfl rfl d_X_existingProduct_9 ?_
    refine g_ifnonnull (tgt := 24) (by decide) d_X_existingProduct_10 ?_
    refine g_aload_n (n := 2) (i := 2) rfl rfl d_X_existingProduct_24 ?_
    refine g_areturn rfl (Or.inl ⟨_, rfl⟩) (Or.inr ⟨_, rfl⟩) d_X_existingProduct_25 ?_
    first | exact hQ1 a hB f1 | exact hQ2 hB
  · refine g_ret ?_
    refine g_astoreN_n (n := 2) (i := 2) rfl (by decide) rfl d_X_existingProduct_8 ?_
    refine g_aloadN_n (n := 2) (i := 2) rfl rfl d_X_existingProduct_9 ?_
    refine g_ifnonnullN d_X_existingProduct_10 ?_
    refine x_IOBw c_X_444 xs_452 rfl rfl (Nat.le_of_ble_eq_true rfl) (by omega) (by omega) d_X_existingProduct_13 d_X_existingProduct_16 d_X_existingProduct_17 d_X_existingProduct_20 d_X_existingProduct_23 ?_
    first | exact hQ1 a hB f1 | exact hQ2 hB

theorem c_X_existingCard {E : gE} {w : gW} {im : gIm} {Q : gQ} {c : CSt} (hx : XW E w im c) {x : Int} (rx : -2147483648 ≤ x ∧ x < 2147483648) (hQ1 : ∀ a p la, (0 ≤ x ∧ x < zc (cN c)) → im a = some (cardE x p (zC (cN c) x).2.1 (zC (cN c) x).2.2.1 (zC (cN c) x).2.2.2.1 la) → im p = some (prodAt (zC (cN c) x).1 (zP (cN c) (zC (cN c) x).1)) → chn im la (zC (cN c) x).2.2.2.2 → Q (.inl (some (.ref a))) w im) (hQ2 : ¬ (0 ≤ x ∧ x < zc (cN c)) → Q (.inr "java/lang/IndexOutOfBoundsException") w im) : GM E 1 y_X_existingCard m_X_existingCard 1 6 [.ref (gad E 0), .int (iI x)] w im Q := by
  have hx9 := hx
  obtain ⟨⟨hn, x0, x1, x2, x3, x4, x5, m61, x6⟩, ⟨r1, r2, r3⟩, o1, o2, o3, o4⟩ := hx9
  have k0 : g_cell E w im (gad E 0) _ := g_mut 0 (by omega) x0
  have k1 : g_cell E w im (gad E 56) _ := g_mut 56 (by omega) x1
  have k2 : g_cell E w im (gad E 57) _ := g_mut 57 (by omega) x2
  have k3 : g_cell E w im (gad E 58) _ := g_mut 58 (by omega) x3
  have k4 : g_cell E w im (gad E 59) _ := g_mut 59 (by omega) x4
  have k5 : g_cell E w im (gad E 60) _ := g_mut 60 (by omega) x5
  have k6 : g_cell E w im (gad E 61) _ := g_mut 61 (by omega) x6
  have kn := r1.cell
  have kk := r2.cell
  refine g_enter (by decide) rfl rfl (fun h => by first | rfl | cases h) (Nat.le_of_ble_eq_true rfl) rfl ?_
  refine g_aload_n (n := 0) (i := 0) rfl rfl d_X_existingCard_0 ?_
  refine g_getfield 0 0 f_X_12 (by assumption) (by rfl) d_X_existingCard_1 ?_
  refine g_iload_n (n := 1) (i := 1) rfl rfl d_X_existingCard_4 ?_
  refine g_callV1 rfl rfl e_R_cardAt l_X_454 iv_R_cardAt 1 (by decide) rfl (by assumption) (by decide) (Nat.zero_le _) (Nat.zero_le _) (Nat.le_of_ble_eq_true rfl) d_X_existingCard_5 (c_R_cardAt r1 rx (fun a p la hB f1 f2 f3 => ?_) (fun hB => ?_))
  · refine g_ret ?_
    refine g_astore_n (n := 2) (i := 2) rfl (by decide) rfl d_X_existingCard_8 ?_
    refine g_aload_n (n := 2) (i := 2) rfl rfl d_X_existingCard_9 ?_
    refine g_ifnonnull (tgt := 24) (by decide) d_X_existingCard_10 ?_
    refine g_aload_n (n := 2) (i := 2) rfl rfl d_X_existingCard_24 ?_
    refine g_areturn rfl (Or.inl ⟨_, rfl⟩) (Or.inr ⟨_, rfl⟩) d_X_existingCard_25 ?_
    first | exact hQ1 a p la hB f1 f2 f3 | exact hQ2 hB
  · refine g_ret ?_
    refine g_astoreN_n (n := 2) (i := 2) rfl (by decide) rfl d_X_existingCard_8 ?_
    refine g_aloadN_n (n := 2) (i := 2) rfl rfl d_X_existingCard_9 ?_
    refine g_ifnonnullN d_X_existingCard_10 ?_
    refine x_IOBw c_X_444 xs_457 rfl rfl (Nat.le_of_ble_eq_true rfl) (by omega) (by omega) d_X_existingCard_13 d_X_existingCard_16 d_X_existingCard_17 d_X_existingCard_20 d_X_existingCard_23 ?_
    first | exact hQ1 a p la hB f1 f2 f3 | exact hQ2 hB

theorem c_X_numberInChain {E : gE} {w : gW} {im : gIm} {Q : gQ} {a i9 : Int} (ra : 0 ≤ a ∧ a ≤ 42) (ri : -2147483648 ≤ i9 ∧ i9 < 2147483648) (hQ : Q (.inl (some (.int (iI (chainZ a i9))))) w im) : GM E 0 y_X_numberInChain m_X_numberInChain 0 0 [.int (iI a), .int (iI i9)] w im Q := by
  refine g_enter (by decide) rfl rfl (fun h => by first | rfl | cases h) (Nat.le_of_ble_eq_true rfl) rfl ?_
  refine g_iload_n (n := 0) (i := 0) rfl rfl d_X_numberInChain_0 ?_
  refine g_bipush_i (by decide) d_X_numberInChain_1 ?_
  refine g_idiv_i (by first | omega | ((repeat' split) <;> omega)) (by first | omega | ((repeat' split) <;> omega)) d_X_numberInChain_3 ?_
  refine g_istore_n (n := 2) (i := 2) rfl (by decide) rfl d_X_numberInChain_4 ?_
  refine g_iload_n (n := 2) (i := 2) rfl rfl d_X_numberInChain_5 ?_
  refine g_iconst_i d_X_numberInChain_6 ?_
  refine g_mmin_i l_X_461 x_min.1 x_min.2.1 x_min.2.2 (Nat.le_of_ble_eq_true rfl) (by first | omega | ((repeat' split) <;> omega)) (by first | omega | ((repeat' split) <;> omega)) d_X_numberInChain_7 ?_
  refine g_istore_n (n := 3) (i := 3) rfl (by decide) rfl d_X_numberInChain_10 ?_
  refine g_iload_n (n := 1) (i := 1) rfl rfl d_X_numberInChain_11 ?_
  refine g_if_lt_i (tgt := 20) (by first | omega | ((repeat' split) <;> omega)) d_X_numberInChain_12 (by decide) (fun h12 => ?_) (fun h12 => ?_)
  · refine g_iconst_i d_X_numberInChain_20 ?_
    refine g_ireturn_i rfl d_X_numberInChain_21 ?_
    exact g_qi hQ (by unfold chainZ; (repeat' split) <;> omega)
  · refine g_iload_n (n := 1) (i := 1) rfl rfl d_X_numberInChain_15 ?_
    refine g_iload_n (n := 3) (i := 3) rfl rfl d_X_numberInChain_16 ?_
    refine g_icmp_le_i (tgt := 22) (by first | omega | ((repeat' split) <;> omega)) (by first | omega | ((repeat' split) <;> omega)) d_X_numberInChain_17 (by decide) (fun h17 => ?_) (fun h17 => ?_)
    · refine g_iload_n (n := 1) (i := 1) rfl rfl d_X_numberInChain_22 ?_
      refine g_iload_n (n := 3) (i := 3) rfl rfl d_X_numberInChain_23 ?_
      refine g_icmp_ne_i (tgt := 29) (by first | omega | ((repeat' split) <;> omega)) (by first | omega | ((repeat' split) <;> omega)) d_X_numberInChain_24 (by decide) (fun h24 => ?_) (fun h24 => ?_)
      · refine g_iload_n (n := 1) (i := 1) rfl rfl d_X_numberInChain_29 ?_
        refine g_iconst_i d_X_numberInChain_30 ?_
        refine g_icmp_ge_i (tgt := 40) (by first | omega | ((repeat' split) <;> omega)) (by decide) d_X_numberInChain_31 (by decide) (fun h31 => ?_) (fun h31 => ?_)
        · refine g_iload_n (n := 2) (i := 2) rfl rfl d_X_numberInChain_40 ?_
          refine g_ireturn_i rfl d_X_numberInChain_41 ?_
          exact g_qi hQ (by unfold chainZ; (repeat' split) <;> omega)
        · refine g_iload_n (n := 1) (i := 1) rfl rfl d_X_numberInChain_34 ?_
          refine g_iconst_i d_X_numberInChain_35 ?_
          refine g_iadd_i d_X_numberInChain_36 ?_
          refine g_goto (tgt := 41) (by decide) d_X_numberInChain_37 ?_
          refine g_ireturn_i rfl d_X_numberInChain_41 ?_
          exact g_qi hQ (by unfold chainZ; (repeat' split) <;> omega)
      · refine g_iload_n (n := 0) (i := 0) rfl rfl d_X_numberInChain_27 ?_
        refine g_ireturn_i rfl d_X_numberInChain_28 ?_
        exact g_qi hQ (by unfold chainZ; (repeat' split) <;> omega)
    · refine g_iconst_i d_X_numberInChain_20 ?_
      refine g_ireturn_i rfl d_X_numberInChain_21 ?_
      exact g_qi hQ (by unfold chainZ; (repeat' split) <;> omega)

theorem c_X_sharesOf {E : gE} {w : gW} {im : gIm} {Q : gQ} {c : CSt} (hx : XW E w im c) {pa : Int} (rp : 0 ≤ pa ∧ pa ≤ 3) (hQ : ∀ w' im', XN E w im c w' im' → Q (.inl (some (.int (iI (sharesP (cN c) pa))))) w' im') : GM E 2 y_X_sharesOf m_X_sharesOf 0 0 [.ref (gad E 0), .int (iI pa)] w im Q := by
  have loop : ∀ (n9 : Nat) (k9 s9 : Int) (w1 : gW), 0 ≤ k9 → k9 + n9 = 20 → XN E w im c w1 im → s9 = sumZ (fun k9 => if k9 < zc (cN c) then shareC (cN c) k9 pa else 0) k9 → G E 2 m_X_sharesOf 17 [(0, .ref (gad E 0)), (1, .int (iI pa)), (2, .int (iI s9)), (3, .ref (gad E (1 + 3))), (4, .int (iI 20)), (5, .int (iI k9))] [] w1 im 0 0 Q := by
    intro n9
    induction n9 with
    | zero =>
      intro k9 s9 w h9 hk9 hN hs9
      have e9 : k9 = 20 := by omega
      rw [e9] at hs9
      refine g_iload (i := 5) rfl d_X_sharesOf_17 ?_
      refine g_iload (i := 4) rfl d_X_sharesOf_19 ?_
      refine g_icmp_ge_i (tgt := 61) (by omega) (by decide) d_X_sharesOf_21 (by decide) (fun h21 => ?_) (fun h => by exfalso; omega)
      refine g_iload_n (n := 2) (i := 2) rfl rfl d_X_sharesOf_61 ?_
      refine g_ireturn_i rfl d_X_sharesOf_62 ?_
      rw [hs9]
      exact hQ _ _ hN
    | succ n9 ih =>
      intro k9 s9 w h9 hk9 hN hs9
      have hx := hN.2.2
      have hx9 := hx
      obtain ⟨⟨hn, x0, x1, x2, x3, x4, x5, m61, x6⟩, ⟨r1, r2, r3⟩, o1, o2, o3, o4⟩ := hx9
      have k0 : g_cell E w im (gad E 0) _ := g_mut 0 (by omega) x0
      have k1 : g_cell E w im (gad E 56) _ := g_mut 56 (by omega) x1
      have k2 : g_cell E w im (gad E 57) _ := g_mut 57 (by omega) x2
      have k3 : g_cell E w im (gad E 58) _ := g_mut 58 (by omega) x3
      have k4 : g_cell E w im (gad E 59) _ := g_mut 59 (by omega) x4
      have k5 : g_cell E w im (gad E 60) _ := g_mut 60 (by omega) x5
      have k6 : g_cell E w im (gad E 61) _ := g_mut 61 (by omega) x6
      have kn := r1.cell
      have kk := r2.cell
    
      have hz := r1
      have hz9 := hz
      obtain ⟨rg, rp, rc, lc, ⟨hb, h0, h1, h2, h3, h4, hlc⟩, ⟨i1, i2, i3, i4, i5, i6⟩, ok⟩ := hz9
      obtain ⟨ok1, ok2, ok3, ok4, ok5, ok6, ok7, ok8, ok9⟩ := ok
      have co : g_cell E w im (gad E 1) (resE E 1 (cN c)) := g_mut 1 (by omega) h0
      have cg : g_cell E w im (gad E (1 + 1)) (rowE 4 12 rg) := g_mut (1 + 1) (by omega) h1
      have cp : g_cell E w im (gad E (1 + 2)) (rowE 5 8 rp) := g_mut (1 + 2) (by omega) h2
      have cc : g_cell E w im (gad E (1 + 3)) (rowE 6 20 rc) := g_mut (1 + 3) (by omega) h3
      have cl : g_cell E w im (gad E (1 + 4)) (intE 372 lc) := g_mut (1 + 4) (by omega) h4
    
      by_cases hc9 : k9 < zc (cN c)
      · obtain ⟨a9, p9, la9, e1, e2, e3, e4⟩ := i5 k9 ⟨h9, hc9⟩
        have c1 := g_imm (E := E) (w := w) e2
        obtain ⟨q1, q2, q3, q4, q5⟩ := ok8 k9 ⟨h9, hc9⟩
        have oq := ok7 (zC (cN c) k9).1 q1
        refine g_iload (i := 5) rfl d_X_sharesOf_17 ?_
        refine g_iload (i := 4) rfl d_X_sharesOf_19 ?_
        refine g_icmp_ge_i (tgt := 61) (by omega) (by decide) d_X_sharesOf_21 (by decide) (fun h => by exfalso; omega) (fun h21 => ?_)
        refine g_aload_n (n := 3) (i := 3) rfl rfl d_X_sharesOf_24 ?_
        refine g_iload (i := 5) rfl d_X_sharesOf_25 ?_
        refine g_aaload_i (by assumption) (by decide) (by rfl) (by omega) (by omega) (by rfl) (by assumption) d_X_sharesOf_27 ?_
        refine g_astore (i := 6) (by decide) rfl d_X_sharesOf_28 ?_
        refine g_aload (i := 6) rfl d_X_sharesOf_30 ?_
        refine g_ifnull d_X_sharesOf_32 ?_
        refine g_aload_n (n := 0) (i := 0) rfl rfl d_X_sharesOf_35 ?_
        refine g_getfield 0 4 f_X_36 (by assumption) (by rfl) d_X_sharesOf_36 ?_
        refine g_aload (i := 6) rfl d_X_sharesOf_39 ?_
        refine g_callV1 rfl rfl e_S_divide l_X_340 iv_S_divide 4 (by decide) rfl (by assumption) (by decide) (Nat.zero_le _) (Nat.zero_le _) (Nat.le_of_ble_eq_true rfl) d_X_sharesOf_41 (c_S_divide (q9 := zP (cN c) (zC (cN c) k9).1) hn x5 x6 e2 e3 e4 q5 q2 oq q4 (fun w m6 hs6 hm6 hn6 => ?_))
        refine g_retv ?_
        have k0 : g_cell E w im (gad E 0) _ := g_mut 0 (by omega) ((hn6 0 (by omega)).trans x0)
        have k5 : g_cell E w im (gad E 60) _ := g_mut 60 (by omega) ((hn6 60 (by omega)).trans x5)
        have x5 := (hn6 60 (by omega)).trans x5
        have hN6 := hN.trans (hx.sM hs6 hn6)
        refine g_iload_n (n := 2) (i := 2) rfl rfl d_X_sharesOf_44 ?_
        refine g_aload_n (n := 0) (i := 0) rfl rfl d_X_sharesOf_45 ?_
        refine g_getfield 0 4 f_X_36 (by assumption) (by rfl) d_X_sharesOf_46 ?_
        refine g_iload_n (n := 1) (i := 1) rfl rfl d_X_sharesOf_49 ?_
        refine g_callV1 rfl rfl e_S_partOf l_X_344 iv_S_partOf 4 (by decide) rfl (by assumption) (by decide) (Nat.zero_le _) (Nat.zero_le _) (Nat.le_of_ble_eq_true rfl) d_X_sharesOf_50 (c_S_partOf hn x5 hs6 (by omega) ?_)
        refine g_ret ?_
        refine g_iadd_i d_X_sharesOf_53 ?_
        refine g_istore_n (n := 2) (i := 2) rfl (by decide) rfl d_X_sharesOf_54 ?_
        refine g_iinc_i (i := 5) rfl (by decide) rfl d_X_sharesOf_55 ?_
        refine g_goto (tgt := 17) (by decide) d_X_sharesOf_58 ?_
        exact g_cut (lv' := [(0, .ref (gad E 0)), (1, .int (iI pa)), (2, .int (iI _)), (3, .ref (gad E (1 + 3))), (4, .int (iI 20)), (5, .int (iI (k9 + 1)))]) ⟨rfl, rfl, rfl, rfl, rfl, rfl, trivial⟩ (ih (k9 + 1) _ w (by omega) (by omega) hN6 (by rw [sumZ_s (by omega)]; first | (rw [if_pos hc9, hs9, hm6 pa (by omega)]; rfl) | (rw [if_neg hc9, hs9, Int.add_zero])))
      · have e1 := i6 k9 (by omega)
        refine g_iload (i := 5) rfl d_X_sharesOf_17 ?_
        refine g_iload (i := 4) rfl d_X_sharesOf_19 ?_
        refine g_icmp_ge_i (tgt := 61) (by omega) (by decide) d_X_sharesOf_21 (by decide) (fun h => by exfalso; omega) (fun h21 => ?_)
        refine g_aload_n (n := 3) (i := 3) rfl rfl d_X_sharesOf_24 ?_
        refine g_iload (i := 5) rfl d_X_sharesOf_25 ?_
        refine g_aaloadN_i (by assumption) (by decide) (by rfl) (by omega) (by omega) (by rfl) (by assumption) d_X_sharesOf_27 ?_
        refine g_astoreN (i := 6) (by decide) rfl d_X_sharesOf_28 ?_
        refine g_aloadN (i := 6) rfl d_X_sharesOf_30 ?_
        refine g_ifnullN (tgt := 55) (by decide) d_X_sharesOf_32 ?_
        refine g_iinc_i (i := 5) rfl (by decide) rfl d_X_sharesOf_55 ?_
        refine g_goto (tgt := 17) (by decide) d_X_sharesOf_58 ?_
        exact g_cut (lv' := [(0, .ref (gad E 0)), (1, .int (iI pa)), (2, .int (iI _)), (3, .ref (gad E (1 + 3))), (4, .int (iI 20)), (5, .int (iI (k9 + 1)))]) ⟨rfl, rfl, rfl, rfl, rfl, rfl, trivial⟩ (ih (k9 + 1) _ w (by omega) (by omega) hN (by rw [sumZ_s (by omega)]; first | (rw [if_pos hc9, hs9, hm6 pa (by omega)]; rfl) | (rw [if_neg hc9, hs9, Int.add_zero])))
  have hx9 := hx
  obtain ⟨⟨hn, x0, x1, x2, x3, x4, x5, m61, x6⟩, ⟨r1, r2, r3⟩, o1, o2, o3, o4⟩ := hx9
  have k0 : g_cell E w im (gad E 0) _ := g_mut 0 (by omega) x0
  have k1 : g_cell E w im (gad E 56) _ := g_mut 56 (by omega) x1
  have k2 : g_cell E w im (gad E 57) _ := g_mut 57 (by omega) x2
  have k3 : g_cell E w im (gad E 58) _ := g_mut 58 (by omega) x3
  have k4 : g_cell E w im (gad E 59) _ := g_mut 59 (by omega) x4
  have k5 : g_cell E w im (gad E 60) _ := g_mut 60 (by omega) x5
  have k6 : g_cell E w im (gad E 61) _ := g_mut 61 (by omega) x6
  have kn := r1.cell
  have kk := r2.cell
  have hz := r1
  have hz9 := hz
  obtain ⟨rg, rp, rc, lc, ⟨hb, h0, h1, h2, h3, h4, hlc⟩, ⟨i1, i2, i3, i4, i5, i6⟩, ok⟩ := hz9
  obtain ⟨ok1, ok2, ok3, ok4, ok5, ok6, ok7, ok8, ok9⟩ := ok
  have co : g_cell E w im (gad E 1) (resE E 1 (cN c)) := g_mut 1 (by omega) h0
  have cg : g_cell E w im (gad E (1 + 1)) (rowE 4 12 rg) := g_mut (1 + 1) (by omega) h1
  have cp : g_cell E w im (gad E (1 + 2)) (rowE 5 8 rp) := g_mut (1 + 2) (by omega) h2
  have cc : g_cell E w im (gad E (1 + 3)) (rowE 6 20 rc) := g_mut (1 + 3) (by omega) h3
  have cl : g_cell E w im (gad E (1 + 4)) (intE 372 lc) := g_mut (1 + 4) (by omega) h4
  refine g_enter (by decide) rfl rfl (fun h => by first | rfl | cases h) (Nat.le_of_ble_eq_true rfl) rfl ?_
  refine g_iconst_i d_X_sharesOf_0 ?_
  refine g_istore_n (n := 2) (i := 2) rfl (by decide) rfl d_X_sharesOf_1 ?_
  refine g_aload_n (n := 0) (i := 0) rfl rfl d_X_sharesOf_2 ?_
  refine g_getfield 0 0 f_X_12 (by assumption) (by rfl) d_X_sharesOf_3 ?_
  refine g_getfield 1 2 f_X_466 (by assumption) (by rfl) d_X_sharesOf_6 ?_
  refine g_astore_n (n := 3) (i := 3) rfl (by decide) rfl d_X_sharesOf_9 ?_
  refine g_aload_n (n := 3) (i := 3) rfl rfl d_X_sharesOf_10 ?_
  refine g_alen_i (by assumption) (by decide) d_X_sharesOf_11 ?_
  refine g_istore (i := 4) (by decide) rfl d_X_sharesOf_12 ?_
  refine g_iconst_i d_X_sharesOf_14 ?_
  refine g_istore (i := 5) (by decide) rfl d_X_sharesOf_15 ?_
  refine g_cut ?_ (loop 20 0 0 w (by omega) (by omega) (XN.refl hx) sumZ_0.symm)
  exact ⟨rfl, rfl, rfl, rfl, rfl, rfl, trivial⟩

theorem c_X_allShares {E : gE} {w : gW} {im : gIm} {Q : gQ} {c : CSt} (hx : XW E w im c) (hQ : ∀ w' im', XN E w im c w' im' → Q (.inl (some (.int (iI (sharesA (cN c)))))) w' im') : GM E 3 y_X_allShares m_X_allShares 0 0 [.ref (gad E 0)] w im Q := by
  have loop : ∀ (n9 : Nat) (k9 s9 : Int) (w1 : gW) (im1 : gIm), 0 ≤ k9 → k9 + n9 = 4 → XN E w im c w1 im1 → s9 = sumZ (fun k9 => sharesP (cN c) k9) k9 → G E 3 m_X_allShares 4 [(0, .ref (gad E 0)), (1, .int (iI s9)), (2, .int (iI k9))] [] w1 im1 0 0 Q := by
    intro n9
    induction n9 with
    | zero =>
      intro k9 s9 w im h9 hk9 hN hs9
      have e9 : k9 = 4 := by omega
      rw [e9] at hs9
      refine g_iload_n (n := 2) (i := 2) rfl rfl d_X_allShares_4 ?_
      refine g_iconst_i d_X_allShares_5 ?_
      refine g_icmp_ge_i (tgt := 23) (by omega) (by decide) d_X_allShares_6 (by decide) (fun h6 => ?_) (fun h => by exfalso; omega)
      refine g_iload_n (n := 1) (i := 1) rfl rfl d_X_allShares_23 ?_
      refine g_ireturn_i rfl d_X_allShares_24 ?_
      rw [hs9]
      exact hQ _ _ hN
    | succ n9 ih =>
      intro k9 s9 w im h9 hk9 hN hs9
      have hx := hN.2.2
      have k0 : g_cell E w im (gad E 0) _ := g_mut 0 (by rw [hx.1.1]; omega) hx.1.2.1
      refine g_iload_n (n := 2) (i := 2) rfl rfl d_X_allShares_4 ?_
      refine g_iconst_i d_X_allShares_5 ?_
      refine g_icmp_ge_i (tgt := 23) (by omega) (by decide) d_X_allShares_6 (by decide) (fun h => by exfalso; omega) (fun h6 => ?_)
      refine g_iload_n (n := 1) (i := 1) rfl rfl d_X_allShares_9 ?_
      refine g_aload_n (n := 0) (i := 0) rfl rfl d_X_allShares_10 ?_
      refine g_iload_n (n := 2) (i := 2) rfl rfl d_X_allShares_11 ?_
      refine g_callV1 rfl rfl e_X_sharesOf l_X_347 iv_X_sharesOf 0 (by decide) rfl (by assumption) (by decide) (Nat.zero_le _) (Nat.zero_le _) (Nat.le_of_ble_eq_true rfl) d_X_allShares_12 (c_X_sharesOf hx (by omega) (fun w im hN2 => ?_))
      refine g_ret ?_
      refine g_iadd_i d_X_allShares_15 ?_
      refine g_istore_n (n := 1) (i := 1) rfl (by decide) rfl d_X_allShares_16 ?_
      refine g_iinc_i (i := 2) rfl (by decide) rfl d_X_allShares_17 ?_
      refine g_goto (tgt := 4) (by decide) d_X_allShares_20 ?_
      exact g_cut (lv' := [(0, .ref (gad E 0)), (1, .int (iI _)), (2, .int (iI (k9 + 1)))]) ⟨rfl, rfl, rfl, trivial⟩ (ih (k9 + 1) _ _ _ (by omega) (by omega) (hN.trans hN2) (by rw [sumZ_s (by omega), hs9]))
  refine g_enter (by decide) rfl rfl (fun h => by first | rfl | cases h) (Nat.le_of_ble_eq_true rfl) rfl ?_
  refine g_iconst_i d_X_allShares_0 ?_
  refine g_istore_n (n := 1) (i := 1) rfl (by decide) rfl d_X_allShares_1 ?_
  refine g_iconst_i d_X_allShares_2 ?_
  refine g_istore_n (n := 2) (i := 2) rfl (by decide) rfl d_X_allShares_3 ?_
  refine g_cut ?_ (loop 4 0 0 w im (by omega) (by omega) (XN.refl hx) sumZ_0.symm)
  exact ⟨rfl, rfl, rfl, trivial⟩

