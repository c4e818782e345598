/-! ===== orders, carried out ===== -/
def ordZ (R : Rz) (l n t : Int) : Bool × Rz :=
  if l = 115 then (if isP R n ∧ zc R + t ≤ 20 then (true, zAddN R n t.toNat) else (false, R))
  else if l = 98 then (if isC R n ∧ ¬ settled R n then (true, zBlk R n 1) else (false, R))
  else if l = 117 then (if isC R n ∧ ¬ settled R n then (true, zBlk R n 0) else (false, R))
  else if l = 114 then (if isC R n ∧ ¬ settled R n ∧ zc R + 1 ≤ 20 then (true, zExch R n) else (false, R))
  else if l = 99 then (if isG R n then (true, zShut R (shutZ (zs R) n 1)) else (false, R))
  else if l = 111 then (if isG R n then (true, zShut R (shutZ (zs R) n 0)) else (false, R))
  else if l = 119 then (if n ≤ 2880 ∧ zk R + n ≤ 43200 then (true, zTime R (zk R + n) (goL R n)) else (false, R))
  else (false, R)
def frO : Nat → Int → Tx → Rz → Int × Tx × Rz
  | 0, _, t, R => (-1, t, R)
  | n + 1, k, t, R => if (rdOrder t).1 = true then
      (if (ordZ R (tc (rdOrder t).2) (tn (rdOrder t).2) (tt (rdOrder t).2)).1 = true then frO n (k + 1) (if sg (rdOrder t).2 = 59 then tSk (rdOrder t).2 else (rdOrder t).2) (ordZ R (tc (rdOrder t).2) (tn (rdOrder t).2) (tt (rdOrder t).2)).2
       else (k, (rdOrder t).2, R))
    else (k, (rdOrder t).2, R)

theorem c_R_insertCards9 {E : gE} {w : gW} {im : gIm} {Q : gQ} {b : Nat} {R : Rz} (hz : RZ E w im b R) {pp : Nat} {pn x : Int} (hp : im pp = some (prodAt pn (zP R pn))) (rpn : 0 ≤ pn ∧ pn < zp R) (rx : 0 ≤ x ∧ zc R + x ≤ 20) (r9 : x ≤ 9) (hQ : ∀ w' im', RN E w im b (zAddN R pn x.toNat) w' im' → Q (.inl (some (.int (iI (zc R))))) w' im') : GM E 2 y_R_insertCards m_R_insertCards 9 54 [.ref (gad E b), .ref pp, .int (iI x)] w im Q := by
  have hz9 := hz
  obtain ⟨rg, rp, rc, lc, ⟨hb, h0, h1, h2, h3, h4, hlc⟩, ⟨i1, i2, i3, i4, i5, i6⟩, ok⟩ := hz9
  obtain ⟨ok1, ok2, ok3, ok4, ok5, ok6, ok7, ok8, ok9⟩ := ok
  have co : g_cell E w im (gad E b) (resE E b R) := g_mut b (by omega) h0
  have cg : g_cell E w im (gad E (b + 1)) (rowE 4 12 rg) := g_mut (b + 1) (by omega) h1
  have cp : g_cell E w im (gad E (b + 2)) (rowE 5 8 rp) := g_mut (b + 2) (by omega) h2
  have cc : g_cell E w im (gad E (b + 3)) (rowE 6 20 rc) := g_mut (b + 3) (by omega) h3
  have cl : g_cell E w im (gad E (b + 4)) (intE 372 lc) := g_mut (b + 4) (by omega) h4
  have loop : ∀ (n9 j9 : Nat) (k9 : Int) (w1 : gW) (im1 : gIm) (kc ks : Nat), (j9 : Int) = k9 → k9 + n9 = x → RN E w im b (zAddN R pn j9) w1 im1 → n9 ≤ kc → 6 * n9 ≤ ks → G E 2 m_R_insertCards 8 [(0, .ref (gad E b)), (1, .ref pp), (2, .int (iI x)), (3, .int (iI (zc R))), (4, .int (iI k9))] [] w1 im1 kc ks Q := by
    intro n9
    induction n9 with
    | zero =>
      intro j9 k9 w1 im1 kc ks hj hk9 hN hk1 hk2
      have e9 : j9 = x.toNat := by omega
      rw [e9] at hN
      refine g_iload (i := 4) rfl d_R_insertCards_8 ?_
      refine g_iload_n (n := 2) (i := 2) rfl rfl d_R_insertCards_10 ?_
      refine g_icmp_ge_i (tgt := 27) (by omega) (by omega) d_R_insertCards_11 (by decide) (fun h11 => ?_) (fun h => by exfalso; omega)
      refine g_iload_n (n := 3) (i := 3) rfl rfl d_R_insertCards_27 ?_
      refine g_ireturn_i rfl d_R_insertCards_28 ?_
      exact hQ _ _ hN
    | succ n9 ih =>
      intro j9 k9 w1 im1 kc ks hj hk9 hN hk1 hk2
      have hz1 := hN.2.2
      have co1 := hz1.cell
      have hp1 : im1 pp = some (prodAt pn (zP (zAddN R pn j9) pn)) := by rw [zP_addN]; exact hN.2.1 _ _ hp
      have hpn : 0 ≤ pn ∧ pn < zp (zAddN R pn j9) := by rw [zp_addN]; exact rpn
      have hcn : zc (zAddN R pn j9) < 20 := by rw [zc_addN]; omega
      refine g_iload (i := 4) rfl d_R_insertCards_8 ?_
      refine g_iload_n (n := 2) (i := 2) rfl rfl d_R_insertCards_10 ?_
      refine g_icmp_ge_i (tgt := 27) (by omega) (by omega) d_R_insertCards_11 (by decide) (fun h => by exfalso; omega) (fun h11 => ?_)
      refine g_aload_n (n := 0) (i := 0) rfl rfl d_R_insertCards_14 ?_
      refine g_aload_n (n := 1) (i := 1) rfl rfl d_R_insertCards_15 ?_
      refine g_null d_R_insertCards_16 ?_
      refine g_callV2 rfl rfl e_R_insertCard l_R_71 iv_R_insertCard 1 (by decide) rfl (by assumption) (by decide) (by omega) (by omega) (Nat.le_of_ble_eq_true rfl) d_R_insertCards_17 (c_R_insertCard (la := none) (rs := []) hz1 hp1 hpn trivial okR.nil hcn (fun w2 im2 hN2 => ?_))
      refine g_retn ?_
      refine g_pop rfl d_R_insertCards_20 ?_
      refine g_iinc_i (i := 4) rfl (by decide) rfl d_R_insertCards_21 ?_
      refine g_goto (tgt := 8) (by decide) d_R_insertCards_24 ?_
      exact g_cut (lv' := [(0, .ref (gad E b)), (1, .ref pp), (2, .int (iI x)), (3, .int (iI (zc R))), (4, .int (iI (k9 + 1)))]) ⟨rfl, rfl, rfl, rfl, rfl, trivial⟩ (ih (j9 + 1) (k9 + 1) w2 im2 _ _ (by omega) (by omega) (hN.trans hN2) (by omega) (by omega))
  refine g_enter (by decide) rfl rfl (fun h => by first | rfl | cases h) (Nat.le_of_ble_eq_true rfl) rfl ?_
  refine g_aload_n (n := 0) (i := 0) rfl rfl d_R_insertCards_0 ?_
  refine g_getfield 1 6 f_R_40 (by assumption) (by rfl) d_R_insertCards_1 ?_
  refine g_istore_n (n := 3) (i := 3) rfl (by decide) rfl d_R_insertCards_4 ?_
  refine g_iconst_i d_R_insertCards_5 ?_
  refine g_istore (i := 4) (by decide) rfl d_R_insertCards_6 ?_
  refine g_cut ?_ (loop x.toNat 0 0 w im _ _ rfl (by omega) (RN.refl hz) (by omega) (by omega))
  exact ⟨rfl, rfl, rfl, rfl, rfl, trivial⟩

theorem c_X_orderSale {E : gE} {w : gW} {im : gIm} {Q : gQ} {c : CSt} (hx : XW E w im c) {x y : Int} (rx : -2147483648 ≤ x ∧ x < 2147483648) (ry : 0 ≤ y ∧ y ≤ 9) (hQ1 : (isP (cN c) x ∧ zc (cN c) + y ≤ 20) → ∀ w' im', XN E w im (cSetN c (zAddN (cN c) x y.toNat)) w' im' → Q (.inl (some (.int (iI 1)))) w' im') (hQ2 : ¬ (isP (cN c) x ∧ zc (cN c) + y ≤ 20) → Q (.inl (some (.int (iI 0)))) w im) : GM E 3 y_X_orderSale m_X_orderSale 9 54 [.ref (gad E 0), .int (iI x), .int (iI y)] w im Q := by
  have hx9 := hx
  obtain ⟨⟨hn, x0, x1, x2, x3, x4, x5, m61, x6⟩, ⟨r1, r2, r3⟩, o1, o2, o3, o4⟩ := hx9
  have k0 : g_cell E w im (gad E 0) _ := g_mut 0 (by omega) x0
  have k1 : g_cell E w im (gad E 56) _ := g_mut 56 (by omega) x1
  have k2 : g_cell E w im (gad E 57) _ := g_mut 57 (by omega) x2
  have k3 : g_cell E w im (gad E 58) _ := g_mut 58 (by omega) x3
  have k4 : g_cell E w im (gad E 59) _ := g_mut 59 (by omega) x4
  have k5 : g_cell E w im (gad E 60) _ := g_mut 60 (by omega) x5
  have k6 : g_cell E w im (gad E 61) _ := g_mut 61 (by omega) x6
  have kn := r1.cell
  have kk := r2.cell
  have hz := r1
  have hz9 := hz
  obtain ⟨rg, rp, rc, lc, ⟨hb, h0, h1, h2, h3, h4, hlc⟩, ⟨i1, i2, i3, i4, i5, i6⟩, ok⟩ := hz9
  obtain ⟨ok1, ok2, ok3, ok4, ok5, ok6, ok7, ok8, ok9⟩ := ok
  have co : g_cell E w im (gad E 1) (resE E 1 (cN c)) := g_mut 1 (by omega) h0
  have cg : g_cell E w im (gad E (1 + 1)) (rowE 4 12 rg) := g_mut (1 + 1) (by omega) h1
  have cp : g_cell E w im (gad E (1 + 2)) (rowE 5 8 rp) := g_mut (1 + 2) (by omega) h2
  have cc : g_cell E w im (gad E (1 + 3)) (rowE 6 20 rc) := g_mut (1 + 3) (by omega) h3
  have cl : g_cell E w im (gad E (1 + 4)) (intE 372 lc) := g_mut (1 + 4) (by omega) h4
  refine g_enter (by decide) rfl rfl (fun h => by first | rfl | cases h) (Nat.le_of_ble_eq_true rfl) rfl ?_
  refine g_aload_n (n := 0) (i := 0) rfl rfl d_X_orderSale_0 ?_
  refine g_getfield 0 0 f_X_12 (by assumption) (by rfl) d_X_orderSale_1 ?_
  refine g_iload_n (n := 1) (i := 1) rfl rfl d_X_orderSale_4 ?_
  refine g_callV1 rfl rfl e_R_productAt l_X_449 iv_R_productAt 1 (by decide) rfl (by assumption) (by decide) (Nat.zero_le _) (Nat.zero_le _) (Nat.le_of_ble_eq_true rfl) d_X_orderSale_5 (c_R_productAt hz rx (fun a hBa fa => ?_) (fun hBa => ?_))
  · refine g_ret ?_
    refine g_astore_n (n := 3) (i := 3) rfl (by decide) rfl d_X_orderSale_8 ?_
    refine g_aload_n (n := 3) (i := 3) rfl rfl d_X_orderSale_9 ?_
    refine g_ifnull d_X_orderSale_10 ?_
    refine g_aload_n (n := 0) (i := 0) rfl rfl d_X_orderSale_13 ?_
    refine g_getfield 0 0 f_X_12 (by assumption) (by rfl) d_X_orderSale_14 ?_
    refine g_iload_n (n := 2) (i := 2) rfl rfl d_X_orderSale_17 ?_
    refine g_callV1 rfl rfl e_R_hasRoomForCards l_X_220 iv_R_hasRoomForCards 1 (by decide) rfl (by assumption) (by decide) (Nat.zero_le _) (Nat.zero_le _) (Nat.le_of_ble_eq_true rfl) d_X_orderSale_18 (c_R_hasRoomForCards hz (by omega) (fun hR => ?_) (fun hR => ?_))
    · refine g_ret ?_
      refine g_if_ne_i (tgt := 26) (by decide) d_X_orderSale_21 (by decide) (fun h21 => ?_) (fun h => absurd h (by decide))
      refine g_aload_n (n := 0) (i := 0) rfl rfl d_X_orderSale_26 ?_
      refine g_getfield 0 0 f_X_12 (by assumption) (by rfl) d_X_orderSale_27 ?_
      refine g_aload_n (n := 3) (i := 3) rfl rfl d_X_orderSale_30 ?_
      refine g_iload_n (n := 2) (i := 2) rfl rfl d_X_orderSale_31 ?_
      refine g_callV2 rfl rfl e_R_insertCards l_X_225 iv_R_insertCards 1 (by decide) rfl (by assumption) (by decide) (Nat.le_refl _) (Nat.le_refl _) (Nat.le_of_ble_eq_true rfl) d_X_orderSale_32 (c_R_insertCards9 r1 fa hBa (by omega) (by omega) (fun w im hN => ?_))
      refine g_retn ?_
      refine g_pop rfl d_X_orderSale_35 ?_
      refine g_iconst_i d_X_orderSale_36 ?_
      refine g_ireturn_1 rfl d_X_orderSale_37 ?_
      first | exact hQ1 ⟨hBa, hR⟩ _ _ (hx.sN hN) | exact hQ2 (fun h => hBa h.1) | exact hQ2 (fun h => hR h.2)
    · refine g_ret ?_
      refine g_if_ne_i (tgt := 26) (by decide) d_X_orderSale_21 (by decide) (fun h => absurd h (by decide)) (fun h21 => ?_)
      refine g_iconst_i d_X_orderSale_24 ?_
      refine g_ireturn_0 rfl d_X_orderSale_25 ?_
      first | exact hQ1 ⟨hBa, hR⟩ _ _ (hx.sN hN) | exact hQ2 (fun h => hBa h.1) | exact hQ2 (fun h => hR h.2)
  · refine g_ret ?_
    refine g_astoreN_n (n := 3) (i := 3) rfl (by decide) rfl d_X_orderSale_8 ?_
    refine g_aloadN_n (n := 3) (i := 3) rfl rfl d_X_orderSale_9 ?_
    refine g_ifnullN (tgt := 24) (by decide) d_X_orderSale_10 ?_
    refine g_iconst_i d_X_orderSale_24 ?_
    refine g_ireturn_0 rfl d_X_orderSale_25 ?_
    first | exact hQ1 ⟨hBa, hR⟩ _ _ (hx.sN hN) | exact hQ2 (fun h => hBa h.1) | exact hQ2 (fun h => hR h.2)

theorem c_X_orderBlock {E : gE} {w : gW} {im : gIm} {Q : gQ} {c : CSt} (hx : XW E w im c) {x on : Int} (rx : -2147483648 ≤ x ∧ x < 2147483648) (ro : 0 ≤ on ∧ on ≤ 1) (hQ1 : (isC (cN c) x ∧ ¬ settled (cN c) x) → ∀ w' im', XN E w im (cSetN c (zBlk (cN c) x on)) w' im' → Q (.inl (some (.int (iI 1)))) w' im') (hQ2 : ¬ (isC (cN c) x ∧ ¬ settled (cN c) x) → Q (.inl (some (.int (iI 0)))) w im) : GM E 3 y_X_orderBlock m_X_orderBlock 1 6 [.ref (gad E 0), .int (iI x), .int (iI on)] w im Q := by
  have hx9 := hx
  obtain ⟨⟨hn, x0, x1, x2, x3, x4, x5, m61, x6⟩, ⟨r1, r2, r3⟩, o1, o2, o3, o4⟩ := hx9
  have k0 : g_cell E w im (gad E 0) _ := g_mut 0 (by omega) x0
  have k1 : g_cell E w im (gad E 56) _ := g_mut 56 (by omega) x1
  have k2 : g_cell E w im (gad E 57) _ := g_mut 57 (by omega) x2
  have k3 : g_cell E w im (gad E 58) _ := g_mut 58 (by omega) x3
  have k4 : g_cell E w im (gad E 59) _ := g_mut 59 (by omega) x4
  have k5 : g_cell E w im (gad E 60) _ := g_mut 60 (by omega) x5
  have k6 : g_cell E w im (gad E 61) _ := g_mut 61 (by omega) x6
  have kn := r1.cell
  have kk := r2.cell
  have hz := r1
  have hz9 := hz
  obtain ⟨rg, rp, rc, lc, ⟨hb, h0, h1, h2, h3, h4, hlc⟩, ⟨i1, i2, i3, i4, i5, i6⟩, ok⟩ := hz9
  obtain ⟨ok1, ok2, ok3, ok4, ok5, ok6, ok7, ok8, ok9⟩ := ok
  have co : g_cell E w im (gad E 1) (resE E 1 (cN c)) := g_mut 1 (by omega) h0
  have cg : g_cell E w im (gad E (1 + 1)) (rowE 4 12 rg) := g_mut (1 + 1) (by omega) h1
  have cp : g_cell E w im (gad E (1 + 2)) (rowE 5 8 rp) := g_mut (1 + 2) (by omega) h2
  have cc : g_cell E w im (gad E (1 + 3)) (rowE 6 20 rc) := g_mut (1 + 3) (by omega) h3
  have cl : g_cell E w im (gad E (1 + 4)) (intE 372 lc) := g_mut (1 + 4) (by omega) h4
  refine g_enter (by decide) rfl rfl (fun h => by first | rfl | cases h) (Nat.le_of_ble_eq_true rfl) rfl ?_
  refine g_aload_n (n := 0) (i := 0) rfl rfl d_X_orderBlock_0 ?_
  refine g_getfield 0 0 f_X_12 (by assumption) (by rfl) d_X_orderBlock_1 ?_
  refine g_iload_n (n := 1) (i := 1) rfl rfl d_X_orderBlock_4 ?_
  refine g_callV1 rfl rfl e_R_cardAt l_X_454 iv_R_cardAt 1 (by decide) rfl (by assumption) (by decide) (Nat.zero_le _) (Nat.zero_le _) (Nat.le_of_ble_eq_true rfl) d_X_orderBlock_5 (c_R_cardAt hz (by omega) (fun a pa la hBa fa ga ea => ?_) (fun hBa => ?_))
  · refine g_ret ?_
    have ca := g_imm (E := E) (w := w) fa
    have da := g_imm (E := E) (w := w) ga
    obtain ⟨q1, q2, q3, q4, q5⟩ := ok8 x hBa
    refine g_astore_n (n := 3) (i := 3) rfl (by decide) rfl d_X_orderBlock_8 ?_
    refine g_aload_n (n := 3) (i := 3) rfl rfl d_X_orderBlock_9 ?_
    refine g_ifnull d_X_orderBlock_10 ?_
    refine g_aload_n (n := 3) (i := 3) rfl rfl d_X_orderBlock_13 ?_
    refine g_callV0 rfl rfl e_C_isSettled l_X_260 iv_C_isSettled 8 (by decide) rfl (by assumption) (by decide) (Nat.zero_le _) (Nat.zero_le _) (Nat.le_of_ble_eq_true rfl) d_X_orderBlock_14 (c_C_isSettled ca (by omega) (fun hS => ?_) (fun hS => ?_))
    · refine g_ret ?_
      refine g_if_eq_i (tgt := 22) (by decide) d_X_orderBlock_17 (by decide) (fun h => absurd h (by decide)) (fun h17 => ?_)
      refine g_iconst_i d_X_orderBlock_20 ?_
      refine g_ireturn_0 rfl d_X_orderBlock_21 ?_
      first | exact hQ1 ⟨hBa, hS⟩ _ _ (hx.sN hN) | exact hQ2 (fun h => hBa h.1) | exact hQ2 (fun h => h.2 hS)
    · refine g_ret ?_
      refine g_if_eq_i (tgt := 22) (by decide) d_X_orderBlock_17 (by decide) (fun h17 => ?_) (fun h => absurd h (by decide))
      refine g_aload_n (n := 0) (i := 0) rfl rfl d_X_orderBlock_22 ?_
      refine g_getfield 0 0 f_X_12 (by assumption) (by rfl) d_X_orderBlock_23 ?_
      refine g_aload_n (n := 3) (i := 3) rfl rfl d_X_orderBlock_26 ?_
      refine g_iload_n (n := 2) (i := 2) rfl rfl d_X_orderBlock_27 ?_
      refine g_callV2 rfl rfl e_R_setBlocked l_X_268 iv_R_setBlocked 1 (by decide) rfl (by assumption) (by decide) (by decide) (by decide) (Nat.le_of_ble_eq_true rfl) d_X_orderBlock_28 (c_R_setBlocked r1 hBa fa ga ea ro (fun w im hN => ?_))
      refine g_retvn ?_
      refine g_iconst_i d_X_orderBlock_31 ?_
      refine g_ireturn_1 rfl d_X_orderBlock_32 ?_
      first | exact hQ1 ⟨hBa, hS⟩ _ _ (hx.sN hN) | exact hQ2 (fun h => hBa h.1) | exact hQ2 (fun h => h.2 hS)
  · refine g_ret ?_
    refine g_astoreN_n (n := 3) (i := 3) rfl (by decide) rfl d_X_orderBlock_8 ?_
    refine g_aloadN_n (n := 3) (i := 3) rfl rfl d_X_orderBlock_9 ?_
    refine g_ifnullN (tgt := 20) (by decide) d_X_orderBlock_10 ?_
    refine g_iconst_i d_X_orderBlock_20 ?_
    refine g_ireturn_0 rfl d_X_orderBlock_21 ?_
    first | exact hQ1 ⟨hBa, hS⟩ _ _ (hx.sN hN) | exact hQ2 (fun h => hBa h.1) | exact hQ2 (fun h => h.2 hS)

theorem c_X_orderReplacement {E : gE} {w : gW} {im : gIm} {Q : gQ} {c : CSt} (hx : XW E w im c) {x : Int} (rx : -2147483648 ≤ x ∧ x < 2147483648) (hQ1 : (isC (cN c) x ∧ ¬ settled (cN c) x ∧ zc (cN c) + 1 ≤ 20) → ∀ w' im', XN E w im (cSetN c (zExch (cN c) x)) w' im' → Q (.inl (some (.int (iI 1)))) w' im') (hQ2 : ¬ (isC (cN c) x ∧ ¬ settled (cN c) x ∧ zc (cN c) + 1 ≤ 20) → Q (.inl (some (.int (iI 0)))) w im) : GM E 3 y_X_orderReplacement m_X_orderReplacement 2 12 [.ref (gad E 0), .int (iI x)] w im Q := by
  have hx9 := hx
  obtain ⟨⟨hn, x0, x1, x2, x3, x4, x5, m61, x6⟩, ⟨r1, r2, r3⟩, o1, o2, o3, o4⟩ := hx9
  have k0 : g_cell E w im (gad E 0) _ := g_mut 0 (by omega) x0
  have k1 : g_cell E w im (gad E 56) _ := g_mut 56 (by omega) x1
  have k2 : g_cell E w im (gad E 57) _ := g_mut 57 (by omega) x2
  have k3 : g_cell E w im (gad E 58) _ := g_mut 58 (by omega) x3
  have k4 : g_cell E w im (gad E 59) _ := g_mut 59 (by omega) x4
  have k5 : g_cell E w im (gad E 60) _ := g_mut 60 (by omega) x5
  have k6 : g_cell E w im (gad E 61) _ := g_mut 61 (by omega) x6
  have kn := r1.cell
  have kk := r2.cell
  have hz := r1
  have hz9 := hz
  obtain ⟨rg, rp, rc, lc, ⟨hb, h0, h1, h2, h3, h4, hlc⟩, ⟨i1, i2, i3, i4, i5, i6⟩, ok⟩ := hz9
  obtain ⟨ok1, ok2, ok3, ok4, ok5, ok6, ok7, ok8, ok9⟩ := ok
  have co : g_cell E w im (gad E 1) (resE E 1 (cN c)) := g_mut 1 (by omega) h0
  have cg : g_cell E w im (gad E (1 + 1)) (rowE 4 12 rg) := g_mut (1 + 1) (by omega) h1
  have cp : g_cell E w im (gad E (1 + 2)) (rowE 5 8 rp) := g_mut (1 + 2) (by omega) h2
  have cc : g_cell E w im (gad E (1 + 3)) (rowE 6 20 rc) := g_mut (1 + 3) (by omega) h3
  have cl : g_cell E w im (gad E (1 + 4)) (intE 372 lc) := g_mut (1 + 4) (by omega) h4
  refine g_enter (by decide) rfl rfl (fun h => by first | rfl | cases h) (Nat.le_of_ble_eq_true rfl) rfl ?_
  refine g_aload_n (n := 0) (i := 0) rfl rfl d_X_orderReplacement_0 ?_
  refine g_getfield 0 0 f_X_12 (by assumption) (by rfl) d_X_orderReplacement_1 ?_
  refine g_iload_n (n := 1) (i := 1) rfl rfl d_X_orderReplacement_4 ?_
  refine g_callV1 rfl rfl e_R_cardAt l_X_454 iv_R_cardAt 1 (by decide) rfl (by assumption) (by decide) (Nat.zero_le _) (Nat.zero_le _) (Nat.le_of_ble_eq_true rfl) d_X_orderReplacement_5 (c_R_cardAt hz (by omega) (fun a pa la hBa fa ga ea => ?_) (fun hBa => ?_))
  · refine g_ret ?_
    have ca := g_imm (E := E) (w := w) fa
    have da := g_imm (E := E) (w := w) ga
    obtain ⟨q1, q2, q3, q4, q5⟩ := ok8 x hBa
    refine g_astore_n (n := 2) (i := 2) rfl (by decide) rfl d_X_orderReplacement_8 ?_
    refine g_aload_n (n := 2) (i := 2) rfl rfl d_X_orderReplacement_9 ?_
    refine g_ifnull d_X_orderReplacement_10 ?_
    refine g_aload_n (n := 2) (i := 2) rfl rfl d_X_orderReplacement_13 ?_
    refine g_callV0 rfl rfl e_C_isSettled l_X_260 iv_C_isSettled 8 (by decide) rfl (by assumption) (by decide) (Nat.zero_le _) (Nat.zero_le _) (Nat.le_of_ble_eq_true rfl) d_X_orderReplacement_14 (c_C_isSettled ca (by omega) (fun hS => ?_) (fun hS => ?_))
    · refine g_ret ?_
      refine g_if_ne_i (tgt := 31) (by decide) d_X_orderReplacement_17 (by decide) (fun h17 => ?_) (fun h => absurd h (by decide))
      refine g_iconst_i d_X_orderReplacement_31 ?_
      refine g_ireturn_0 rfl d_X_orderReplacement_32 ?_
      first | exact hQ1 ⟨hBa, hS, hR⟩ _ _ (hx.sN hN) | exact hQ2 (fun h => hBa h.1) | exact hQ2 (fun h => h.2.1 hS) | exact hQ2 (fun h => hR h.2.2)
    · refine g_ret ?_
      refine g_if_ne_i (tgt := 31) (by decide) d_X_orderReplacement_17 (by decide) (fun h => absurd h (by decide)) (fun h17 => ?_)
      refine g_aload_n (n := 0) (i := 0) rfl rfl d_X_orderReplacement_20 ?_
      refine g_getfield 0 0 f_X_12 (by assumption) (by rfl) d_X_orderReplacement_21 ?_
      refine g_iconst_i d_X_orderReplacement_24 ?_
      refine g_callV1 rfl rfl e_R_hasRoomForCards l_X_220 iv_R_hasRoomForCards 1 (by decide) rfl (by assumption) (by decide) (Nat.zero_le _) (Nat.zero_le _) (Nat.le_of_ble_eq_true rfl) d_X_orderReplacement_25 (c_R_hasRoomForCards (x := 1) hz (by omega) (fun hR => ?_) (fun hR => ?_))
      · refine g_ret ?_
        refine g_if_ne_i (tgt := 33) (by decide) d_X_orderReplacement_28 (by decide) (fun h28 => ?_) (fun h => absurd h (by decide))
        refine g_aload_n (n := 0) (i := 0) rfl rfl d_X_orderReplacement_33 ?_
        refine g_getfield 0 0 f_X_12 (by assumption) (by rfl) d_X_orderReplacement_34 ?_
        refine g_aload_n (n := 2) (i := 2) rfl rfl d_X_orderReplacement_37 ?_
        refine g_callV1 rfl rfl e_R_exchange l_X_277 iv_R_exchange 1 (by decide) rfl (by assumption) (by decide) (by decide) (by decide) (Nat.le_of_ble_eq_true rfl) d_X_orderReplacement_38 (c_R_exchange r1 hBa fa ga ea (by omega) (fun w im hN => ?_))
        refine g_retn ?_
        refine g_pop rfl d_X_orderReplacement_41 ?_
        refine g_iconst_i d_X_orderReplacement_42 ?_
        refine g_ireturn_1 rfl d_X_orderReplacement_43 ?_
        first | exact hQ1 ⟨hBa, hS, hR⟩ _ _ (hx.sN hN) | exact hQ2 (fun h => hBa h.1) | exact hQ2 (fun h => h.2.1 hS) | exact hQ2 (fun h => hR h.2.2)
      · refine g_ret ?_
        refine g_if_ne_i (tgt := 33) (by decide) d_X_orderReplacement_28 (by decide) (fun h => absurd h (by decide)) (fun h28 => ?_)
        refine g_iconst_i d_X_orderReplacement_31 ?_
        refine g_ireturn_0 rfl d_X_orderReplacement_32 ?_
        first | exact hQ1 ⟨hBa, hS, hR⟩ _ _ (hx.sN hN) | exact hQ2 (fun h => hBa h.1) | exact hQ2 (fun h => h.2.1 hS) | exact hQ2 (fun h => hR h.2.2)
  · refine g_ret ?_
    refine g_astoreN_n (n := 2) (i := 2) rfl (by decide) rfl d_X_orderReplacement_8 ?_
    refine g_aloadN_n (n := 2) (i := 2) rfl rfl d_X_orderReplacement_9 ?_
    refine g_ifnullN (tgt := 31) (by decide) d_X_orderReplacement_10 ?_
    refine g_iconst_i d_X_orderReplacement_31 ?_
    refine g_ireturn_0 rfl d_X_orderReplacement_32 ?_
    first | exact hQ1 ⟨hBa, hS, hR⟩ _ _ (hx.sN hN) | exact hQ2 (fun h => hBa h.1) | exact hQ2 (fun h => h.2.1 hS) | exact hQ2 (fun h => hR h.2.2)

theorem c_X_orderClosing {E : gE} {w : gW} {im : gIm} {Q : gQ} {c : CSt} (hx : XW E w im c) {x on : Int} (rx : -2147483648 ≤ x ∧ x < 2147483648) (ro : 0 ≤ on ∧ on ≤ 1) (hQ1 : (isG (cN c) x) → ∀ w' im', XN E w im (cSetN c (zShut (cN c) (shutZ (zs (cN c)) x on))) w' im' → Q (.inl (some (.int (iI 1)))) w' im') (hQ2 : ¬ (isG (cN c) x) → Q (.inl (some (.int (iI 0)))) w im) : GM E 1 y_X_orderClosing m_X_orderClosing 0 0 [.ref (gad E 0), .int (iI x), .int (iI on)] w im Q := by
  have hx9 := hx
  obtain ⟨⟨hn, x0, x1, x2, x3, x4, x5, m61, x6⟩, ⟨r1, r2, r3⟩, o1, o2, o3, o4⟩ := hx9
  have k0 : g_cell E w im (gad E 0) _ := g_mut 0 (by omega) x0
  have k1 : g_cell E w im (gad E 56) _ := g_mut 56 (by omega) x1
  have k2 : g_cell E w im (gad E 57) _ := g_mut 57 (by omega) x2
  have k3 : g_cell E w im (gad E 58) _ := g_mut 58 (by omega) x3
  have k4 : g_cell E w im (gad E 59) _ := g_mut 59 (by omega) x4
  have k5 : g_cell E w im (gad E 60) _ := g_mut 60 (by omega) x5
  have k6 : g_cell E w im (gad E 61) _ := g_mut 61 (by omega) x6
  have kn := r1.cell
  have kk := r2.cell
  have hz := r1
  have hz9 := hz
  obtain ⟨rg, rp, rc, lc, ⟨hb, h0, h1, h2, h3, h4, hlc⟩, ⟨i1, i2, i3, i4, i5, i6⟩, ok⟩ := hz9
  obtain ⟨ok1, ok2, ok3, ok4, ok5, ok6, ok7, ok8, ok9⟩ := ok
  have co : g_cell E w im (gad E 1) (resE E 1 (cN c)) := g_mut 1 (by omega) h0
  have cg : g_cell E w im (gad E (1 + 1)) (rowE 4 12 rg) := g_mut (1 + 1) (by omega) h1
  have cp : g_cell E w im (gad E (1 + 2)) (rowE 5 8 rp) := g_mut (1 + 2) (by omega) h2
  have cc : g_cell E w im (gad E (1 + 3)) (rowE 6 20 rc) := g_mut (1 + 3) (by omega) h3
  have cl : g_cell E w im (gad E (1 + 4)) (intE 372 lc) := g_mut (1 + 4) (by omega) h4
  refine g_enter (by decide) rfl rfl (fun h => by first | rfl | cases h) (Nat.le_of_ble_eq_true rfl) rfl ?_
  refine g_aload_n (n := 0) (i := 0) rfl rfl d_X_orderClosing_0 ?_
  refine g_getfield 0 0 f_X_12 (by assumption) (by rfl) d_X_orderClosing_1 ?_
  refine g_iload_n (n := 1) (i := 1) rfl rfl d_X_orderClosing_4 ?_
  refine g_callV1 rfl rfl e_R_gateAt l_X_441 iv_R_gateAt 1 (by decide) rfl (by assumption) (by decide) (Nat.zero_le _) (Nat.zero_le _) (Nat.le_of_ble_eq_true rfl) d_X_orderClosing_5 (c_R_gateAt hz rx (fun a hBa fa => ?_) (fun hBa => ?_))
  · refine g_ret ?_
    have va := ok6 x hBa
    refine g_astore_n (n := 3) (i := 3) rfl (by decide) rfl d_X_orderClosing_8 ?_
    refine g_aload_n (n := 3) (i := 3) rfl rfl d_X_orderClosing_9 ?_
    refine g_ifnonnull (tgt := 15) (by decide) d_X_orderClosing_10 ?_
    refine g_aload_n (n := 0) (i := 0) rfl rfl d_X_orderClosing_15 ?_
    refine g_getfield 0 0 f_X_12 (by assumption) (by rfl) d_X_orderClosing_16 ?_
    refine g_aload_n (n := 3) (i := 3) rfl rfl d_X_orderClosing_19 ?_
    refine g_iload_n (n := 2) (i := 2) rfl rfl d_X_orderClosing_20 ?_
    refine g_callV2 rfl rfl e_R_shut l_X_207 iv_R_shut 1 (by decide) rfl (by assumption) (by decide) (Nat.zero_le _) (Nat.zero_le _) (Nat.le_of_ble_eq_true rfl) d_X_orderClosing_21 (c_R_shut r1 fa (by omega) ro (fun w im hN => ?_))
    refine g_retv ?_
    refine g_iconst_i d_X_orderClosing_24 ?_
    refine g_ireturn_1 rfl d_X_orderClosing_25 ?_
    first | exact hQ1 hBa _ _ (hx.sN hN) | exact hQ2 hBa
  · refine g_ret ?_
    refine g_astoreN_n (n := 3) (i := 3) rfl (by decide) rfl d_X_orderClosing_8 ?_
    refine g_aloadN_n (n := 3) (i := 3) rfl rfl d_X_orderClosing_9 ?_
    refine g_ifnonnullN d_X_orderClosing_10 ?_
    refine g_iconst_i d_X_orderClosing_13 ?_
    refine g_ireturn_0 rfl d_X_orderClosing_14 ?_
    first | exact hQ1 hBa _ _ (hx.sN hN) | exact hQ2 hBa

theorem c_X_orderWait {E : gE} {w : gW} {im : gIm} {Q : gQ} {c : CSt} (hx : XW E w im c) {x : Int} (rx : 0 ≤ x ∧ x ≤ 100000) (hQ1 : (x ≤ 2880 ∧ zk (cN c) + x ≤ 43200) → ∀ w' im', XN E w im (cSetN c (zTime (cN c) (zk (cN c) + x) (goL (cN c) x))) w' im' → Q (.inl (some (.int (iI 1)))) w' im') (hQ2 : ¬ (x ≤ 2880 ∧ zk (cN c) + x ≤ 43200) → Q (.inl (some (.int (iI 0)))) w im) : GM E 3 y_X_orderWait m_X_orderWait 0 0 [.ref (gad E 0), .int (iI x)] w im Q := by
  have hx9 := hx
  obtain ⟨⟨hn, x0, x1, x2, x3, x4, x5, m61, x6⟩, ⟨r1, r2, r3⟩, o1, o2, o3, o4⟩ := hx9
  have k0 : g_cell E w im (gad E 0) _ := g_mut 0 (by omega) x0
  have k1 : g_cell E w im (gad E 56) _ := g_mut 56 (by omega) x1
  have k2 : g_cell E w im (gad E 57) _ := g_mut 57 (by omega) x2
  have k3 : g_cell E w im (gad E 58) _ := g_mut 58 (by omega) x3
  have k4 : g_cell E w im (gad E 59) _ := g_mut 59 (by omega) x4
  have k5 : g_cell E w im (gad E 60) _ := g_mut 60 (by omega) x5
  have k6 : g_cell E w im (gad E 61) _ := g_mut 61 (by omega) x6
  have kn := r1.cell
  have kk := r2.cell
  have hz := r1
  have hz9 := hz
  obtain ⟨rg, rp, rc, lc, ⟨hb, h0, h1, h2, h3, h4, hlc⟩, ⟨i1, i2, i3, i4, i5, i6⟩, ok⟩ := hz9
  obtain ⟨ok1, ok2, ok3, ok4, ok5, ok6, ok7, ok8, ok9⟩ := ok
  have co : g_cell E w im (gad E 1) (resE E 1 (cN c)) := g_mut 1 (by omega) h0
  have cg : g_cell E w im (gad E (1 + 1)) (rowE 4 12 rg) := g_mut (1 + 1) (by omega) h1
  have cp : g_cell E w im (gad E (1 + 2)) (rowE 5 8 rp) := g_mut (1 + 2) (by omega) h2
  have cc : g_cell E w im (gad E (1 + 3)) (rowE 6 20 rc) := g_mut (1 + 3) (by omega) h3
  have cl : g_cell E w im (gad E (1 + 4)) (intE 372 lc) := g_mut (1 + 4) (by omega) h4
  refine g_enter (by decide) rfl rfl (fun h => by first | rfl | cases h) (Nat.le_of_ble_eq_true rfl) rfl ?_
  refine g_iload_n (n := 1) (i := 1) rfl rfl d_X_orderWait_0 ?_
  refine g_sipush_i (by decide) d_X_orderWait_1 ?_
  refine g_icmp_gt_i (tgt := 21) (by omega) (by decide) d_X_orderWait_4 (by decide) (fun h4 => ?_) (fun h4 => ?_)
  · refine g_iconst_i d_X_orderWait_21 ?_
    refine g_ireturn_0 rfl d_X_orderWait_22 ?_
    first | exact hQ1 ⟨by omega, by omega⟩ _ _ (hx.sN hN) | exact hQ2 (fun h => by omega)
  · refine g_aload_n (n := 0) (i := 0) rfl rfl d_X_orderWait_7 ?_
    refine g_getfield 0 0 f_X_12 (by assumption) (by rfl) d_X_orderWait_8 ?_
    refine g_getfield 1 8 f_X_180 (by assumption) (by rfl) d_X_orderWait_11 ?_
    refine g_iload_n (n := 1) (i := 1) rfl rfl d_X_orderWait_14 ?_
    refine g_iadd_i d_X_orderWait_15 ?_
    refine g_ldc_i (z := 43200) k_X_183 (by decide) d_X_orderWait_16 ?_
    refine g_icmp_le_i (tgt := 23) (by omega) (by decide) d_X_orderWait_18 (by decide) (fun h18 => ?_) (fun h18 => ?_)
    · refine g_aload_n (n := 0) (i := 0) rfl rfl d_X_orderWait_23 ?_
      refine g_getfield 0 0 f_X_12 (by assumption) (by rfl) d_X_orderWait_24 ?_
      refine g_iload_n (n := 1) (i := 1) rfl rfl d_X_orderWait_27 ?_
      refine g_callV1 rfl rfl e_R_goOn l_X_186 iv_R_goOn 1 (by decide) rfl (by assumption) (by decide) (Nat.zero_le _) (Nat.zero_le _) (Nat.le_of_ble_eq_true rfl) d_X_orderWait_28 (c_R_goOn r1 (by omega) (fun w im hN => ?_))
      refine g_retv ?_
      refine g_iconst_i d_X_orderWait_31 ?_
      refine g_ireturn_1 rfl d_X_orderWait_32 ?_
      first | exact hQ1 ⟨by omega, by omega⟩ _ _ (hx.sN hN) | exact hQ2 (fun h => by omega)
    · refine g_iconst_i d_X_orderWait_21 ?_
      refine g_ireturn_0 rfl d_X_orderWait_22 ?_
      first | exact hQ1 ⟨by omega, by omega⟩ _ _ (hx.sN hN) | exact hQ2 (fun h => by omega)

theorem c_X_carriesOut {E : gE} {w : gW} {im : gIm} {Q : gQ} {c : CSt} (hx : XW E w im c) {l n : Int} (rl : 0 ≤ l ∧ l ≤ 255) (rn : 0 ≤ n ∧ n ≤ 99999) (rt9 : tt (cT c) ≤ 9) (hQ1 : ∀ R2 w' im', ordZ (cN c) l n (tt (cT c)) = (true, R2) → XN E w im (cSetN c R2) w' im' → Q (.inl (some (.int (iI 1)))) w' im') (hQ2 : ordZ (cN c) l n (tt (cT c)) = (false, cN c) → Q (.inl (some (.int (iI 0)))) w im) : GM E 4 y_X_carriesOut m_X_carriesOut 9 54 [.ref (gad E 0), .int (iI l), .int (iI n)] w im Q := by
  have hx9 := hx
  obtain ⟨⟨hn, x0, x1, x2, x3, x4, x5, m61, x6⟩, ⟨r1, r2, r3⟩, o1, o2, o3, o4⟩ := hx9
  have k0 : g_cell E w im (gad E 0) _ := g_mut 0 (by omega) x0
  have k1 : g_cell E w im (gad E 56) _ := g_mut 56 (by omega) x1
  have k2 : g_cell E w im (gad E 57) _ := g_mut 57 (by omega) x2
  have k3 : g_cell E w im (gad E 58) _ := g_mut 58 (by omega) x3
  have k4 : g_cell E w im (gad E 59) _ := g_mut 59 (by omega) x4
  have k5 : g_cell E w im (gad E 60) _ := g_mut 60 (by omega) x5
  have k6 : g_cell E w im (gad E 61) _ := g_mut 61 (by omega) x6
  have kn := r1.cell
  have kk := r2.cell
  have hz := r1
  have hz9 := hz
  obtain ⟨rg, rp, rc, lc, ⟨hb, h0, h1, h2, h3, h4, hlc⟩, ⟨i1, i2, i3, i4, i5, i6⟩, ok⟩ := hz9
  obtain ⟨ok1, ok2, ok3, ok4, ok5, ok6, ok7, ok8, ok9⟩ := ok
  have co : g_cell E w im (gad E 1) (resE E 1 (cN c)) := g_mut 1 (by omega) h0
  have cg : g_cell E w im (gad E (1 + 1)) (rowE 4 12 rg) := g_mut (1 + 1) (by omega) h1
  have cp : g_cell E w im (gad E (1 + 2)) (rowE 5 8 rp) := g_mut (1 + 2) (by omega) h2
  have cc : g_cell E w im (gad E (1 + 3)) (rowE 6 20 rc) := g_mut (1 + 3) (by omega) h3
  have cl : g_cell E w im (gad E (1 + 4)) (intE 372 lc) := g_mut (1 + 4) (by omega) h4
  have htt := o4.2.2.2.2.2.1
  refine g_enter (by decide) rfl rfl (fun h => by first | rfl | cases h) (Nat.le_of_ble_eq_true rfl) rfl ?_
  refine g_iload_n (n := 1) (i := 1) rfl rfl d_X_carriesOut_0 ?_
  have hsw1 : l = 98 ∨ l = 99 ∨ l = 100 ∨ l = 101 ∨ l = 102 ∨ l = 103 ∨ l = 104 ∨ l = 105 ∨ l = 106 ∨ l = 107 ∨ l = 108 ∨ l = 109 ∨ l = 110 ∨ l = 111 ∨ l = 112 ∨ l = 113 ∨ l = 114 ∨ l = 115 ∨ l = 116 ∨ l = 117 ∨ l = 118 ∨ l = 119 ∨ (l < 98 ∨ 119 < l) := by omega
  rcases hsw1 with rfl | rfl | rfl | rfl | rfl | rfl | rfl | rfl | rfl | rfl | rfl | rfl | rfl | rfl | rfl | rfl | rfl | rfl | rfl | rfl | rfl | rfl | hsw1
  · refine g_tableIn (off := 116) (tgt := 117) d_X_carriesOut_1 (by decide) (by decide) (by decide) (by decide) ?_
    refine g_aload_n (n := 0) (i := 0) rfl rfl d_X_carriesOut_117 ?_
    refine g_iload_n (n := 2) (i := 2) rfl rfl d_X_carriesOut_118 ?_
    refine g_iconst_i d_X_carriesOut_119 ?_
    refine g_callV2 rfl rfl e_X_orderBlock l_X_496 iv_X_orderBlock 0 (by decide) rfl (by assumption) (by decide) (by decide) (by decide) (Nat.le_of_ble_eq_true rfl) d_X_carriesOut_120 (c_X_orderBlock hx (by omega) (by omega) (fun hB w im hN => ?_) (fun hB => ?_))
    · refine g_retn ?_
      refine g_ireturn_1 rfl d_X_carriesOut_123 ?_
      first | (refine hQ1 _ _ _ ?_ hN; unfold ordZ; first | (rw [if_pos rfl, if_pos hB]; done) | (rw [if_neg (by decide), if_pos rfl, if_pos hB]; done) | (rw [if_neg (by decide), if_neg (by decide), if_pos rfl, if_pos hB]; done) | (rw [if_neg (by decide), if_neg (by decide), if_neg (by decide), if_pos rfl, if_pos hB]; done) | (rw [if_neg (by decide), if_neg (by decide), if_neg (by decide), if_neg (by decide), if_pos rfl, if_pos hB]; done) | (rw [if_neg (by decide), if_neg (by decide), if_neg (by decide), if_neg (by decide), if_neg (by decide), if_pos rfl, if_pos hB]; done) | (rw [if_neg (by decide), if_neg (by decide), if_neg (by decide), if_neg (by decide), if_neg (by decide), if_neg (by decide), if_pos rfl, if_pos hB]; done)) | (refine hQ2 ?_; unfold ordZ; first | (rw [if_pos rfl, if_neg hB]; done) | (rw [if_neg (by decide), if_pos rfl, if_neg hB]; done) | (rw [if_neg (by decide), if_neg (by decide), if_pos rfl, if_neg hB]; done) | (rw [if_neg (by decide), if_neg (by decide), if_neg (by decide), if_pos rfl, if_neg hB]; done) | (rw [if_neg (by decide), if_neg (by decide), if_neg (by decide), if_neg (by decide), if_pos rfl, if_neg hB]; done) | (rw [if_neg (by decide), if_neg (by decide), if_neg (by decide), if_neg (by decide), if_neg (by decide), if_pos rfl, if_neg hB]; done) | (rw [if_neg (by decide), if_neg (by decide), if_neg (by decide), if_neg (by decide), if_neg (by decide), if_neg (by decide), if_pos rfl, if_neg hB]; done) | (rw [if_neg (by first | decide | omega), if_neg (by first | decide | omega), if_neg (by first | decide | omega), if_neg (by first | decide | omega), if_neg (by first | decide | omega), if_neg (by first | decide | omega), if_neg (by first | decide | omega)]; done))
    · refine g_retn ?_
      refine g_ireturn_0 rfl d_X_carriesOut_123 ?_
      first | (refine hQ1 _ _ _ ?_ hN; unfold ordZ; first | (rw [if_pos rfl, if_pos hB]; done) | (rw [if_neg (by decide), if_pos rfl, if_pos hB]; done) | (rw [if_neg (by decide), if_neg (by decide), if_pos rfl, if_pos hB]; done) | (rw [if_neg (by decide), if_neg (by decide), if_neg (by decide), if_pos rfl, if_pos hB]; done) | (rw [if_neg (by decide), if_neg (by decide), if_neg (by decide), if_neg (by decide), if_pos rfl, if_pos hB]; done) | (rw [if_neg (by decide), if_neg (by decide), if_neg (by decide), if_neg (by decide), if_neg (by decide), if_pos rfl, if_pos hB]; done) | (rw [if_neg (by decide), if_neg (by decide), if_neg (by decide), if_neg (by decide), if_neg (by decide), if_neg (by decide), if_pos rfl, if_pos hB]; done)) | (refine hQ2 ?_; unfold ordZ; first | (rw [if_pos rfl, if_neg hB]; done) | (rw [if_neg (by decide), if_pos rfl, if_neg hB]; done) | (rw [if_neg (by decide), if_neg (by decide), if_pos rfl, if_neg hB]; done) | (rw [if_neg (by decide), if_neg (by decide), if_neg (by decide), if_pos rfl, if_neg hB]; done) | (rw [if_neg (by decide), if_neg (by decide), if_neg (by decide), if_neg (by decide), if_pos rfl, if_neg hB]; done) | (rw [if_neg (by decide), if_neg (by decide), if_neg (by decide), if_neg (by decide), if_neg (by decide), if_pos rfl, if_neg hB]; done) | (rw [if_neg (by decide), if_neg (by decide), if_neg (by decide), if_neg (by decide), if_neg (by decide), if_neg (by decide), if_pos rfl, if_neg hB]; done) | (rw [if_neg (by first | decide | omega), if_neg (by first | decide | omega), if_neg (by first | decide | omega), if_neg (by first | decide | omega), if_neg (by first | decide | omega), if_neg (by first | decide | omega), if_neg (by first | decide | omega)]; done))
  · refine g_tableIn (off := 136) (tgt := 137) d_X_carriesOut_1 (by decide) (by decide) (by decide) (by decide) ?_
    refine g_aload_n (n := 0) (i := 0) rfl rfl d_X_carriesOut_137 ?_
    refine g_iload_n (n := 2) (i := 2) rfl rfl d_X_carriesOut_138 ?_
    refine g_iconst_i d_X_carriesOut_139 ?_
    refine g_callV2 rfl rfl e_X_orderClosing l_X_503 iv_X_orderClosing 0 (by decide) rfl (by assumption) (by decide) (Nat.zero_le _) (Nat.zero_le _) (Nat.le_of_ble_eq_true rfl) d_X_carriesOut_140 (c_X_orderClosing hx (by omega) (by omega) (fun hB w im hN => ?_) (fun hB => ?_))
    · refine g_ret ?_
      refine g_ireturn_1 rfl d_X_carriesOut_143 ?_
      first | (refine hQ1 _ _ _ ?_ hN; unfold ordZ; first | (rw [if_pos rfl, if_pos hB]; done) | (rw [if_neg (by decide), if_pos rfl, if_pos hB]; done) | (rw [if_neg (by decide), if_neg (by decide), if_pos rfl, if_pos hB]; done) | (rw [if_neg (by decide), if_neg (by decide), if_neg (by decide), if_pos rfl, if_pos hB]; done) | (rw [if_neg (by decide), if_neg (by decide), if_neg (by decide), if_neg (by decide), if_pos rfl, if_pos hB]; done) | (rw [if_neg (by decide), if_neg (by decide), if_neg (by decide), if_neg (by decide), if_neg (by decide), if_pos rfl, if_pos hB]; done) | (rw [if_neg (by decide), if_neg (by decide), if_neg (by decide), if_neg (by decide), if_neg (by decide), if_neg (by decide), if_pos rfl, if_pos hB]; done)) | (refine hQ2 ?_; unfold ordZ; first | (rw [if_pos rfl, if_neg hB]; done) | (rw [if_neg (by decide), if_pos rfl, if_neg hB]; done) | (rw [if_neg (by decide), if_neg (by decide), if_pos rfl, if_neg hB]; done) | (rw [if_neg (by decide), if_neg (by decide), if_neg (by decide), if_pos rfl, if_neg hB]; done) | (rw [if_neg (by decide), if_neg (by decide), if_neg (by decide), if_neg (by decide), if_pos rfl, if_neg hB]; done) | (rw [if_neg (by decide), if_neg (by decide), if_neg (by decide), if_neg (by decide), if_neg (by decide), if_pos rfl, if_neg hB]; done) | (rw [if_neg (by decide), if_neg (by decide), if_neg (by decide), if_neg (by decide), if_neg (by decide), if_neg (by decide), if_pos rfl, if_neg hB]; done) | (rw [if_neg (by first | decide | omega), if_neg (by first | decide | omega), if_neg (by first | decide | omega), if_neg (by first | decide | omega), if_neg (by first | decide | omega), if_neg (by first | decide | omega), if_neg (by first | decide | omega)]; done))
    · refine g_ret ?_
      refine g_ireturn_0 rfl d_X_carriesOut_143 ?_
      first | (refine hQ1 _ _ _ ?_ hN; unfold ordZ; first | (rw [if_pos rfl, if_pos hB]; done) | (rw [if_neg (by decide), if_pos rfl, if_pos hB]; done) | (rw [if_neg (by decide), if_neg (by decide), if_pos rfl, if_pos hB]; done) | (rw [if_neg (by decide), if_neg (by decide), if_neg (by decide), if_pos rfl, if_pos hB]; done) | (rw [if_neg (by decide), if_neg (by decide), if_neg (by decide), if_neg (by decide), if_pos rfl, if_pos hB]; done) | (rw [if_neg (by decide), if_neg (by decide), if_neg (by decide), if_neg (by decide), if_neg (by decide), if_pos rfl, if_pos hB]; done) | (rw [if_neg (by decide), if_neg (by decide), if_neg (by decide), if_neg (by decide), if_neg (by decide), if_neg (by decide), if_pos rfl, if_pos hB]; done)) | (refine hQ2 ?_; unfold ordZ; first | (rw [if_pos rfl, if_neg hB]; done) | (rw [if_neg (by decide), if_pos rfl, if_neg hB]; done) | (rw [if_neg (by decide), if_neg (by decide), if_pos rfl, if_neg hB]; done) | (rw [if_neg (by decide), if_neg (by decide), if_neg (by decide), if_pos rfl, if_neg hB]; done) | (rw [if_neg (by decide), if_neg (by decide), if_neg (by decide), if_neg (by decide), if_pos rfl, if_neg hB]; done) | (rw [if_neg (by decide), if_neg (by decide), if_neg (by decide), if_neg (by decide), if_neg (by decide), if_pos rfl, if_neg hB]; done) | (rw [if_neg (by decide), if_neg (by decide), if_neg (by decide), if_neg (by decide), if_neg (by decide), if_neg (by decide), if_pos rfl, if_neg hB]; done) | (rw [if_neg (by first | decide | omega), if_neg (by first | decide | omega), if_neg (by first | decide | omega), if_neg (by first | decide | omega), if_neg (by first | decide | omega), if_neg (by first | decide | omega), if_neg (by first | decide | omega)]; done))
  · refine g_tableIn (off := 156) (tgt := 157) d_X_carriesOut_1 (by decide) (by decide) (by decide) (by decide) ?_
    refine g_iconst_i d_X_carriesOut_157 ?_
    refine g_ireturn_0 rfl d_X_carriesOut_158 ?_
    first | (refine hQ1 _ _ _ ?_ hN; unfold ordZ; first | (rw [if_pos rfl, if_pos hB]; done) | (rw [if_neg (by decide), if_pos rfl, if_pos hB]; done) | (rw [if_neg (by decide), if_neg (by decide), if_pos rfl, if_pos hB]; done) | (rw [if_neg (by decide), if_neg (by decide), if_neg (by decide), if_pos rfl, if_pos hB]; done) | (rw [if_neg (by decide), if_neg (by decide), if_neg (by decide), if_neg (by decide), if_pos rfl, if_pos hB]; done) | (rw [if_neg (by decide), if_neg (by decide), if_neg (by decide), if_neg (by decide), if_neg (by decide), if_pos rfl, if_pos hB]; done) | (rw [if_neg (by decide), if_neg (by decide), if_neg (by decide), if_neg (by decide), if_neg (by decide), if_neg (by decide), if_pos rfl, if_pos hB]; done)) | (refine hQ2 ?_; unfold ordZ; first | (rw [if_pos rfl, if_neg hB]; done) | (rw [if_neg (by decide), if_pos rfl, if_neg hB]; done) | (rw [if_neg (by decide), if_neg (by decide), if_pos rfl, if_neg hB]; done) | (rw [if_neg (by decide), if_neg (by decide), if_neg (by decide), if_pos rfl, if_neg hB]; done) | (rw [if_neg (by decide), if_neg (by decide), if_neg (by decide), if_neg (by decide), if_pos rfl, if_neg hB]; done) | (rw [if_neg (by decide), if_neg (by decide), if_neg (by decide), if_neg (by decide), if_neg (by decide), if_pos rfl, if_neg hB]; done) | (rw [if_neg (by decide), if_neg (by decide), if_neg (by decide), if_neg (by decide), if_neg (by decide), if_neg (by decide), if_pos rfl, if_neg hB]; done) | (rw [if_neg (by first | decide | omega), if_neg (by first | decide | omega), if_neg (by first | decide | omega), if_neg (by first | decide | omega), if_neg (by first | decide | omega), if_neg (by first | decide | omega), if_neg (by first | decide | omega)]; done))
  · refine g_tableIn (off := 156) (tgt := 157) d_X_carriesOut_1 (by decide) (by decide) (by decide) (by decide) ?_
    refine g_iconst_i d_X_carriesOut_157 ?_
    refine g_ireturn_0 rfl d_X_carriesOut_158 ?_
    first | (refine hQ1 _ _ _ ?_ hN; unfold ordZ; first | (rw [if_pos rfl, if_pos hB]; done) | (rw [if_neg (by decide), if_pos rfl, if_pos hB]; done) | (rw [if_neg (by decide), if_neg (by decide), if_pos rfl, if_pos hB]; done) | (rw [if_neg (by decide), if_neg (by decide), if_neg (by decide), if_pos rfl, if_pos hB]; done) | (rw [if_neg (by decide), if_neg (by decide), if_neg (by decide), if_neg (by decide), if_pos rfl, if_pos hB]; done) | (rw [if_neg (by decide), if_neg (by decide), if_neg (by decide), if_neg (by decide), if_neg (by decide), if_pos rfl, if_pos hB]; done) | (rw [if_neg (by decide), if_neg (by decide), if_neg (by decide), if_neg (by decide), if_neg (by decide), if_neg (by decide), if_pos rfl, if_pos hB]; done)) | (refine hQ2 ?_; unfold ordZ; first | (rw [if_pos rfl, if_neg hB]; done) | (rw [if_neg (by decide), if_pos rfl, if_neg hB]; done) | (rw [if_neg (by decide), if_neg (by decide), if_pos rfl, if_neg hB]; done) | (rw [if_neg (by decide), if_neg (by decide), if_neg (by decide), if_pos rfl, if_neg hB]; done) | (rw [if_neg (by decide), if_neg (by decide), if_neg (by decide), if_neg (by decide), if_pos rfl, if_neg hB]; done) | (rw [if_neg (by decide), if_neg (by decide), if_neg (by decide), if_neg (by decide), if_neg (by decide), if_pos rfl, if_neg hB]; done) | (rw [if_neg (by decide), if_neg (by decide), if_neg (by decide), if_neg (by decide), if_neg (by decide), if_neg (by decide), if_pos rfl, if_neg hB]; done) | (rw [if_neg (by first | decide | omega), if_neg (by first | decide | omega), if_neg (by first | decide | omega), if_neg (by first | decide | omega), if_neg (by first | decide | omega), if_neg (by first | decide | omega), if_neg (by first | decide | omega)]; done))
  · refine g_tableIn (off := 156) (tgt := 157) d_X_carriesOut_1 (by decide) (by decide) (by decide) (by decide) ?_
    refine g_iconst_i d_X_carriesOut_157 ?_
    refine g_ireturn_0 rfl d_X_carriesOut_158 ?_
    first | (refine hQ1 _ _ _ ?_ hN; unfold ordZ; first | (rw [if_pos rfl, if_pos hB]; done) | (rw [if_neg (by decide), if_pos rfl, if_pos hB]; done) | (rw [if_neg (by decide), if_neg (by decide), if_pos rfl, if_pos hB]; done) | (rw [if_neg (by decide), if_neg (by decide), if_neg (by decide), if_pos rfl, if_pos hB]; done) | (rw [if_neg (by decide), if_neg (by decide), if_neg (by decide), if_neg (by decide), if_pos rfl, if_pos hB]; done) | (rw [if_neg (by decide), if_neg (by decide), if_neg (by decide), if_neg (by decide), if_neg (by decide), if_pos rfl, if_pos hB]; done) | (rw [if_neg (by decide), if_neg (by decide), if_neg (by decide), if_neg (by decide), if_neg (by decide), if_neg (by decide), if_pos rfl, if_pos hB]; done)) | (refine hQ2 ?_; unfold ordZ; first | (rw [if_pos rfl, if_neg hB]; done) | (rw [if_neg (by decide), if_pos rfl, if_neg hB]; done) | (rw [if_neg (by decide), if_neg (by decide), if_pos rfl, if_neg hB]; done) | (rw [if_neg (by decide), if_neg (by decide), if_neg (by decide), if_pos rfl, if_neg hB]; done) | (rw [if_neg (by decide), if_neg (by decide), if_neg (by decide), if_neg (by decide), if_pos rfl, if_neg hB]; done) | (rw [if_neg (by decide), if_neg (by decide), if_neg (by decide), if_neg (by decide), if_neg (by decide), if_pos rfl, if_neg hB]; done) | (rw [if_neg (by decide), if_neg (by decide), if_neg (by decide), if_neg (by decide), if_neg (by decide), if_neg (by decide), if_pos rfl, if_neg hB]; done) | (rw [if_neg (by first | decide | omega), if_neg (by first | decide | omega), if_neg (by first | decide | omega), if_neg (by first | decide | omega), if_neg (by first | decide | omega), if_neg (by first | decide | omega), if_neg (by first | decide | omega)]; done))
  · refine g_tableIn (off := 156) (tgt := 157) d_X_carriesOut_1 (by decide) (by decide) (by decide) (by decide) ?_
    refine g_iconst_i d_X_carriesOut_157 ?_
    refine g_ireturn_0 rfl d_X_carriesOut_158 ?_
    first | (refine hQ1 _ _ _ ?_ hN; unfold ordZ; first | (rw [if_pos rfl, if_pos hB]; done) | (rw [if_neg (by decide), if_pos rfl, if_pos hB]; done) | (rw [if_neg (by decide), if_neg (by decide), if_pos rfl, if_pos hB]; done) | (rw [if_neg (by decide), if_neg (by decide), if_neg (by decide), if_pos rfl, if_pos hB]; done) | (rw [if_neg (by decide), if_neg (by decide), if_neg (by decide), if_neg (by decide), if_pos rfl, if_pos hB]; done) | (rw [if_neg (by decide), if_neg (by decide), if_neg (by decide), if_neg (by decide), if_neg (by decide), if_pos rfl, if_pos hB]; done) | (rw [if_neg (by decide), if_neg (by decide), if_neg (by decide), if_neg (by decide), if_neg (by decide), if_neg (by decide), if_pos rfl, if_pos hB]; done)) | (refine hQ2 ?_; unfold ordZ; first | (rw [if_pos rfl, if_neg hB]; done) | (rw [if_neg (by decide), if_pos rfl, if_neg hB]; done) | (rw [if_neg (by decide), if_neg (by decide), if_pos rfl, if_neg hB]; done) | (rw [if_neg (by decide), if_neg (by decide), if_neg (by decide), if_pos rfl, if_neg hB]; done) | (rw [if_neg (by decide), if_neg (by decide), if_neg (by decide), if_neg (by decide), if_pos rfl, if_neg hB]; done) | (rw [if_neg (by decide), if_neg (by decide), if_neg (by decide), if_neg (by decide), if_neg (by decide), if_pos rfl, if_neg hB]; done) | (rw [if_neg (by decide), if_neg (by decide), if_neg (by decide), if_neg (by decide), if_neg (by decide), if_neg (by decide), if_pos rfl, if_neg hB]; done) | (rw [if_neg (by first | decide | omega), if_neg (by first | decide | omega), if_neg (by first | decide | omega), if_neg (by first | decide | omega), if_neg (by first | decide | omega), if_neg (by first | decide | omega), if_neg (by first | decide | omega)]; done))
  · refine g_tableIn (off := 156) (tgt := 157) d_X_carriesOut_1 (by decide) (by decide) (by decide) (by decide) ?_
    refine g_iconst_i d_X_carriesOut_157 ?_
    refine g_ireturn_0 rfl d_X_carriesOut_158 ?_
    first | (refine hQ1 _ _ _ ?_ hN; unfold ordZ; first | (rw [if_pos rfl, if_pos hB]; done) | (rw [if_neg (by decide), if_pos rfl, if_pos hB]; done) | (rw [if_neg (by decide), if_neg (by decide), if_pos rfl, if_pos hB]; done) | (rw [if_neg (by decide), if_neg (by decide), if_neg (by decide), if_pos rfl, if_pos hB]; done) | (rw [if_neg (by decide), if_neg (by decide), if_neg (by decide), if_neg (by decide), if_pos rfl, if_pos hB]; done) | (rw [if_neg (by decide), if_neg (by decide), if_neg (by decide), if_neg (by decide), if_neg (by decide), if_pos rfl, if_pos hB]; done) | (rw [if_neg (by decide), if_neg (by decide), if_neg (by decide), if_neg (by decide), if_neg (by decide), if_neg (by decide), if_pos rfl, if_pos hB]; done)) | (refine hQ2 ?_; unfold ordZ; first | (rw [if_pos rfl, if_neg hB]; done) | (rw [if_neg (by decide), if_pos rfl, if_neg hB]; done) | (rw [if_neg (by decide), if_neg (by decide), if_pos rfl, if_neg hB]; done) | (rw [if_neg (by decide), if_neg (by decide), if_neg (by decide), if_pos rfl, if_neg hB]; done) | (rw [if_neg (by decide), if_neg (by decide), if_neg (by decide), if_neg (by decide), if_pos rfl, if_neg hB]; done) | (rw [if_neg (by decide), if_neg (by decide), if_neg (by decide), if_neg (by decide), if_neg (by decide), if_pos rfl, if_neg hB]; done) | (rw [if_neg (by decide), if_neg (by decide), if_neg (by decide), if_neg (by decide), if_neg (by decide), if_neg (by decide), if_pos rfl, if_neg hB]; done) | (rw [if_neg (by first | decide | omega), if_neg (by first | decide | omega), if_neg (by first | decide | omega), if_neg (by first | decide | omega), if_neg (by first | decide | omega), if_neg (by first | decide | omega), if_neg (by first | decide | omega)]; done))
  · refine g_tableIn (off := 156) (tgt := 157) d_X_carriesOut_1 (by decide) (by decide) (by decide) (by decide) ?_
    refine g_iconst_i d_X_carriesOut_157 ?_
    refine g_ireturn_0 rfl d_X_carriesOut_158 ?_
    first | (refine hQ1 _ _ _ ?_ hN; unfold ordZ; first | (rw [if_pos rfl, if_pos hB]; done) | (rw [if_neg (by decide), if_pos rfl, if_pos hB]; done) | (rw [if_neg (by decide), if_neg (by decide), if_pos rfl, if_pos hB]; done) | (rw [if_neg (by decide), if_neg (by decide), if_neg (by decide), if_pos rfl, if_pos hB]; done) | (rw [if_neg (by decide), if_neg (by decide), if_neg (by decide), if_neg (by decide), if_pos rfl, if_pos hB]; done) | (rw [if_neg (by decide), if_neg (by decide), if_neg (by decide), if_neg (by decide), if_neg (by decide), if_pos rfl, if_pos hB]; done) | (rw [if_neg (by decide), if_neg (by decide), if_neg (by decide), if_neg (by decide), if_neg (by decide), if_neg (by decide), if_pos rfl, if_pos hB]; done)) | (refine hQ2 ?_; unfold ordZ; first | (rw [if_pos rfl, if_neg hB]; done) | (rw [if_neg (by decide), if_pos rfl, if_neg hB]; done) | (rw [if_neg (by decide), if_neg (by decide), if_pos rfl, if_neg hB]; done) | (rw [if_neg (by decide), if_neg (by decide), if_neg (by decide), if_pos rfl, if_neg hB]; done) | (rw [if_neg (by decide), if_neg (by decide), if_neg (by decide), if_neg (by decide), if_pos rfl, if_neg hB]; done) | (rw [if_neg (by decide), if_neg (by decide), if_neg (by decide), if_neg (by decide), if_neg (by decide), if_pos rfl, if_neg hB]; done) | (rw [if_neg (by decide), if_neg (by decide), if_neg (by decide), if_neg (by decide), if_neg (by decide), if_neg (by decide), if_pos rfl, if_neg hB]; done) | (rw [if_neg (by first | decide | omega), if_neg (by first | decide | omega), if_neg (by first | decide | omega), if_neg (by first | decide | omega), if_neg (by first | decide | omega), if_neg (by first | decide | omega), if_neg (by first | decide | omega)]; done))
  · refine g_tableIn (off := 156) (tgt := 157) d_X_carriesOut_1 (by decide) (by decide) (by decide) (by decide) ?_
    refine g_iconst_i d_X_carriesOut_157 ?_
    refine g_ireturn_0 rfl d_X_carriesOut_158 ?_
    first | (refine hQ1 _ _ _ ?_ hN; unfold ordZ; first | (rw [if_pos rfl, if_pos hB]; done) | (rw [if_neg (by decide), if_pos rfl, if_pos hB]; done) | (rw [if_neg (by decide), if_neg (by decide), if_pos rfl, if_pos hB]; done) | (rw [if_neg (by decide), if_neg (by decide), if_neg (by decide), if_pos rfl, if_pos hB]; done) | (rw [if_neg (by decide), if_neg (by decide), if_neg (by decide), if_neg (by decide), if_pos rfl, if_pos hB]; done) | (rw [if_neg (by decide), if_neg (by decide), if_neg (by decide), if_neg (by decide), if_neg (by decide), if_pos rfl, if_pos hB]; done) | (rw [if_neg (by decide), if_neg (by decide), if_neg (by decide), if_neg (by decide), if_neg (by decide), if_neg (by decide), if_pos rfl, if_pos hB]; done)) | (refine hQ2 ?_; unfold ordZ; first | (rw [if_pos rfl, if_neg hB]; done) | (rw [if_neg (by decide), if_pos rfl, if_neg hB]; done) | (rw [if_neg (by decide), if_neg (by decide), if_pos rfl, if_neg hB]; done) | (rw [if_neg (by decide), if_neg (by decide), if_neg (by decide), if_pos rfl, if_neg hB]; done) | (rw [if_neg (by decide), if_neg (by decide), if_neg (by decide), if_neg (by decide), if_pos rfl, if_neg hB]; done) | (rw [if_neg (by decide), if_neg (by decide), if_neg (by decide), if_neg (by decide), if_neg (by decide), if_pos rfl, if_neg hB]; done) | (rw [if_neg (by decide), if_neg (by decide), if_neg (by decide), if_neg (by decide), if_neg (by decide), if_neg (by decide), if_pos rfl, if_neg hB]; done) | (rw [if_neg (by first | decide | omega), if_neg (by first | decide | omega), if_neg (by first | decide | omega), if_neg (by first | decide | omega), if_neg (by first | decide | omega), if_neg (by first | decide | omega), if_neg (by first | decide | omega)]; done))
  · refine g_tableIn (off := 156) (tgt := 157) d_X_carriesOut_1 (by decide) (by decide) (by decide) (by decide) ?_
    refine g_iconst_i d_X_carriesOut_157 ?_
    refine g_ireturn_0 rfl d_X_carriesOut_158 ?_
    first | (refine hQ1 _ _ _ ?_ hN; unfold ordZ; first | (rw [if_pos rfl, if_pos hB]; done) | (rw [if_neg (by decide), if_pos rfl, if_pos hB]; done) | (rw [if_neg (by decide), if_neg (by decide), if_pos rfl, if_pos hB]; done) | (rw [if_neg (by decide), if_neg (by decide), if_neg (by decide), if_pos rfl, if_pos hB]; done) | (rw [if_neg (by decide), if_neg (by decide), if_neg (by decide), if_neg (by decide), if_pos rfl, if_pos hB]; done) | (rw [if_neg (by decide), if_neg (by decide), if_neg (by decide), if_neg (by decide), if_neg (by decide), if_pos rfl, if_pos hB]; done) | (rw [if_neg (by decide), if_neg (by decide), if_neg (by decide), if_neg (by decide), if_neg (by decide), if_neg (by decide), if_pos rfl, if_pos hB]; done)) | (refine hQ2 ?_; unfold ordZ; first | (rw [if_pos rfl, if_neg hB]; done) | (rw [if_neg (by decide), if_pos rfl, if_neg hB]; done) | (rw [if_neg (by decide), if_neg (by decide), if_pos rfl, if_neg hB]; done) | (rw [if_neg (by decide), if_neg (by decide), if_neg (by decide), if_pos rfl, if_neg hB]; done) | (rw [if_neg (by decide), if_neg (by decide), if_neg (by decide), if_neg (by decide), if_pos rfl, if_neg hB]; done) | (rw [if_neg (by decide), if_neg (by decide), if_neg (by decide), if_neg (by decide), if_neg (by decide), if_pos rfl, if_neg hB]; done) | (rw [if_neg (by decide), if_neg (by decide), if_neg (by decide), if_neg (by decide), if_neg (by decide), if_neg (by decide), if_pos rfl, if_neg hB]; done) | (rw [if_neg (by first | decide | omega), if_neg (by first | decide | omega), if_neg (by first | decide | omega), if_neg (by first | decide | omega), if_neg (by first | decide | omega), if_neg (by first | decide | omega), if_neg (by first | decide | omega)]; done))
  · refine g_tableIn (off := 156) (tgt := 157) d_X_carriesOut_1 (by decide) (by decide) (by decide) (by decide) ?_
    refine g_iconst_i d_X_carriesOut_157 ?_
    refine g_ireturn_0 rfl d_X_carriesOut_158 ?_
    first | (refine hQ1 _ _ _ ?_ hN; unfold ordZ; first | (rw [if_pos rfl, if_pos hB]; done) | (rw [if_neg (by decide), if_pos rfl, if_pos hB]; done) | (rw [if_neg (by decide), if_neg (by decide), if_pos rfl, if_pos hB]; done) | (rw [if_neg (by decide), if_neg (by decide), if_neg (by decide), if_pos rfl, if_pos hB]; done) | (rw [if_neg (by decide), if_neg (by decide), if_neg (by decide), if_neg (by decide), if_pos rfl, if_pos hB]; done) | (rw [if_neg (by decide), if_neg (by decide), if_neg (by decide), if_neg (by decide), if_neg (by decide), if_pos rfl, if_pos hB]; done) | (rw [if_neg (by decide), if_neg (by decide), if_neg (by decide), if_neg (by decide), if_neg (by decide), if_neg (by decide), if_pos rfl, if_pos hB]; done)) | (refine hQ2 ?_; unfold ordZ; first | (rw [if_pos rfl, if_neg hB]; done) | (rw [if_neg (by decide), if_pos rfl, if_neg hB]; done) | (rw [if_neg (by decide), if_neg (by decide), if_pos rfl, if_neg hB]; done) | (rw [if_neg (by decide), if_neg (by decide), if_neg (by decide), if_pos rfl, if_neg hB]; done) | (rw [if_neg (by decide), if_neg (by decide), if_neg (by decide), if_neg (by decide), if_pos rfl, if_neg hB]; done) | (rw [if_neg (by decide), if_neg (by decide), if_neg (by decide), if_neg (by decide), if_neg (by decide), if_pos rfl, if_neg hB]; done) | (rw [if_neg (by decide), if_neg (by decide), if_neg (by decide), if_neg (by decide), if_neg (by decide), if_neg (by decide), if_pos rfl, if_neg hB]; done) | (rw [if_neg (by first | decide | omega), if_neg (by first | decide | omega), if_neg (by first | decide | omega), if_neg (by first | decide | omega), if_neg (by first | decide | omega), if_neg (by first | decide | omega), if_neg (by first | decide | omega)]; done))
  · refine g_tableIn (off := 156) (tgt := 157) d_X_carriesOut_1 (by decide) (by decide) (by decide) (by decide) ?_
    refine g_iconst_i d_X_carriesOut_157 ?_
    refine g_ireturn_0 rfl d_X_carriesOut_158 ?_
    first | (refine hQ1 _ _ _ ?_ hN; unfold ordZ; first | (rw [if_pos rfl, if_pos hB]; done) | (rw [if_neg (by decide), if_pos rfl, if_pos hB]; done) | (rw [if_neg (by decide), if_neg (by decide), if_pos rfl, if_pos hB]; done) | (rw [if_neg (by decide), if_neg (by decide), if_neg (by decide), if_pos rfl, if_pos hB]; done) | (rw [if_neg (by decide), if_neg (by decide), if_neg (by decide), if_neg (by decide), if_pos rfl, if_pos hB]; done) | (rw [if_neg (by decide), if_neg (by decide), if_neg (by decide), if_neg (by decide), if_neg (by decide), if_pos rfl, if_pos hB]; done) | (rw [if_neg (by decide), if_neg (by decide), if_neg (by decide), if_neg (by decide), if_neg (by decide), if_neg (by decide), if_pos rfl, if_pos hB]; done)) | (refine hQ2 ?_; unfold ordZ; first | (rw [if_pos rfl, if_neg hB]; done) | (rw [if_neg (by decide), if_pos rfl, if_neg hB]; done) | (rw [if_neg (by decide), if_neg (by decide), if_pos rfl, if_neg hB]; done) | (rw [if_neg (by decide), if_neg (by decide), if_neg (by decide), if_pos rfl, if_neg hB]; done) | (rw [if_neg (by decide), if_neg (by decide), if_neg (by decide), if_neg (by decide), if_pos rfl, if_neg hB]; done) | (rw [if_neg (by decide), if_neg (by decide), if_neg (by decide), if_neg (by decide), if_neg (by decide), if_pos rfl, if_neg hB]; done) | (rw [if_neg (by decide), if_neg (by decide), if_neg (by decide), if_neg (by decide), if_neg (by decide), if_neg (by decide), if_pos rfl, if_neg hB]; done) | (rw [if_neg (by first | decide | omega), if_neg (by first | decide | omega), if_neg (by first | decide | omega), if_neg (by first | decide | omega), if_neg (by first | decide | omega), if_neg (by first | decide | omega), if_neg (by first | decide | omega)]; done))
  · refine g_tableIn (off := 156) (tgt := 157) d_X_carriesOut_1 (by decide) (by decide) (by decide) (by decide) ?_
    refine g_iconst_i d_X_carriesOut_157 ?_
    refine g_ireturn_0 rfl d_X_carriesOut_158 ?_
    first | (refine hQ1 _ _ _ ?_ hN; unfold ordZ; first | (rw [if_pos rfl, if_pos hB]; done) | (rw [if_neg (by decide), if_pos rfl, if_pos hB]; done) | (rw [if_neg (by decide), if_neg (by decide), if_pos rfl, if_pos hB]; done) | (rw [if_neg (by decide), if_neg (by decide), if_neg (by decide), if_pos rfl, if_pos hB]; done) | (rw [if_neg (by decide), if_neg (by decide), if_neg (by decide), if_neg (by decide), if_pos rfl, if_pos hB]; done) | (rw [if_neg (by decide), if_neg (by decide), if_neg (by decide), if_neg (by decide), if_neg (by decide), if_pos rfl, if_pos hB]; done) | (rw [if_neg (by decide), if_neg (by decide), if_neg (by decide), if_neg (by decide), if_neg (by decide), if_neg (by decide), if_pos rfl, if_pos hB]; done)) | (refine hQ2 ?_; unfold ordZ; first | (rw [if_pos rfl, if_neg hB]; done) | (rw [if_neg (by decide), if_pos rfl, if_neg hB]; done) | (rw [if_neg (by decide), if_neg (by decide), if_pos rfl, if_neg hB]; done) | (rw [if_neg (by decide), if_neg (by decide), if_neg (by decide), if_pos rfl, if_neg hB]; done) | (rw [if_neg (by decide), if_neg (by decide), if_neg (by decide), if_neg (by decide), if_pos rfl, if_neg hB]; done) | (rw [if_neg (by decide), if_neg (by decide), if_neg (by decide), if_neg (by decide), if_neg (by decide), if_pos rfl, if_neg hB]; done) | (rw [if_neg (by decide), if_neg (by decide), if_neg (by decide), if_neg (by decide), if_neg (by decide), if_neg (by decide), if_pos rfl, if_neg hB]; done) | (rw [if_neg (by first | decide | omega), if_neg (by first | decide | omega), if_neg (by first | decide | omega), if_neg (by first | decide | omega), if_neg (by first | decide | omega), if_neg (by first | decide | omega), if_neg (by first | decide | omega)]; done))
  · refine g_tableIn (off := 143) (tgt := 144) d_X_carriesOut_1 (by decide) (by decide) (by decide) (by decide) ?_
    refine g_aload_n (n := 0) (i := 0) rfl rfl d_X_carriesOut_144 ?_
    refine g_iload_n (n := 2) (i := 2) rfl rfl d_X_carriesOut_145 ?_
    refine g_iconst_i d_X_carriesOut_146 ?_
    refine g_callV2 rfl rfl e_X_orderClosing l_X_503 iv_X_orderClosing 0 (by decide) rfl (by assumption) (by decide) (Nat.zero_le _) (Nat.zero_le _) (Nat.le_of_ble_eq_true rfl) d_X_carriesOut_147 (c_X_orderClosing hx (by omega) (by omega) (fun hB w im hN => ?_) (fun hB => ?_))
    · refine g_ret ?_
      refine g_ireturn_1 rfl d_X_carriesOut_150 ?_
      first | (refine hQ1 _ _ _ ?_ hN; unfold ordZ; first | (rw [if_pos rfl, if_pos hB]; done) | (rw [if_neg (by decide), if_pos rfl, if_pos hB]; done) | (rw [if_neg (by decide), if_neg (by decide), if_pos rfl, if_pos hB]; done) | (rw [if_neg (by decide), if_neg (by decide), if_neg (by decide), if_pos rfl, if_pos hB]; done) | (rw [if_neg (by decide), if_neg (by decide), if_neg (by decide), if_neg (by decide), if_pos rfl, if_pos hB]; done) | (rw [if_neg (by decide), if_neg (by decide), if_neg (by decide), if_neg (by decide), if_neg (by decide), if_pos rfl, if_pos hB]; done) | (rw [if_neg (by decide), if_neg (by decide), if_neg (by decide), if_neg (by decide), if_neg (by decide), if_neg (by decide), if_pos rfl, if_pos hB]; done)) | (refine hQ2 ?_; unfold ordZ; first | (rw [if_pos rfl, if_neg hB]; done) | (rw [if_neg (by decide), if_pos rfl, if_neg hB]; done) | (rw [if_neg (by decide), if_neg (by decide), if_pos rfl, if_neg hB]; done) | (rw [if_neg (by decide), if_neg (by decide), if_neg (by decide), if_pos rfl, if_neg hB]; done) | (rw [if_neg (by decide), if_neg (by decide), if_neg (by decide), if_neg (by decide), if_pos rfl, if_neg hB]; done) | (rw [if_neg (by decide), if_neg (by decide), if_neg (by decide), if_neg (by decide), if_neg (by decide), if_pos rfl, if_neg hB]; done) | (rw [if_neg (by decide), if_neg (by decide), if_neg (by decide), if_neg (by decide), if_neg (by decide), if_neg (by decide), if_pos rfl, if_neg hB]; done) | (rw [if_neg (by first | decide | omega), if_neg (by first | decide | omega), if_neg (by first | decide | omega), if_neg (by first | decide | omega), if_neg (by first | decide | omega), if_neg (by first | decide | omega), if_neg (by first | decide | omega)]; done))
    · refine g_ret ?_
      refine g_ireturn_0 rfl d_X_carriesOut_150 ?_
      first | (refine hQ1 _ _ _ ?_ hN; unfold ordZ; first | (rw [if_pos rfl, if_pos hB]; done) | (rw [if_neg (by decide), if_pos rfl, if_pos hB]; done) | (rw [if_neg (by decide), if_neg (by decide), if_pos rfl, if_pos hB]; done) | (rw [if_neg (by decide), if_neg (by decide), if_neg (by decide), if_pos rfl, if_pos hB]; done) | (rw [if_neg (by decide), if_neg (by decide), if_neg (by decide), if_neg (by decide), if_pos rfl, if_pos hB]; done) | (rw [if_neg (by decide), if_neg (by decide), if_neg (by decide), if_neg (by decide), if_neg (by decide), if_pos rfl, if_pos hB]; done) | (rw [if_neg (by decide), if_neg (by decide), if_neg (by decide), if_neg (by decide), if_neg (by decide), if_neg (by decide), if_pos rfl, if_pos hB]; done)) | (refine hQ2 ?_; unfold ordZ; first | (rw [if_pos rfl, if_neg hB]; done) | (rw [if_neg (by decide), if_pos rfl, if_neg hB]; done) | (rw [if_neg (by decide), if_neg (by decide), if_pos rfl, if_neg hB]; done) | (rw [if_neg (by decide), if_neg (by decide), if_neg (by decide), if_pos rfl, if_neg hB]; done) | (rw [if_neg (by decide), if_neg (by decide), if_neg (by decide), if_neg (by decide), if_pos rfl, if_neg hB]; done) | (rw [if_neg (by decide), if_neg (by decide), if_neg (by decide), if_neg (by decide), if_neg (by decide), if_pos rfl, if_neg hB]; done) | (rw [if_neg (by decide), if_neg (by decide), if_neg (by decide), if_neg (by decide), if_neg (by decide), if_neg (by decide), if_pos rfl, if_neg hB]; done) | (rw [if_neg (by first | decide | omega), if_neg (by first | decide | omega), if_neg (by first | decide | omega), if_neg (by first | decide | omega), if_neg (by first | decide | omega), if_neg (by first | decide | omega), if_neg (by first | decide | omega)]; done))
  · refine g_tableIn (off := 156) (tgt := 157) d_X_carriesOut_1 (by decide) (by decide) (by decide) (by decide) ?_
    refine g_iconst_i d_X_carriesOut_157 ?_
    refine g_ireturn_0 rfl d_X_carriesOut_158 ?_
    first | (refine hQ1 _ _ _ ?_ hN; unfold ordZ; first | (rw [if_pos rfl, if_pos hB]; done) | (rw [if_neg (by decide), if_pos rfl, if_pos hB]; done) | (rw [if_neg (by decide), if_neg (by decide), if_pos rfl, if_pos hB]; done) | (rw [if_neg (by decide), if_neg (by decide), if_neg (by decide), if_pos rfl, if_pos hB]; done) | (rw [if_neg (by decide), if_neg (by decide), if_neg (by decide), if_neg (by decide), if_pos rfl, if_pos hB]; done) | (rw [if_neg (by decide), if_neg (by decide), if_neg (by decide), if_neg (by decide), if_neg (by decide), if_pos rfl, if_pos hB]; done) | (rw [if_neg (by decide), if_neg (by decide), if_neg (by decide), if_neg (by decide), if_neg (by decide), if_neg (by decide), if_pos rfl, if_pos hB]; done)) | (refine hQ2 ?_; unfold ordZ; first | (rw [if_pos rfl, if_neg hB]; done) | (rw [if_neg (by decide), if_pos rfl, if_neg hB]; done) | (rw [if_neg (by decide), if_neg (by decide), if_pos rfl, if_neg hB]; done) | (rw [if_neg (by decide), if_neg (by decide), if_neg (by decide), if_pos rfl, if_neg hB]; done) | (rw [if_neg (by decide), if_neg (by decide), if_neg (by decide), if_neg (by decide), if_pos rfl, if_neg hB]; done) | (rw [if_neg (by decide), if_neg (by decide), if_neg (by decide), if_neg (by decide), if_neg (by decide), if_pos rfl, if_neg hB]; done) | (rw [if_neg (by decide), if_neg (by decide), if_neg (by decide), if_neg (by decide), if_neg (by decide), if_neg (by decide), if_pos rfl, if_neg hB]; done) | (rw [if_neg (by first | decide | omega), if_neg (by first | decide | omega), if_neg (by first | decide | omega), if_neg (by first | decide | omega), if_neg (by first | decide | omega), if_neg (by first | decide | omega), if_neg (by first | decide | omega)]; done))
  · refine g_tableIn (off := 156) (tgt := 157) d_X_carriesOut_1 (by decide) (by decide) (by decide) (by decide) ?_
    refine g_iconst_i d_X_carriesOut_157 ?_
    refine g_ireturn_0 rfl d_X_carriesOut_158 ?_
    first | (refine hQ1 _ _ _ ?_ hN; unfold ordZ; first | (rw [if_pos rfl, if_pos hB]; done) | (rw [if_neg (by decide), if_pos rfl, if_pos hB]; done) | (rw [if_neg (by decide), if_neg (by decide), if_pos rfl, if_pos hB]; done) | (rw [if_neg (by decide), if_neg (by decide), if_neg (by decide), if_pos rfl, if_pos hB]; done) | (rw [if_neg (by decide), if_neg (by decide), if_neg (by decide), if_neg (by decide), if_pos rfl, if_pos hB]; done) | (rw [if_neg (by decide), if_neg (by decide), if_neg (by decide), if_neg (by decide), if_neg (by decide), if_pos rfl, if_pos hB]; done) | (rw [if_neg (by decide), if_neg (by decide), if_neg (by decide), if_neg (by decide), if_neg (by decide), if_neg (by decide), if_pos rfl, if_pos hB]; done)) | (refine hQ2 ?_; unfold ordZ; first | (rw [if_pos rfl, if_neg hB]; done) | (rw [if_neg (by decide), if_pos rfl, if_neg hB]; done) | (rw [if_neg (by decide), if_neg (by decide), if_pos rfl, if_neg hB]; done) | (rw [if_neg (by decide), if_neg (by decide), if_neg (by decide), if_pos rfl, if_neg hB]; done) | (rw [if_neg (by decide), if_neg (by decide), if_neg (by decide), if_neg (by decide), if_pos rfl, if_neg hB]; done) | (rw [if_neg (by decide), if_neg (by decide), if_neg (by decide), if_neg (by decide), if_neg (by decide), if_pos rfl, if_neg hB]; done) | (rw [if_neg (by decide), if_neg (by decide), if_neg (by decide), if_neg (by decide), if_neg (by decide), if_neg (by decide), if_pos rfl, if_neg hB]; done) | (rw [if_neg (by first | decide | omega), if_neg (by first | decide | omega), if_neg (by first | decide | omega), if_neg (by first | decide | omega), if_neg (by first | decide | omega), if_neg (by first | decide | omega), if_neg (by first | decide | omega)]; done))
  · refine g_tableIn (off := 130) (tgt := 131) d_X_carriesOut_1 (by decide) (by decide) (by decide) (by decide) ?_
    refine g_aload_n (n := 0) (i := 0) rfl rfl d_X_carriesOut_131 ?_
    refine g_iload_n (n := 2) (i := 2) rfl rfl d_X_carriesOut_132 ?_
    refine g_callV1 rfl rfl e_X_orderReplacement l_X_500 iv_X_orderReplacement 0 (by decide) rfl (by assumption) (by decide) (by decide) (by decide) (Nat.le_of_ble_eq_true rfl) d_X_carriesOut_133 (c_X_orderReplacement hx (by omega) (fun hB w im hN => ?_) (fun hB => ?_))
    · refine g_retn ?_
      refine g_ireturn_1 rfl d_X_carriesOut_136 ?_
      first | (refine hQ1 _ _ _ ?_ hN; unfold ordZ; first | (rw [if_pos rfl, if_pos hB]; done) | (rw [if_neg (by decide), if_pos rfl, if_pos hB]; done) | (rw [if_neg (by decide), if_neg (by decide), if_pos rfl, if_pos hB]; done) | (rw [if_neg (by decide), if_neg (by decide), if_neg (by decide), if_pos rfl, if_pos hB]; done) | (rw [if_neg (by decide), if_neg (by decide), if_neg (by decide), if_neg (by decide), if_pos rfl, if_pos hB]; done) | (rw [if_neg (by decide), if_neg (by decide), if_neg (by decide), if_neg (by decide), if_neg (by decide), if_pos rfl, if_pos hB]; done) | (rw [if_neg (by decide), if_neg (by decide), if_neg (by decide), if_neg (by decide), if_neg (by decide), if_neg (by decide), if_pos rfl, if_pos hB]; done)) | (refine hQ2 ?_; unfold ordZ; first | (rw [if_pos rfl, if_neg hB]; done) | (rw [if_neg (by decide), if_pos rfl, if_neg hB]; done) | (rw [if_neg (by decide), if_neg (by decide), if_pos rfl, if_neg hB]; done) | (rw [if_neg (by decide), if_neg (by decide), if_neg (by decide), if_pos rfl, if_neg hB]; done) | (rw [if_neg (by decide), if_neg (by decide), if_neg (by decide), if_neg (by decide), if_pos rfl, if_neg hB]; done) | (rw [if_neg (by decide), if_neg (by decide), if_neg (by decide), if_neg (by decide), if_neg (by decide), if_pos rfl, if_neg hB]; done) | (rw [if_neg (by decide), if_neg (by decide), if_neg (by decide), if_neg (by decide), if_neg (by decide), if_neg (by decide), if_pos rfl, if_neg hB]; done) | (rw [if_neg (by first | decide | omega), if_neg (by first | decide | omega), if_neg (by first | decide | omega), if_neg (by first | decide | omega), if_neg (by first | decide | omega), if_neg (by first | decide | omega), if_neg (by first | decide | omega)]; done))
    · refine g_retn ?_
      refine g_ireturn_0 rfl d_X_carriesOut_136 ?_
      first | (refine hQ1 _ _ _ ?_ hN; unfold ordZ; first | (rw [if_pos rfl, if_pos hB]; done) | (rw [if_neg (by decide), if_pos rfl, if_pos hB]; done) | (rw [if_neg (by decide), if_neg (by decide), if_pos rfl, if_pos hB]; done) | (rw [if_neg (by decide), if_neg (by decide), if_neg (by decide), if_pos rfl, if_pos hB]; done) | (rw [if_neg (by decide), if_neg (by decide), if_neg (by decide), if_neg (by decide), if_pos rfl, if_pos hB]; done) | (rw [if_neg (by decide), if_neg (by decide), if_neg (by decide), if_neg (by decide), if_neg (by decide), if_pos rfl, if_pos hB]; done) | (rw [if_neg (by decide), if_neg (by decide), if_neg (by decide), if_neg (by decide), if_neg (by decide), if_neg (by decide), if_pos rfl, if_pos hB]; done)) | (refine hQ2 ?_; unfold ordZ; first | (rw [if_pos rfl, if_neg hB]; done) | (rw [if_neg (by decide), if_pos rfl, if_neg hB]; done) | (rw [if_neg (by decide), if_neg (by decide), if_pos rfl, if_neg hB]; done) | (rw [if_neg (by decide), if_neg (by decide), if_neg (by decide), if_pos rfl, if_neg hB]; done) | (rw [if_neg (by decide), if_neg (by decide), if_neg (by decide), if_neg (by decide), if_pos rfl, if_neg hB]; done) | (rw [if_neg (by decide), if_neg (by decide), if_neg (by decide), if_neg (by decide), if_neg (by decide), if_pos rfl, if_neg hB]; done) | (rw [if_neg (by decide), if_neg (by decide), if_neg (by decide), if_neg (by decide), if_neg (by decide), if_neg (by decide), if_pos rfl, if_neg hB]; done) | (rw [if_neg (by first | decide | omega), if_neg (by first | decide | omega), if_neg (by first | decide | omega), if_neg (by first | decide | omega), if_neg (by first | decide | omega), if_neg (by first | decide | omega), if_neg (by first | decide | omega)]; done))
  · refine g_tableIn (off := 103) (tgt := 104) d_X_carriesOut_1 (by decide) (by decide) (by decide) (by decide) ?_
    refine g_aload_n (n := 0) (i := 0) rfl rfl d_X_carriesOut_104 ?_
    refine g_iload_n (n := 2) (i := 2) rfl rfl d_X_carriesOut_105 ?_
    refine g_aload_n (n := 0) (i := 0) rfl rfl d_X_carriesOut_106 ?_
    refine g_getfield 0 3 f_X_29 (by assumption) (by rfl) d_X_carriesOut_107 ?_
    refine g_getfield 3 6 f_X_489 (by assumption) (by rfl) d_X_carriesOut_110 ?_
    refine g_callV2 rfl rfl e_X_orderSale l_X_492 iv_X_orderSale 0 (by decide) rfl (by assumption) (by decide) (by decide) (by decide) (Nat.le_of_ble_eq_true rfl) d_X_carriesOut_113 (c_X_orderSale hx (by omega) ⟨htt.1, rt9⟩ (fun hB w im hN => ?_) (fun hB => ?_))
    · refine g_retn ?_
      refine g_ireturn_1 rfl d_X_carriesOut_116 ?_
      first | (refine hQ1 _ _ _ ?_ hN; unfold ordZ; first | (rw [if_pos rfl, if_pos hB]; done) | (rw [if_neg (by decide), if_pos rfl, if_pos hB]; done) | (rw [if_neg (by decide), if_neg (by decide), if_pos rfl, if_pos hB]; done) | (rw [if_neg (by decide), if_neg (by decide), if_neg (by decide), if_pos rfl, if_pos hB]; done) | (rw [if_neg (by decide), if_neg (by decide), if_neg (by decide), if_neg (by decide), if_pos rfl, if_pos hB]; done) | (rw [if_neg (by decide), if_neg (by decide), if_neg (by decide), if_neg (by decide), if_neg (by decide), if_pos rfl, if_pos hB]; done) | (rw [if_neg (by decide), if_neg (by decide), if_neg (by decide), if_neg (by decide), if_neg (by decide), if_neg (by decide), if_pos rfl, if_pos hB]; done)) | (refine hQ2 ?_; unfold ordZ; first | (rw [if_pos rfl, if_neg hB]; done) | (rw [if_neg (by decide), if_pos rfl, if_neg hB]; done) | (rw [if_neg (by decide), if_neg (by decide), if_pos rfl, if_neg hB]; done) | (rw [if_neg (by decide), if_neg (by decide), if_neg (by decide), if_pos rfl, if_neg hB]; done) | (rw [if_neg (by decide), if_neg (by decide), if_neg (by decide), if_neg (by decide), if_pos rfl, if_neg hB]; done) | (rw [if_neg (by decide), if_neg (by decide), if_neg (by decide), if_neg (by decide), if_neg (by decide), if_pos rfl, if_neg hB]; done) | (rw [if_neg (by decide), if_neg (by decide), if_neg (by decide), if_neg (by decide), if_neg (by decide), if_neg (by decide), if_pos rfl, if_neg hB]; done) | (rw [if_neg (by first | decide | omega), if_neg (by first | decide | omega), if_neg (by first | decide | omega), if_neg (by first | decide | omega), if_neg (by first | decide | omega), if_neg (by first | decide | omega), if_neg (by first | decide | omega)]; done))
    · refine g_retn ?_
      refine g_ireturn_0 rfl d_X_carriesOut_116 ?_
      first | (refine hQ1 _ _ _ ?_ hN; unfold ordZ; first | (rw [if_pos rfl, if_pos hB]; done) | (rw [if_neg (by decide), if_pos rfl, if_pos hB]; done) | (rw [if_neg (by decide), if_neg (by decide), if_pos rfl, if_pos hB]; done) | (rw [if_neg (by decide), if_neg (by decide), if_neg (by decide), if_pos rfl, if_pos hB]; done) | (rw [if_neg (by decide), if_neg (by decide), if_neg (by decide), if_neg (by decide), if_pos rfl, if_pos hB]; done) | (rw [if_neg (by decide), if_neg (by decide), if_neg (by decide), if_neg (by decide), if_neg (by decide), if_pos rfl, if_pos hB]; done) | (rw [if_neg (by decide), if_neg (by decide), if_neg (by decide), if_neg (by decide), if_neg (by decide), if_neg (by decide), if_pos rfl, if_pos hB]; done)) | (refine hQ2 ?_; unfold ordZ; first | (rw [if_pos rfl, if_neg hB]; done) | (rw [if_neg (by decide), if_pos rfl, if_neg hB]; done) | (rw [if_neg (by decide), if_neg (by decide), if_pos rfl, if_neg hB]; done) | (rw [if_neg (by decide), if_neg (by decide), if_neg (by decide), if_pos rfl, if_neg hB]; done) | (rw [if_neg (by decide), if_neg (by decide), if_neg (by decide), if_neg (by decide), if_pos rfl, if_neg hB]; done) | (rw [if_neg (by decide), if_neg (by decide), if_neg (by decide), if_neg (by decide), if_neg (by decide), if_pos rfl, if_neg hB]; done) | (rw [if_neg (by decide), if_neg (by decide), if_neg (by decide), if_neg (by decide), if_neg (by decide), if_neg (by decide), if_pos rfl, if_neg hB]; done) | (rw [if_neg (by first | decide | omega), if_neg (by first | decide | omega), if_neg (by first | decide | omega), if_neg (by first | decide | omega), if_neg (by first | decide | omega), if_neg (by first | decide | omega), if_neg (by first | decide | omega)]; done))
  · refine g_tableIn (off := 156) (tgt := 157) d_X_carriesOut_1 (by decide) (by decide) (by decide) (by decide) ?_
    refine g_iconst_i d_X_carriesOut_157 ?_
    refine g_ireturn_0 rfl d_X_carriesOut_158 ?_
    first | (refine hQ1 _ _ _ ?_ hN; unfold ordZ; first | (rw [if_pos rfl, if_pos hB]; done) | (rw [if_neg (by decide), if_pos rfl, if_pos hB]; done) | (rw [if_neg (by decide), if_neg (by decide), if_pos rfl, if_pos hB]; done) | (rw [if_neg (by decide), if_neg (by decide), if_neg (by decide), if_pos rfl, if_pos hB]; done) | (rw [if_neg (by decide), if_neg (by decide), if_neg (by decide), if_neg (by decide), if_pos rfl, if_pos hB]; done) | (rw [if_neg (by decide), if_neg (by decide), if_neg (by decide), if_neg (by decide), if_neg (by decide), if_pos rfl, if_pos hB]; done) | (rw [if_neg (by decide), if_neg (by decide), if_neg (by decide), if_neg (by decide), if_neg (by decide), if_neg (by decide), if_pos rfl, if_pos hB]; done)) | (refine hQ2 ?_; unfold ordZ; first | (rw [if_pos rfl, if_neg hB]; done) | (rw [if_neg (by decide), if_pos rfl, if_neg hB]; done) | (rw [if_neg (by decide), if_neg (by decide), if_pos rfl, if_neg hB]; done) | (rw [if_neg (by decide), if_neg (by decide), if_neg (by decide), if_pos rfl, if_neg hB]; done) | (rw [if_neg (by decide), if_neg (by decide), if_neg (by decide), if_neg (by decide), if_pos rfl, if_neg hB]; done) | (rw [if_neg (by decide), if_neg (by decide), if_neg (by decide), if_neg (by decide), if_neg (by decide), if_pos rfl, if_neg hB]; done) | (rw [if_neg (by decide), if_neg (by decide), if_neg (by decide), if_neg (by decide), if_neg (by decide), if_neg (by decide), if_pos rfl, if_neg hB]; done) | (rw [if_neg (by first | decide | omega), if_neg (by first | decide | omega), if_neg (by first | decide | omega), if_neg (by first | decide | omega), if_neg (by first | decide | omega), if_neg (by first | decide | omega), if_neg (by first | decide | omega)]; done))
  · refine g_tableIn (off := 123) (tgt := 124) d_X_carriesOut_1 (by decide) (by decide) (by decide) (by decide) ?_
    refine g_aload_n (n := 0) (i := 0) rfl rfl d_X_carriesOut_124 ?_
    refine g_iload_n (n := 2) (i := 2) rfl rfl d_X_carriesOut_125 ?_
    refine g_iconst_i d_X_carriesOut_126 ?_
    refine g_callV2 rfl rfl e_X_orderBlock l_X_496 iv_X_orderBlock 0 (by decide) rfl (by assumption) (by decide) (by decide) (by decide) (Nat.le_of_ble_eq_true rfl) d_X_carriesOut_127 (c_X_orderBlock hx (by omega) (by omega) (fun hB w im hN => ?_) (fun hB => ?_))
    · refine g_retn ?_
      refine g_ireturn_1 rfl d_X_carriesOut_130 ?_
      first | (refine hQ1 _ _ _ ?_ hN; unfold ordZ; first | (rw [if_pos rfl, if_pos hB]; done) | (rw [if_neg (by decide), if_pos rfl, if_pos hB]; done) | (rw [if_neg (by decide), if_neg (by decide), if_pos rfl, if_pos hB]; done) | (rw [if_neg (by decide), if_neg (by decide), if_neg (by decide), if_pos rfl, if_pos hB]; done) | (rw [if_neg (by decide), if_neg (by decide), if_neg (by decide), if_neg (by decide), if_pos rfl, if_pos hB]; done) | (rw [if_neg (by decide), if_neg (by decide), if_neg (by decide), if_neg (by decide), if_neg (by decide), if_pos rfl, if_pos hB]; done) | (rw [if_neg (by decide), if_neg (by decide), if_neg (by decide), if_neg (by decide), if_neg (by decide), if_neg (by decide), if_pos rfl, if_pos hB]; done)) | (refine hQ2 ?_; unfold ordZ; first | (rw [if_pos rfl, if_neg hB]; done) | (rw [if_neg (by decide), if_pos rfl, if_neg hB]; done) | (rw [if_neg (by decide), if_neg (by decide), if_pos rfl, if_neg hB]; done) | (rw [if_neg (by decide), if_neg (by decide), if_neg (by decide), if_pos rfl, if_neg hB]; done) | (rw [if_neg (by decide), if_neg (by decide), if_neg (by decide), if_neg (by decide), if_pos rfl, if_neg hB]; done) | (rw [if_neg (by decide), if_neg (by decide), if_neg (by decide), if_neg (by decide), if_neg (by decide), if_pos rfl, if_neg hB]; done) | (rw [if_neg (by decide), if_neg (by decide), if_neg (by decide), if_neg (by decide), if_neg (by decide), if_neg (by decide), if_pos rfl, if_neg hB]; done) | (rw [if_neg (by first | decide | omega), if_neg (by first | decide | omega), if_neg (by first | decide | omega), if_neg (by first | decide | omega), if_neg (by first | decide | omega), if_neg (by first | decide | omega), if_neg (by first | decide | omega)]; done))
    · refine g_retn ?_
      refine g_ireturn_0 rfl d_X_carriesOut_130 ?_
      first | (refine hQ1 _ _ _ ?_ hN; unfold ordZ; first | (rw [if_pos rfl, if_pos hB]; done) | (rw [if_neg (by decide), if_pos rfl, if_pos hB]; done) | (rw [if_neg (by decide), if_neg (by decide), if_pos rfl, if_pos hB]; done) | (rw [if_neg (by decide), if_neg (by decide), if_neg (by decide), if_pos rfl, if_pos hB]; done) | (rw [if_neg (by decide), if_neg (by decide), if_neg (by decide), if_neg (by decide), if_pos rfl, if_pos hB]; done) | (rw [if_neg (by decide), if_neg (by decide), if_neg (by decide), if_neg (by decide), if_neg (by decide), if_pos rfl, if_pos hB]; done) | (rw [if_neg (by decide), if_neg (by decide), if_neg (by decide), if_neg (by decide), if_neg (by decide), if_neg (by decide), if_pos rfl, if_pos hB]; done)) | (refine hQ2 ?_; unfold ordZ; first | (rw [if_pos rfl, if_neg hB]; done) | (rw [if_neg (by decide), if_pos rfl, if_neg hB]; done) | (rw [if_neg (by decide), if_neg (by decide), if_pos rfl, if_neg hB]; done) | (rw [if_neg (by decide), if_neg (by decide), if_neg (by decide), if_pos rfl, if_neg hB]; done) | (rw [if_neg (by decide), if_neg (by decide), if_neg (by decide), if_neg (by decide), if_pos rfl, if_neg hB]; done) | (rw [if_neg (by decide), if_neg (by decide), if_neg (by decide), if_neg (by decide), if_neg (by decide), if_pos rfl, if_neg hB]; done) | (rw [if_neg (by decide), if_neg (by decide), if_neg (by decide), if_neg (by decide), if_neg (by decide), if_neg (by decide), if_pos rfl, if_neg hB]; done) | (rw [if_neg (by first | decide | omega), if_neg (by first | decide | omega), if_neg (by first | decide | omega), if_neg (by first | decide | omega), if_neg (by first | decide | omega), if_neg (by first | decide | omega), if_neg (by first | decide | omega)]; done))
  · refine g_tableIn (off := 156) (tgt := 157) d_X_carriesOut_1 (by decide) (by decide) (by decide) (by decide) ?_
    refine g_iconst_i d_X_carriesOut_157 ?_
    refine g_ireturn_0 rfl d_X_carriesOut_158 ?_
    first | (refine hQ1 _ _ _ ?_ hN; unfold ordZ; first | (rw [if_pos rfl, if_pos hB]; done) | (rw [if_neg (by decide), if_pos rfl, if_pos hB]; done) | (rw [if_neg (by decide), if_neg (by decide), if_pos rfl, if_pos hB]; done) | (rw [if_neg (by decide), if_neg (by decide), if_neg (by decide), if_pos rfl, if_pos hB]; done) | (rw [if_neg (by decide), if_neg (by decide), if_neg (by decide), if_neg (by decide), if_pos rfl, if_pos hB]; done) | (rw [if_neg (by decide), if_neg (by decide), if_neg (by decide), if_neg (by decide), if_neg (by decide), if_pos rfl, if_pos hB]; done) | (rw [if_neg (by decide), if_neg (by decide), if_neg (by decide), if_neg (by decide), if_neg (by decide), if_neg (by decide), if_pos rfl, if_pos hB]; done)) | (refine hQ2 ?_; unfold ordZ; first | (rw [if_pos rfl, if_neg hB]; done) | (rw [if_neg (by decide), if_pos rfl, if_neg hB]; done) | (rw [if_neg (by decide), if_neg (by decide), if_pos rfl, if_neg hB]; done) | (rw [if_neg (by decide), if_neg (by decide), if_neg (by decide), if_pos rfl, if_neg hB]; done) | (rw [if_neg (by decide), if_neg (by decide), if_neg (by decide), if_neg (by decide), if_pos rfl, if_neg hB]; done) | (rw [if_neg (by decide), if_neg (by decide), if_neg (by decide), if_neg (by decide), if_neg (by decide), if_pos rfl, if_neg hB]; done) | (rw [if_neg (by decide), if_neg (by decide), if_neg (by decide), if_neg (by decide), if_neg (by decide), if_neg (by decide), if_pos rfl, if_neg hB]; done) | (rw [if_neg (by first | decide | omega), if_neg (by first | decide | omega), if_neg (by first | decide | omega), if_neg (by first | decide | omega), if_neg (by first | decide | omega), if_neg (by first | decide | omega), if_neg (by first | decide | omega)]; done))
  · refine g_tableIn (off := 150) (tgt := 151) d_X_carriesOut_1 (by decide) (by decide) (by decide) (by decide) ?_
    refine g_aload_n (n := 0) (i := 0) rfl rfl d_X_carriesOut_151 ?_
    refine g_iload_n (n := 2) (i := 2) rfl rfl d_X_carriesOut_152 ?_
    refine g_callV1 rfl rfl e_X_orderWait l_X_506 iv_X_orderWait 0 (by decide) rfl (by assumption) (by decide) (Nat.zero_le _) (Nat.zero_le _) (Nat.le_of_ble_eq_true rfl) d_X_carriesOut_153 (c_X_orderWait hx (by omega) (fun hB w im hN => ?_) (fun hB => ?_))
    · refine g_ret ?_
      refine g_ireturn_1 rfl d_X_carriesOut_156 ?_
      first | (refine hQ1 _ _ _ ?_ hN; unfold ordZ; first | (rw [if_pos rfl, if_pos hB]; done) | (rw [if_neg (by decide), if_pos rfl, if_pos hB]; done) | (rw [if_neg (by decide), if_neg (by decide), if_pos rfl, if_pos hB]; done) | (rw [if_neg (by decide), if_neg (by decide), if_neg (by decide), if_pos rfl, if_pos hB]; done) | (rw [if_neg (by decide), if_neg (by decide), if_neg (by decide), if_neg (by decide), if_pos rfl, if_pos hB]; done) | (rw [if_neg (by decide), if_neg (by decide), if_neg (by decide), if_neg (by decide), if_neg (by decide), if_pos rfl, if_pos hB]; done) | (rw [if_neg (by decide), if_neg (by decide), if_neg (by decide), if_neg (by decide), if_neg (by decide), if_neg (by decide), if_pos rfl, if_pos hB]; done)) | (refine hQ2 ?_; unfold ordZ; first | (rw [if_pos rfl, if_neg hB]; done) | (rw [if_neg (by decide), if_pos rfl, if_neg hB]; done) | (rw [if_neg (by decide), if_neg (by decide), if_pos rfl, if_neg hB]; done) | (rw [if_neg (by decide), if_neg (by decide), if_neg (by decide), if_pos rfl, if_neg hB]; done) | (rw [if_neg (by decide), if_neg (by decide), if_neg (by decide), if_neg (by decide), if_pos rfl, if_neg hB]; done) | (rw [if_neg (by decide), if_neg (by decide), if_neg (by decide), if_neg (by decide), if_neg (by decide), if_pos rfl, if_neg hB]; done) | (rw [if_neg (by decide), if_neg (by decide), if_neg (by decide), if_neg (by decide), if_neg (by decide), if_neg (by decide), if_pos rfl, if_neg hB]; done) | (rw [if_neg (by first | decide | omega), if_neg (by first | decide | omega), if_neg (by first | decide | omega), if_neg (by first | decide | omega), if_neg (by first | decide | omega), if_neg (by first | decide | omega), if_neg (by first | decide | omega)]; done))
    · refine g_ret ?_
      refine g_ireturn_0 rfl d_X_carriesOut_156 ?_
      first | (refine hQ1 _ _ _ ?_ hN; unfold ordZ; first | (rw [if_pos rfl, if_pos hB]; done) | (rw [if_neg (by decide), if_pos rfl, if_pos hB]; done) | (rw [if_neg (by decide), if_neg (by decide), if_pos rfl, if_pos hB]; done) | (rw [if_neg (by decide), if_neg (by decide), if_neg (by decide), if_pos rfl, if_pos hB]; done) | (rw [if_neg (by decide), if_neg (by decide), if_neg (by decide), if_neg (by decide), if_pos rfl, if_pos hB]; done) | (rw [if_neg (by decide), if_neg (by decide), if_neg (by decide), if_neg (by decide), if_neg (by decide), if_pos rfl, if_pos hB]; done) | (rw [if_neg (by decide), if_neg (by decide), if_neg (by decide), if_neg (by decide), if_neg (by decide), if_neg (by decide), if_pos rfl, if_pos hB]; done)) | (refine hQ2 ?_; unfold ordZ; first | (rw [if_pos rfl, if_neg hB]; done) | (rw [if_neg (by decide), if_pos rfl, if_neg hB]; done) | (rw [if_neg (by decide), if_neg (by decide), if_pos rfl, if_neg hB]; done) | (rw [if_neg (by decide), if_neg (by decide), if_neg (by decide), if_pos rfl, if_neg hB]; done) | (rw [if_neg (by decide), if_neg (by decide), if_neg (by decide), if_neg (by decide), if_pos rfl, if_neg hB]; done) | (rw [if_neg (by decide), if_neg (by decide), if_neg (by decide), if_neg (by decide), if_neg (by decide), if_pos rfl, if_neg hB]; done) | (rw [if_neg (by decide), if_neg (by decide), if_neg (by decide), if_neg (by decide), if_neg (by decide), if_neg (by decide), if_pos rfl, if_neg hB]; done) | (rw [if_neg (by first | decide | omega), if_neg (by first | decide | omega), if_neg (by first | decide | omega), if_neg (by first | decide | omega), if_neg (by first | decide | omega), if_neg (by first | decide | omega), if_neg (by first | decide | omega)]; done))
  · refine g_tableOut (tgt := 157) d_X_carriesOut_1 (by rw [iI_toInt (by omega)]; exact hsw1) (by decide) ?_
    refine g_iconst_i d_X_carriesOut_157 ?_
    refine g_ireturn_0 rfl d_X_carriesOut_158 ?_
    first | (refine hQ1 _ _ _ ?_ hN; unfold ordZ; first | (rw [if_pos rfl, if_pos hB]; done) | (rw [if_neg (by decide), if_pos rfl, if_pos hB]; done) | (rw [if_neg (by decide), if_neg (by decide), if_pos rfl, if_pos hB]; done) | (rw [if_neg (by decide), if_neg (by decide), if_neg (by decide), if_pos rfl, if_pos hB]; done) | (rw [if_neg (by decide), if_neg (by decide), if_neg (by decide), if_neg (by decide), if_pos rfl, if_pos hB]; done) | (rw [if_neg (by decide), if_neg (by decide), if_neg (by decide), if_neg (by decide), if_neg (by decide), if_pos rfl, if_pos hB]; done) | (rw [if_neg (by decide), if_neg (by decide), if_neg (by decide), if_neg (by decide), if_neg (by decide), if_neg (by decide), if_pos rfl, if_pos hB]; done)) | (refine hQ2 ?_; unfold ordZ; first | (rw [if_pos rfl, if_neg hB]; done) | (rw [if_neg (by decide), if_pos rfl, if_neg hB]; done) | (rw [if_neg (by decide), if_neg (by decide), if_pos rfl, if_neg hB]; done) | (rw [if_neg (by decide), if_neg (by decide), if_neg (by decide), if_pos rfl, if_neg hB]; done) | (rw [if_neg (by decide), if_neg (by decide), if_neg (by decide), if_neg (by decide), if_pos rfl, if_neg hB]; done) | (rw [if_neg (by decide), if_neg (by decide), if_neg (by decide), if_neg (by decide), if_neg (by decide), if_pos rfl, if_neg hB]; done) | (rw [if_neg (by decide), if_neg (by decide), if_neg (by decide), if_neg (by decide), if_neg (by decide), if_neg (by decide), if_pos rfl, if_neg hB]; done) | (rw [if_neg (by first | decide | omega), if_neg (by first | decide | omega), if_neg (by first | decide | omega), if_neg (by first | decide | omega), if_neg (by first | decide | omega), if_neg (by first | decide | omega), if_neg (by first | decide | omega)]; done))

