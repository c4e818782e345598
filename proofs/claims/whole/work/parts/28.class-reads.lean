/-! ===== the face of the class: the other reading methods ===== -/
theorem nn_ddiv {a b : Int32} (h : b ≠ 0) : vf_n64 (FP.ddiv (FP.i2d a) (FP.i2d b)) := Jvm.Free.Fl.ddiv_out (Jvm.Free.Fl.i2d_fin a).noNaN (Jvm.Free.Fl.i2d_fin b) (Jvm.Free.Fl.i2d_nz h)
theorem nn_fdiv {a b : Int32} (h : b ≠ 0) : vf_n32 (FP.fdiv (FP.i2f a) (FP.i2f b)) := Jvm.Free.Fl.fdiv_out (Jvm.Free.Fl.i2f_fin a).noNaN (Jvm.Free.Fl.i2f_fin b) (Jvm.Free.Fl.i2f_nz h)
theorem chainZ_rng {a i9 : Int} (h : 0 ≤ a ∧ a ≤ 42) : -1 ≤ chainZ a i9 ∧ chainZ a i9 ≤ 42 := by unfold chainZ; (repeat' split) <;> omega
theorem c_C_rideAt2 {E : gE} {w : gW} {im : gIm} {Q : gQ} {a p : Nat} {n st su rf : Int} {la : Option Nat} (h1 : g_cell E w im a (cardE n p st su rf la)) {rs : List rT} (hc : chn im la rs) (ok : okR rs) {x : Int} (rx : -2147483648 ≤ x ∧ x < 2147483648)
    (hQ1 : ∀ (q : rT) (a bf ga : _) (ct dy : Int), nthR rs x = some q → im a = some (rideE bf ga q.2.2.2 ct dy) → im ga = some (gateE q.1 q.2.1 q.2.2.1) → Q (.inl (some (.ref a))) w im) (hQ2 : nthR rs x = none → Q (.inl (some .null)) w im) : GM E 0 y_C_rideAt m_C_rideAt 0 0 [.ref a, .int (iI x)] w im Q := by
  refine c_C_rideAt h1 hc ok rx ?_
  have h := nthA_spec (k := x) hc
  cases e1 : nthA im la rs x <;> cases e2 : nthR rs x <;> rw [e1, e2] at h
  · exact hQ2 e2
  · exact h.elim
  · exact h.elim
  · obtain ⟨bf, ga, ct, dy, c1, c2⟩ := h
    exact hQ1 _ _ _ _ _ _ e2 c1 c2
theorem nthR_mem {rs : List rT} {x : Int} {q : rT} (h : nthR rs x = some q) : q ∈ rs := by
  induction rs with
  | nil => cases h
  | cons a r ih =>
    rw [nthR] at h
    split at h
    · cases h; exact List.mem_cons_self
    · exact List.mem_cons_of_mem _ (ih h)
def okCon (R : Rz) : Prop := iI (allPrice R) = iI (allRef R + sharesA R + allIdleZ R) ∧ iI (thrAll R) = iI (allRides R) ∧ waysAll R
def oMean (R : Rz) : gO := if inForce R ≤ 0 then oAR else .inl (some (.double (FP.ddiv (FP.i2d (iI (allRides R))) (FP.i2d (iI (inForce R))))))
def cntdZ (R : Rz) : Int := sumZ (fun k9 => cbZ 0 (zk R) k9) 31
def oClSh (R : Rz) (x : Int) : gO := if isG R x then (if cntdZ R ≤ 0 then oAR else .inl (some (.float (FP.fdiv (FP.i2f (iI (allDays R x))) (FP.i2f (iI (cntdZ R))))))) else oIB

theorem c_X_refusal {E : gE} {w : gW} {im : gIm} {Q : gQ} {c : CSt} (hx : XW E w im c) {x : Int} (rx : -2147483648 ≤ x ∧ x < 2147483648) (hQ : ∀ o w' im', o = oRfs (cF c).2.1 x → XN E w im c w' im' → Q (o) w' im') : GM E 1 y_X_refusal m_X_refusal 1 6 [.ref (gad E 0), .int (iI x)] w im Q := by
  have hx9 := hx
  obtain ⟨⟨hn, x0, x1, x2, x3, x4, x5, m61, x6⟩, ⟨r1, r2, r3⟩, o1, o2, o3, o4⟩ := hx9
  have k0 : g_cell E w im (gad E 0) _ := g_mut 0 (by omega) x0
  have k1 : g_cell E w im (gad E 56) _ := g_mut 56 (by omega) x1
  have k2 : g_cell E w im (gad E 57) _ := g_mut 57 (by omega) x2
  have k3 : g_cell E w im (gad E 58) _ := g_mut 58 (by omega) x3
  have k4 : g_cell E w im (gad E 59) _ := g_mut 59 (by omega) x4
  have k5 : g_cell E w im (gad E 60) _ := g_mut 60 (by omega) x5
  have k6 : g_cell E w im (gad E 61) _ := g_mut 61 (by omega) x6
  have kn := r1.cell
  have kk := r2.cell
  have hz := r1
  have hz9 := hz
  obtain ⟨rg, rp, rc, lc, ⟨hb, h0, h1, h2, h3, h4, hlc⟩, ⟨i1, i2, i3, i4, i5, i6⟩, ok⟩ := hz9
  obtain ⟨ok1, ok2, ok3, ok4, ok5, ok6, ok7, ok8, ok9⟩ := ok
  have co : g_cell E w im (gad E 1) (resE E 1 (cN c)) := g_mut 1 (by omega) h0
  have cg : g_cell E w im (gad E (1 + 1)) (rowE 4 12 rg) := g_mut (1 + 1) (by omega) h1
  have cp : g_cell E w im (gad E (1 + 2)) (rowE 5 8 rp) := g_mut (1 + 2) (by omega) h2
  have cc : g_cell E w im (gad E (1 + 3)) (rowE 6 20 rc) := g_mut (1 + 3) (by omega) h3
  have cl : g_cell E w im (gad E (1 + 4)) (intE 372 lc) := g_mut (1 + 4) (by omega) h4
  have o39 := o3
  obtain ⟨oa1, oa2, oa3, oa4⟩ := o39
  have hcz := chainZ_rng (i9 := x) oa2
  refine g_enter (by decide) rfl rfl (fun h => by first | rfl | cases h) (Nat.le_of_ble_eq_true rfl) rfl ?_
  refine g_aload_n (n := 0) (i := 0) rfl rfl d_X_refusal_0 ?_
  refine g_getfield 0 6 f_X_44 (by assumption) (by rfl) d_X_refusal_1 ?_
  refine g_if_ne_i (tgt := 17) (by omega) d_X_refusal_4 (by decide) (fun h4 => ?_) (fun h4 => ?_)
  · refine g_aload_n (n := 0) (i := 0) rfl rfl d_X_refusal_17 ?_
    refine g_getfield 0 6 f_X_44 (by assumption) (by rfl) d_X_refusal_18 ?_
    refine g_iload_n (n := 1) (i := 1) rfl rfl d_X_refusal_21 ?_
    refine g_callS2 rfl rfl e_X_numberInChain l_X_251 st_X_numberInChain (by decide) (Nat.zero_le _) (Nat.zero_le _) (Nat.le_of_ble_eq_true rfl) d_X_refusal_22 (c_X_numberInChain oa2 rx ?_)
    refine g_ret ?_
    refine g_istore_n (n := 2) (i := 2) rfl (by decide) rfl d_X_refusal_25 ?_
    refine g_iload_n (n := 2) (i := 2) rfl rfl d_X_refusal_26 ?_
    refine g_iconst_i d_X_refusal_27 ?_
    refine g_icmp_ne_i (tgt := 42) (by omega) (by decide) d_X_refusal_28 (by decide) (fun h28 => ?_) (fun h28 => ?_)
    · refine g_iload_n (n := 2) (i := 2) rfl rfl d_X_refusal_42 ?_
      refine g_ireturn_i rfl d_X_refusal_43 ?_
      exact hQ _ _ _ (by unfold oRfs; first | rfl | (rw [if_pos (by omega)]; done) | (rw [if_neg (by omega), if_pos (by omega)]; done) | (rw [if_neg (by omega), if_neg (by omega)]; done) | ((repeat' split) <;> first | rfl | (exfalso; omega) | (exfalso; simp_all))) (XN.refl hx)
    · refine x_NSEw c_X_255 xs_257 rfl rfl (Nat.le_of_ble_eq_true rfl) (by omega) (by omega) d_X_refusal_31 d_X_refusal_34 d_X_refusal_35 d_X_refusal_38 d_X_refusal_41 ?_
      exact hQ _ _ _ (by unfold oRfs; first | rfl | (rw [if_pos (by omega)]; done) | (rw [if_neg (by omega), if_pos (by omega)]; done) | (rw [if_neg (by omega), if_neg (by omega)]; done) | ((repeat' split) <;> first | rfl | (exfalso; omega) | (exfalso; simp_all))) (XN.refl hx)
  · refine x_ISE c_X_81 xs_249 rfl rfl (Nat.le_of_ble_eq_true rfl) (by omega) (by omega) d_X_refusal_7 d_X_refusal_10 d_X_refusal_11 d_X_refusal_13 d_X_refusal_16 ?_
    exact hQ _ _ _ (by unfold oRfs; first | rfl | (rw [if_pos (by omega)]; done) | (rw [if_neg (by omega), if_pos (by omega)]; done) | (rw [if_neg (by omega), if_neg (by omega)]; done) | ((repeat' split) <;> first | rfl | (exfalso; omega) | (exfalso; simp_all))) (XN.refl hx)

theorem c_X_errorPosition {E : gE} {w : gW} {im : gIm} {Q : gQ} {c : CSt} (hx : XW E w im c) (hQ : ∀ o w' im', o = oNum (cF c).2.2.1 → XN E w im c w' im' → Q (o) w' im') : GM E 0 y_X_errorPosition m_X_errorPosition 1 6 [.ref (gad E 0)] w im Q := by
  have hx9 := hx
  obtain ⟨⟨hn, x0, x1, x2, x3, x4, x5, m61, x6⟩, ⟨r1, r2, r3⟩, o1, o2, o3, o4⟩ := hx9
  have k0 : g_cell E w im (gad E 0) _ := g_mut 0 (by omega) x0
  have k1 : g_cell E w im (gad E 56) _ := g_mut 56 (by omega) x1
  have k2 : g_cell E w im (gad E 57) _ := g_mut 57 (by omega) x2
  have k3 : g_cell E w im (gad E 58) _ := g_mut 58 (by omega) x3
  have k4 : g_cell E w im (gad E 59) _ := g_mut 59 (by omega) x4
  have k5 : g_cell E w im (gad E 60) _ := g_mut 60 (by omega) x5
  have k6 : g_cell E w im (gad E 61) _ := g_mut 61 (by omega) x6
  have kn := r1.cell
  have kk := r2.cell
  have hz := r1
  have hz9 := hz
  obtain ⟨rg, rp, rc, lc, ⟨hb, h0, h1, h2, h3, h4, hlc⟩, ⟨i1, i2, i3, i4, i5, i6⟩, ok⟩ := hz9
  obtain ⟨ok1, ok2, ok3, ok4, ok5, ok6, ok7, ok8, ok9⟩ := ok
  have co : g_cell E w im (gad E 1) (resE E 1 (cN c)) := g_mut 1 (by omega) h0
  have cg : g_cell E w im (gad E (1 + 1)) (rowE 4 12 rg) := g_mut (1 + 1) (by omega) h1
  have cp : g_cell E w im (gad E (1 + 2)) (rowE 5 8 rp) := g_mut (1 + 2) (by omega) h2
  have cc : g_cell E w im (gad E (1 + 3)) (rowE 6 20 rc) := g_mut (1 + 3) (by omega) h3
  have cl : g_cell E w im (gad E (1 + 4)) (intE 372 lc) := g_mut (1 + 4) (by omega) h4
  have o39 := o3
  obtain ⟨oa1, oa2, oa3, oa4⟩ := o39
  refine g_enter (by decide) rfl rfl (fun h => by first | rfl | cases h) (Nat.le_of_ble_eq_true rfl) rfl ?_
  refine g_aload_n (n := 0) (i := 0) rfl rfl d_X_errorPosition_0 ?_
  refine g_getfield 0 7 f_X_48 (by assumption) (by rfl) d_X_errorPosition_1 ?_
  refine g_iconst_i d_X_errorPosition_4 ?_
  refine g_icmp_ne_i (tgt := 19) (by omega) (by decide) d_X_errorPosition_5 (by decide) (fun h5 => ?_) (fun h5 => ?_)
  · refine g_aload_n (n := 0) (i := 0) rfl rfl d_X_errorPosition_19 ?_
    refine g_getfield 0 7 f_X_48 (by assumption) (by rfl) d_X_errorPosition_20 ?_
    refine g_ireturn_i rfl d_X_errorPosition_23 ?_
    exact hQ _ _ _ (by unfold oNum; first | rfl | (rw [if_pos (by omega)]; done) | (rw [if_neg (by omega)]; done) | ((repeat' split) <;> first | rfl | (exfalso; omega) | (exfalso; simp_all))) (XN.refl hx)
  · refine x_NSEw c_X_255 xs_427 rfl rfl (Nat.le_of_ble_eq_true rfl) (by omega) (by omega) d_X_errorPosition_8 d_X_errorPosition_11 d_X_errorPosition_12 d_X_errorPosition_15 d_X_errorPosition_18 ?_
    exact hQ _ _ _ (by unfold oNum; first | rfl | (rw [if_pos (by omega)]; done) | (rw [if_neg (by omega)]; done) | ((repeat' split) <;> first | rfl | (exfalso; omega) | (exfalso; simp_all))) (XN.refl hx)

theorem c_X_refusedOrder {E : gE} {w : gW} {im : gIm} {Q : gQ} {c : CSt} (hx : XW E w im c) (hQ : ∀ o w' im', o = oNum (cF c).2.2.2 → XN E w im c w' im' → Q (o) w' im') : GM E 0 y_X_refusedOrder m_X_refusedOrder 1 6 [.ref (gad E 0)] w im Q := by
  have hx9 := hx
  obtain ⟨⟨hn, x0, x1, x2, x3, x4, x5, m61, x6⟩, ⟨r1, r2, r3⟩, o1, o2, o3, o4⟩ := hx9
  have k0 : g_cell E w im (gad E 0) _ := g_mut 0 (by omega) x0
  have k1 : g_cell E w im (gad E 56) _ := g_mut 56 (by omega) x1
  have k2 : g_cell E w im (gad E 57) _ := g_mut 57 (by omega) x2
  have k3 : g_cell E w im (gad E 58) _ := g_mut 58 (by omega) x3
  have k4 : g_cell E w im (gad E 59) _ := g_mut 59 (by omega) x4
  have k5 : g_cell E w im (gad E 60) _ := g_mut 60 (by omega) x5
  have k6 : g_cell E w im (gad E 61) _ := g_mut 61 (by omega) x6
  have kn := r1.cell
  have kk := r2.cell
  have hz := r1
  have hz9 := hz
  obtain ⟨rg, rp, rc, lc, ⟨hb, h0, h1, h2, h3, h4, hlc⟩, ⟨i1, i2, i3, i4, i5, i6⟩, ok⟩ := hz9
  obtain ⟨ok1, ok2, ok3, ok4, ok5, ok6, ok7, ok8, ok9⟩ := ok
  have co : g_cell E w im (gad E 1) (resE E 1 (cN c)) := g_mut 1 (by omega) h0
  have cg : g_cell E w im (gad E (1 + 1)) (rowE 4 12 rg) := g_mut (1 + 1) (by omega) h1
  have cp : g_cell E w im (gad E (1 + 2)) (rowE 5 8 rp) := g_mut (1 + 2) (by omega) h2
  have cc : g_cell E w im (gad E (1 + 3)) (rowE 6 20 rc) := g_mut (1 + 3) (by omega) h3
  have cl : g_cell E w im (gad E (1 + 4)) (intE 372 lc) := g_mut (1 + 4) (by omega) h4
  have o39 := o3
  obtain ⟨oa1, oa2, oa3, oa4⟩ := o39
  refine g_enter (by decide) rfl rfl (fun h => by first | rfl | cases h) (Nat.le_of_ble_eq_true rfl) rfl ?_
  refine g_aload_n (n := 0) (i := 0) rfl rfl d_X_refusedOrder_0 ?_
  refine g_getfield 0 8 f_X_51 (by assumption) (by rfl) d_X_refusedOrder_1 ?_
  refine g_iconst_i d_X_refusedOrder_4 ?_
  refine g_icmp_ne_i (tgt := 19) (by omega) (by decide) d_X_refusedOrder_5 (by decide) (fun h5 => ?_) (fun h5 => ?_)
  · refine g_aload_n (n := 0) (i := 0) rfl rfl d_X_refusedOrder_19 ?_
    refine g_getfield 0 8 f_X_51 (by assumption) (by rfl) d_X_refusedOrder_20 ?_
    refine g_ireturn_i rfl d_X_refusedOrder_23 ?_
    exact hQ _ _ _ (by unfold oNum; first | rfl | (rw [if_pos (by omega)]; done) | (rw [if_neg (by omega)]; done) | ((repeat' split) <;> first | rfl | (exfalso; omega) | (exfalso; simp_all))) (XN.refl hx)
  · refine x_NSEw c_X_255 xs_429 rfl rfl (Nat.le_of_ble_eq_true rfl) (by omega) (by omega) d_X_refusedOrder_8 d_X_refusedOrder_11 d_X_refusedOrder_12 d_X_refusedOrder_15 d_X_refusedOrder_18 ?_
    exact hQ _ _ _ (by unfold oNum; first | rfl | (rw [if_pos (by omega)]; done) | (rw [if_neg (by omega)]; done) | ((repeat' split) <;> first | rfl | (exfalso; omega) | (exfalso; simp_all))) (XN.refl hx)

theorem c_X_ride {E : gE} {w : gW} {im : gIm} {Q : gQ} {c : CSt} (hx : XW E w im c) {x y z : Int} (rx : -2147483648 ≤ x ∧ x < 2147483648) (ry : -2147483648 ≤ y ∧ y < 2147483648) (rz : 0 ≤ z ∧ z ≤ 1) (hQ : ∀ o w' im', o = oRide (cN c) x y z → XN E w im c w' im' → Q (o) w' im') : GM E 2 y_X_ride m_X_ride 2 12 [.ref (gad E 0), .int (iI x), .int (iI y), .int (iI z)] w im Q := by
  have hx9 := hx
  obtain ⟨⟨hn, x0, x1, x2, x3, x4, x5, m61, x6⟩, ⟨r1, r2, r3⟩, o1, o2, o3, o4⟩ := hx9
  have k0 : g_cell E w im (gad E 0) _ := g_mut 0 (by omega) x0
  have k1 : g_cell E w im (gad E 56) _ := g_mut 56 (by omega) x1
  have k2 : g_cell E w im (gad E 57) _ := g_mut 57 (by omega) x2
  have k3 : g_cell E w im (gad E 58) _ := g_mut 58 (by omega) x3
  have k4 : g_cell E w im (gad E 59) _ := g_mut 59 (by omega) x4
  have k5 : g_cell E w im (gad E 60) _ := g_mut 60 (by omega) x5
  have k6 : g_cell E w im (gad E 61) _ := g_mut 61 (by omega) x6
  have kn := r1.cell
  have kk := r2.cell
  have hz := r1
  have hz9 := hz
  obtain ⟨rg, rp, rc, lc, ⟨hb, h0, h1, h2, h3, h4, hlc⟩, ⟨i1, i2, i3, i4, i5, i6⟩, ok⟩ := hz9
  obtain ⟨ok1, ok2, ok3, ok4, ok5, ok6, ok7, ok8, ok9⟩ := ok
  have co : g_cell E w im (gad E 1) (resE E 1 (cN c)) := g_mut 1 (by omega) h0
  have cg : g_cell E w im (gad E (1 + 1)) (rowE 4 12 rg) := g_mut (1 + 1) (by omega) h1
  have cp : g_cell E w im (gad E (1 + 2)) (rowE 5 8 rp) := g_mut (1 + 2) (by omega) h2
  have cc : g_cell E w im (gad E (1 + 3)) (rowE 6 20 rc) := g_mut (1 + 3) (by omega) h3
  have cl : g_cell E w im (gad E (1 + 4)) (intE 372 lc) := g_mut (1 + 4) (by omega) h4
  have o39 := o3
  obtain ⟨oa1, oa2, oa3, oa4⟩ := o39
  refine g_enter (by decide) rfl rfl (fun h => by first | rfl | cases h) (Nat.le_of_ble_eq_true rfl) rfl ?_
  refine g_aload_n (n := 0) (i := 0) rfl rfl d_X_ride_0 ?_
  refine g_iload_n (n := 1) (i := 1) rfl rfl d_X_ride_1 ?_
  refine g_callV1 rfl rfl e_X_existingCard l_X_229 iv_X_existingCard 0 (by decide) rfl (by assumption) (by decide) (by decide) (by decide) (Nat.le_of_ble_eq_true rfl) d_X_ride_2 (c_X_existingCard hx (by omega) (fun a pa la hBa fa ga ea => ?_) (fun hBa => ?_))
  · refine g_retn ?_
    have ca := g_imm (E := E) (w := w) fa
    have da := g_imm (E := E) (w := w) ga
    obtain ⟨q1, q2, q3, q4, q5⟩ := ok8 x hBa
    have oq := ok7 (zC (cN c) x).1 q1
    have hlen := q5.1
    have hdm := dmask_lt q5
    refine g_iload_n (n := 2) (i := 2) rfl rfl d_X_ride_5 ?_
    refine g_callV1 rfl rfl e_C_rideAt l_X_315 iv_C_rideAt 8 (by decide) rfl (by assumption) (by decide) (Nat.zero_le _) (Nat.zero_le _) (Nat.le_of_ble_eq_true rfl) d_X_ride_6 (c_C_rideAt2 ca ea q5 ry (fun q9 aq bq gq tq yq hR hi1 hi2 => ?_) (fun hR => ?_))
    · refine g_ret ?_
      have cq := g_imm (E := E) (w := w) hi1
      have cg9 := g_imm (E := E) (w := w) hi2
      refine g_astore (i := 4) (by decide) rfl d_X_ride_9 ?_
      refine g_aload (i := 4) rfl d_X_ride_11 ?_
      refine g_ifnonnull (tgt := 27) (by decide) d_X_ride_13 ?_
      refine g_iload_n (n := 3) (i := 3) rfl rfl d_X_ride_27 ?_
      refine g_if_eq_i (tgt := 42) (by omega) d_X_ride_28 (by decide) (fun h28 => ?_) (fun h28 => ?_)
      · refine g_aload (i := 4) rfl d_X_ride_42 ?_
        refine g_getfield 7 2 f_X_328 (by assumption) (by rfl) d_X_ride_44 ?_
        refine g_ireturn_i rfl d_X_ride_47 ?_
        exact hQ _ _ _ (by unfold oRide; first | (rw [if_neg hBa]; done) | (rw [if_pos hBa, hR]; done) | (rw [if_pos hBa, hR]; rfl) | (rw [if_pos hBa, hR]; exact (congrArg oV (if_pos (by omega))).symm) | (rw [if_pos hBa, hR]; exact (congrArg oV (if_neg (by omega))).symm)) (XN.refl hx)
      · refine g_aload (i := 4) rfl d_X_ride_31 ?_
        refine g_getfield 7 1 f_X_321 (by assumption) (by rfl) d_X_ride_33 ?_
        refine g_getfield 5 0 f_X_327 (by assumption) (by rfl) d_X_ride_36 ?_
        refine g_goto (tgt := 47) (by decide) d_X_ride_39 ?_
        refine g_ireturn_i rfl d_X_ride_47 ?_
        exact hQ _ _ _ (by unfold oRide; first | (rw [if_neg hBa]; done) | (rw [if_pos hBa, hR]; done) | (rw [if_pos hBa, hR]; rfl) | (rw [if_pos hBa, hR]; exact (congrArg oV (if_pos (by omega))).symm) | (rw [if_pos hBa, hR]; exact (congrArg oV (if_neg (by omega))).symm)) (XN.refl hx)
    · refine g_ret ?_
      refine g_astoreN (i := 4) (by decide) rfl d_X_ride_9 ?_
      refine g_aloadN (i := 4) rfl d_X_ride_11 ?_
      refine g_ifnonnullN d_X_ride_13 ?_
      refine x_NSEw c_X_255 xs_319 rfl rfl (Nat.le_of_ble_eq_true rfl) (by omega) (by omega) d_X_ride_16 d_X_ride_19 d_X_ride_20 d_X_ride_23 d_X_ride_26 ?_
      exact hQ _ _ _ (by unfold oRide; first | (rw [if_neg hBa]; done) | (rw [if_pos hBa, hR]; done) | (rw [if_pos hBa, hR]; rfl) | (rw [if_pos hBa, hR]; exact (congrArg oV (if_pos (by omega))).symm) | (rw [if_pos hBa, hR]; exact (congrArg oV (if_neg (by omega))).symm)) (XN.refl hx)
  · refine g_retx ?_
    exact hQ _ _ _ (by unfold oRide; first | (rw [if_neg hBa]; done) | (rw [if_pos hBa, hR]; done) | (rw [if_pos hBa, hR]; rfl) | (rw [if_pos hBa, hR]; exact (congrArg oV (if_pos (by omega))).symm) | (rw [if_pos hBa, hR]; exact (congrArg oV (if_neg (by omega))).symm)) (XN.refl hx)

theorem c_X_share {E : gE} {w : gW} {im : gIm} {Q : gQ} {c : CSt} (hx : XW E w im c) {x y : Int} (rx : -2147483648 ≤ x ∧ x < 2147483648) (ry : -2147483648 ≤ y ∧ y < 2147483648) (hQ : ∀ o w' im', o = oSha (cN c) x y → XN E w im c w' im' → Q (o) w' im') : GM E 3 y_X_share m_X_share 2 12 [.ref (gad E 0), .int (iI x), .int (iI y)] w im Q := by
  have hx9 := hx
  obtain ⟨⟨hn, x0, x1, x2, x3, x4, x5, m61, x6⟩, ⟨r1, r2, r3⟩, o1, o2, o3, o4⟩ := hx9
  have k0 : g_cell E w im (gad E 0) _ := g_mut 0 (by omega) x0
  have k1 : g_cell E w im (gad E 56) _ := g_mut 56 (by omega) x1
  have k2 : g_cell E w im (gad E 57) _ := g_mut 57 (by omega) x2
  have k3 : g_cell E w im (gad E 58) _ := g_mut 58 (by omega) x3
  have k4 : g_cell E w im (gad E 59) _ := g_mut 59 (by omega) x4
  have k5 : g_cell E w im (gad E 60) _ := g_mut 60 (by omega) x5
  have k6 : g_cell E w im (gad E 61) _ := g_mut 61 (by omega) x6
  have kn := r1.cell
  have kk := r2.cell
  have hz := r1
  have hz9 := hz
  obtain ⟨rg, rp, rc, lc, ⟨hb, h0, h1, h2, h3, h4, hlc⟩, ⟨i1, i2, i3, i4, i5, i6⟩, ok⟩ := hz9
  obtain ⟨ok1, ok2, ok3, ok4, ok5, ok6, ok7, ok8, ok9⟩ := ok
  have co : g_cell E w im (gad E 1) (resE E 1 (cN c)) := g_mut 1 (by omega) h0
  have cg : g_cell E w im (gad E (1 + 1)) (rowE 4 12 rg) := g_mut (1 + 1) (by omega) h1
  have cp : g_cell E w im (gad E (1 + 2)) (rowE 5 8 rp) := g_mut (1 + 2) (by omega) h2
  have cc : g_cell E w im (gad E (1 + 3)) (rowE 6 20 rc) := g_mut (1 + 3) (by omega) h3
  have cl : g_cell E w im (gad E (1 + 4)) (intE 372 lc) := g_mut (1 + 4) (by omega) h4
  have o39 := o3
  obtain ⟨oa1, oa2, oa3, oa4⟩ := o39
  refine g_enter (by decide) rfl rfl (fun h => by first | rfl | cases h) (Nat.le_of_ble_eq_true rfl) rfl ?_
  refine g_aload_n (n := 0) (i := 0) rfl rfl d_X_share_0 ?_
  refine g_iload_n (n := 1) (i := 1) rfl rfl d_X_share_1 ?_
  refine g_callV1 rfl rfl e_X_existingCard l_X_229 iv_X_existingCard 0 (by decide) rfl (by assumption) (by decide) (by decide) (by decide) (Nat.le_of_ble_eq_true rfl) d_X_share_2 (c_X_existingCard hx (by omega) (fun a pa la hBa fa ga ea => ?_) (fun hBa => ?_))
  · refine g_retn ?_
    have ca := g_imm (E := E) (w := w) fa
    have da := g_imm (E := E) (w := w) ga
    obtain ⟨q1, q2, q3, q4, q5⟩ := ok8 x hBa
    have oq := ok7 (zC (cN c) x).1 q1
    have hlen := q5.1
    have hdm := dmask_lt q5
    refine g_astore_n (n := 3) (i := 3) rfl (by decide) rfl d_X_share_5 ?_
    refine g_iload_n (n := 2) (i := 2) rfl rfl d_X_share_6 ?_
    refine g_callS1 rfl rfl e_X_requirePartner l_X_337 st_X_requirePartner (by decide) (by decide) (by decide) (Nat.le_of_ble_eq_true rfl) d_X_share_7 (c_X_requirePartner (by omega) (fun hB => ?_) (fun hB => ?_))
    · refine g_retvn ?_
      refine g_aload_n (n := 0) (i := 0) rfl rfl d_X_share_10 ?_
      refine g_getfield 0 4 f_X_36 (by assumption) (by rfl) d_X_share_11 ?_
      refine g_aload_n (n := 3) (i := 3) rfl rfl d_X_share_14 ?_
      refine g_callV1 rfl rfl e_S_divide l_X_340 iv_S_divide 4 (by decide) rfl (by assumption) (by decide) (Nat.zero_le _) (Nat.zero_le _) (Nat.le_of_ble_eq_true rfl) d_X_share_15 (c_S_divide (q9 := zP (cN c) (zC (cN c) x).1) hn x5 x6 fa ga ea q5 q2 oq q4 (fun w m6 hs6 hm6 hn6 => ?_))
      refine g_retv ?_
      have k0 : g_cell E w im (gad E 0) _ := g_mut 0 (by omega) ((hn6 0 (by omega)).trans x0)
      have k5 : g_cell E w im (gad E 60) _ := g_mut 60 (by omega) ((hn6 60 (by omega)).trans x5)
      have x5 := (hn6 60 (by omega)).trans x5
      have hN6 := hx.sM hs6 hn6
      refine g_aload_n (n := 0) (i := 0) rfl rfl d_X_share_18 ?_
      refine g_getfield 0 4 f_X_36 (by assumption) (by rfl) d_X_share_19 ?_
      refine g_iload_n (n := 2) (i := 2) rfl rfl d_X_share_22 ?_
      refine g_callV1 rfl rfl e_S_partOf l_X_344 iv_S_partOf 4 (by decide) rfl (by assumption) (by decide) (Nat.zero_le _) (Nat.zero_le _) (Nat.le_of_ble_eq_true rfl) d_X_share_23 (c_S_partOf hn x5 hs6 (by omega) ?_)
      refine g_ret ?_
      refine g_ireturn_i rfl d_X_share_26 ?_
      exact hQ _ _ _ (by unfold oSha; rw [if_pos ⟨hBa, hB⟩, hm6 y (by omega)]; rfl) hN6
    · refine g_retx ?_
      exact hQ _ _ _ (by unfold oSha; first | (rw [if_neg (fun h => hBa h.1)]; done) | (rw [if_neg (fun h => hB h.2)]; done)) (XN.refl hx)
  · refine g_retx ?_
    exact hQ _ _ _ (by unfold oSha; first | (rw [if_neg (fun h => hBa h.1)]; done) | (rw [if_neg (fun h => hB h.2)]; done)) (XN.refl hx)

theorem c_X_partner {E : gE} {w : gW} {im : gIm} {Q : gQ} {c : CSt} (hx : XW E w im c) {x y : Int} (rx : -2147483648 ≤ x ∧ x < 2147483648) (ry : -2147483648 ≤ y ∧ y < 2147483648) (hQ : ∀ o w' im', o = oPar (cN c) x y → XN E w im c w' im' → Q (o) w' im') : GM E 3 y_X_partner m_X_partner 2 12 [.ref (gad E 0), .int (iI x), .int (iI y)] w im Q := by
  have hx9 := hx
  obtain ⟨⟨hn, x0, x1, x2, x3, x4, x5, m61, x6⟩, ⟨r1, r2, r3⟩, o1, o2, o3, o4⟩ := hx9
  have k0 : g_cell E w im (gad E 0) _ := g_mut 0 (by omega) x0
  have k1 : g_cell E w im (gad E 56) _ := g_mut 56 (by omega) x1
  have k2 : g_cell E w im (gad E 57) _ := g_mut 57 (by omega) x2
  have k3 : g_cell E w im (gad E 58) _ := g_mut 58 (by omega) x3
  have k4 : g_cell E w im (gad E 59) _ := g_mut 59 (by omega) x4
  have k5 : g_cell E w im (gad E 60) _ := g_mut 60 (by omega) x5
  have k6 : g_cell E w im (gad E 61) _ := g_mut 61 (by omega) x6
  have kn := r1.cell
  have kk := r2.cell
  have hz := r1
  have hz9 := hz
  obtain ⟨rg, rp, rc, lc, ⟨hb, h0, h1, h2, h3, h4, hlc⟩, ⟨i1, i2, i3, i4, i5, i6⟩, ok⟩ := hz9
  obtain ⟨ok1, ok2, ok3, ok4, ok5, ok6, ok7, ok8, ok9⟩ := ok
  have co : g_cell E w im (gad E 1) (resE E 1 (cN c)) := g_mut 1 (by omega) h0
  have cg : g_cell E w im (gad E (1 + 1)) (rowE 4 12 rg) := g_mut (1 + 1) (by omega) h1
  have cp : g_cell E w im (gad E (1 + 2)) (rowE 5 8 rp) := g_mut (1 + 2) (by omega) h2
  have cc : g_cell E w im (gad E (1 + 3)) (rowE 6 20 rc) := g_mut (1 + 3) (by omega) h3
  have cl : g_cell E w im (gad E (1 + 4)) (intE 372 lc) := g_mut (1 + 4) (by omega) h4
  have o39 := o3
  obtain ⟨oa1, oa2, oa3, oa4⟩ := o39
  refine g_enter (by decide) rfl rfl (fun h => by first | rfl | cases h) (Nat.le_of_ble_eq_true rfl) rfl ?_
  refine g_iload_n (n := 1) (i := 1) rfl rfl d_X_partner_0 ?_
  refine g_callS1 rfl rfl e_X_requirePartner l_X_337 st_X_requirePartner (by decide) (by decide) (by decide) (Nat.le_of_ble_eq_true rfl) d_X_partner_1 (c_X_requirePartner (by omega) (fun hB => ?_) (fun hB => ?_))
  · refine g_retvn ?_
    refine g_iload_n (n := 2) (i := 2) rfl rfl d_X_partner_4 ?_
    have hsw5 : y = 0 ∨ y = 1 ∨ y = 2 ∨ y = 3 ∨ (y < 0 ∨ 3 < y) := by omega
    rcases hsw5 with rfl | rfl | rfl | rfl | hsw5
    · refine g_tableIn (off := 31) (tgt := 36) d_X_partner_5 (by decide) (by decide) (by decide) (by decide) ?_
      refine g_aload_n (n := 0) (i := 0) rfl rfl d_X_partner_36 ?_
      refine g_iload_n (n := 1) (i := 1) rfl rfl d_X_partner_37 ?_
      refine g_callV1 rfl rfl e_X_sharesOf l_X_347 iv_X_sharesOf 0 (by decide) rfl (by assumption) (by decide) (Nat.zero_le _) (Nat.zero_le _) (Nat.le_of_ble_eq_true rfl) d_X_partner_38 (c_X_sharesOf (by assumption) (by omega) (fun w im hN => ?_))
      refine g_ret ?_
      refine g_ireturn_i rfl d_X_partner_41 ?_
      exact hQ _ _ _ (by unfold oPar; rw [if_pos hB]; rfl) hN
    · refine g_tableIn (off := 37) (tgt := 42) d_X_partner_5 (by decide) (by decide) (by decide) (by decide) ?_
      refine g_aload_n (n := 0) (i := 0) rfl rfl d_X_partner_42 ?_
      refine g_getfield 0 0 f_X_12 (by assumption) (by rfl) d_X_partner_43 ?_
      refine g_iload_n (n := 1) (i := 1) rfl rfl d_X_partner_46 ?_
      refine g_callV1 rfl rfl e_R_ridesAt l_X_350 iv_R_ridesAt 1 (by decide) rfl (by assumption) (by decide) (Nat.zero_le _) (Nat.zero_le _) (Nat.le_of_ble_eq_true rfl) d_X_partner_47 (c_R_ridesAt (by assumption) (by omega) ?_)
      refine g_ret ?_
      refine g_ireturn_i rfl d_X_partner_50 ?_
      exact hQ _ _ _ (by unfold oPar; first | (rw [if_pos hB]; rfl) | (rw [if_neg hB]; done) | (rw [if_pos hB, if_neg (by omega), if_neg (by omega), if_neg (by omega), if_neg (by omega)]; done) | ((repeat' split) <;> first | rfl | (exfalso; omega) | (exfalso; simp_all))) (XN.refl hx)
    · refine g_tableIn (off := 46) (tgt := 51) d_X_partner_5 (by decide) (by decide) (by decide) (by decide) ?_
      refine g_aload_n (n := 0) (i := 0) rfl rfl d_X_partner_51 ?_
      refine g_getfield 0 0 f_X_12 (by assumption) (by rfl) d_X_partner_52 ?_
      refine g_iload_n (n := 1) (i := 1) rfl rfl d_X_partner_55 ?_
      refine g_callV1 rfl rfl e_R_gatesOf l_X_353 iv_R_gatesOf 1 (by decide) rfl (by assumption) (by decide) (Nat.zero_le _) (Nat.zero_le _) (Nat.le_of_ble_eq_true rfl) d_X_partner_56 (c_R_gatesOf (by assumption) (by omega) ?_)
      refine g_ret ?_
      refine g_ireturn_i rfl d_X_partner_59 ?_
      exact hQ _ _ _ (by unfold oPar; first | (rw [if_pos hB]; rfl) | (rw [if_neg hB]; done) | (rw [if_pos hB, if_neg (by omega), if_neg (by omega), if_neg (by omega), if_neg (by omega)]; done) | ((repeat' split) <;> first | rfl | (exfalso; omega) | (exfalso; simp_all))) (XN.refl hx)
    · refine g_tableIn (off := 55) (tgt := 60) d_X_partner_5 (by decide) (by decide) (by decide) (by decide) ?_
      refine g_aload_n (n := 0) (i := 0) rfl rfl d_X_partner_60 ?_
      refine g_getfield 0 0 f_X_12 (by assumption) (by rfl) d_X_partner_61 ?_
      refine g_iload_n (n := 1) (i := 1) rfl rfl d_X_partner_64 ?_
      refine g_callV1 rfl rfl e_R_cardsSeenBy l_X_356 iv_R_cardsSeenBy 1 (by decide) rfl (by assumption) (by decide) (Nat.zero_le _) (Nat.zero_le _) (Nat.le_of_ble_eq_true rfl) d_X_partner_65 (c_R_cardsSeenBy (by assumption) (by omega) ?_)
      refine g_ret ?_
      refine g_ireturn_i rfl d_X_partner_68 ?_
      exact hQ _ _ _ (by unfold oPar; first | (rw [if_pos hB]; rfl) | (rw [if_neg hB]; done) | (rw [if_pos hB, if_neg (by omega), if_neg (by omega), if_neg (by omega), if_neg (by omega)]; done) | ((repeat' split) <;> first | rfl | (exfalso; omega) | (exfalso; simp_all))) (XN.refl hx)
    · refine g_tableOut (tgt := 69) d_X_partner_5 (by rw [iI_toInt (by omega)]; exact hsw5) (by decide) ?_
      refine x_IAEw c_X_71 xs_359 rfl rfl (Nat.le_of_ble_eq_true rfl) (by omega) (by omega) d_X_partner_69 d_X_partner_72 d_X_partner_73 d_X_partner_76 d_X_partner_79 ?_
      exact hQ _ _ _ (by unfold oPar; first | (rw [if_pos hB]; rfl) | (rw [if_neg hB]; done) | (rw [if_pos hB, if_neg (by omega), if_neg (by omega), if_neg (by omega), if_neg (by omega)]; done) | ((repeat' split) <;> first | rfl | (exfalso; omega) | (exfalso; simp_all))) (XN.refl hx)
  · refine g_retx ?_
    exact hQ _ _ _ (by unfold oPar; first | (rw [if_pos hB]; rfl) | (rw [if_neg hB]; done) | (rw [if_pos hB, if_neg (by omega), if_neg (by omega), if_neg (by omega), if_neg (by omega)]; done) | ((repeat' split) <;> first | rfl | (exfalso; omega) | (exfalso; simp_all))) (XN.refl hx)

theorem c_X_account {E : gE} {w : gW} {im : gIm} {Q : gQ} {c : CSt} (hx : XW E w im c) {x : Int} (rx : -2147483648 ≤ x ∧ x < 2147483648) (hQ : ∀ o w' im', o = oAcc (cN c) x → XN E w im c w' im' → Q (o) w' im') : GM E 5 y_X_account m_X_account 1 6 [.ref (gad E 0), .int (iI x)] w im Q := by
  have hx9 := hx
  obtain ⟨⟨hn, x0, x1, x2, x3, x4, x5, m61, x6⟩, ⟨r1, r2, r3⟩, o1, o2, o3, o4⟩ := hx9
  have k0 : g_cell E w im (gad E 0) _ := g_mut 0 (by omega) x0
  have k1 : g_cell E w im (gad E 56) _ := g_mut 56 (by omega) x1
  have k2 : g_cell E w im (gad E 57) _ := g_mut 57 (by omega) x2
  have k3 : g_cell E w im (gad E 58) _ := g_mut 58 (by omega) x3
  have k4 : g_cell E w im (gad E 59) _ := g_mut 59 (by omega) x4
  have k5 : g_cell E w im (gad E 60) _ := g_mut 60 (by omega) x5
  have k6 : g_cell E w im (gad E 61) _ := g_mut 61 (by omega) x6
  have kn := r1.cell
  have kk := r2.cell
  have hz := r1
  have hz9 := hz
  obtain ⟨rg, rp, rc, lc, ⟨hb, h0, h1, h2, h3, h4, hlc⟩, ⟨i1, i2, i3, i4, i5, i6⟩, ok⟩ := hz9
  obtain ⟨ok1, ok2, ok3, ok4, ok5, ok6, ok7, ok8, ok9⟩ := ok
  have co : g_cell E w im (gad E 1) (resE E 1 (cN c)) := g_mut 1 (by omega) h0
  have cg : g_cell E w im (gad E (1 + 1)) (rowE 4 12 rg) := g_mut (1 + 1) (by omega) h1
  have cp : g_cell E w im (gad E (1 + 2)) (rowE 5 8 rp) := g_mut (1 + 2) (by omega) h2
  have cc : g_cell E w im (gad E (1 + 3)) (rowE 6 20 rc) := g_mut (1 + 3) (by omega) h3
  have cl : g_cell E w im (gad E (1 + 4)) (intE 372 lc) := g_mut (1 + 4) (by omega) h4
  have o39 := o3
  obtain ⟨oa1, oa2, oa3, oa4⟩ := o39
  refine g_enter (by decide) rfl rfl (fun h => by first | rfl | cases h) (Nat.le_of_ble_eq_true rfl) rfl ?_
  refine g_iload_n (n := 1) (i := 1) rfl rfl d_X_account_0 ?_
  have hsw1 : x = 0 ∨ x = 1 ∨ x = 2 ∨ x = 3 ∨ x = 4 ∨ (x < 0 ∨ 4 < x) := by omega
  rcases hsw1 with rfl | rfl | rfl | rfl | rfl | hsw1
  · refine g_tableIn (off := 35) (tgt := 36) d_X_account_1 (by decide) (by decide) (by decide) (by decide) ?_
    refine g_aload_n (n := 0) (i := 0) rfl rfl d_X_account_36 ?_
    refine g_getfield 0 0 f_X_12 (by assumption) (by rfl) d_X_account_37 ?_
    refine g_callV0 rfl rfl e_R_allPrices l_X_361 iv_R_allPrices 1 (by decide) rfl (by assumption) (by decide) (Nat.zero_le _) (Nat.zero_le _) (Nat.le_of_ble_eq_true rfl) d_X_account_40 (c_R_allPrices (by assumption) ?_)
    refine g_ret ?_
    refine g_ireturn_i rfl d_X_account_43 ?_
    exact hQ _ _ _ (by unfold oAcc; first | rfl | (rw [if_neg (by omega), if_neg (by omega), if_neg (by omega), if_neg (by omega), if_neg (by omega)]; done) | ((repeat' split) <;> first | rfl | (exfalso; omega) | (exfalso; simp_all))) (XN.refl hx)
  · refine g_tableIn (off := 43) (tgt := 44) d_X_account_1 (by decide) (by decide) (by decide) (by decide) ?_
    refine g_aload_n (n := 0) (i := 0) rfl rfl d_X_account_44 ?_
    refine g_getfield 0 0 f_X_12 (by assumption) (by rfl) d_X_account_45 ?_
    refine g_callV0 rfl rfl e_R_allRefunds l_X_364 iv_R_allRefunds 1 (by decide) rfl (by assumption) (by decide) (Nat.zero_le _) (Nat.zero_le _) (Nat.le_of_ble_eq_true rfl) d_X_account_48 (c_R_allRefunds (by assumption) ?_)
    refine g_ret ?_
    refine g_ireturn_i rfl d_X_account_51 ?_
    exact hQ _ _ _ (by unfold oAcc; first | rfl | (rw [if_neg (by omega), if_neg (by omega), if_neg (by omega), if_neg (by omega), if_neg (by omega)]; done) | ((repeat' split) <;> first | rfl | (exfalso; omega) | (exfalso; simp_all))) (XN.refl hx)
  · refine g_tableIn (off := 51) (tgt := 52) d_X_account_1 (by decide) (by decide) (by decide) (by decide) ?_
    refine g_aload_n (n := 0) (i := 0) rfl rfl d_X_account_52 ?_
    refine g_callV0 rfl rfl e_X_allShares l_X_367 iv_X_allShares 0 (by decide) rfl (by assumption) (by decide) (Nat.zero_le _) (Nat.zero_le _) (Nat.le_of_ble_eq_true rfl) d_X_account_53 (c_X_allShares (by assumption) (fun w im hN => ?_))
    refine g_ret ?_
    refine g_ireturn_i rfl d_X_account_56 ?_
    exact hQ _ _ _ rfl hN
  · refine g_tableIn (off := 56) (tgt := 57) d_X_account_1 (by decide) (by decide) (by decide) (by decide) ?_
    refine g_aload_n (n := 0) (i := 0) rfl rfl d_X_account_57 ?_
    refine g_getfield 0 0 f_X_12 (by assumption) (by rfl) d_X_account_58 ?_
    refine g_callV0 rfl rfl e_R_allIdle l_X_370 iv_R_allIdle 1 (by decide) rfl (by assumption) (by decide) (Nat.zero_le _) (Nat.zero_le _) (Nat.le_of_ble_eq_true rfl) d_X_account_61 (c_R_allIdle (by assumption) ?_)
    refine g_ret ?_
    refine g_ireturn_i rfl d_X_account_64 ?_
    exact hQ _ _ _ (by unfold oAcc; first | rfl | (rw [if_neg (by omega), if_neg (by omega), if_neg (by omega), if_neg (by omega), if_neg (by omega)]; done) | ((repeat' split) <;> first | rfl | (exfalso; omega) | (exfalso; simp_all))) (XN.refl hx)
  · refine g_tableIn (off := 64) (tgt := 65) d_X_account_1 (by decide) (by decide) (by decide) (by decide) ?_
    refine g_aload_n (n := 0) (i := 0) rfl rfl d_X_account_65 ?_
    refine g_getfield 0 0 f_X_12 (by assumption) (by rfl) d_X_account_66 ?_
    refine g_callV0 rfl rfl e_R_allRefundable l_X_373 iv_R_allRefundable 1 (by decide) rfl (by assumption) (by decide) (Nat.zero_le _) (Nat.zero_le _) (Nat.le_of_ble_eq_true rfl) d_X_account_69 (c_R_allRefundable (by assumption) ?_)
    refine g_ret ?_
    refine g_ireturn_i rfl d_X_account_72 ?_
    exact hQ _ _ _ (by unfold oAcc; first | rfl | (rw [if_neg (by omega), if_neg (by omega), if_neg (by omega), if_neg (by omega), if_neg (by omega)]; done) | ((repeat' split) <;> first | rfl | (exfalso; omega) | (exfalso; simp_all))) (XN.refl hx)
  · refine g_tableOut (tgt := 73) d_X_account_1 (by rw [iI_toInt (by omega)]; exact hsw1) (by decide) ?_
    refine x_IAEw c_X_71 xs_376 rfl rfl (Nat.le_of_ble_eq_true rfl) (by omega) (by omega) d_X_account_73 d_X_account_76 d_X_account_77 d_X_account_80 d_X_account_83 ?_
    exact hQ _ _ _ (by unfold oAcc; first | rfl | (rw [if_neg (by omega), if_neg (by omega), if_neg (by omega), if_neg (by omega), if_neg (by omega)]; done) | ((repeat' split) <;> first | rfl | (exfalso; omega) | (exfalso; simp_all))) (XN.refl hx)

theorem c_X_meanRides {E : gE} {w : gW} {im : gIm} {Q : gQ} {c : CSt} (hx : XW E w im c) (hQ : ∀ o w' im', o = oMean (cN c) → XN E w im c w' im' → Q (o) w' im') : GM E 2 y_X_meanRides m_X_meanRides 1 6 [.ref (gad E 0)] w im Q := by
  have hx9 := hx
  obtain ⟨⟨hn, x0, x1, x2, x3, x4, x5, m61, x6⟩, ⟨r1, r2, r3⟩, o1, o2, o3, o4⟩ := hx9
  have k0 : g_cell E w im (gad E 0) _ := g_mut 0 (by omega) x0
  have k1 : g_cell E w im (gad E 56) _ := g_mut 56 (by omega) x1
  have k2 : g_cell E w im (gad E 57) _ := g_mut 57 (by omega) x2
  have k3 : g_cell E w im (gad E 58) _ := g_mut 58 (by omega) x3
  have k4 : g_cell E w im (gad E 59) _ := g_mut 59 (by omega) x4
  have k5 : g_cell E w im (gad E 60) _ := g_mut 60 (by omega) x5
  have k6 : g_cell E w im (gad E 61) _ := g_mut 61 (by omega) x6
  have kn := r1.cell
  have kk := r2.cell
  have hz := r1
  have hz9 := hz
  obtain ⟨rg, rp, rc, lc, ⟨hb, h0, h1, h2, h3, h4, hlc⟩, ⟨i1, i2, i3, i4, i5, i6⟩, ok⟩ := hz9
  obtain ⟨ok1, ok2, ok3, ok4, ok5, ok6, ok7, ok8, ok9⟩ := ok
  have co : g_cell E w im (gad E 1) (resE E 1 (cN c)) := g_mut 1 (by omega) h0
  have cg : g_cell E w im (gad E (1 + 1)) (rowE 4 12 rg) := g_mut (1 + 1) (by omega) h1
  have cp : g_cell E w im (gad E (1 + 2)) (rowE 5 8 rp) := g_mut (1 + 2) (by omega) h2
  have cc : g_cell E w im (gad E (1 + 3)) (rowE 6 20 rc) := g_mut (1 + 3) (by omega) h3
  have cl : g_cell E w im (gad E (1 + 4)) (intE 372 lc) := g_mut (1 + 4) (by omega) h4
  have o39 := o3
  obtain ⟨oa1, oa2, oa3, oa4⟩ := o39
  refine g_enter (by decide) rfl rfl (fun h => by first | rfl | cases h) (Nat.le_of_ble_eq_true rfl) rfl ?_
  refine g_aload_n (n := 0) (i := 0) rfl rfl d_X_meanRides_0 ?_
  refine g_getfield 0 0 f_X_12 (by assumption) (by rfl) d_X_meanRides_1 ?_
  refine g_callV0 rfl rfl e_R_cardsInForce l_X_378 iv_R_cardsInForce 1 (by decide) rfl (by assumption) (by decide) (Nat.zero_le _) (Nat.zero_le _) (Nat.le_of_ble_eq_true rfl) d_X_meanRides_4 (c_R_cardsInForce hz ?_)
  refine g_ret ?_
  have hif := sumZ_le (f := fun k9 => if k9 < zc (cN c) then (if (zC (cN c) k9).2.1 = 2 then 0 else 1) else 0) (c := 1) (n := 20) (by omega) (fun k9 _ _ => by (repeat' split) <;> omega)
  refine g_istore_n (n := 1) (i := 1) rfl (by decide) rfl d_X_meanRides_7 ?_
  refine g_iload_n (n := 1) (i := 1) rfl rfl d_X_meanRides_8 ?_
  refine g_if_gt_i (tgt := 23) (by omega) d_X_meanRides_9 (by decide) (fun h9 => ?_) (fun h9 => ?_)
  · refine g_aload_n (n := 0) (i := 0) rfl rfl d_X_meanRides_23 ?_
    refine g_getfield 0 0 f_X_12 (by assumption) (by rfl) d_X_meanRides_24 ?_
    refine g_callV0 rfl rfl e_R_ridesOnAllCards l_X_193 iv_R_ridesOnAllCards 1 (by decide) rfl (by assumption) (by decide) (Nat.zero_le _) (Nat.zero_le _) (Nat.le_of_ble_eq_true rfl) d_X_meanRides_27 (c_R_ridesOnAllCards (by assumption) ?_)
    refine g_ret ?_
    refine g_i2d d_X_meanRides_30 ?_
    refine g_iload_n (n := 1) (i := 1) rfl rfl d_X_meanRides_31 ?_
    refine g_i2d d_X_meanRides_32 ?_
    refine g_ddiv (nn_ddiv (fun h => by rw [iI_0, iI_eq (by omega) (by omega)] at h; omega)) d_X_meanRides_33 ?_
    refine g_dreturn rfl d_X_meanRides_34 ?_
    exact hQ _ _ _ (by unfold oMean inForce; first | (rw [if_pos (by omega)]; done) | (rw [if_neg (by omega)]; rfl)) (XN.refl hx)
  · refine x_ARIw c_X_381 xs_383 rfl rfl (Nat.le_of_ble_eq_true rfl) (by omega) (by omega) d_X_meanRides_12 d_X_meanRides_15 d_X_meanRides_16 d_X_meanRides_19 d_X_meanRides_22 ?_
    exact hQ _ _ _ (by unfold oMean inForce; first | (rw [if_pos (by omega)]; done) | (rw [if_neg (by omega)]; rfl)) (XN.refl hx)

theorem c_X_closedShare {E : gE} {w : gW} {im : gIm} {Q : gQ} {c : CSt} (hx : XW E w im c) {x : Int} (rx : -2147483648 ≤ x ∧ x < 2147483648) (hQ : ∀ o w' im', o = oClSh (cN c) x → XN E w im c w' im' → Q (o) w' im') : GM E 2 y_X_closedShare m_X_closedShare 2 12 [.ref (gad E 0), .int (iI x)] w im Q := by
  have hx9 := hx
  obtain ⟨⟨hn, x0, x1, x2, x3, x4, x5, m61, x6⟩, ⟨r1, r2, r3⟩, o1, o2, o3, o4⟩ := hx9
  have k0 : g_cell E w im (gad E 0) _ := g_mut 0 (by omega) x0
  have k1 : g_cell E w im (gad E 56) _ := g_mut 56 (by omega) x1
  have k2 : g_cell E w im (gad E 57) _ := g_mut 57 (by omega) x2
  have k3 : g_cell E w im (gad E 58) _ := g_mut 58 (by omega) x3
  have k4 : g_cell E w im (gad E 59) _ := g_mut 59 (by omega) x4
  have k5 : g_cell E w im (gad E 60) _ := g_mut 60 (by omega) x5
  have k6 : g_cell E w im (gad E 61) _ := g_mut 61 (by omega) x6
  have kn := r1.cell
  have kk := r2.cell
  have hz := r1
  have hz9 := hz
  obtain ⟨rg, rp, rc, lc, ⟨hb, h0, h1, h2, h3, h4, hlc⟩, ⟨i1, i2, i3, i4, i5, i6⟩, ok⟩ := hz9
  obtain ⟨ok1, ok2, ok3, ok4, ok5, ok6, ok7, ok8, ok9⟩ := ok
  have co : g_cell E w im (gad E 1) (resE E 1 (cN c)) := g_mut 1 (by omega) h0
  have cg : g_cell E w im (gad E (1 + 1)) (rowE 4 12 rg) := g_mut (1 + 1) (by omega) h1
  have cp : g_cell E w im (gad E (1 + 2)) (rowE 5 8 rp) := g_mut (1 + 2) (by omega) h2
  have cc : g_cell E w im (gad E (1 + 3)) (rowE 6 20 rc) := g_mut (1 + 3) (by omega) h3
  have cl : g_cell E w im (gad E (1 + 4)) (intE 372 lc) := g_mut (1 + 4) (by omega) h4
  have o39 := o3
  obtain ⟨oa1, oa2, oa3, oa4⟩ := o39
  refine g_enter (by decide) rfl rfl (fun h => by first | rfl | cases h) (Nat.le_of_ble_eq_true rfl) rfl ?_
  refine g_aload_n (n := 0) (i := 0) rfl rfl d_X_closedShare_0 ?_
  refine g_iload_n (n := 1) (i := 1) rfl rfl d_X_closedShare_1 ?_
  refine g_callV1 rfl rfl e_X_existingGate l_X_115 iv_X_existingGate 0 (by decide) rfl (by assumption) (by decide) (by decide) (by decide) (Nat.le_of_ble_eq_true rfl) d_X_closedShare_2 (c_X_existingGate hx (by omega) (fun a hBa fa => ?_) (fun hBa => ?_))
  · refine g_retn ?_
    have ca := g_imm (E := E) (w := w) fa
    have va := ok6 x hBa
    refine g_astore_n (n := 2) (i := 2) rfl (by decide) rfl d_X_closedShare_5 ?_
    refine g_aload_n (n := 0) (i := 0) rfl rfl d_X_closedShare_6 ?_
    refine g_getfield 0 0 f_X_12 (by assumption) (by rfl) d_X_closedShare_7 ?_
    refine g_callV0 rfl rfl e_R_countedSoFar l_X_386 iv_R_countedSoFar 1 (by decide) rfl (by assumption) (by decide) (Nat.zero_le _) (Nat.zero_le _) (Nat.le_of_ble_eq_true rfl) d_X_closedShare_10 (c_R_countedSoFar hz ?_)
    refine g_ret ?_
    have hif := sumZ_le (f := fun k9 => cbZ 0 (zk (cN c)) k9) (c := 480) (n := 31) (by omega) (fun k9 _ _ => cbZ_le)
    refine g_istore_n (n := 3) (i := 3) rfl (by decide) rfl d_X_closedShare_13 ?_
    refine g_iload_n (n := 3) (i := 3) rfl rfl d_X_closedShare_14 ?_
    refine g_if_gt_i (tgt := 29) (by omega) d_X_closedShare_15 (by decide) (fun h15 => ?_) (fun h15 => ?_)
    · refine g_aload_n (n := 0) (i := 0) rfl rfl d_X_closedShare_29 ?_
      refine g_getfield 0 0 f_X_12 (by assumption) (by rfl) d_X_closedShare_30 ?_
      refine g_aload_n (n := 2) (i := 2) rfl rfl d_X_closedShare_33 ?_
      refine g_callV1 rfl rfl e_R_closedOnAllDays l_X_140 iv_R_closedOnAllDays 1 (by decide) rfl (by assumption) (by decide) (Nat.zero_le _) (Nat.zero_le _) (Nat.le_of_ble_eq_true rfl) d_X_closedShare_34 (c_R_closedOnAllDays (by assumption) (by assumption) (by omega) ?_)
      refine g_ret ?_
      refine g_i2f d_X_closedShare_37 ?_
      refine g_iload_n (n := 3) (i := 3) rfl rfl d_X_closedShare_38 ?_
      refine g_i2f d_X_closedShare_39 ?_
      refine g_fdiv (nn_fdiv (fun h => by rw [iI_0, iI_eq (by omega) (by omega)] at h; omega)) d_X_closedShare_40 ?_
      refine g_freturn rfl d_X_closedShare_41 ?_
      exact hQ _ _ _ (by unfold oClSh cntdZ; first | (rw [if_neg hBa]; done) | (rw [if_pos hBa, if_pos (by omega)]; done) | (rw [if_pos hBa, if_neg (by omega)]; rfl)) (XN.refl hx)
    · refine x_ARIw c_X_381 xs_389 rfl rfl (Nat.le_of_ble_eq_true rfl) (by omega) (by omega) d_X_closedShare_18 d_X_closedShare_21 d_X_closedShare_22 d_X_closedShare_25 d_X_closedShare_28 ?_
      exact hQ _ _ _ (by unfold oClSh cntdZ; first | (rw [if_neg hBa]; done) | (rw [if_pos hBa, if_pos (by omega)]; done) | (rw [if_pos hBa, if_neg (by omega)]; rfl)) (XN.refl hx)
  · refine g_retx ?_
    exact hQ _ _ _ (by unfold oClSh cntdZ; first | (rw [if_neg hBa]; done) | (rw [if_pos hBa, if_pos (by omega)]; done) | (rw [if_pos hBa, if_neg (by omega)]; rfl)) (XN.refl hx)

