/-! ===== what only reads: the answers are the same ===== -/
theorem sums_if {m : Int → Int} {R : Rz} (ok : okM m) (h : MZ m R) {F G : Int → Int} (hF : ∀ k, 0 ≤ k ∧ k < m 3 → F k = G k) : sumZ (fun k9 => if k9 < zc R then F k9 else 0) 20 = sumZ G (m 3) := by
  rw [h.1.2.2.2, sumZ_if ok.2.2.2.1]
  exact sumZ_congr hF
theorem A_gate {m : Int → Int} {R : Rz} (ok : okM m) (h : MZ m R) {x y : Int} : An sIB sIA (oGate R x y) (gGate m x y) := by
  obtain ⟨⟨a0, a1, a2, a3⟩, b1, b2, b3, b4, b5, b6, b7, b8, b9, b10, b11⟩ := id h
  obtain ⟨z0, z1, z2, z3, z4, z5, z6, z7, z8, z9⟩ := id ok
  unfold oGate gGate isG
  rw [a1]
  by_cases hx : 0 ≤ x ∧ x < m 1
  · rw [if_pos hx, if_pos hx, b1 x hx]
    by_cases e0 : y = 0
    · rw [if_pos e0, if_pos e0]; exact an0 rfl
    rw [if_neg e0, if_neg e0]
    by_cases e1 : y = 1
    · rw [if_pos e1, if_pos e1]; exact an0 rfl
    rw [if_neg e1, if_neg e1]
    by_cases e2 : y = 2
    · rw [if_pos e2, if_pos e2]
      refine an0 ?_
      have h2 := b2 x (by omega)
      have zx := z6 x hx
      by_cases ht : tb (zs R) x = true
      · rw [if_pos ht]; exact (h2.1 ht).symm
      · rw [if_neg ht]
        have : ¬ m (5 + 34 * x + 2) = 1 := fun e => ht (h2.2 e)
        omega
    rw [if_neg e2, if_neg e2]
    by_cases e3 : y = 3
    · rw [if_pos e3, if_pos e3]; exact an0 (thrG_eq ok h)
    rw [if_neg e3, if_neg e3]
    by_cases e4 : y = 4
    · rw [if_pos e4, if_pos e4, a0]; exact an0 (b4 x _ (by omega) (by omega))
    rw [if_neg e4, if_neg e4]
    by_cases e5 : y = 5
    · rw [if_pos e5, if_pos e5]; exact an0 (sumZ_congr fun k hk => b4 x k (by omega) (by omega))
    rw [if_neg e5, if_neg e5]; exact an2
  · rw [if_neg hx, if_neg hx]; exact an1
theorem cw0_eq {m : Int → Int} {R : Rz} (ok : okM m) (h : MZ m R) {x : Int} : cardsWithZ R x = cwM m x 0 := by
  unfold cardsWithZ cwM
  refine sums_if ok h fun k hk => ?_
  rw [h.2.2.2.2.2.2.1 k hk, if_pos rfl]
theorem cw1_eq {m : Int → Int} {R : Rz} (ok : okM m) (h : MZ m R) {x : Int} : cwM m x 1 = cwM m x 0 * m (413 + 6 * x + 5) := by
  unfold cwM
  have hm := sumZ_mul (P := fun k9 => decide (¬ m (461 + 5 * k9 + 1) = 2 ∧ m (461 + 5 * k9 + 0) = x)) (c := m (413 + 6 * x + 5)) (n := m 3)
  refine (sumZ_congr fun k hk => ?_).trans (hm.trans (congrArg (· * m (413 + 6 * x + 5)) (sumZ_congr fun k hk => ?_)))
  · have b7 := h.2.2.2.2.2.2.2.1 k hk
    by_cases e : m (461 + 5 * k + 1) = 2
    · rw [if_pos e, if_neg (by simp [e])]
    · rw [if_neg e] at b7 ⊢
      by_cases e2 : m (461 + 5 * k + 0) = x
      · rw [if_pos e2, if_neg (by decide), if_pos (by simp only [decide_eq_true_eq]; exact ⟨e, e2⟩), b7, e2]
      · rw [if_neg e2, if_neg (by simp only [decide_eq_true_eq]; exact fun h => e2 h.2)]
  · by_cases e : m (461 + 5 * k + 1) = 2
    · rw [if_pos e, if_neg (by simp [e])]
    · rw [if_neg e]
      by_cases e2 : m (461 + 5 * k + 0) = x
      · rw [if_pos e2, if_pos rfl, if_pos (by simp only [decide_eq_true_eq]; exact ⟨e, e2⟩)]
      · rw [if_neg e2, if_neg (by simp only [decide_eq_true_eq]; exact fun h => e2 h.2)]
theorem A_product {m : Int → Int} {R : Rz} (ok : okM m) (h : MZ m R) {x y : Int} : An sIB sIA (oProd R x y) (gProd m x y) := by
  obtain ⟨⟨a0, a1, a2, a3⟩, b1, b2, b3, b4, b5, b6, b7, b8, b9, b10, b11⟩ := id h
  unfold oProd gProd isP
  rw [a2]
  by_cases hx : 0 ≤ x ∧ x < m 2
  · rw [if_pos hx, if_pos hx, b5 x hx]
    simp only []
    by_cases e : 0 ≤ y ∧ y ≤ 5
    · rw [if_pos e]
      have : y = 0 ∨ y = 1 ∨ y = 2 ∨ y = 3 ∨ y = 4 ∨ y = 5 := by omega
      rcases this with rfl | rfl | rfl | rfl | rfl | rfl <;> exact an0 rfl
    · rw [if_neg e, if_neg (by omega), if_neg (by omega), if_neg (by omega), if_neg (by omega), if_neg (by omega), if_neg (by omega)]
      by_cases e6 : y = 6
      · rw [if_pos e6, if_pos e6]; exact an0 (gatesFor_eq ok h)
      rw [if_neg e6, if_neg e6]
      by_cases e7 : y = 7
      · rw [if_pos e7, if_pos (by omega), if_neg (by omega)]; exact an0 (cw0_eq ok h)
      rw [if_neg e7]
      by_cases e8 : y = 8
      · rw [if_pos e8, if_pos (by omega), if_pos e8]
        refine an0 ?_
        rw [cw0_eq ok h, cw1_eq ok h]
      rw [if_neg e8, if_neg (by omega)]; exact an2
  · rw [if_neg hx, if_neg hx]; exact an1
theorem A_way {m : Int → Int} {R : Rz} (h : MZ m R) {x y : Int} : An sIB sIA (oWay R x y) (gWay m x y) := by
  obtain ⟨⟨a0, a1, a2, a3⟩, b1, b2, b3, b4, b5, b6, b7, b8, b9, b10, b11⟩ := id h
  unfold oWay gWay isG
  rw [a1]
  by_cases hx : (0 ≤ x ∧ x < m 1) ∧ (0 ≤ y ∧ y < m 1)
  · rw [if_pos hx, if_pos hx, b1 x hx.1, b1 y hx.2]; exact an0 rfl
  · rw [if_neg hx, if_neg hx]; exact an1
theorem A_system {m : Int → Int} {R : Rz} {f : Nat → Int} (ok : okM m) (oz : okZ R) (h : MZ m R) {x : Int} : An sIA sIS (oSys R (f 11) (f 2) x) (gSys m f x) := by
  unfold oSys gSys
  rw [h.1.1, h.1.2.1, h.1.2.2.1, h.1.2.2.2, allRides_eq ok h, cg_eq ok oz h]
  by_cases e0 : x = 0
  · rw [if_pos e0, if_pos e0]; exact an0 rfl
  rw [if_neg e0, if_neg e0]
  by_cases e1 : x = 1
  · rw [if_pos e1, if_pos e1]; exact an0 rfl
  rw [if_neg e1, if_neg e1]
  by_cases e2 : x = 2
  · rw [if_pos e2, if_pos e2]; exact an0 rfl
  rw [if_neg e2, if_neg e2]
  by_cases e3 : x = 3
  · rw [if_pos e3, if_pos e3]; exact an0 rfl
  rw [if_neg e3, if_neg e3]
  by_cases e4 : x = 4
  · rw [if_pos e4, if_pos e4]; exact an0 rfl
  rw [if_neg e4, if_neg e4]
  by_cases e5 : x = 5
  · rw [if_pos e5, if_pos e5]; exact an0 rfl
  rw [if_neg e5, if_neg e5]
  by_cases e6 : x = 6
  · rw [if_pos e6, if_pos e6]; exact an0 rfl
  rw [if_neg e6, if_neg e6]
  by_cases e7 : x = 7
  · rw [if_pos e7, if_pos e7]; exact an0 rfl
  rw [if_neg e7, if_neg e7]
  by_cases e8 : x = 8
  · rw [if_pos e8, if_pos e8]; exact an0 rfl
  rw [if_neg e8, if_neg e8]
  by_cases e9 : x = 9
  · rw [if_pos e9, if_pos e9]; exact an0 rfl
  rw [if_neg e9, if_neg e9]; exact an1
theorem A_closed {m : Int → Int} {R : Rz} (ok : okM m) (h : MZ m R) {x y : Int} : An sIB sIA (oClo R x y) (gClo m x y) := by
  have z1 := ok.2.1
  unfold oClo gClo isG
  rw [h.1.2.1]
  by_cases hx : 0 ≤ x ∧ x < m 1
  · rw [if_pos hx, if_pos hx]
    by_cases hy : 0 ≤ y ∧ y ≤ 30
    · rw [if_pos hy, if_pos hy]; exact an0 (h.2.2.2.2.1 x y (by omega) hy)
    · rw [if_neg hy, if_neg hy]; exact an2
  · rw [if_neg hx, if_neg hx]; exact an1
theorem A_closedDay {m : Int → Int} {R : Rz} (ok : okM m) (h : MZ m R) {x y : Int} : An sIB sIA (oCld R x y) (gCld m x y) := by
  unfold oCld gCld isP
  rw [h.1.2.2.1]
  by_cases hx : 0 ≤ x ∧ x < m 2
  · rw [if_pos hx, if_pos hx]
    by_cases hy : 0 ≤ y ∧ y ≤ 30
    · rw [if_pos hy, if_pos hy, h.2.2.2.2.2.1 x hx]
      simp only []
      rw [closedB_eq ok h hy]; exact an0 rfl
    · rw [if_neg hy, if_neg hy]; exact an2
  · rw [if_neg hx, if_neg hx]; exact an1
theorem A_open {m : Int → Int} {R : Rz} (ok : okM m) (h : MZ m R) {x : Int} : An sIB sIA (oOpe R x) (gOpe m x) := by
  unfold oOpe gOpe isC
  rw [h.1.2.2.2]
  by_cases hx : 0 ≤ x ∧ x < m 3
  · rw [if_pos hx, if_pos hx]; exact an0 (open_eq ok h hx)
  · rw [if_neg hx, if_neg hx]; exact an1
/-- the reasons that a gate can have -/
def rsn (r : Int) : Prop := r = 0 ∨ r = 11 ∨ (21 ≤ r ∧ r ≤ 23) ∨ (31 ≤ r ∧ r ≤ 33) ∨ (41 ≤ r ∧ r ≤ 42)
theorem rfsM_rsn {m : Int → Int} {x g r : Int} (ok : okM m) (hx : 0 ≤ x ∧ x < m 3) (h : rfsM m x g r) : rsn r := by
  obtain ⟨z0, z1, z2, z3, z4, z5, z6, z7, z8, z9⟩ := ok
  have zx := z8 x hx
  unfold rfsM at h
  unfold rsn
  rcases h with ⟨a1, h⟩ | ⟨a1, ⟨a2, h⟩ | ⟨a2, ⟨a3, h⟩ | ⟨a3, ⟨a4, h⟩ | ⟨a4, ⟨a5, h⟩ | ⟨a5, ⟨a6, h⟩ | ⟨a6, h⟩⟩⟩⟩⟩⟩ <;> first | omega | (subst h; (repeat' split) <;> omega)
theorem A_refusal {r x : Int} (hr : rsn r) : An sIS sNS (oRfs r x) (gRfs r x) := by
  unfold rsn at hr
  unfold oRfs gRfs chainZ
  by_cases h0 : r = 0
  · rw [if_pos h0, if_pos h0]; exact an1
  rw [if_neg h0, if_neg h0]
  have hl : (if 3 < r / 10 then 3 else r / 10) = (if r = 11 then 2 else if r < 30 then 3 else 4) - 1 := by (repeat' split) <;> omega
  rw [hl]
  by_cases h1 : 0 ≤ x ∧ x ≤ (if r = 11 then 2 else if r < 30 then 3 else 4) - 1
  · rw [if_pos h1, if_neg (show ¬ (x < 0 ∨ (if r = 11 then 2 else if r < 30 then 3 else 4) - 1 < x) by omega)]
    by_cases h2 : x = (if r = 11 then 2 else if r < 30 then 3 else 4) - 1
    · rw [if_pos h2, if_pos h2, if_neg (by omega)]; exact an0 rfl
    · rw [if_neg h2, if_neg h2]
      by_cases h3 : x < 2
      · rw [if_pos h3, if_pos h3, if_neg (by omega)]; exact an0 rfl
      · rw [if_neg h3, if_neg h3, if_neg (by omega)]
        refine an0 ?_
        revert h1 h2
        (repeat' split) <;> intros <;> omega
  · rw [if_neg h1, if_pos (show (x < 0 ∨ (if r = 11 then 2 else if r < 30 then 3 else 4) - 1 < x) by omega), if_pos rfl]; exact an2
theorem A_card {m : Int → Int} {R : Rz} (ok : okM m) (h : MZ m R) {x y : Int} : An sIB sIA (oCard R x y) (gCard m x y) := by
  obtain ⟨⟨a0, a1, a2, a3⟩, b1, b2, b3, b4, b5, b6, b7, b8, b9, b10, b11⟩ := id h
  unfold oCard gCard isC
  rw [a3]
  by_cases hx : 0 ≤ x ∧ x < m 3
  · have zx := ok.2.2.2.2.2.2.2.2.1 x hx
    rw [if_pos hx, if_pos hx, b6 x hx]
    simp only []
    rw [b5 _ zx.1, a0]
    simp only []
    by_cases e0 : y = 0
    · rw [if_pos e0, if_pos e0]; exact an0 (lp_eq ok h hx).symm
    rw [if_neg e0, if_neg e0]
    by_cases e1 : y = 1
    · rw [if_pos e1, if_pos e1]; exact an0 rfl
    rw [if_neg e1, if_neg e1]
    by_cases e2 : y = 2
    · rw [if_pos e2, if_pos e2]; exact an0 crs_len
    rw [if_neg e2, if_neg e2]
    by_cases e3 : y = 3
    · rw [if_pos e3, if_pos e3]; exact an0 (daysM_popc ok)
    rw [if_neg e3, if_neg e3]
    by_cases e4 : y = 4
    · rw [if_pos e4, if_pos e4]; exact an0 rfl
    rw [if_neg e4, if_neg e4]
    by_cases e5 : y = 5
    · rw [if_pos e5, if_pos e5]; exact an0 (lastZ_eq ok h hx)
    rw [if_neg e5, if_neg e5]
    by_cases e6 : y = 6
    · rw [if_pos e6, if_pos e6]; exact an0 (b7 x hx).symm
    rw [if_neg e6, if_neg e6]
    by_cases e7 : y = 7
    · rw [if_pos e7, if_pos e7]; exact an0 rfl
    rw [if_neg e7, if_neg e7]
    by_cases e8 : y = 8
    · rw [if_pos e8, if_pos e8]; exact an0 (left_eq ok h hx)
    rw [if_neg e8, if_neg e8]; exact an2
  · rw [if_neg hx, if_neg hx]; exact an1
theorem A_ride {m : Int → Int} {R : Rz} (h : MZ m R) {x y z : Int} (hz : 0 ≤ z ∧ z ≤ 1) : An sIB sNS (oRide R x y z) (gRide m x y z) := by
  unfold oRide gRide isC
  rw [h.1.2.2.2]
  by_cases hx : 0 ≤ x ∧ x < m 3
  · rw [if_pos hx, if_pos hx, h.2.2.2.2.2.2.1 x hx]
    simp only []
    by_cases hy : y < 0
    · rw [if_pos hy, nthR_neg hy]; exact an2
    · rw [if_neg hy]
      by_cases e : rideAtM m x y = -1
      · rw [if_pos e, rideAt_nth.1 e]; exact an2
      · rw [if_neg e, rideAt_nth.2 e]
        by_cases e2 : z = 0
        · rw [if_pos e2]; exact an0 (if_neg (by omega))
        · rw [if_neg e2]; exact an0 (if_pos (by omega))
  · rw [if_neg hx, if_neg hx]; exact an1
theorem A_refundable {m : Int → Int} {R : Rz} (ok : okM m) (h : MZ m R) {x : Int} : An sIB sIA (oRfb R x) (gRfb m x) := by
  unfold oRfb gRfb isC
  rw [h.1.2.2.2]
  by_cases hx : 0 ≤ x ∧ x < m 3
  · rw [if_pos hx, if_pos hx]; exact an0 (refund_eq ok h hx)
  · rw [if_neg hx, if_neg hx]; exact an1
theorem A_share {m : Int → Int} {R : Rz} (ok : okM m) (h : MZ m R) {x y : Int} : An sIB sIA (oSha R x y) (gSha m x y) := by
  unfold oSha gSha isC
  rw [h.1.2.2.2]
  by_cases hx : (0 ≤ x ∧ x < m 3) ∧ (0 ≤ y ∧ y ≤ 3)
  · rw [if_pos hx, if_pos hx]; exact an0 (share_eq ok h hx.1)
  · rw [if_neg hx, if_neg hx]; exact an1
theorem A_partner {m : Int → Int} {R : Rz} (ok : okM m) (h : MZ m R) {x y : Int} : An sIB sIA (oPar R x y) (gPar m x y) := by
  unfold oPar gPar
  by_cases hx : 0 ≤ x ∧ x ≤ 3
  · rw [if_pos hx, if_pos hx]
    by_cases e0 : y = 0
    · rw [if_pos e0, if_pos e0]; exact an0 (sharesP_eq ok h)
    rw [if_neg e0, if_neg e0]
    by_cases e1 : y = 1
    · rw [if_pos e1, if_pos e1]; exact an0 (ridesAtP_eq ok h)
    rw [if_neg e1, if_neg e1]
    by_cases e2 : y = 2
    · rw [if_pos e2, if_pos e2]
      refine an0 ?_
      unfold gatesOfP gpM
      rw [h.1.2.1, sumZ_if ok.2.1]
      exact sumZ_congr fun k hk => by rw [h.2.1 k hk]
    rw [if_neg e2, if_neg e2]
    by_cases e3 : y = 3
    · rw [if_pos e3, if_pos e3]
      refine an0 ?_
      unfold seenBy cpM
      exact sums_if ok h fun k hk => by rw [h.2.2.2.2.2.2.1 k hk]; simp only []; rw [crs_cntP]
    rw [if_neg e3, if_neg e3]; exact an2
  · rw [if_neg hx, if_neg hx]; exact an1
theorem price_eq {m : Int → Int} {R : Rz} (ok : okM m) (h : MZ m R) : allPrice R = soM m 0 := by
  unfold allPrice soM
  refine sums_if ok h fun k hk => ?_
  rw [h.2.2.2.2.2.2.1 k hk, if_pos rfl]
  simp only []
  rw [h.2.2.2.2.2.1 _ (ok.2.2.2.2.2.2.2.2.1 k hk).1, h.2.2.2.2.2.2.2.1 k hk]
theorem refs_eq {m : Int → Int} {R : Rz} (ok : okM m) (h : MZ m R) : allRef R = soM m 1 := by
  unfold allRef soM
  refine sums_if ok h fun k hk => ?_
  rw [h.2.2.2.2.2.2.1 k hk, if_neg (by decide), if_pos rfl]
theorem idle_eq {m : Int → Int} {R : Rz} (ok : okM m) (h : MZ m R) : allIdleZ R = soM m 3 := by
  unfold allIdleZ soM
  refine sums_if ok h fun k hk => ?_
  have hr := ridesOnM_rng ok.2.2.2.2.1 (x := k)
  rw [if_neg (show ¬ (3 : Int) = 0 by decide), if_neg (show ¬ (3 : Int) = 1 by decide), if_neg (show ¬ (3 : Int) = 4 by decide), h.2.2.2.2.2.2.1 k hk]
  simp only []
  rw [h.2.2.2.2.2.1 _ (ok.2.2.2.2.2.2.2.2.1 k hk).1, h.2.2.2.2.2.2.2.1 k hk, crs_len]
  by_cases e : ridesOnM m k = 0
  · rw [if_pos e, if_neg (show ¬ 0 < ridesOnM m k by omega)]
  · rw [if_neg e, if_pos (show 0 < ridesOnM m k by omega)]
theorem refb_eq {m : Int → Int} {R : Rz} (ok : okM m) (h : MZ m R) : allRefb R = soM m 4 := by
  unfold allRefb soM
  refine sums_if ok h fun k hk => ?_
  rw [if_neg (by decide), if_neg (by decide), if_pos rfl]
  exact refund_eq ok h hk
theorem A_account {m : Int → Int} {R : Rz} (ok : okM m) (h : MZ m R) {x : Int} : An sIA sIS (oAcc R x) (gAcc m x) := by
  unfold oAcc gAcc
  by_cases e0 : x = 0
  · subst e0; exact an0 (price_eq ok h)
  rw [if_neg e0]
  by_cases e1 : x = 1
  · subst e1; exact an0 (refs_eq ok h)
  rw [if_neg e1]
  by_cases e2 : x = 2
  · subst e2; exact an0 (sharesA_eq ok h)
  rw [if_neg e2]
  by_cases e3 : x = 3
  · subst e3; exact an0 (idle_eq ok h)
  rw [if_neg e3]
  by_cases e4 : x = 4
  · subst e4; exact an0 (refb_eq ok h)
  rw [if_neg e4, if_neg (by omega)]; exact an1
theorem A_num {x : Int} : An sNS sIA (oNum x) (gNum x) := by
  unfold oNum gNum
  by_cases h : x = -1
  · rw [if_pos h, if_pos h]; exact an1
  · rw [if_neg h, if_neg h]; exact an0 rfl
theorem inForce_eq {m : Int → Int} {R : Rz} (ok : okM m) (h : MZ m R) : inForce R = ifM m := by
  unfold inForce ifM
  exact sums_if ok h fun k hk => by rw [h.2.2.2.2.2.2.1 k hk]
theorem cntd_eq {m : Int → Int} {R : Rz} (ok : okM m) (h : MZ m R) : cntdZ R = cmM m := by
  have z0 := ok.1
  unfold cntdZ cmM
  rw [h.1.1]
  have : ∀ n : Nat, n ≤ 31 → sumN (fun k9 => cbZ 0 (m 0) k9) n = if (n : Int) ≤ m 0 / 1440 then 480 * (n : Int) else 480 * (m 0 / 1440) + (if m 0 % 1440 - 480 < 0 then 0 else if 480 < m 0 % 1440 - 480 then 480 else m 0 % 1440 - 480) := by
    intro n
    induction n with
    | zero => intro _; rw [if_pos (by omega)]; rfl
    | succ n ih =>
      intro hn
      rw [sumN, ih (by omega)]
      unfold cbZ
      by_cases e : ((n + 1 : Nat) : Int) ≤ m 0 / 1440
      · rw [if_pos (by omega), if_pos e]; omega
      · rw [if_neg e]
        by_cases e2 : (n : Int) ≤ m 0 / 1440
        · rw [if_pos e2]
          (repeat' split) <;> omega
        · rw [if_neg e2]
          (repeat' split) <;> omega
  have h31 := this 31 (Nat.le_refl _)
  rw [if_neg (by omega)] at h31
  exact h31
theorem allDays_eq {m : Int → Int} {R : Rz} (h : MZ m R) {x : Int} (hx : 0 ≤ x ∧ x < 12) : allDays R x = ciM m x := by
  unfold allDays ciM
  exact sumZ_congr fun k hk => h.2.2.2.2.1 x k hx (by omega)
