/-! ===== the reference: ride ===== -/
def gRide (m : Int → Int) (x y z : Int) : Int × Int := if 0 ≤ x ∧ x < m 3 then (if y < 0 then (2, 0) else if rideAtM m x y = -1 then (2, 0) else if z = 0 then (0, m (561 + 3 * rideAtM m x y + 2)) else (0, m (561 + 3 * rideAtM m x y + 1))) else (1, 0)

theorem c_M_ride {E : gE} {w : gW} {im : gIm} {Q : gQ} {f : Nat → Int} {m : Int → Int} (hm : MR E w f m) (ok : okM m) {x y z : Int} (rx : -2147483648 ≤ x ∧ x < 2147483648) (ry : -2147483648 ≤ y ∧ y < 2147483648) (rz : 0 ≤ z ∧ z ≤ 1) (hQ : ∀ t r w', (t, r) = gRide m x y z → MTh E w f m t w' → Q (oV r) w' im) : GM E 2 y_M_ride m_M_ride 0 0 [.ref (gad E 62), .int (iI x), .int (iI y), .int (iI z)] w im Q := by
  obtain ⟨hn, u2, u3⟩ := id hm
  have k2 : g_cell E w im (gad E 62) _ := g_mut 62 (by omega) u2
  have k3 : g_cell E w im (gad E 63) _ := g_mut 63 (by omega) u3
  obtain ⟨z0, z1, z2, z3, z4, z5, z6, z7, z8, z9⟩ := id ok
  refine g_enter (by decide) rfl rfl (fun h => by first | rfl | cases h) (Nat.le_of_ble_eq_true rfl) rfl ?_
  refine g_aload_n (n := 0) (i := 0) rfl rfl d_M_ride_0 ?_
  refine g_iconst_i d_M_ride_1 ?_
  refine g_putA 9 6 62 (by omega) u2 f_M_33 (Or.inl rfl) (by rfl) (by rfl) (Nat.le_of_ble_eq_true rfl) d_M_ride_2 (fun w hs hn9 => ?_)
  have hth := hm.th (t := 0) hs hn9
  have hm0 := hm
  have hm := hth.1
  obtain ⟨hn, u2, u3⟩ := id hm
  have k2 : g_cell E w im (gad E 62) _ := g_mut 62 (by omega) u2
  have k3 : g_cell E w im (gad E 63) _ := g_mut 63 (by omega) u3
  refine g_aload_n (n := 0) (i := 0) rfl rfl d_M_ride_5 ?_
  refine g_iload_n (n := 1) (i := 1) rfl rfl d_M_ride_6 ?_
  refine g_callV1 rfl rfl e_M_isCard l_M_148 iv_M_isCard 9 (by decide) rfl (by assumption) (by decide) (Nat.zero_le _) (Nat.zero_le _) (Nat.le_of_ble_eq_true rfl) d_M_ride_7 (c_M_isCard hm ok rx (fun hA => ?_) (fun hA => ?_))
  · refine g_ret ?_
    refine g_if_ne_i (tgt := 19) (by decide) d_M_ride_10 (by decide) (fun h10 => ?_) (fun h => absurd h (by decide))
    refine g_iload_n (n := 2) (i := 2) rfl rfl d_M_ride_19 ?_
    refine g_if_ge_i (tgt := 27) (by omega) d_M_ride_20 (by decide) (fun h20 => ?_) (fun h20 => ?_)
    · refine g_aload_n (n := 0) (i := 0) rfl rfl d_M_ride_27 ?_
      refine g_iload_n (n := 1) (i := 1) rfl rfl d_M_ride_28 ?_
      refine g_iload_n (n := 2) (i := 2) rfl rfl d_M_ride_29 ?_
      refine g_callV2 rfl rfl e_M_rideAt l_M_139 iv_M_rideAt 9 (by decide) rfl (by assumption) (by decide) (Nat.zero_le _) (Nat.zero_le _) (Nat.le_of_ble_eq_true rfl) d_M_ride_30 (c_M_rideAt hm ok (by omega) (by omega) ?_)
      refine g_ret ?_
      have hrr := raF_rng (m := m) (x := x) (y := y) (n := (m 4).toNat) (k := 0) (c := 0) (Int.le_refl 0)
      rw [show raF m x y (m 4).toNat 0 0 = rideAtM m x y from rfl] at hrr
      refine g_istore (i := 4) (by decide) rfl d_M_ride_33 ?_
      refine g_iload (i := 4) rfl d_M_ride_35 ?_
      refine g_iconst_i d_M_ride_37 ?_
      refine g_icmp_ne_i (tgt := 49) (by omega) (by decide) d_M_ride_38 (by decide) (fun h38 => ?_) (fun h38 => ?_)
      · refine g_aload_n (n := 0) (i := 0) rfl rfl d_M_ride_49 ?_
        refine g_iload (i := 4) rfl d_M_ride_50 ?_
        refine g_iload_n (n := 3) (i := 3) rfl rfl d_M_ride_52 ?_
        refine g_if_eq_i (tgt := 60) (by omega) d_M_ride_53 (by decide) (fun h53 => ?_) (fun h53 => ?_)
        · refine g_iconst_i d_M_ride_60 ?_
          refine g_callV2 rfl rfl e_M_rideOf l_M_59 iv_M_rideOf 9 (by decide) rfl (by assumption) (by decide) (Nat.zero_le _) (Nat.zero_le _) (Nat.le_of_ble_eq_true rfl) d_M_ride_61 (c_M_rideOf hm (by omega) (by omega) ?_)
          refine g_ret ?_
          refine g_ireturn_i rfl d_M_ride_64 ?_
          first
          | exact hQ _ _ _ (by unfold gRide; first | (rw [if_neg hA]; done) | (rw [if_neg hA]; rfl) | (rw [if_pos hA, if_pos (by omega)]; done) | (rw [if_pos hA, if_pos (by omega)]; rfl) | (rw [if_pos hA, if_neg (by omega), if_pos (by omega)]; done) | (rw [if_pos hA, if_neg (by omega), if_pos (by omega)]; rfl) | (rw [if_pos hA, if_neg (by omega), if_neg (by omega), if_pos (by omega)]; done) | (rw [if_pos hA, if_neg (by omega), if_neg (by omega), if_pos (by omega)]; rfl) | (rw [if_pos hA, if_neg (by omega), if_neg (by omega), if_neg (by omega)]; done) | (rw [if_pos hA, if_neg (by omega), if_neg (by omega), if_neg (by omega)]; rfl)) ⟨_, hm, hth.2.1, hth.2.2, hn9⟩
          | exact hQ _ _ _ (by unfold gRide; first | (rw [if_neg hA]; done) | (rw [if_neg hA]; rfl) | (rw [if_pos hA, if_pos (by omega)]; done) | (rw [if_pos hA, if_pos (by omega)]; rfl) | (rw [if_pos hA, if_neg (by omega), if_pos (by omega)]; done) | (rw [if_pos hA, if_neg (by omega), if_pos (by omega)]; rfl) | (rw [if_pos hA, if_neg (by omega), if_neg (by omega), if_pos (by omega)]; done) | (rw [if_pos hA, if_neg (by omega), if_neg (by omega), if_pos (by omega)]; rfl) | (rw [if_pos hA, if_neg (by omega), if_neg (by omega), if_neg (by omega)]; done) | (rw [if_pos hA, if_neg (by omega), if_neg (by omega), if_neg (by omega)]; rfl)) (MTh.trans hth.2.2 hn9 hF)
        · refine g_iconst_i d_M_ride_56 ?_
          refine g_goto (tgt := 61) (by decide) d_M_ride_57 ?_
          refine g_callV2 rfl rfl e_M_rideOf l_M_59 iv_M_rideOf 9 (by decide) rfl (by assumption) (by decide) (Nat.zero_le _) (Nat.zero_le _) (Nat.le_of_ble_eq_true rfl) d_M_ride_61 (c_M_rideOf hm (by omega) (by omega) ?_)
          refine g_ret ?_
          refine g_ireturn_i rfl d_M_ride_64 ?_
          first
          | exact hQ _ _ _ (by unfold gRide; first | (rw [if_neg hA]; done) | (rw [if_neg hA]; rfl) | (rw [if_pos hA, if_pos (by omega)]; done) | (rw [if_pos hA, if_pos (by omega)]; rfl) | (rw [if_pos hA, if_neg (by omega), if_pos (by omega)]; done) | (rw [if_pos hA, if_neg (by omega), if_pos (by omega)]; rfl) | (rw [if_pos hA, if_neg (by omega), if_neg (by omega), if_pos (by omega)]; done) | (rw [if_pos hA, if_neg (by omega), if_neg (by omega), if_pos (by omega)]; rfl) | (rw [if_pos hA, if_neg (by omega), if_neg (by omega), if_neg (by omega)]; done) | (rw [if_pos hA, if_neg (by omega), if_neg (by omega), if_neg (by omega)]; rfl)) ⟨_, hm, hth.2.1, hth.2.2, hn9⟩
          | exact hQ _ _ _ (by unfold gRide; first | (rw [if_neg hA]; done) | (rw [if_neg hA]; rfl) | (rw [if_pos hA, if_pos (by omega)]; done) | (rw [if_pos hA, if_pos (by omega)]; rfl) | (rw [if_pos hA, if_neg (by omega), if_pos (by omega)]; done) | (rw [if_pos hA, if_neg (by omega), if_pos (by omega)]; rfl) | (rw [if_pos hA, if_neg (by omega), if_neg (by omega), if_pos (by omega)]; done) | (rw [if_pos hA, if_neg (by omega), if_neg (by omega), if_pos (by omega)]; rfl) | (rw [if_pos hA, if_neg (by omega), if_neg (by omega), if_neg (by omega)]; done) | (rw [if_pos hA, if_neg (by omega), if_neg (by omega), if_neg (by omega)]; rfl)) (MTh.trans hth.2.2 hn9 hF)
      · refine g_aload_n (n := 0) (i := 0) rfl rfl d_M_ride_41 ?_
        refine g_iconst_i d_M_ride_42 ?_
        refine g_callV1 rfl rfl e_M_fail l_M_52 iv_M_fail 9 (by decide) rfl (by assumption) (by decide) (Nat.zero_le _) (Nat.zero_le _) (Nat.le_of_ble_eq_true rfl) d_M_ride_43 (c_M_fail hm (fun w hF => ?_))
        refine g_ret ?_
        refine g_goto (tgt := 64) (by decide) d_M_ride_46 ?_
        refine g_ireturn_i rfl d_M_ride_64 ?_
        first
        | exact hQ _ _ _ (by unfold gRide; first | (rw [if_neg hA]; done) | (rw [if_neg hA]; rfl) | (rw [if_pos hA, if_pos (by omega)]; done) | (rw [if_pos hA, if_pos (by omega)]; rfl) | (rw [if_pos hA, if_neg (by omega), if_pos (by omega)]; done) | (rw [if_pos hA, if_neg (by omega), if_pos (by omega)]; rfl) | (rw [if_pos hA, if_neg (by omega), if_neg (by omega), if_pos (by omega)]; done) | (rw [if_pos hA, if_neg (by omega), if_neg (by omega), if_pos (by omega)]; rfl) | (rw [if_pos hA, if_neg (by omega), if_neg (by omega), if_neg (by omega)]; done) | (rw [if_pos hA, if_neg (by omega), if_neg (by omega), if_neg (by omega)]; rfl)) ⟨_, hm, hth.2.1, hth.2.2, hn9⟩
        | exact hQ _ _ _ (by unfold gRide; first | (rw [if_neg hA]; done) | (rw [if_neg hA]; rfl) | (rw [if_pos hA, if_pos (by omega)]; done) | (rw [if_pos hA, if_pos (by omega)]; rfl) | (rw [if_pos hA, if_neg (by omega), if_pos (by omega)]; done) | (rw [if_pos hA, if_neg (by omega), if_pos (by omega)]; rfl) | (rw [if_pos hA, if_neg (by omega), if_neg (by omega), if_pos (by omega)]; done) | (rw [if_pos hA, if_neg (by omega), if_neg (by omega), if_pos (by omega)]; rfl) | (rw [if_pos hA, if_neg (by omega), if_neg (by omega), if_neg (by omega)]; done) | (rw [if_pos hA, if_neg (by omega), if_neg (by omega), if_neg (by omega)]; rfl)) (MTh.trans hth.2.2 hn9 hF)
    · refine g_iconst_i d_M_ride_23 ?_
      refine g_goto (tgt := 33) (by decide) d_M_ride_24 ?_
      refine g_istore (i := 4) (by decide) rfl d_M_ride_33 ?_
      refine g_iload (i := 4) rfl d_M_ride_35 ?_
      refine g_iconst_i d_M_ride_37 ?_
      refine g_icmp_ne_i (tgt := 49) (by decide) (by decide) d_M_ride_38 (by decide) (fun h => absurd h (by decide)) (fun h38 => ?_)
      refine g_aload_n (n := 0) (i := 0) rfl rfl d_M_ride_41 ?_
      refine g_iconst_i d_M_ride_42 ?_
      refine g_callV1 rfl rfl e_M_fail l_M_52 iv_M_fail 9 (by decide) rfl (by assumption) (by decide) (Nat.zero_le _) (Nat.zero_le _) (Nat.le_of_ble_eq_true rfl) d_M_ride_43 (c_M_fail hm (fun w hF => ?_))
      refine g_ret ?_
      refine g_goto (tgt := 64) (by decide) d_M_ride_46 ?_
      refine g_ireturn_i rfl d_M_ride_64 ?_
      first
      | exact hQ _ _ _ (by unfold gRide; first | (rw [if_neg hA]; done) | (rw [if_neg hA]; rfl) | (rw [if_pos hA, if_pos (by omega)]; done) | (rw [if_pos hA, if_pos (by omega)]; rfl) | (rw [if_pos hA, if_neg (by omega), if_pos (by omega)]; done) | (rw [if_pos hA, if_neg (by omega), if_pos (by omega)]; rfl) | (rw [if_pos hA, if_neg (by omega), if_neg (by omega), if_pos (by omega)]; done) | (rw [if_pos hA, if_neg (by omega), if_neg (by omega), if_pos (by omega)]; rfl) | (rw [if_pos hA, if_neg (by omega), if_neg (by omega), if_neg (by omega)]; done) | (rw [if_pos hA, if_neg (by omega), if_neg (by omega), if_neg (by omega)]; rfl)) ⟨_, hm, hth.2.1, hth.2.2, hn9⟩
      | exact hQ _ _ _ (by unfold gRide; first | (rw [if_neg hA]; done) | (rw [if_neg hA]; rfl) | (rw [if_pos hA, if_pos (by omega)]; done) | (rw [if_pos hA, if_pos (by omega)]; rfl) | (rw [if_pos hA, if_neg (by omega), if_pos (by omega)]; done) | (rw [if_pos hA, if_neg (by omega), if_pos (by omega)]; rfl) | (rw [if_pos hA, if_neg (by omega), if_neg (by omega), if_pos (by omega)]; done) | (rw [if_pos hA, if_neg (by omega), if_neg (by omega), if_pos (by omega)]; rfl) | (rw [if_pos hA, if_neg (by omega), if_neg (by omega), if_neg (by omega)]; done) | (rw [if_pos hA, if_neg (by omega), if_neg (by omega), if_neg (by omega)]; rfl)) (MTh.trans hth.2.2 hn9 hF)
  · refine g_ret ?_
    refine g_if_ne_i (tgt := 19) (by decide) d_M_ride_10 (by decide) (fun h => absurd h (by decide)) (fun h10 => ?_)
    refine g_aload_n (n := 0) (i := 0) rfl rfl d_M_ride_13 ?_
    refine g_iconst_i d_M_ride_14 ?_
    refine g_callV1 rfl rfl e_M_fail l_M_52 iv_M_fail 9 (by decide) rfl (by assumption) (by decide) (Nat.zero_le _) (Nat.zero_le _) (Nat.le_of_ble_eq_true rfl) d_M_ride_15 (c_M_fail hm (fun w hF => ?_))
    refine g_ret ?_
    refine g_ireturn_i rfl d_M_ride_18 ?_
    first
    | exact hQ _ _ _ (by unfold gRide; first | (rw [if_neg hA]; done) | (rw [if_neg hA]; rfl) | (rw [if_pos hA, if_pos (by omega)]; done) | (rw [if_pos hA, if_pos (by omega)]; rfl) | (rw [if_pos hA, if_neg (by omega), if_pos (by omega)]; done) | (rw [if_pos hA, if_neg (by omega), if_pos (by omega)]; rfl) | (rw [if_pos hA, if_neg (by omega), if_neg (by omega), if_pos (by omega)]; done) | (rw [if_pos hA, if_neg (by omega), if_neg (by omega), if_pos (by omega)]; rfl) | (rw [if_pos hA, if_neg (by omega), if_neg (by omega), if_neg (by omega)]; done) | (rw [if_pos hA, if_neg (by omega), if_neg (by omega), if_neg (by omega)]; rfl)) ⟨_, hm, hth.2.1, hth.2.2, hn9⟩
    | exact hQ _ _ _ (by unfold gRide; first | (rw [if_neg hA]; done) | (rw [if_neg hA]; rfl) | (rw [if_pos hA, if_pos (by omega)]; done) | (rw [if_pos hA, if_pos (by omega)]; rfl) | (rw [if_pos hA, if_neg (by omega), if_pos (by omega)]; done) | (rw [if_pos hA, if_neg (by omega), if_pos (by omega)]; rfl) | (rw [if_pos hA, if_neg (by omega), if_neg (by omega), if_pos (by omega)]; done) | (rw [if_pos hA, if_neg (by omega), if_neg (by omega), if_pos (by omega)]; rfl) | (rw [if_pos hA, if_neg (by omega), if_neg (by omega), if_neg (by omega)]; done) | (rw [if_pos hA, if_neg (by omega), if_neg (by omega), if_neg (by omega)]; rfl)) (MTh.trans hth.2.2 hn9 hF)

