/-! ===== the law: what its cases share ===== -/
/-- the script's numbers -/
def sc (E : gE) (j : Nat) : Int := ((gX E).2.2 j).toInt
theorem sc_rng {E : gE} {j : Nat} : -2147483648 ≤ sc E j ∧ sc E j < 2147483648 := iI_rng _
theorem g_sldI {E : gE} {d : Nat} {M : gM} {pc : Nat} {lv : List (Nat × Value)} {st : List Value} {w : gW} {im : gIm} {kc ks : Nat} {Q : gQ} {I k : Nat} {z : Int} (hz : z = (I : Int) + (k : Int)) (hj : I + k < (gX E).2.1) (hL : (gX E).2.1 ≤ 3584) (hd : decode M.2.1 pc = .ok (.iaload, 1)) (kk : G E d M (pc + 1) lv (.int (iI (sc E (I + k))) :: st) w im kc ks Q) : G E d M pc lv (.int (iI z) :: .ref (gX E).1 :: st) w im kc ks Q := by
  refine g_sld rfl (j := I + k) (by rw [hz, iI_nI, Int.natCast_add]) hj (by omega) hd ?_
  rw [iI_of ((gX E).2.2 (I + k))]
  exact kk
theorem lgc {x : Int64} : lg_cmp x x = iI 0 := by
  unfold lg_cmp
  rw [if_neg (by simp), if_pos rfl]
  decide
theorem dcs {x : UInt64} (h : vf_n64 x) : Op.cmpValue (FP.dcmp x x) .l = iI 0 := by
  rw [show FP.dcmp x x = some .eq from Jvm.FP.Core.dcmp_self (Jvm.Free.Fl.val64_no.mp h)]
  decide
theorem An_rng {e1 e2 : String} {o : gO} {t r : Int} (h : An e1 e2 o (t, r)) : 0 ≤ t ∧ t ≤ 2 := by
  have h : (t = 0 ∧ o = oV r) ∨ (t = 1 ∧ o = .inr e1) ∨ (t = 2 ∧ o = .inr e2) := h
  omega
theorem Cp.mono {E : gE} {w : gW} {im : gIm} {c : CSt} {f : Nat → Int} {m pa sv : Int → Int} {n : Int} (h : Cp E w im c f m pa sv n) : Cp E w im c f m pa sv (n + 1) :=
  ⟨h.1, h.2.1, h.2.2.1, h.2.2.2.1, h.2.2.2.2.1, h.2.2.2.2.2.1, h.2.2.2.2.2.2.1, h.2.2.2.2.2.2.2.1, h.2.2.2.2.2.2.2.2.mono (by omega)⟩

theorem c_M_thrown {E : gE} {w : gW} {im : gIm} {Q : gQ} {f : Nat → Int} {m : Int → Int} (hm : MR E w f m) (hQ : Q (oV (f 6)) w im) : GM E 0 y_M_thrown m_M_thrown 0 0 [.ref (gad E 62)] w im Q := by
  obtain ⟨hn, u2, u3⟩ := id hm
  have k2 : g_cell E w im (gad E 62) _ := g_mut 62 (by omega) u2
  have k3 : g_cell E w im (gad E 63) _ := g_mut 63 (by omega) u3
  refine g_enter (by decide) rfl rfl (fun h => by first | rfl | cases h) (Nat.le_of_ble_eq_true rfl) rfl ?_
  refine g_aload_n (n := 0) (i := 0) rfl rfl d_M_thrown_0 ?_
  refine g_getfield 9 6 f_M_33 (by assumption) (by rfl) d_M_thrown_1 ?_
  refine g_ireturn_i rfl d_M_thrown_4 ?_
  exact hQ

theorem hn_L_meanRides_1 : g_hnd m_L_meanRides "java/lang/ArithmeticException" 3 10 := ⟨[], _, _, "java/lang/ArithmeticException", rfl, (fun z hz => (by cases hz)), by decide, by decide, g_mem 1114 (by decide +kernel) rfl, g_bmem 1126 (by decide +kernel) rfl, rfl⟩
theorem c_L_meanRides {E : gE} {w : gW} {im : gIm} {Q : gQ} {c : CSt} (hx : XW E w im c) {g0 : Nat → UInt64} (h69 : w 69 = dbE g0) (hQ0 : ¬ (inForce (cN c) ≤ 0) → ∀ w' im' g, LX E w im c w' im' → w' 68 = w 68 → w' 69 = dbE g → g 0 = FP.ddiv (FP.i2d (iI (allRides (cN c)))) (FP.i2d (iI (inForce (cN c)))) → Q (.inl (some (.int (iI 0)))) w' im') (hQ1 : (inForce (cN c) ≤ 0) → ∀ w' im', LX E w im c w' im' → w' 68 = w 68 → w' 69 = w 69 → Q (.inl (some (.int (iI 1)))) w' im') : GM E 3 y_L_meanRides m_L_meanRides 1 6 [.ref (gad E 0), .ref (gad E 69)] w im Q := by
  have hn := hx.1.1
  have k0 : g_cell E w im (gad E 0) _ := g_mut 0 (by omega) hx.1.2.1
  refine g_entryH (by decide) rfl rfl (fun h => by cases h) (Nat.le_of_ble_eq_true rfl) ?_
  refine g_aload_n (n := 1) (i := 1) rfl rfl d_L_meanRides_0 ?_
  refine g_iconst_i d_L_meanRides_1 ?_
  refine g_aload_n (n := 0) (i := 0) rfl rfl d_L_meanRides_2 ?_
  refine g_callVH0 rfl e_X_meanRides l_L_98 iv_X_meanRides 0 (by decide) rfl k0 (by decide) (Nat.le_refl _) (Nat.le_refl _) (Nat.le_of_ble_eq_true rfl) d_L_meanRides_3 (c_X_meanRides hx  (fun o w1 im1 he hN => ?_))
  rw [he]
  have h691 : w1 69 = dbE g0 := (hN.1 69 (by omega)).trans h69
  have h681 := hN.1 68 (by omega)
  unfold oMean
  by_cases hc : inForce (cN c) ≤ 0
  · rw [if_pos hc]
    refine g_khx ⟨10, hn_L_meanRides_1, fun q => ?_⟩
    refine g_astore_n (n := 2) (i := 2) rfl (by decide) rfl d_L_meanRides_10 ?_
    refine g_iconst_i d_L_meanRides_11 ?_
    refine g_ireturn_i rfl d_L_meanRides_12 ?_
    exact hQ1 hc w1 im1 ⟨fun j h1 h2 h3 => hN.1 j h1, hN.2.1, hN.2.2⟩ h681 (hN.1 69 (by omega))
  · rw [if_neg hc]
    refine g_khv ?_
    refine g_dastoreA 69 (by omega) h691 (iI_nI 0).symm (by decide) (by rfl) d_L_meanRides_6 (fun w2 hs hs9 => ?_)
    refine g_goto (tgt := 13) (by decide) d_L_meanRides_7 ?_
    refine g_iconst_i d_L_meanRides_13 ?_
    refine g_ireturn_i rfl d_L_meanRides_14 ?_
    exact hQ0 hc w2 im1 _ ⟨fun j h1 h2 h3 => (hs9 j h3).trans (hN.1 j h1), hN.2.1, hN.2.2.frame (fun j hj => hs9 j (by omega))⟩ ((hs9 68 (by omega)).trans h681) hs vf_us

theorem hn_L_closedShare_1 : g_hnd m_L_closedShare "java/lang/IndexOutOfBoundsException" 4 12 := ⟨[], _, _, "java/lang/IndexOutOfBoundsException", rfl, (fun z hz => (by cases hz)), by decide, by decide, g_mem 563 (by decide +kernel) rfl, g_bmem 601 (by decide +kernel) rfl, rfl⟩
theorem hn_L_closedShare_2 : g_hnd m_L_closedShare "java/lang/ArithmeticException" 4 15 := ⟨[_], _, _, "java/lang/ArithmeticException", rfl, (fun z hz => (by
  rcases List.mem_singleton.1 hz with rfl
  exact Or.inr ⟨by decide, "java/lang/IndexOutOfBoundsException", g_mem 563 (by decide +kernel) rfl, by decide +kernel⟩)), by decide, by decide, g_mem 1114 (by decide +kernel) rfl, g_bmem 1126 (by decide +kernel) rfl, rfl⟩
theorem c_L_closedShare {E : gE} {w : gW} {im : gIm} {Q : gQ} {c : CSt} (hx : XW E w im c) {x1 : Int} (rx1 : -2147483648 ≤ x1 ∧ x1 < 2147483648) {g0 : Nat → UInt64} (h69 : w 69 = dbE g0) (hQ0 : isG (cN c) x1 → ¬ (cntdZ (cN c) ≤ 0) → ∀ w' im' g, LX E w im c w' im' → w' 68 = w 68 → w' 69 = dbE g → g 0 = FP.f2d (FP.fdiv (FP.i2f (iI (allDays (cN c) x1))) (FP.i2f (iI (cntdZ (cN c))))) → Q (.inl (some (.int (iI 0)))) w' im') (hQ1 : ¬ isG (cN c) x1 → ∀ w' im', LX E w im c w' im' → w' 68 = w 68 → w' 69 = w 69 → Q (.inl (some (.int (iI 1)))) w' im') (hQ2 : isG (cN c) x1 → (cntdZ (cN c) ≤ 0) → ∀ w' im', LX E w im c w' im' → w' 68 = w 68 → w' 69 = w 69 → Q (.inl (some (.int (iI 2)))) w' im') : GM E 3 y_L_closedShare m_L_closedShare 2 12 [.ref (gad E 0), .int (iI x1), .ref (gad E 69)] w im Q := by
  have hn := hx.1.1
  have k0 : g_cell E w im (gad E 0) _ := g_mut 0 (by omega) hx.1.2.1
  refine g_entryH (by decide) rfl rfl (fun h => by cases h) (Nat.le_of_ble_eq_true rfl) ?_
  refine g_aload_n (n := 2) (i := 2) rfl rfl d_L_closedShare_0 ?_
  refine g_iconst_i d_L_closedShare_1 ?_
  refine g_aload_n (n := 0) (i := 0) rfl rfl d_L_closedShare_2 ?_
  refine g_iload_n (n := 1) (i := 1) rfl rfl d_L_closedShare_3 ?_
  refine g_callVH1 rfl e_X_closedShare l_L_104 iv_X_closedShare 0 (by decide) rfl k0 (by decide) (Nat.le_refl _) (Nat.le_refl _) (Nat.le_of_ble_eq_true rfl) d_L_closedShare_4 (c_X_closedShare hx rx1 (fun o w1 im1 he hN => ?_))
  rw [he]
  have h691 : w1 69 = dbE g0 := (hN.1 69 (by omega)).trans h69
  have h681 := hN.1 68 (by omega)
  have hif := sumZ_le (f := fun k9 => cbZ 0 (zk (cN c)) k9) (c := 480) (n := 31) (by omega) (fun k9 _ _ => cbZ_le)
  have hcz : cntdZ (cN c) = sumZ (fun k9 => cbZ 0 (zk (cN c)) k9) 31 := rfl
  unfold oClSh
  by_cases hg : isG (cN c) x1
  · rw [if_pos hg]
    by_cases hc : cntdZ (cN c) ≤ 0
    · rw [if_pos hc]
      refine g_khx ⟨15, hn_L_closedShare_2, fun q => ?_⟩
      refine g_astore_n (n := 3) (i := 3) rfl (by decide) rfl d_L_closedShare_15 ?_
      refine g_iconst_i d_L_closedShare_16 ?_
      refine g_ireturn_i rfl d_L_closedShare_17 ?_
      exact hQ2 hg hc w1 im1 ⟨fun j h1 h2 h3 => hN.1 j h1, hN.2.1, hN.2.2⟩ h681 (hN.1 69 (by omega))
    · rw [if_neg hc]
      refine g_khv ?_
      refine g_f2d (nn_f2d (fun h => by rw [iI_0, iI_eq (by omega) (by omega)] at h; omega)) d_L_closedShare_7 ?_
      refine g_dastoreA 69 (by omega) h691 (iI_nI 0).symm (by decide) (by rfl) d_L_closedShare_8 (fun w2 hs hs9 => ?_)
      refine g_goto (tgt := 18) (by decide) d_L_closedShare_9 ?_
      refine g_iconst_i d_L_closedShare_18 ?_
      refine g_ireturn_i rfl d_L_closedShare_19 ?_
      exact hQ0 hg hc w2 im1 _ ⟨fun j h1 h2 h3 => (hs9 j h3).trans (hN.1 j h1), hN.2.1, hN.2.2.frame (fun j hj => hs9 j (by omega))⟩ ((hs9 68 (by omega)).trans h681) hs vf_us
  · rw [if_neg hg]
    refine g_khx ⟨12, hn_L_closedShare_1, fun q => ?_⟩
    refine g_astore_n (n := 3) (i := 3) rfl (by decide) rfl d_L_closedShare_12 ?_
    refine g_iconst_i d_L_closedShare_13 ?_
    refine g_ireturn_i rfl d_L_closedShare_14 ?_
    exact hQ1 hg w1 im1 ⟨fun j h1 h2 h3 => hN.1 j h1, hN.2.1, hN.2.2⟩ h681 (hN.1 69 (by omega))

