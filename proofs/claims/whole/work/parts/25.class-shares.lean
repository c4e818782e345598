/-! ===== shares ===== -/
theorem tdiv_rng {a b : Int} (ha : -2147483648 < a ∧ a < 2147483648) (hb : 0 < b) : -2147483648 < a.tdiv b ∧ a.tdiv b < 2147483648 := by
  rcases Int.le_total 0 a with h | h
  · rw [Int.tdiv_eq_ediv_of_nonneg h]
    have h1 := Int.ediv_le_self b h
    have h2 := Int.ediv_nonneg h (Int.le_of_lt hb)
    omega
  · have e : a.tdiv b = -((-a) / b) := by
      rw [show a = -(-a) by omega, Int.neg_tdiv, Int.tdiv_eq_ediv_of_nonneg (by omega)]
      simp
    rw [e]
    have h1 := Int.ediv_le_self (a := -a) b (by omega)
    have h2 := Int.ediv_nonneg (a := -a) (by omega) (Int.le_of_lt hb)
    omega
theorem iI_tdiv {a b : Int} (ha : -2147483648 < a ∧ a < 2147483648) (hb : 0 < b ∧ b < 2147483648) : iI a / iI b = iI (a.tdiv b) := by
  have h := tdiv_rng ha hb.1
  rw [← Int32.toInt_inj, Int32.toInt_div, iI_toInt (by omega), iI_toInt (by omega), iI_toInt (by omega)]
  exact Int.bmod_eq_of_le (by omega) (by omega)
theorem mul_rng {a b : Int} (ha : -500000 ≤ a ∧ a ≤ 500000) (hb : 0 ≤ b ∧ b ≤ 1000) : -500000000 ≤ a * b ∧ a * b ≤ 500000000 := by
  have h1 := Int.mul_le_mul_of_nonneg_right ha.2 hb.1
  have h2 := Int.mul_le_mul_of_nonneg_right ha.1 hb.1
  omega
section GD
variable {E : gE} {d : Nat} {M : gM} {pc : Nat} {lv : List (Nat × Value)} {st : List Value} {w : gW} {im : gIm} {kc ks : Nat} {Q : gQ}
theorem g_idiv_t {a b : Int} (ha : -2147483648 < a ∧ a < 2147483648) (hb : 0 < b ∧ b < 2147483648) (hd : decode M.2.1 pc = .ok (.idiv, 1)) (k : G E d M (pc + 1) (lv) (.int (iI (a.tdiv b)) :: st) (w) (im) (kc) (ks) Q) : G E d M (pc) (lv) (.int (iI b) :: .int (iI a) :: st) (w) (im) (kc) (ks) Q := g_idiv (fun h => by rw [iI_0, iI_eq (by omega) (by omega)] at h; omega) hd (iI_tdiv ha hb ▸ k)
end GD
def pbr (l r n : Int) : Int := if n ≤ 0 then 0 else (l * r).tdiv n
def mostF (rs : List rT) : Nat → Int × Int
  | 0 => (0, 0)
  | k + 1 => if (mostF rs k).1 < cntP k rs then (cntP k rs, k) else mostF rs k
def shareZ (l : Int) (rs : List rT) (i : Int) : Int := pbr l (cntP i rs) rs.length + (if 0 < (mostF rs 4).1 ∧ i = (mostF rs 4).2 then l - sumZ (fun k9 => pbr l (cntP k9 rs) rs.length) 4 else 0)
theorem mostF_rng {rs : List rT} {k : Nat} (hk : k ≤ 4) : (0 ≤ (mostF rs k).1 ∧ (mostF rs k).1 ≤ rs.length) ∧ (0 ≤ (mostF rs k).2 ∧ (mostF rs k).2 < 4) := by
  induction k with
  | zero => simp [mostF]
  | succ k ih =>
    have h := ih (by omega)
    have hc := cntP_nn (pa := (k : Int)) (rs := rs)
    rw [mostF]
    split
    · exact ⟨hc, by omega, (show (k : Int) < 4 by omega)⟩
    · exact h

theorem mostF_p {rs : List rT} {j9 : Nat} {k9 mo9 mn9 : Int} (hmo : (mo9, mn9) = mostF rs j9) (hj : (j9 : Int) = k9) (h : mo9 < cntP k9 rs) : (cntP k9 rs, k9) = mostF rs (j9 + 1) := by
  rw [mostF, ← hmo, hj, if_pos h]
theorem mostF_n {rs : List rT} {j9 : Nat} {k9 mo9 mn9 : Int} (hmo : (mo9, mn9) = mostF rs j9) (hj : (j9 : Int) = k9) (h : cntP k9 rs ≤ mo9) : (mo9, mn9) = mostF rs (j9 + 1) := by
  rw [mostF, ← hmo, hj, if_neg (show ¬ mo9 < cntP k9 rs by omega)]
theorem shareZ_p {l9 ms9 mo9 mn9 : Int} {rs : List rT} {m1 : Int → Int} (hmo : (mo9, mn9) = mostF rs 4) (hms : ms9 = l9 - sumZ (fun k9 => pbr l9 (cntP k9 rs) rs.length) 4) (hpa : ∀ i : Int, 0 ≤ i ∧ i < 4 → m1 i = pbr l9 (cntP i rs) rs.length) (h : 0 < mo9) (hr : 0 ≤ mn9 ∧ mn9 < 4) : ∀ i : Int, 0 ≤ i ∧ i < 4 → uI m1 mn9 (m1 mn9 + ms9) i = shareZ l9 rs i := by
  intro i hi
  unfold shareZ
  rw [← hmo, ← hms]
  simp only [uI]
  by_cases e : i = mn9
  · rw [if_pos e, if_pos ⟨h, e⟩, e, hpa mn9 hr]
  · rw [if_neg e, if_neg (fun h => e h.2), hpa i hi, Int.add_zero]
theorem shareZ_n {l9 mo9 mn9 : Int} {rs : List rT} {m1 : Int → Int} (hmo : (mo9, mn9) = mostF rs 4) (hpa : ∀ i : Int, 0 ≤ i ∧ i < 4 → m1 i = pbr l9 (cntP i rs) rs.length) (h : mo9 ≤ 0) : ∀ i : Int, 0 ≤ i ∧ i < 4 → m1 i = shareZ l9 rs i := by
  intro i hi
  unfold shareZ
  rw [← hmo, if_neg (fun h1 => absurd h1.1 (show ¬ 0 < mo9 by omega)), hpa i hi, Int.add_zero]

theorem c_S_partByRides {E : gE} {w : gW} {im : gIm} {Q : gQ} {l r9 n : Int} (r : (-500000 ≤ l ∧ l ≤ 500000) ∧ (0 ≤ r9 ∧ r9 ≤ 1000) ∧ (0 ≤ n ∧ n ≤ 1000)) (hQ : Q (.inl (some (.int (iI (pbr l r9 n))))) w im) : GM E 0 y_S_partByRides m_S_partByRides 0 0 [.int (iI l), .int (iI r9), .int (iI n)] w im Q := by
  have hm := mul_rng r.1 r.2.1
  refine g_enter (by decide) rfl rfl (fun h => by first | rfl | cases h) (Nat.le_of_ble_eq_true rfl) rfl ?_
  refine g_iload_n (n := 2) (i := 2) rfl rfl d_S_partByRides_0 ?_
  refine g_if_gt_i (tgt := 8) (by omega) d_S_partByRides_1 (by decide) (fun h1 => ?_) (fun h1 => ?_)
  · refine g_iload_n (n := 0) (i := 0) rfl rfl d_S_partByRides_8 ?_
    refine g_iload_n (n := 1) (i := 1) rfl rfl d_S_partByRides_9 ?_
    refine g_imul_i d_S_partByRides_10 ?_
    refine g_iload_n (n := 2) (i := 2) rfl rfl d_S_partByRides_11 ?_
    refine g_idiv_t (by omega) (by omega) d_S_partByRides_12 ?_
    refine g_ireturn_i rfl d_S_partByRides_13 ?_
    exact g_qi hQ (by unfold pbr; first | rw [if_pos (by omega)] | rw [if_neg (by omega)])
  · refine g_iconst_i d_S_partByRides_4 ?_
    refine g_goto (tgt := 13) (by decide) d_S_partByRides_5 ?_
    refine g_ireturn_i rfl d_S_partByRides_13 ?_
    exact g_qi hQ (by unfold pbr; first | rw [if_pos (by omega)] | rw [if_neg (by omega)])

theorem c_S_divide {E : gE} {w : gW} {im : gIm} {Q : gQ} {m : Int → Int} (hn : gN E = 70) (x5 : w 60 = sE E) (x6 : w 61 = intE 4 m) {ca cp : Nat} {n9 st su rf pn : Int} {q9 : Pt9} {la : Option Nat} {rs : List rT} (e2 : im ca = some (cardE n9 cp st su rf la)) (e3 : im cp = some (prodAt pn q9)) (e4 : chn im la rs) (o5 : okR rs) (rst : 0 ≤ st ∧ st ≤ 3) (rq : okP q9) (rrf : 0 ≤ rf ∧ rf ≤ 400000) (hQ : ∀ w' m', w' 61 = intE 4 m' → (∀ i : Int, 0 ≤ i ∧ i < 4 → m' i = shareZ ((if st = 2 then 0 else q9.2.2.2.2.2) - rf) rs i) → (∀ j, j ≠ 61 → w' j = w j) → Q (.inl none) w' im) : GM E 1 y_S_divide m_S_divide 0 0 [.ref (gad E 60), .ref ca] w im Q := by
  have k5 : g_cell E w im (gad E 60) _ := g_mut 60 (by omega) x5
  have k6 : g_cell E w im (gad E 61) _ := g_mut 61 (by omega) x6
  have c1 := g_imm (E := E) (w := w) e2
  have c2 := g_imm (E := E) (w := w) e3
  have hlen := o5.1
  obtain ⟨l9, hl9⟩ : ∃ l9, ((if st = 2 then 0 else q9.2.2.2.2.2) - rf) = l9 := ⟨_, rfl⟩
  have hlr : -500000 ≤ l9 ∧ l9 ≤ 500000 := by rw [← hl9]; split <;> omega
  have hpb : ∀ k : Int, -2147483648 < pbr l9 (cntP k rs) rs.length ∧ pbr l9 (cntP k rs) rs.length < 2147483648 := fun k => by
    have hc := cntP_nn (pa := k) (rs := rs)
    have hm := mul_rng (b := cntP k rs) hlr (by omega)
    unfold pbr
    split
    · omega
    · exact tdiv_rng (by omega) (by omega)
  rw [hl9] at hQ
  have loop : ∀ (n9 : Nat) (j9 : Nat) (k9 ms9 mn9 mo9 : Int) (w1 : gW) (m1 : Int → Int), (j9 : Int) = k9 → k9 + n9 = 4 → w1 61 = intE 4 m1 → (∀ j, j ≠ 61 → w1 j = w j) → ms9 = l9 - sumZ (fun k9 => pbr l9 (cntP k9 rs) rs.length) k9 → (mo9, mn9) = mostF rs j9 → (∀ i : Int, 0 ≤ i ∧ i < k9 → m1 i = pbr l9 (cntP i rs) rs.length) → G E 1 m_S_divide 21 [(0, .ref (gad E 60)), (1, .ref ca), (2, .int (iI l9)), (3, .int (iI ms9)), (4, .int (iI mn9)), (5, .int (iI mo9)), (6, .int (iI k9))] [] w1 im 0 0 Q := by
    intro n9
    induction n9 with
    | zero =>
      intro j9 k9 ms9 mn9 mo9 w1 m1 hj hk9 hl1 hw1 hms hmo hpa
      have e4 : k9 = 4 := by omega
      have e5 : j9 = 4 := by omega
      have x5 := (hw1 60 (by omega)).trans x5
      have k5 : g_cell E w1 im (gad E 60) _ := g_mut 60 (by omega) x5
      have k6 : g_cell E w1 im (gad E 61) _ := g_mut 61 (by omega) hl1
      have c1 := g_imm (E := E) (w := w1) e2
      have c2 := g_imm (E := E) (w := w1) e3
      have hmr := mostF_rng (rs := rs) (k := j9) (by omega)
      rw [← hmo] at hmr
      have hmr1 : 0 ≤ mo9 ∧ mo9 ≤ rs.length := hmr.1
      have hmr2 : 0 ≤ mn9 ∧ mn9 < 4 := hmr.2
      rw [e4] at hms hpa
      rw [e5] at hmo
      refine g_iload (i := 6) rfl d_S_divide_21 ?_
      refine g_aload_n (n := 0) (i := 0) rfl rfl d_S_divide_23 ?_
      refine g_getfield 4 0 f_S_9 (by assumption) (by rfl) d_S_divide_24 ?_
      refine g_alen_i (by assumption) (by decide) d_S_divide_27 ?_
      refine g_icmp_ge_i (tgt := 87) (by omega) (by omega) d_S_divide_28 (by decide) (fun h28 => ?_) (fun h => by exfalso; omega)
      refine g_iload (i := 5) rfl d_S_divide_87 ?_
      refine g_if_le_i (tgt := 113) (by omega) d_S_divide_89 (by decide) (fun h89 => ?_) (fun h89 => ?_)
      · refine g_return rfl d_S_divide_113 ?_
        first | exact hQ _ _ hs (shareZ_p hmo hms hpa (by omega) hmr2) (fun j hj => (hn9 j hj).trans (hw1 j hj)) | exact hQ _ _ hl1 (shareZ_n hmo hpa (by omega)) hw1
      · refine g_iload (i := 4) rfl d_S_divide_92 ?_
        refine g_aload_n (n := 0) (i := 0) rfl rfl d_S_divide_94 ?_
        refine g_getfield 4 0 f_S_9 (by assumption) (by rfl) d_S_divide_95 ?_
        refine g_alen_i (by assumption) (by decide) d_S_divide_98 ?_
        refine g_icmp_ge_i (tgt := 113) (by omega) (by omega) d_S_divide_99 (by decide) (fun h => by exfalso; omega) (fun h99 => ?_)
        refine g_aload_n (n := 0) (i := 0) rfl rfl d_S_divide_102 ?_
        refine g_getfield 4 0 f_S_9 (by assumption) (by rfl) d_S_divide_103 ?_
        refine g_iload (i := 4) rfl d_S_divide_106 ?_
        refine g_dup2 rfl rfl d_S_divide_108 ?_
        refine g_iaload_i (by assumption) (by omega) (by omega) (by rfl) d_S_divide_109 ?_
        refine g_iload_n (n := 3) (i := 3) rfl rfl d_S_divide_110 ?_
        refine g_iadd_i d_S_divide_111 ?_
        refine g_iastoreA 61 (by omega) hl1 (by omega) (by omega) (by rfl) d_S_divide_112 (fun w2 hs hn9 => ?_)
        refine g_return rfl d_S_divide_113 ?_
        first | exact hQ _ _ hs (shareZ_p hmo hms hpa (by omega) hmr2) (fun j hj => (hn9 j hj).trans (hw1 j hj)) | exact hQ _ _ hl1 (shareZ_n hmo hpa (by omega)) hw1
    | succ n9 ih =>
      intro j9 k9 ms9 mn9 mo9 w1 m1 hj hk9 hl1 hw1 hms hmo hpa
      have x5 := (hw1 60 (by omega)).trans x5
      have k5 : g_cell E w1 im (gad E 60) _ := g_mut 60 (by omega) x5
      have k6 : g_cell E w1 im (gad E 61) _ := g_mut 61 (by omega) hl1
      have c1 := g_imm (E := E) (w := w1) e2
      have c2 := g_imm (E := E) (w := w1) e3
      have hmr := mostF_rng (rs := rs) (k := j9) (by omega)
      rw [← hmo] at hmr
      have hmr1 : 0 ≤ mo9 ∧ mo9 ≤ rs.length := hmr.1
      have hmr2 : 0 ≤ mn9 ∧ mn9 < 4 := hmr.2
      have hcn := cntP_nn (pa := k9) (rs := rs)
      have hpk := hpb k9
      refine g_iload (i := 6) rfl d_S_divide_21 ?_
      refine g_aload_n (n := 0) (i := 0) rfl rfl d_S_divide_23 ?_
      refine g_getfield 4 0 f_S_9 (by assumption) (by rfl) d_S_divide_24 ?_
      refine g_alen_i (by assumption) (by decide) d_S_divide_27 ?_
      refine g_icmp_ge_i (tgt := 87) (by omega) (by omega) d_S_divide_28 (by decide) (fun h => by exfalso; omega) (fun h28 => ?_)
      refine g_aload_n (n := 1) (i := 1) rfl rfl d_S_divide_31 ?_
      refine g_iload (i := 6) rfl d_S_divide_32 ?_
      refine g_callV1 rfl rfl e_C_ridesAt l_S_25 iv_C_ridesAt 8 (by decide) rfl (by assumption) (by decide) (Nat.zero_le _) (Nat.zero_le _) (Nat.le_of_ble_eq_true rfl) d_S_divide_34 (c_C_ridesAt (by assumption) (by assumption) (by assumption) (by omega) ?_)
      refine g_ret ?_
      refine g_istore (i := 7) (by decide) rfl d_S_divide_37 ?_
      refine g_iload (i := 7) rfl d_S_divide_39 ?_
      refine g_iload (i := 5) rfl d_S_divide_41 ?_
      refine g_icmp_le_i (tgt := 54) (by omega) (by omega) d_S_divide_43 (by decide) (fun h43 => ?_) (fun h43 => ?_)
      · refine g_aload_n (n := 0) (i := 0) rfl rfl d_S_divide_54 ?_
        refine g_getfield 4 0 f_S_9 (by assumption) (by rfl) d_S_divide_55 ?_
        refine g_iload (i := 6) rfl d_S_divide_58 ?_
        refine g_iload_n (n := 2) (i := 2) rfl rfl d_S_divide_60 ?_
        refine g_iload (i := 7) rfl d_S_divide_61 ?_
        refine g_aload_n (n := 1) (i := 1) rfl rfl d_S_divide_63 ?_
        refine g_callV0 rfl rfl e_C_rideCount l_S_29 iv_C_rideCount 8 (by decide) rfl (by assumption) (by decide) (Nat.zero_le _) (Nat.zero_le _) (Nat.le_of_ble_eq_true rfl) d_S_divide_64 (c_C_rideCount (by assumption) (by assumption) (by assumption) ?_)
        refine g_ret ?_
        refine g_callS3 rfl rfl e_S_partByRides l_S_32 st_S_partByRides (by decide) (Nat.zero_le _) (Nat.zero_le _) (Nat.le_of_ble_eq_true rfl) d_S_divide_67 (c_S_partByRides (by omega) ?_)
        refine g_ret ?_
        refine g_iastoreA 61 (by omega) hl1 (by omega) (by omega) (by rfl) d_S_divide_70 (fun w2 hs hn9 => ?_)
        have k5 : g_cell E w2 im (gad E 60) _ := g_mut 60 (by omega) ((hn9 60 (by omega)).trans x5)
        have k6 : g_cell E w2 im (gad E 61) _ := g_mut 61 (by omega) hs
        refine g_iload_n (n := 3) (i := 3) rfl rfl d_S_divide_71 ?_
        refine g_aload_n (n := 0) (i := 0) rfl rfl d_S_divide_72 ?_
        refine g_getfield 4 0 f_S_9 (by assumption) (by rfl) d_S_divide_73 ?_
        refine g_iload (i := 6) rfl d_S_divide_76 ?_
        refine g_iaload_i (by assumption) (by omega) (by omega) (by rfl) d_S_divide_78 ?_
        refine g_isub_i d_S_divide_79 ?_
        refine g_istore_n (n := 3) (i := 3) rfl (by decide) rfl d_S_divide_80 ?_
        refine g_iinc_i (i := 6) rfl (by decide) rfl d_S_divide_81 ?_
        refine g_goto (tgt := 21) (by decide) d_S_divide_84 ?_
        exact g_cut (lv' := [(0, .ref (gad E 60)), (1, .ref ca), (2, .int (iI l9)), (3, .int (iI _)), (4, .int (iI _)), (5, .int (iI _)), (6, .int (iI (k9 + 1)))]) ⟨rfl, rfl, rfl, rfl, rfl, rfl, rfl, trivial⟩ (ih (j9 + 1) (k9 + 1) _ _ _ w2 _ (by omega) (by omega) hs (fun j hj => (hn9 j hj).trans (hw1 j hj)) (by rw [uI_s, sumZ_s (by omega), hms]; omega) (by first | exact mostF_p hmo hj (by omega) | exact mostF_n hmo hj (by omega)) (fun i hi => by simp only [uI]; split <;> first | (rename_i e; rw [e]) | exact hpa i (by omega)))
      · refine g_iload (i := 7) rfl d_S_divide_46 ?_
        refine g_istore (i := 5) (by decide) rfl d_S_divide_48 ?_
        refine g_iload (i := 6) rfl d_S_divide_50 ?_
        refine g_istore (i := 4) (by decide) rfl d_S_divide_52 ?_
        refine g_aload_n (n := 0) (i := 0) rfl rfl d_S_divide_54 ?_
        refine g_getfield 4 0 f_S_9 (by assumption) (by rfl) d_S_divide_55 ?_
        refine g_iload (i := 6) rfl d_S_divide_58 ?_
        refine g_iload_n (n := 2) (i := 2) rfl rfl d_S_divide_60 ?_
        refine g_iload (i := 7) rfl d_S_divide_61 ?_
        refine g_aload_n (n := 1) (i := 1) rfl rfl d_S_divide_63 ?_
        refine g_callV0 rfl rfl e_C_rideCount l_S_29 iv_C_rideCount 8 (by decide) rfl (by assumption) (by decide) (Nat.zero_le _) (Nat.zero_le _) (Nat.le_of_ble_eq_true rfl) d_S_divide_64 (c_C_rideCount (by assumption) (by assumption) (by assumption) ?_)
        refine g_ret ?_
        refine g_callS3 rfl rfl e_S_partByRides l_S_32 st_S_partByRides (by decide) (Nat.zero_le _) (Nat.zero_le _) (Nat.le_of_ble_eq_true rfl) d_S_divide_67 (c_S_partByRides (by omega) ?_)
        refine g_ret ?_
        refine g_iastoreA 61 (by omega) hl1 (by omega) (by omega) (by rfl) d_S_divide_70 (fun w2 hs hn9 => ?_)
        have k5 : g_cell E w2 im (gad E 60) _ := g_mut 60 (by omega) ((hn9 60 (by omega)).trans x5)
        have k6 : g_cell E w2 im (gad E 61) _ := g_mut 61 (by omega) hs
        refine g_iload_n (n := 3) (i := 3) rfl rfl d_S_divide_71 ?_
        refine g_aload_n (n := 0) (i := 0) rfl rfl d_S_divide_72 ?_
        refine g_getfield 4 0 f_S_9 (by assumption) (by rfl) d_S_divide_73 ?_
        refine g_iload (i := 6) rfl d_S_divide_76 ?_
        refine g_iaload_i (by assumption) (by omega) (by omega) (by rfl) d_S_divide_78 ?_
        refine g_isub_i d_S_divide_79 ?_
        refine g_istore_n (n := 3) (i := 3) rfl (by decide) rfl d_S_divide_80 ?_
        refine g_iinc_i (i := 6) rfl (by decide) rfl d_S_divide_81 ?_
        refine g_goto (tgt := 21) (by decide) d_S_divide_84 ?_
        exact g_cut (lv' := [(0, .ref (gad E 60)), (1, .ref ca), (2, .int (iI l9)), (3, .int (iI _)), (4, .int (iI _)), (5, .int (iI _)), (6, .int (iI (k9 + 1)))]) ⟨rfl, rfl, rfl, rfl, rfl, rfl, rfl, trivial⟩ (ih (j9 + 1) (k9 + 1) _ _ _ w2 _ (by omega) (by omega) hs (fun j hj => (hn9 j hj).trans (hw1 j hj)) (by rw [uI_s, sumZ_s (by omega), hms]; omega) (by first | exact mostF_p hmo hj (by omega) | exact mostF_n hmo hj (by omega)) (fun i hi => by simp only [uI]; split <;> first | (rename_i e; rw [e]) | exact hpa i (by omega)))
  refine g_enter (by decide) rfl rfl (fun h => by first | rfl | cases h) (Nat.le_of_ble_eq_true rfl) rfl ?_
  refine g_aload_n (n := 1) (i := 1) rfl rfl d_S_divide_0 ?_
  refine g_callV0 rfl rfl e_C_price l_S_15 iv_C_price 8 (by decide) rfl (by assumption) (by decide) (Nat.zero_le _) (Nat.zero_le _) (Nat.le_of_ble_eq_true rfl) d_S_divide_1 (c_C_price (by assumption) (by assumption) (by omega) ?_)
  refine g_ret ?_
  refine g_aload_n (n := 1) (i := 1) rfl rfl d_S_divide_4 ?_
  refine g_getfield 8 4 f_S_21 (by assumption) (by rfl) d_S_divide_5 ?_
  refine g_isub_i d_S_divide_8 ?_
  rw [hl9]
  refine g_istore_n (n := 2) (i := 2) rfl (by decide) rfl d_S_divide_9 ?_
  refine g_iload_n (n := 2) (i := 2) rfl rfl d_S_divide_10 ?_
  refine g_istore_n (n := 3) (i := 3) rfl (by decide) rfl d_S_divide_11 ?_
  refine g_iconst_i d_S_divide_12 ?_
  refine g_istore (i := 4) (by decide) rfl d_S_divide_13 ?_
  refine g_iconst_i d_S_divide_15 ?_
  refine g_istore (i := 5) (by decide) rfl d_S_divide_16 ?_
  refine g_iconst_i d_S_divide_18 ?_
  refine g_istore (i := 6) (by decide) rfl d_S_divide_19 ?_
  refine g_cut ?_ (loop 4 0 0 l9 0 0 w m rfl (by omega) x6 (fun _ _ => rfl) (by rw [sumZ_0]; omega) rfl (fun i hi => by omega))
  exact ⟨rfl, rfl, rfl, rfl, rfl, rfl, rfl, trivial⟩

theorem c_S_partOf {E : gE} {w : gW} {im : gIm} {Q : gQ} {m : Int → Int} {pa : Int} (hn : gN E = 70) (x5 : w 60 = sE E) (x6 : w 61 = intE 4 m) (rp : 0 ≤ pa ∧ pa ≤ 3) (hQ : Q (.inl (some (.int (iI (m pa))))) w im) : GM E 0 y_S_partOf m_S_partOf 0 0 [.ref (gad E 60), .int (iI pa)] w im Q := by
  have k5 : g_cell E w im (gad E 60) _ := g_mut 60 (by omega) x5
  have k6 : g_cell E w im (gad E 61) _ := g_mut 61 (by omega) x6
  refine g_enter (by decide) rfl rfl (fun h => by first | rfl | cases h) (Nat.le_of_ble_eq_true rfl) rfl ?_
  refine g_iload_n (n := 1) (i := 1) rfl rfl d_S_partOf_0 ?_
  refine g_if_lt_i (tgt := 22) (by omega) d_S_partOf_1 (by decide) (fun h => by exfalso; omega) (fun h1 => ?_)
  refine g_iload_n (n := 1) (i := 1) rfl rfl d_S_partOf_4 ?_
  refine g_aload_n (n := 0) (i := 0) rfl rfl d_S_partOf_5 ?_
  refine g_getfield 4 0 f_S_9 (by assumption) (by rfl) d_S_partOf_6 ?_
  refine g_alen_i (by assumption) (by decide) d_S_partOf_9 ?_
  refine g_icmp_ge_i (tgt := 22) (by omega) (by omega) d_S_partOf_10 (by decide) (fun h => by exfalso; omega) (fun h10 => ?_)
  refine g_aload_n (n := 0) (i := 0) rfl rfl d_S_partOf_13 ?_
  refine g_getfield 4 0 f_S_9 (by assumption) (by rfl) d_S_partOf_14 ?_
  refine g_iload_n (n := 1) (i := 1) rfl rfl d_S_partOf_17 ?_
  refine g_iaload_i (by assumption) (by omega) (by omega) (by rfl) d_S_partOf_18 ?_
  refine g_goto (tgt := 23) (by decide) d_S_partOf_19 ?_
  refine g_ireturn_i rfl d_S_partOf_23 ?_
  exact hQ

