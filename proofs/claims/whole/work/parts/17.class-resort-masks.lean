/-! ===== the resort: masks of gates, ways, successors ===== -/
theorem c_R_gatesThatLetPass {E : gE} {w : gW} {im : gIm} {Q : gQ} {b : Nat} {R : Rz} (hz : RZ E w im b R) {ca cp : Nat} {n9 st su rf pn : Int} {q9 : Pt9} {la : Option Nat} {rs : List rT} (e2 : im ca = some (cardE n9 cp st su rf la)) (e3 : im cp = some (prodAt pn q9)) (e4 : chn im la rs) (o5 : okR rs) (rst : 0 ≤ st ∧ st ≤ 3) (rq : okP q9) (hQ : Q (.inl (some (.int (iI (((orZ (fun k9 => if k9 < zg R then (if reasonZ R q9 st rs k9 (zG R k9).1 (zG R k9).2 = 0 then 2 ^ k9.toNat else 0) else 0) 12 : Nat) : Int)))))) w im) : GM E 4 y_R_gatesThatLetPass m_R_gatesThatLetPass 0 0 [.ref (gad E b), .ref ca] w im Q := by
  have hz9 := hz
  obtain ⟨rg, rp, rc, lc, ⟨hb, h0, h1, h2, h3, h4, hlc⟩, ⟨i1, i2, i3, i4, i5, i6⟩, ok⟩ := hz9
  obtain ⟨ok1, ok2, ok3, ok4, ok5, ok6, ok7, ok8, ok9⟩ := ok
  have co : g_cell E w im (gad E b) (resE E b R) := g_mut b (by omega) h0
  have cg : g_cell E w im (gad E (b + 1)) (rowE 4 12 rg) := g_mut (b + 1) (by omega) h1
  have cp : g_cell E w im (gad E (b + 2)) (rowE 5 8 rp) := g_mut (b + 2) (by omega) h2
  have cc : g_cell E w im (gad E (b + 3)) (rowE 6 20 rc) := g_mut (b + 3) (by omega) h3
  have cl : g_cell E w im (gad E (b + 4)) (intE 372 lc) := g_mut (b + 4) (by omega) h4
  have hlen := o5.1
  have loop : ∀ (n9 : Nat) (k9 s9 : Int), 0 ≤ k9 → k9 + n9 = 12 → s9 = ((orZ (fun k9 => if k9 < zg R then (if reasonZ R q9 st rs k9 (zG R k9).1 (zG R k9).2 = 0 then 2 ^ k9.toNat else 0) else 0) k9 : Nat) : Int) → G E 4 m_R_gatesThatLetPass 14 [(0, .ref (gad E b)), (1, .ref ca), (2, .int (iI s9)), (3, .ref (gad E (b + 1))), (4, .int (iI 12)), (5, .int (iI k9))] [] w im 0 0 Q := by
    intro n9
    induction n9 with
    | zero =>
      intro k9 s9 h9 hk9 hs9
      have e9 : k9 = 12 := by omega
      rw [e9] at hs9
      refine g_iload (i := 5) rfl d_R_gatesThatLetPass_14 ?_
      refine g_iload (i := 4) rfl d_R_gatesThatLetPass_16 ?_
      refine g_icmp_ge_i (tgt := 58) (by omega) (by decide) d_R_gatesThatLetPass_18 (by decide) (fun h18 => ?_) (fun h => by exfalso; omega)
      refine g_iload_n (n := 2) (i := 2) rfl rfl d_R_gatesThatLetPass_58 ?_
      refine g_ireturn_i rfl d_R_gatesThatLetPass_59 ?_
      exact g_qi hQ hs9
    | succ n9 ih =>
      intro k9 s9 h9 hk9 hs9
      by_cases hc9 : k9 < zg R
      · obtain ⟨a9, e1, e2⟩ := i1 k9 ⟨h9, hc9⟩
        have c1 := g_imm (E := E) (w := w) e2
        obtain ⟨o1, o2⟩ := ok6 k9 ⟨h9, hc9⟩
        have hrz := reasonZ_rng (R := R) (q := q9) (rs := rs) (gn := k9) (gp := (zG R k9).1) (gx := (zG R k9).2) rst
        refine g_iload (i := 5) rfl d_R_gatesThatLetPass_14 ?_
        refine g_iload (i := 4) rfl d_R_gatesThatLetPass_16 ?_
        refine g_icmp_ge_i (tgt := 58) (by omega) (by decide) d_R_gatesThatLetPass_18 (by decide) (fun h => by exfalso; omega) (fun h18 => ?_)
        refine g_aload_n (n := 3) (i := 3) rfl rfl d_R_gatesThatLetPass_21 ?_
        refine g_iload (i := 5) rfl d_R_gatesThatLetPass_22 ?_
        refine g_aaload_i (by assumption) (by decide) (by rfl) (by omega) (by omega) (by rfl) (by assumption) d_R_gatesThatLetPass_24 ?_
        refine g_astore (i := 6) (by decide) rfl d_R_gatesThatLetPass_25 ?_
        refine g_aload (i := 6) rfl d_R_gatesThatLetPass_27 ?_
        refine g_ifnull d_R_gatesThatLetPass_29 ?_
        refine g_aload_n (n := 0) (i := 0) rfl rfl d_R_gatesThatLetPass_32 ?_
        refine g_aload_n (n := 1) (i := 1) rfl rfl d_R_gatesThatLetPass_33 ?_
        refine g_aload (i := 6) rfl d_R_gatesThatLetPass_34 ?_
        refine g_callV2 rfl rfl e_R_reasonAgainst l_R_181 iv_R_reasonAgainst 1 (by decide) rfl (by assumption) (by decide) (Nat.zero_le _) (Nat.zero_le _) (Nat.le_of_ble_eq_true rfl) d_R_gatesThatLetPass_36 (c_R_reasonAgainst (by assumption) (by assumption) (by assumption) (by assumption) (by assumption) (by omega) (by first | assumption | omega) (by assumption) (by omega) ?_)
        refine g_ret ?_
        refine g_if_ne_i (tgt := 52) (by omega) d_R_gatesThatLetPass_39 (by decide) (fun h39 => ?_) (fun h39 => ?_)
        · refine g_iinc_i (i := 5) rfl (by decide) rfl d_R_gatesThatLetPass_52 ?_
          refine g_goto (tgt := 14) (by decide) d_R_gatesThatLetPass_55 ?_
          exact g_cut (lv' := [(0, .ref (gad E b)), (1, .ref ca), (2, .int (iI _)), (3, .ref (gad E (b + 1))), (4, .int (iI 12)), (5, .int (iI (k9 + 1)))]) ⟨rfl, rfl, rfl, rfl, rfl, rfl, trivial⟩ (ih (k9 + 1) _ (by omega) (by omega) (by rw [orZ_s (by omega)]; first | (rw [if_neg hc9, Nat.or_zero]; exact hs9) | (rw [if_pos hc9, if_neg (by assumption), Nat.or_zero]; exact hs9) | (rw [if_pos hc9, if_pos (by assumption)])))
        · refine g_iload_n (n := 2) (i := 2) rfl rfl d_R_gatesThatLetPass_42 ?_
          refine g_iconst_i d_R_gatesThatLetPass_43 ?_
          refine g_aload (i := 6) rfl d_R_gatesThatLetPass_44 ?_
          refine g_getfield 5 0 f_R_67 (by assumption) (by rfl) d_R_gatesThatLetPass_46 ?_
          refine g_ishl d_R_gatesThatLetPass_49 ?_
          rw [iI_shl1 (by omega)]
          refine g_ior d_R_gatesThatLetPass_50 ?_
          rw [hs9, iI_or]
          refine g_istore_n (n := 2) (i := 2) rfl (by decide) rfl d_R_gatesThatLetPass_51 ?_
          refine g_iinc_i (i := 5) rfl (by decide) rfl d_R_gatesThatLetPass_52 ?_
          refine g_goto (tgt := 14) (by decide) d_R_gatesThatLetPass_55 ?_
          exact g_cut (lv' := [(0, .ref (gad E b)), (1, .ref ca), (2, .int (iI _)), (3, .ref (gad E (b + 1))), (4, .int (iI 12)), (5, .int (iI (k9 + 1)))]) ⟨rfl, rfl, rfl, rfl, rfl, rfl, trivial⟩ (ih (k9 + 1) _ (by omega) (by omega) (by rw [orZ_s (by omega)]; first | (rw [if_neg hc9, Nat.or_zero]; exact hs9) | (rw [if_pos hc9, if_neg (by assumption), Nat.or_zero]; exact hs9) | (rw [if_pos hc9, if_pos (by assumption)])))
      · have e1 := i2 k9 (by omega)
        refine g_iload (i := 5) rfl d_R_gatesThatLetPass_14 ?_
        refine g_iload (i := 4) rfl d_R_gatesThatLetPass_16 ?_
        refine g_icmp_ge_i (tgt := 58) (by omega) (by decide) d_R_gatesThatLetPass_18 (by decide) (fun h => by exfalso; omega) (fun h18 => ?_)
        refine g_aload_n (n := 3) (i := 3) rfl rfl d_R_gatesThatLetPass_21 ?_
        refine g_iload (i := 5) rfl d_R_gatesThatLetPass_22 ?_
        refine g_aaloadN_i (by assumption) (by decide) (by rfl) (by omega) (by omega) (by rfl) (by assumption) d_R_gatesThatLetPass_24 ?_
        refine g_astoreN (i := 6) (by decide) rfl d_R_gatesThatLetPass_25 ?_
        refine g_aloadN (i := 6) rfl d_R_gatesThatLetPass_27 ?_
        refine g_ifnullN (tgt := 52) (by decide) d_R_gatesThatLetPass_29 ?_
        refine g_iinc_i (i := 5) rfl (by decide) rfl d_R_gatesThatLetPass_52 ?_
        refine g_goto (tgt := 14) (by decide) d_R_gatesThatLetPass_55 ?_
        exact g_cut (lv' := [(0, .ref (gad E b)), (1, .ref ca), (2, .int (iI _)), (3, .ref (gad E (b + 1))), (4, .int (iI 12)), (5, .int (iI (k9 + 1)))]) ⟨rfl, rfl, rfl, rfl, rfl, rfl, trivial⟩ (ih (k9 + 1) _ (by omega) (by omega) (by rw [orZ_s (by omega)]; first | (rw [if_neg hc9, Nat.or_zero]; exact hs9) | (rw [if_pos hc9, if_neg (by assumption), Nat.or_zero]; exact hs9) | (rw [if_pos hc9, if_pos (by assumption)])))
  refine g_enter (by decide) rfl rfl (fun h => by first | rfl | cases h) (Nat.le_of_ble_eq_true rfl) rfl ?_
  refine g_iconst_i d_R_gatesThatLetPass_0 ?_
  refine g_istore_n (n := 2) (i := 2) rfl (by decide) rfl d_R_gatesThatLetPass_1 ?_
  refine g_aload_n (n := 0) (i := 0) rfl rfl d_R_gatesThatLetPass_2 ?_
  refine g_getfield 1 0 f_R_11 (by assumption) (by rfl) d_R_gatesThatLetPass_3 ?_
  refine g_astore_n (n := 3) (i := 3) rfl (by decide) rfl d_R_gatesThatLetPass_6 ?_
  refine g_aload_n (n := 3) (i := 3) rfl rfl d_R_gatesThatLetPass_7 ?_
  refine g_alen_i (by assumption) (by decide) d_R_gatesThatLetPass_8 ?_
  refine g_istore (i := 4) (by decide) rfl d_R_gatesThatLetPass_9 ?_
  refine g_iconst_i d_R_gatesThatLetPass_11 ?_
  refine g_istore (i := 5) (by decide) rfl d_R_gatesThatLetPass_12 ?_
  refine g_cut ?_ (loop 12 0 0 (by omega) (by omega) rfl)
  exact ⟨rfl, rfl, rfl, rfl, rfl, rfl, trivial⟩

theorem c_R_gatesFor {E : gE} {w : gW} {im : gIm} {Q : gQ} {b : Nat} {R : Rz} (hz : RZ E w im b R) {pp : Nat} {pn : Int} {q9 : Pt9} (hp : im pp = some (prodAt pn q9)) (rq : okP q9) (hQ : Q (.inl (some (.int (iI (((orZ (fun k9 => if k9 < zg R then (if tb q9.2.2.2.2.1 (zG R k9).1 = true then 2 ^ k9.toNat else 0) else 0) 12 : Nat) : Int)))))) w im) : GM E 1 y_R_gatesFor m_R_gatesFor 0 0 [.ref (gad E b), .ref pp] w im Q := by
  have hz9 := hz
  obtain ⟨rg, rp, rc, lc, ⟨hb, h0, h1, h2, h3, h4, hlc⟩, ⟨i1, i2, i3, i4, i5, i6⟩, ok⟩ := hz9
  obtain ⟨ok1, ok2, ok3, ok4, ok5, ok6, ok7, ok8, ok9⟩ := ok
  have co : g_cell E w im (gad E b) (resE E b R) := g_mut b (by omega) h0
  have cg : g_cell E w im (gad E (b + 1)) (rowE 4 12 rg) := g_mut (b + 1) (by omega) h1
  have cp : g_cell E w im (gad E (b + 2)) (rowE 5 8 rp) := g_mut (b + 2) (by omega) h2
  have cc : g_cell E w im (gad E (b + 3)) (rowE 6 20 rc) := g_mut (b + 3) (by omega) h3
  have cl : g_cell E w im (gad E (b + 4)) (intE 372 lc) := g_mut (b + 4) (by omega) h4
  have cpr := g_imm (E := E) (w := w) hp
  have loop : ∀ (n9 : Nat) (k9 s9 : Int), 0 ≤ k9 → k9 + n9 = 12 → s9 = ((orZ (fun k9 => if k9 < zg R then (if tb q9.2.2.2.2.1 (zG R k9).1 = true then 2 ^ k9.toNat else 0) else 0) k9 : Nat) : Int) → G E 1 m_R_gatesFor 14 [(0, .ref (gad E b)), (1, .ref pp), (2, .int (iI s9)), (3, .ref (gad E (b + 1))), (4, .int (iI 12)), (5, .int (iI k9))] [] w im 0 0 Q := by
    intro n9
    induction n9 with
    | zero =>
      intro k9 s9 h9 hk9 hs9
      have e9 : k9 = 12 := by omega
      rw [e9] at hs9
      refine g_iload (i := 5) rfl d_R_gatesFor_14 ?_
      refine g_iload (i := 4) rfl d_R_gatesFor_16 ?_
      refine g_icmp_ge_i (tgt := 60) (by omega) (by decide) d_R_gatesFor_18 (by decide) (fun h18 => ?_) (fun h => by exfalso; omega)
      refine g_iload_n (n := 2) (i := 2) rfl rfl d_R_gatesFor_60 ?_
      refine g_ireturn_i rfl d_R_gatesFor_61 ?_
      exact g_qi hQ hs9
    | succ n9 ih =>
      intro k9 s9 h9 hk9 hs9
      by_cases hc9 : k9 < zg R
      · obtain ⟨a9, e1, e2⟩ := i1 k9 ⟨h9, hc9⟩
        have c1 := g_imm (E := E) (w := w) e2
        obtain ⟨o1, o2⟩ := ok6 k9 ⟨h9, hc9⟩
        refine g_iload (i := 5) rfl d_R_gatesFor_14 ?_
        refine g_iload (i := 4) rfl d_R_gatesFor_16 ?_
        refine g_icmp_ge_i (tgt := 60) (by omega) (by decide) d_R_gatesFor_18 (by decide) (fun h => by exfalso; omega) (fun h18 => ?_)
        refine g_aload_n (n := 3) (i := 3) rfl rfl d_R_gatesFor_21 ?_
        refine g_iload (i := 5) rfl d_R_gatesFor_22 ?_
        refine g_aaload_i (by assumption) (by decide) (by rfl) (by omega) (by omega) (by rfl) (by assumption) d_R_gatesFor_24 ?_
        refine g_astore (i := 6) (by decide) rfl d_R_gatesFor_25 ?_
        refine g_aload (i := 6) rfl d_R_gatesFor_27 ?_
        refine g_ifnull d_R_gatesFor_29 ?_
        refine g_aload_n (n := 1) (i := 1) rfl rfl d_R_gatesFor_32 ?_
        refine g_aload (i := 6) rfl d_R_gatesFor_33 ?_
        refine g_getfield 5 1 f_R_143 (by assumption) (by rfl) d_R_gatesFor_35 ?_
        refine g_callV1 rfl rfl e_P_isFor l_R_146 iv_P_isFor 6 (by decide) rfl (by assumption) (by decide) (Nat.zero_le _) (Nat.zero_le _) (Nat.le_of_ble_eq_true rfl) d_R_gatesFor_38 (c_P_isFor (by assumption) (by omega) (fun hB => ?_) (fun hB => ?_))
        · refine g_ret ?_
          refine g_if_eq_i (tgt := 54) (by decide) d_R_gatesFor_41 (by decide) (fun h => absurd h (by decide)) (fun h41 => ?_)
          refine g_iload_n (n := 2) (i := 2) rfl rfl d_R_gatesFor_44 ?_
          refine g_iconst_i d_R_gatesFor_45 ?_
          refine g_aload (i := 6) rfl d_R_gatesFor_46 ?_
          refine g_getfield 5 0 f_R_67 (by assumption) (by rfl) d_R_gatesFor_48 ?_
          refine g_ishl d_R_gatesFor_51 ?_
          rw [iI_shl1 (by omega)]
          refine g_ior d_R_gatesFor_52 ?_
          rw [hs9, iI_or]
          refine g_istore_n (n := 2) (i := 2) rfl (by decide) rfl d_R_gatesFor_53 ?_
          refine g_iinc_i (i := 5) rfl (by decide) rfl d_R_gatesFor_54 ?_
          refine g_goto (tgt := 14) (by decide) d_R_gatesFor_57 ?_
          exact g_cut (lv' := [(0, .ref (gad E b)), (1, .ref pp), (2, .int (iI _)), (3, .ref (gad E (b + 1))), (4, .int (iI 12)), (5, .int (iI (k9 + 1)))]) ⟨rfl, rfl, rfl, rfl, rfl, rfl, trivial⟩ (ih (k9 + 1) _ (by omega) (by omega) (by rw [orZ_s (by omega)]; first | (rw [if_neg hc9, Nat.or_zero]; exact hs9) | (rw [if_pos hc9, if_neg (by assumption), Nat.or_zero]; exact hs9) | (rw [if_pos hc9, if_pos (by assumption)])))
        · refine g_ret ?_
          refine g_if_eq_i (tgt := 54) (by decide) d_R_gatesFor_41 (by decide) (fun h41 => ?_) (fun h => absurd h (by decide))
          refine g_iinc_i (i := 5) rfl (by decide) rfl d_R_gatesFor_54 ?_
          refine g_goto (tgt := 14) (by decide) d_R_gatesFor_57 ?_
          exact g_cut (lv' := [(0, .ref (gad E b)), (1, .ref pp), (2, .int (iI _)), (3, .ref (gad E (b + 1))), (4, .int (iI 12)), (5, .int (iI (k9 + 1)))]) ⟨rfl, rfl, rfl, rfl, rfl, rfl, trivial⟩ (ih (k9 + 1) _ (by omega) (by omega) (by rw [orZ_s (by omega)]; first | (rw [if_neg hc9, Nat.or_zero]; exact hs9) | (rw [if_pos hc9, if_neg (by assumption), Nat.or_zero]; exact hs9) | (rw [if_pos hc9, if_pos (by assumption)])))
      · have e1 := i2 k9 (by omega)
        refine g_iload (i := 5) rfl d_R_gatesFor_14 ?_
        refine g_iload (i := 4) rfl d_R_gatesFor_16 ?_
        refine g_icmp_ge_i (tgt := 60) (by omega) (by decide) d_R_gatesFor_18 (by decide) (fun h => by exfalso; omega) (fun h18 => ?_)
        refine g_aload_n (n := 3) (i := 3) rfl rfl d_R_gatesFor_21 ?_
        refine g_iload (i := 5) rfl d_R_gatesFor_22 ?_
        refine g_aaloadN_i (by assumption) (by decide) (by rfl) (by omega) (by omega) (by rfl) (by assumption) d_R_gatesFor_24 ?_
        refine g_astoreN (i := 6) (by decide) rfl d_R_gatesFor_25 ?_
        refine g_aloadN (i := 6) rfl d_R_gatesFor_27 ?_
        refine g_ifnullN (tgt := 54) (by decide) d_R_gatesFor_29 ?_
        refine g_iinc_i (i := 5) rfl (by decide) rfl d_R_gatesFor_54 ?_
        refine g_goto (tgt := 14) (by decide) d_R_gatesFor_57 ?_
        exact g_cut (lv' := [(0, .ref (gad E b)), (1, .ref pp), (2, .int (iI _)), (3, .ref (gad E (b + 1))), (4, .int (iI 12)), (5, .int (iI (k9 + 1)))]) ⟨rfl, rfl, rfl, rfl, rfl, rfl, trivial⟩ (ih (k9 + 1) _ (by omega) (by omega) (by rw [orZ_s (by omega)]; first | (rw [if_neg hc9, Nat.or_zero]; exact hs9) | (rw [if_pos hc9, if_neg (by assumption), Nat.or_zero]; exact hs9) | (rw [if_pos hc9, if_pos (by assumption)])))
  refine g_enter (by decide) rfl rfl (fun h => by first | rfl | cases h) (Nat.le_of_ble_eq_true rfl) rfl ?_
  refine g_iconst_i d_R_gatesFor_0 ?_
  refine g_istore_n (n := 2) (i := 2) rfl (by decide) rfl d_R_gatesFor_1 ?_
  refine g_aload_n (n := 0) (i := 0) rfl rfl d_R_gatesFor_2 ?_
  refine g_getfield 1 0 f_R_11 (by assumption) (by rfl) d_R_gatesFor_3 ?_
  refine g_astore_n (n := 3) (i := 3) rfl (by decide) rfl d_R_gatesFor_6 ?_
  refine g_aload_n (n := 3) (i := 3) rfl rfl d_R_gatesFor_7 ?_
  refine g_alen_i (by assumption) (by decide) d_R_gatesFor_8 ?_
  refine g_istore (i := 4) (by decide) rfl d_R_gatesFor_9 ?_
  refine g_iconst_i d_R_gatesFor_11 ?_
  refine g_istore (i := 5) (by decide) rfl d_R_gatesFor_12 ?_
  refine g_cut ?_ (loop 12 0 0 (by omega) (by omega) rfl)
  exact ⟨rfl, rfl, rfl, rfl, rfl, rfl, trivial⟩

def waysAll (R : Rz) : Prop := ∀ i : Int, 0 ≤ i → i < zc R → waysOk (zC R i).2.2.2.2

theorem c_R_keepsAllWays {E : gE} {w : gW} {im : gIm} {Q : gQ} {b : Nat} {R : Rz} (hz : RZ E w im b R) (hQ1 : (waysAll R) → Q (.inl (some (.int (iI 1)))) w im) (hQ2 : ¬ (waysAll R) → Q (.inl (some (.int (iI 0)))) w im) : GM E 2 y_R_keepsAllWays m_R_keepsAllWays 0 0 [.ref (gad E b)] w im Q := by
  have hz9 := hz
  obtain ⟨rg, rp, rc, lc, ⟨hb, h0, h1, h2, h3, h4, hlc⟩, ⟨i1, i2, i3, i4, i5, i6⟩, ok⟩ := hz9
  obtain ⟨ok1, ok2, ok3, ok4, ok5, ok6, ok7, ok8, ok9⟩ := ok
  have co : g_cell E w im (gad E b) (resE E b R) := g_mut b (by omega) h0
  have cg : g_cell E w im (gad E (b + 1)) (rowE 4 12 rg) := g_mut (b + 1) (by omega) h1
  have cp : g_cell E w im (gad E (b + 2)) (rowE 5 8 rp) := g_mut (b + 2) (by omega) h2
  have cc : g_cell E w im (gad E (b + 3)) (rowE 6 20 rc) := g_mut (b + 3) (by omega) h3
  have cl : g_cell E w im (gad E (b + 4)) (intE 372 lc) := g_mut (b + 4) (by omega) h4
  have loop : ∀ (n9 : Nat) (k9 : Int), 0 ≤ k9 → k9 + n9 = 20 → (∀ i : Int, 0 ≤ i → i < zc R → i < k9 → waysOk (zC R i).2.2.2.2) → G E 2 m_R_keepsAllWays 10 [(0, .ref (gad E b)), (1, .ref (gad E (b + 3))), (2, .int (iI 20)), (3, .int (iI k9))] [] w im 0 0 Q := by
    intro n9
    induction n9 with
    | zero =>
      intro k9 h9 hk9 hs9
      refine g_iload_n (n := 3) (i := 3) rfl rfl d_R_keepsAllWays_10 ?_
      refine g_iload_n (n := 2) (i := 2) rfl rfl d_R_keepsAllWays_11 ?_
      refine g_icmp_ge_i (tgt := 41) (by omega) (by decide) d_R_keepsAllWays_12 (by decide) (fun h12 => ?_) (fun h => by exfalso; omega)
      refine g_iconst_i d_R_keepsAllWays_41 ?_
      refine g_ireturn_1 rfl d_R_keepsAllWays_42 ?_
      exact hQ1 (fun i ha hb => hs9 i ha hb (by omega))
    | succ n9 ih =>
      intro k9 h9 hk9 hs9
      by_cases hc9 : k9 < zc R
      · obtain ⟨a9, p9, la9, e1, e2, e3, e4⟩ := i5 k9 ⟨h9, hc9⟩
        have c1 := g_imm (E := E) (w := w) e2
        obtain ⟨o1, o2, o3, o4, o5⟩ := ok8 k9 ⟨h9, hc9⟩
        refine g_iload_n (n := 3) (i := 3) rfl rfl d_R_keepsAllWays_10 ?_
        refine g_iload_n (n := 2) (i := 2) rfl rfl d_R_keepsAllWays_11 ?_
        refine g_icmp_ge_i (tgt := 41) (by omega) (by decide) d_R_keepsAllWays_12 (by decide) (fun h => by exfalso; omega) (fun h12 => ?_)
        refine g_aload_n (n := 1) (i := 1) rfl rfl d_R_keepsAllWays_15 ?_
        refine g_iload_n (n := 3) (i := 3) rfl rfl d_R_keepsAllWays_16 ?_
        refine g_aaload_i (by assumption) (by decide) (by rfl) (by omega) (by omega) (by rfl) (by assumption) d_R_keepsAllWays_17 ?_
        refine g_astore (i := 4) (by decide) rfl d_R_keepsAllWays_18 ?_
        refine g_aload (i := 4) rfl d_R_keepsAllWays_20 ?_
        refine g_ifnull d_R_keepsAllWays_22 ?_
        refine g_aload (i := 4) rfl d_R_keepsAllWays_25 ?_
        refine g_callV0 rfl rfl e_C_keepsWays l_R_196 iv_C_keepsWays 8 (by decide) rfl (by assumption) (by decide) (Nat.zero_le _) (Nat.zero_le _) (Nat.le_of_ble_eq_true rfl) d_R_keepsAllWays_27 (c_C_keepsWays (by assumption) (by assumption) (by assumption) (fun hB => ?_) (fun hB => ?_))
        · refine g_ret ?_
          refine g_if_ne_i (tgt := 35) (by decide) d_R_keepsAllWays_30 (by decide) (fun h30 => ?_) (fun h => absurd h (by decide))
          refine g_iinc_i (i := 3) rfl (by decide) rfl d_R_keepsAllWays_35 ?_
          refine g_goto (tgt := 10) (by decide) d_R_keepsAllWays_38 ?_
          exact g_cut (lv' := [(0, .ref (gad E b)), (1, .ref (gad E (b + 3))), (2, .int (iI 20)), (3, .int (iI (k9 + 1)))]) ⟨rfl, rfl, rfl, rfl, trivial⟩ (ih (k9 + 1) (by omega) (by omega) (fun i ha hb hc => if he : i = k9 then (by subst he; assumption) else hs9 i ha hb (by omega)))
        · refine g_ret ?_
          refine g_if_ne_i (tgt := 35) (by decide) d_R_keepsAllWays_30 (by decide) (fun h => absurd h (by decide)) (fun h30 => ?_)
          refine g_iconst_i d_R_keepsAllWays_33 ?_
          refine g_ireturn_0 rfl d_R_keepsAllWays_34 ?_
          exact hQ2 (fun h => absurd (h k9 h9 hc9) (by assumption))
      · have e1 := i6 k9 (by omega)
        refine g_iload_n (n := 3) (i := 3) rfl rfl d_R_keepsAllWays_10 ?_
        refine g_iload_n (n := 2) (i := 2) rfl rfl d_R_keepsAllWays_11 ?_
        refine g_icmp_ge_i (tgt := 41) (by omega) (by decide) d_R_keepsAllWays_12 (by decide) (fun h => by exfalso; omega) (fun h12 => ?_)
        refine g_aload_n (n := 1) (i := 1) rfl rfl d_R_keepsAllWays_15 ?_
        refine g_iload_n (n := 3) (i := 3) rfl rfl d_R_keepsAllWays_16 ?_
        refine g_aaloadN_i (by assumption) (by decide) (by rfl) (by omega) (by omega) (by rfl) (by assumption) d_R_keepsAllWays_17 ?_
        refine g_astoreN (i := 4) (by decide) rfl d_R_keepsAllWays_18 ?_
        refine g_aloadN (i := 4) rfl d_R_keepsAllWays_20 ?_
        refine g_ifnullN (tgt := 35) (by decide) d_R_keepsAllWays_22 ?_
        refine g_iinc_i (i := 3) rfl (by decide) rfl d_R_keepsAllWays_35 ?_
        refine g_goto (tgt := 10) (by decide) d_R_keepsAllWays_38 ?_
        exact g_cut (lv' := [(0, .ref (gad E b)), (1, .ref (gad E (b + 3))), (2, .int (iI 20)), (3, .int (iI (k9 + 1)))]) ⟨rfl, rfl, rfl, rfl, trivial⟩ (ih (k9 + 1) (by omega) (by omega) (fun i ha hb hc => hs9 i ha hb (by omega)))
  refine g_enter (by decide) rfl rfl (fun h => by first | rfl | cases h) (Nat.le_of_ble_eq_true rfl) rfl ?_
  refine g_aload_n (n := 0) (i := 0) rfl rfl d_R_keepsAllWays_0 ?_
  refine g_getfield 1 2 f_R_25 (by assumption) (by rfl) d_R_keepsAllWays_1 ?_
  refine g_astore_n (n := 1) (i := 1) rfl (by decide) rfl d_R_keepsAllWays_4 ?_
  refine g_aload_n (n := 1) (i := 1) rfl rfl d_R_keepsAllWays_5 ?_
  refine g_alen_i (by assumption) (by decide) d_R_keepsAllWays_6 ?_
  refine g_istore_n (n := 2) (i := 2) rfl (by decide) rfl d_R_keepsAllWays_7 ?_
  refine g_iconst_i d_R_keepsAllWays_8 ?_
  refine g_istore_n (n := 3) (i := 3) rfl (by decide) rfl d_R_keepsAllWays_9 ?_
  refine g_cut ?_ (loop 20 0 (by omega) (by omega) (fun i ha _ hc => by omega))
  exact ⟨rfl, rfl, rfl, rfl, trivial⟩

theorem c_R_lastSuccessor {E : gE} {w : gW} {im : gIm} {Q : gQ} {b : Nat} {R : Rz} (hz : RZ E w im b R) {ca cp : Nat} {n9 st su rf pn : Int} {q9 : Pt9} {la : Option Nat} {rs : List rT} (e2 : im ca = some (cardE n9 cp st su rf la)) (e3 : im cp = some (prodAt pn q9)) (e4 : chn im la rs) (o5 : okR rs) (rst : 0 ≤ st ∧ st ≤ 3) (rq : okP q9) (rn : 0 ≤ n9 ∧ n9 < zc R) (hQ : Q (.inl (some (.int (iI (lastZ R 20 n9))))) w im) : GM E 1 y_R_lastSuccessor m_R_lastSuccessor 0 0 [.ref (gad E b), .ref ca] w im Q := by
  have hz9 := hz
  obtain ⟨rg, rp, rc, lc, ⟨hb, h0, h1, h2, h3, h4, hlc⟩, ⟨i1, i2, i3, i4, i5, i6⟩, ok⟩ := hz9
  obtain ⟨ok1, ok2, ok3, ok4, ok5, ok6, ok7, ok8, ok9⟩ := ok
  have co : g_cell E w im (gad E b) (resE E b R) := g_mut b (by omega) h0
  have cg : g_cell E w im (gad E (b + 1)) (rowE 4 12 rg) := g_mut (b + 1) (by omega) h1
  have cp : g_cell E w im (gad E (b + 2)) (rowE 5 8 rp) := g_mut (b + 2) (by omega) h2
  have cc : g_cell E w im (gad E (b + 3)) (rowE 6 20 rc) := g_mut (b + 3) (by omega) h3
  have cl : g_cell E w im (gad E (b + 4)) (intE 372 lc) := g_mut (b + 4) (by omega) h4
  have c1 := g_imm (E := E) (w := w) e2
  have c2 := g_imm (E := E) (w := w) e3
  have hlen := o5.1
  have loop : ∀ (n9 : Nat) (k9 x9 : Int), 0 ≤ k9 → k9 + n9 = 20 → (0 ≤ x9 ∧ x9 < zc R) → Q (.inl (some (.int (iI (lastZ R n9 x9))))) w im → G E 1 m_R_lastSuccessor 7 [(0, .ref (gad E b)), (1, .ref ca), (2, .int (iI x9)), (3, .int (iI k9))] [] w im 0 0 Q := by
    intro n9
    induction n9 with
    | zero =>
      intro k9 x9 h9 hk9 hx9 hQ9
      refine g_iload_n (n := 3) (i := 3) rfl rfl d_R_lastSuccessor_7 ?_
      refine g_bipush_i (by decide) d_R_lastSuccessor_8 ?_
      refine g_icmp_ge_i (tgt := 48) (by omega) (by decide) d_R_lastSuccessor_10 (by decide) (fun h10 => ?_) (fun h => by exfalso; omega)
      refine g_iload_n (n := 2) (i := 2) rfl rfl d_R_lastSuccessor_48 ?_
      refine g_ireturn_i rfl d_R_lastSuccessor_49 ?_
      exact hQ9
    | succ n9 ih =>
      intro k9 x9 h9 hk9 hx9 hQ9
      obtain ⟨o1, o2, o3, o4, o5⟩ := ok8 x9 hx9
      rw [lastZ] at hQ9
      refine g_iload_n (n := 3) (i := 3) rfl rfl d_R_lastSuccessor_7 ?_
      refine g_bipush_i (by decide) d_R_lastSuccessor_8 ?_
      refine g_icmp_ge_i (tgt := 48) (by omega) (by decide) d_R_lastSuccessor_10 (by decide) (fun h => by exfalso; omega) (fun h10 => ?_)
      refine g_aload_n (n := 0) (i := 0) rfl rfl d_R_lastSuccessor_13 ?_
      refine g_iload_n (n := 2) (i := 2) rfl rfl d_R_lastSuccessor_14 ?_
      refine g_callV1 rfl rfl e_R_cardAt l_R_118 iv_R_cardAt 1 (by decide) rfl (by assumption) (by decide) (Nat.zero_le _) (Nat.zero_le _) (Nat.le_of_ble_eq_true rfl) d_R_lastSuccessor_15 (c_R_cardAt (by assumption) (by omega) (fun a9 p9 la9 hB f1 f2 f3 => ?_) (fun hB => ?_))
      · refine g_ret ?_
        have f1 := g_imm (E := E) (w := w) f1
        refine g_astore (i := 4) (by decide) rfl d_R_lastSuccessor_18 ?_
        refine g_aload (i := 4) rfl d_R_lastSuccessor_20 ?_
        refine g_ifnull d_R_lastSuccessor_22 ?_
        refine g_aload (i := 4) rfl d_R_lastSuccessor_25 ?_
        refine g_getfield 8 3 f_R_121 (by assumption) (by rfl) d_R_lastSuccessor_27 ?_
        refine g_iconst_i d_R_lastSuccessor_30 ?_
        refine g_icmp_ne_i (tgt := 36) (by omega) (by decide) d_R_lastSuccessor_31 (by decide) (fun h31 => ?_) (fun h31 => ?_)
        · refine g_aload (i := 4) rfl d_R_lastSuccessor_36 ?_
          refine g_getfield 8 3 f_R_121 (by assumption) (by rfl) d_R_lastSuccessor_38 ?_
          refine g_istore_n (n := 2) (i := 2) rfl (by decide) rfl d_R_lastSuccessor_41 ?_
          refine g_iinc_i (i := 3) rfl (by decide) rfl d_R_lastSuccessor_42 ?_
          refine g_goto (tgt := 7) (by decide) d_R_lastSuccessor_45 ?_
          rw [if_pos ⟨hx9, by assumption⟩] at hQ9
          exact g_cut (lv' := [(0, .ref (gad E b)), (1, .ref ca), (2, .int (iI _)), (3, .int (iI (k9 + 1)))]) ⟨rfl, rfl, rfl, rfl, trivial⟩ (ih (k9 + 1) _ (by omega) (by omega) (by omega) hQ9)
        · refine g_iload_n (n := 2) (i := 2) rfl rfl d_R_lastSuccessor_34 ?_
          refine g_ireturn_i rfl d_R_lastSuccessor_35 ?_
          first | exact absurd hx9 hB | (rw [if_neg (fun h => h.2 (by omega))] at hQ9; exact hQ9)
      · refine g_ret ?_
        refine g_astoreN (i := 4) (by decide) rfl d_R_lastSuccessor_18 ?_
        refine g_aloadN (i := 4) rfl d_R_lastSuccessor_20 ?_
        refine g_ifnullN (tgt := 34) (by decide) d_R_lastSuccessor_22 ?_
        refine g_iload_n (n := 2) (i := 2) rfl rfl d_R_lastSuccessor_34 ?_
        refine g_ireturn_i rfl d_R_lastSuccessor_35 ?_
        first | exact absurd hx9 hB | (rw [if_neg (fun h => h.2 (by omega))] at hQ9; exact hQ9)
  refine g_enter (by decide) rfl rfl (fun h => by first | rfl | cases h) (Nat.le_of_ble_eq_true rfl) rfl ?_
  refine g_aload_n (n := 1) (i := 1) rfl rfl d_R_lastSuccessor_0 ?_
  refine g_getfield 8 0 f_R_82 (by assumption) (by rfl) d_R_lastSuccessor_1 ?_
  refine g_istore_n (n := 2) (i := 2) rfl (by decide) rfl d_R_lastSuccessor_4 ?_
  refine g_iconst_i d_R_lastSuccessor_5 ?_
  refine g_istore_n (n := 3) (i := 3) rfl (by decide) rfl d_R_lastSuccessor_6 ?_
  refine g_cut ?_ (loop 20 0 n9 (by omega) (by omega) (by omega) hQ)
  exact ⟨rfl, rfl, rfl, rfl, trivial⟩

