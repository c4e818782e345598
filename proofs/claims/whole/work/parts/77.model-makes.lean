/-! ===== the reference's constructor ===== -/

theorem mNil_E : (.inl (0, 3561, .inl (upd (fun _ => 0) 0 (iI 480))) : gA) = intE 3561 mNil := by
  have h : (fun _ : Nat => (0 : Int32)) = fun j : Nat => iI ((fun _ : Int => (0 : Int)) j) := funext fun _ => iI_0
  have h2 := uI_upd (m := fun _ => 0) (z := 0) (v := 480) (Int.le_refl 0)
  rw [h]
  exact congrArg (fun f => (.inl (0, 3561, .inl f) : gA)) h2

theorem c_M_init {E : gE} {w : gW} {im : gIm} {Q : gQ} {ad : Nat → Nat} {S : Nat → Prop} {c : Nat → gA} {a : Nat} (hB : BI ad S im c) (hk : S 62) (ha : ad 62 = a) (hc : c 62 = .inr (9, g_def 9)) (hn : ∀ j, 63 ≤ j ∧ j ≤ 67 → ¬ S j) (hQ : ∀ ad' im' c', BI ad' (fun i => (((((S i ∨ i = 63) ∨ i = 64) ∨ i = 65) ∨ i = 66) ∨ i = 67)) im' c' → (∀ i, S i → ad' i = ad i) → (∀ i, S i → i ≠ 62 → c' i = c i) → c' 62 = .inr (9, [.ref (ad' 63), .ref (ad' 64), .int (iI 0), .ref (ad' 65), .int (iI 0), .ref (ad' 66), .int (iI 0), .int (iI 0), .int (iI (-1)), .int (iI (-1)), .ref (ad' 67), .int (iI 0), .int (iI 0), .int (iI 0), .int (iI 0), .int (iI 0), .int (iI 0), .int (iI 0)]) → c' 63 = intE 3561 mNil → c' 64 = zrE 28488 → c' 65 = zrE 3561 → c' 66 = zrE 3561 → c' 67 = .inl (1, 60, .inl (fun _ => 0)) → Q (.inl none) w im') : GM E 0 y_M_init m_M_init 5 39231 [.ref a] w im Q := by
  have hA : ∀ i, S i → ad i = ad i := fun _ _ => rfl
  have hC : ∀ i, S i → i ≠ 62 → c i = c i := fun _ _ _ => rfl
  refine g_enter (by decide) rfl rfl (fun h => by first | rfl | cases h) (Nat.le_of_ble_eq_true rfl) rfl ?_
  refine g_aload_n (n := 0) (i := 0) rfl rfl d_M_init_0 ?_
  refine g_objInit l_M_1 x_obj.1 x_obj.2 (Nat.le_of_ble_eq_true rfl) d_M_init_1 ?_
  refine g_aload_n (n := 0) (i := 0) rfl rfl d_M_init_4 ?_
  refine g_sipush_i (by decide) d_M_init_5 ?_
  refine g_newarray (n := iI 3561) (N := 3561) 0 (by decide) rfl na_0 (by decide) (by decide) (by omega) (by omega) d_M_init_8 (fun q1 hq1 hz1 => ?_)
  obtain ⟨ad, c, hB, e1, d1, hA1, hC1⟩ := hB.newA (k := 63) (x := zrE 3561) hq1 (fun h => by
    rcases h with h
    · exact hn 63 (by omega) h)
  have ha := (hA1 62 (hk)).trans ha
  have hc := (hC1 62 (hk)).trans hc
  have hA := fun i (hi : S i) => (hA1 i (hi)).trans (hA i hi)
  have hC := fun i (hi : S i) (hne : i ≠ 62) => (hC1 i (hi)).trans (hC i hi hne)
  refine g_putI_i 9 0 (hB.at (Or.inl (hk)) ha hc) f_M_9 (Or.inr ⟨rfl, rfl⟩) (by rfl) (by rfl) (Nat.le_of_ble_eq_true rfl) d_M_init_10 ?_
  obtain ⟨c, hB, hc, hC1⟩ := hB.setA (Or.inl (hk)) ha
  have d1 := (hC1 63 (by omega)).trans d1
  have hC := fun i (hi : S i) (hne : i ≠ 62) => (hC1 i hne).trans (hC i hi hne)
  refine g_aload_n (n := 0) (i := 0) rfl rfl d_M_init_13 ?_
  refine g_sipush_i (by decide) d_M_init_14 ?_
  refine g_newarray (n := iI 28488) (N := 28488) 0 (by decide) rfl na_0 (by decide) (by decide) (by omega) (by omega) d_M_init_17 (fun q2 hq2 hz2 => ?_)
  obtain ⟨ad, c, hB, e2, d2, hA1, hC1⟩ := hB.newA (k := 64) (x := zrE 28488) hq2 (fun h => by
    rcases h with (h | h)
    · exact hn 64 (by omega) h
    · omega)
  have ha := (hA1 62 (Or.inl (hk))).trans ha
  have hc := (hC1 62 (Or.inl (hk))).trans hc
  have e1 := (hA1 63 (Or.inr rfl)).trans e1
  have d1 := (hC1 63 (Or.inr rfl)).trans d1
  have hA := fun i (hi : S i) => (hA1 i (Or.inl (hi))).trans (hA i hi)
  have hC := fun i (hi : S i) (hne : i ≠ 62) => (hC1 i (Or.inl (hi))).trans (hC i hi hne)
  refine g_putI_i 9 1 (hB.at (Or.inl (Or.inl (hk))) ha hc) f_M_13 (Or.inr ⟨rfl, rfl⟩) (by rfl) (by rfl) (Nat.le_of_ble_eq_true rfl) d_M_init_19 ?_
  obtain ⟨c, hB, hc, hC1⟩ := hB.setA (Or.inl (Or.inl (hk))) ha
  have d1 := (hC1 63 (by omega)).trans d1
  have d2 := (hC1 64 (by omega)).trans d2
  have hC := fun i (hi : S i) (hne : i ≠ 62) => (hC1 i hne).trans (hC i hi hne)
  refine g_aload_n (n := 0) (i := 0) rfl rfl d_M_init_22 ?_
  refine g_sipush_i (by decide) d_M_init_23 ?_
  refine g_newarray (n := iI 3561) (N := 3561) 0 (by decide) rfl na_0 (by decide) (by decide) (by omega) (by omega) d_M_init_26 (fun q3 hq3 hz3 => ?_)
  obtain ⟨ad, c, hB, e3, d3, hA1, hC1⟩ := hB.newA (k := 65) (x := zrE 3561) hq3 (fun h => by
    rcases h with ((h | h) | h)
    · exact hn 65 (by omega) h
    · omega
    · omega)
  have ha := (hA1 62 (Or.inl (Or.inl (hk)))).trans ha
  have hc := (hC1 62 (Or.inl (Or.inl (hk)))).trans hc
  have e1 := (hA1 63 (Or.inl (Or.inr rfl))).trans e1
  have d1 := (hC1 63 (Or.inl (Or.inr rfl))).trans d1
  have e2 := (hA1 64 (Or.inr rfl)).trans e2
  have d2 := (hC1 64 (Or.inr rfl)).trans d2
  have hA := fun i (hi : S i) => (hA1 i (Or.inl (Or.inl (hi)))).trans (hA i hi)
  have hC := fun i (hi : S i) (hne : i ≠ 62) => (hC1 i (Or.inl (Or.inl (hi)))).trans (hC i hi hne)
  refine g_putI_i 9 3 (hB.at (Or.inl (Or.inl (Or.inl (hk)))) ha hc) f_M_16 (Or.inr ⟨rfl, rfl⟩) (by rfl) (by rfl) (Nat.le_of_ble_eq_true rfl) d_M_init_28 ?_
  obtain ⟨c, hB, hc, hC1⟩ := hB.setA (Or.inl (Or.inl (Or.inl (hk)))) ha
  have d1 := (hC1 63 (by omega)).trans d1
  have d2 := (hC1 64 (by omega)).trans d2
  have d3 := (hC1 65 (by omega)).trans d3
  have hC := fun i (hi : S i) (hne : i ≠ 62) => (hC1 i hne).trans (hC i hi hne)
  refine g_aload_n (n := 0) (i := 0) rfl rfl d_M_init_31 ?_
  refine g_sipush_i (by decide) d_M_init_32 ?_
  refine g_newarray (n := iI 3561) (N := 3561) 0 (by decide) rfl na_0 (by decide) (by decide) (by omega) (by omega) d_M_init_35 (fun q4 hq4 hz4 => ?_)
  obtain ⟨ad, c, hB, e4, d4, hA1, hC1⟩ := hB.newA (k := 66) (x := zrE 3561) hq4 (fun h => by
    rcases h with (((h | h) | h) | h)
    · exact hn 66 (by omega) h
    · omega
    · omega
    · omega)
  have ha := (hA1 62 (Or.inl (Or.inl (Or.inl (hk))))).trans ha
  have hc := (hC1 62 (Or.inl (Or.inl (Or.inl (hk))))).trans hc
  have e1 := (hA1 63 (Or.inl (Or.inl (Or.inr rfl)))).trans e1
  have d1 := (hC1 63 (Or.inl (Or.inl (Or.inr rfl)))).trans d1
  have e2 := (hA1 64 (Or.inl (Or.inr rfl))).trans e2
  have d2 := (hC1 64 (Or.inl (Or.inr rfl))).trans d2
  have e3 := (hA1 65 (Or.inr rfl)).trans e3
  have d3 := (hC1 65 (Or.inr rfl)).trans d3
  have hA := fun i (hi : S i) => (hA1 i (Or.inl (Or.inl (Or.inl (hi))))).trans (hA i hi)
  have hC := fun i (hi : S i) (hne : i ≠ 62) => (hC1 i (Or.inl (Or.inl (Or.inl (hi))))).trans (hC i hi hne)
  refine g_putI_i 9 5 (hB.at (Or.inl (Or.inl (Or.inl (Or.inl (hk))))) ha hc) f_M_19 (Or.inr ⟨rfl, rfl⟩) (by rfl) (by rfl) (Nat.le_of_ble_eq_true rfl) d_M_init_37 ?_
  obtain ⟨c, hB, hc, hC1⟩ := hB.setA (Or.inl (Or.inl (Or.inl (Or.inl (hk))))) ha
  have d1 := (hC1 63 (by omega)).trans d1
  have d2 := (hC1 64 (by omega)).trans d2
  have d3 := (hC1 65 (by omega)).trans d3
  have d4 := (hC1 66 (by omega)).trans d4
  have hC := fun i (hi : S i) (hne : i ≠ 62) => (hC1 i hne).trans (hC i hi hne)
  refine g_aload_n (n := 0) (i := 0) rfl rfl d_M_init_40 ?_
  refine g_iconst_i d_M_init_41 ?_
  refine g_putI_i 9 8 (hB.at (Or.inl (Or.inl (Or.inl (Or.inl (hk))))) ha hc) f_M_22 (Or.inl rfl) (by rfl) (by rfl) (Nat.le_of_ble_eq_true rfl) d_M_init_42 ?_
  obtain ⟨c, hB, hc, hC1⟩ := hB.setA (Or.inl (Or.inl (Or.inl (Or.inl (hk))))) ha
  have d1 := (hC1 63 (by omega)).trans d1
  have d2 := (hC1 64 (by omega)).trans d2
  have d3 := (hC1 65 (by omega)).trans d3
  have d4 := (hC1 66 (by omega)).trans d4
  have hC := fun i (hi : S i) (hne : i ≠ 62) => (hC1 i hne).trans (hC i hi hne)
  refine g_aload_n (n := 0) (i := 0) rfl rfl d_M_init_45 ?_
  refine g_iconst_i d_M_init_46 ?_
  refine g_putI_i 9 9 (hB.at (Or.inl (Or.inl (Or.inl (Or.inl (hk))))) ha hc) f_M_26 (Or.inl rfl) (by rfl) (by rfl) (Nat.le_of_ble_eq_true rfl) d_M_init_47 ?_
  obtain ⟨c, hB, hc, hC1⟩ := hB.setA (Or.inl (Or.inl (Or.inl (Or.inl (hk))))) ha
  have d1 := (hC1 63 (by omega)).trans d1
  have d2 := (hC1 64 (by omega)).trans d2
  have d3 := (hC1 65 (by omega)).trans d3
  have d4 := (hC1 66 (by omega)).trans d4
  have hC := fun i (hi : S i) (hne : i ≠ 62) => (hC1 i hne).trans (hC i hi hne)
  refine g_aload_n (n := 0) (i := 0) rfl rfl d_M_init_50 ?_
  refine g_bipush_i (by decide) d_M_init_51 ?_
  refine g_newarray (n := iI 60) (N := 60) 1 (by decide) rfl na_1 (by decide) (by decide) (by omega) (by omega) d_M_init_53 (fun q5 hq5 hz5 => ?_)
  obtain ⟨ad, c, hB, e5, d5, hA1, hC1⟩ := hB.newA (k := 67) (x := .inl (1, 60, .inl (fun _ => 0))) hq5 (fun h => by
    rcases h with ((((h | h) | h) | h) | h)
    · exact hn 67 (by omega) h
    · omega
    · omega
    · omega
    · omega)
  have ha := (hA1 62 (Or.inl (Or.inl (Or.inl (Or.inl (hk)))))).trans ha
  have hc := (hC1 62 (Or.inl (Or.inl (Or.inl (Or.inl (hk)))))).trans hc
  have e1 := (hA1 63 (Or.inl (Or.inl (Or.inl (Or.inr rfl))))).trans e1
  have d1 := (hC1 63 (Or.inl (Or.inl (Or.inl (Or.inr rfl))))).trans d1
  have e2 := (hA1 64 (Or.inl (Or.inl (Or.inr rfl)))).trans e2
  have d2 := (hC1 64 (Or.inl (Or.inl (Or.inr rfl)))).trans d2
  have e3 := (hA1 65 (Or.inl (Or.inr rfl))).trans e3
  have d3 := (hC1 65 (Or.inl (Or.inr rfl))).trans d3
  have e4 := (hA1 66 (Or.inr rfl)).trans e4
  have d4 := (hC1 66 (Or.inr rfl)).trans d4
  have hA := fun i (hi : S i) => (hA1 i (Or.inl (Or.inl (Or.inl (Or.inl (hi)))))).trans (hA i hi)
  have hC := fun i (hi : S i) (hne : i ≠ 62) => (hC1 i (Or.inl (Or.inl (Or.inl (Or.inl (hi)))))).trans (hC i hi hne)
  refine g_putI_i 9 10 (hB.at (Or.inl (Or.inl (Or.inl (Or.inl (Or.inl (hk)))))) ha hc) f_M_29 (Or.inr ⟨rfl, rfl⟩) (by rfl) (by rfl) (Nat.le_of_ble_eq_true rfl) d_M_init_55 ?_
  obtain ⟨c, hB, hc, hC1⟩ := hB.setA (Or.inl (Or.inl (Or.inl (Or.inl (Or.inl (hk)))))) ha
  have d1 := (hC1 63 (by omega)).trans d1
  have d2 := (hC1 64 (by omega)).trans d2
  have d3 := (hC1 65 (by omega)).trans d3
  have d4 := (hC1 66 (by omega)).trans d4
  have d5 := (hC1 67 (by omega)).trans d5
  have hC := fun i (hi : S i) (hne : i ≠ 62) => (hC1 i hne).trans (hC i hi hne)
  refine g_aload_n (n := 0) (i := 0) rfl rfl d_M_init_58 ?_
  refine g_getfield 9 0 f_M_9 (g_imm (hB.at (Or.inl (Or.inl (Or.inl (Or.inl (Or.inl (hk)))))) ha hc)) (by rfl) d_M_init_59 ?_
  refine g_iconst_i d_M_init_62 ?_
  refine g_sipush_i (by decide) d_M_init_63 ?_
  refine g_iastoreI (j := 0) (hB.at (k := 63) (Or.inl (Or.inl (Or.inl (Or.inl (Or.inr rfl))))) e1 d1) (iI_nI 0).symm (by decide) (by rfl) d_M_init_66 ?_
  obtain ⟨c, hB, d1, hC1⟩ := hB.setA (k := 63) (Or.inl (Or.inl (Or.inl (Or.inl (Or.inr rfl))))) e1
  have hc := (hC1 62 (by omega)).trans hc
  have d2 := (hC1 64 (by omega)).trans d2
  have d3 := (hC1 65 (by omega)).trans d3
  have d4 := (hC1 66 (by omega)).trans d4
  have d5 := (hC1 67 (by omega)).trans d5
  have hC := fun i (hi : S i) (hne : i ≠ 62) => (hC1 i (fun e => hn 63 (by omega) (e ▸ hi))).trans (hC i hi hne)
  refine g_return rfl d_M_init_67 ?_
  exact hQ ad _ c hB hA hC (by rw [e1, e2, e3, e4, e5]; exact hc) (d1.trans mNil_E) d2 d3 d4 d5

