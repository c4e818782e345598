/-! ===== the constructor of the class ===== -/

theorem c_X_init {E : gE} {w : gW} {im : gIm} {Q : gQ} {ad : Nat → Nat} {S : Nat → Prop} {c : Nat → gA} {a : Nat} (hB : BI ad S im c) (hk : S 0) (ha : ad 0 = a) (hc : c 0 = .inr (0, g_def 0)) (hn : ∀ j, 1 ≤ j ∧ j ≤ 61 → ¬ S j) (hQ : ∀ ad' im' c' f, BI ad' (fun i => S i ∨ (1 ≤ i ∧ i ≤ 61)) im' c' → (∀ i, S i → ad' i = ad i) → (∀ i, S i → i ≠ 0 → c' i = c i) → c' 0 = .inr (0, [.ref (ad' 1), .ref (ad' 6), .ref (ad' 56), .ref (ad' 58), .ref (ad' 60), .int (iI 0), .int (iI 0), .int (iI (-1)), .int (iI (-1))]) → emR ad' c' 1 → emR ad' c' 6 → c' 56 = .inr (2, [.ref (ad' 57), .int (iI 0), .int (iI 0)]) → c' 57 = .inl (7, 9, .inr (.inr (.inr (.inr f)))) → (∀ i, i < 9 → f i = some (ad' (11 + 5 * i)) ∧ emR ad' c' (11 + 5 * i)) → c' 58 = .inr (3, [.ref (ad' 59), .int (iI 0), .int (iI 0), .int (iI 0), .int (iI 32), .int (iI 0), .int (iI 0)]) → c' 59 = .inl (1, 60, .inl (fun _ => 0)) → c' 60 = .inr (4, [.ref (ad' 61)]) → c' 61 = zrE 4 → Q (.inl none) w im') : GM E 2 y_X_init m_X_init 80 6000 [.ref a] w im Q := by
  have hA : ∀ i, S i → ad i = ad i := fun _ _ => rfl
  have hC : ∀ i, S i → i ≠ 0 → c i = c i := fun _ _ _ => rfl
  have h0 := hc
  have hB : BI ad (fun i => S i ∨ (1 ≤ i ∧ i ≤ 0)) im c := hB.sub (fun i hi => by rcases hi with hi | hi; exact hi; omega)
  refine g_enter (by decide) rfl rfl (fun h => by first | rfl | cases h) (Nat.le_of_ble_eq_true rfl) rfl ?_
  refine g_aload_n (n := 0) (i := 0) rfl rfl d_X_init_0 ?_
  refine g_objInit l_X_3 x_obj.1 x_obj.2 (Nat.le_of_ble_eq_true rfl) d_X_init_1 ?_
  refine g_aload_n (n := 0) (i := 0) rfl rfl d_X_init_4 ?_
  refine g_new 1 (by decide) c_X_9 ni_R.1 ni_R.2 (by first | decide | omega) (by first | decide | omega) d_X_init_5 (fun q1 hq11 hq12 => ?_)
  obtain ⟨ad1, c1, hB1, b1, b2, b3, b4⟩ := hB.newA (k := 1) (x := .inr (1, g_def 1)) hq11 (fun h => by
    rcases h with h | h
    · exact hn 1 (by omega) h
    · omega)
  refine g_dup rfl d_X_init_8 ?_
  refine g_callIN0 rfl rfl e_R_init l_X_11 is_R_init rfl (by decide) (by decide) (by decide) (Nat.le_of_ble_eq_true rfl) d_X_init_9 (c_R_init (k := 1) (a := q1) hB1 (Or.inr rfl) b1 b2 (fun j hj h => by rcases h with (h | h) | h <;> first | exact hn _ (by omega) h | omega) (fun ad2 im2 c2 hB2 hA2 hC2 g0 g1 g2 g3 g4 => ?_))
  refine g_retvn ?_
  have A0 : ad2 0 = a := (hA2 0 (Or.inl (Or.inl hk))).trans ((b3 0 (Or.inl hk)).trans ha)
  have C0 := (hC2 0 (Or.inl (Or.inl hk)) (by omega)).trans ((b4 0 (Or.inl hk)).trans h0)
  refine g_putI_i 0 0 (hB2.at (k := 0) (Or.inl (Or.inl (Or.inl (Or.inl (Or.inl (Or.inl hk)))))) A0 C0) f_X_12 (Or.inr ⟨rfl, rfl⟩) (by rfl) (by rfl) (Nat.le_of_ble_eq_true rfl) d_X_init_12 ?_
  obtain ⟨c3, hB3, C3, hC3⟩ := hB2.setA (k := 0) (Or.inl (Or.inl (Or.inl (Or.inl (Or.inl (Or.inl hk)))))) A0
  have hB : BI ad2 (fun i => S i ∨ (1 ≤ i ∧ i ≤ 5)) _ c3 := hB3.sub (fun i hi => by rcases hi with hi | hi <;> first | (simp [hi]; done) | omega)
  have st_A : ∀ i, (S i ∨ (1 ≤ i ∧ i ≤ 0)) → ad2 i = _ := fun i hi => (hA2 i (Or.inl hi)).trans (b3 i hi)
  have st_C : ∀ i, (S i ∨ (1 ≤ i ∧ i ≤ 0)) → i ≠ 0 → c3 i = _ := fun i hi h9 => (hC3 i h9).trans ((hC2 i (Or.inl hi) (fun e => by subst e; rcases hi with hi | hi <;> first | exact hn _ (by omega) hi | omega)).trans (b4 i hi))
  have p1 : ad2 1 = q1 := (hA2 1 (Or.inr rfl)).trans b1
  have e1 : emR ad2 c3 1 := emR.cong (ad := ad2) (c := c2) ⟨g0, g1, g2, g3, g4⟩ (fun _ _ => rfl) (fun i hi => hC3 i (by omega))
  have hA := fun i (hi : S i) => (st_A i (Or.inl hi)).trans (hA i hi)
  have hC := fun i (hi : S i) (h9 : i ≠ 0) => (st_C i (Or.inl hi) h9).trans (hC i hi h9)
  have ha := A0
  have h0 := C3
  refine g_aload_n (n := 0) (i := 0) rfl rfl d_X_init_15 ?_
  refine g_new 1 (by decide) c_X_9 ni_R.1 ni_R.2 (by first | decide | omega) (by first | decide | omega) d_X_init_16 (fun q6 hq61 hq62 => ?_)
  obtain ⟨ad1, c1, hB1, b1, b2, b3, b4⟩ := hB.newA (k := 6) (x := .inr (1, g_def 1)) hq61 (fun h => by
    rcases h with h | h
    · exact hn 6 (by omega) h
    · omega)
  refine g_dup rfl d_X_init_19 ?_
  refine g_callIN0 rfl rfl e_R_init l_X_11 is_R_init rfl (by decide) (by decide) (by decide) (Nat.le_of_ble_eq_true rfl) d_X_init_20 (c_R_init (k := 6) (a := q6) hB1 (Or.inr rfl) b1 b2 (fun j hj h => by rcases h with (h | h) | h <;> first | exact hn _ (by omega) h | omega) (fun ad2 im2 c2 hB2 hA2 hC2 g0 g1 g2 g3 g4 => ?_))
  refine g_retvn ?_
  have A0 : ad2 0 = a := (hA2 0 (Or.inl (Or.inl hk))).trans ((b3 0 (Or.inl hk)).trans ha)
  have C0 := (hC2 0 (Or.inl (Or.inl hk)) (by omega)).trans ((b4 0 (Or.inl hk)).trans h0)
  refine g_putI_i 0 1 (hB2.at (k := 0) (Or.inl (Or.inl (Or.inl (Or.inl (Or.inl (Or.inl hk)))))) A0 C0) f_X_16 (Or.inr ⟨rfl, rfl⟩) (by rfl) (by rfl) (Nat.le_of_ble_eq_true rfl) d_X_init_23 ?_
  obtain ⟨c3, hB3, C3, hC3⟩ := hB2.setA (k := 0) (Or.inl (Or.inl (Or.inl (Or.inl (Or.inl (Or.inl hk)))))) A0
  have hB : BI ad2 (fun i => S i ∨ (1 ≤ i ∧ i ≤ 10)) _ c3 := hB3.sub (fun i hi => by rcases hi with hi | hi <;> first | (simp [hi]; done) | omega)
  have st_A : ∀ i, (S i ∨ (1 ≤ i ∧ i ≤ 5)) → ad2 i = _ := fun i hi => (hA2 i (Or.inl hi)).trans (b3 i hi)
  have st_C : ∀ i, (S i ∨ (1 ≤ i ∧ i ≤ 5)) → i ≠ 0 → c3 i = _ := fun i hi h9 => (hC3 i h9).trans ((hC2 i (Or.inl hi) (fun e => by subst e; rcases hi with hi | hi <;> first | exact hn _ (by omega) hi | omega)).trans (b4 i hi))
  have e1 := e1.cong (fun i hi => st_A i (Or.inr (by omega))) (fun i hi => st_C i (Or.inr (by omega)) (by omega))
  have p1 := (st_A 1 (Or.inr (by omega))).trans p1
  have p6 : ad2 6 = q6 := (hA2 6 (Or.inr rfl)).trans b1
  have e6 : emR ad2 c3 6 := emR.cong (ad := ad2) (c := c2) ⟨g0, g1, g2, g3, g4⟩ (fun _ _ => rfl) (fun i hi => hC3 i (by omega))
  have hA := fun i (hi : S i) => (st_A i (Or.inl hi)).trans (hA i hi)
  have hC := fun i (hi : S i) (h9 : i ≠ 0) => (st_C i (Or.inl hi) h9).trans (hC i hi h9)
  have ha := A0
  have h0 := C3
  refine g_aload_n (n := 0) (i := 0) rfl rfl d_X_init_26 ?_
  refine g_new 2 (by decide) c_X_19 ni_H.1 ni_H.2 (by first | decide | omega) (by first | decide | omega) d_X_init_27 (fun q56 hq561 hq562 => ?_)
  obtain ⟨ad1, c1, hB1, b1, b2, b3, b4⟩ := hB.newA (k := 56) (x := .inr (2, g_def 2)) hq561 (fun h => by
    rcases h with h | h
    · exact hn 56 (by omega) h
    · omega)
  refine g_dup rfl d_X_init_30 ?_
  refine g_callI0 rfl rfl e_H_init l_X_21 is_H_init rfl (by decide) (by decide) (by decide) (Nat.le_of_ble_eq_true rfl) d_X_init_31 (c_H_init (a := q56) hB1 (Or.inr rfl) b1 b2 (fun h => by rcases h with (h | h) | h <;> first | exact hn _ (by omega) h | omega) (fun j hj h => by rcases h with (h | h) | h <;> first | exact hn _ (by omega) h | omega) (fun ad2 im2 c2 f hB2 hA2 hC2 g0 g1 g2 => ?_))
  refine g_retvn ?_
  have A0 : ad2 0 = a := (hA2 0 (Or.inl (Or.inl hk))).trans ((b3 0 (Or.inl hk)).trans ha)
  have C0 := (hC2 0 (Or.inl (Or.inl hk)) (by omega)).trans ((b4 0 (Or.inl hk)).trans h0)
  refine g_putI_i 0 2 (hB2.at (k := 0) (Or.inl (Or.inl (Or.inl (Or.inl hk)))) A0 C0) f_X_22 (Or.inr ⟨rfl, rfl⟩) (by rfl) (by rfl) (Nat.le_of_ble_eq_true rfl) d_X_init_34 ?_
  obtain ⟨c3, hB3, C3, hC3⟩ := hB2.setA (k := 0) (Or.inl (Or.inl (Or.inl (Or.inl hk)))) A0
  have hB : BI ad2 (fun i => S i ∨ (1 ≤ i ∧ i ≤ 57)) _ c3 := hB3.sub (fun i hi => by rcases hi with hi | hi <;> first | (simp [hi]; done) | omega)
  have st_A : ∀ i, (S i ∨ (1 ≤ i ∧ i ≤ 10)) → ad2 i = _ := fun i hi => (hA2 i (Or.inl hi)).trans (b3 i hi)
  have st_C : ∀ i, (S i ∨ (1 ≤ i ∧ i ≤ 10)) → i ≠ 0 → c3 i = _ := fun i hi h9 => (hC3 i h9).trans ((hC2 i (Or.inl hi) (fun e => by subst e; rcases hi with hi | hi <;> first | exact hn _ (by omega) hi | omega)).trans (b4 i hi))
  have e1 := e1.cong (fun i hi => st_A i (Or.inr (by omega))) (fun i hi => st_C i (Or.inr (by omega)) (by omega))
  have e6 := e6.cong (fun i hi => st_A i (Or.inr (by omega))) (fun i hi => st_C i (Or.inr (by omega)) (by omega))
  have p1 := (st_A 1 (Or.inr (by omega))).trans p1
  have p6 := (st_A 6 (Or.inr (by omega))).trans p6
  have p56 : ad2 56 = q56 := (hA2 56 (Or.inr rfl)).trans b1
  have v56 := (hC3 56 (by omega)).trans g0
  have v57 := (hC3 57 (by omega)).trans g1
  have vf := fun i (hi : i < 9) => (⟨(g2 i hi).1, (g2 i hi).2.cong (fun _ _ => rfl) (fun l hl => hC3 l (by omega))⟩ : f i = some (ad2 (11 + 5 * i)) ∧ emR ad2 c3 (11 + 5 * i))
  have hA := fun i (hi : S i) => (st_A i (Or.inl hi)).trans (hA i hi)
  have hC := fun i (hi : S i) (h9 : i ≠ 0) => (st_C i (Or.inl hi) h9).trans (hC i hi h9)
  have ha := A0
  have h0 := C3
  refine g_aload_n (n := 0) (i := 0) rfl rfl d_X_init_37 ?_
  refine g_new 3 (by decide) c_X_26 ni_T.1 ni_T.2 (by first | decide | omega) (by first | decide | omega) d_X_init_38 (fun q58 hq581 hq582 => ?_)
  obtain ⟨ad1, c1, hB1, b1, b2, b3, b4⟩ := hB.newA (k := 58) (x := .inr (3, g_def 3)) hq581 (fun h => by
    rcases h with h | h
    · exact hn 58 (by omega) h
    · omega)
  refine g_dup rfl d_X_init_41 ?_
  refine g_callIN0 rfl rfl e_T_init l_X_28 is_T_init rfl (by decide) (by decide) (by decide) (Nat.le_of_ble_eq_true rfl) d_X_init_42 (c_T_init (a := q58) hB1 (Or.inr rfl) b1 b2 (fun h => by rcases h with (h | h) | h <;> first | exact hn _ (by omega) h | omega) (fun ad2 im2 c2 hB2 hA2 hC2 g0 g1 => ?_))
  refine g_retvn ?_
  have A0 : ad2 0 = a := (hA2 0 (Or.inl (Or.inl hk))).trans ((b3 0 (Or.inl hk)).trans ha)
  have C0 := (hC2 0 (Or.inl (Or.inl hk)) (by omega)).trans ((b4 0 (Or.inl hk)).trans h0)
  refine g_putI_i 0 3 (hB2.at (k := 0) (Or.inl (Or.inl (Or.inl hk))) A0 C0) f_X_29 (Or.inr ⟨rfl, rfl⟩) (by rfl) (by rfl) (Nat.le_of_ble_eq_true rfl) d_X_init_45 ?_
  obtain ⟨c3, hB3, C3, hC3⟩ := hB2.setA (k := 0) (Or.inl (Or.inl (Or.inl hk))) A0
  have hB : BI ad2 (fun i => S i ∨ (1 ≤ i ∧ i ≤ 59)) _ c3 := hB3.sub (fun i hi => by rcases hi with hi | hi <;> first | (simp [hi]; done) | omega)
  have st_A : ∀ i, (S i ∨ (1 ≤ i ∧ i ≤ 57)) → ad2 i = _ := fun i hi => (hA2 i (Or.inl hi)).trans (b3 i hi)
  have st_C : ∀ i, (S i ∨ (1 ≤ i ∧ i ≤ 57)) → i ≠ 0 → c3 i = _ := fun i hi h9 => (hC3 i h9).trans ((hC2 i (Or.inl hi) (fun e => by subst e; rcases hi with hi | hi <;> first | exact hn _ (by omega) hi | omega)).trans (b4 i hi))
  have e1 := e1.cong (fun i hi => st_A i (Or.inr (by omega))) (fun i hi => st_C i (Or.inr (by omega)) (by omega))
  have e6 := e6.cong (fun i hi => st_A i (Or.inr (by omega))) (fun i hi => st_C i (Or.inr (by omega)) (by omega))
  have v56 : c3 56 = .inr (2, [.ref (ad2 57), .int (iI 0), .int (iI 0)]) := by rw [st_C 56 (Or.inr (by omega)) (by omega), st_A 57 (Or.inr (by omega))]; exact v56
  have v57 := (st_C 57 (Or.inr (by omega)) (by omega)).trans v57
  have vf := fun i (hi : i < 9) => (⟨(vf i hi).1.trans (congrArg some (st_A _ (Or.inr (by omega))).symm), (vf i hi).2.cong (fun l hl => st_A l (Or.inr (by omega))) (fun l hl => st_C l (Or.inr (by omega)) (by omega))⟩ : f i = some (ad2 (11 + 5 * i)) ∧ emR ad2 c3 (11 + 5 * i))
  have p1 := (st_A 1 (Or.inr (by omega))).trans p1
  have p6 := (st_A 6 (Or.inr (by omega))).trans p6
  have p56 := (st_A 56 (Or.inr (by omega))).trans p56
  have p58 : ad2 58 = q58 := (hA2 58 (Or.inr rfl)).trans b1
  have v58 := (hC3 58 (by omega)).trans g0
  have v59 := (hC3 59 (by omega)).trans g1
  have hA := fun i (hi : S i) => (st_A i (Or.inl hi)).trans (hA i hi)
  have hC := fun i (hi : S i) (h9 : i ≠ 0) => (st_C i (Or.inl hi) h9).trans (hC i hi h9)
  have ha := A0
  have h0 := C3
  refine g_aload_n (n := 0) (i := 0) rfl rfl d_X_init_48 ?_
  refine g_new 4 (by decide) c_X_33 ni_S.1 ni_S.2 (by first | decide | omega) (by first | decide | omega) d_X_init_49 (fun q60 hq601 hq602 => ?_)
  obtain ⟨ad1, c1, hB1, b1, b2, b3, b4⟩ := hB.newA (k := 60) (x := .inr (4, g_def 4)) hq601 (fun h => by
    rcases h with h | h
    · exact hn 60 (by omega) h
    · omega)
  refine g_dup rfl d_X_init_52 ?_
  refine g_callIN0 rfl rfl e_S_init l_X_35 is_S_init rfl (by decide) (by decide) (by decide) (Nat.le_of_ble_eq_true rfl) d_X_init_53 (c_S_init (a := q60) hB1 (Or.inr rfl) b1 b2 (fun h => by rcases h with (h | h) | h <;> first | exact hn _ (by omega) h | omega) (fun ad2 im2 c2 hB2 hA2 hC2 g0 g1 => ?_))
  refine g_retvn ?_
  have A0 : ad2 0 = a := (hA2 0 (Or.inl (Or.inl hk))).trans ((b3 0 (Or.inl hk)).trans ha)
  have C0 := (hC2 0 (Or.inl (Or.inl hk)) (by omega)).trans ((b4 0 (Or.inl hk)).trans h0)
  refine g_putI_i 0 4 (hB2.at (k := 0) (Or.inl (Or.inl (Or.inl hk))) A0 C0) f_X_36 (Or.inr ⟨rfl, rfl⟩) (by rfl) (by rfl) (Nat.le_of_ble_eq_true rfl) d_X_init_56 ?_
  obtain ⟨c3, hB3, C3, hC3⟩ := hB2.setA (k := 0) (Or.inl (Or.inl (Or.inl hk))) A0
  have hB : BI ad2 (fun i => S i ∨ (1 ≤ i ∧ i ≤ 61)) _ c3 := hB3.sub (fun i hi => by rcases hi with hi | hi <;> first | (simp [hi]; done) | omega)
  have st_A : ∀ i, (S i ∨ (1 ≤ i ∧ i ≤ 59)) → ad2 i = _ := fun i hi => (hA2 i (Or.inl hi)).trans (b3 i hi)
  have st_C : ∀ i, (S i ∨ (1 ≤ i ∧ i ≤ 59)) → i ≠ 0 → c3 i = _ := fun i hi h9 => (hC3 i h9).trans ((hC2 i (Or.inl hi) (fun e => by subst e; rcases hi with hi | hi <;> first | exact hn _ (by omega) hi | omega)).trans (b4 i hi))
  have e1 := e1.cong (fun i hi => st_A i (Or.inr (by omega))) (fun i hi => st_C i (Or.inr (by omega)) (by omega))
  have e6 := e6.cong (fun i hi => st_A i (Or.inr (by omega))) (fun i hi => st_C i (Or.inr (by omega)) (by omega))
  have v56 : c3 56 = .inr (2, [.ref (ad2 57), .int (iI 0), .int (iI 0)]) := by rw [st_C 56 (Or.inr (by omega)) (by omega), st_A 57 (Or.inr (by omega))]; exact v56
  have v57 := (st_C 57 (Or.inr (by omega)) (by omega)).trans v57
  have vf := fun i (hi : i < 9) => (⟨(vf i hi).1.trans (congrArg some (st_A _ (Or.inr (by omega))).symm), (vf i hi).2.cong (fun l hl => st_A l (Or.inr (by omega))) (fun l hl => st_C l (Or.inr (by omega)) (by omega))⟩ : f i = some (ad2 (11 + 5 * i)) ∧ emR ad2 c3 (11 + 5 * i))
  have v58 : c3 58 = .inr (3, [.ref (ad2 59), .int (iI 0), .int (iI 0), .int (iI 0), .int (iI 32), .int (iI 0), .int (iI 0)]) := by rw [st_C 58 (Or.inr (by omega)) (by omega), st_A 59 (Or.inr (by omega))]; exact v58
  have v59 := (st_C 59 (Or.inr (by omega)) (by omega)).trans v59
  have p1 := (st_A 1 (Or.inr (by omega))).trans p1
  have p6 := (st_A 6 (Or.inr (by omega))).trans p6
  have p56 := (st_A 56 (Or.inr (by omega))).trans p56
  have p58 := (st_A 58 (Or.inr (by omega))).trans p58
  have p60 : ad2 60 = q60 := (hA2 60 (Or.inr rfl)).trans b1
  have v60 := (hC3 60 (by omega)).trans g0
  have v61 := (hC3 61 (by omega)).trans g1
  have hA := fun i (hi : S i) => (st_A i (Or.inl hi)).trans (hA i hi)
  have hC := fun i (hi : S i) (h9 : i ≠ 0) => (st_C i (Or.inl hi) h9).trans (hC i hi h9)
  have ha := A0
  have h0 := C3
  refine g_aload_n (n := 0) (i := 0) rfl rfl d_X_init_59 ?_
  refine g_iconst_i d_X_init_60 ?_
  refine g_putI_i 0 5 (hB.at (k := 0) (Or.inl hk) ha h0) f_X_40 (Or.inl rfl) (by rfl) (by rfl) (Nat.le_of_ble_eq_true rfl) d_X_init_61 ?_
  obtain ⟨c3, hB, h0, hC3⟩ := hB.setA (k := 0) (Or.inl hk) ha
  have e1 := e1.cong (fun _ _ => rfl) (fun i hi => hC3 i (by omega))
  have e6 := e6.cong (fun _ _ => rfl) (fun i hi => hC3 i (by omega))
  have v56 := (hC3 56 (by omega)).trans v56
  have v57 := (hC3 57 (by omega)).trans v57
  have v58 := (hC3 58 (by omega)).trans v58
  have v59 := (hC3 59 (by omega)).trans v59
  have v60 := (hC3 60 (by omega)).trans v60
  have v61 := (hC3 61 (by omega)).trans v61
  have vf := fun i (hi : i < 9) => (⟨(vf i hi).1, (vf i hi).2.cong (fun _ _ => rfl) (fun l hl => hC3 l (by omega))⟩ : f i = some (ad2 (11 + 5 * i)) ∧ emR ad2 c3 (11 + 5 * i))
  have hC := fun i (hi : S i) (h9 : i ≠ 0) => (hC3 i h9).trans (hC i hi h9)
  refine g_aload_n (n := 0) (i := 0) rfl rfl d_X_init_64 ?_
  refine g_iconst_i d_X_init_65 ?_
  refine g_putI_i 0 6 (hB.at (k := 0) (Or.inl hk) ha h0) f_X_44 (Or.inl rfl) (by rfl) (by rfl) (Nat.le_of_ble_eq_true rfl) d_X_init_66 ?_
  obtain ⟨c3, hB, h0, hC3⟩ := hB.setA (k := 0) (Or.inl hk) ha
  have e1 := e1.cong (fun _ _ => rfl) (fun i hi => hC3 i (by omega))
  have e6 := e6.cong (fun _ _ => rfl) (fun i hi => hC3 i (by omega))
  have v56 := (hC3 56 (by omega)).trans v56
  have v57 := (hC3 57 (by omega)).trans v57
  have v58 := (hC3 58 (by omega)).trans v58
  have v59 := (hC3 59 (by omega)).trans v59
  have v60 := (hC3 60 (by omega)).trans v60
  have v61 := (hC3 61 (by omega)).trans v61
  have vf := fun i (hi : i < 9) => (⟨(vf i hi).1, (vf i hi).2.cong (fun _ _ => rfl) (fun l hl => hC3 l (by omega))⟩ : f i = some (ad2 (11 + 5 * i)) ∧ emR ad2 c3 (11 + 5 * i))
  have hC := fun i (hi : S i) (h9 : i ≠ 0) => (hC3 i h9).trans (hC i hi h9)
  refine g_aload_n (n := 0) (i := 0) rfl rfl d_X_init_69 ?_
  refine g_iconst_i d_X_init_70 ?_
  refine g_putI_i 0 7 (hB.at (k := 0) (Or.inl hk) ha h0) f_X_48 (Or.inl rfl) (by rfl) (by rfl) (Nat.le_of_ble_eq_true rfl) d_X_init_71 ?_
  obtain ⟨c3, hB, h0, hC3⟩ := hB.setA (k := 0) (Or.inl hk) ha
  have e1 := e1.cong (fun _ _ => rfl) (fun i hi => hC3 i (by omega))
  have e6 := e6.cong (fun _ _ => rfl) (fun i hi => hC3 i (by omega))
  have v56 := (hC3 56 (by omega)).trans v56
  have v57 := (hC3 57 (by omega)).trans v57
  have v58 := (hC3 58 (by omega)).trans v58
  have v59 := (hC3 59 (by omega)).trans v59
  have v60 := (hC3 60 (by omega)).trans v60
  have v61 := (hC3 61 (by omega)).trans v61
  have vf := fun i (hi : i < 9) => (⟨(vf i hi).1, (vf i hi).2.cong (fun _ _ => rfl) (fun l hl => hC3 l (by omega))⟩ : f i = some (ad2 (11 + 5 * i)) ∧ emR ad2 c3 (11 + 5 * i))
  have hC := fun i (hi : S i) (h9 : i ≠ 0) => (hC3 i h9).trans (hC i hi h9)
  refine g_aload_n (n := 0) (i := 0) rfl rfl d_X_init_74 ?_
  refine g_iconst_i d_X_init_75 ?_
  refine g_putI_i 0 8 (hB.at (k := 0) (Or.inl hk) ha h0) f_X_51 (Or.inl rfl) (by rfl) (by rfl) (Nat.le_of_ble_eq_true rfl) d_X_init_76 ?_
  obtain ⟨c3, hB, h0, hC3⟩ := hB.setA (k := 0) (Or.inl hk) ha
  have e1 := e1.cong (fun _ _ => rfl) (fun i hi => hC3 i (by omega))
  have e6 := e6.cong (fun _ _ => rfl) (fun i hi => hC3 i (by omega))
  have v56 := (hC3 56 (by omega)).trans v56
  have v57 := (hC3 57 (by omega)).trans v57
  have v58 := (hC3 58 (by omega)).trans v58
  have v59 := (hC3 59 (by omega)).trans v59
  have v60 := (hC3 60 (by omega)).trans v60
  have v61 := (hC3 61 (by omega)).trans v61
  have vf := fun i (hi : i < 9) => (⟨(vf i hi).1, (vf i hi).2.cong (fun _ _ => rfl) (fun l hl => hC3 l (by omega))⟩ : f i = some (ad2 (11 + 5 * i)) ∧ emR ad2 c3 (11 + 5 * i))
  have hC := fun i (hi : S i) (h9 : i ≠ 0) => (hC3 i h9).trans (hC i hi h9)
  refine g_return rfl d_X_init_79 ?_
  exact hQ ad2 _ c3 f hB hA hC (by rw [p1, p6, p56, p58, p60]; exact h0) e1 e6 v56 v57 vf v58 v59 v60 v61

