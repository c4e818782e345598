/-! ===== constructors: the history, the text, the shares ===== -/
/-- an empty resort at the ids k..k+4 -/
def emR (ad : Nat → Nat) (c : Nat → gA) (k : Nat) : Prop := c k = .inr (1, [.ref (ad (k + 1)), .ref (ad (k + 2)), .ref (ad (k + 3)), .ref (ad (k + 4)), .int (iI 0), .int (iI 0), .int (iI 0), .int (iI 0), .int (iI 480)]) ∧ c (k + 1) = noE 4 12 ∧ c (k + 2) = noE 5 8 ∧ c (k + 3) = noE 6 20 ∧ c (k + 4) = zrE 372
theorem emR.cong {ad ad' : Nat → Nat} {c c' : Nat → gA} {k : Nat} (h : emR ad c k) (ha : ∀ i, k ≤ i ∧ i ≤ k + 4 → ad' i = ad i) (hc : ∀ i, k ≤ i ∧ i ≤ k + 4 → c' i = c i) : emR ad' c' k := by
  obtain ⟨h0, h1, h2, h3, h4⟩ := h
  refine ⟨?_, ?_, ?_, ?_, ?_⟩
  · rw [hc k (by omega), ha _ (by omega), ha _ (by omega), ha _ (by omega), ha _ (by omega)]; exact h0
  · rw [hc _ (by omega)]; exact h1
  · rw [hc _ (by omega)]; exact h2
  · rw [hc _ (by omega)]; exact h3
  · rw [hc _ (by omega)]; exact h4

theorem c_H_init {E : gE} {w : gW} {im : gIm} {Q : gQ} {ad : Nat → Nat} {S : Nat → Prop} {c : Nat → gA} {a : Nat} (hB : BI ad S im c) (hk : S 56) (ha : ad 56 = a) (hc : c 56 = .inr (2, g_def 2)) (hn1 : ¬ S 57) (hn2 : ∀ j, 11 ≤ j ∧ j ≤ 55 → ¬ S j) (hQ : ∀ ad' im' c' f, BI ad' (fun i => (S i ∨ i = 57) ∨ (11 ≤ i ∧ i < 56)) im' c' → (∀ i, S i → ad' i = ad i) → (∀ i, S i → i ≠ 56 → c' i = c i) → c' 56 = .inr (2, [.ref (ad' 57), .int (iI 0), .int (iI 0)]) → c' 57 = .inl (7, 9, .inr (.inr (.inr (.inr f)))) → (∀ i, i < 9 → f i = some (ad' (11 + 5 * i)) ∧ emR ad' c' (11 + 5 * i)) → Q (.inl none) w im') : GM E 1 y_H_init m_H_init 46 3798 [.ref a] w im Q := by
  have loop : ∀ (n9 j9 : Nat) (k9 : Int) (ad1 : Nat → Nat) (im1 : gIm) (c1 : Nat → gA) (f : Nat → Option Nat) (q : Nat) (kc ks : Nat), (j9 : Int) = k9 → j9 + n9 = 9 → BI ad1 (fun i => (S i ∨ i = 57) ∨ (11 ≤ i ∧ i < 11 + 5 * j9)) im1 c1 → (∀ i, S i → ad1 i = ad i) → (∀ i, S i → i ≠ 56 → c1 i = c i) → ad1 57 = q → c1 56 = .inr (2, [.ref q, .int (iI 0), .int (iI 0)]) → c1 57 = .inl (7, 9, .inr (.inr (.inr (.inr f)))) → (∀ i, i < j9 → f i = some (ad1 (11 + 5 * i)) ∧ emR ad1 c1 (11 + 5 * i)) → 5 * n9 ≤ kc → 421 * n9 ≤ ks → G E 1 m_H_init 25 [(0, .ref a), (1, .int (iI k9))] [] w im1 kc ks Q := by
    intro n9
    induction n9 with
    | zero =>
      intro j9 k9 ad1 im1 c1 f q kc ks hj hk9 hB1 hA hC hq h56 h57 hf hk1 hk2
      have hg1 : g_n 1 = 9 := rfl
      have ha1 : ad1 56 = a := (hA 56 hk).trans ha
      have m56 := hB1.at (k := 56) (Or.inl (Or.inl hk)) ha1 h56
      have m57 := hB1.at (k := 57) (Or.inl (Or.inr rfl)) hq h57
      have g56 := g_imm (E := E) (w := w) m56
      have g57 := g_imm (E := E) (w := w) m57
      have e9 : j9 = 9 := by omega
      subst e9
      refine g_iload_n (n := 1) (i := 1) rfl rfl d_H_init_25 ?_
      refine g_aload_n (n := 0) (i := 0) rfl rfl d_H_init_26 ?_
      refine g_getfield 2 0 f_H_11 (by assumption) (by rfl) d_H_init_27 ?_
      refine g_alen_i (by assumption) (by decide) d_H_init_30 ?_
      refine g_icmp_ge_i (tgt := 53) (by omega) (by omega) d_H_init_31 (by decide) (fun h31 => ?_) (fun h => by exfalso; omega)
      refine g_return rfl d_H_init_53 ?_
      exact hQ ad1 im1 c1 f (hB1.sub (fun i hi => by rcases hi with (hi | hi) | hi <;> first | exact Or.inl (Or.inl hi) | exact Or.inl (Or.inr hi) | exact Or.inr (by omega))) hA hC (by rw [hq]; exact h56) h57 (fun i hi => hf i hi)
    | succ n9 ih =>
      intro j9 k9 ad1 im1 c1 f q kc ks hj hk9 hB1 hA hC hq h56 h57 hf hk1 hk2
      have hg1 : g_n 1 = 9 := rfl
      have ha1 : ad1 56 = a := (hA 56 hk).trans ha
      have m56 := hB1.at (k := 56) (Or.inl (Or.inl hk)) ha1 h56
      have m57 := hB1.at (k := 57) (Or.inl (Or.inr rfl)) hq h57
      have g56 := g_imm (E := E) (w := w) m56
      have g57 := g_imm (E := E) (w := w) m57
      refine g_iload_n (n := 1) (i := 1) rfl rfl d_H_init_25 ?_
      refine g_aload_n (n := 0) (i := 0) rfl rfl d_H_init_26 ?_
      refine g_getfield 2 0 f_H_11 (by assumption) (by rfl) d_H_init_27 ?_
      refine g_alen_i (by assumption) (by decide) d_H_init_30 ?_
      refine g_icmp_ge_i (tgt := 53) (by omega) (by omega) d_H_init_31 (by decide) (fun h => by exfalso; omega) (fun h31 => ?_)
      refine g_aload_n (n := 0) (i := 0) rfl rfl d_H_init_34 ?_
      refine g_getfield 2 0 f_H_11 (by assumption) (by rfl) d_H_init_35 ?_
      refine g_iload_n (n := 1) (i := 1) rfl rfl d_H_init_38 ?_
      refine g_new 1 (by decide) c_H_9 ni_R.1 ni_R.2 (by first | decide | omega) (by first | decide | omega) d_H_init_39 (fun qr hqr1 hqr2 => ?_)
      obtain ⟨ad2, c2, hB2, b1, b2, b3, b4⟩ := hB1.newA (k := 11 + 5 * j9) (x := .inr (1, g_def 1)) hqr1 (fun h => by
        rcases h with (h | h) | h
        · exact hn2 _ (by omega) h
        · omega
        · omega)
      refine g_dup rfl d_H_init_42 ?_
      refine g_callIN0 rfl rfl e_R_init l_H_24 is_R_init rfl (by decide) (by omega) (by omega) (Nat.le_of_ble_eq_true rfl) d_H_init_43 (c_R_init (k := 11 + 5 * j9) (a := qr) hB2 (Or.inr rfl) b1 b2 (fun j hj h => by rcases h with ((h | h) | h) | h <;> first | exact hn2 _ (by omega) h | omega) (fun ad3 im3 c3 hB3 hA3 hC3 g0 g1 g2 g3 g4 => ?_))
      refine g_retvn ?_
      have x57 : ad3 57 = q := (hA3 57 (Or.inl (Or.inl (Or.inr rfl)))).trans ((b3 57 (Or.inl (Or.inr rfl))).trans hq)
      have y57 : c3 57 = .inl (7, 9, .inr (.inr (.inr (.inr f)))) := (hC3 57 (Or.inl (Or.inl (Or.inr rfl))) (by omega)).trans ((b4 57 (Or.inl (Or.inr rfl))).trans h57)
      have y56 : c3 56 = .inr (2, [.ref q, .int (iI 0), .int (iI 0)]) := (hC3 56 (Or.inl (Or.inl (Or.inl hk))) (by omega)).trans ((b4 56 (Or.inl (Or.inl hk))).trans h56)
      have mq : ad3 (11 + 5 * j9) = qr := (hA3 (11 + 5 * j9) (Or.inr rfl)).trans b1
      have mqr := hB3.at (k := 11 + 5 * j9) (Or.inl (Or.inl (Or.inl (Or.inl (Or.inr rfl))))) mq g0
      refine g_aastoreI (j := j9) (hB3.at (k := 57) (Or.inl (Or.inl (Or.inl (Or.inl (Or.inl (Or.inl (Or.inr rfl))))))) x57 y57) (by decide) (by decide) rfl (g_imm mqr) (by rw [← hj]; exact (iI_nI j9).symm) (by omega) (by rfl) d_H_init_46 ?_
      obtain ⟨c4, hB4, w57, hC4⟩ := hB3.setA (k := 57) (Or.inl (Or.inl (Or.inl (Or.inl (Or.inl (Or.inl (Or.inr rfl))))))) x57
      refine g_iinc_i (i := 1) rfl (by decide) rfl d_H_init_47 ?_
      refine g_goto (tgt := 25) (by decide) d_H_init_50 ?_
      refine g_cut (lv' := [(0, .ref a), (1, .int (iI (k9 + 1)))]) ⟨rfl, rfl, trivial⟩ (ih (j9 + 1) (k9 + 1) ad3 _ c4 _ q _ _ (by omega) (by omega) (hB4.sub (fun i hi => ?_)) (fun i hi => ?_) (fun i hi hne => ?_) x57 ((hC4 56 (by omega)).trans y56) w57 (fun i hi => ?_) (by omega) (by omega))
      · rcases hi with (hi | hi) | hi
        · exact Or.inl (Or.inl (Or.inl (Or.inl (Or.inl (Or.inl (Or.inl hi))))))
        · exact Or.inl (Or.inl (Or.inl (Or.inl (Or.inl (Or.inl (Or.inr hi))))))
        · by_cases h1 : i < 11 + 5 * j9
          · exact Or.inl (Or.inl (Or.inl (Or.inl (Or.inl (Or.inr ⟨hi.1, h1⟩)))))
          · have h2 : i = 11 + 5 * j9 ∨ i = 11 + 5 * j9 + 1 ∨ i = 11 + 5 * j9 + 2 ∨ i = 11 + 5 * j9 + 3 ∨ i = 11 + 5 * j9 + 4 := by omega
            rcases h2 with h2 | h2 | h2 | h2 | h2
            · exact Or.inl (Or.inl (Or.inl (Or.inl (Or.inr h2))))
            · exact Or.inl (Or.inl (Or.inl (Or.inr h2)))
            · exact Or.inl (Or.inl (Or.inr h2))
            · exact Or.inl (Or.inr h2)
            · exact Or.inr h2
      · exact (hA3 i (Or.inl (Or.inl (Or.inl hi)))).trans ((b3 i (Or.inl (Or.inl hi))).trans (hA i hi))
      · have hi57 : i ≠ 57 := fun e => hn1 (e ▸ hi)
        have hi11 : i ≠ 11 + 5 * j9 := fun e => hn2 _ (by omega) (e ▸ hi)
        exact (hC4 i hi57).trans ((hC3 i (Or.inl (Or.inl (Or.inl hi))) hi11).trans ((b4 i (Or.inl (Or.inl hi))).trans (hC i hi hne)))
      · by_cases e : i = j9
        · subst e
          refine ⟨by simp [va_up, mq], emR.cong (ad := ad3) (c := c3) ⟨g0, g1, g2, g3, g4⟩ (fun _ _ => rfl) (fun l hl => hC4 l (by omega))⟩
        · have hlt : i < j9 := by omega
          obtain ⟨f1, f2⟩ := hf i hlt
          have hSS : ∀ l, 11 + 5 * i ≤ l ∧ l ≤ 11 + 5 * i + 4 → 11 ≤ l ∧ l < 11 + 5 * j9 := fun l hl => by omega
          refine ⟨?_, f2.cong (fun l hl => (hA3 l (Or.inl (Or.inr (hSS l hl)))).trans (b3 l (Or.inr (hSS l hl)))) (fun l hl => (hC4 l (by omega)).trans ((hC3 l (Or.inl (Or.inr (hSS l hl))) (by omega)).trans (b4 l (Or.inr (hSS l hl)))))⟩
          simp only [va_up]
          rw [if_neg e, f1, hA3 _ (Or.inl (Or.inr (by omega))), b3 _ (Or.inr (by omega))]
  refine g_enter (by decide) rfl rfl (fun h => by first | rfl | cases h) (Nat.le_of_ble_eq_true rfl) rfl ?_
  refine g_aload_n (n := 0) (i := 0) rfl rfl d_H_init_0 ?_
  refine g_objInit l_H_3 x_obj.1 x_obj.2 (Nat.le_of_ble_eq_true rfl) d_H_init_1 ?_
  refine g_aload_n (n := 0) (i := 0) rfl rfl d_H_init_4 ?_
  refine g_bipush_i (by decide) d_H_init_5 ?_
  refine g_anewarray (n := iI 9) (N := 9) 7 (by decide) (by decide) rfl c_H_9 (by decide) (by decide) (by decide) (by omega) (by omega) d_H_init_7 (fun q1 hq1 hz1 => ?_)
  obtain ⟨ad1, c1, hB1, b1, b2, b3, b4⟩ := hB.newA (k := 57) (x := noE 7 9) hq1 hn1
  have ha1 : ad1 56 = a := (b3 56 hk).trans ha
  have hc1 : c1 56 = .inr (2, g_def 2) := (b4 56 hk).trans hc
  refine g_putI_i 2 0 (hB1.at (k := 56) (Or.inl hk) ha1 hc1) f_H_11 (Or.inr ⟨rfl, rfl⟩) (by rfl) (by rfl) (Nat.le_of_ble_eq_true rfl) d_H_init_10 ?_
  obtain ⟨c1, hB1, hc1, hC1⟩ := hB1.setA (k := 56) (Or.inl hk) ha1
  have b2 := (hC1 57 (by omega)).trans b2
  have b4 := fun i (hi : S i) (hne : i ≠ 56) => (hC1 i hne).trans (b4 i hi)
  refine g_aload_n (n := 0) (i := 0) rfl rfl d_H_init_13 ?_
  refine g_iconst_i d_H_init_14 ?_
  refine g_putI_i 2 1 (hB1.at (k := 56) (Or.inl hk) ha1 hc1) f_H_17 (Or.inl rfl) (by rfl) (by rfl) (Nat.le_of_ble_eq_true rfl) d_H_init_15 ?_
  obtain ⟨c1, hB1, hc1, hC1⟩ := hB1.setA (k := 56) (Or.inl hk) ha1
  have b2 := (hC1 57 (by omega)).trans b2
  have b4 := fun i (hi : S i) (hne : i ≠ 56) => (hC1 i hne).trans (b4 i hi hne)
  refine g_aload_n (n := 0) (i := 0) rfl rfl d_H_init_18 ?_
  refine g_iconst_i d_H_init_19 ?_
  refine g_putI_i 2 2 (hB1.at (k := 56) (Or.inl hk) ha1 hc1) f_H_21 (Or.inl rfl) (by rfl) (by rfl) (Nat.le_of_ble_eq_true rfl) d_H_init_20 ?_
  obtain ⟨c1, hB1, hc1, hC1⟩ := hB1.setA (k := 56) (Or.inl hk) ha1
  have b2 := (hC1 57 (by omega)).trans b2
  have b4 := fun i (hi : S i) (hne : i ≠ 56) => (hC1 i hne).trans (b4 i hi hne)
  refine g_iconst_i d_H_init_23 ?_
  refine g_istore_n (n := 1) (i := 1) rfl (by decide) rfl d_H_init_24 ?_
  exact g_cut (lv' := [(0, .ref a), (1, .int (iI 0))]) ⟨rfl, rfl, trivial⟩ (loop 9 0 0 ad1 _ c1 (fun _ => none) q1 _ _ rfl rfl (hB1.sub (fun i hi => by rcases hi with hi | hi <;> first | exact hi | omega)) b3 b4 b1 hc1 b2 (fun i hi => by omega) (by omega) (by omega))

theorem c_T_init {E : gE} {w : gW} {im : gIm} {Q : gQ} {ad : Nat → Nat} {S : Nat → Prop} {c : Nat → gA} {a : Nat} (hB : BI ad S im c) (hk : S 58) (ha : ad 58 = a) (hc : c 58 = .inr (3, g_def 3)) (hn1 : ¬ S 59) (hQ : ∀ ad' im' c', BI ad' (fun i => S i ∨ i = 59) im' c' → (∀ i, S i → ad' i = ad i) → (∀ i, S i → i ≠ 58 → c' i = c i) → c' 58 = .inr (3, [.ref (ad' 59), .int (iI 0), .int (iI 0), .int (iI 0), .int (iI 32), .int (iI 0), .int (iI 0)]) → c' 59 = (.inl (1, 60, .inl (fun _ => 0))) → Q (.inl none) w im') : GM E 0 y_T_init m_T_init 1 60 [.ref a] w im Q := by
  refine g_enter (by decide) rfl rfl (fun h => by first | rfl | cases h) (Nat.le_of_ble_eq_true rfl) rfl ?_
  refine g_aload_n (n := 0) (i := 0) rfl rfl d_T_init_0 ?_
  refine g_objInit l_T_3 x_obj.1 x_obj.2 (Nat.le_of_ble_eq_true rfl) d_T_init_1 ?_
  refine g_aload_n (n := 0) (i := 0) rfl rfl d_T_init_4 ?_
  refine g_bipush_i (by decide) d_T_init_5 ?_
  refine g_newarray (n := iI 60) (N := 60) 1 (by decide) rfl na_1 (by decide) (by decide) (by omega) (by omega) d_T_init_7 (fun q1 hq1 hz1 => ?_)
  obtain ⟨ad1, c1, hB1, b1, b2, b3, b4⟩ := hB.newA (k := 59) (x := (.inl (1, 60, .inl (fun _ => 0)))) hq1 hn1
  have ha1 : ad1 58 = a := (b3 58 hk).trans ha
  have hc1 : c1 58 = .inr (3, g_def 3) := (b4 58 hk).trans hc
  refine g_putI_i 3 0 (hB1.at (k := 58) (Or.inl hk) ha1 hc1) f_T_9 (Or.inr ⟨rfl, rfl⟩) (by rfl) (by rfl) (Nat.le_of_ble_eq_true rfl) d_T_init_9 ?_
  obtain ⟨c1, hB1, hc1, hC1⟩ := hB1.setA (k := 58) (Or.inl hk) ha1
  have b2 := (hC1 59 (by omega)).trans b2
  have b4 := fun i (hi : S i) (hne : i ≠ 58) => (hC1 i hne).trans (b4 i hi)
  refine g_aload_n (n := 0) (i := 0) rfl rfl d_T_init_12 ?_
  refine g_iconst_i d_T_init_13 ?_
  refine g_putI_i 3 1 (hB1.at (k := 58) (Or.inl hk) ha1 hc1) f_T_15 (Or.inl rfl) (by rfl) (by rfl) (Nat.le_of_ble_eq_true rfl) d_T_init_14 ?_
  obtain ⟨c1, hB1, hc1, hC1⟩ := hB1.setA (k := 58) (Or.inl hk) ha1
  have b2 := (hC1 59 (by omega)).trans b2
  have b4 := fun i (hi : S i) (hne : i ≠ 58) => (hC1 i hne).trans (b4 i hi hne)
  refine g_aload_n (n := 0) (i := 0) rfl rfl d_T_init_17 ?_
  refine g_iconst_i d_T_init_18 ?_
  refine g_putI_i 3 2 (hB1.at (k := 58) (Or.inl hk) ha1 hc1) f_T_19 (Or.inl rfl) (by rfl) (by rfl) (Nat.le_of_ble_eq_true rfl) d_T_init_19 ?_
  obtain ⟨c1, hB1, hc1, hC1⟩ := hB1.setA (k := 58) (Or.inl hk) ha1
  have b2 := (hC1 59 (by omega)).trans b2
  have b4 := fun i (hi : S i) (hne : i ≠ 58) => (hC1 i hne).trans (b4 i hi hne)
  refine g_aload_n (n := 0) (i := 0) rfl rfl d_T_init_22 ?_
  refine g_iconst_i d_T_init_23 ?_
  refine g_putI_i 3 3 (hB1.at (k := 58) (Or.inl hk) ha1 hc1) f_T_22 (Or.inl rfl) (by rfl) (by rfl) (Nat.le_of_ble_eq_true rfl) d_T_init_24 ?_
  obtain ⟨c1, hB1, hc1, hC1⟩ := hB1.setA (k := 58) (Or.inl hk) ha1
  have b2 := (hC1 59 (by omega)).trans b2
  have b4 := fun i (hi : S i) (hne : i ≠ 58) => (hC1 i hne).trans (b4 i hi hne)
  refine g_aload_n (n := 0) (i := 0) rfl rfl d_T_init_27 ?_
  refine g_bipush_i (by decide) d_T_init_28 ?_
  refine g_putI_i 3 4 (hB1.at (k := 58) (Or.inl hk) ha1 hc1) f_T_25 (Or.inl rfl) (by rfl) (by rfl) (Nat.le_of_ble_eq_true rfl) d_T_init_30 ?_
  obtain ⟨c1, hB1, hc1, hC1⟩ := hB1.setA (k := 58) (Or.inl hk) ha1
  have b2 := (hC1 59 (by omega)).trans b2
  have b4 := fun i (hi : S i) (hne : i ≠ 58) => (hC1 i hne).trans (b4 i hi hne)
  refine g_aload_n (n := 0) (i := 0) rfl rfl d_T_init_33 ?_
  refine g_iconst_i d_T_init_34 ?_
  refine g_putI_i 3 5 (hB1.at (k := 58) (Or.inl hk) ha1 hc1) f_T_29 (Or.inl rfl) (by rfl) (by rfl) (Nat.le_of_ble_eq_true rfl) d_T_init_35 ?_
  obtain ⟨c1, hB1, hc1, hC1⟩ := hB1.setA (k := 58) (Or.inl hk) ha1
  have b2 := (hC1 59 (by omega)).trans b2
  have b4 := fun i (hi : S i) (hne : i ≠ 58) => (hC1 i hne).trans (b4 i hi hne)
  refine g_aload_n (n := 0) (i := 0) rfl rfl d_T_init_38 ?_
  refine g_iconst_i d_T_init_39 ?_
  refine g_putI_i 3 6 (hB1.at (k := 58) (Or.inl hk) ha1 hc1) f_T_32 (Or.inl rfl) (by rfl) (by rfl) (Nat.le_of_ble_eq_true rfl) d_T_init_40 ?_
  obtain ⟨c1, hB1, hc1, hC1⟩ := hB1.setA (k := 58) (Or.inl hk) ha1
  have b2 := (hC1 59 (by omega)).trans b2
  have b4 := fun i (hi : S i) (hne : i ≠ 58) => (hC1 i hne).trans (b4 i hi hne)
  refine g_return rfl d_T_init_43 ?_
  exact hQ ad1 _ c1 hB1 b3 b4 (by rw [b1]; exact hc1) b2

theorem c_S_init {E : gE} {w : gW} {im : gIm} {Q : gQ} {ad : Nat → Nat} {S : Nat → Prop} {c : Nat → gA} {a : Nat} (hB : BI ad S im c) (hk : S 60) (ha : ad 60 = a) (hc : c 60 = .inr (4, g_def 4)) (hn1 : ¬ S 61) (hQ : ∀ ad' im' c', BI ad' (fun i => S i ∨ i = 61) im' c' → (∀ i, S i → ad' i = ad i) → (∀ i, S i → i ≠ 60 → c' i = c i) → c' 60 = .inr (4, [.ref (ad' 61)]) → c' 61 = zrE 4 → Q (.inl none) w im') : GM E 0 y_S_init m_S_init 1 4 [.ref a] w im Q := by
  refine g_enter (by decide) rfl rfl (fun h => by first | rfl | cases h) (Nat.le_of_ble_eq_true rfl) rfl ?_
  refine g_aload_n (n := 0) (i := 0) rfl rfl d_S_init_0 ?_
  refine g_objInit l_S_3 x_obj.1 x_obj.2 (Nat.le_of_ble_eq_true rfl) d_S_init_1 ?_
  refine g_aload_n (n := 0) (i := 0) rfl rfl d_S_init_4 ?_
  refine g_iconst_i d_S_init_5 ?_
  refine g_newarray (n := iI 4) (N := 4) 0 (by decide) rfl na_0 (by decide) (by decide) (by omega) (by omega) d_S_init_6 (fun q1 hq1 hz1 => ?_)
  obtain ⟨ad1, c1, hB1, b1, b2, b3, b4⟩ := hB.newA (k := 61) (x := zrE 4) hq1 hn1
  have ha1 : ad1 60 = a := (b3 60 hk).trans ha
  have hc1 : c1 60 = .inr (4, g_def 4) := (b4 60 hk).trans hc
  refine g_putI_i 4 0 (hB1.at (k := 60) (Or.inl hk) ha1 hc1) f_S_9 (Or.inr ⟨rfl, rfl⟩) (by rfl) (by rfl) (Nat.le_of_ble_eq_true rfl) d_S_init_8 ?_
  obtain ⟨c1, hB1, hc1, hC1⟩ := hB1.setA (k := 60) (Or.inl hk) ha1
  have b2 := (hC1 61 (by omega)).trans b2
  have b4 := fun i (hi : S i) (hne : i ≠ 60) => (hC1 i hne).trans (b4 i hi)
  refine g_return rfl d_S_init_11 ?_
  exact hQ ad1 _ c1 hB1 b3 b4 (by rw [b1]; exact hc1) b2

