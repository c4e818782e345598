/-! ===== constructors: cells get their ids ===== -/
/-- what has been built so far: the ids in S have addresses and contents -/
def BI (ad : Nat → Nat) (S : Nat → Prop) (im : gIm) (c : Nat → gA) : Prop := (∀ i, S i → im (ad i) = some (c i)) ∧ ∀ i j, S i → S j → ad i = ad j → i = j
theorem BI.newA {ad : Nat → Nat} {S : Nat → Prop} {im : gIm} {c : Nat → gA} (h : BI ad S im c) {q k : Nat} {x : gA} (hq : im q = none) (hk : ¬ S k) : ∃ ad' c', BI ad' (fun i => S i ∨ i = k) (vf_upd im q (some x)) c' ∧ ad' k = q ∧ c' k = x ∧ (∀ i, S i → ad' i = ad i) ∧ (∀ i, S i → c' i = c i) := by
  have hne : ∀ i, S i → i ≠ k := fun i hi e => hk (e ▸ hi)
  have hnq : ∀ i, S i → ad i ≠ q := fun i hi e => by have := h.1 i hi; rw [e, hq] at this; cases this
  refine ⟨vf_upd ad k q, vf_upd c k x, ⟨fun i hi => ?_, fun i j hi hj e => ?_⟩, vf_us, vf_us, fun i hi => vf_un (hne i hi), fun i hi => vf_un (hne i hi)⟩
  · rcases hi with hi | rfl
    · rw [vf_un (hne i hi), vf_un (hne i hi), vf_un (hnq i hi)]; exact h.1 i hi
    · rw [vf_us, vf_us, vf_us]
  · rcases hi with hi | rfl
    · rcases hj with hj | rfl
      · rw [vf_un (hne i hi), vf_un (hne j hj)] at e; exact h.2 i j hi hj e
      · rw [vf_un (hne i hi), vf_us] at e; exact absurd e (hnq i hi)
    · rcases hj with hj | rfl
      · rw [vf_us, vf_un (hne j hj)] at e; exact absurd e.symm (hnq j hj)
      · rfl
theorem BI.setA {ad : Nat → Nat} {S : Nat → Prop} {im : gIm} {c : Nat → gA} (h : BI ad S im c) {a k : Nat} {x : gA} (hk : S k) (ha : ad k = a) : ∃ c', BI ad S (vf_upd im a (some x)) c' ∧ c' k = x ∧ ∀ i, i ≠ k → c' i = c i := by
  refine ⟨vf_upd c k x, ⟨fun i hi => ?_, h.2⟩, vf_us, fun i hi => vf_un hi⟩
  by_cases e : i = k
  · subst e; rw [ha, vf_us, vf_us]
  · have hne : ad i ≠ a := fun e2 => e (h.2 i k hi hk (e2.trans ha.symm))
    rw [vf_un hne, vf_un e]; exact h.1 i hi
theorem BI.at {ad : Nat → Nat} {S : Nat → Prop} {im : gIm} {c : Nat → gA} (h : BI ad S im c) {a k : Nat} {x : gA} (hk : S k) (ha : ad k = a) (hc : c k = x) : im a = some x := by rw [← ha, h.1 k hk, hc]
theorem BI.sub {ad : Nat → Nat} {S S' : Nat → Prop} {im : gIm} {c : Nat → gA} (h : BI ad S im c) (hs : ∀ i, S' i → S i) : BI ad S' im c := ⟨fun i hi => h.1 i (hs i hi), fun i j hi hj => h.2 i j (hs i hi) (hs j hj)⟩
abbrev noE (t n : Nat) : gA := .inl (t, n, .inr (.inr (.inr (.inr (fun _ => none)))))
abbrev zrE (n : Nat) : gA := .inl (0, n, .inl (fun _ => 0))

theorem c_R_init {E : gE} {w : gW} {im : gIm} {Q : gQ} {ad : Nat → Nat} {S : Nat → Prop} {c : Nat → gA} {k a : Nat} (hB : BI ad S im c) (hk : S k) (ha : ad k = a) (hc : c k = .inr (1, g_def 1)) (hn : ∀ j, 1 ≤ j ∧ j ≤ 4 → ¬ S (k + j)) (hQ : ∀ ad' im' c', BI ad' (fun i => (((S i ∨ i = k + 1) ∨ i = k + 2) ∨ i = k + 3) ∨ i = k + 4) im' c' → (∀ i, S i → ad' i = ad i) → (∀ i, S i → i ≠ k → c' i = c i) → c' k = .inr (1, [.ref (ad' (k + 1)), .ref (ad' (k + 2)), .ref (ad' (k + 3)), .ref (ad' (k + 4)), .int (iI 0), .int (iI 0), .int (iI 0), .int (iI 0), .int (iI 480)]) → c' (k + 1) = noE 4 12 → c' (k + 2) = noE 5 8 → c' (k + 3) = noE 6 20 → c' (k + 4) = zrE 372 → Q (.inl none) w im') : GM E 0 y_R_init m_R_init 4 412 [.ref a] w im Q := by
  have hA : ∀ i, S i → ad i = ad i := fun _ _ => rfl
  have hC : ∀ i, S i → i ≠ k → c i = c i := fun _ _ _ => rfl
  refine g_enter (by decide) rfl rfl (fun h => by first | rfl | cases h) (Nat.le_of_ble_eq_true rfl) rfl ?_
  refine g_aload_n (n := 0) (i := 0) rfl rfl d_R_init_0 ?_
  refine g_objInit l_R_3 x_obj.1 x_obj.2 (Nat.le_of_ble_eq_true rfl) d_R_init_1 ?_
  refine g_aload_n (n := 0) (i := 0) rfl rfl d_R_init_4 ?_
  refine g_bipush_i (by decide) d_R_init_5 ?_
  refine g_anewarray (n := iI 12) (N := 12) 4 (by decide) (by decide) rfl c_R_9 (by decide) (by decide) (by decide) (by omega) (by omega) d_R_init_7 (fun q1 hq1 hz1 => ?_)
  obtain ⟨ad, c, hB, e1, d1, hA1, hC1⟩ := hB.newA (k := k + 1) (x := noE 4 12) hq1 (fun h => by
    rcases h with h
    · exact hn 1 (by omega) h)
  have ha := (hA1 k (hk)).trans ha
  have hc := (hC1 k (hk)).trans hc
  have hA := fun i (hi : S i) => (hA1 i (hi)).trans (hA i hi)
  have hC := fun i (hi : S i) (hne : i ≠ k) => (hC1 i (hi)).trans (hC i hi hne)
  refine g_putI_i 1 0 (hB.at (Or.inl (hk)) ha hc) f_R_11 (Or.inr ⟨rfl, rfl⟩) (by rfl) (by rfl) (Nat.le_of_ble_eq_true rfl) d_R_init_10 ?_
  obtain ⟨c, hB, hc, hC1⟩ := hB.setA (Or.inl (hk)) ha
  have d1 := (hC1 (k + 1) (by omega)).trans d1
  have hC := fun i (hi : S i) (hne : i ≠ k) => (hC1 i hne).trans (hC i hi hne)
  refine g_aload_n (n := 0) (i := 0) rfl rfl d_R_init_13 ?_
  refine g_bipush_i (by decide) d_R_init_14 ?_
  refine g_anewarray (n := iI 8) (N := 8) 5 (by decide) (by decide) rfl c_R_17 (by decide) (by decide) (by decide) (by omega) (by omega) d_R_init_16 (fun q2 hq2 hz2 => ?_)
  obtain ⟨ad, c, hB, e2, d2, hA1, hC1⟩ := hB.newA (k := k + 2) (x := noE 5 8) hq2 (fun h => by
    rcases h with (h | h)
    · exact hn 2 (by omega) h
    · omega)
  have ha := (hA1 k (Or.inl (hk))).trans ha
  have hc := (hC1 k (Or.inl (hk))).trans hc
  have e1 := (hA1 (k + 1) (Or.inr rfl)).trans e1
  have d1 := (hC1 (k + 1) (Or.inr rfl)).trans d1
  have hA := fun i (hi : S i) => (hA1 i (Or.inl (hi))).trans (hA i hi)
  have hC := fun i (hi : S i) (hne : i ≠ k) => (hC1 i (Or.inl (hi))).trans (hC i hi hne)
  refine g_putI_i 1 1 (hB.at (Or.inl (Or.inl (hk))) ha hc) f_R_19 (Or.inr ⟨rfl, rfl⟩) (by rfl) (by rfl) (Nat.le_of_ble_eq_true rfl) d_R_init_19 ?_
  obtain ⟨c, hB, hc, hC1⟩ := hB.setA (Or.inl (Or.inl (hk))) ha
  have d1 := (hC1 (k + 1) (by omega)).trans d1
  have d2 := (hC1 (k + 2) (by omega)).trans d2
  have hC := fun i (hi : S i) (hne : i ≠ k) => (hC1 i hne).trans (hC i hi hne)
  refine g_aload_n (n := 0) (i := 0) rfl rfl d_R_init_22 ?_
  refine g_bipush_i (by decide) d_R_init_23 ?_
  refine g_anewarray (n := iI 20) (N := 20) 6 (by decide) (by decide) rfl c_R_23 (by decide) (by decide) (by decide) (by omega) (by omega) d_R_init_25 (fun q3 hq3 hz3 => ?_)
  obtain ⟨ad, c, hB, e3, d3, hA1, hC1⟩ := hB.newA (k := k + 3) (x := noE 6 20) hq3 (fun h => by
    rcases h with ((h | h) | h)
    · exact hn 3 (by omega) h
    · omega
    · omega)
  have ha := (hA1 k (Or.inl (Or.inl (hk)))).trans ha
  have hc := (hC1 k (Or.inl (Or.inl (hk)))).trans hc
  have e1 := (hA1 (k + 1) (Or.inl (Or.inr rfl))).trans e1
  have d1 := (hC1 (k + 1) (Or.inl (Or.inr rfl))).trans d1
  have e2 := (hA1 (k + 2) (Or.inr rfl)).trans e2
  have d2 := (hC1 (k + 2) (Or.inr rfl)).trans d2
  have hA := fun i (hi : S i) => (hA1 i (Or.inl (Or.inl (hi)))).trans (hA i hi)
  have hC := fun i (hi : S i) (hne : i ≠ k) => (hC1 i (Or.inl (Or.inl (hi)))).trans (hC i hi hne)
  refine g_putI_i 1 2 (hB.at (Or.inl (Or.inl (Or.inl (hk)))) ha hc) f_R_25 (Or.inr ⟨rfl, rfl⟩) (by rfl) (by rfl) (Nat.le_of_ble_eq_true rfl) d_R_init_28 ?_
  obtain ⟨c, hB, hc, hC1⟩ := hB.setA (Or.inl (Or.inl (Or.inl (hk)))) ha
  have d1 := (hC1 (k + 1) (by omega)).trans d1
  have d2 := (hC1 (k + 2) (by omega)).trans d2
  have d3 := (hC1 (k + 3) (by omega)).trans d3
  have hC := fun i (hi : S i) (hne : i ≠ k) => (hC1 i hne).trans (hC i hi hne)
  refine g_aload_n (n := 0) (i := 0) rfl rfl d_R_init_31 ?_
  refine g_sipush_i (by decide) d_R_init_32 ?_
  refine g_newarray (n := iI 372) (N := 372) 0 (by decide) rfl na_0 (by decide) (by decide) (by omega) (by omega) d_R_init_35 (fun q4 hq4 hz4 => ?_)
  obtain ⟨ad, c, hB, e4, d4, hA1, hC1⟩ := hB.newA (k := k + 4) (x := zrE 372) hq4 (fun h => by
    rcases h with (((h | h) | h) | h)
    · exact hn 4 (by omega) h
    · omega
    · omega
    · omega)
  have ha := (hA1 k (Or.inl (Or.inl (Or.inl (hk))))).trans ha
  have hc := (hC1 k (Or.inl (Or.inl (Or.inl (hk))))).trans hc
  have e1 := (hA1 (k + 1) (Or.inl (Or.inl (Or.inr rfl)))).trans e1
  have d1 := (hC1 (k + 1) (Or.inl (Or.inl (Or.inr rfl)))).trans d1
  have e2 := (hA1 (k + 2) (Or.inl (Or.inr rfl))).trans e2
  have d2 := (hC1 (k + 2) (Or.inl (Or.inr rfl))).trans d2
  have e3 := (hA1 (k + 3) (Or.inr rfl)).trans e3
  have d3 := (hC1 (k + 3) (Or.inr rfl)).trans d3
  have hA := fun i (hi : S i) => (hA1 i (Or.inl (Or.inl (Or.inl (hi))))).trans (hA i hi)
  have hC := fun i (hi : S i) (hne : i ≠ k) => (hC1 i (Or.inl (Or.inl (Or.inl (hi))))).trans (hC i hi hne)
  refine g_putI_i 1 3 (hB.at (Or.inl (Or.inl (Or.inl (Or.inl (hk))))) ha hc) f_R_29 (Or.inr ⟨rfl, rfl⟩) (by rfl) (by rfl) (Nat.le_of_ble_eq_true rfl) d_R_init_37 ?_
  obtain ⟨c, hB, hc, hC1⟩ := hB.setA (Or.inl (Or.inl (Or.inl (Or.inl (hk))))) ha
  have d1 := (hC1 (k + 1) (by omega)).trans d1
  have d2 := (hC1 (k + 2) (by omega)).trans d2
  have d3 := (hC1 (k + 3) (by omega)).trans d3
  have d4 := (hC1 (k + 4) (by omega)).trans d4
  have hC := fun i (hi : S i) (hne : i ≠ k) => (hC1 i hne).trans (hC i hi hne)
  refine g_aload_n (n := 0) (i := 0) rfl rfl d_R_init_40 ?_
  refine g_iconst_i d_R_init_41 ?_
  refine g_putI_i 1 4 (hB.at (Or.inl (Or.inl (Or.inl (Or.inl (hk))))) ha hc) f_R_33 (Or.inl rfl) (by rfl) (by rfl) (Nat.le_of_ble_eq_true rfl) d_R_init_42 ?_
  obtain ⟨c, hB, hc, hC1⟩ := hB.setA (Or.inl (Or.inl (Or.inl (Or.inl (hk))))) ha
  have d1 := (hC1 (k + 1) (by omega)).trans d1
  have d2 := (hC1 (k + 2) (by omega)).trans d2
  have d3 := (hC1 (k + 3) (by omega)).trans d3
  have d4 := (hC1 (k + 4) (by omega)).trans d4
  have hC := fun i (hi : S i) (hne : i ≠ k) => (hC1 i hne).trans (hC i hi hne)
  refine g_aload_n (n := 0) (i := 0) rfl rfl d_R_init_45 ?_
  refine g_iconst_i d_R_init_46 ?_
  refine g_putI_i 1 5 (hB.at (Or.inl (Or.inl (Or.inl (Or.inl (hk))))) ha hc) f_R_37 (Or.inl rfl) (by rfl) (by rfl) (Nat.le_of_ble_eq_true rfl) d_R_init_47 ?_
  obtain ⟨c, hB, hc, hC1⟩ := hB.setA (Or.inl (Or.inl (Or.inl (Or.inl (hk))))) ha
  have d1 := (hC1 (k + 1) (by omega)).trans d1
  have d2 := (hC1 (k + 2) (by omega)).trans d2
  have d3 := (hC1 (k + 3) (by omega)).trans d3
  have d4 := (hC1 (k + 4) (by omega)).trans d4
  have hC := fun i (hi : S i) (hne : i ≠ k) => (hC1 i hne).trans (hC i hi hne)
  refine g_aload_n (n := 0) (i := 0) rfl rfl d_R_init_50 ?_
  refine g_iconst_i d_R_init_51 ?_
  refine g_putI_i 1 6 (hB.at (Or.inl (Or.inl (Or.inl (Or.inl (hk))))) ha hc) f_R_40 (Or.inl rfl) (by rfl) (by rfl) (Nat.le_of_ble_eq_true rfl) d_R_init_52 ?_
  obtain ⟨c, hB, hc, hC1⟩ := hB.setA (Or.inl (Or.inl (Or.inl (Or.inl (hk))))) ha
  have d1 := (hC1 (k + 1) (by omega)).trans d1
  have d2 := (hC1 (k + 2) (by omega)).trans d2
  have d3 := (hC1 (k + 3) (by omega)).trans d3
  have d4 := (hC1 (k + 4) (by omega)).trans d4
  have hC := fun i (hi : S i) (hne : i ≠ k) => (hC1 i hne).trans (hC i hi hne)
  refine g_aload_n (n := 0) (i := 0) rfl rfl d_R_init_55 ?_
  refine g_iconst_i d_R_init_56 ?_
  refine g_putI_i 1 7 (hB.at (Or.inl (Or.inl (Or.inl (Or.inl (hk))))) ha hc) f_R_43 (Or.inl rfl) (by rfl) (by rfl) (Nat.le_of_ble_eq_true rfl) d_R_init_57 ?_
  obtain ⟨c, hB, hc, hC1⟩ := hB.setA (Or.inl (Or.inl (Or.inl (Or.inl (hk))))) ha
  have d1 := (hC1 (k + 1) (by omega)).trans d1
  have d2 := (hC1 (k + 2) (by omega)).trans d2
  have d3 := (hC1 (k + 3) (by omega)).trans d3
  have d4 := (hC1 (k + 4) (by omega)).trans d4
  have hC := fun i (hi : S i) (hne : i ≠ k) => (hC1 i hne).trans (hC i hi hne)
  refine g_aload_n (n := 0) (i := 0) rfl rfl d_R_init_60 ?_
  refine g_sipush_i (by decide) d_R_init_61 ?_
  refine g_putI_i 1 8 (hB.at (Or.inl (Or.inl (Or.inl (Or.inl (hk))))) ha hc) f_R_46 (Or.inl rfl) (by rfl) (by rfl) (Nat.le_of_ble_eq_true rfl) d_R_init_64 ?_
  obtain ⟨c, hB, hc, hC1⟩ := hB.setA (Or.inl (Or.inl (Or.inl (Or.inl (hk))))) ha
  have d1 := (hC1 (k + 1) (by omega)).trans d1
  have d2 := (hC1 (k + 2) (by omega)).trans d2
  have d3 := (hC1 (k + 3) (by omega)).trans d3
  have d4 := (hC1 (k + 4) (by omega)).trans d4
  have hC := fun i (hi : S i) (hne : i ≠ k) => (hC1 i hne).trans (hC i hi hne)
  refine g_return rfl d_R_init_67 ?_
  exact hQ ad _ c hB hA hC (by rw [e1, e2, e3, e4]; exact hc) d1 d2 d3 d4

