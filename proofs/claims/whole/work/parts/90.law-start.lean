/-! ===== the law's start ===== -/
def f0 : Nat → Int := fun i => if i = 8 ∨ i = 9 then -1 else 0
theorem Pu.init : Pu cInit f0 mNil (fun _ => 0) (fun _ => 0) 0 :=
  ⟨rw_nil (Int.le_refl 0), ⟨rfl, fun k hk => by have h9 : 0 ≤ k ∧ k < 0 := hk; omega⟩, ⟨rfl, fun _ _ => rfl, fun h => absurd (show (0 : Int) = 1 from h) (by decide)⟩, ⟨rfl, Or.inl rfl⟩, rfl, rfl, rfl⟩
theorem ch0_E : (.inl (1, 60, .inl (fun _ => 0)) : gA) = chE tInit := congrArg (fun z : Int32 => (Sum.inl (1, 60, Sum.inl (fun _ => z)) : gA)) iI_0

theorem law_entry {E : gE} {P : gO → Prop} (h0 : gN E = 0) (hL : (gX E).2.1 ≤ 3584) (hP : P (.inl (some (.int (iI 1))))) {w : gW} {kc ks : Nat} (hkc : 300000 ≤ kc) (hks : 2000000 ≤ ks) : G E 8 m_L_law 0 [(0, .ref (gX E).1)] [] w (fun _ => none) kc ks (fun o _ _ => P o) := by
  have hg0 : g_n 0 = 9 := rfl
  have hg9 : g_n 9 = 18 := rfl
  have hB0 : BI (fun _ => 0) (fun _ => False) (fun _ => none) (fun _ => zrE 0) := ⟨fun i h => h.elim, fun i j h => h.elim⟩
  refine g_new 0 (by decide) c_L_8 ni_X.1 ni_X.2 (by first | decide | omega) (by first | decide | omega) d_L_law_0 (fun q0 hq01 hq02 => ?_)
  obtain ⟨ad1, c1, hB1, b1, b2, -, -⟩ := hB0.newA (k := 0) (x := .inr (0, g_def 0)) hq01 (fun h => h)
  refine g_dup rfl d_L_law_3 ?_
  refine g_callI0 rfl rfl e_X_init l_L_127 is_X_init rfl (by decide) (by omega) (by omega) (Nat.le_of_ble_eq_true rfl) d_L_law_4 (c_X_init (a := q0) hB1 (Or.inr rfl) b1 b2 (fun j hj h => by rcases h with h | h <;> first | exact h | omega) (fun ad2 im2 c2 ff hB2 hA2 hC2 v0 e1 e6 v56 v57 vf v58 v59 v60 v61 => ?_))
  refine g_retvn ?_
  refine g_astore_n (n := 1) (i := 1) rfl (by decide) rfl d_L_law_7 ?_
  refine g_new 9 (by decide) c_L_128 ni_M.1 ni_M.2 (by first | decide | omega) (by first | decide | omega) d_L_law_8 (fun q62 hq621 hq622 => ?_)
  obtain ⟨ad3, c3, hB3, m1, m2, hA3, hC3⟩ := hB2.newA (k := 62) (x := .inr (9, g_def 9)) hq621 (fun h => by rcases h with (h | h) | h <;> first | exact h | omega)
  refine g_dup rfl d_L_law_11 ?_
  refine g_callI0 rfl rfl e_M_init l_L_130 is_M_init rfl (by decide) (by omega) (by omega) (Nat.le_of_ble_eq_true rfl) d_L_law_12 (c_M_init (a := q62) hB3 (Or.inr rfl) m1 m2 (fun j hj h => by rcases h with ((h | h) | h) | h <;> first | exact h | omega) (fun ad4 im4 c4 hB4 hA4 hC4 n62 n63 n64 n65 n66 n67 => ?_))
  refine g_retvn ?_
  refine g_astore_n (n := 2) (i := 2) rfl (by decide) rfl d_L_law_15 ?_
  refine g_iconst_i d_L_law_16 ?_
  refine g_newarray (n := iI 1) (N := 1) 2 (by decide) rfl na_2 (by decide) (by decide) (by omega) (by omega) d_L_law_17 (fun q68 hq681 hq682 => ?_)
  obtain ⟨ad5, c5, hB5, p68, z68, hA5, hC5⟩ := hB4.newA (k := 68) (x := .inl (2, 1, g_zero 2)) hq681 (fun h => by rcases h with ((((((((h | h) | h) | h) | h) | h) | h) | h) | h) <;> first | exact h | omega)
  refine g_astore_n (n := 3) (i := 3) rfl (by decide) rfl d_L_law_19 ?_
  refine g_iconst_i d_L_law_20 ?_
  refine g_newarray (n := iI 1) (N := 1) 3 (by decide) rfl na_3 (by decide) (by decide) (by omega) (by omega) d_L_law_21 (fun q69 hq691 hq692 => ?_)
  obtain ⟨ad6, c6, hB6, p69, z69, hA6, hC6⟩ := hB5.newA (k := 69) (x := .inl (3, 1, g_zero 3)) hq691 (fun h => by rcases h with (((((((((h | h) | h) | h) | h) | h) | h) | h) | h) | h) <;> first | exact h | omega)
  refine g_astore (i := 4) (by decide) rfl d_L_law_23 ?_
  refine g_iconst_i d_L_law_25 ?_
  refine g_istore (i := 5) (by decide) rfl d_L_law_26 ?_
  generalize vf_upd (vf_upd im4 q68 (some (.inl (2, 1, g_zero 2)))) q69 (some (.inl (3, 1, g_zero 3))) = IM at hB6 ⊢
  have TA : ∀ i, i ≤ 61 → ad6 i = ad2 i := fun i hi => by
    have hS : (False ∨ i = 0) ∨ (1 ≤ i ∧ i ≤ 61) := by omega
    rw [hA6 i (by simp only [false_or]; omega), hA5 i (by simp only [false_or]; omega), hA4 i (Or.inl hS), hA3 i hS]
  have TC : ∀ i, i ≤ 61 → c6 i = c2 i := fun i hi => by
    have hS : (False ∨ i = 0) ∨ (1 ≤ i ∧ i ≤ 61) := by omega
    rw [hC6 i (by simp only [false_or]; omega), hC5 i (by simp only [false_or]; omega), hC4 i (Or.inl hS) (by omega), hC3 i hS]
  have UA : ∀ i, 62 ≤ i ∧ i ≤ 67 → ad6 i = ad4 i := fun i hi => by
    have hS : i = 62 ∨ i = 63 ∨ i = 64 ∨ i = 65 ∨ i = 66 ∨ i = 67 := by omega
    rw [hA6 i (by rcases hS with rfl | rfl | rfl | rfl | rfl | rfl <;> simp), hA5 i (by rcases hS with rfl | rfl | rfl | rfl | rfl | rfl <;> simp)]
  have UC : ∀ i, 62 ≤ i ∧ i ≤ 67 → c6 i = c4 i := fun i hi => by
    have hS : i = 62 ∨ i = 63 ∨ i = 64 ∨ i = 65 ∨ i = 66 ∨ i = 67 := by omega
    rw [hC6 i (by rcases hS with rfl | rfl | rfl | rfl | rfl | rfl <;> simp), hC5 i (by rcases hS with rfl | rfl | rfl | rfl | rfl | rfl <;> simp)]
  have p0 : ad6 0 = q0 := (TA 0 (by omega)).trans ((hA2 0 (Or.inr rfl)).trans b1)
  have p62 : ad6 62 = q62 := (UA 62 (by omega)).trans ((hA4 62 (Or.inr rfl)).trans m1)
  have p68 : ad6 68 = q68 := (hA6 68 (Or.inr rfl)).trans p68
  have z68 : c6 68 = lgE (fun _ => 0) := (hC6 68 (Or.inr rfl)).trans z68
  refine G.fix (n := 70) (ad := ad6) (c := c6) (w' := vf_upd c6 57 (plE (gFix E 70 ad6))) h0 (hB6.sub (fun i hi => ?_)) (fun i hi H h => ?_) ?_
  · have hS : i = 0 ∨ (1 ≤ i ∧ i ≤ 61) ∨ i = 62 ∨ i = 63 ∨ i = 64 ∨ i = 65 ∨ i = 66 ∨ i = 67 ∨ i = 68 ∨ i = 69 := by omega
    simp only [false_or]
    omega
  · by_cases e : i = 57
    · subst e
      rw [vf_us]
      rw [TC 57 (by omega), v57] at h
      exact g_at.refs 7 (fun j hj => (vf j hj).1.trans (by show some (ad2 (11 + 5 * j)) = some (ad6 (11 + 5 * (j : Int).toNat)); rw [Int.toNat_natCast, TA _ (by omega)])) h
    · rw [vf_un e]; exact h
  · have W : ∀ i, i ≠ 57 → vf_upd c6 57 (plE (gFix E 70 ad6)) i = c6 i := fun i hi => vf_un hi
    have hX : XW (gFix E 70 ad6) (vf_upd c6 57 (plE (gFix E 70 ad6))) (imFix 70 ad6 IM) cInit := by
      refine XW.init rfl ?_ ?_ ?_ ?_ vf_us (fun i hi => ?_) ?_ ?_ ?_ ?_
      · rw [W 0 (by decide), TC 0 (by omega), v0, ← TA 1 (by omega), ← TA 6 (by omega), ← TA 56 (by omega), ← TA 58 (by omega), ← TA 60 (by omega)]
        exact congrArg (fun z : Int32 => (Sum.inr (0, [.ref (ad6 1), .ref (ad6 6), .ref (ad6 56), .ref (ad6 58), .ref (ad6 60), .int z, .int z, .int (iI (-1)), .int (iI (-1))]) : gA)) rfl
      · exact e1.cong (fun i hi => TA i (by omega)) (fun i hi => (W i (by omega)).trans (TC i (by omega)))
      · exact e6.cong (fun i hi => TA i (by omega)) (fun i hi => (W i (by omega)).trans (TC i (by omega)))
      · rw [W 56 (by decide), TC 56 (by omega), v56, ← TA 57 (by omega)]; rfl
      · exact (vf i hi).2.cong (fun l hl => TA l (by omega)) (fun l hl => (W l (by omega)).trans (TC l (by omega)))
      · rw [W 58 (by decide), TC 58 (by omega), v58, ← TA 59 (by omega)]; rfl
      · rw [W 59 (by decide), TC 59 (by omega), v59]; exact ch0_E
      · rw [W 60 (by decide), TC 60 (by omega), v60, ← TA 61 (by omega)]; rfl
      · rw [W 61 (by decide), TC 61 (by omega), v61]
    have hC : Cp (gFix E 70 ad6) (vf_upd c6 57 (plE (gFix E 70 ad6))) (imFix 70 ad6 IM) cInit f0 mNil (fun _ => 0) (fun _ => 0) 0 := by
      refine ⟨hX, ⟨rfl, ?_, ?_⟩, ?_, ?_, ⟨fun _ => 0, ?_⟩, ?_, ⟨fun _ => 0, ?_⟩, ⟨fun _ => 0, ?_⟩, Pu.init⟩
      · rw [W 62 (by decide), UC 62 (by omega), n62, ← UA 63 (by omega), ← UA 64 (by omega), ← UA 65 (by omega), ← UA 66 (by omega), ← UA 67 (by omega)]; rfl
      · rw [W 63 (by decide), UC 63 (by omega), n63]
      · rw [W 64 (by decide), UC 64 (by omega), n64]; exact zrE_eq
      · rw [W 65 (by decide), UC 65 (by omega), n65]; exact zrE_eq
      · rw [W 66 (by decide), UC 66 (by omega), n66]; exact zrE_eq
      · rw [W 67 (by decide), UC 67 (by omega), n67]; exact ch0_E
      · rw [W 68 (by decide), z68]
      · rw [W 69 (by decide), z69]; rfl
    refine g_cut (lv' := [(0, .ref (gX E).1), (1, .ref (ad6 0)), (2, .ref (ad6 62)), (3, .ref (ad6 68)), (4, .ref (ad6 69)), (5, .int (iI ((0 : Nat) : Int)))]) ⟨rfl, (show some (Value.ref q0) = some (Value.ref (ad6 0)) from congrArg (fun q => some (Value.ref q)) p0.symm), (show some (Value.ref q62) = some (Value.ref (ad6 62)) from congrArg (fun q => some (Value.ref q)) p62.symm), (show some (Value.ref q68) = some (Value.ref (ad6 68)) from congrArg (fun q => some (Value.ref q)) p68.symm), (show some (Value.ref q69) = some (Value.ref (ad6 69)) from congrArg (fun q => some (Value.ref q)) p69.symm), rfl, trivial⟩ ?_
    exact law_loop (E := gFix E 70 ad6) (P := P) hL hP 512 0 0 _ _ _ _ _ _ _ _ _ (by show (gX E).2.1 < _; omega) (by omega) (by omega) (by omega) (by omega) (by omega) hC

