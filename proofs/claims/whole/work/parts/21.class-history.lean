/-! ===== copies; the history ===== -/
theorem RI.cong {im : gIm} {rg rp rc q1 q2 q3 : Int → Option Nat} {R : Rz} (h1 : ∀ i : Int, 0 ≤ i ∧ i < 12 → q1 i = rg i) (h2 : ∀ i : Int, 0 ≤ i ∧ i < 8 → q2 i = rp i) (h3 : ∀ i : Int, 0 ≤ i ∧ i < 20 → q3 i = rc i) (ok : okZ R) (h : RI im rg rp rc R) : RI im q1 q2 q3 R := by
  obtain ⟨i1, i2, i3, i4, i5, i6⟩ := h
  obtain ⟨k1, k2, k3, _⟩ := ok
  refine ⟨fun i hi => ?_, fun i hi => ?_, fun i hi => ?_, fun i hi => ?_, fun i hi => ?_, fun i hi => ?_⟩
  · rw [h1 i (by omega)]; exact i1 i hi
  · rw [h1 i (by omega)]; exact i2 i hi
  · rw [h2 i (by omega)]; exact i3 i hi
  · rw [h2 i (by omega)]; exact i4 i hi
  · rw [h3 i (by omega)]; exact i5 i hi
  · rw [h3 i (by omega)]; exact i6 i hi

theorem c_R_copyFrom {E : gE} {w : gW} {im : gIm} {Q : gQ} {b : Nat} {R : Rz} (hz : RZ E w im b R) {b2 : Nat} {R2 : Rz} (hz2 : RZ E w im b2 R2) (hdis : b2 + 4 < b ∨ b + 4 < b2) (hQ : ∀ w' im', RN E w im b R2 w' im' → Q (.inl none) w' im') : GM E 0 y_R_copyFrom m_R_copyFrom 0 0 [.ref (gad E b), .ref (gad E b2)] w im Q := by
  have hz9 := hz
  obtain ⟨rg, rp, rc, lc, ⟨hb, h0, h1, h2, h3, h4, hlc⟩, ⟨i1, i2, i3, i4, i5, i6⟩, ok⟩ := hz9
  obtain ⟨ok1, ok2, ok3, ok4, ok5, ok6, ok7, ok8, ok9⟩ := ok
  have co : g_cell E w im (gad E b) (resE E b R) := g_mut b (by omega) h0
  have cg : g_cell E w im (gad E (b + 1)) (rowE 4 12 rg) := g_mut (b + 1) (by omega) h1
  have cp : g_cell E w im (gad E (b + 2)) (rowE 5 8 rp) := g_mut (b + 2) (by omega) h2
  have cc : g_cell E w im (gad E (b + 3)) (rowE 6 20 rc) := g_mut (b + 3) (by omega) h3
  have cl : g_cell E w im (gad E (b + 4)) (intE 372 lc) := g_mut (b + 4) (by omega) h4
  obtain ⟨rg2, rp2, rc2, lc2, ⟨hb2, y0, y1, y2, y3, y4, hlc2⟩, ⟨j1, j2, j3, j4, j5, j6⟩, okk⟩ := hz2
  have okk9 := okk
  obtain ⟨ok11, ok12, ok13, ok14, ok15, ok16, ok17, ok18, ok19⟩ := okk9
  have loop3 : ∀ (n9 : Nat) (k9 : Int) (w1 : gW) (r1 : Int → Option Nat) (q1 : Int → Option Nat) (q2 : Int → Option Nat), 0 ≤ k9 → k9 + n9 = 20 → w1 b = resE E b R → w1 (b + 1) = rowE 4 12 q1 → w1 (b + 2) = rowE 5 8 q2 → w1 (b + 3) = rowE 6 20 r1 → w1 (b + 4) = intE 372 lc → (∀ i, i < b ∨ b + 4 < i → w1 i = w i) → (∀ i : Int, 0 ≤ i ∧ i < 12 → q1 i = rg2 i) → (∀ i : Int, 0 ≤ i ∧ i < 8 → q2 i = rp2 i) → (∀ i : Int, 0 ≤ i ∧ i < k9 → r1 i = rc2 i) → G E 0 m_R_copyFrom 78 [(0, .ref (gad E b)), (1, .ref (gad E b2)), (2, .int (iI k9))] [] w1 im 0 0 Q := by
    intro n9
    induction n9 with
    | zero =>
      intro k9 w r1 q1 q2 h9 hk9 u0 u1 u2 u3 u4 hfr hq1 hq2 hr1
      have e9 : k9 = 20 := by omega
      rw [e9] at hr1
      have co : g_cell E w im (gad E b) _ := g_mut b (by omega) u0
      have cg : g_cell E w im (gad E (b + 1)) _ := g_mut (b + 1) (by omega) u1
      have cp : g_cell E w im (gad E (b + 2)) _ := g_mut (b + 2) (by omega) u2
      have cc : g_cell E w im (gad E (b + 3)) _ := g_mut (b + 3) (by omega) u3
      have cl : g_cell E w im (gad E (b + 4)) _ := g_mut (b + 4) (by omega) u4
      have d0 : g_cell E w im (gad E (b2)) _ := g_mut (b2) (by omega) ((hfr (b2) (by omega)).trans y0)
      have d1 : g_cell E w im (gad E (b2 + 1)) _ := g_mut (b2 + 1) (by omega) ((hfr (b2 + 1) (by omega)).trans y1)
      have d2 : g_cell E w im (gad E (b2 + 2)) _ := g_mut (b2 + 2) (by omega) ((hfr (b2 + 2) (by omega)).trans y2)
      have d3 : g_cell E w im (gad E (b2 + 3)) _ := g_mut (b2 + 3) (by omega) ((hfr (b2 + 3) (by omega)).trans y3)
      have d4 : g_cell E w im (gad E (b2 + 4)) _ := g_mut (b2 + 4) (by omega) ((hfr (b2 + 4) (by omega)).trans y4)
      refine g_iload_n (n := 2) (i := 2) rfl rfl d_R_copyFrom_78 ?_
      refine g_aload_n (n := 0) (i := 0) rfl rfl d_R_copyFrom_79 ?_
      refine g_getfield 1 2 f_R_25 (by assumption) (by rfl) d_R_copyFrom_80 ?_
      refine g_alen_i (by assumption) (by decide) d_R_copyFrom_83 ?_
      refine g_icmp_ge_i (tgt := 114) (by omega) (by omega) d_R_copyFrom_84 (by decide) (fun h84 => ?_) (fun h => by exfalso; omega)
      refine g_aload_n (n := 1) (i := 1) rfl rfl d_R_copyFrom_114 ?_
      refine g_getfield 1 3 f_R_29 (by assumption) (by rfl) d_R_copyFrom_115 ?_
      refine g_iconst_i d_R_copyFrom_118 ?_
      refine g_aload_n (n := 0) (i := 0) rfl rfl d_R_copyFrom_119 ?_
      refine g_getfield 1 3 f_R_29 (by assumption) (by rfl) d_R_copyFrom_120 ?_
      refine g_iconst_i d_R_copyFrom_123 ?_
      refine g_aload_n (n := 1) (i := 1) rfl rfl d_R_copyFrom_124 ?_
      refine g_getfield 1 3 f_R_29 (by assumption) (by rfl) d_R_copyFrom_125 ?_
      refine g_alen_i (by assumption) (by decide) d_R_copyFrom_128 ?_
      refine g_aload_n (n := 0) (i := 0) rfl rfl d_R_copyFrom_129 ?_
      refine g_getfield 1 3 f_R_29 (by assumption) (by rfl) d_R_copyFrom_130 ?_
      refine g_alen_i (by assumption) (by decide) d_R_copyFrom_133 ?_
      refine g_mmin_i l_R_55 x_min.1 x_min.2.1 x_min.2.2 (Nat.le_of_ble_eq_true rfl) (by omega) (by omega) d_R_copyFrom_134 ?_
      refine g_arraycopyA (i1 := b + 4) (N := 372) l_R_61 x_copy.1 x_copy.2.1 x_copy.2.2 (Nat.le_of_ble_eq_true rfl) d4 (by omega) u4 (by first | rfl | decide | (split <;> omega)) (Nat.le_refl _) (Nat.le_refl _) (by rfl) d_R_copyFrom_137 (fun w hs hn => ?_)
      have u0 := (hn (b) (by omega)).trans u0
      have u1 := (hn (b + 1) (by omega)).trans u1
      have u2 := (hn (b + 2) (by omega)).trans u2
      have u3 := (hn (b + 3) (by omega)).trans u3
      have u4 := hs
      have hfr := fun i (hi : i < b ∨ b + 4 < i) => (hn i (by omega)).trans (hfr i hi)
      have co : g_cell E w im (gad E b) _ := g_mut b (by omega) u0
      have cg : g_cell E w im (gad E (b + 1)) _ := g_mut (b + 1) (by omega) u1
      have cp : g_cell E w im (gad E (b + 2)) _ := g_mut (b + 2) (by omega) u2
      have cc : g_cell E w im (gad E (b + 3)) _ := g_mut (b + 3) (by omega) u3
      have cl : g_cell E w im (gad E (b + 4)) _ := g_mut (b + 4) (by omega) u4
      have d0 : g_cell E w im (gad E (b2)) _ := g_mut (b2) (by omega) ((hfr (b2) (by omega)).trans y0)
      have d1 : g_cell E w im (gad E (b2 + 1)) _ := g_mut (b2 + 1) (by omega) ((hfr (b2 + 1) (by omega)).trans y1)
      have d2 : g_cell E w im (gad E (b2 + 2)) _ := g_mut (b2 + 2) (by omega) ((hfr (b2 + 2) (by omega)).trans y2)
      have d3 : g_cell E w im (gad E (b2 + 3)) _ := g_mut (b2 + 3) (by omega) ((hfr (b2 + 3) (by omega)).trans y3)
      have d4 : g_cell E w im (gad E (b2 + 4)) _ := g_mut (b2 + 4) (by omega) ((hfr (b2 + 4) (by omega)).trans y4)
      refine g_aload_n (n := 0) (i := 0) rfl rfl d_R_copyFrom_140 ?_
      refine g_aload_n (n := 1) (i := 1) rfl rfl d_R_copyFrom_141 ?_
      refine g_getfield 1 4 f_R_33 (by assumption) (by rfl) d_R_copyFrom_142 ?_
      refine g_putA 1 4 (b) (by omega) (by assumption) f_R_33 (Or.inl rfl) (by rfl) (by rfl) (Nat.le_of_ble_eq_true rfl) d_R_copyFrom_145 (fun w hs hn => ?_)
      have u1 := (hn (b + 1) (by omega)).trans u1
      have u2 := (hn (b + 2) (by omega)).trans u2
      have u3 := (hn (b + 3) (by omega)).trans u3
      have u4 := (hn (b + 4) (by omega)).trans u4
      have u0 := hs
      have hfr := fun i (hi : i < b ∨ b + 4 < i) => (hn i (by omega)).trans (hfr i hi)
      have co : g_cell E w im (gad E b) _ := g_mut b (by omega) u0
      have cg : g_cell E w im (gad E (b + 1)) _ := g_mut (b + 1) (by omega) u1
      have cp : g_cell E w im (gad E (b + 2)) _ := g_mut (b + 2) (by omega) u2
      have cc : g_cell E w im (gad E (b + 3)) _ := g_mut (b + 3) (by omega) u3
      have cl : g_cell E w im (gad E (b + 4)) _ := g_mut (b + 4) (by omega) u4
      have d0 : g_cell E w im (gad E (b2)) _ := g_mut (b2) (by omega) ((hfr (b2) (by omega)).trans y0)
      have d1 : g_cell E w im (gad E (b2 + 1)) _ := g_mut (b2 + 1) (by omega) ((hfr (b2 + 1) (by omega)).trans y1)
      have d2 : g_cell E w im (gad E (b2 + 2)) _ := g_mut (b2 + 2) (by omega) ((hfr (b2 + 2) (by omega)).trans y2)
      have d3 : g_cell E w im (gad E (b2 + 3)) _ := g_mut (b2 + 3) (by omega) ((hfr (b2 + 3) (by omega)).trans y3)
      have d4 : g_cell E w im (gad E (b2 + 4)) _ := g_mut (b2 + 4) (by omega) ((hfr (b2 + 4) (by omega)).trans y4)
      refine g_aload_n (n := 0) (i := 0) rfl rfl d_R_copyFrom_148 ?_
      refine g_aload_n (n := 1) (i := 1) rfl rfl d_R_copyFrom_149 ?_
      refine g_getfield 1 5 f_R_37 (by assumption) (by rfl) d_R_copyFrom_150 ?_
      refine g_putA 1 5 (b) (by omega) (by assumption) f_R_37 (Or.inl rfl) (by rfl) (by rfl) (Nat.le_of_ble_eq_true rfl) d_R_copyFrom_153 (fun w hs hn => ?_)
      have u1 := (hn (b + 1) (by omega)).trans u1
      have u2 := (hn (b + 2) (by omega)).trans u2
      have u3 := (hn (b + 3) (by omega)).trans u3
      have u4 := (hn (b + 4) (by omega)).trans u4
      have u0 := hs
      have hfr := fun i (hi : i < b ∨ b + 4 < i) => (hn i (by omega)).trans (hfr i hi)
      have co : g_cell E w im (gad E b) _ := g_mut b (by omega) u0
      have cg : g_cell E w im (gad E (b + 1)) _ := g_mut (b + 1) (by omega) u1
      have cp : g_cell E w im (gad E (b + 2)) _ := g_mut (b + 2) (by omega) u2
      have cc : g_cell E w im (gad E (b + 3)) _ := g_mut (b + 3) (by omega) u3
      have cl : g_cell E w im (gad E (b + 4)) _ := g_mut (b + 4) (by omega) u4
      have d0 : g_cell E w im (gad E (b2)) _ := g_mut (b2) (by omega) ((hfr (b2) (by omega)).trans y0)
      have d1 : g_cell E w im (gad E (b2 + 1)) _ := g_mut (b2 + 1) (by omega) ((hfr (b2 + 1) (by omega)).trans y1)
      have d2 : g_cell E w im (gad E (b2 + 2)) _ := g_mut (b2 + 2) (by omega) ((hfr (b2 + 2) (by omega)).trans y2)
      have d3 : g_cell E w im (gad E (b2 + 3)) _ := g_mut (b2 + 3) (by omega) ((hfr (b2 + 3) (by omega)).trans y3)
      have d4 : g_cell E w im (gad E (b2 + 4)) _ := g_mut (b2 + 4) (by omega) ((hfr (b2 + 4) (by omega)).trans y4)
      refine g_aload_n (n := 0) (i := 0) rfl rfl d_R_copyFrom_156 ?_
      refine g_aload_n (n := 1) (i := 1) rfl rfl d_R_copyFrom_157 ?_
      refine g_getfield 1 6 f_R_40 (by assumption) (by rfl) d_R_copyFrom_158 ?_
      refine g_putA 1 6 (b) (by omega) (by assumption) f_R_40 (Or.inl rfl) (by rfl) (by rfl) (Nat.le_of_ble_eq_true rfl) d_R_copyFrom_161 (fun w hs hn => ?_)
      have u1 := (hn (b + 1) (by omega)).trans u1
      have u2 := (hn (b + 2) (by omega)).trans u2
      have u3 := (hn (b + 3) (by omega)).trans u3
      have u4 := (hn (b + 4) (by omega)).trans u4
      have u0 := hs
      have hfr := fun i (hi : i < b ∨ b + 4 < i) => (hn i (by omega)).trans (hfr i hi)
      have co : g_cell E w im (gad E b) _ := g_mut b (by omega) u0
      have cg : g_cell E w im (gad E (b + 1)) _ := g_mut (b + 1) (by omega) u1
      have cp : g_cell E w im (gad E (b + 2)) _ := g_mut (b + 2) (by omega) u2
      have cc : g_cell E w im (gad E (b + 3)) _ := g_mut (b + 3) (by omega) u3
      have cl : g_cell E w im (gad E (b + 4)) _ := g_mut (b + 4) (by omega) u4
      have d0 : g_cell E w im (gad E (b2)) _ := g_mut (b2) (by omega) ((hfr (b2) (by omega)).trans y0)
      have d1 : g_cell E w im (gad E (b2 + 1)) _ := g_mut (b2 + 1) (by omega) ((hfr (b2 + 1) (by omega)).trans y1)
      have d2 : g_cell E w im (gad E (b2 + 2)) _ := g_mut (b2 + 2) (by omega) ((hfr (b2 + 2) (by omega)).trans y2)
      have d3 : g_cell E w im (gad E (b2 + 3)) _ := g_mut (b2 + 3) (by omega) ((hfr (b2 + 3) (by omega)).trans y3)
      have d4 : g_cell E w im (gad E (b2 + 4)) _ := g_mut (b2 + 4) (by omega) ((hfr (b2 + 4) (by omega)).trans y4)
      refine g_aload_n (n := 0) (i := 0) rfl rfl d_R_copyFrom_164 ?_
      refine g_aload_n (n := 1) (i := 1) rfl rfl d_R_copyFrom_165 ?_
      refine g_getfield 1 7 f_R_43 (by assumption) (by rfl) d_R_copyFrom_166 ?_
      refine g_putA 1 7 (b) (by omega) (by assumption) f_R_43 (Or.inl rfl) (by rfl) (by rfl) (Nat.le_of_ble_eq_true rfl) d_R_copyFrom_169 (fun w hs hn => ?_)
      have u1 := (hn (b + 1) (by omega)).trans u1
      have u2 := (hn (b + 2) (by omega)).trans u2
      have u3 := (hn (b + 3) (by omega)).trans u3
      have u4 := (hn (b + 4) (by omega)).trans u4
      have u0 := hs
      have hfr := fun i (hi : i < b ∨ b + 4 < i) => (hn i (by omega)).trans (hfr i hi)
      have co : g_cell E w im (gad E b) _ := g_mut b (by omega) u0
      have cg : g_cell E w im (gad E (b + 1)) _ := g_mut (b + 1) (by omega) u1
      have cp : g_cell E w im (gad E (b + 2)) _ := g_mut (b + 2) (by omega) u2
      have cc : g_cell E w im (gad E (b + 3)) _ := g_mut (b + 3) (by omega) u3
      have cl : g_cell E w im (gad E (b + 4)) _ := g_mut (b + 4) (by omega) u4
      have d0 : g_cell E w im (gad E (b2)) _ := g_mut (b2) (by omega) ((hfr (b2) (by omega)).trans y0)
      have d1 : g_cell E w im (gad E (b2 + 1)) _ := g_mut (b2 + 1) (by omega) ((hfr (b2 + 1) (by omega)).trans y1)
      have d2 : g_cell E w im (gad E (b2 + 2)) _ := g_mut (b2 + 2) (by omega) ((hfr (b2 + 2) (by omega)).trans y2)
      have d3 : g_cell E w im (gad E (b2 + 3)) _ := g_mut (b2 + 3) (by omega) ((hfr (b2 + 3) (by omega)).trans y3)
      have d4 : g_cell E w im (gad E (b2 + 4)) _ := g_mut (b2 + 4) (by omega) ((hfr (b2 + 4) (by omega)).trans y4)
      refine g_aload_n (n := 0) (i := 0) rfl rfl d_R_copyFrom_172 ?_
      refine g_aload_n (n := 1) (i := 1) rfl rfl d_R_copyFrom_173 ?_
      refine g_getfield 1 8 f_R_46 (by assumption) (by rfl) d_R_copyFrom_174 ?_
      refine g_putA 1 8 (b) (by omega) (by assumption) f_R_46 (Or.inl rfl) (by rfl) (by rfl) (Nat.le_of_ble_eq_true rfl) d_R_copyFrom_177 (fun w hs hn => ?_)
      have u1 := (hn (b + 1) (by omega)).trans u1
      have u2 := (hn (b + 2) (by omega)).trans u2
      have u3 := (hn (b + 3) (by omega)).trans u3
      have u4 := (hn (b + 4) (by omega)).trans u4
      have u0 : w (b) = resE E b R2 := hs
      have hfr := fun i (hi : i < b ∨ b + 4 < i) => (hn i (by omega)).trans (hfr i hi)
      have co : g_cell E w im (gad E b) _ := g_mut b (by omega) u0
      have cg : g_cell E w im (gad E (b + 1)) _ := g_mut (b + 1) (by omega) u1
      have cp : g_cell E w im (gad E (b + 2)) _ := g_mut (b + 2) (by omega) u2
      have cc : g_cell E w im (gad E (b + 3)) _ := g_mut (b + 3) (by omega) u3
      have cl : g_cell E w im (gad E (b + 4)) _ := g_mut (b + 4) (by omega) u4
      have d0 : g_cell E w im (gad E (b2)) _ := g_mut (b2) (by omega) ((hfr (b2) (by omega)).trans y0)
      have d1 : g_cell E w im (gad E (b2 + 1)) _ := g_mut (b2 + 1) (by omega) ((hfr (b2 + 1) (by omega)).trans y1)
      have d2 : g_cell E w im (gad E (b2 + 2)) _ := g_mut (b2 + 2) (by omega) ((hfr (b2 + 2) (by omega)).trans y2)
      have d3 : g_cell E w im (gad E (b2 + 3)) _ := g_mut (b2 + 3) (by omega) ((hfr (b2 + 3) (by omega)).trans y3)
      have d4 : g_cell E w im (gad E (b2 + 4)) _ := g_mut (b2 + 4) (by omega) ((hfr (b2 + 4) (by omega)).trans y4)
      refine g_return rfl d_R_copyFrom_180 ?_
      exact hQ _ _ ⟨hfr, fun _ _ h => h, _, _, _, (fun j : Int => if j < ((372 : Nat) : Int) then lc2 j else lc j), ⟨hb, u0, u1, u2, u3, u4, fun j hj => by simp only []; rw [if_pos (by omega)]; exact hlc2 j hj⟩, RI.cong hq1 hq2 hr1 okk ⟨j1, j2, j3, j4, j5, j6⟩, okk⟩
    | succ n9 ih =>
      intro k9 w r1 q1 q2 h9 hk9 u0 u1 u2 u3 u4 hfr hq1 hq2 hr1
      have co : g_cell E w im (gad E b) _ := g_mut b (by omega) u0
      have cg : g_cell E w im (gad E (b + 1)) _ := g_mut (b + 1) (by omega) u1
      have cp : g_cell E w im (gad E (b + 2)) _ := g_mut (b + 2) (by omega) u2
      have cc : g_cell E w im (gad E (b + 3)) _ := g_mut (b + 3) (by omega) u3
      have cl : g_cell E w im (gad E (b + 4)) _ := g_mut (b + 4) (by omega) u4
      have d0 : g_cell E w im (gad E (b2)) _ := g_mut (b2) (by omega) ((hfr (b2) (by omega)).trans y0)
      have d1 : g_cell E w im (gad E (b2 + 1)) _ := g_mut (b2 + 1) (by omega) ((hfr (b2 + 1) (by omega)).trans y1)
      have d2 : g_cell E w im (gad E (b2 + 2)) _ := g_mut (b2 + 2) (by omega) ((hfr (b2 + 2) (by omega)).trans y2)
      have d3 : g_cell E w im (gad E (b2 + 3)) _ := g_mut (b2 + 3) (by omega) ((hfr (b2 + 3) (by omega)).trans y3)
      have d4 : g_cell E w im (gad E (b2 + 4)) _ := g_mut (b2 + 4) (by omega) ((hfr (b2 + 4) (by omega)).trans y4)
      by_cases hc9 : k9 < zc R2
      · obtain ⟨a9, p9, la9, e1, e2, e3, e4⟩ := j5 k9 ⟨h9, hc9⟩
        refine g_iload_n (n := 2) (i := 2) rfl rfl d_R_copyFrom_78 ?_
        refine g_aload_n (n := 0) (i := 0) rfl rfl d_R_copyFrom_79 ?_
        refine g_getfield 1 2 f_R_25 (by assumption) (by rfl) d_R_copyFrom_80 ?_
        refine g_alen_i (by assumption) (by decide) d_R_copyFrom_83 ?_
        refine g_icmp_ge_i (tgt := 114) (by omega) (by omega) d_R_copyFrom_84 (by decide) (fun h => by exfalso; omega) (fun h84 => ?_)
        refine g_iload_n (n := 2) (i := 2) rfl rfl d_R_copyFrom_87 ?_
        refine g_aload_n (n := 1) (i := 1) rfl rfl d_R_copyFrom_88 ?_
        refine g_getfield 1 2 f_R_25 (by assumption) (by rfl) d_R_copyFrom_89 ?_
        refine g_alen_i (by assumption) (by decide) d_R_copyFrom_92 ?_
        refine g_icmp_ge_i (tgt := 114) (by omega) (by omega) d_R_copyFrom_93 (by decide) (fun h => by exfalso; omega) (fun h93 => ?_)
        refine g_aload_n (n := 0) (i := 0) rfl rfl d_R_copyFrom_96 ?_
        refine g_getfield 1 2 f_R_25 (by assumption) (by rfl) d_R_copyFrom_97 ?_
        refine g_iload_n (n := 2) (i := 2) rfl rfl d_R_copyFrom_100 ?_
        refine g_aload_n (n := 1) (i := 1) rfl rfl d_R_copyFrom_101 ?_
        refine g_getfield 1 2 f_R_25 (by assumption) (by rfl) d_R_copyFrom_102 ?_
        refine g_iload_n (n := 2) (i := 2) rfl rfl d_R_copyFrom_105 ?_
        refine g_aaload_i (by assumption) (by decide) (by rfl) (by omega) (by omega) (by rfl) (by assumption) d_R_copyFrom_106 ?_
        refine g_aastoreA (b + 3) (by omega) (by assumption) (by decide) (by decide) (by rfl) (g_imm e2) (by omega) (by omega) (by rfl) d_R_copyFrom_107 (fun w hs hn => ?_)
        have u0 := (hn (b) (by omega)).trans u0
        have u1 := (hn (b + 1) (by omega)).trans u1
        have u2 := (hn (b + 2) (by omega)).trans u2
        have u4 := (hn (b + 4) (by omega)).trans u4
        have u3 := hs
        have hfr := fun i (hi : i < b ∨ b + 4 < i) => (hn i (by omega)).trans (hfr i hi)
        have co : g_cell E w im (gad E b) _ := g_mut b (by omega) u0
        have cg : g_cell E w im (gad E (b + 1)) _ := g_mut (b + 1) (by omega) u1
        have cp : g_cell E w im (gad E (b + 2)) _ := g_mut (b + 2) (by omega) u2
        have cc : g_cell E w im (gad E (b + 3)) _ := g_mut (b + 3) (by omega) u3
        have cl : g_cell E w im (gad E (b + 4)) _ := g_mut (b + 4) (by omega) u4
        refine g_iinc_i (i := 2) rfl (by decide) rfl d_R_copyFrom_108 ?_
        refine g_goto (tgt := 78) (by decide) d_R_copyFrom_111 ?_
        exact g_cut (lv' := [(0, .ref (gad E b)), (1, .ref (gad E b2)), (2, .int (iI (k9 + 1)))]) ⟨rfl, rfl, rfl, trivial⟩ (ih (k9 + 1) w _ q1 q2 (by omega) (by omega) u0 u1 u2 u3 u4 hfr hq1 hq2 (fun i hi => by simp only [uI]; split <;> first | exact hr1 i (by omega) | (rename_i e; rw [e, e1])))
      · have e1 := j6 k9 (by omega)
        refine g_iload_n (n := 2) (i := 2) rfl rfl d_R_copyFrom_78 ?_
        refine g_aload_n (n := 0) (i := 0) rfl rfl d_R_copyFrom_79 ?_
        refine g_getfield 1 2 f_R_25 (by assumption) (by rfl) d_R_copyFrom_80 ?_
        refine g_alen_i (by assumption) (by decide) d_R_copyFrom_83 ?_
        refine g_icmp_ge_i (tgt := 114) (by omega) (by omega) d_R_copyFrom_84 (by decide) (fun h => by exfalso; omega) (fun h84 => ?_)
        refine g_iload_n (n := 2) (i := 2) rfl rfl d_R_copyFrom_87 ?_
        refine g_aload_n (n := 1) (i := 1) rfl rfl d_R_copyFrom_88 ?_
        refine g_getfield 1 2 f_R_25 (by assumption) (by rfl) d_R_copyFrom_89 ?_
        refine g_alen_i (by assumption) (by decide) d_R_copyFrom_92 ?_
        refine g_icmp_ge_i (tgt := 114) (by omega) (by omega) d_R_copyFrom_93 (by decide) (fun h => by exfalso; omega) (fun h93 => ?_)
        refine g_aload_n (n := 0) (i := 0) rfl rfl d_R_copyFrom_96 ?_
        refine g_getfield 1 2 f_R_25 (by assumption) (by rfl) d_R_copyFrom_97 ?_
        refine g_iload_n (n := 2) (i := 2) rfl rfl d_R_copyFrom_100 ?_
        refine g_aload_n (n := 1) (i := 1) rfl rfl d_R_copyFrom_101 ?_
        refine g_getfield 1 2 f_R_25 (by assumption) (by rfl) d_R_copyFrom_102 ?_
        refine g_iload_n (n := 2) (i := 2) rfl rfl d_R_copyFrom_105 ?_
        refine g_aaloadN_i (by assumption) (by decide) (by rfl) (by omega) (by omega) (by rfl) (by assumption) d_R_copyFrom_106 ?_
        refine g_aastoreNA (b + 3) (by omega) (by assumption) (by decide) (by rfl) (by omega) (by omega) (by rfl) d_R_copyFrom_107 (fun w hs hn => ?_)
        have u0 := (hn (b) (by omega)).trans u0
        have u1 := (hn (b + 1) (by omega)).trans u1
        have u2 := (hn (b + 2) (by omega)).trans u2
        have u4 := (hn (b + 4) (by omega)).trans u4
        have u3 := hs
        have hfr := fun i (hi : i < b ∨ b + 4 < i) => (hn i (by omega)).trans (hfr i hi)
        have co : g_cell E w im (gad E b) _ := g_mut b (by omega) u0
        have cg : g_cell E w im (gad E (b + 1)) _ := g_mut (b + 1) (by omega) u1
        have cp : g_cell E w im (gad E (b + 2)) _ := g_mut (b + 2) (by omega) u2
        have cc : g_cell E w im (gad E (b + 3)) _ := g_mut (b + 3) (by omega) u3
        have cl : g_cell E w im (gad E (b + 4)) _ := g_mut (b + 4) (by omega) u4
        refine g_iinc_i (i := 2) rfl (by decide) rfl d_R_copyFrom_108 ?_
        refine g_goto (tgt := 78) (by decide) d_R_copyFrom_111 ?_
        exact g_cut (lv' := [(0, .ref (gad E b)), (1, .ref (gad E b2)), (2, .int (iI (k9 + 1)))]) ⟨rfl, rfl, rfl, trivial⟩ (ih (k9 + 1) w _ q1 q2 (by omega) (by omega) u0 u1 u2 u3 u4 hfr hq1 hq2 (fun i hi => by simp only [uI]; split <;> first | exact hr1 i (by omega) | (rename_i e; rw [e, e1])))
  have loop2 : ∀ (n9 : Nat) (k9 : Int) (w1 : gW) (r1 : Int → Option Nat) (q1 : Int → Option Nat), 0 ≤ k9 → k9 + n9 = 8 → w1 b = resE E b R → w1 (b + 1) = rowE 4 12 q1 → w1 (b + 2) = rowE 5 8 r1 → w1 (b + 3) = rowE 6 20 rc → w1 (b + 4) = intE 372 lc → (∀ i, i < b ∨ b + 4 < i → w1 i = w i) → (∀ i : Int, 0 ≤ i ∧ i < 12 → q1 i = rg2 i) → (∀ i : Int, 0 ≤ i ∧ i < k9 → r1 i = rp2 i) → G E 0 m_R_copyFrom 40 [(0, .ref (gad E b)), (1, .ref (gad E b2)), (2, .int (iI k9))] [] w1 im 0 0 Q := by
    intro n9
    induction n9 with
    | zero =>
      intro k9 w r1 q1 h9 hk9 u0 u1 u2 u3 u4 hfr hq1 hr1
      have e9 : k9 = 8 := by omega
      rw [e9] at hr1
      have co : g_cell E w im (gad E b) _ := g_mut b (by omega) u0
      have cg : g_cell E w im (gad E (b + 1)) _ := g_mut (b + 1) (by omega) u1
      have cp : g_cell E w im (gad E (b + 2)) _ := g_mut (b + 2) (by omega) u2
      have cc : g_cell E w im (gad E (b + 3)) _ := g_mut (b + 3) (by omega) u3
      have cl : g_cell E w im (gad E (b + 4)) _ := g_mut (b + 4) (by omega) u4
      have d0 : g_cell E w im (gad E (b2)) _ := g_mut (b2) (by omega) ((hfr (b2) (by omega)).trans y0)
      have d1 : g_cell E w im (gad E (b2 + 1)) _ := g_mut (b2 + 1) (by omega) ((hfr (b2 + 1) (by omega)).trans y1)
      have d2 : g_cell E w im (gad E (b2 + 2)) _ := g_mut (b2 + 2) (by omega) ((hfr (b2 + 2) (by omega)).trans y2)
      have d3 : g_cell E w im (gad E (b2 + 3)) _ := g_mut (b2 + 3) (by omega) ((hfr (b2 + 3) (by omega)).trans y3)
      have d4 : g_cell E w im (gad E (b2 + 4)) _ := g_mut (b2 + 4) (by omega) ((hfr (b2 + 4) (by omega)).trans y4)
      refine g_iload_n (n := 2) (i := 2) rfl rfl d_R_copyFrom_40 ?_
      refine g_aload_n (n := 0) (i := 0) rfl rfl d_R_copyFrom_41 ?_
      refine g_getfield 1 1 f_R_19 (by assumption) (by rfl) d_R_copyFrom_42 ?_
      refine g_alen_i (by assumption) (by decide) d_R_copyFrom_45 ?_
      refine g_icmp_ge_i (tgt := 76) (by omega) (by omega) d_R_copyFrom_46 (by decide) (fun h46 => ?_) (fun h => by exfalso; omega)
      refine g_iconst_i d_R_copyFrom_76 ?_
      refine g_istore_n (n := 2) (i := 2) rfl (by decide) rfl d_R_copyFrom_77 ?_
      exact g_cut (lv' := [(0, .ref (gad E b)), (1, .ref (gad E b2)), (2, .int (iI 0))]) ⟨rfl, rfl, rfl, trivial⟩ (loop3 20 0 w _ q1 r1 (by omega) (by omega) u0 u1 u2 u3 u4 hfr hq1 hr1 (fun i hi => by omega))
    | succ n9 ih =>
      intro k9 w r1 q1 h9 hk9 u0 u1 u2 u3 u4 hfr hq1 hr1
      have co : g_cell E w im (gad E b) _ := g_mut b (by omega) u0
      have cg : g_cell E w im (gad E (b + 1)) _ := g_mut (b + 1) (by omega) u1
      have cp : g_cell E w im (gad E (b + 2)) _ := g_mut (b + 2) (by omega) u2
      have cc : g_cell E w im (gad E (b + 3)) _ := g_mut (b + 3) (by omega) u3
      have cl : g_cell E w im (gad E (b + 4)) _ := g_mut (b + 4) (by omega) u4
      have d0 : g_cell E w im (gad E (b2)) _ := g_mut (b2) (by omega) ((hfr (b2) (by omega)).trans y0)
      have d1 : g_cell E w im (gad E (b2 + 1)) _ := g_mut (b2 + 1) (by omega) ((hfr (b2 + 1) (by omega)).trans y1)
      have d2 : g_cell E w im (gad E (b2 + 2)) _ := g_mut (b2 + 2) (by omega) ((hfr (b2 + 2) (by omega)).trans y2)
      have d3 : g_cell E w im (gad E (b2 + 3)) _ := g_mut (b2 + 3) (by omega) ((hfr (b2 + 3) (by omega)).trans y3)
      have d4 : g_cell E w im (gad E (b2 + 4)) _ := g_mut (b2 + 4) (by omega) ((hfr (b2 + 4) (by omega)).trans y4)
      by_cases hc9 : k9 < zp R2
      · obtain ⟨a9, e1, e2⟩ := j3 k9 ⟨h9, hc9⟩
        refine g_iload_n (n := 2) (i := 2) rfl rfl d_R_copyFrom_40 ?_
        refine g_aload_n (n := 0) (i := 0) rfl rfl d_R_copyFrom_41 ?_
        refine g_getfield 1 1 f_R_19 (by assumption) (by rfl) d_R_copyFrom_42 ?_
        refine g_alen_i (by assumption) (by decide) d_R_copyFrom_45 ?_
        refine g_icmp_ge_i (tgt := 76) (by omega) (by omega) d_R_copyFrom_46 (by decide) (fun h => by exfalso; omega) (fun h46 => ?_)
        refine g_iload_n (n := 2) (i := 2) rfl rfl d_R_copyFrom_49 ?_
        refine g_aload_n (n := 1) (i := 1) rfl rfl d_R_copyFrom_50 ?_
        refine g_getfield 1 1 f_R_19 (by assumption) (by rfl) d_R_copyFrom_51 ?_
        refine g_alen_i (by assumption) (by decide) d_R_copyFrom_54 ?_
        refine g_icmp_ge_i (tgt := 76) (by omega) (by omega) d_R_copyFrom_55 (by decide) (fun h => by exfalso; omega) (fun h55 => ?_)
        refine g_aload_n (n := 0) (i := 0) rfl rfl d_R_copyFrom_58 ?_
        refine g_getfield 1 1 f_R_19 (by assumption) (by rfl) d_R_copyFrom_59 ?_
        refine g_iload_n (n := 2) (i := 2) rfl rfl d_R_copyFrom_62 ?_
        refine g_aload_n (n := 1) (i := 1) rfl rfl d_R_copyFrom_63 ?_
        refine g_getfield 1 1 f_R_19 (by assumption) (by rfl) d_R_copyFrom_64 ?_
        refine g_iload_n (n := 2) (i := 2) rfl rfl d_R_copyFrom_67 ?_
        refine g_aaload_i (by assumption) (by decide) (by rfl) (by omega) (by omega) (by rfl) (by assumption) d_R_copyFrom_68 ?_
        refine g_aastoreA (b + 2) (by omega) (by assumption) (by decide) (by decide) (by rfl) (g_imm e2) (by omega) (by omega) (by rfl) d_R_copyFrom_69 (fun w hs hn => ?_)
        have u0 := (hn (b) (by omega)).trans u0
        have u1 := (hn (b + 1) (by omega)).trans u1
        have u3 := (hn (b + 3) (by omega)).trans u3
        have u4 := (hn (b + 4) (by omega)).trans u4
        have u2 := hs
        have hfr := fun i (hi : i < b ∨ b + 4 < i) => (hn i (by omega)).trans (hfr i hi)
        have co : g_cell E w im (gad E b) _ := g_mut b (by omega) u0
        have cg : g_cell E w im (gad E (b + 1)) _ := g_mut (b + 1) (by omega) u1
        have cp : g_cell E w im (gad E (b + 2)) _ := g_mut (b + 2) (by omega) u2
        have cc : g_cell E w im (gad E (b + 3)) _ := g_mut (b + 3) (by omega) u3
        have cl : g_cell E w im (gad E (b + 4)) _ := g_mut (b + 4) (by omega) u4
        refine g_iinc_i (i := 2) rfl (by decide) rfl d_R_copyFrom_70 ?_
        refine g_goto (tgt := 40) (by decide) d_R_copyFrom_73 ?_
        exact g_cut (lv' := [(0, .ref (gad E b)), (1, .ref (gad E b2)), (2, .int (iI (k9 + 1)))]) ⟨rfl, rfl, rfl, trivial⟩ (ih (k9 + 1) w _ q1 (by omega) (by omega) u0 u1 u2 u3 u4 hfr hq1 (fun i hi => by simp only [uI]; split <;> first | exact hr1 i (by omega) | (rename_i e; rw [e, e1])))
      · have e1 := j4 k9 (by omega)
        refine g_iload_n (n := 2) (i := 2) rfl rfl d_R_copyFrom_40 ?_
        refine g_aload_n (n := 0) (i := 0) rfl rfl d_R_copyFrom_41 ?_
        refine g_getfield 1 1 f_R_19 (by assumption) (by rfl) d_R_copyFrom_42 ?_
        refine g_alen_i (by assumption) (by decide) d_R_copyFrom_45 ?_
        refine g_icmp_ge_i (tgt := 76) (by omega) (by omega) d_R_copyFrom_46 (by decide) (fun h => by exfalso; omega) (fun h46 => ?_)
        refine g_iload_n (n := 2) (i := 2) rfl rfl d_R_copyFrom_49 ?_
        refine g_aload_n (n := 1) (i := 1) rfl rfl d_R_copyFrom_50 ?_
        refine g_getfield 1 1 f_R_19 (by assumption) (by rfl) d_R_copyFrom_51 ?_
        refine g_alen_i (by assumption) (by decide) d_R_copyFrom_54 ?_
        refine g_icmp_ge_i (tgt := 76) (by omega) (by omega) d_R_copyFrom_55 (by decide) (fun h => by exfalso; omega) (fun h55 => ?_)
        refine g_aload_n (n := 0) (i := 0) rfl rfl d_R_copyFrom_58 ?_
        refine g_getfield 1 1 f_R_19 (by assumption) (by rfl) d_R_copyFrom_59 ?_
        refine g_iload_n (n := 2) (i := 2) rfl rfl d_R_copyFrom_62 ?_
        refine g_aload_n (n := 1) (i := 1) rfl rfl d_R_copyFrom_63 ?_
        refine g_getfield 1 1 f_R_19 (by assumption) (by rfl) d_R_copyFrom_64 ?_
        refine g_iload_n (n := 2) (i := 2) rfl rfl d_R_copyFrom_67 ?_
        refine g_aaloadN_i (by assumption) (by decide) (by rfl) (by omega) (by omega) (by rfl) (by assumption) d_R_copyFrom_68 ?_
        refine g_aastoreNA (b + 2) (by omega) (by assumption) (by decide) (by rfl) (by omega) (by omega) (by rfl) d_R_copyFrom_69 (fun w hs hn => ?_)
        have u0 := (hn (b) (by omega)).trans u0
        have u1 := (hn (b + 1) (by omega)).trans u1
        have u3 := (hn (b + 3) (by omega)).trans u3
        have u4 := (hn (b + 4) (by omega)).trans u4
        have u2 := hs
        have hfr := fun i (hi : i < b ∨ b + 4 < i) => (hn i (by omega)).trans (hfr i hi)
        have co : g_cell E w im (gad E b) _ := g_mut b (by omega) u0
        have cg : g_cell E w im (gad E (b + 1)) _ := g_mut (b + 1) (by omega) u1
        have cp : g_cell E w im (gad E (b + 2)) _ := g_mut (b + 2) (by omega) u2
        have cc : g_cell E w im (gad E (b + 3)) _ := g_mut (b + 3) (by omega) u3
        have cl : g_cell E w im (gad E (b + 4)) _ := g_mut (b + 4) (by omega) u4
        refine g_iinc_i (i := 2) rfl (by decide) rfl d_R_copyFrom_70 ?_
        refine g_goto (tgt := 40) (by decide) d_R_copyFrom_73 ?_
        exact g_cut (lv' := [(0, .ref (gad E b)), (1, .ref (gad E b2)), (2, .int (iI (k9 + 1)))]) ⟨rfl, rfl, rfl, trivial⟩ (ih (k9 + 1) w _ q1 (by omega) (by omega) u0 u1 u2 u3 u4 hfr hq1 (fun i hi => by simp only [uI]; split <;> first | exact hr1 i (by omega) | (rename_i e; rw [e, e1])))
  have loop1 : ∀ (n9 : Nat) (k9 : Int) (w1 : gW) (r1 : Int → Option Nat), 0 ≤ k9 → k9 + n9 = 12 → w1 b = resE E b R → w1 (b + 1) = rowE 4 12 r1 → w1 (b + 2) = rowE 5 8 rp → w1 (b + 3) = rowE 6 20 rc → w1 (b + 4) = intE 372 lc → (∀ i, i < b ∨ b + 4 < i → w1 i = w i) → (∀ i : Int, 0 ≤ i ∧ i < k9 → r1 i = rg2 i) → G E 0 m_R_copyFrom 2 [(0, .ref (gad E b)), (1, .ref (gad E b2)), (2, .int (iI k9))] [] w1 im 0 0 Q := by
    intro n9
    induction n9 with
    | zero =>
      intro k9 w r1 h9 hk9 u0 u1 u2 u3 u4 hfr hr1
      have e9 : k9 = 12 := by omega
      rw [e9] at hr1
      have co : g_cell E w im (gad E b) _ := g_mut b (by omega) u0
      have cg : g_cell E w im (gad E (b + 1)) _ := g_mut (b + 1) (by omega) u1
      have cp : g_cell E w im (gad E (b + 2)) _ := g_mut (b + 2) (by omega) u2
      have cc : g_cell E w im (gad E (b + 3)) _ := g_mut (b + 3) (by omega) u3
      have cl : g_cell E w im (gad E (b + 4)) _ := g_mut (b + 4) (by omega) u4
      have d0 : g_cell E w im (gad E (b2)) _ := g_mut (b2) (by omega) ((hfr (b2) (by omega)).trans y0)
      have d1 : g_cell E w im (gad E (b2 + 1)) _ := g_mut (b2 + 1) (by omega) ((hfr (b2 + 1) (by omega)).trans y1)
      have d2 : g_cell E w im (gad E (b2 + 2)) _ := g_mut (b2 + 2) (by omega) ((hfr (b2 + 2) (by omega)).trans y2)
      have d3 : g_cell E w im (gad E (b2 + 3)) _ := g_mut (b2 + 3) (by omega) ((hfr (b2 + 3) (by omega)).trans y3)
      have d4 : g_cell E w im (gad E (b2 + 4)) _ := g_mut (b2 + 4) (by omega) ((hfr (b2 + 4) (by omega)).trans y4)
      refine g_iload_n (n := 2) (i := 2) rfl rfl d_R_copyFrom_2 ?_
      refine g_aload_n (n := 0) (i := 0) rfl rfl d_R_copyFrom_3 ?_
      refine g_getfield 1 0 f_R_11 (by assumption) (by rfl) d_R_copyFrom_4 ?_
      refine g_alen_i (by assumption) (by decide) d_R_copyFrom_7 ?_
      refine g_icmp_ge_i (tgt := 38) (by omega) (by omega) d_R_copyFrom_8 (by decide) (fun h8 => ?_) (fun h => by exfalso; omega)
      refine g_iconst_i d_R_copyFrom_38 ?_
      refine g_istore_n (n := 2) (i := 2) rfl (by decide) rfl d_R_copyFrom_39 ?_
      exact g_cut (lv' := [(0, .ref (gad E b)), (1, .ref (gad E b2)), (2, .int (iI 0))]) ⟨rfl, rfl, rfl, trivial⟩ (loop2 8 0 w _ r1 (by omega) (by omega) u0 u1 u2 u3 u4 hfr hr1 (fun i hi => by omega))
    | succ n9 ih =>
      intro k9 w r1 h9 hk9 u0 u1 u2 u3 u4 hfr hr1
      have co : g_cell E w im (gad E b) _ := g_mut b (by omega) u0
      have cg : g_cell E w im (gad E (b + 1)) _ := g_mut (b + 1) (by omega) u1
      have cp : g_cell E w im (gad E (b + 2)) _ := g_mut (b + 2) (by omega) u2
      have cc : g_cell E w im (gad E (b + 3)) _ := g_mut (b + 3) (by omega) u3
      have cl : g_cell E w im (gad E (b + 4)) _ := g_mut (b + 4) (by omega) u4
      have d0 : g_cell E w im (gad E (b2)) _ := g_mut (b2) (by omega) ((hfr (b2) (by omega)).trans y0)
      have d1 : g_cell E w im (gad E (b2 + 1)) _ := g_mut (b2 + 1) (by omega) ((hfr (b2 + 1) (by omega)).trans y1)
      have d2 : g_cell E w im (gad E (b2 + 2)) _ := g_mut (b2 + 2) (by omega) ((hfr (b2 + 2) (by omega)).trans y2)
      have d3 : g_cell E w im (gad E (b2 + 3)) _ := g_mut (b2 + 3) (by omega) ((hfr (b2 + 3) (by omega)).trans y3)
      have d4 : g_cell E w im (gad E (b2 + 4)) _ := g_mut (b2 + 4) (by omega) ((hfr (b2 + 4) (by omega)).trans y4)
      by_cases hc9 : k9 < zg R2
      · obtain ⟨a9, e1, e2⟩ := j1 k9 ⟨h9, hc9⟩
        refine g_iload_n (n := 2) (i := 2) rfl rfl d_R_copyFrom_2 ?_
        refine g_aload_n (n := 0) (i := 0) rfl rfl d_R_copyFrom_3 ?_
        refine g_getfield 1 0 f_R_11 (by assumption) (by rfl) d_R_copyFrom_4 ?_
        refine g_alen_i (by assumption) (by decide) d_R_copyFrom_7 ?_
        refine g_icmp_ge_i (tgt := 38) (by omega) (by omega) d_R_copyFrom_8 (by decide) (fun h => by exfalso; omega) (fun h8 => ?_)
        refine g_iload_n (n := 2) (i := 2) rfl rfl d_R_copyFrom_11 ?_
        refine g_aload_n (n := 1) (i := 1) rfl rfl d_R_copyFrom_12 ?_
        refine g_getfield 1 0 f_R_11 (by assumption) (by rfl) d_R_copyFrom_13 ?_
        refine g_alen_i (by assumption) (by decide) d_R_copyFrom_16 ?_
        refine g_icmp_ge_i (tgt := 38) (by omega) (by omega) d_R_copyFrom_17 (by decide) (fun h => by exfalso; omega) (fun h17 => ?_)
        refine g_aload_n (n := 0) (i := 0) rfl rfl d_R_copyFrom_20 ?_
        refine g_getfield 1 0 f_R_11 (by assumption) (by rfl) d_R_copyFrom_21 ?_
        refine g_iload_n (n := 2) (i := 2) rfl rfl d_R_copyFrom_24 ?_
        refine g_aload_n (n := 1) (i := 1) rfl rfl d_R_copyFrom_25 ?_
        refine g_getfield 1 0 f_R_11 (by assumption) (by rfl) d_R_copyFrom_26 ?_
        refine g_iload_n (n := 2) (i := 2) rfl rfl d_R_copyFrom_29 ?_
        refine g_aaload_i (by assumption) (by decide) (by rfl) (by omega) (by omega) (by rfl) (by assumption) d_R_copyFrom_30 ?_
        refine g_aastoreA (b + 1) (by omega) (by assumption) (by decide) (by decide) (by rfl) (g_imm e2) (by omega) (by omega) (by rfl) d_R_copyFrom_31 (fun w hs hn => ?_)
        have u0 := (hn (b) (by omega)).trans u0
        have u2 := (hn (b + 2) (by omega)).trans u2
        have u3 := (hn (b + 3) (by omega)).trans u3
        have u4 := (hn (b + 4) (by omega)).trans u4
        have u1 := hs
        have hfr := fun i (hi : i < b ∨ b + 4 < i) => (hn i (by omega)).trans (hfr i hi)
        have co : g_cell E w im (gad E b) _ := g_mut b (by omega) u0
        have cg : g_cell E w im (gad E (b + 1)) _ := g_mut (b + 1) (by omega) u1
        have cp : g_cell E w im (gad E (b + 2)) _ := g_mut (b + 2) (by omega) u2
        have cc : g_cell E w im (gad E (b + 3)) _ := g_mut (b + 3) (by omega) u3
        have cl : g_cell E w im (gad E (b + 4)) _ := g_mut (b + 4) (by omega) u4
        refine g_iinc_i (i := 2) rfl (by decide) rfl d_R_copyFrom_32 ?_
        refine g_goto (tgt := 2) (by decide) d_R_copyFrom_35 ?_
        exact g_cut (lv' := [(0, .ref (gad E b)), (1, .ref (gad E b2)), (2, .int (iI (k9 + 1)))]) ⟨rfl, rfl, rfl, trivial⟩ (ih (k9 + 1) w _ (by omega) (by omega) u0 u1 u2 u3 u4 hfr (fun i hi => by simp only [uI]; split <;> first | exact hr1 i (by omega) | (rename_i e; rw [e, e1])))
      · have e1 := j2 k9 (by omega)
        refine g_iload_n (n := 2) (i := 2) rfl rfl d_R_copyFrom_2 ?_
        refine g_aload_n (n := 0) (i := 0) rfl rfl d_R_copyFrom_3 ?_
        refine g_getfield 1 0 f_R_11 (by assumption) (by rfl) d_R_copyFrom_4 ?_
        refine g_alen_i (by assumption) (by decide) d_R_copyFrom_7 ?_
        refine g_icmp_ge_i (tgt := 38) (by omega) (by omega) d_R_copyFrom_8 (by decide) (fun h => by exfalso; omega) (fun h8 => ?_)
        refine g_iload_n (n := 2) (i := 2) rfl rfl d_R_copyFrom_11 ?_
        refine g_aload_n (n := 1) (i := 1) rfl rfl d_R_copyFrom_12 ?_
        refine g_getfield 1 0 f_R_11 (by assumption) (by rfl) d_R_copyFrom_13 ?_
        refine g_alen_i (by assumption) (by decide) d_R_copyFrom_16 ?_
        refine g_icmp_ge_i (tgt := 38) (by omega) (by omega) d_R_copyFrom_17 (by decide) (fun h => by exfalso; omega) (fun h17 => ?_)
        refine g_aload_n (n := 0) (i := 0) rfl rfl d_R_copyFrom_20 ?_
        refine g_getfield 1 0 f_R_11 (by assumption) (by rfl) d_R_copyFrom_21 ?_
        refine g_iload_n (n := 2) (i := 2) rfl rfl d_R_copyFrom_24 ?_
        refine g_aload_n (n := 1) (i := 1) rfl rfl d_R_copyFrom_25 ?_
        refine g_getfield 1 0 f_R_11 (by assumption) (by rfl) d_R_copyFrom_26 ?_
        refine g_iload_n (n := 2) (i := 2) rfl rfl d_R_copyFrom_29 ?_
        refine g_aaloadN_i (by assumption) (by decide) (by rfl) (by omega) (by omega) (by rfl) (by assumption) d_R_copyFrom_30 ?_
        refine g_aastoreNA (b + 1) (by omega) (by assumption) (by decide) (by rfl) (by omega) (by omega) (by rfl) d_R_copyFrom_31 (fun w hs hn => ?_)
        have u0 := (hn (b) (by omega)).trans u0
        have u2 := (hn (b + 2) (by omega)).trans u2
        have u3 := (hn (b + 3) (by omega)).trans u3
        have u4 := (hn (b + 4) (by omega)).trans u4
        have u1 := hs
        have hfr := fun i (hi : i < b ∨ b + 4 < i) => (hn i (by omega)).trans (hfr i hi)
        have co : g_cell E w im (gad E b) _ := g_mut b (by omega) u0
        have cg : g_cell E w im (gad E (b + 1)) _ := g_mut (b + 1) (by omega) u1
        have cp : g_cell E w im (gad E (b + 2)) _ := g_mut (b + 2) (by omega) u2
        have cc : g_cell E w im (gad E (b + 3)) _ := g_mut (b + 3) (by omega) u3
        have cl : g_cell E w im (gad E (b + 4)) _ := g_mut (b + 4) (by omega) u4
        refine g_iinc_i (i := 2) rfl (by decide) rfl d_R_copyFrom_32 ?_
        refine g_goto (tgt := 2) (by decide) d_R_copyFrom_35 ?_
        exact g_cut (lv' := [(0, .ref (gad E b)), (1, .ref (gad E b2)), (2, .int (iI (k9 + 1)))]) ⟨rfl, rfl, rfl, trivial⟩ (ih (k9 + 1) w _ (by omega) (by omega) u0 u1 u2 u3 u4 hfr (fun i hi => by simp only [uI]; split <;> first | exact hr1 i (by omega) | (rename_i e; rw [e, e1])))
  refine g_enter (by decide) rfl rfl (fun h => by first | rfl | cases h) (Nat.le_of_ble_eq_true rfl) rfl ?_
  refine g_iconst_i d_R_copyFrom_0 ?_
  refine g_istore_n (n := 2) (i := 2) rfl (by decide) rfl d_R_copyFrom_1 ?_
  refine g_cut ?_ (loop1 12 0 w rg (by omega) (by omega) h0 h1 h2 h3 h4 (fun _ _ => rfl) (fun i hi => by omega))
  exact ⟨rfl, rfl, rfl, trivial⟩

