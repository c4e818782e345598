/-! ===== the reference: append, read ===== -/
theorem nzO_rng {o : Int} : 0 ≤ nzO o ∧ nzO o ≤ 1 := by unfold nzO; split <;> omega
theorem tPut_0 {t : Tx} {s : Int} (h : s = 0) : tPut t s = t := if_neg (fun h9 => h9.1 h)
theorem tPut_1 {t : Tx} {s : Int} (h : s ≠ 0) (h2 : tl t < 60) : tPut t s = tLn (tSg t (uI (ts t) (tl t) s)) (tl t + 1) := if_pos ⟨h, h2⟩

theorem c_M_append {E : gE} {w : gW} {im : gIm} {Q : gQ} {f : Nat → Int} {m : Int → Int} (hm : MR E w f m) {t : Tx} (y7 : w 67 = chE t) (y11 : f 11 = tl t) (yl : 0 ≤ tl t ∧ tl t ≤ 60) {x : Int} (rx : -2147483648 ≤ x ∧ x < 2147483648) (hQ1 : okA x ≠ true → ∀ w', MTh E w f m 1 w' → Q (oV 0) w' im) (hQ2 : okA x = true → ¬ tl t + cntO x ≤ 60 → ∀ w', MTh E w f m 2 w' → Q (oV 0) w' im) (hQ3 : okA x = true → tl t + cntO x ≤ 60 → ∀ w' f', MR E w' f' m → f' 6 = 0 → f' 11 = tl (t4A t x) → (∀ i, i ≠ 6 → i ≠ 11 → f' i = f i) → w' 67 = chE (t4A t x) → (∀ j, j ≠ 62 → j ≠ 67 → w' j = w j) → Q (oV (tl (t4A t x))) w' im) : GM E 1 y_M_append m_M_append 0 0 [.ref (gad E 62), .int (iI x)] w im Q := by
  obtain ⟨w0, hw0⟩ : ∃ w0, w0 = w := ⟨w, rfl⟩
  obtain ⟨hn, u2, u3⟩ := id hm
  have k2 : g_cell E w im (gad E 62) _ := g_mut 62 (by omega) u2
  have k3 : g_cell E w im (gad E 63) _ := g_mut 63 (by omega) u3
  refine g_enter (by decide) rfl rfl (fun h => by first | rfl | cases h) (Nat.le_of_ble_eq_true rfl) rfl ?_
  refine g_aload_n (n := 0) (i := 0) rfl rfl d_M_append_0 ?_
  refine g_iconst_i d_M_append_1 ?_
  refine g_putA 9 6 62 (by omega) u2 f_M_33 (Or.inl rfl) (by rfl) (by rfl) (Nat.le_of_ble_eq_true rfl) d_M_append_2 (fun w hs hn9 => ?_)
  have hth := hm.th (t := 0) hs hn9
  have hm0 := hm
  have hm := hth.1
  obtain ⟨hn, u2, u3⟩ := id hm
  have k2 : g_cell E w im (gad E 62) _ := g_mut 62 (by omega) u2
  have k3 : g_cell E w im (gad E 63) _ := g_mut 63 (by omega) u3
  rw [← hw0] at hn9 hQ1 hQ2 hQ3 y7
  have hn90 := hn9
  have tn24 := nzO_rng (o := oct x 24)
  have tn16 := nzO_rng (o := oct x 16)
  have tn8 := nzO_rng (o := oct x 8)
  have tn0 := nzO_rng (o := oct x 0)
  have b4 : ∀ (w1 : gW) (f1 : Nat → Int), MR E w1 f1 m → f1 11 = tl (t4A t x) → f1 6 = 0 → (∀ i, i ≠ 6 → i ≠ 11 → f1 i = f i) → w1 67 = chE (t4A t x) → (∀ j, j ≠ 62 → j ≠ 67 → w1 j = w0 j) → tl (t4A t x) = tl t + (nzO (oct x 24) + nzO (oct x 16) + nzO (oct x 8) + nzO (oct x 0)) → okA x = true → tl t + cntO x ≤ 60 → G E 1 m_M_append 85 [(0, .ref (gad E 62)), (1, .int (iI x)), (3, .int (iI (-8)))] [] w1 im 0 0 Q := by
    intro w f1 hm q11 q6 qf y7 hw hc hk hl
    have hl : tl t + (nzO (oct x 24) + nzO (oct x 16) + nzO (oct x 8) + nzO (oct x 0)) ≤ 60 := hl
    obtain ⟨hn, u2, u3⟩ := id hm
    have k2 : g_cell E w im (gad E 62) _ := g_mut 62 (by omega) u2
    have k7 : g_cell E w im (gad E 67) _ := g_mut 67 (by omega) y7
    refine g_iload_n (n := 3) (i := 3) rfl rfl d_M_append_85 ?_
    refine g_if_lt_i (tgt := 131) (by omega) d_M_append_86 (by decide) (fun h86 => ?_) (fun h => by exfalso; omega)
    refine g_aload_n (n := 0) (i := 0) rfl rfl d_M_append_131 ?_
    refine g_getfield 9 11 f_M_120 k2 (by rfl) d_M_append_132 ?_
    rw [q11]
    refine g_ireturn_i rfl d_M_append_135 ?_
    exact hQ3 hk hl _ f1 hm q6 q11 qf y7 hw
  have b3 : ∀ (w1 : gW) (f1 : Nat → Int), MR E w1 f1 m → f1 11 = tl (t3A t x) → f1 6 = 0 → (∀ i, i ≠ 6 → i ≠ 11 → f1 i = f i) → w1 67 = chE (t3A t x) → (∀ j, j ≠ 62 → j ≠ 67 → w1 j = w0 j) → tl (t3A t x) = tl t + (nzO (oct x 24) + nzO (oct x 16) + nzO (oct x 8)) → okA x = true → tl t + cntO x ≤ 60 → G E 1 m_M_append 85 [(0, .ref (gad E 62)), (1, .int (iI x)), (3, .int (iI 0))] [] w1 im 0 0 Q := by
    intro w f1 hm q11 q6 qf y7 hw hc hk hl
    have hl : tl t + (nzO (oct x 24) + nzO (oct x 16) + nzO (oct x 8) + nzO (oct x 0)) ≤ 60 := hl
    obtain ⟨hn, u2, u3⟩ := id hm
    have k2 : g_cell E w im (gad E 62) _ := g_mut 62 (by omega) u2
    have k7 : g_cell E w im (gad E 67) _ := g_mut 67 (by omega) y7
    refine g_iload_n (n := 3) (i := 3) rfl rfl d_M_append_85 ?_
    refine g_if_lt_i (tgt := 131) (by first | omega | (have := oct_rng (x := x) (s := 0); omega)) d_M_append_86 (by decide) (fun h => by exfalso; omega) (fun h86 => ?_)
    refine g_iload_n (n := 1) (i := 1) rfl rfl d_M_append_89 ?_
    refine g_iload_n (n := 3) (i := 3) rfl rfl d_M_append_90 ?_
    refine g_iushr rfl d_M_append_91 ?_
    refine g_sipush_i (by decide) d_M_append_92 ?_
    refine g_iand d_M_append_95 ?_
    rw [oct_eq]
    refine g_istore (i := 4) (by decide) rfl d_M_append_96 ?_
    refine g_iload (i := 4) rfl d_M_append_98 ?_
    refine g_if_eq_i (tgt := 125) (by first | omega | (have := oct_rng (x := x) (s := 0); omega)) d_M_append_100 (by decide) (fun h100 => ?_) (fun h100 => ?_)
    · refine g_iinc_i (i := 3) rfl (by decide) rfl d_M_append_125 ?_
      refine g_goto (tgt := 85) (by decide) d_M_append_128 ?_
      have e : t4A t x = t3A t x := tPut_0 h100
      have hn0 : nzO (oct x 0) = 0 := if_pos h100
      exact g_cut (lv' := [(0, .ref (gad E 62)), (1, .int (iI x)), (3, .int (iI (-8)))]) ⟨rfl, rfl, rfl, trivial⟩ (b4 w f1 hm (by rw [e]; exact q11) q6 qf (by rw [e]; exact y7) hw (by rw [e]; omega) hk hl)
    · refine g_aload_n (n := 0) (i := 0) rfl rfl d_M_append_103 ?_
      refine g_getfield 9 10 f_M_29 (by assumption) (by rfl) d_M_append_104 ?_
      refine g_aload_n (n := 0) (i := 0) rfl rfl d_M_append_107 ?_
      refine g_getfield 9 11 f_M_120 k2 (by rfl) d_M_append_108 ?_
      rw [q11]
      refine g_iload (i := 4) rfl d_M_append_111 ?_
      refine g_i2c_i (by first | omega | (have := oct_rng (x := x) (s := 0); omega)) d_M_append_113 ?_
      have htl : tl (t3A t x) < 60 := by
        have hn1 : nzO (oct x 0) = 1 := if_neg h100
        omega
      have hor := oct_rng (x := x) (s := 0)
      refine g_castoreA 67 (by omega) y7 (by omega) (by omega) (by omega) (by rfl) d_M_append_114 (fun w2 h2 h2n => ?_)
      have k2 : g_cell E w2 im (gad E 62) _ := g_mut 62 (by omega) ((h2n 62 (by omega)).trans u2)
      refine g_aload_n (n := 0) (i := 0) rfl rfl d_M_append_115 ?_
      refine g_dup rfl d_M_append_116 ?_
      refine g_getfield 9 11 f_M_120 k2 (by rfl) d_M_append_117 ?_
      rw [q11]
      refine g_iconst_i d_M_append_120 ?_
      refine g_iadd_i d_M_append_121 ?_
      refine g_putA 9 11 62 (by omega) ((h2n 62 (by omega)).trans u2) f_M_120 (Or.inl rfl) (by rfl) (by rfl) (Nat.le_of_ble_eq_true rfl) d_M_append_122 (fun w3 h3 h3n => ?_)
      refine g_iinc_i (i := 3) rfl (by decide) rfl d_M_append_125 ?_
      refine g_goto (tgt := 85) (by decide) d_M_append_128 ?_
      have e : t4A t x = tLn (tSg (t3A t x) (uI (ts (t3A t x)) (tl (t3A t x)) (oct x 0))) (tl (t3A t x) + 1) := tPut_1 h100 htl
      have hn1 : nzO (oct x 0) = 1 := if_neg h100
      exact g_cut (lv' := [(0, .ref (gad E 62)), (1, .int (iI x)), (3, .int (iI (-8)))]) ⟨rfl, rfl, rfl, trivial⟩ (b4 w3 (fU f1 11 (tl (t3A t x) + 1)) ⟨hn, h3, (h3n 63 (by omega)).trans ((h2n 63 (by omega)).trans u3)⟩ (by rw [e]; rfl) q6 (fun i h1 h2 => (fU_n h2).trans (qf i h1 h2)) ((h3n 67 (by omega)).trans (h2.trans (by rw [e]; rfl))) (fun j h1 h2 => (h3n j h1).trans ((h2n j h2).trans (hw j h1 h2))) (by rw [e]; show tl (t3A t x) + 1 = _; omega) hk hl)
  have b2 : ∀ (w1 : gW) (f1 : Nat → Int), MR E w1 f1 m → f1 11 = tl (t2A t x) → f1 6 = 0 → (∀ i, i ≠ 6 → i ≠ 11 → f1 i = f i) → w1 67 = chE (t2A t x) → (∀ j, j ≠ 62 → j ≠ 67 → w1 j = w0 j) → tl (t2A t x) = tl t + (nzO (oct x 24) + nzO (oct x 16)) → okA x = true → tl t + cntO x ≤ 60 → G E 1 m_M_append 85 [(0, .ref (gad E 62)), (1, .int (iI x)), (3, .int (iI 8))] [] w1 im 0 0 Q := by
    intro w f1 hm q11 q6 qf y7 hw hc hk hl
    have hl : tl t + (nzO (oct x 24) + nzO (oct x 16) + nzO (oct x 8) + nzO (oct x 0)) ≤ 60 := hl
    obtain ⟨hn, u2, u3⟩ := id hm
    have k2 : g_cell E w im (gad E 62) _ := g_mut 62 (by omega) u2
    have k7 : g_cell E w im (gad E 67) _ := g_mut 67 (by omega) y7
    refine g_iload_n (n := 3) (i := 3) rfl rfl d_M_append_85 ?_
    refine g_if_lt_i (tgt := 131) (by first | omega | (have := oct_rng (x := x) (s := 8); omega)) d_M_append_86 (by decide) (fun h => by exfalso; omega) (fun h86 => ?_)
    refine g_iload_n (n := 1) (i := 1) rfl rfl d_M_append_89 ?_
    refine g_iload_n (n := 3) (i := 3) rfl rfl d_M_append_90 ?_
    refine g_iushr rfl d_M_append_91 ?_
    refine g_sipush_i (by decide) d_M_append_92 ?_
    refine g_iand d_M_append_95 ?_
    rw [oct_eq]
    refine g_istore (i := 4) (by decide) rfl d_M_append_96 ?_
    refine g_iload (i := 4) rfl d_M_append_98 ?_
    refine g_if_eq_i (tgt := 125) (by first | omega | (have := oct_rng (x := x) (s := 8); omega)) d_M_append_100 (by decide) (fun h100 => ?_) (fun h100 => ?_)
    · refine g_iinc_i (i := 3) rfl (by decide) rfl d_M_append_125 ?_
      refine g_goto (tgt := 85) (by decide) d_M_append_128 ?_
      have e : t3A t x = t2A t x := tPut_0 h100
      have hn0 : nzO (oct x 8) = 0 := if_pos h100
      exact g_cut (lv' := [(0, .ref (gad E 62)), (1, .int (iI x)), (3, .int (iI 0))]) ⟨rfl, rfl, rfl, trivial⟩ (b3 w f1 hm (by rw [e]; exact q11) q6 qf (by rw [e]; exact y7) hw (by rw [e]; omega) hk hl)
    · refine g_aload_n (n := 0) (i := 0) rfl rfl d_M_append_103 ?_
      refine g_getfield 9 10 f_M_29 (by assumption) (by rfl) d_M_append_104 ?_
      refine g_aload_n (n := 0) (i := 0) rfl rfl d_M_append_107 ?_
      refine g_getfield 9 11 f_M_120 k2 (by rfl) d_M_append_108 ?_
      rw [q11]
      refine g_iload (i := 4) rfl d_M_append_111 ?_
      refine g_i2c_i (by first | omega | (have := oct_rng (x := x) (s := 8); omega)) d_M_append_113 ?_
      have htl : tl (t2A t x) < 60 := by
        have hn1 : nzO (oct x 8) = 1 := if_neg h100
        omega
      have hor := oct_rng (x := x) (s := 8)
      refine g_castoreA 67 (by omega) y7 (by omega) (by omega) (by omega) (by rfl) d_M_append_114 (fun w2 h2 h2n => ?_)
      have k2 : g_cell E w2 im (gad E 62) _ := g_mut 62 (by omega) ((h2n 62 (by omega)).trans u2)
      refine g_aload_n (n := 0) (i := 0) rfl rfl d_M_append_115 ?_
      refine g_dup rfl d_M_append_116 ?_
      refine g_getfield 9 11 f_M_120 k2 (by rfl) d_M_append_117 ?_
      rw [q11]
      refine g_iconst_i d_M_append_120 ?_
      refine g_iadd_i d_M_append_121 ?_
      refine g_putA 9 11 62 (by omega) ((h2n 62 (by omega)).trans u2) f_M_120 (Or.inl rfl) (by rfl) (by rfl) (Nat.le_of_ble_eq_true rfl) d_M_append_122 (fun w3 h3 h3n => ?_)
      refine g_iinc_i (i := 3) rfl (by decide) rfl d_M_append_125 ?_
      refine g_goto (tgt := 85) (by decide) d_M_append_128 ?_
      have e : t3A t x = tLn (tSg (t2A t x) (uI (ts (t2A t x)) (tl (t2A t x)) (oct x 8))) (tl (t2A t x) + 1) := tPut_1 h100 htl
      have hn1 : nzO (oct x 8) = 1 := if_neg h100
      exact g_cut (lv' := [(0, .ref (gad E 62)), (1, .int (iI x)), (3, .int (iI 0))]) ⟨rfl, rfl, rfl, trivial⟩ (b3 w3 (fU f1 11 (tl (t2A t x) + 1)) ⟨hn, h3, (h3n 63 (by omega)).trans ((h2n 63 (by omega)).trans u3)⟩ (by rw [e]; rfl) q6 (fun i h1 h2 => (fU_n h2).trans (qf i h1 h2)) ((h3n 67 (by omega)).trans (h2.trans (by rw [e]; rfl))) (fun j h1 h2 => (h3n j h1).trans ((h2n j h2).trans (hw j h1 h2))) (by rw [e]; show tl (t2A t x) + 1 = _; omega) hk hl)
  have b1 : ∀ (w1 : gW) (f1 : Nat → Int), MR E w1 f1 m → f1 11 = tl (t1A t x) → f1 6 = 0 → (∀ i, i ≠ 6 → i ≠ 11 → f1 i = f i) → w1 67 = chE (t1A t x) → (∀ j, j ≠ 62 → j ≠ 67 → w1 j = w0 j) → tl (t1A t x) = tl t + (nzO (oct x 24)) → okA x = true → tl t + cntO x ≤ 60 → G E 1 m_M_append 85 [(0, .ref (gad E 62)), (1, .int (iI x)), (3, .int (iI 16))] [] w1 im 0 0 Q := by
    intro w f1 hm q11 q6 qf y7 hw hc hk hl
    have hl : tl t + (nzO (oct x 24) + nzO (oct x 16) + nzO (oct x 8) + nzO (oct x 0)) ≤ 60 := hl
    obtain ⟨hn, u2, u3⟩ := id hm
    have k2 : g_cell E w im (gad E 62) _ := g_mut 62 (by omega) u2
    have k7 : g_cell E w im (gad E 67) _ := g_mut 67 (by omega) y7
    refine g_iload_n (n := 3) (i := 3) rfl rfl d_M_append_85 ?_
    refine g_if_lt_i (tgt := 131) (by first | omega | (have := oct_rng (x := x) (s := 16); omega)) d_M_append_86 (by decide) (fun h => by exfalso; omega) (fun h86 => ?_)
    refine g_iload_n (n := 1) (i := 1) rfl rfl d_M_append_89 ?_
    refine g_iload_n (n := 3) (i := 3) rfl rfl d_M_append_90 ?_
    refine g_iushr rfl d_M_append_91 ?_
    refine g_sipush_i (by decide) d_M_append_92 ?_
    refine g_iand d_M_append_95 ?_
    rw [oct_eq]
    refine g_istore (i := 4) (by decide) rfl d_M_append_96 ?_
    refine g_iload (i := 4) rfl d_M_append_98 ?_
    refine g_if_eq_i (tgt := 125) (by first | omega | (have := oct_rng (x := x) (s := 16); omega)) d_M_append_100 (by decide) (fun h100 => ?_) (fun h100 => ?_)
    · refine g_iinc_i (i := 3) rfl (by decide) rfl d_M_append_125 ?_
      refine g_goto (tgt := 85) (by decide) d_M_append_128 ?_
      have e : t2A t x = t1A t x := tPut_0 h100
      have hn0 : nzO (oct x 16) = 0 := if_pos h100
      exact g_cut (lv' := [(0, .ref (gad E 62)), (1, .int (iI x)), (3, .int (iI 8))]) ⟨rfl, rfl, rfl, trivial⟩ (b2 w f1 hm (by rw [e]; exact q11) q6 qf (by rw [e]; exact y7) hw (by rw [e]; omega) hk hl)
    · refine g_aload_n (n := 0) (i := 0) rfl rfl d_M_append_103 ?_
      refine g_getfield 9 10 f_M_29 (by assumption) (by rfl) d_M_append_104 ?_
      refine g_aload_n (n := 0) (i := 0) rfl rfl d_M_append_107 ?_
      refine g_getfield 9 11 f_M_120 k2 (by rfl) d_M_append_108 ?_
      rw [q11]
      refine g_iload (i := 4) rfl d_M_append_111 ?_
      refine g_i2c_i (by first | omega | (have := oct_rng (x := x) (s := 16); omega)) d_M_append_113 ?_
      have htl : tl (t1A t x) < 60 := by
        have hn1 : nzO (oct x 16) = 1 := if_neg h100
        omega
      have hor := oct_rng (x := x) (s := 16)
      refine g_castoreA 67 (by omega) y7 (by omega) (by omega) (by omega) (by rfl) d_M_append_114 (fun w2 h2 h2n => ?_)
      have k2 : g_cell E w2 im (gad E 62) _ := g_mut 62 (by omega) ((h2n 62 (by omega)).trans u2)
      refine g_aload_n (n := 0) (i := 0) rfl rfl d_M_append_115 ?_
      refine g_dup rfl d_M_append_116 ?_
      refine g_getfield 9 11 f_M_120 k2 (by rfl) d_M_append_117 ?_
      rw [q11]
      refine g_iconst_i d_M_append_120 ?_
      refine g_iadd_i d_M_append_121 ?_
      refine g_putA 9 11 62 (by omega) ((h2n 62 (by omega)).trans u2) f_M_120 (Or.inl rfl) (by rfl) (by rfl) (Nat.le_of_ble_eq_true rfl) d_M_append_122 (fun w3 h3 h3n => ?_)
      refine g_iinc_i (i := 3) rfl (by decide) rfl d_M_append_125 ?_
      refine g_goto (tgt := 85) (by decide) d_M_append_128 ?_
      have e : t2A t x = tLn (tSg (t1A t x) (uI (ts (t1A t x)) (tl (t1A t x)) (oct x 16))) (tl (t1A t x) + 1) := tPut_1 h100 htl
      have hn1 : nzO (oct x 16) = 1 := if_neg h100
      exact g_cut (lv' := [(0, .ref (gad E 62)), (1, .int (iI x)), (3, .int (iI 8))]) ⟨rfl, rfl, rfl, trivial⟩ (b2 w3 (fU f1 11 (tl (t1A t x) + 1)) ⟨hn, h3, (h3n 63 (by omega)).trans ((h2n 63 (by omega)).trans u3)⟩ (by rw [e]; rfl) q6 (fun i h1 h2 => (fU_n h2).trans (qf i h1 h2)) ((h3n 67 (by omega)).trans (h2.trans (by rw [e]; rfl))) (fun j h1 h2 => (h3n j h1).trans ((h2n j h2).trans (hw j h1 h2))) (by rw [e]; show tl (t1A t x) + 1 = _; omega) hk hl)
  have b0 : ∀ (w1 : gW) (f1 : Nat → Int), MR E w1 f1 m → f1 11 = tl (t) → f1 6 = 0 → (∀ i, i ≠ 6 → i ≠ 11 → f1 i = f i) → w1 67 = chE (t) → (∀ j, j ≠ 62 → j ≠ 67 → w1 j = w0 j) → tl (t) = tl t + (0) → okA x = true → tl t + cntO x ≤ 60 → G E 1 m_M_append 85 [(0, .ref (gad E 62)), (1, .int (iI x)), (3, .int (iI 24))] [] w1 im 0 0 Q := by
    intro w f1 hm q11 q6 qf y7 hw hc hk hl
    have hl : tl t + (nzO (oct x 24) + nzO (oct x 16) + nzO (oct x 8) + nzO (oct x 0)) ≤ 60 := hl
    obtain ⟨hn, u2, u3⟩ := id hm
    have k2 : g_cell E w im (gad E 62) _ := g_mut 62 (by omega) u2
    have k7 : g_cell E w im (gad E 67) _ := g_mut 67 (by omega) y7
    refine g_iload_n (n := 3) (i := 3) rfl rfl d_M_append_85 ?_
    refine g_if_lt_i (tgt := 131) (by first | omega | (have := oct_rng (x := x) (s := 24); omega)) d_M_append_86 (by decide) (fun h => by exfalso; omega) (fun h86 => ?_)
    refine g_iload_n (n := 1) (i := 1) rfl rfl d_M_append_89 ?_
    refine g_iload_n (n := 3) (i := 3) rfl rfl d_M_append_90 ?_
    refine g_iushr rfl d_M_append_91 ?_
    refine g_sipush_i (by decide) d_M_append_92 ?_
    refine g_iand d_M_append_95 ?_
    rw [oct_eq]
    refine g_istore (i := 4) (by decide) rfl d_M_append_96 ?_
    refine g_iload (i := 4) rfl d_M_append_98 ?_
    refine g_if_eq_i (tgt := 125) (by first | omega | (have := oct_rng (x := x) (s := 24); omega)) d_M_append_100 (by decide) (fun h100 => ?_) (fun h100 => ?_)
    · refine g_iinc_i (i := 3) rfl (by decide) rfl d_M_append_125 ?_
      refine g_goto (tgt := 85) (by decide) d_M_append_128 ?_
      have e : t1A t x = t := tPut_0 h100
      have hn0 : nzO (oct x 24) = 0 := if_pos h100
      exact g_cut (lv' := [(0, .ref (gad E 62)), (1, .int (iI x)), (3, .int (iI 16))]) ⟨rfl, rfl, rfl, trivial⟩ (b1 w f1 hm (by rw [e]; exact q11) q6 qf (by rw [e]; exact y7) hw (by rw [e]; omega) hk hl)
    · refine g_aload_n (n := 0) (i := 0) rfl rfl d_M_append_103 ?_
      refine g_getfield 9 10 f_M_29 (by assumption) (by rfl) d_M_append_104 ?_
      refine g_aload_n (n := 0) (i := 0) rfl rfl d_M_append_107 ?_
      refine g_getfield 9 11 f_M_120 k2 (by rfl) d_M_append_108 ?_
      rw [q11]
      refine g_iload (i := 4) rfl d_M_append_111 ?_
      refine g_i2c_i (by first | omega | (have := oct_rng (x := x) (s := 24); omega)) d_M_append_113 ?_
      have htl : tl (t) < 60 := by
        have hn1 : nzO (oct x 24) = 1 := if_neg h100
        omega
      have hor := oct_rng (x := x) (s := 24)
      refine g_castoreA 67 (by omega) y7 (by omega) (by omega) (by omega) (by rfl) d_M_append_114 (fun w2 h2 h2n => ?_)
      have k2 : g_cell E w2 im (gad E 62) _ := g_mut 62 (by omega) ((h2n 62 (by omega)).trans u2)
      refine g_aload_n (n := 0) (i := 0) rfl rfl d_M_append_115 ?_
      refine g_dup rfl d_M_append_116 ?_
      refine g_getfield 9 11 f_M_120 k2 (by rfl) d_M_append_117 ?_
      rw [q11]
      refine g_iconst_i d_M_append_120 ?_
      refine g_iadd_i d_M_append_121 ?_
      refine g_putA 9 11 62 (by omega) ((h2n 62 (by omega)).trans u2) f_M_120 (Or.inl rfl) (by rfl) (by rfl) (Nat.le_of_ble_eq_true rfl) d_M_append_122 (fun w3 h3 h3n => ?_)
      refine g_iinc_i (i := 3) rfl (by decide) rfl d_M_append_125 ?_
      refine g_goto (tgt := 85) (by decide) d_M_append_128 ?_
      have e : t1A t x = tLn (tSg (t) (uI (ts (t)) (tl (t)) (oct x 24))) (tl (t) + 1) := tPut_1 h100 htl
      have hn1 : nzO (oct x 24) = 1 := if_neg h100
      exact g_cut (lv' := [(0, .ref (gad E 62)), (1, .int (iI x)), (3, .int (iI 16))]) ⟨rfl, rfl, rfl, trivial⟩ (b1 w3 (fU f1 11 (tl (t) + 1)) ⟨hn, h3, (h3n 63 (by omega)).trans ((h2n 63 (by omega)).trans u3)⟩ (by rw [e]; rfl) q6 (fun i h1 h2 => (fU_n h2).trans (qf i h1 h2)) ((h3n 67 (by omega)).trans (h2.trans (by rw [e]; rfl))) (fun j h1 h2 => (h3n j h1).trans ((h2n j h2).trans (hw j h1 h2))) (by rw [e]; show tl (t) + 1 = _; omega) hk hl)
  have a4 : ∀ s9 : Int, s9 = nzO (oct x 24) + nzO (oct x 16) + nzO (oct x 8) + nzO (oct x 0) → okO (oct x 24) → okO (oct x 16) → okO (oct x 8) → okO (oct x 0) → G E 1 m_M_append 10 [(0, .ref (gad E 62)), (1, .int (iI x)), (2, .int (iI s9)), (3, .int (iI (-8)))] [] w im 0 0 Q := by
    intro s9 hs9 hk24 hk16 hk8 hk0
    have hka : okA x = true := okA_iff.2 ⟨hk24, hk16, hk8, hk0⟩
    have hct : s9 = cntO x := hs9
    refine g_iload_n (n := 3) (i := 3) rfl rfl d_M_append_10 ?_
    refine g_if_lt_i (tgt := 65) (by omega) d_M_append_11 (by decide) (fun h11 => ?_) (fun h => by exfalso; omega)
    refine g_aload_n (n := 0) (i := 0) rfl rfl d_M_append_65 ?_
    refine g_getfield 9 11 f_M_120 k2 (by rfl) d_M_append_66 ?_
    rw [hth.2.2 11 (by decide), y11]
    refine g_iload_n (n := 2) (i := 2) rfl rfl d_M_append_69 ?_
    refine g_iadd_i d_M_append_70 ?_
    refine g_bipush_i (by decide) d_M_append_71 ?_
    refine g_icmp_le_i (tgt := 82) (by omega) (by decide) d_M_append_73 (by decide) (fun h73 => ?_) (fun h73 => ?_)
    · refine g_bipush_i (by decide) d_M_append_82 ?_
      refine g_istore_n (n := 3) (i := 3) rfl (by decide) rfl d_M_append_84 ?_
      exact g_cut (lv' := [(0, .ref (gad E 62)), (1, .int (iI x)), (3, .int (iI 24))]) ⟨rfl, rfl, rfl, trivial⟩ (b0 w _ hm ((hth.2.2 11 (by decide)).trans y11) hth.2.1 (fun i h1 h2 => hth.2.2 i h1) ((hn90 67 (by omega)).trans y7) (fun j h1 h2 => hn90 j h1) (by omega) hka (by omega))
    · refine g_aload_n (n := 0) (i := 0) rfl rfl d_M_append_76 ?_
      refine g_iconst_i d_M_append_77 ?_
      refine g_callV1 rfl rfl e_M_fail l_M_52 iv_M_fail 9 (by decide) rfl (by assumption) (by decide) (Nat.zero_le _) (Nat.zero_le _) (Nat.le_of_ble_eq_true rfl) d_M_append_78 (c_M_fail hm (fun w hF => ?_))
      refine g_ret ?_
      refine g_ireturn_i rfl d_M_append_81 ?_
      exact hQ2 hka (by omega) _ (MTh.trans hth.2.2 hn9 hF)
  have a3 : ∀ s9 : Int, s9 = nzO (oct x 24) + nzO (oct x 16) + nzO (oct x 8) → okO (oct x 24) → okO (oct x 16) → okO (oct x 8) → G E 1 m_M_append 10 [(0, .ref (gad E 62)), (1, .int (iI x)), (2, .int (iI s9)), (3, .int (iI 0))] [] w im 0 0 Q := by
    intro s9 hs9 hk24 hk16 hk8
    have hor := oct_rng (x := x) (s := 0)
    refine g_iload_n (n := 3) (i := 3) rfl rfl d_M_append_10 ?_
    refine g_if_lt_i (tgt := 65) (by omega) d_M_append_11 (by decide) (fun h => by exfalso; omega) (fun h11 => ?_)
    refine g_iload_n (n := 1) (i := 1) rfl rfl d_M_append_14 ?_
    refine g_iload_n (n := 3) (i := 3) rfl rfl d_M_append_15 ?_
    refine g_iushr rfl d_M_append_16 ?_
    refine g_sipush_i (by decide) d_M_append_17 ?_
    refine g_iand d_M_append_20 ?_
    rw [oct_eq]
    refine g_istore (i := 4) (by decide) rfl d_M_append_21 ?_
    refine g_iload (i := 4) rfl d_M_append_23 ?_
    refine g_if_eq_i (tgt := 46) (by omega) d_M_append_25 (by decide) (fun h25 => ?_) (fun h25 => ?_)
    · refine g_iload_n (n := 2) (i := 2) rfl rfl d_M_append_46 ?_
      refine g_iload (i := 4) rfl d_M_append_47 ?_
      refine g_if_ne_i (tgt := 56) (by omega) d_M_append_49 (by decide) (fun h49 => ?_) (fun h49 => ?_)
      · refine g_iconst_i d_M_append_56 ?_
        refine g_iadd_i d_M_append_57 ?_
        refine g_istore_n (n := 2) (i := 2) rfl (by decide) rfl d_M_append_58 ?_
        refine g_iinc_i (i := 3) rfl (by decide) rfl d_M_append_59 ?_
        refine g_goto (tgt := 10) (by decide) d_M_append_62 ?_
        first
        | (exfalso; omega)
        | (have e : nzO (oct x 0) = 0 := if_pos h49; exact g_cut (lv' := [(0, .ref (gad E 62)), (1, .int (iI x)), (2, .int (iI _)), (3, .int (iI (-8)))]) ⟨rfl, rfl, rfl, rfl, trivial⟩ (a4 _ (by rw [hs9, e]) hk24 hk16 hk8 (Or.inl h49)))
        | (have e : nzO (oct x 0) = 1 := if_neg h49; exact g_cut (lv' := [(0, .ref (gad E 62)), (1, .int (iI x)), (2, .int (iI _)), (3, .int (iI (-8)))]) ⟨rfl, rfl, rfl, rfl, trivial⟩ (a4 _ (by rw [hs9, e]) hk24 hk16 hk8 (Or.inr hB)))
      · refine g_iconst_i d_M_append_52 ?_
        refine g_goto (tgt := 57) (by decide) d_M_append_53 ?_
        refine g_iadd_i d_M_append_57 ?_
        refine g_istore_n (n := 2) (i := 2) rfl (by decide) rfl d_M_append_58 ?_
        refine g_iinc_i (i := 3) rfl (by decide) rfl d_M_append_59 ?_
        refine g_goto (tgt := 10) (by decide) d_M_append_62 ?_
        first
        | (exfalso; omega)
        | (have e : nzO (oct x 0) = 0 := if_pos h49; exact g_cut (lv' := [(0, .ref (gad E 62)), (1, .int (iI x)), (2, .int (iI _)), (3, .int (iI (-8)))]) ⟨rfl, rfl, rfl, rfl, trivial⟩ (a4 _ (by rw [hs9, e]) hk24 hk16 hk8 (Or.inl h49)))
        | (have e : nzO (oct x 0) = 1 := if_neg h49; exact g_cut (lv' := [(0, .ref (gad E 62)), (1, .int (iI x)), (2, .int (iI _)), (3, .int (iI (-8)))]) ⟨rfl, rfl, rfl, rfl, trivial⟩ (a4 _ (by rw [hs9, e]) hk24 hk16 hk8 (Or.inr hB)))
    · refine g_iload (i := 4) rfl d_M_append_28 ?_
      refine g_bipush_i (by decide) d_M_append_30 ?_
      refine g_bipush_i (by decide) d_M_append_32 ?_
      refine g_callS3 rfl rfl e_M_isIn l_M_45 st_M_isIn (by decide) (Nat.zero_le _) (Nat.zero_le _) (Nat.le_of_ble_eq_true rfl) d_M_append_34 (c_M_isIn (by omega) (by omega) (by omega) (fun hB => ?_) (fun hB => ?_))
      · refine g_ret ?_
        refine g_if_ne_i (tgt := 46) (by decide) d_M_append_37 (by decide) (fun h37 => ?_) (fun h => absurd h (by decide))
        refine g_iload_n (n := 2) (i := 2) rfl rfl d_M_append_46 ?_
        refine g_iload (i := 4) rfl d_M_append_47 ?_
        refine g_if_ne_i (tgt := 56) (by omega) d_M_append_49 (by decide) (fun h49 => ?_) (fun h49 => ?_)
        · refine g_iconst_i d_M_append_56 ?_
          refine g_iadd_i d_M_append_57 ?_
          refine g_istore_n (n := 2) (i := 2) rfl (by decide) rfl d_M_append_58 ?_
          refine g_iinc_i (i := 3) rfl (by decide) rfl d_M_append_59 ?_
          refine g_goto (tgt := 10) (by decide) d_M_append_62 ?_
          first
          | (exfalso; omega)
          | (have e : nzO (oct x 0) = 0 := if_pos h49; exact g_cut (lv' := [(0, .ref (gad E 62)), (1, .int (iI x)), (2, .int (iI _)), (3, .int (iI (-8)))]) ⟨rfl, rfl, rfl, rfl, trivial⟩ (a4 _ (by rw [hs9, e]) hk24 hk16 hk8 (Or.inl h49)))
          | (have e : nzO (oct x 0) = 1 := if_neg h49; exact g_cut (lv' := [(0, .ref (gad E 62)), (1, .int (iI x)), (2, .int (iI _)), (3, .int (iI (-8)))]) ⟨rfl, rfl, rfl, rfl, trivial⟩ (a4 _ (by rw [hs9, e]) hk24 hk16 hk8 (Or.inr hB)))
        · refine g_iconst_i d_M_append_52 ?_
          refine g_goto (tgt := 57) (by decide) d_M_append_53 ?_
          refine g_iadd_i d_M_append_57 ?_
          refine g_istore_n (n := 2) (i := 2) rfl (by decide) rfl d_M_append_58 ?_
          refine g_iinc_i (i := 3) rfl (by decide) rfl d_M_append_59 ?_
          refine g_goto (tgt := 10) (by decide) d_M_append_62 ?_
          first
          | (exfalso; omega)
          | (have e : nzO (oct x 0) = 0 := if_pos h49; exact g_cut (lv' := [(0, .ref (gad E 62)), (1, .int (iI x)), (2, .int (iI _)), (3, .int (iI (-8)))]) ⟨rfl, rfl, rfl, rfl, trivial⟩ (a4 _ (by rw [hs9, e]) hk24 hk16 hk8 (Or.inl h49)))
          | (have e : nzO (oct x 0) = 1 := if_neg h49; exact g_cut (lv' := [(0, .ref (gad E 62)), (1, .int (iI x)), (2, .int (iI _)), (3, .int (iI (-8)))]) ⟨rfl, rfl, rfl, rfl, trivial⟩ (a4 _ (by rw [hs9, e]) hk24 hk16 hk8 (Or.inr hB)))
      · refine g_ret ?_
        refine g_if_ne_i (tgt := 46) (by decide) d_M_append_37 (by decide) (fun h => absurd h (by decide)) (fun h37 => ?_)
        refine g_aload_n (n := 0) (i := 0) rfl rfl d_M_append_40 ?_
        refine g_iconst_i d_M_append_41 ?_
        refine g_callV1 rfl rfl e_M_fail l_M_52 iv_M_fail 9 (by decide) rfl (by assumption) (by decide) (Nat.zero_le _) (Nat.zero_le _) (Nat.le_of_ble_eq_true rfl) d_M_append_42 (c_M_fail hm (fun w hF => ?_))
        refine g_ret ?_
        refine g_ireturn_i rfl d_M_append_45 ?_
        exact hQ1 (fun h => ((okA_iff.1 h).2.2.2).elim h25 hB) _ (MTh.trans hth.2.2 hn9 hF)
  have a2 : ∀ s9 : Int, s9 = nzO (oct x 24) + nzO (oct x 16) → okO (oct x 24) → okO (oct x 16) → G E 1 m_M_append 10 [(0, .ref (gad E 62)), (1, .int (iI x)), (2, .int (iI s9)), (3, .int (iI 8))] [] w im 0 0 Q := by
    intro s9 hs9 hk24 hk16
    have hor := oct_rng (x := x) (s := 8)
    refine g_iload_n (n := 3) (i := 3) rfl rfl d_M_append_10 ?_
    refine g_if_lt_i (tgt := 65) (by omega) d_M_append_11 (by decide) (fun h => by exfalso; omega) (fun h11 => ?_)
    refine g_iload_n (n := 1) (i := 1) rfl rfl d_M_append_14 ?_
    refine g_iload_n (n := 3) (i := 3) rfl rfl d_M_append_15 ?_
    refine g_iushr rfl d_M_append_16 ?_
    refine g_sipush_i (by decide) d_M_append_17 ?_
    refine g_iand d_M_append_20 ?_
    rw [oct_eq]
    refine g_istore (i := 4) (by decide) rfl d_M_append_21 ?_
    refine g_iload (i := 4) rfl d_M_append_23 ?_
    refine g_if_eq_i (tgt := 46) (by omega) d_M_append_25 (by decide) (fun h25 => ?_) (fun h25 => ?_)
    · refine g_iload_n (n := 2) (i := 2) rfl rfl d_M_append_46 ?_
      refine g_iload (i := 4) rfl d_M_append_47 ?_
      refine g_if_ne_i (tgt := 56) (by omega) d_M_append_49 (by decide) (fun h49 => ?_) (fun h49 => ?_)
      · refine g_iconst_i d_M_append_56 ?_
        refine g_iadd_i d_M_append_57 ?_
        refine g_istore_n (n := 2) (i := 2) rfl (by decide) rfl d_M_append_58 ?_
        refine g_iinc_i (i := 3) rfl (by decide) rfl d_M_append_59 ?_
        refine g_goto (tgt := 10) (by decide) d_M_append_62 ?_
        first
        | (exfalso; omega)
        | (have e : nzO (oct x 8) = 0 := if_pos h49; exact g_cut (lv' := [(0, .ref (gad E 62)), (1, .int (iI x)), (2, .int (iI _)), (3, .int (iI 0))]) ⟨rfl, rfl, rfl, rfl, trivial⟩ (a3 _ (by rw [hs9, e]) hk24 hk16 (Or.inl h49)))
        | (have e : nzO (oct x 8) = 1 := if_neg h49; exact g_cut (lv' := [(0, .ref (gad E 62)), (1, .int (iI x)), (2, .int (iI _)), (3, .int (iI 0))]) ⟨rfl, rfl, rfl, rfl, trivial⟩ (a3 _ (by rw [hs9, e]) hk24 hk16 (Or.inr hB)))
      · refine g_iconst_i d_M_append_52 ?_
        refine g_goto (tgt := 57) (by decide) d_M_append_53 ?_
        refine g_iadd_i d_M_append_57 ?_
        refine g_istore_n (n := 2) (i := 2) rfl (by decide) rfl d_M_append_58 ?_
        refine g_iinc_i (i := 3) rfl (by decide) rfl d_M_append_59 ?_
        refine g_goto (tgt := 10) (by decide) d_M_append_62 ?_
        first
        | (exfalso; omega)
        | (have e : nzO (oct x 8) = 0 := if_pos h49; exact g_cut (lv' := [(0, .ref (gad E 62)), (1, .int (iI x)), (2, .int (iI _)), (3, .int (iI 0))]) ⟨rfl, rfl, rfl, rfl, trivial⟩ (a3 _ (by rw [hs9, e]) hk24 hk16 (Or.inl h49)))
        | (have e : nzO (oct x 8) = 1 := if_neg h49; exact g_cut (lv' := [(0, .ref (gad E 62)), (1, .int (iI x)), (2, .int (iI _)), (3, .int (iI 0))]) ⟨rfl, rfl, rfl, rfl, trivial⟩ (a3 _ (by rw [hs9, e]) hk24 hk16 (Or.inr hB)))
    · refine g_iload (i := 4) rfl d_M_append_28 ?_
      refine g_bipush_i (by decide) d_M_append_30 ?_
      refine g_bipush_i (by decide) d_M_append_32 ?_
      refine g_callS3 rfl rfl e_M_isIn l_M_45 st_M_isIn (by decide) (Nat.zero_le _) (Nat.zero_le _) (Nat.le_of_ble_eq_true rfl) d_M_append_34 (c_M_isIn (by omega) (by omega) (by omega) (fun hB => ?_) (fun hB => ?_))
      · refine g_ret ?_
        refine g_if_ne_i (tgt := 46) (by decide) d_M_append_37 (by decide) (fun h37 => ?_) (fun h => absurd h (by decide))
        refine g_iload_n (n := 2) (i := 2) rfl rfl d_M_append_46 ?_
        refine g_iload (i := 4) rfl d_M_append_47 ?_
        refine g_if_ne_i (tgt := 56) (by omega) d_M_append_49 (by decide) (fun h49 => ?_) (fun h49 => ?_)
        · refine g_iconst_i d_M_append_56 ?_
          refine g_iadd_i d_M_append_57 ?_
          refine g_istore_n (n := 2) (i := 2) rfl (by decide) rfl d_M_append_58 ?_
          refine g_iinc_i (i := 3) rfl (by decide) rfl d_M_append_59 ?_
          refine g_goto (tgt := 10) (by decide) d_M_append_62 ?_
          first
          | (exfalso; omega)
          | (have e : nzO (oct x 8) = 0 := if_pos h49; exact g_cut (lv' := [(0, .ref (gad E 62)), (1, .int (iI x)), (2, .int (iI _)), (3, .int (iI 0))]) ⟨rfl, rfl, rfl, rfl, trivial⟩ (a3 _ (by rw [hs9, e]) hk24 hk16 (Or.inl h49)))
          | (have e : nzO (oct x 8) = 1 := if_neg h49; exact g_cut (lv' := [(0, .ref (gad E 62)), (1, .int (iI x)), (2, .int (iI _)), (3, .int (iI 0))]) ⟨rfl, rfl, rfl, rfl, trivial⟩ (a3 _ (by rw [hs9, e]) hk24 hk16 (Or.inr hB)))
        · refine g_iconst_i d_M_append_52 ?_
          refine g_goto (tgt := 57) (by decide) d_M_append_53 ?_
          refine g_iadd_i d_M_append_57 ?_
          refine g_istore_n (n := 2) (i := 2) rfl (by decide) rfl d_M_append_58 ?_
          refine g_iinc_i (i := 3) rfl (by decide) rfl d_M_append_59 ?_
          refine g_goto (tgt := 10) (by decide) d_M_append_62 ?_
          first
          | (exfalso; omega)
          | (have e : nzO (oct x 8) = 0 := if_pos h49; exact g_cut (lv' := [(0, .ref (gad E 62)), (1, .int (iI x)), (2, .int (iI _)), (3, .int (iI 0))]) ⟨rfl, rfl, rfl, rfl, trivial⟩ (a3 _ (by rw [hs9, e]) hk24 hk16 (Or.inl h49)))
          | (have e : nzO (oct x 8) = 1 := if_neg h49; exact g_cut (lv' := [(0, .ref (gad E 62)), (1, .int (iI x)), (2, .int (iI _)), (3, .int (iI 0))]) ⟨rfl, rfl, rfl, rfl, trivial⟩ (a3 _ (by rw [hs9, e]) hk24 hk16 (Or.inr hB)))
      · refine g_ret ?_
        refine g_if_ne_i (tgt := 46) (by decide) d_M_append_37 (by decide) (fun h => absurd h (by decide)) (fun h37 => ?_)
        refine g_aload_n (n := 0) (i := 0) rfl rfl d_M_append_40 ?_
        refine g_iconst_i d_M_append_41 ?_
        refine g_callV1 rfl rfl e_M_fail l_M_52 iv_M_fail 9 (by decide) rfl (by assumption) (by decide) (Nat.zero_le _) (Nat.zero_le _) (Nat.le_of_ble_eq_true rfl) d_M_append_42 (c_M_fail hm (fun w hF => ?_))
        refine g_ret ?_
        refine g_ireturn_i rfl d_M_append_45 ?_
        exact hQ1 (fun h => ((okA_iff.1 h).2.2.1).elim h25 hB) _ (MTh.trans hth.2.2 hn9 hF)
  have a1 : ∀ s9 : Int, s9 = nzO (oct x 24) → okO (oct x 24) → G E 1 m_M_append 10 [(0, .ref (gad E 62)), (1, .int (iI x)), (2, .int (iI s9)), (3, .int (iI 16))] [] w im 0 0 Q := by
    intro s9 hs9 hk24
    have hor := oct_rng (x := x) (s := 16)
    refine g_iload_n (n := 3) (i := 3) rfl rfl d_M_append_10 ?_
    refine g_if_lt_i (tgt := 65) (by omega) d_M_append_11 (by decide) (fun h => by exfalso; omega) (fun h11 => ?_)
    refine g_iload_n (n := 1) (i := 1) rfl rfl d_M_append_14 ?_
    refine g_iload_n (n := 3) (i := 3) rfl rfl d_M_append_15 ?_
    refine g_iushr rfl d_M_append_16 ?_
    refine g_sipush_i (by decide) d_M_append_17 ?_
    refine g_iand d_M_append_20 ?_
    rw [oct_eq]
    refine g_istore (i := 4) (by decide) rfl d_M_append_21 ?_
    refine g_iload (i := 4) rfl d_M_append_23 ?_
    refine g_if_eq_i (tgt := 46) (by omega) d_M_append_25 (by decide) (fun h25 => ?_) (fun h25 => ?_)
    · refine g_iload_n (n := 2) (i := 2) rfl rfl d_M_append_46 ?_
      refine g_iload (i := 4) rfl d_M_append_47 ?_
      refine g_if_ne_i (tgt := 56) (by omega) d_M_append_49 (by decide) (fun h49 => ?_) (fun h49 => ?_)
      · refine g_iconst_i d_M_append_56 ?_
        refine g_iadd_i d_M_append_57 ?_
        refine g_istore_n (n := 2) (i := 2) rfl (by decide) rfl d_M_append_58 ?_
        refine g_iinc_i (i := 3) rfl (by decide) rfl d_M_append_59 ?_
        refine g_goto (tgt := 10) (by decide) d_M_append_62 ?_
        first
        | (exfalso; omega)
        | (have e : nzO (oct x 16) = 0 := if_pos h49; exact g_cut (lv' := [(0, .ref (gad E 62)), (1, .int (iI x)), (2, .int (iI _)), (3, .int (iI 8))]) ⟨rfl, rfl, rfl, rfl, trivial⟩ (a2 _ (by rw [hs9, e]) hk24 (Or.inl h49)))
        | (have e : nzO (oct x 16) = 1 := if_neg h49; exact g_cut (lv' := [(0, .ref (gad E 62)), (1, .int (iI x)), (2, .int (iI _)), (3, .int (iI 8))]) ⟨rfl, rfl, rfl, rfl, trivial⟩ (a2 _ (by rw [hs9, e]) hk24 (Or.inr hB)))
      · refine g_iconst_i d_M_append_52 ?_
        refine g_goto (tgt := 57) (by decide) d_M_append_53 ?_
        refine g_iadd_i d_M_append_57 ?_
        refine g_istore_n (n := 2) (i := 2) rfl (by decide) rfl d_M_append_58 ?_
        refine g_iinc_i (i := 3) rfl (by decide) rfl d_M_append_59 ?_
        refine g_goto (tgt := 10) (by decide) d_M_append_62 ?_
        first
        | (exfalso; omega)
        | (have e : nzO (oct x 16) = 0 := if_pos h49; exact g_cut (lv' := [(0, .ref (gad E 62)), (1, .int (iI x)), (2, .int (iI _)), (3, .int (iI 8))]) ⟨rfl, rfl, rfl, rfl, trivial⟩ (a2 _ (by rw [hs9, e]) hk24 (Or.inl h49)))
        | (have e : nzO (oct x 16) = 1 := if_neg h49; exact g_cut (lv' := [(0, .ref (gad E 62)), (1, .int (iI x)), (2, .int (iI _)), (3, .int (iI 8))]) ⟨rfl, rfl, rfl, rfl, trivial⟩ (a2 _ (by rw [hs9, e]) hk24 (Or.inr hB)))
    · refine g_iload (i := 4) rfl d_M_append_28 ?_
      refine g_bipush_i (by decide) d_M_append_30 ?_
      refine g_bipush_i (by decide) d_M_append_32 ?_
      refine g_callS3 rfl rfl e_M_isIn l_M_45 st_M_isIn (by decide) (Nat.zero_le _) (Nat.zero_le _) (Nat.le_of_ble_eq_true rfl) d_M_append_34 (c_M_isIn (by omega) (by omega) (by omega) (fun hB => ?_) (fun hB => ?_))
      · refine g_ret ?_
        refine g_if_ne_i (tgt := 46) (by decide) d_M_append_37 (by decide) (fun h37 => ?_) (fun h => absurd h (by decide))
        refine g_iload_n (n := 2) (i := 2) rfl rfl d_M_append_46 ?_
        refine g_iload (i := 4) rfl d_M_append_47 ?_
        refine g_if_ne_i (tgt := 56) (by omega) d_M_append_49 (by decide) (fun h49 => ?_) (fun h49 => ?_)
        · refine g_iconst_i d_M_append_56 ?_
          refine g_iadd_i d_M_append_57 ?_
          refine g_istore_n (n := 2) (i := 2) rfl (by decide) rfl d_M_append_58 ?_
          refine g_iinc_i (i := 3) rfl (by decide) rfl d_M_append_59 ?_
          refine g_goto (tgt := 10) (by decide) d_M_append_62 ?_
          first
          | (exfalso; omega)
          | (have e : nzO (oct x 16) = 0 := if_pos h49; exact g_cut (lv' := [(0, .ref (gad E 62)), (1, .int (iI x)), (2, .int (iI _)), (3, .int (iI 8))]) ⟨rfl, rfl, rfl, rfl, trivial⟩ (a2 _ (by rw [hs9, e]) hk24 (Or.inl h49)))
          | (have e : nzO (oct x 16) = 1 := if_neg h49; exact g_cut (lv' := [(0, .ref (gad E 62)), (1, .int (iI x)), (2, .int (iI _)), (3, .int (iI 8))]) ⟨rfl, rfl, rfl, rfl, trivial⟩ (a2 _ (by rw [hs9, e]) hk24 (Or.inr hB)))
        · refine g_iconst_i d_M_append_52 ?_
          refine g_goto (tgt := 57) (by decide) d_M_append_53 ?_
          refine g_iadd_i d_M_append_57 ?_
          refine g_istore_n (n := 2) (i := 2) rfl (by decide) rfl d_M_append_58 ?_
          refine g_iinc_i (i := 3) rfl (by decide) rfl d_M_append_59 ?_
          refine g_goto (tgt := 10) (by decide) d_M_append_62 ?_
          first
          | (exfalso; omega)
          | (have e : nzO (oct x 16) = 0 := if_pos h49; exact g_cut (lv' := [(0, .ref (gad E 62)), (1, .int (iI x)), (2, .int (iI _)), (3, .int (iI 8))]) ⟨rfl, rfl, rfl, rfl, trivial⟩ (a2 _ (by rw [hs9, e]) hk24 (Or.inl h49)))
          | (have e : nzO (oct x 16) = 1 := if_neg h49; exact g_cut (lv' := [(0, .ref (gad E 62)), (1, .int (iI x)), (2, .int (iI _)), (3, .int (iI 8))]) ⟨rfl, rfl, rfl, rfl, trivial⟩ (a2 _ (by rw [hs9, e]) hk24 (Or.inr hB)))
      · refine g_ret ?_
        refine g_if_ne_i (tgt := 46) (by decide) d_M_append_37 (by decide) (fun h => absurd h (by decide)) (fun h37 => ?_)
        refine g_aload_n (n := 0) (i := 0) rfl rfl d_M_append_40 ?_
        refine g_iconst_i d_M_append_41 ?_
        refine g_callV1 rfl rfl e_M_fail l_M_52 iv_M_fail 9 (by decide) rfl (by assumption) (by decide) (Nat.zero_le _) (Nat.zero_le _) (Nat.le_of_ble_eq_true rfl) d_M_append_42 (c_M_fail hm (fun w hF => ?_))
        refine g_ret ?_
        refine g_ireturn_i rfl d_M_append_45 ?_
        exact hQ1 (fun h => ((okA_iff.1 h).2.1).elim h25 hB) _ (MTh.trans hth.2.2 hn9 hF)
  have a0 : ∀ s9 : Int, s9 = 0 → G E 1 m_M_append 10 [(0, .ref (gad E 62)), (1, .int (iI x)), (2, .int (iI s9)), (3, .int (iI 24))] [] w im 0 0 Q := by
    intro s9 hs9
    have hor := oct_rng (x := x) (s := 24)
    refine g_iload_n (n := 3) (i := 3) rfl rfl d_M_append_10 ?_
    refine g_if_lt_i (tgt := 65) (by omega) d_M_append_11 (by decide) (fun h => by exfalso; omega) (fun h11 => ?_)
    refine g_iload_n (n := 1) (i := 1) rfl rfl d_M_append_14 ?_
    refine g_iload_n (n := 3) (i := 3) rfl rfl d_M_append_15 ?_
    refine g_iushr rfl d_M_append_16 ?_
    refine g_sipush_i (by decide) d_M_append_17 ?_
    refine g_iand d_M_append_20 ?_
    rw [oct_eq]
    refine g_istore (i := 4) (by decide) rfl d_M_append_21 ?_
    refine g_iload (i := 4) rfl d_M_append_23 ?_
    refine g_if_eq_i (tgt := 46) (by omega) d_M_append_25 (by decide) (fun h25 => ?_) (fun h25 => ?_)
    · refine g_iload_n (n := 2) (i := 2) rfl rfl d_M_append_46 ?_
      refine g_iload (i := 4) rfl d_M_append_47 ?_
      refine g_if_ne_i (tgt := 56) (by omega) d_M_append_49 (by decide) (fun h49 => ?_) (fun h49 => ?_)
      · refine g_iconst_i d_M_append_56 ?_
        refine g_iadd_i d_M_append_57 ?_
        refine g_istore_n (n := 2) (i := 2) rfl (by decide) rfl d_M_append_58 ?_
        refine g_iinc_i (i := 3) rfl (by decide) rfl d_M_append_59 ?_
        refine g_goto (tgt := 10) (by decide) d_M_append_62 ?_
        first
        | (exfalso; omega)
        | (have e : nzO (oct x 24) = 0 := if_pos h49; exact g_cut (lv' := [(0, .ref (gad E 62)), (1, .int (iI x)), (2, .int (iI _)), (3, .int (iI 16))]) ⟨rfl, rfl, rfl, rfl, trivial⟩ (a1 _ (by rw [hs9, e]; rfl) (Or.inl h49)))
        | (have e : nzO (oct x 24) = 1 := if_neg h49; exact g_cut (lv' := [(0, .ref (gad E 62)), (1, .int (iI x)), (2, .int (iI _)), (3, .int (iI 16))]) ⟨rfl, rfl, rfl, rfl, trivial⟩ (a1 _ (by rw [hs9, e]; rfl) (Or.inr hB)))
      · refine g_iconst_i d_M_append_52 ?_
        refine g_goto (tgt := 57) (by decide) d_M_append_53 ?_
        refine g_iadd_i d_M_append_57 ?_
        refine g_istore_n (n := 2) (i := 2) rfl (by decide) rfl d_M_append_58 ?_
        refine g_iinc_i (i := 3) rfl (by decide) rfl d_M_append_59 ?_
        refine g_goto (tgt := 10) (by decide) d_M_append_62 ?_
        first
        | (exfalso; omega)
        | (have e : nzO (oct x 24) = 0 := if_pos h49; exact g_cut (lv' := [(0, .ref (gad E 62)), (1, .int (iI x)), (2, .int (iI _)), (3, .int (iI 16))]) ⟨rfl, rfl, rfl, rfl, trivial⟩ (a1 _ (by rw [hs9, e]; rfl) (Or.inl h49)))
        | (have e : nzO (oct x 24) = 1 := if_neg h49; exact g_cut (lv' := [(0, .ref (gad E 62)), (1, .int (iI x)), (2, .int (iI _)), (3, .int (iI 16))]) ⟨rfl, rfl, rfl, rfl, trivial⟩ (a1 _ (by rw [hs9, e]; rfl) (Or.inr hB)))
    · refine g_iload (i := 4) rfl d_M_append_28 ?_
      refine g_bipush_i (by decide) d_M_append_30 ?_
      refine g_bipush_i (by decide) d_M_append_32 ?_
      refine g_callS3 rfl rfl e_M_isIn l_M_45 st_M_isIn (by decide) (Nat.zero_le _) (Nat.zero_le _) (Nat.le_of_ble_eq_true rfl) d_M_append_34 (c_M_isIn (by omega) (by omega) (by omega) (fun hB => ?_) (fun hB => ?_))
      · refine g_ret ?_
        refine g_if_ne_i (tgt := 46) (by decide) d_M_append_37 (by decide) (fun h37 => ?_) (fun h => absurd h (by decide))
        refine g_iload_n (n := 2) (i := 2) rfl rfl d_M_append_46 ?_
        refine g_iload (i := 4) rfl d_M_append_47 ?_
        refine g_if_ne_i (tgt := 56) (by omega) d_M_append_49 (by decide) (fun h49 => ?_) (fun h49 => ?_)
        · refine g_iconst_i d_M_append_56 ?_
          refine g_iadd_i d_M_append_57 ?_
          refine g_istore_n (n := 2) (i := 2) rfl (by decide) rfl d_M_append_58 ?_
          refine g_iinc_i (i := 3) rfl (by decide) rfl d_M_append_59 ?_
          refine g_goto (tgt := 10) (by decide) d_M_append_62 ?_
          first
          | (exfalso; omega)
          | (have e : nzO (oct x 24) = 0 := if_pos h49; exact g_cut (lv' := [(0, .ref (gad E 62)), (1, .int (iI x)), (2, .int (iI _)), (3, .int (iI 16))]) ⟨rfl, rfl, rfl, rfl, trivial⟩ (a1 _ (by rw [hs9, e]; rfl) (Or.inl h49)))
          | (have e : nzO (oct x 24) = 1 := if_neg h49; exact g_cut (lv' := [(0, .ref (gad E 62)), (1, .int (iI x)), (2, .int (iI _)), (3, .int (iI 16))]) ⟨rfl, rfl, rfl, rfl, trivial⟩ (a1 _ (by rw [hs9, e]; rfl) (Or.inr hB)))
        · refine g_iconst_i d_M_append_52 ?_
          refine g_goto (tgt := 57) (by decide) d_M_append_53 ?_
          refine g_iadd_i d_M_append_57 ?_
          refine g_istore_n (n := 2) (i := 2) rfl (by decide) rfl d_M_append_58 ?_
          refine g_iinc_i (i := 3) rfl (by decide) rfl d_M_append_59 ?_
          refine g_goto (tgt := 10) (by decide) d_M_append_62 ?_
          first
          | (exfalso; omega)
          | (have e : nzO (oct x 24) = 0 := if_pos h49; exact g_cut (lv' := [(0, .ref (gad E 62)), (1, .int (iI x)), (2, .int (iI _)), (3, .int (iI 16))]) ⟨rfl, rfl, rfl, rfl, trivial⟩ (a1 _ (by rw [hs9, e]; rfl) (Or.inl h49)))
          | (have e : nzO (oct x 24) = 1 := if_neg h49; exact g_cut (lv' := [(0, .ref (gad E 62)), (1, .int (iI x)), (2, .int (iI _)), (3, .int (iI 16))]) ⟨rfl, rfl, rfl, rfl, trivial⟩ (a1 _ (by rw [hs9, e]; rfl) (Or.inr hB)))
      · refine g_ret ?_
        refine g_if_ne_i (tgt := 46) (by decide) d_M_append_37 (by decide) (fun h => absurd h (by decide)) (fun h37 => ?_)
        refine g_aload_n (n := 0) (i := 0) rfl rfl d_M_append_40 ?_
        refine g_iconst_i d_M_append_41 ?_
        refine g_callV1 rfl rfl e_M_fail l_M_52 iv_M_fail 9 (by decide) rfl (by assumption) (by decide) (Nat.zero_le _) (Nat.zero_le _) (Nat.le_of_ble_eq_true rfl) d_M_append_42 (c_M_fail hm (fun w hF => ?_))
        refine g_ret ?_
        refine g_ireturn_i rfl d_M_append_45 ?_
        exact hQ1 (fun h => ((okA_iff.1 h).1).elim h25 hB) _ (MTh.trans hth.2.2 hn9 hF)
  
  refine g_iconst_i d_M_append_5 ?_
  refine g_istore_n (n := 2) (i := 2) rfl (by decide) rfl d_M_append_6 ?_
  refine g_bipush_i (by decide) d_M_append_7 ?_
  refine g_istore_n (n := 3) (i := 3) rfl (by decide) rfl d_M_append_9 ?_
  refine g_cut ?_ (a0 0 rfl)
  exact ⟨rfl, rfl, rfl, rfl, trivial⟩

