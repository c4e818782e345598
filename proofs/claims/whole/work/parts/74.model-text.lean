/-! ===== the reference: it carries a text out ===== -/
def eqT (t u : Tx) : Prop := tl t = tl u ∧ tp t = tp u ∧ ts t = ts u
theorem eqT.esg {t u : Tx} (h : eqT t u) : sg t = sg u := by
  unfold sg
  rw [h.1, h.2.1, h.2.2]
theorem eqT.edg {t u : Tx} (h : eqT t u) : dgB t = dgB u := by
  have e := h.esg
  unfold dgB
  rw [e]
theorem eqT.sk {t u : Tx} (h : eqT t u) : eqT (tSk t) (tSk u) := ⟨h.1, (by show tp t + 1 = tp u + 1; rw [h.2.1]), h.2.2⟩
theorem eqT.dg {t u : Tx} (h : eqT t u) : eqT (tDg t) (tDg u) := ⟨h.1, (by show tp t + 1 = tp u + 1; rw [h.2.1]), h.2.2⟩
theorem eqT.more {n : Nat} {t u : Tx} (h : eqT t u) (hn : tn t = tn u) : eqT (rdMore n t) (rdMore n u) := by
  induction n generalizing t u with
  | zero => exact h
  | succ n ih =>
    rw [rdMore, rdMore, hn, h.edg]
    by_cases e : 0 < tn u ∧ _root_.Jvm.Pilot.CSkiPassesLaw_law_r3279_8b48e5.dgB u = true
    · rw [if_pos e, if_pos e]
      exact ih h.dg (by show tn t * 10 + _ - 48 = tn u * 10 + _ - 48; rw [hn, h.esg])
    · rw [if_neg e, if_neg e]; exact h
theorem eqT_order {t u : Tx} (h : eqT t u) : (rdOrder t).1 = (rdOrder u).1 ∧ eqT (rdOrder t).2 (rdOrder u).2 := by
  unfold rdOrder
  rw [h.esg]
  by_cases e1 : sg u = 115
  · rw [if_pos e1, if_pos e1]
    have h1 : eqT (tTm (tNm (tSk (tLt t (sg u))) 0) 1) (tTm (tNm (tSk (tLt u (sg u))) 0) 1) := h.sk
    unfold rdSale
    rw [h1.edg]
    by_cases d : dgB (tTm (tNm (tSk (tLt u (sg u))) 0) 1) = true
    · rw [if_pos d, if_pos d]
      have h2 := h1.dg
      rw [h2.esg]
      by_cases s : sg (tDg (tTm (tNm (tSk (tLt u (sg u))) 0) 1)) = 42
      · rw [if_pos s, if_pos s]
        have h3 : eqT (tNm (tSk (tDg (tTm (tNm (tSk (tLt t (sg u))) 0) 1))) 0) (tNm (tSk (tDg (tTm (tNm (tSk (tLt u (sg u))) 0) 1))) 0) := h2.sk
        rw [h3.edg]
        by_cases d2 : dgB (tNm (tSk (tDg (tTm (tNm (tSk (tLt u (sg u))) 0) 1))) 0) = true
        · rw [if_pos d2, if_pos d2]; exact ⟨rfl, h3.dg⟩
        · rw [if_neg d2, if_neg d2]; exact ⟨rfl, h3⟩
      · rw [if_neg s, if_neg s]; exact ⟨rfl, h2⟩
    · rw [if_neg d, if_neg d]; exact ⟨rfl, h1⟩
  · rw [if_neg e1, if_neg e1]
    by_cases nl : numLB (sg u) = true
    · rw [if_pos nl, if_pos nl]
      have h1 : eqT (tNm (tSk (tLt t (sg u))) 0) (tNm (tSk (tLt u (sg u))) 0) := h.sk
      unfold rdNum
      rw [h1.edg]
      by_cases d : dgB (tNm (tSk (tLt u (sg u))) 0) = true
      · rw [if_pos d, if_pos d]
        exact ⟨rfl, h1.dg.more (by show (0 : Int) * 10 + _ - 48 = 0 * 10 + _ - 48; rw [h1.esg])⟩
      · rw [if_neg d, if_neg d]; exact ⟨rfl, h1⟩
    · rw [if_neg nl, if_neg nl]; exact ⟨rfl, h⟩
theorem p10 (n : Nat) : (1 : Int) ≤ 10 ^ n := by
  induction n with
  | zero => decide
  | succ n ih => rw [Int.pow_succ]; omega
theorem rdMore_tn {n : Nat} {t : Tx} {c : Int} (h0 : 0 ≤ tn t) (h : tn t + 1 ≤ c) : 0 ≤ tn (rdMore n t) ∧ tn (rdMore n t) + 1 ≤ c * 10 ^ n := by
  induction n generalizing t c with
  | zero => exact ⟨h0, by rw [Int.pow_zero, Int.mul_one]; exact h⟩
  | succ n ih =>
    rw [rdMore]
    split
    · rename_i hd
      have h9 := dgB_iff.1 hd.2
      have := ih (t := tDg t) (c := c * 10) (show 0 ≤ tn t * 10 + sg t - 48 by omega) (show tn t * 10 + sg t - 48 + 1 ≤ c * 10 by omega)
      rw [Int.mul_assoc, show (10 : Int) * 10 ^ n = 10 ^ (n + 1) by rw [Int.pow_succ, Int.mul_comm]] at this
      exact this
    · refine ⟨h0, Int.le_trans h ?_⟩
      have h1 : (1 : Int) ≤ 10 ^ (n + 1) := p10 (n + 1)
      have h2 : c * 1 ≤ c * 10 ^ (n + 1) := Int.mul_le_mul_of_nonneg_left h1 (by omega)
      omega
theorem rdOrder_vals {t : Tx} (h : (rdOrder t).1 = true) : (tc (rdOrder t).2 = 115 ∨ numLB (tc (rdOrder t).2) = true) ∧ (0 ≤ tn (rdOrder t).2 ∧ tn (rdOrder t).2 ≤ 99999) ∧ (tc (rdOrder t).2 = 115 → 0 ≤ tt (rdOrder t).2 ∧ tt (rdOrder t).2 ≤ 9) := by
  unfold rdOrder at h ⊢
  by_cases e : sg t = 115
  · rw [if_pos e] at h ⊢
    unfold rdSale at h ⊢
    by_cases d1 : dgB (tTm (tNm (tSk (tLt t (sg t))) 0) 1) = true
    · rw [if_pos d1] at h ⊢
      have g1 := dgB_iff.1 d1
      by_cases s : sg (tDg (tTm (tNm (tSk (tLt t (sg t))) 0) 1)) = 42
      · rw [if_pos s] at h ⊢
        by_cases d2 : dgB (tNm (tSk (tDg (tTm (tNm (tSk (tLt t (sg t))) 0) 1))) 0) = true
        · rw [if_pos d2] at h ⊢
          have g2 := dgB_iff.1 d2
          exact ⟨Or.inl e, show 0 ≤ 0 * 10 + sg (tTm (tNm (tSk (tLt t (sg t))) 0) 1) - 48 ∧ 0 * 10 + sg (tTm (tNm (tSk (tLt t (sg t))) 0) 1) - 48 ≤ 99999 by omega, fun _ => show 0 ≤ 0 * 10 + sg (tNm (tSk (tDg (tTm (tNm (tSk (tLt t (sg t))) 0) 1))) 0) - 48 ∧ 0 * 10 + sg (tNm (tSk (tDg (tTm (tNm (tSk (tLt t (sg t))) 0) 1))) 0) - 48 ≤ 9 by omega⟩
        · rw [if_neg d2] at h; cases h
      · rw [if_neg s] at h ⊢
        exact ⟨Or.inl e, show 0 ≤ 0 * 10 + sg (tTm (tNm (tSk (tLt t (sg t))) 0) 1) - 48 ∧ 0 * 10 + sg (tTm (tNm (tSk (tLt t (sg t))) 0) 1) - 48 ≤ 99999 by omega, fun _ => show (0 : Int) ≤ 1 ∧ (1 : Int) ≤ 9 by omega⟩
    · rw [if_neg d1] at h; cases h
  · rw [if_neg e] at h ⊢
    by_cases nl : numLB (sg t) = true
    · rw [if_pos nl] at h ⊢
      unfold rdNum at h ⊢
      by_cases d : dgB (tNm (tSk (tLt t (sg t))) 0) = true
      · rw [if_pos d] at h ⊢
        have g1 := dgB_iff.1 d
        have hm := rdMore_tn (n := 3) (t := tDg (tNm (tSk (tLt t (sg t))) 0)) (c := 10) (show 0 ≤ 0 * 10 + sg (tNm (tSk (tLt t (sg t))) 0) - 48 by omega) (show 0 * 10 + sg (tNm (tSk (tLt t (sg t))) 0) - 48 + 1 ≤ 10 by omega)
        have hc : tc (rdMore 3 (tDg (tNm (tSk (tLt t (sg t))) 0))) = sg t := rdMore_tc
        refine ⟨Or.inr (by show numLB (tc (rdMore 3 (tDg (tNm (tSk (tLt t (sg t))) 0)))) = true; rw [hc]; exact nl), ?_, fun h9 => absurd (hc.symm.trans h9) e⟩
        show 0 ≤ tn (rdMore 3 (tDg (tNm (tSk (tLt t (sg t))) 0))) ∧ tn (rdMore 3 (tDg (tNm (tSk (tLt t (sg t))) 0))) ≤ 99999
        rw [show (10 : Int) * 10 ^ 3 = 10000 by decide] at hm
        omega
      · rw [if_neg d] at h; cases h
    · rw [if_neg nl] at h; cases h
theorem ord_t {R : Rz} {l n t t' : Int} (h : l ≠ 115) : ordZ R l n t = ordZ R l n t' := by
  unfold ordZ
  rw [if_neg h, if_neg h]
theorem rdAll_to {n : Nat} {t tE : Tx} (h : rdAll n t = (-1, tE)) (h0 : 0 ≤ tp t ∧ tp t ≤ tl t) : to' t < to' tE := by
  induction n generalizing t with
  | zero =>
    rw [rdAll] at h
    have := congrArg Prod.fst h
    simp only [] at this
    omega
  | succ n ih =>
    rw [rdAll] at h
    have hpr := rdOrder_pr h0
    have hor := rdOrder_or (t := t)
    by_cases hR : (rdOrder t).1 = true
    · rw [if_pos hR] at h
      by_cases hs : sg (tOr (rdOrder t).2 (to' (rdOrder t).2 + 1)) = 59
      · rw [if_pos hs] at h
        have hlt : tp (rdOrder t).2 < tl (rdOrder t).2 := by
          by_cases h9 : tp (rdOrder t).2 < tl (rdOrder t).2
          · exact h9
          · exact absurd hs (by rw [show sg (tOr (rdOrder t).2 (to' (rdOrder t).2 + 1)) = 0 from if_neg h9]; decide)
        have := ih h (show 0 ≤ tp (rdOrder t).2 + 1 ∧ tp (rdOrder t).2 + 1 ≤ tl (rdOrder t).2 by omega)
        have e : to' (tSk (tOr (rdOrder t).2 (to' (rdOrder t).2 + 1))) = to' (rdOrder t).2 + 1 := rfl
        omega
      · rw [if_neg hs] at h
        have := congrArg (fun x : Int × Tx => to' x.2) h
        have e : to' (tOr (rdOrder t).2 (to' (rdOrder t).2 + 1)) = to' (rdOrder t).2 + 1 := rfl
        simp only [] at this
        omega
    · rw [if_neg hR] at h
      have := congrArg Prod.fst h
      simp only [] at this
      omega
theorem MT.ms {E : gE} {w w' : gW} {f : Nat → Int} {m m' : Int → Int} {t : Tx} (h : MT E w f m t) (hS : MS E w f m' w') : MT E w' f m' t := ⟨hS.1, (hS.2 67 (by decide)).trans h.2.1, h.2.2⟩

theorem c_M_orders1 {E : gE} {w : gW} {im : gIm} {Q : gQ} {f : Nat → Int} {m : Int → Int} (hm : MR E w f m) (ok : okM m) {R : Rz} (h : MZ m R) (oz : okZ R) {t tE : Tx} (y7 : w 67 = chE t) (y12 : f 12 = tl t) (yp0 : tp t = 0) (yo : to' t = 0) (yl : 0 ≤ tl t ∧ tl t ≤ 60) (ys : ∀ j, 0 ≤ j ∧ j < 60 → 0 ≤ ts t j ∧ ts t j ≤ 255) (yA : rdAll 60 t = (-1, tE)) (yE : tl tE = tl t ∧ ts tE = ts t) (hQ1 : (frO (to' tE).toNat 0 (tP tE 0) R).1 = -1 → ∀ w' f' m' v, 0 ≤ v → v ≤ 100 → MR E w' f' m' → okM m' → MZ m' (frO (to' tE).toNat 0 (tP tE 0) R).2.2 → m' 4 = m 4 → (∀ i, i < 13 → f' i = f i) → (∀ j, j ≠ 62 → j ≠ 63 → w' j = w j) → Q (oV v) w' im) (hQ2 : (frO (to' tE).toNat 0 (tP tE 0) R).1 ≠ -1 → (0 ≤ (frO (to' tE).toNat 0 (tP tE 0) R).1 ∧ (frO (to' tE).toNat 0 (tP tE 0) R).1 ≤ 60) → ∀ w' f' m', MR E w' f' m' → outZ m' → (∀ i, i < 13 → f' i = f i) → (∀ j, j ≠ 62 → j ≠ 63 → w' j = w j) → Q (oV ((frO (to' tE).toNat 0 (tP tE 0) R).1 - 1000)) w' im) : GM E 5 y_M_orders m_M_orders 0 0 [.ref (gad E 62), .int (iI 1)] w im Q := by
  have loop : ∀ (n9 : Nat) (k9 : Int) (t1 u1 : Tx) (R1 : Rz) (w1 : gW) (f1 : Nat → Int) (m1 : Int → Int), 0 ≤ k9 → k9 + n9 = 60 → MT E w1 f1 m1 u1 → f1 14 = 0 → okM m1 → MZ m1 R1 → okZ R1 → m1 4 = m 4 → eqT t1 u1 → to' t1 = k9 → rdAll n9 t1 = (-1, tE) → frO (to' tE - k9).toNat k9 u1 R1 = frO (to' tE).toNat 0 (tP tE 0) R → (∀ i, i < 13 → f1 i = f i) → (∀ j, j ≠ 62 → j ≠ 63 → w1 j = w j) → G E 5 m_M_orders 14 [(0, .ref (gad E 62)), (1, .int (iI 1)), (2, .int (iI k9)), (3, .int (iI 1))] [] w1 im 0 0 Q := by
    intro n9
    induction n9 with
    | zero =>
      intro k9 t1 u1 R1 w f1 m1 h9 hk ht1 p14 ok1 hz1 oz1 e41 heq hto he hfn hf hw
      exfalso
      rw [rdAll] at he
      have he1 := congrArg Prod.fst he
      simp only [] at he1
      have := ht1.2.2.2.2.2.1
      have := heq.2.1
      omega
    | succ n9 ih =>
      intro k9 t1 u1 R1 w f1 m1 h9 hk ht1 p14 ok1 hz1 oz1 e41 heq hto he hfn hf hw
      have hn := ht1.1.1
      have k2 : g_cell E w im (gad E 62) _ := g_mut 62 (by omega) ht1.1.2.1
      have hup := ht1.2.2.2.2.2.1
      have htp : 0 ≤ tp t1 ∧ tp t1 ≤ tl t1 := by rw [heq.1, heq.2.1]; exact hup
      have heq2 := eqT_order heq
      have hlt9 := rdAll_to he htp
      have hro1 := rdOrder_or (t := t1)
      have hpr1 := rdOrder_pr htp
      have hRt : (rdOrder t1).1 = true := by
        by_cases h8 : (rdOrder t1).1 = true
        · exact h8
        · rw [rdAll, if_neg h8] at he
          have he1 := congrArg Prod.fst he
          simp only [] at he1
          omega
      have hRu : (rdOrder u1).1 = true := heq2.1 ▸ hRt
      refine g_iload_n (n := 3) (i := 3) rfl rfl d_M_orders_14 ?_
      refine g_if_eq_i (tgt := 79) (by decide) d_M_orders_15 (by decide) (fun h => absurd h (by decide)) (fun h15 => ?_)
      refine g_aload_n (n := 0) (i := 0) rfl rfl d_M_orders_18 ?_
      refine g_callV0 rfl rfl e_M_readsOrder l_M_239 iv_M_readsOrder 9 (by decide) rfl (by assumption) (by decide) (Nat.zero_le _) (Nat.zero_le _) (Nat.le_of_ble_eq_true rfl) d_M_orders_19 (c_M_readsOrder (hQ2 := fun hR2 => absurd (hRu.symm.trans hR2) Bool.noConfusion) ht1 p14 (fun hR w f2 hm2 q14 q13 q15 q16 q17 qf hw2 => ?_))
      refine g_retv ?_
      have hro := rdOrder_or (t := u1)
      have hrl := rdOrder_lt hR
      have ht2 : MT E w f2 m1 (rdOrder u1).2 := ht1.mk hm2 hw2 (qf 12 (by omega)) q13 hro.2.1 hro.2.2 (by rw [hro.2.1]; omega)
      have hb2 : (0 ≤ tl (rdOrder u1).2 ∧ tl (rdOrder u1).2 ≤ 60) ∧ (0 ≤ tp (rdOrder u1).2 ∧ tp (rdOrder u1).2 ≤ tl (rdOrder u1).2) := ⟨ht2.2.2.2.2.1, ht2.2.2.2.2.2.1⟩
      have hn := hm2.1
      have k2 : g_cell E w im (gad E 62) _ := g_mut 62 (by omega) hm2.2.1
      have hv := rdOrder_vals hR
      have hO : ordZ R1 (f2 15) (f2 16) (f2 17) = ordZ R1 (tc (rdOrder u1).2) (tn (rdOrder u1).2) (tt (rdOrder u1).2) := by
        rw [q15, q16]
        by_cases h115 : tc (rdOrder u1).2 = 115
        · rw [q17 h115]
        · exact ord_t h115
      refine g_aload_n (n := 0) (i := 0) rfl rfl d_M_orders_22 ?_
      refine g_getfield 9 14 f_M_202 k2 (by rfl) d_M_orders_23 ?_
      rw [q14]
      refine g_if_ne_i (tgt := 46) (by decide) d_M_orders_26 (by decide) (fun h => absurd h (by decide)) (fun h26 => ?_)
      refine g_iload_n (n := 1) (i := 1) rfl rfl d_M_orders_29 ?_
      refine g_if_eq_i (tgt := 46) (by decide) d_M_orders_30 (by decide) (fun h => absurd h (by decide)) (fun h30 => ?_)
      refine g_aload_n (n := 0) (i := 0) rfl rfl d_M_orders_33 ?_
      refine g_callV0 rfl rfl e_M_carriesOut l_M_242 iv_M_carriesOut 9 (by decide) rfl (by assumption) (by decide) (Nat.zero_le _) (Nat.zero_le _) (Nat.le_of_ble_eq_true rfl) d_M_orders_34 (c_M_carriesOut hm2 ok1 hz1 oz1 (by rw [q15]; exact hv.1) (by rw [q16]; exact hv.2.1) (fun h => by rw [q17 (q15.symm.trans h)]; exact hv.2.2 (q15.symm.trans h)) (fun hC w m3 hS ok3 h3 e43 => ?_) (fun hC w m3 hS o3 => ?_))
      · refine g_ret ?_
        rw [hO] at hC h3
        have ht3 := ht2.ms hS
        have hm3 := hS.1
        have k2 : g_cell E w im (gad E 62) _ := g_mut 62 (by omega) hm3.2.1
        have oz3 : okZ (ordZ R1 (tc (rdOrder u1).2) (tn (rdOrder u1).2) (tt (rdOrder u1).2)).2 := okZ_ord oz1 hv.2.1.1 (fun h9 => (hv.2.2 h9).1)
        have hfr := hfn
        rw [show (to' tE - k9).toNat = (to' tE - (k9 + 1)).toNat + 1 by omega, frO, if_pos hR, if_pos hC] at hfr
        refine g_if_ne_i (tgt := 46) (by decide) d_M_orders_37 (by decide) (fun h37 => ?_) (fun h => absurd h (by decide))
        refine g_iinc_i (i := 2) rfl (by decide) rfl d_M_orders_46 ?_
        refine g_aload_n (n := 0) (i := 0) rfl rfl d_M_orders_49 ?_
        refine g_bipush_i (by decide) d_M_orders_50 ?_
        refine g_bipush_i (by decide) d_M_orders_52 ?_
        refine g_callV2 rfl rfl e_M_isAt l_M_212 iv_M_isAt 9 (by decide) rfl (by assumption) (by decide) (Nat.zero_le _) (Nat.zero_le _) (Nat.le_of_ble_eq_true rfl) d_M_orders_54 (c_M_isAt ht3 (by omega) (by omega) (by omega) (fun hI4 hI => ?_) (fun hI => ?_))
        · refine g_ret ?_
          refine g_istore_n (n := 3) (i := 3) rfl (by decide) rfl d_M_orders_57 ?_
          refine g_aload_n (n := 0) (i := 0) rfl rfl d_M_orders_58 ?_
          refine g_dup rfl d_M_orders_59 ?_
          refine g_getfield 9 13 f_M_206 k2 (by rfl) d_M_orders_60 ?_
          rw [q13]
          refine g_iload_n (n := 3) (i := 3) rfl rfl d_M_orders_63 ?_
          refine g_if_eq_i (tgt := 71) (by decide) d_M_orders_64 (by decide) (fun h => absurd h (by decide)) (fun h64 => ?_)
          refine g_iconst_i d_M_orders_67 ?_
          refine g_goto (tgt := 72) (by decide) d_M_orders_68 ?_
          refine g_iadd_i d_M_orders_72 ?_
          refine g_putA 9 13 62 (by omega) hm3.2.1 f_M_206 (Or.inl rfl) (by rfl) (by rfl) (Nat.le_of_ble_eq_true rfl) d_M_orders_73 (fun w h4 h4n => ?_)
          have k2 : g_cell E w im (gad E 62) _ := g_mut 62 (by omega) h4
          have hm4 : MR E w (fU f2 13 (((tp (rdOrder u1).2) + 1))) m3 := ⟨hn, h4, (h4n 63 (by omega)).trans hm3.2.2⟩
          refine g_goto (tgt := 14) (by decide) d_M_orders_76 ?_
          have hlt2 : tp (rdOrder u1).2 < tl (rdOrder u1).2 := by
            by_cases h9 : tp (rdOrder u1).2 < tl (rdOrder u1).2
            · exact h9
            · rw [show sg (rdOrder u1).2 = 0 from if_neg h9] at hI; omega
          have h59 : sg (rdOrder u1).2 = 59 := by omega
          rw [if_pos h59] at hfr
          have hst : sg (tOr (rdOrder t1).2 (to' (rdOrder t1).2 + 1)) = 59 := (show sg (tOr (rdOrder t1).2 (to' (rdOrder t1).2 + 1)) = sg (rdOrder t1).2 from rfl).trans (heq2.2.esg.trans h59)
          exact g_cut (lv' := [(0, .ref (gad E 62)), (1, .int (iI 1)), (2, .int (iI (k9 + 1))), (3, .int (iI 1))]) ⟨rfl, rfl, rfl, rfl, trivial⟩ (ih (k9 + 1) (tSk (tOr (rdOrder t1).2 (to' (rdOrder t1).2 + 1))) (tSk (rdOrder u1).2) _ w (fU f2 13 (tp (rdOrder u1).2 + 1)) m3 (by omega) (by omega) (ht3.mk hm4 h4n rfl rfl rfl rfl (show 0 ≤ tp (rdOrder u1).2 + 1 ∧ tp (rdOrder u1).2 + 1 ≤ tl (rdOrder u1).2 by omega)) q14 ok3 h3 oz3 (e43.trans e41) (show eqT (tSk (rdOrder t1).2) (tSk (rdOrder u1).2) from heq2.2.sk) (show to' (rdOrder t1).2 + 1 = k9 + 1 by omega) (by rw [rdAll, if_pos hRt, if_pos hst] at he; exact he) hfr (fun i hi => (fU_n (by omega)).trans ((qf i hi).trans (hf i hi))) (fun j h1 h2 => (h4n j h1).trans ((hS.2 j h2).trans ((hw2 j h1).trans (hw j h1 h2)))))
        · refine g_ret ?_
          refine g_istore_n (n := 3) (i := 3) rfl (by decide) rfl d_M_orders_57 ?_
          refine g_aload_n (n := 0) (i := 0) rfl rfl d_M_orders_58 ?_
          refine g_dup rfl d_M_orders_59 ?_
          refine g_getfield 9 13 f_M_206 k2 (by rfl) d_M_orders_60 ?_
          rw [q13]
          refine g_iload_n (n := 3) (i := 3) rfl rfl d_M_orders_63 ?_
          refine g_if_eq_i (tgt := 71) (by decide) d_M_orders_64 (by decide) (fun h64 => ?_) (fun h => absurd h (by decide))
          refine g_iconst_i d_M_orders_71 ?_
          refine g_iadd_i d_M_orders_72 ?_
          refine g_putA 9 13 62 (by omega) hm3.2.1 f_M_206 (Or.inl rfl) (by rfl) (by rfl) (Nat.le_of_ble_eq_true rfl) d_M_orders_73 (fun w h4 h4n => ?_)
          have k2 : g_cell E w im (gad E 62) _ := g_mut 62 (by omega) h4
          have hm4 : MR E w (fU f2 13 (((tp (rdOrder u1).2) + 0))) m3 := ⟨hn, h4, (h4n 63 (by omega)).trans hm3.2.2⟩
          refine g_goto (tgt := 14) (by decide) d_M_orders_76 ?_
          have hns : sg (rdOrder u1).2 ≠ 59 := fun h9 => hI ⟨q14, by rw [h9]; decide⟩
          rw [if_neg hns] at hfr
          have hst : ¬ sg (tOr (rdOrder t1).2 (to' (rdOrder t1).2 + 1)) = 59 := fun h9 => hns (heq2.2.esg.symm.trans ((show sg (tOr (rdOrder t1).2 (to' (rdOrder t1).2 + 1)) = sg (rdOrder t1).2 from rfl).symm.trans h9))
          rw [rdAll, if_pos hRt, if_neg hst] at he
          have he1 := congrArg Prod.fst he
          have he2 : to' (rdOrder t1).2 + 1 = to' tE := congrArg (fun x : Int × Tx => to' x.2) he
          simp only [] at he1
          have hge : ¬ tp (rdOrder u1).2 < tl (rdOrder u1).2 := by
            intro h9
            rw [if_pos (show tp (rdOrder t1).2 < tl (rdOrder t1).2 by rw [heq2.2.1, heq2.2.2.1]; exact h9)] at he1
            have := heq2.2.2.1
            omega
          rw [show (to' tE - (k9 + 1)).toNat = 0 by omega, frO] at hfr
          refine g_iload_n (n := 3) (i := 3) rfl rfl d_M_orders_14 ?_
          refine g_if_eq_i (tgt := 79) (by decide) d_M_orders_15 (by decide) (fun h15 => ?_) (fun h => absurd h (by decide))
          refine g_aload_n (n := 0) (i := 0) rfl rfl d_M_orders_79 ?_
          refine g_aload_n (n := 0) (i := 0) rfl rfl d_M_orders_80 ?_
          refine g_getfield 9 14 f_M_202 k2 (by rfl) d_M_orders_81 ?_
          rw [q14]
          refine g_if_ne_i (tgt := 98) (by decide) d_M_orders_84 (by decide) (fun h => absurd h (by decide)) (fun h84 => ?_)
          refine g_aload_n (n := 0) (i := 0) rfl rfl d_M_orders_87 ?_
          refine g_getfield 9 13 f_M_206 k2 (by rfl) d_M_orders_88 ?_
          refine g_aload_n (n := 0) (i := 0) rfl rfl d_M_orders_91 ?_
          refine g_getfield 9 12 f_M_209 k2 (by rfl) d_M_orders_92 ?_
          rw [ht3.2.2.1]
          refine g_icmp_ge_i (tgt := 102) (by omega) (by omega) d_M_orders_95 (by decide) (fun h95 => ?_) (fun h => by exfalso; omega)
          refine g_iconst_i d_M_orders_102 ?_
          refine g_putA 9 14 62 (by omega) h4 f_M_202 (Or.inl rfl) (by rfl) (by rfl) (Nat.le_of_ble_eq_true rfl) d_M_orders_103 (fun w h5 h5n => ?_)
          refine g_iload_n (n := 2) (i := 2) rfl rfl d_M_orders_106 ?_
          refine g_ireturn_i rfl d_M_orders_107 ?_
          rw [← hfr] at hQ1
          exact hQ1 rfl _ (fU (fU f2 13 (tp (rdOrder u1).2 + 0)) 14 0) m3 _ (by omega) (by omega) ⟨hn, h5, (h5n 63 (by omega)).trans hm4.2.2⟩ ok3 h3 (e43.trans e41) (fun i hi => (fU_n (by omega)).trans ((fU_n (by omega)).trans ((qf i hi).trans (hf i hi)))) (fun j h1 h2 => (h5n j h1).trans ((fun j h1 h2 => (h4n j h1).trans ((hS.2 j h2).trans ((hw2 j h1).trans (hw j h1 h2)))) j h1 h2))
      · refine g_ret ?_
        rw [hO] at hC
        have hfr := hfn
        rw [show (to' tE - k9).toNat = (to' tE - (k9 + 1)).toNat + 1 by omega, frO, if_pos hR, if_neg (by rw [hC]; exact Bool.false_ne_true)] at hfr
        refine g_if_ne_i (tgt := 46) (by decide) d_M_orders_37 (by decide) (fun h => absurd h (by decide)) (fun h37 => ?_)
        refine g_iload_n (n := 2) (i := 2) rfl rfl d_M_orders_40 ?_
        refine g_sipush_i (by decide) d_M_orders_41 ?_
        refine g_isub_i d_M_orders_44 ?_
        refine g_ireturn_i rfl d_M_orders_45 ?_
        have hf1 : (frO (to' tE).toNat 0 (tP tE 0) R).1 = k9 := by rw [← hfr]
        rw [← hf1]
        exact hQ2 (by omega) (by omega) _ _ _ hS.1 o3 (fun i hi => (qf i hi).trans (hf i hi)) (fun j h1 h2 => (hS.2 j h2).trans ((hw2 j h1).trans (hw j h1 h2)))
  obtain ⟨hn, u2, u3⟩ := id hm
  have k2 : g_cell E w im (gad E 62) _ := g_mut 62 (by omega) u2
  have k3 : g_cell E w im (gad E 63) _ := g_mut 63 (by omega) u3
  refine g_enter (by decide) rfl rfl (fun h => by first | rfl | cases h) (Nat.le_of_ble_eq_true rfl) rfl ?_
  refine g_aload_n (n := 0) (i := 0) rfl rfl d_M_orders_0 ?_
  refine g_iconst_i d_M_orders_1 ?_
  refine g_putA 9 13 62 (by omega) u2 f_M_206 (Or.inl rfl) (by rfl) (by rfl) (Nat.le_of_ble_eq_true rfl) d_M_orders_2 (fun w h1 h1n => ?_)
  have k2 : g_cell E w im (gad E 62) _ := g_mut 62 (by omega) h1
  refine g_aload_n (n := 0) (i := 0) rfl rfl d_M_orders_5 ?_
  refine g_iconst_i d_M_orders_6 ?_
  refine g_putA 9 14 62 (by omega) h1 f_M_202 (Or.inl rfl) (by rfl) (by rfl) (Nat.le_of_ble_eq_true rfl) d_M_orders_7 (fun w h2 h2n => ?_)
  have k2 : g_cell E w im (gad E 62) _ := g_mut 62 (by omega) h2
  refine g_iconst_i d_M_orders_10 ?_
  refine g_istore_n (n := 2) (i := 2) rfl (by decide) rfl d_M_orders_11 ?_
  refine g_iconst_i d_M_orders_12 ?_
  refine g_istore_n (n := 3) (i := 3) rfl (by decide) rfl d_M_orders_13 ?_
  exact g_cut (lv' := [(0, .ref (gad E 62)), (1, .int (iI 1)), (2, .int (iI 0)), (3, .int (iI 1))]) ⟨rfl, rfl, rfl, rfl, trivial⟩ (loop 60 0 t (tP tE 0) R w (fU (fU f 13 0) 14 0) m (by omega) (by omega) ⟨⟨hn, h2, (h2n 63 (by omega)).trans ((h1n 63 (by omega)).trans u3)⟩, ((h2n 67 (by omega)).trans ((h1n 67 (by omega)).trans y7)).trans (by unfold chE; rw [show ts (tP tE 0) = ts tE from rfl, yE.2]), y12.trans yE.1.symm, rfl, (by show 0 ≤ tl tE ∧ tl tE ≤ 60; rw [yE.1]; exact yl), (by show (0 : Int) ≤ 0 ∧ 0 ≤ tl tE; rw [yE.1]; omega), (by show ∀ j, _ → 0 ≤ ts tE j ∧ ts tE j ≤ 255; rw [yE.2]; exact ys)⟩ rfl ok h oz rfl ⟨yE.1.symm, yp0, yE.2.symm⟩ yo yA (by rw [Int.sub_zero]) (fun i hi => (fU_n (by omega)).trans (fU_n (by omega))) (fun j h1 h3 => (h2n j h1).trans (h1n j h1)))

