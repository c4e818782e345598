/-! ===== the reference: its reader ===== -/
/-- the reader of the reference stands in a text t -/
def MT (E : gE) (w : gW) (f : Nat → Int) (m : Int → Int) (t : Tx) : Prop := MR E w f m ∧ w 67 = chE t ∧ f 12 = tl t ∧ f 13 = tp t ∧ (0 ≤ tl t ∧ tl t ≤ 60) ∧ (0 ≤ tp t ∧ tp t ≤ tl t) ∧ ∀ j, 0 ≤ j ∧ j < 60 → 0 ≤ ts t j ∧ ts t j ≤ 255
theorem MT.mk {E : gE} {w w' : gW} {f f' : Nat → Int} {m : Int → Int} {t t' : Tx} (h : MT E w f m t) (hm : MR E w' f' m) (hw : ∀ j, j ≠ 62 → w' j = w j) (h12 : f' 12 = f 12) (h13 : f' 13 = tp t') (hl : tl t' = tl t) (hs : ts t' = ts t) (hp : 0 ≤ tp t' ∧ tp t' ≤ tl t') : MT E w' f' m t' := by
  obtain ⟨a, b, c, d, e, g, i⟩ := h
  refine ⟨hm, ?_, by rw [h12, c, hl], h13, by rw [hl]; exact e, hp, by rw [hs]; exact i⟩
  rw [hw 67 (by decide), b]
  unfold chE
  rw [hs]

theorem c_M_isAt {E : gE} {w : gW} {im : gIm} {Q : gQ} {f : Nat → Int} {m : Int → Int} {t : Tx} (ht : MT E w f m t) {a b : Int} (ra : 1 ≤ a ∧ a < 65536) (rb : 0 ≤ b ∧ b < 65536) (r14 : 0 ≤ f 14 ∧ f 14 ≤ 1) (hQ1 : f 14 = 0 → (a ≤ sg t ∧ sg t ≤ b) → Q (.inl (some (.int (iI 1)))) w im) (hQ2 : ¬ (f 14 = 0 ∧ a ≤ sg t ∧ sg t ≤ b) → Q (.inl (some (.int (iI 0)))) w im) : GM E 1 y_M_isAt m_M_isAt 0 0 [.ref (gad E 62), .int (iI a), .int (iI b)] w im Q := by
  obtain ⟨hm, y7, y12, y13, yl, yp, ys⟩ := id ht
  obtain ⟨hn, u2, u3⟩ := id hm
  have k2 : g_cell E w im (gad E 62) _ := g_mut 62 (by omega) u2
  have k3 : g_cell E w im (gad E 63) _ := g_mut 63 (by omega) u3
  have k7 : g_cell E w im (gad E 67) _ := g_mut 67 (by omega) y7
  refine g_enter (by decide) rfl rfl (fun h => by first | rfl | cases h) (Nat.le_of_ble_eq_true rfl) rfl ?_
  refine g_aload_n (n := 0) (i := 0) rfl rfl d_M_isAt_0 ?_
  refine g_getfield 9 14 f_M_202 k2 (by rfl) d_M_isAt_1 ?_
  refine g_if_ne_i (tgt := 39) (by omega) d_M_isAt_4 (by decide) (fun h4 => ?_) (fun h4 => ?_)
  · refine g_iconst_i d_M_isAt_39 ?_
    refine g_ireturn_0 rfl d_M_isAt_40 ?_
    first
    | exact hQ1 (by omega) (by rw [hsg]; exact hI)
    | exact hQ2 (fun h => hI (by rw [← hsg]; exact h.2))
    | exact hQ2 (by intro h; by_cases h9 : tp t < tl t <;> first | omega | (rw [show sg t = 0 from if_neg h9] at h; omega))
  · refine g_aload_n (n := 0) (i := 0) rfl rfl d_M_isAt_7 ?_
    refine g_getfield 9 13 f_M_206 k2 (by rfl) d_M_isAt_8 ?_
    rw [y13]
    refine g_aload_n (n := 0) (i := 0) rfl rfl d_M_isAt_11 ?_
    refine g_getfield 9 12 f_M_209 k2 (by rfl) d_M_isAt_12 ?_
    rw [y12]
    refine g_icmp_ge_i (tgt := 39) (by omega) (by omega) d_M_isAt_15 (by decide) (fun h15 => ?_) (fun h15 => ?_)
    · refine g_iconst_i d_M_isAt_39 ?_
      refine g_ireturn_0 rfl d_M_isAt_40 ?_
      first
      | exact hQ1 (by omega) (by rw [hsg]; exact hI)
      | exact hQ2 (fun h => hI (by rw [← hsg]; exact h.2))
      | exact hQ2 (by intro h; by_cases h9 : tp t < tl t <;> first | omega | (rw [show sg t = 0 from if_neg h9] at h; omega))
    · have hsg : sg t = ts t (tp t) := if_pos (by omega)
      have hys := ys (tp t) (by omega)
      refine g_aload_n (n := 0) (i := 0) rfl rfl d_M_isAt_18 ?_
      refine g_getfield 9 10 f_M_29 (by assumption) (by rfl) d_M_isAt_19 ?_
      refine g_aload_n (n := 0) (i := 0) rfl rfl d_M_isAt_22 ?_
      refine g_getfield 9 13 f_M_206 k2 (by rfl) d_M_isAt_23 ?_
      rw [y13]
      refine g_caload_i (by assumption) (by omega) (by omega) (by rfl) d_M_isAt_26 ?_
      refine g_iload_n (n := 1) (i := 1) rfl rfl d_M_isAt_27 ?_
      refine g_iload_n (n := 2) (i := 2) rfl rfl d_M_isAt_28 ?_
      refine g_callS3 rfl rfl e_M_isIn l_M_45 st_M_isIn (by decide) (Nat.zero_le _) (Nat.zero_le _) (Nat.le_of_ble_eq_true rfl) d_M_isAt_29 (c_M_isIn (by omega) (by omega) (by omega) (fun hI => ?_) (fun hI => ?_))
      · refine g_ret ?_
        refine g_if_eq_i (tgt := 39) (by decide) d_M_isAt_32 (by decide) (fun h => absurd h (by decide)) (fun h32 => ?_)
        refine g_iconst_i d_M_isAt_35 ?_
        refine g_goto (tgt := 40) (by decide) d_M_isAt_36 ?_
        refine g_ireturn_1 rfl d_M_isAt_40 ?_
        first
        | exact hQ1 (by omega) (by rw [hsg]; exact hI)
        | exact hQ2 (fun h => hI (by rw [← hsg]; exact h.2))
        | exact hQ2 (by intro h; by_cases h9 : tp t < tl t <;> first | omega | (rw [show sg t = 0 from if_neg h9] at h; omega))
      · refine g_ret ?_
        refine g_if_eq_i (tgt := 39) (by decide) d_M_isAt_32 (by decide) (fun h32 => ?_) (fun h => absurd h (by decide))
        refine g_iconst_i d_M_isAt_39 ?_
        refine g_ireturn_0 rfl d_M_isAt_40 ?_
        first
        | exact hQ1 (by omega) (by rw [hsg]; exact hI)
        | exact hQ2 (fun h => hI (by rw [← hsg]; exact h.2))
        | exact hQ2 (by intro h; by_cases h9 : tp t < tl t <;> first | omega | (rw [show sg t = 0 from if_neg h9] at h; omega))

theorem c_M_digit {E : gE} {w : gW} {im : gIm} {Q : gQ} {f : Nat → Int} {m : Int → Int} {t : Tx} (ht : MT E w f m t) (r14 : 0 ≤ f 14 ∧ f 14 ≤ 1) (hQ1 : f 14 = 0 → dgB t = true → ∀ w', MR E w' (fU f 13 (tp t + 1)) m → (∀ j, j ≠ 62 → w' j = w j) → Q (.inl (some (.int (iI (sg t - 48))))) w' im) (hQ2 : ¬ (f 14 = 0 ∧ dgB t = true) → ∀ w', MR E w' (fU f 14 1) m → (∀ j, j ≠ 62 → w' j = w j) → Q (.inl (some (.int (iI 0)))) w' im) : GM E 2 y_M_digit m_M_digit 0 0 [.ref (gad E 62)] w im Q := by
  obtain ⟨hm, y7, y12, y13, yl, yp, ys⟩ := id ht
  obtain ⟨hn, u2, u3⟩ := id hm
  have k2 : g_cell E w im (gad E 62) _ := g_mut 62 (by omega) u2
  have k3 : g_cell E w im (gad E 63) _ := g_mut 63 (by omega) u3
  have k7 : g_cell E w im (gad E 67) _ := g_mut 67 (by omega) y7
  refine g_enter (by decide) rfl rfl (fun h => by first | rfl | cases h) (Nat.le_of_ble_eq_true rfl) rfl ?_
  refine g_aload_n (n := 0) (i := 0) rfl rfl d_M_digit_0 ?_
  refine g_bipush_i (by decide) d_M_digit_1 ?_
  refine g_bipush_i (by decide) d_M_digit_3 ?_
  refine g_callV2 rfl rfl e_M_isAt l_M_212 iv_M_isAt 9 (by decide) rfl (by assumption) (by decide) (Nat.zero_le _) (Nat.zero_le _) (Nat.le_of_ble_eq_true rfl) d_M_digit_5 (c_M_isAt ht (by omega) (by omega) (by omega) (fun hI4 hI => ?_) (fun hI => ?_))
  · refine g_ret ?_
    refine g_if_ne_i (tgt := 18) (by decide) d_M_digit_8 (by decide) (fun h8 => ?_) (fun h => absurd h (by decide))
    refine g_aload_n (n := 0) (i := 0) rfl rfl d_M_digit_18 ?_
    refine g_dup rfl d_M_digit_19 ?_
    refine g_getfield 9 13 f_M_206 k2 (by rfl) d_M_digit_20 ?_
    rw [y13]
    refine g_iconst_i d_M_digit_23 ?_
    refine g_iadd_i d_M_digit_24 ?_
    refine g_putA 9 13 62 (by omega) u2 f_M_206 (Or.inl rfl) (by rfl) (by rfl) (Nat.le_of_ble_eq_true rfl) d_M_digit_25 (fun w hs hsn => ?_)
    have hm2 : MR E w (fU f 13 (tp t + 1)) m := ⟨hn, hs, (hsn 63 (by omega)).trans u3⟩
    have k2 : g_cell E w im (gad E 62) _ := g_mut 62 (by omega) hm2.2.1
    have k7 : g_cell E w im (gad E 67) _ := g_mut 67 (by omega) ((hsn 67 (by omega)).trans y7)
    have htl : tp t < tl t := by
      by_cases h9 : tp t < tl t
      · exact h9
      · rw [show sg t = 0 from if_neg h9] at hI; omega
    have hsg : sg t = ts t (tp t) := if_pos htl
    have hys := ys (tp t) (by omega)
    refine g_aload_n (n := 0) (i := 0) rfl rfl d_M_digit_28 ?_
    refine g_getfield 9 10 f_M_29 (by assumption) (by rfl) d_M_digit_29 ?_
    refine g_aload_n (n := 0) (i := 0) rfl rfl d_M_digit_32 ?_
    refine g_getfield 9 13 f_M_206 k2 (by rfl) d_M_digit_33 ?_
    rw [show fU f 13 (tp t + 1) 13 = tp t + 1 from fU_s]
    refine g_iconst_i d_M_digit_36 ?_
    refine g_isub_i d_M_digit_37 ?_
    refine g_caload_i k7 (by omega) (by omega) (by rfl) d_M_digit_38 ?_
    rw [show tp t + 1 - 1 = tp t by omega, ← hsg]
    refine g_bipush_i (by decide) d_M_digit_39 ?_
    refine g_isub_i d_M_digit_41 ?_
    refine g_ireturn_i rfl d_M_digit_42 ?_
    exact hQ1 hI4 (by simp only [dgB, Bool.and_eq_true, decide_eq_true_eq]; exact hI) _ hm2 hsn
  · refine g_ret ?_
    refine g_if_ne_i (tgt := 18) (by decide) d_M_digit_8 (by decide) (fun h => absurd h (by decide)) (fun h8 => ?_)
    refine g_aload_n (n := 0) (i := 0) rfl rfl d_M_digit_11 ?_
    refine g_iconst_i d_M_digit_12 ?_
    refine g_putA 9 14 62 (by omega) u2 f_M_202 (Or.inl rfl) (by rfl) (by rfl) (Nat.le_of_ble_eq_true rfl) d_M_digit_13 (fun w hs hsn => ?_)
    refine g_iconst_i d_M_digit_16 ?_
    refine g_ireturn_i rfl d_M_digit_17 ?_
    exact hQ2 (fun h => hI ⟨h.1, by have h2 := h.2; simp only [dgB, Bool.and_eq_true, decide_eq_true_eq] at h2; exact h2⟩) _ ⟨hn, hs, (hsn 63 (by omega)).trans u3⟩ hsn

theorem dgB_lt {t : Tx} (h : dgB t = true) : tp t < tl t := by
  by_cases h9 : tp t < tl t
  · exact h9
  · simp only [dgB, Bool.and_eq_true, decide_eq_true_eq] at h
    rw [show sg t = 0 from if_neg h9] at h
    omega

theorem c_M_readsNumber {E : gE} {w : gW} {im : gIm} {Q : gQ} {f : Nat → Int} {m : Int → Int} {t : Tx} (ht : MT E w f m t) (r14 : f 14 = 0) (hQ1 : dgB t = true → ∀ w' f', MR E w' f' m → f' 14 = 0 → f' 13 = tp (rdMore 3 (tDg (tNm t 0))) → f' 16 = tn (rdMore 3 (tDg (tNm t 0))) → (∀ i, i ≠ 13 → i ≠ 16 → f' i = f i) → (∀ j, j ≠ 62 → w' j = w j) → Q (.inl none) w' im) (hQ2 : dgB t = false → ∀ w' f', MR E w' f' m → f' 14 = 1 → f' 13 = tp t → (∀ i, i ≠ 13 → i ≠ 14 → i ≠ 16 → f' i = f i) → (∀ j, j ≠ 62 → w' j = w j) → Q (.inl none) w' im) : GM E 3 y_M_readsNumber m_M_readsNumber 0 0 [.ref (gad E 62)] w im Q := by
  obtain ⟨h14, _⟩ := id (And.intro r14 trivial)
  have loop : ∀ (n9 : Nat) (k9 mo : Int) (t1 : Tx) (w1 : gW) (f1 : Nat → Int), k9 + n9 = 4 → 1 ≤ k9 → MT E w1 f1 m t1 → f1 14 = 0 → f1 16 = tn t1 → ((mo = 1 ∧ 0 < tn t1) ∨ (mo = 0 ∧ tn t1 = 0)) → 0 ≤ tn t1 → rdMore n9 t1 = rdMore 3 (tDg (tNm t 0)) → (∀ i, i ≠ 13 → i ≠ 16 → f1 i = f i) → (∀ j, j ≠ 62 → w1 j = w j) → dgB t = true → G E 3 m_M_readsNumber 23 [(0, .ref (gad E 62)), (1, .int (iI mo)), (2, .int (iI k9))] [] w1 im 0 0 Q := by
    intro n9
    induction n9 with
    | zero =>
      intro k9 mo t1 w1 f1 hk h1 ht q14 q16 hmo hp he hf hw hd
      have e9 : k9 = 4 := by omega
      rw [show rdMore 0 t1 = t1 from rfl] at he
      refine g_iload_n (n := 2) (i := 2) rfl rfl d_M_readsNumber_23 ?_
      refine g_iconst_i d_M_readsNumber_24 ?_
      refine g_icmp_ge_i (tgt := 65) (by omega) (by decide) d_M_readsNumber_25 (by decide) (fun h25 => ?_) (fun h => by exfalso; omega)
      refine g_return rfl d_M_readsNumber_65 ?_
      exact hQ1 hd _ f1 ht.1 q14 (by rw [← he]; exact ht.2.2.2.1) (by rw [← he]; exact q16) hf hw
    | succ n9 ih =>
      intro k9 mo t1 w f1 hk h1 ht q14 q16 hmo hp he hf hw hd
      obtain ⟨hm, y7, y12, y13, yl, yp, ys⟩ := id ht
      obtain ⟨hn, u2, u3⟩ := id hm
      have k2 : g_cell E w im (gad E 62) _ := g_mut 62 (by omega) u2
      rcases hmo with ⟨rfl, hpos⟩ | ⟨rfl, hz⟩
      · refine g_iload_n (n := 2) (i := 2) rfl rfl d_M_readsNumber_23 ?_
        refine g_iconst_i d_M_readsNumber_24 ?_
        refine g_icmp_ge_i (tgt := 65) (by omega) (by decide) d_M_readsNumber_25 (by decide) (fun h => by exfalso; omega) (fun h25 => ?_)
        refine g_iload_n (n := 1) (i := 1) rfl rfl d_M_readsNumber_28 ?_
        refine g_if_eq_i (tgt := 65) (by decide) d_M_readsNumber_29 (by decide) (fun h => absurd h (by decide)) (fun h29 => ?_)
        refine g_aload_n (n := 0) (i := 0) rfl rfl d_M_readsNumber_32 ?_
        refine g_bipush_i (by decide) d_M_readsNumber_33 ?_
        refine g_bipush_i (by decide) d_M_readsNumber_35 ?_
        refine g_callV2 rfl rfl e_M_isAt l_M_212 iv_M_isAt 9 (by decide) rfl (by assumption) (by decide) (Nat.zero_le _) (Nat.zero_le _) (Nat.le_of_ble_eq_true rfl) d_M_readsNumber_37 (c_M_isAt ht (by omega) (by omega) (by omega) (fun hI4 hI => ?_) (fun hI => ?_))
        · refine g_ret ?_
          have hdg : dgB t1 = true := dgB_iff.2 hI
          have hlt := dgB_lt hdg
          rw [show rdMore (n9 + 1) t1 = rdMore n9 (tDg t1) from if_pos ⟨hpos, hdg⟩] at he
          refine g_if_eq_i (tgt := 65) (by decide) d_M_readsNumber_40 (by decide) (fun h => absurd h (by decide)) (fun h40 => ?_)
          refine g_aload_n (n := 0) (i := 0) rfl rfl d_M_readsNumber_43 ?_
          refine g_bipush_i (by decide) d_M_readsNumber_44 ?_
          refine g_aload_n (n := 0) (i := 0) rfl rfl d_M_readsNumber_46 ?_
          refine g_getfield 9 16 f_M_219 k2 (by rfl) d_M_readsNumber_47 ?_
          rw [q16]
          refine g_imul_i d_M_readsNumber_50 ?_
          refine g_aload_n (n := 0) (i := 0) rfl rfl d_M_readsNumber_51 ?_
          refine g_callV0 rfl rfl e_M_digit l_M_216 iv_M_digit 9 (by decide) rfl (by assumption) (by decide) (Nat.zero_le _) (Nat.zero_le _) (Nat.le_of_ble_eq_true rfl) d_M_readsNumber_52 (c_M_digit (hQ2 := fun hD => absurd ⟨q14, hdg⟩ hD) ht (by omega) (fun hD4 hD w2 hm2 hw2 => ?_))
          refine g_ret ?_
          obtain ⟨hn, u2', u3'⟩ := id hm2
          have k2' : g_cell E w2 im (gad E 62) _ := g_mut 62 (by omega) u2'
          refine g_iadd_i d_M_readsNumber_55 ?_
          refine g_putA 9 16 62 (by omega) u2' f_M_219 (Or.inl rfl) (by rfl) (by rfl) (Nat.le_of_ble_eq_true rfl) d_M_readsNumber_56 (fun w3 hs hsn => ?_)
          refine g_iinc_i (i := 2) rfl (by decide) rfl d_M_readsNumber_59 ?_
          refine g_goto (tgt := 23) (by decide) d_M_readsNumber_62 ?_
          exact g_cut (lv' := [(0, .ref (gad E 62)), (1, .int (iI 1)), (2, .int (iI (k9 + 1)))]) ⟨rfl, rfl, rfl, trivial⟩ (ih (k9 + 1) 1 (tDg t1) w3 (fU (fU f1 13 (tp t1 + 1)) 16 (10 * tn t1 + (sg t1 - 48))) (by omega) (by omega) (ht.mk (f' := fU (fU f1 13 (tp t1 + 1)) 16 (10 * tn t1 + (sg t1 - 48))) ⟨hn, hs, (hsn 63 (by omega)).trans u3'⟩ (fun j hj => (hsn j hj).trans (hw2 j hj)) rfl rfl rfl rfl (show 0 ≤ tp t1 + 1 ∧ tp t1 + 1 ≤ tl t1 by omega)) q14 (show 10 * tn t1 + (sg t1 - 48) = tn t1 * 10 + sg t1 - 48 by omega) (Or.inl ⟨rfl, show 0 < tn t1 * 10 + sg t1 - 48 by have := dgB_iff.1 hdg; omega⟩) (show 0 ≤ tn t1 * 10 + sg t1 - 48 by have := dgB_iff.1 hdg; omega) he (fun i hi hj => (fU_n hj).trans ((fU_n hi).trans (hf i hi hj))) (fun j hj => (hsn j hj).trans ((hw2 j hj).trans (hw j hj))) hd)
        · refine g_ret ?_
          rw [show rdMore (n9 + 1) t1 = t1 from if_neg (fun h => hI ⟨q14, dgB_iff.1 h.2⟩)] at he
          refine g_if_eq_i (tgt := 65) (by decide) d_M_readsNumber_40 (by decide) (fun h40 => ?_) (fun h => absurd h (by decide))
          refine g_return rfl d_M_readsNumber_65 ?_
          exact hQ1 hd _ f1 ht.1 q14 (by rw [← he]; exact ht.2.2.2.1) (by rw [← he]; exact q16) hf hw
      · rw [show rdMore (n9 + 1) t1 = t1 from if_neg (fun h => by omega)] at he
        refine g_iload_n (n := 2) (i := 2) rfl rfl d_M_readsNumber_23 ?_
        refine g_iconst_i d_M_readsNumber_24 ?_
        refine g_icmp_ge_i (tgt := 65) (by omega) (by decide) d_M_readsNumber_25 (by decide) (fun h => by exfalso; omega) (fun h25 => ?_)
        refine g_iload_n (n := 1) (i := 1) rfl rfl d_M_readsNumber_28 ?_
        refine g_if_eq_i (tgt := 65) (by decide) d_M_readsNumber_29 (by decide) (fun h29 => ?_) (fun h => absurd h (by decide))
        refine g_return rfl d_M_readsNumber_65 ?_
        exact hQ1 hd _ f1 hm q14 (by rw [← he]; exact ht.2.2.2.1) (by rw [← he]; exact q16) hf hw
  obtain ⟨hm, y7, y12, y13, yl, yp, ys⟩ := id ht
  obtain ⟨hn, u2, u3⟩ := id hm
  have k2 : g_cell E w im (gad E 62) _ := g_mut 62 (by omega) u2
  have k3 : g_cell E w im (gad E 63) _ := g_mut 63 (by omega) u3
  have k7 : g_cell E w im (gad E 67) _ := g_mut 67 (by omega) y7
  refine g_enter (by decide) rfl rfl (fun h => by first | rfl | cases h) (Nat.le_of_ble_eq_true rfl) rfl ?_
  refine g_aload_n (n := 0) (i := 0) rfl rfl d_M_readsNumber_0 ?_
  refine g_aload_n (n := 0) (i := 0) rfl rfl d_M_readsNumber_1 ?_
  refine g_callV0 rfl rfl e_M_digit l_M_216 iv_M_digit 9 (by decide) rfl (by assumption) (by decide) (Nat.zero_le _) (Nat.zero_le _) (Nat.le_of_ble_eq_true rfl) d_M_readsNumber_2 (c_M_digit ht (by omega) (fun hD4 hD w2 hm2 hw2 => ?_) (fun hD w2 hm2 hw2 => ?_))
  · refine g_ret ?_
    obtain ⟨hn, u2', u3'⟩ := id hm2
    have hlt := dgB_lt hD
    have hdi := dgB_iff.1 hD
    refine g_putA 9 16 62 (by omega) u2' f_M_219 (Or.inl rfl) (by rfl) (by rfl) (Nat.le_of_ble_eq_true rfl) d_M_readsNumber_5 (fun w3 hs hsn => ?_)
    have k2' : g_cell E w3 im (gad E 62) _ := g_mut 62 (by omega) hs
    refine g_aload_n (n := 0) (i := 0) rfl rfl d_M_readsNumber_8 ?_
    refine g_getfield 9 16 f_M_219 k2' (by rfl) d_M_readsNumber_9 ?_
    change G E 3 m_M_readsNumber 12 _ [.int (iI (sg t - 48))] _ im 0 0 Q
    refine g_if_le_i (tgt := 19) (by omega) d_M_readsNumber_12 (by decide) (fun h12 => ?_) (fun h12 => ?_)
    · refine g_iconst_i d_M_readsNumber_19 ?_
      refine g_istore_n (n := 1) (i := 1) rfl (by decide) rfl d_M_readsNumber_20 ?_
      refine g_iconst_i d_M_readsNumber_21 ?_
      refine g_istore_n (n := 2) (i := 2) rfl (by decide) rfl d_M_readsNumber_22 ?_
      exact g_cut (lv' := [(0, .ref (gad E 62)), (1, .int (iI 0)), (2, .int (iI 1))]) ⟨rfl, rfl, rfl, trivial⟩ (loop 3 1 0 (tDg (tNm t 0)) w3 (fU (fU f 13 (tp t + 1)) 16 (sg t - 48)) (by omega) (by omega) (ht.mk (f' := fU (fU f 13 (tp t + 1)) 16 (sg t - 48)) ⟨hn, hs, (hsn 63 (by omega)).trans u3'⟩ (fun j hj => (hsn j hj).trans (hw2 j hj)) rfl rfl rfl rfl (show 0 ≤ tp t + 1 ∧ tp t + 1 ≤ tl t by omega)) r14 (show sg t - 48 = 0 * 10 + sg t - 48 by omega) (by first | exact Or.inl ⟨rfl, show 0 < 0 * 10 + sg t - 48 by omega⟩ | exact Or.inr ⟨rfl, show 0 * 10 + sg t - 48 = 0 by omega⟩) (show 0 ≤ 0 * 10 + sg t - 48 by omega) rfl (fun i hi hj => (fU_n hj).trans (fU_n hi)) (fun j hj => (hsn j hj).trans (hw2 j hj)) hD)
    · refine g_iconst_i d_M_readsNumber_15 ?_
      refine g_goto (tgt := 20) (by decide) d_M_readsNumber_16 ?_
      refine g_istore_n (n := 1) (i := 1) rfl (by decide) rfl d_M_readsNumber_20 ?_
      refine g_iconst_i d_M_readsNumber_21 ?_
      refine g_istore_n (n := 2) (i := 2) rfl (by decide) rfl d_M_readsNumber_22 ?_
      exact g_cut (lv' := [(0, .ref (gad E 62)), (1, .int (iI 1)), (2, .int (iI 1))]) ⟨rfl, rfl, rfl, trivial⟩ (loop 3 1 1 (tDg (tNm t 0)) w3 (fU (fU f 13 (tp t + 1)) 16 (sg t - 48)) (by omega) (by omega) (ht.mk (f' := fU (fU f 13 (tp t + 1)) 16 (sg t - 48)) ⟨hn, hs, (hsn 63 (by omega)).trans u3'⟩ (fun j hj => (hsn j hj).trans (hw2 j hj)) rfl rfl rfl rfl (show 0 ≤ tp t + 1 ∧ tp t + 1 ≤ tl t by omega)) r14 (show sg t - 48 = 0 * 10 + sg t - 48 by omega) (by first | exact Or.inl ⟨rfl, show 0 < 0 * 10 + sg t - 48 by omega⟩ | exact Or.inr ⟨rfl, show 0 * 10 + sg t - 48 = 0 by omega⟩) (show 0 ≤ 0 * 10 + sg t - 48 by omega) rfl (fun i hi hj => (fU_n hj).trans (fU_n hi)) (fun j hj => (hsn j hj).trans (hw2 j hj)) hD)
  · refine g_ret ?_
    obtain ⟨hn, u2', u3'⟩ := id hm2
    have hDf : dgB t = false := by
      rw [Bool.eq_false_iff]; exact fun h => hD ⟨r14, h⟩
    refine g_putA 9 16 62 (by omega) u2' f_M_219 (Or.inl rfl) (by rfl) (by rfl) (Nat.le_of_ble_eq_true rfl) d_M_readsNumber_5 (fun w3 hs hsn => ?_)
    have k2' : g_cell E w3 im (gad E 62) _ := g_mut 62 (by omega) hs
    refine g_aload_n (n := 0) (i := 0) rfl rfl d_M_readsNumber_8 ?_
    refine g_getfield 9 16 f_M_219 k2' (by rfl) d_M_readsNumber_9 ?_
    change G E 3 m_M_readsNumber 12 _ [.int (iI 0)] _ im 0 0 Q
    refine g_if_le_i (tgt := 19) (by decide) d_M_readsNumber_12 (by decide) (fun h12 => ?_) (fun h => absurd h (by decide))
    refine g_iconst_i d_M_readsNumber_19 ?_
    refine g_istore_n (n := 1) (i := 1) rfl (by decide) rfl d_M_readsNumber_20 ?_
    refine g_iconst_i d_M_readsNumber_21 ?_
    refine g_istore_n (n := 2) (i := 2) rfl (by decide) rfl d_M_readsNumber_22 ?_
    refine g_iload_n (n := 2) (i := 2) rfl rfl d_M_readsNumber_23 ?_
    refine g_iconst_i d_M_readsNumber_24 ?_
    refine g_icmp_ge_i (tgt := 65) (by decide) (by decide) d_M_readsNumber_25 (by decide) (fun h => absurd h (by decide)) (fun h25 => ?_)
    refine g_iload_n (n := 1) (i := 1) rfl rfl d_M_readsNumber_28 ?_
    refine g_if_eq_i (tgt := 65) (by decide) d_M_readsNumber_29 (by decide) (fun h29 => ?_) (fun h => absurd h (by decide))
    refine g_return rfl d_M_readsNumber_65 ?_
    exact hQ2 hDf _ (fU (fU f 14 1) 16 0) ⟨hn, hs, (hsn 63 (by omega)).trans u3'⟩ rfl y13 (fun i h1 h2 h3 => (fU_n h3).trans (fU_n h2)) (fun j hj => (hsn j hj).trans (hw2 j hj))

