/-! ===== the reference: its changes ===== -/
def nxM (x : Int) : Int := if x = 8 then 8 else x + 1
/-- the past p' is the past p with the row m behind it -/
def RM (n : Int) (p m p' : Int → Int) : Prop :=
  (n = 8 → (∀ k j, 0 ≤ k ∧ k < 7 → 0 ≤ j ∧ j < 3561 → p' (3561 * k + j) = p (3561 * (k + 1) + j)) ∧ ∀ j, 0 ≤ j ∧ j < 3561 → p' (3561 * 7 + j) = m j) ∧
  (n ≠ 8 → (∀ k j, 0 ≤ k ∧ k < n → 0 ≤ j ∧ j < 3561 → p' (3561 * k + j) = p (3561 * k + j)) ∧ ∀ j, 0 ≤ j ∧ j < 3561 → p' (3561 * n + j) = m j)
/-- the change is remembered, no more -/
def MCg (E : gE) (w : gW) (f : Nat → Int) (m pa : Int → Int) (w' : gW) : Prop := ∃ p', MR E w' (fU f 2 (nxM (f 2))) m ∧ w' 64 = intE 28488 p' ∧ RM (f 2) pa m p' ∧ (∃ tr', w' 66 = intE 3561 tr') ∧ ∀ j, j ≠ 62 → j ≠ 64 → j ≠ 66 → w' j = w j
/-- a change is remembered and done: the row is m' -/
def MCh (E : gE) (w : gW) (f : Nat → Int) (m pa m' : Int → Int) (w' : gW) : Prop := ∃ f' p', MR E w' f' m' ∧ f' 6 = 0 ∧ f' 2 = nxM (f 2) ∧ (∀ i, i ≠ 6 → i ≠ 2 → f' i = f i) ∧ w' 64 = intE 28488 p' ∧ RM (f 2) pa m p' ∧ (∃ tr', w' 66 = intE 3561 tr') ∧ ∀ j, j ≠ 62 → j ≠ 63 → j ≠ 64 → j ≠ 66 → w' j = w j
def MOut (E : gE) (w : gW) (f : Nat → Int) (m pa : Int → Int) (t : Int) (m' : Int → Int) (w' : gW) : Prop := (t = 0 ∧ MCh E w f m pa m' w') ∨ (t ≠ 0 ∧ m' = m ∧ MTh E w f m t w')
theorem fU_fU {f : Nat → Int} {k : Nat} {a b : Int} : fU (fU f k a) k b = fU f k b := by
  funext j
  simp only [fU]
  split <;> rfl
theorem fU_s {f : Nat → Int} {k : Nat} {a : Int} : fU f k a k = a := by simp [fU]
theorem fU_n {f : Nat → Int} {k j : Nat} {a : Int} (h : j ≠ k) : fU f k a j = f j := by simp [fU, h]
theorem MCh.mk {E : gE} {w w1 w2 : gW} {f f1 : Nat → Int} {m pa : Int → Int} (h1 : ∀ i, i ≠ 6 → f1 i = f i) (h6 : f1 6 = 0) (hn : ∀ j, j ≠ 62 → w1 j = w j) (h : MCg E w1 f1 m pa w2) : MCh E w f m pa m w2 := by
  obtain ⟨p', a, b, c, d, e⟩ := h
  rw [h1 2 (by decide)] at a c
  exact ⟨_, p', a, by rw [fU_n (by decide)]; exact h6, fU_s, fun i hi hj => (fU_n hj).trans (h1 i hi), b, c, d, fun j ha hb hc hd => (e j ha hc hd).trans (hn j ha)⟩
theorem MCh.row {E : gE} {w w1 w2 : gW} {f : Nat → Int} {m pa m1 m2 : Int → Int} (h : MCh E w f m pa m1 w1) (hs : w2 63 = intE 3561 m2) (hw : ∀ j, j ≠ 63 → w2 j = w1 j) : MCh E w f m pa m2 w2 := by
  obtain ⟨f', p', a, b, c, d, e, g, k, l⟩ := h
  obtain ⟨tr, k⟩ := k
  exact ⟨f', p', (a.row hs hw).1, b, c, d, (hw 64 (by decide)).trans e, g, ⟨tr, (hw 66 (by decide)).trans k⟩, fun j h1 h2 h3 h4 => (hw j h2).trans (l j h1 h2 h3 h4)⟩
theorem MCh.ms {E : gE} {w w1 w2 : gW} {f f' : Nat → Int} {m pa m1 m2 : Int → Int} (h : MCh E w f m pa m1 w1) (hm : MR E w1 f' m1) (hs : MS E w1 f' m2 w2) : MCh E w f m pa m2 w2 := h.row hs.1.2.2 hs.2

theorem rm_8 {n : Int} {pa p0 p' tr m : Int → Int} (h8 : n = 8) (hp0 : ∀ j, p0 j = if 0 ≤ j ∧ j < 24927 then pa (j + 3561) else pa j) (h : ∀ j, p' j = if 3561 * fU (fun _ => n) 2 (n - 1) 2 ≤ j ∧ j < 3561 * fU (fun _ => n) 2 (n - 1) 2 + 3561 then tr (j - 3561 * fU (fun _ => n) 2 (n - 1) 2) else p0 j) (ht : ∀ j : Int, 0 ≤ j ∧ j < 3561 → tr j = m j) : RM n pa m p' := by
  subst h8
  simp only [fU_s] at h
  refine ⟨fun _ => ⟨fun k j hk hj => ?_, fun j hj => ?_⟩, fun h => absurd rfl h⟩
  · rw [h, if_neg (by omega), hp0, if_pos (by omega)]
    congr 1; omega
  · rw [h, if_pos (by omega), ← ht j hj]
    congr 1; omega
theorem rm_n {n : Int} {pa p' tr m : Int → Int} (h8 : n ≠ 8) (h : ∀ j, p' j = if 3561 * n ≤ j ∧ j < 3561 * n + 3561 then tr (j - 3561 * n) else pa j) (ht : ∀ j : Int, 0 ≤ j ∧ j < 3561 → tr j = m j) : RM n pa m p' := by
  refine ⟨fun h => absurd h h8, fun _ => ⟨fun k j hk hj => ?_, fun j hj => ?_⟩⟩
  · rw [h, if_neg (by omega)]
  · rw [h, if_pos (by omega), ← ht j hj]
    congr 1; omega

theorem c_M_changes {E : gE} {w : gW} {im : gIm} {Q : gQ} {f : Nat → Int} {m : Int → Int} (hm : MR E w f m) {pa : Int → Int} (u4 : w 64 = intE 28488 pa) (u6 : ∃ tr, w 66 = intE 3561 tr) (r2 : 0 ≤ f 2 ∧ f 2 ≤ 8) (hQ : ∀ w', MCg E w f m pa w' → Q (.inl none) w' im) : GM E 1 y_M_changes m_M_changes 0 0 [.ref (gad E 62)] w im Q := by
  obtain ⟨hn, u2, u3⟩ := id hm
  have k2 : g_cell E w im (gad E 62) _ := g_mut 62 (by omega) u2
  have k3 : g_cell E w im (gad E 63) _ := g_mut 63 (by omega) u3
  obtain ⟨tr, u6⟩ := u6
  refine g_enter (by decide) rfl rfl (fun h => by first | rfl | cases h) (Nat.le_of_ble_eq_true rfl) rfl ?_
  refine g_aload_n (n := 0) (i := 0) rfl rfl d_M_changes_0 ?_
  refine g_callV0 rfl rfl e_M_keepTried l_M_39 iv_M_keepTried 9 (by decide) rfl (by assumption) (by decide) (Nat.zero_le _) (Nat.zero_le _) (Nat.le_of_ble_eq_true rfl) d_M_changes_1 (c_M_keepTried hm u6 (fun w tr6 hs6 ht6 hw6 => ?_))
  refine g_retv ?_
  have hm0 := hm
  have hm : MR E w f m := ⟨hn, (hw6 62 (by omega)).trans u2, (hw6 63 (by omega)).trans u3⟩
  have k2 : g_cell E w im (gad E 62) _ := g_mut 62 (by omega) hm.2.1
  refine g_aload_n (n := 0) (i := 0) rfl rfl d_M_changes_4 ?_
  refine g_callV0 rfl rfl e_M_remember l_M_42 iv_M_remember 9 (by decide) rfl (by assumption) (by decide) (Nat.zero_le _) (Nat.zero_le _) (Nat.le_of_ble_eq_true rfl) d_M_changes_5 (c_M_remember (pa := pa) (tr := tr6) hm ((hw6 64 (by omega)).trans u4) hs6 r2 (fun h8 w _ p0 p' hp0 a1 a2 a3 a4 => ?_) (fun h8 w p' a1 a2 a3 a4 => ?_))
  · refine g_retv ?_
    refine g_return rfl d_M_changes_8 ?_
    first
    | (refine hQ _ ⟨p', ⟨hn, by rw [a1, fU_fU, fU_s, show nxM (f 2) = f 2 - 1 + 1 by unfold nxM; omega], (a3 63 (by omega) (by omega)).trans hm.2.2⟩, a2, ?_, ⟨tr6, (a3 66 (by omega) (by omega)).trans hs6⟩, fun j h1 h2 h3 => (a3 j h1 h2).trans (hw6 j h3)⟩; exact rm_8 h8 hp0 a4 ht6)
    | (refine hQ _ ⟨p', ⟨hn, by rw [a1, show nxM (f 2) = f 2 + 1 from if_neg h8], (a3 63 (by omega) (by omega)).trans hm.2.2⟩, a2, ?_, ⟨tr6, (a3 66 (by omega) (by omega)).trans hs6⟩, fun j h1 h2 h3 => (a3 j h1 h2).trans (hw6 j h3)⟩; exact rm_n h8 a4 ht6)
  · refine g_retv ?_
    refine g_return rfl d_M_changes_8 ?_
    first
    | (refine hQ _ ⟨p', ⟨hn, by rw [a1, fU_fU, fU_s, show nxM (f 2) = f 2 - 1 + 1 by unfold nxM; omega], (a3 63 (by omega) (by omega)).trans hm.2.2⟩, a2, ?_, ⟨tr6, (a3 66 (by omega) (by omega)).trans hs6⟩, fun j h1 h2 h3 => (a3 j h1 h2).trans (hw6 j h3)⟩; exact rm_8 h8 hp0 a4 ht6)
    | (refine hQ _ ⟨p', ⟨hn, by rw [a1, show nxM (f 2) = f 2 + 1 from if_neg h8], (a3 63 (by omega) (by omega)).trans hm.2.2⟩, a2, ?_, ⟨tr6, (a3 66 (by omega) (by omega)).trans hs6⟩, fun j h1 h2 h3 => (a3 j h1 h2).trans (hw6 j h3)⟩; exact rm_n h8 a4 ht6)

def mAddG (m : Int → Int) (x y : Int) : Int → Int := uI (uI (uI m (5 + 34 * m 1) x) (5 + 34 * m 1 + 1) y) 1 (m 1 + 1)
def gAddG (m : Int → Int) (x y : Int) : Int × Int × (Int → Int) := if (0 ≤ x ∧ x ≤ 3) ∧ (0 ≤ y ∧ y ≤ 99) then (if m 1 = 12 then (2, 0, m) else (0, m 1, mAddG m x y)) else (1, 0, m)
def mAddP (m : Int → Int) (q : Pt9) : Int → Int := uI (uI (uI (uI (uI (uI (uI m (413 + 6 * m 2) q.1) (413 + 6 * m 2 + 1) q.2.1) (413 + 6 * m 2 + 2) q.2.2.1) (413 + 6 * m 2 + 3) q.2.2.2.1) (413 + 6 * m 2 + 4) q.2.2.2.2.1) (413 + 6 * m 2 + 5) q.2.2.2.2.2) 2 (m 2 + 1)
def gdP (q : Pt9) : Prop := (((0 ≤ q.1 ∧ q.1 ≤ 2) ∧ (1 ≤ q.2.1 ∧ q.2.1 ≤ 9) ∧ (0 ≤ q.2.2.1 ∧ q.2.2.1 ≤ 23) ∧ (0 ≤ q.2.2.2.1 ∧ q.2.2.2.1 ≤ 23)) ∧ q.2.2.1 ≤ q.2.2.2.1) ∧ (1 ≤ q.2.2.2.2.1 ∧ q.2.2.2.2.1 ≤ 15) ∧ (1 ≤ q.2.2.2.2.2 ∧ q.2.2.2.2.2 ≤ 9999)
noncomputable def gAddP (m : Int → Int) (q : Pt9) : Int × Int × (Int → Int) := @ite _ (gdP q) (Classical.propDecidable _) (if m 2 = 8 then (2, 0, m) else (0, m 2, mAddP m q)) (1, 0, m)

theorem c_M_addGate {E : gE} {w : gW} {im : gIm} {Q : gQ} {f : Nat → Int} {m : Int → Int} (hm : MR E w f m) (ok : okM m) {pa : Int → Int} (u4 : w 64 = intE 28488 pa) (u6 : ∃ tr, w 66 = intE 3561 tr) (r2 : 0 ≤ f 2 ∧ f 2 ≤ 8) {x y : Int} (rx : -2147483648 ≤ x ∧ x < 2147483648) (ry : -2147483648 ≤ y ∧ y < 2147483648) (hQ : ∀ t r m' w', (t, r, m') = gAddG m x y → MOut E w f m pa t m' w' → Q (oV r) w' im) : GM E 2 y_M_addGate m_M_addGate 0 0 [.ref (gad E 62), .int (iI x), .int (iI y)] w im Q := by
  obtain ⟨hn, u2, u3⟩ := id hm
  have k2 : g_cell E w im (gad E 62) _ := g_mut 62 (by omega) u2
  have k3 : g_cell E w im (gad E 63) _ := g_mut 63 (by omega) u3
  obtain ⟨z0, z1, z2, z3, z4, z5, z6, z7, z8, z9⟩ := id ok
  refine g_enter (by decide) rfl rfl (fun h => by first | rfl | cases h) (Nat.le_of_ble_eq_true rfl) rfl ?_
  refine g_aload_n (n := 0) (i := 0) rfl rfl d_M_addGate_0 ?_
  refine g_iconst_i d_M_addGate_1 ?_
  refine g_putA 9 6 62 (by omega) u2 f_M_33 (Or.inl rfl) (by rfl) (by rfl) (Nat.le_of_ble_eq_true rfl) d_M_addGate_2 (fun w hs hn9 => ?_)
  have hth := hm.th (t := 0) hs hn9
  have hm0 := hm
  have hm := hth.1
  obtain ⟨hn, u2, u3⟩ := id hm
  have k2 : g_cell E w im (gad E 62) _ := g_mut 62 (by omega) u2
  have k3 : g_cell E w im (gad E 63) _ := g_mut 63 (by omega) u3
  have u4 := (hn9 64 (by omega)).trans u4
  have u6 : ∃ tr, w 66 = intE 3561 tr := by obtain ⟨tr, u6⟩ := u6; exact ⟨tr, (hn9 66 (by omega)).trans u6⟩
  have r22 : 0 ≤ fU f 6 (0) 2 ∧ fU f 6 (0) 2 ≤ 8 := r2
  refine g_iload_n (n := 1) (i := 1) rfl rfl d_M_addGate_5 ?_
  refine g_iconst_i d_M_addGate_6 ?_
  refine g_iconst_i d_M_addGate_7 ?_
  refine g_callS3 rfl rfl e_M_isIn l_M_45 st_M_isIn (by decide) (Nat.zero_le _) (Nat.zero_le _) (Nat.le_of_ble_eq_true rfl) d_M_addGate_8 (c_M_isIn (by omega) (by omega) (by omega) (fun hA => ?_) (fun hA => ?_))
  · refine g_ret ?_
    refine g_if_eq_i (tgt := 24) (by decide) d_M_addGate_11 (by decide) (fun h => absurd h (by decide)) (fun h11 => ?_)
    refine g_iload_n (n := 2) (i := 2) rfl rfl d_M_addGate_14 ?_
    refine g_iconst_i d_M_addGate_15 ?_
    refine g_bipush_i (by decide) d_M_addGate_16 ?_
    refine g_callS3 rfl rfl e_M_isIn l_M_45 st_M_isIn (by decide) (Nat.zero_le _) (Nat.zero_le _) (Nat.le_of_ble_eq_true rfl) d_M_addGate_18 (c_M_isIn (by omega) (by omega) (by omega) (fun hB => ?_) (fun hB => ?_))
    · refine g_ret ?_
      refine g_if_ne_i (tgt := 30) (by decide) d_M_addGate_21 (by decide) (fun h21 => ?_) (fun h => absurd h (by decide))
      refine g_aload_n (n := 0) (i := 0) rfl rfl d_M_addGate_30 ?_
      refine g_getfield 9 0 f_M_9 (by assumption) (by rfl) d_M_addGate_31 ?_
      refine g_iconst_i d_M_addGate_34 ?_
      refine g_iaload_i (by assumption) (by omega) (by omega) (by rfl) d_M_addGate_35 ?_
      refine g_bipush_i (by decide) d_M_addGate_36 ?_
      refine g_icmp_ne_i (tgt := 47) (by omega) (by decide) d_M_addGate_38 (by decide) (fun h38 => ?_) (fun h38 => ?_)
      · refine g_aload_n (n := 0) (i := 0) rfl rfl d_M_addGate_47 ?_
        refine g_callV0 rfl rfl e_M_changes l_M_56 iv_M_changes 9 (by decide) rfl (by assumption) (by decide) (Nat.zero_le _) (Nat.zero_le _) (Nat.le_of_ble_eq_true rfl) d_M_addGate_48 (c_M_changes hm u4 u6 r22 (fun w hG => ?_))
        refine g_retv ?_
        have hC := MCh.mk hth.2.2 hth.2.1 hn9 hG
        obtain ⟨f5, q5, hm, hC1, hC2, hC3, hC4, hC5, hC6, hC7⟩ := id hC
        obtain ⟨hn, u2, u3⟩ := id hm
        have k2 : g_cell E w im (gad E 62) _ := g_mut 62 (by omega) u2
        have k3 : g_cell E w im (gad E 63) _ := g_mut 63 (by omega) u3
        refine g_iconst_i d_M_addGate_51 ?_
        refine g_bipush_i (by decide) d_M_addGate_52 ?_
        refine g_aload_n (n := 0) (i := 0) rfl rfl d_M_addGate_54 ?_
        refine g_getfield 9 0 f_M_9 (by assumption) (by rfl) d_M_addGate_55 ?_
        refine g_iconst_i d_M_addGate_58 ?_
        refine g_iaload_i (by assumption) (by omega) (by omega) (by rfl) d_M_addGate_59 ?_
        refine g_imul_i d_M_addGate_60 ?_
        refine g_iadd_i d_M_addGate_61 ?_
        refine g_istore_n (n := 3) (i := 3) rfl (by decide) rfl d_M_addGate_62 ?_
        refine g_aload_n (n := 0) (i := 0) rfl rfl d_M_addGate_63 ?_
        refine g_getfield 9 0 f_M_9 (by assumption) (by rfl) d_M_addGate_64 ?_
        refine g_iload_n (n := 3) (i := 3) rfl rfl d_M_addGate_67 ?_
        refine g_iload_n (n := 1) (i := 1) rfl rfl d_M_addGate_68 ?_
        refine g_iastoreA 63 (by omega) u3 (by omega) (by omega) (by rfl) d_M_addGate_69 (fun w hs hn9 => ?_)
        have hC := hC.row hs hn9
        obtain ⟨f5, q5, hm, hC1, hC2, hC3, hC4, hC5, hC6, hC7⟩ := id hC
        obtain ⟨hn, u2, u3⟩ := id hm
        have k2 : g_cell E w im (gad E 62) _ := g_mut 62 (by omega) u2
        have k3 : g_cell E w im (gad E 63) _ := g_mut 63 (by omega) u3
        refine g_aload_n (n := 0) (i := 0) rfl rfl d_M_addGate_70 ?_
        refine g_getfield 9 0 f_M_9 (by assumption) (by rfl) d_M_addGate_71 ?_
        refine g_iload_n (n := 3) (i := 3) rfl rfl d_M_addGate_74 ?_
        refine g_iconst_i d_M_addGate_75 ?_
        refine g_iadd_i d_M_addGate_76 ?_
        refine g_iload_n (n := 2) (i := 2) rfl rfl d_M_addGate_77 ?_
        refine g_iastoreA 63 (by omega) u3 (by omega) (by omega) (by rfl) d_M_addGate_78 (fun w hs hn9 => ?_)
        have hC := hC.row hs hn9
        obtain ⟨f5, q5, hm, hC1, hC2, hC3, hC4, hC5, hC6, hC7⟩ := id hC
        obtain ⟨hn, u2, u3⟩ := id hm
        have k2 : g_cell E w im (gad E 62) _ := g_mut 62 (by omega) u2
        have k3 : g_cell E w im (gad E 63) _ := g_mut 63 (by omega) u3
        refine g_aload_n (n := 0) (i := 0) rfl rfl d_M_addGate_79 ?_
        refine g_getfield 9 0 f_M_9 (by assumption) (by rfl) d_M_addGate_80 ?_
        refine g_iconst_i d_M_addGate_83 ?_
        refine g_dup2 rfl rfl d_M_addGate_84 ?_
        refine g_iaload_i (by assumption) (by omega) (by omega) (by rfl) d_M_addGate_85 ?_
        refine g_iconst_i d_M_addGate_86 ?_
        refine g_iadd_i d_M_addGate_87 ?_
        refine g_iastoreA 63 (by omega) u3 (by omega) (by omega) (by rfl) d_M_addGate_88 (fun w hs hn9 => ?_)
        have hC := hC.row hs hn9
        obtain ⟨f5, q5, hm, hC1, hC2, hC3, hC4, hC5, hC6, hC7⟩ := id hC
        obtain ⟨hn, u2, u3⟩ := id hm
        have k2 : g_cell E w im (gad E 62) _ := g_mut 62 (by omega) u2
        have k3 : g_cell E w im (gad E 63) _ := g_mut 63 (by omega) u3
        refine g_aload_n (n := 0) (i := 0) rfl rfl d_M_addGate_89 ?_
        refine g_getfield 9 0 f_M_9 (by assumption) (by rfl) d_M_addGate_90 ?_
        refine g_iconst_i d_M_addGate_93 ?_
        refine g_iaload_i (by assumption) (by omega) (by omega) (by rfl) d_M_addGate_94 ?_
        refine g_iconst_i d_M_addGate_95 ?_
        refine g_isub_i d_M_addGate_96 ?_
        refine g_ireturn_i rfl d_M_addGate_97 ?_
        refine hQ 0 _ _ _ ?_ (Or.inl ⟨rfl, hC⟩)
        unfold gAddG mAddG
        rw [if_pos ⟨hA, hB⟩, if_neg (by omega)]
        refine Prod.ext rfl (Prod.ext ?_ ?_)
        · show uI _ 1 _ 1 - 1 = m 1
          rw [uI_s, uI_n (by omega), uI_n (by omega)]
          omega
        · show uI _ 1 _ = uI _ 1 (m 1 + 1)
          congr 1
          rw [uI_n (by omega), uI_n (by omega)]
      · refine g_aload_n (n := 0) (i := 0) rfl rfl d_M_addGate_41 ?_
        refine g_iconst_i d_M_addGate_42 ?_
        refine g_callV1 rfl rfl e_M_fail l_M_52 iv_M_fail 9 (by decide) rfl (by assumption) (by decide) (Nat.zero_le _) (Nat.zero_le _) (Nat.le_of_ble_eq_true rfl) d_M_addGate_43 (c_M_fail hm (fun w hF => ?_))
        refine g_ret ?_
        refine g_ireturn_i rfl d_M_addGate_46 ?_
        exact hQ _ _ _ _ (by unfold gAddG; first | (rw [if_neg (fun h => hA h.1)]; done) | (rw [if_neg (fun h => hB h.2)]; done) | (rw [if_pos ⟨hA, hB⟩, if_pos (by omega)]; done)) (Or.inr ⟨by decide, rfl, MTh.trans hth.2.2 hn9 hF⟩)
    · refine g_ret ?_
      refine g_if_ne_i (tgt := 30) (by decide) d_M_addGate_21 (by decide) (fun h => absurd h (by decide)) (fun h21 => ?_)
      refine g_aload_n (n := 0) (i := 0) rfl rfl d_M_addGate_24 ?_
      refine g_iconst_i d_M_addGate_25 ?_
      refine g_callV1 rfl rfl e_M_fail l_M_52 iv_M_fail 9 (by decide) rfl (by assumption) (by decide) (Nat.zero_le _) (Nat.zero_le _) (Nat.le_of_ble_eq_true rfl) d_M_addGate_26 (c_M_fail hm (fun w hF => ?_))
      refine g_ret ?_
      refine g_ireturn_i rfl d_M_addGate_29 ?_
      exact hQ _ _ _ _ (by unfold gAddG; first | (rw [if_neg (fun h => hA h.1)]; done) | (rw [if_neg (fun h => hB h.2)]; done) | (rw [if_pos ⟨hA, hB⟩, if_pos (by omega)]; done)) (Or.inr ⟨by decide, rfl, MTh.trans hth.2.2 hn9 hF⟩)
  · refine g_ret ?_
    refine g_if_eq_i (tgt := 24) (by decide) d_M_addGate_11 (by decide) (fun h11 => ?_) (fun h => absurd h (by decide))
    refine g_aload_n (n := 0) (i := 0) rfl rfl d_M_addGate_24 ?_
    refine g_iconst_i d_M_addGate_25 ?_
    refine g_callV1 rfl rfl e_M_fail l_M_52 iv_M_fail 9 (by decide) rfl (by assumption) (by decide) (Nat.zero_le _) (Nat.zero_le _) (Nat.le_of_ble_eq_true rfl) d_M_addGate_26 (c_M_fail hm (fun w hF => ?_))
    refine g_ret ?_
    refine g_ireturn_i rfl d_M_addGate_29 ?_
    exact hQ _ _ _ _ (by unfold gAddG; first | (rw [if_neg (fun h => hA h.1)]; done) | (rw [if_neg (fun h => hB h.2)]; done) | (rw [if_pos ⟨hA, hB⟩, if_pos (by omega)]; done)) (Or.inr ⟨by decide, rfl, MTh.trans hth.2.2 hn9 hF⟩)

theorem c_M_addProduct {E : gE} {w : gW} {im : gIm} {Q : gQ} {f : Nat → Int} {m : Int → Int} (hm : MR E w f m) (ok : okM m) {pa : Int → Int} (u4 : w 64 = intE 28488 pa) (u6 : ∃ tr, w 66 = intE 3561 tr) (r2 : 0 ≤ f 2 ∧ f 2 ≤ 8) {x1 x2 x3 x4 x5 x6 : Int} (rx1 : -2147483648 ≤ x1 ∧ x1 < 2147483648) (rx2 : -2147483648 ≤ x2 ∧ x2 < 2147483648) (rx3 : -2147483648 ≤ x3 ∧ x3 < 2147483648) (rx4 : -2147483648 ≤ x4 ∧ x4 < 2147483648) (rx5 : -2147483648 ≤ x5 ∧ x5 < 2147483648) (rx6 : -2147483648 ≤ x6 ∧ x6 < 2147483648) (hQ : ∀ t r m' w', (t, r, m') = gAddP m (x1, x2, x3, x4, x5, x6) → MOut E w f m pa t m' w' → Q (oV r) w' im) : GM E 2 y_M_addProduct m_M_addProduct 0 0 [.ref (gad E 62), .int (iI x1), .int (iI x2), .int (iI x3), .int (iI x4), .int (iI x5), .int (iI x6)] w im Q := by
  obtain ⟨hn, u2, u3⟩ := id hm
  have k2 : g_cell E w im (gad E 62) _ := g_mut 62 (by omega) u2
  have k3 : g_cell E w im (gad E 63) _ := g_mut 63 (by omega) u3
  obtain ⟨z0, z1, z2, z3, z4, z5, z6, z7, z8, z9⟩ := id ok
  refine g_enter (by decide) rfl rfl (fun h => by first | rfl | cases h) (Nat.le_of_ble_eq_true rfl) rfl ?_
  refine g_aload_n (n := 0) (i := 0) rfl rfl d_M_addProduct_0 ?_
  refine g_iconst_i d_M_addProduct_1 ?_
  refine g_putA 9 6 62 (by omega) u2 f_M_33 (Or.inl rfl) (by rfl) (by rfl) (Nat.le_of_ble_eq_true rfl) d_M_addProduct_2 (fun w hs hn9 => ?_)
  have hth := hm.th (t := 0) hs hn9
  have hm0 := hm
  have hm := hth.1
  obtain ⟨hn, u2, u3⟩ := id hm
  have k2 : g_cell E w im (gad E 62) _ := g_mut 62 (by omega) u2
  have k3 : g_cell E w im (gad E 63) _ := g_mut 63 (by omega) u3
  have u4 := (hn9 64 (by omega)).trans u4
  have u6 : ∃ tr, w 66 = intE 3561 tr := by obtain ⟨tr, u6⟩ := u6; exact ⟨tr, (hn9 66 (by omega)).trans u6⟩
  have r22 : 0 ≤ fU f 6 (0) 2 ∧ fU f 6 (0) 2 ≤ 8 := r2
  refine g_iload_n (n := 1) (i := 1) rfl rfl d_M_addProduct_5 ?_
  refine g_iconst_i d_M_addProduct_6 ?_
  refine g_iconst_i d_M_addProduct_7 ?_
  refine g_callS3 rfl rfl e_M_isIn l_M_45 st_M_isIn (by decide) (Nat.zero_le _) (Nat.zero_le _) (Nat.le_of_ble_eq_true rfl) d_M_addProduct_8 (c_M_isIn (by omega) (by omega) (by omega) (fun hA => ?_) (fun hA => ?_))
  · refine g_ret ?_
    refine g_if_eq_i (tgt := 55) (by decide) d_M_addProduct_11 (by decide) (fun h => absurd h (by decide)) (fun h11 => ?_)
    refine g_iload_n (n := 2) (i := 2) rfl rfl d_M_addProduct_14 ?_
    refine g_iconst_i d_M_addProduct_15 ?_
    refine g_bipush_i (by decide) d_M_addProduct_16 ?_
    refine g_callS3 rfl rfl e_M_isIn l_M_45 st_M_isIn (by decide) (Nat.zero_le _) (Nat.zero_le _) (Nat.le_of_ble_eq_true rfl) d_M_addProduct_18 (c_M_isIn (by omega) (by omega) (by omega) (fun hB => ?_) (fun hB => ?_))
    · refine g_ret ?_
      refine g_if_eq_i (tgt := 55) (by decide) d_M_addProduct_21 (by decide) (fun h => absurd h (by decide)) (fun h21 => ?_)
      refine g_iload_n (n := 3) (i := 3) rfl rfl d_M_addProduct_24 ?_
      refine g_iconst_i d_M_addProduct_25 ?_
      refine g_bipush_i (by decide) d_M_addProduct_26 ?_
      refine g_callS3 rfl rfl e_M_isIn l_M_45 st_M_isIn (by decide) (Nat.zero_le _) (Nat.zero_le _) (Nat.le_of_ble_eq_true rfl) d_M_addProduct_28 (c_M_isIn (by omega) (by omega) (by omega) (fun hCc => ?_) (fun hCc => ?_))
      · refine g_ret ?_
        refine g_if_eq_i (tgt := 55) (by decide) d_M_addProduct_31 (by decide) (fun h => absurd h (by decide)) (fun h31 => ?_)
        refine g_iload (i := 4) rfl d_M_addProduct_34 ?_
        refine g_iconst_i d_M_addProduct_36 ?_
        refine g_bipush_i (by decide) d_M_addProduct_37 ?_
        refine g_callS3 rfl rfl e_M_isIn l_M_45 st_M_isIn (by decide) (Nat.zero_le _) (Nat.zero_le _) (Nat.le_of_ble_eq_true rfl) d_M_addProduct_39 (c_M_isIn (by omega) (by omega) (by omega) (fun hD => ?_) (fun hD => ?_))
        · refine g_ret ?_
          refine g_if_eq_i (tgt := 55) (by decide) d_M_addProduct_42 (by decide) (fun h => absurd h (by decide)) (fun h42 => ?_)
          refine g_iload_n (n := 3) (i := 3) rfl rfl d_M_addProduct_45 ?_
          refine g_iload (i := 4) rfl d_M_addProduct_46 ?_
          refine g_icmp_gt_i (tgt := 55) (by omega) (by omega) d_M_addProduct_48 (by decide) (fun h48 => ?_) (fun h48 => ?_)
          · refine g_iconst_i d_M_addProduct_55 ?_
            refine g_istore (i := 7) (by decide) rfl d_M_addProduct_56 ?_
            refine g_iload (i := 7) rfl d_M_addProduct_58 ?_
            refine g_if_eq_i (tgt := 86) (by decide) d_M_addProduct_60 (by decide) (fun h60 => ?_) (fun h => absurd h (by decide))
            refine g_aload_n (n := 0) (i := 0) rfl rfl d_M_addProduct_86 ?_
            refine g_iconst_i d_M_addProduct_87 ?_
            refine g_callV1 rfl rfl e_M_fail l_M_52 iv_M_fail 9 (by decide) rfl (by assumption) (by decide) (Nat.zero_le _) (Nat.zero_le _) (Nat.le_of_ble_eq_true rfl) d_M_addProduct_88 (c_M_fail hm (fun w hF => ?_))
            refine g_ret ?_
            refine g_ireturn_i rfl d_M_addProduct_91 ?_
            exact hQ _ _ _ _ (by unfold gAddP gdP; first | (rw [if_neg (fun h => hA h.1.1.1)]; done) | (rw [if_neg (fun h => hB h.1.1.2.1)]; done) | (rw [if_neg (fun h => hCc h.1.1.2.2.1)]; done) | (rw [if_neg (fun h => hD h.1.1.2.2.2)]; done) | (rw [if_neg (fun h => absurd (show x3 ≤ x4 from h.1.2) (Int.not_le.2 h48))]; done) | (rw [if_neg (fun h => hP h.2.1)]; done) | (rw [if_neg (fun h => hQ9 h.2.2)]; done) | (rw [if_pos ⟨⟨⟨hA, hB, hCc, hD⟩, show x3 ≤ x4 by omega⟩, hP, hQ9⟩, if_pos (by omega)]; done)) (Or.inr ⟨by decide, rfl, MTh.trans hth.2.2 hn9 hF⟩)
          · refine g_iconst_i d_M_addProduct_51 ?_
            refine g_goto (tgt := 56) (by decide) d_M_addProduct_52 ?_
            refine g_istore (i := 7) (by decide) rfl d_M_addProduct_56 ?_
            refine g_iload (i := 7) rfl d_M_addProduct_58 ?_
            refine g_if_eq_i (tgt := 86) (by decide) d_M_addProduct_60 (by decide) (fun h => absurd h (by decide)) (fun h60 => ?_)
            refine g_iload (i := 5) rfl d_M_addProduct_63 ?_
            refine g_iconst_i d_M_addProduct_65 ?_
            refine g_bipush_i (by decide) d_M_addProduct_66 ?_
            refine g_callS3 rfl rfl e_M_isIn l_M_45 st_M_isIn (by decide) (Nat.zero_le _) (Nat.zero_le _) (Nat.le_of_ble_eq_true rfl) d_M_addProduct_68 (c_M_isIn (by omega) (by omega) (by omega) (fun hP => ?_) (fun hP => ?_))
            · refine g_ret ?_
              refine g_if_eq_i (tgt := 86) (by decide) d_M_addProduct_71 (by decide) (fun h => absurd h (by decide)) (fun h71 => ?_)
              refine g_iload (i := 6) rfl d_M_addProduct_74 ?_
              refine g_iconst_i d_M_addProduct_76 ?_
              refine g_sipush_i (by decide) d_M_addProduct_77 ?_
              refine g_callS3 rfl rfl e_M_isIn l_M_45 st_M_isIn (by decide) (Nat.zero_le _) (Nat.zero_le _) (Nat.le_of_ble_eq_true rfl) d_M_addProduct_80 (c_M_isIn (by omega) (by omega) (by omega) (fun hQ9 => ?_) (fun hQ9 => ?_))
              · refine g_ret ?_
                refine g_if_ne_i (tgt := 92) (by decide) d_M_addProduct_83 (by decide) (fun h83 => ?_) (fun h => absurd h (by decide))
                refine g_aload_n (n := 0) (i := 0) rfl rfl d_M_addProduct_92 ?_
                refine g_getfield 9 0 f_M_9 (by assumption) (by rfl) d_M_addProduct_93 ?_
                refine g_iconst_i d_M_addProduct_96 ?_
                refine g_iaload_i (by assumption) (by omega) (by omega) (by rfl) d_M_addProduct_97 ?_
                refine g_bipush_i (by decide) d_M_addProduct_98 ?_
                refine g_icmp_ne_i (tgt := 109) (by omega) (by decide) d_M_addProduct_100 (by decide) (fun h100 => ?_) (fun h100 => ?_)
                · refine g_aload_n (n := 0) (i := 0) rfl rfl d_M_addProduct_109 ?_
                  refine g_callV0 rfl rfl e_M_changes l_M_56 iv_M_changes 9 (by decide) rfl (by assumption) (by decide) (Nat.zero_le _) (Nat.zero_le _) (Nat.le_of_ble_eq_true rfl) d_M_addProduct_110 (c_M_changes hm u4 u6 r22 (fun w hG => ?_))
                  refine g_retv ?_
                  have hC := MCh.mk hth.2.2 hth.2.1 hn9 hG
                  obtain ⟨f5, q5, hm, hC1, hC2, hC3, hC4, hC5, hC6, hC7⟩ := id hC
                  obtain ⟨hn, u2, u3⟩ := id hm
                  have k2 : g_cell E w im (gad E 62) _ := g_mut 62 (by omega) u2
                  have k3 : g_cell E w im (gad E 63) _ := g_mut 63 (by omega) u3
                  refine g_sipush_i (by decide) d_M_addProduct_113 ?_
                  refine g_bipush_i (by decide) d_M_addProduct_116 ?_
                  refine g_aload_n (n := 0) (i := 0) rfl rfl d_M_addProduct_118 ?_
                  refine g_getfield 9 0 f_M_9 (by assumption) (by rfl) d_M_addProduct_119 ?_
                  refine g_iconst_i d_M_addProduct_122 ?_
                  refine g_iaload_i (by assumption) (by omega) (by omega) (by rfl) d_M_addProduct_123 ?_
                  refine g_imul_i d_M_addProduct_124 ?_
                  refine g_iadd_i d_M_addProduct_125 ?_
                  refine g_istore (i := 8) (by decide) rfl d_M_addProduct_126 ?_
                  refine g_aload_n (n := 0) (i := 0) rfl rfl d_M_addProduct_128 ?_
                  refine g_getfield 9 0 f_M_9 (by assumption) (by rfl) d_M_addProduct_129 ?_
                  refine g_iload (i := 8) rfl d_M_addProduct_132 ?_
                  refine g_iload_n (n := 1) (i := 1) rfl rfl d_M_addProduct_134 ?_
                  refine g_iastoreA 63 (by omega) u3 (by omega) (by omega) (by rfl) d_M_addProduct_135 (fun w hs hn9 => ?_)
                  have hC := hC.row hs hn9
                  obtain ⟨f5, q5, hm, hC1, hC2, hC3, hC4, hC5, hC6, hC7⟩ := id hC
                  obtain ⟨hn, u2, u3⟩ := id hm
                  have k2 : g_cell E w im (gad E 62) _ := g_mut 62 (by omega) u2
                  have k3 : g_cell E w im (gad E 63) _ := g_mut 63 (by omega) u3
                  refine g_aload_n (n := 0) (i := 0) rfl rfl d_M_addProduct_136 ?_
                  refine g_getfield 9 0 f_M_9 (by assumption) (by rfl) d_M_addProduct_137 ?_
                  refine g_iload (i := 8) rfl d_M_addProduct_140 ?_
                  refine g_iconst_i d_M_addProduct_142 ?_
                  refine g_iadd_i d_M_addProduct_143 ?_
                  refine g_iload_n (n := 2) (i := 2) rfl rfl d_M_addProduct_144 ?_
                  refine g_iastoreA 63 (by omega) u3 (by omega) (by omega) (by rfl) d_M_addProduct_145 (fun w hs hn9 => ?_)
                  have hC := hC.row hs hn9
                  obtain ⟨f5, q5, hm, hC1, hC2, hC3, hC4, hC5, hC6, hC7⟩ := id hC
                  obtain ⟨hn, u2, u3⟩ := id hm
                  have k2 : g_cell E w im (gad E 62) _ := g_mut 62 (by omega) u2
                  have k3 : g_cell E w im (gad E 63) _ := g_mut 63 (by omega) u3
                  refine g_aload_n (n := 0) (i := 0) rfl rfl d_M_addProduct_146 ?_
                  refine g_getfield 9 0 f_M_9 (by assumption) (by rfl) d_M_addProduct_147 ?_
                  refine g_iload (i := 8) rfl d_M_addProduct_150 ?_
                  refine g_iconst_i d_M_addProduct_152 ?_
                  refine g_iadd_i d_M_addProduct_153 ?_
                  refine g_iload_n (n := 3) (i := 3) rfl rfl d_M_addProduct_154 ?_
                  refine g_iastoreA 63 (by omega) u3 (by omega) (by omega) (by rfl) d_M_addProduct_155 (fun w hs hn9 => ?_)
                  have hC := hC.row hs hn9
                  obtain ⟨f5, q5, hm, hC1, hC2, hC3, hC4, hC5, hC6, hC7⟩ := id hC
                  obtain ⟨hn, u2, u3⟩ := id hm
                  have k2 : g_cell E w im (gad E 62) _ := g_mut 62 (by omega) u2
                  have k3 : g_cell E w im (gad E 63) _ := g_mut 63 (by omega) u3
                  refine g_aload_n (n := 0) (i := 0) rfl rfl d_M_addProduct_156 ?_
                  refine g_getfield 9 0 f_M_9 (by assumption) (by rfl) d_M_addProduct_157 ?_
                  refine g_iload (i := 8) rfl d_M_addProduct_160 ?_
                  refine g_iconst_i d_M_addProduct_162 ?_
                  refine g_iadd_i d_M_addProduct_163 ?_
                  refine g_iload (i := 4) rfl d_M_addProduct_164 ?_
                  refine g_iastoreA 63 (by omega) u3 (by omega) (by omega) (by rfl) d_M_addProduct_166 (fun w hs hn9 => ?_)
                  have hC := hC.row hs hn9
                  obtain ⟨f5, q5, hm, hC1, hC2, hC3, hC4, hC5, hC6, hC7⟩ := id hC
                  obtain ⟨hn, u2, u3⟩ := id hm
                  have k2 : g_cell E w im (gad E 62) _ := g_mut 62 (by omega) u2
                  have k3 : g_cell E w im (gad E 63) _ := g_mut 63 (by omega) u3
                  refine g_aload_n (n := 0) (i := 0) rfl rfl d_M_addProduct_167 ?_
                  refine g_getfield 9 0 f_M_9 (by assumption) (by rfl) d_M_addProduct_168 ?_
                  refine g_iload (i := 8) rfl d_M_addProduct_171 ?_
                  refine g_iconst_i d_M_addProduct_173 ?_
                  refine g_iadd_i d_M_addProduct_174 ?_
                  refine g_iload (i := 5) rfl d_M_addProduct_175 ?_
                  refine g_iastoreA 63 (by omega) u3 (by omega) (by omega) (by rfl) d_M_addProduct_177 (fun w hs hn9 => ?_)
                  have hC := hC.row hs hn9
                  obtain ⟨f5, q5, hm, hC1, hC2, hC3, hC4, hC5, hC6, hC7⟩ := id hC
                  obtain ⟨hn, u2, u3⟩ := id hm
                  have k2 : g_cell E w im (gad E 62) _ := g_mut 62 (by omega) u2
                  have k3 : g_cell E w im (gad E 63) _ := g_mut 63 (by omega) u3
                  refine g_aload_n (n := 0) (i := 0) rfl rfl d_M_addProduct_178 ?_
                  refine g_getfield 9 0 f_M_9 (by assumption) (by rfl) d_M_addProduct_179 ?_
                  refine g_iload (i := 8) rfl d_M_addProduct_182 ?_
                  refine g_iconst_i d_M_addProduct_184 ?_
                  refine g_iadd_i d_M_addProduct_185 ?_
                  refine g_iload (i := 6) rfl d_M_addProduct_186 ?_
                  refine g_iastoreA 63 (by omega) u3 (by omega) (by omega) (by rfl) d_M_addProduct_188 (fun w hs hn9 => ?_)
                  have hC := hC.row hs hn9
                  obtain ⟨f5, q5, hm, hC1, hC2, hC3, hC4, hC5, hC6, hC7⟩ := id hC
                  obtain ⟨hn, u2, u3⟩ := id hm
                  have k2 : g_cell E w im (gad E 62) _ := g_mut 62 (by omega) u2
                  have k3 : g_cell E w im (gad E 63) _ := g_mut 63 (by omega) u3
                  refine g_aload_n (n := 0) (i := 0) rfl rfl d_M_addProduct_189 ?_
                  refine g_getfield 9 0 f_M_9 (by assumption) (by rfl) d_M_addProduct_190 ?_
                  refine g_iconst_i d_M_addProduct_193 ?_
                  refine g_dup2 rfl rfl d_M_addProduct_194 ?_
                  refine g_iaload_i (by assumption) (by omega) (by omega) (by rfl) d_M_addProduct_195 ?_
                  refine g_iconst_i d_M_addProduct_196 ?_
                  refine g_iadd_i d_M_addProduct_197 ?_
                  refine g_iastoreA 63 (by omega) u3 (by omega) (by omega) (by rfl) d_M_addProduct_198 (fun w hs hn9 => ?_)
                  have hC := hC.row hs hn9
                  obtain ⟨f5, q5, hm, hC1, hC2, hC3, hC4, hC5, hC6, hC7⟩ := id hC
                  obtain ⟨hn, u2, u3⟩ := id hm
                  have k2 : g_cell E w im (gad E 62) _ := g_mut 62 (by omega) u2
                  have k3 : g_cell E w im (gad E 63) _ := g_mut 63 (by omega) u3
                  refine g_aload_n (n := 0) (i := 0) rfl rfl d_M_addProduct_199 ?_
                  refine g_getfield 9 0 f_M_9 (by assumption) (by rfl) d_M_addProduct_200 ?_
                  refine g_iconst_i d_M_addProduct_203 ?_
                  refine g_iaload_i (by assumption) (by omega) (by omega) (by rfl) d_M_addProduct_204 ?_
                  refine g_iconst_i d_M_addProduct_205 ?_
                  refine g_isub_i d_M_addProduct_206 ?_
                  refine g_ireturn_i rfl d_M_addProduct_207 ?_
                  refine hQ 0 _ _ _ ?_ (Or.inl ⟨rfl, hC⟩)
                  unfold gAddP gdP mAddP
                  rw [if_pos ⟨⟨⟨hA, hB, hCc, hD⟩, show x3 ≤ x4 by omega⟩, hP, hQ9⟩, if_neg (by omega)]
                  refine Prod.ext rfl (Prod.ext ?_ ?_)
                  · show uI _ 2 _ 2 - 1 = m 2
                    rw [uI_s, uI_n (by omega), uI_n (by omega), uI_n (by omega), uI_n (by omega), uI_n (by omega), uI_n (by omega)]
                    omega
                  · show uI _ 2 _ = uI _ 2 (m 2 + 1)
                    congr 1
                    rw [uI_n (by omega), uI_n (by omega), uI_n (by omega), uI_n (by omega), uI_n (by omega), uI_n (by omega)]
                · refine g_aload_n (n := 0) (i := 0) rfl rfl d_M_addProduct_103 ?_
                  refine g_iconst_i d_M_addProduct_104 ?_
                  refine g_callV1 rfl rfl e_M_fail l_M_52 iv_M_fail 9 (by decide) rfl (by assumption) (by decide) (Nat.zero_le _) (Nat.zero_le _) (Nat.le_of_ble_eq_true rfl) d_M_addProduct_105 (c_M_fail hm (fun w hF => ?_))
                  refine g_ret ?_
                  refine g_ireturn_i rfl d_M_addProduct_108 ?_
                  exact hQ _ _ _ _ (by unfold gAddP gdP; rw [if_pos ⟨⟨⟨hA, hB, hCc, hD⟩, show x3 ≤ x4 by omega⟩, hP, hQ9⟩, if_pos (by omega)]) (Or.inr ⟨by decide, rfl, MTh.trans hth.2.2 hn9 hF⟩)
              · refine g_ret ?_
                refine g_if_ne_i (tgt := 92) (by decide) d_M_addProduct_83 (by decide) (fun h => absurd h (by decide)) (fun h83 => ?_)
                refine g_aload_n (n := 0) (i := 0) rfl rfl d_M_addProduct_86 ?_
                refine g_iconst_i d_M_addProduct_87 ?_
                refine g_callV1 rfl rfl e_M_fail l_M_52 iv_M_fail 9 (by decide) rfl (by assumption) (by decide) (Nat.zero_le _) (Nat.zero_le _) (Nat.le_of_ble_eq_true rfl) d_M_addProduct_88 (c_M_fail hm (fun w hF => ?_))
                refine g_ret ?_
                refine g_ireturn_i rfl d_M_addProduct_91 ?_
                exact hQ _ _ _ _ (by unfold gAddP gdP; first | (rw [if_neg (fun h => hA h.1.1.1)]; done) | (rw [if_neg (fun h => hB h.1.1.2.1)]; done) | (rw [if_neg (fun h => hCc h.1.1.2.2.1)]; done) | (rw [if_neg (fun h => hD h.1.1.2.2.2)]; done) | (rw [if_neg (fun h => absurd (show x3 ≤ x4 from h.1.2) (Int.not_le.2 h48))]; done) | (rw [if_neg (fun h => hP h.2.1)]; done) | (rw [if_neg (fun h => hQ9 h.2.2)]; done) | (rw [if_pos ⟨⟨⟨hA, hB, hCc, hD⟩, show x3 ≤ x4 by omega⟩, hP, hQ9⟩, if_pos (by omega)]; done)) (Or.inr ⟨by decide, rfl, MTh.trans hth.2.2 hn9 hF⟩)
            · refine g_ret ?_
              refine g_if_eq_i (tgt := 86) (by decide) d_M_addProduct_71 (by decide) (fun h71 => ?_) (fun h => absurd h (by decide))
              refine g_aload_n (n := 0) (i := 0) rfl rfl d_M_addProduct_86 ?_
              refine g_iconst_i d_M_addProduct_87 ?_
              refine g_callV1 rfl rfl e_M_fail l_M_52 iv_M_fail 9 (by decide) rfl (by assumption) (by decide) (Nat.zero_le _) (Nat.zero_le _) (Nat.le_of_ble_eq_true rfl) d_M_addProduct_88 (c_M_fail hm (fun w hF => ?_))
              refine g_ret ?_
              refine g_ireturn_i rfl d_M_addProduct_91 ?_
              exact hQ _ _ _ _ (by unfold gAddP gdP; first | (rw [if_neg (fun h => hA h.1.1.1)]; done) | (rw [if_neg (fun h => hB h.1.1.2.1)]; done) | (rw [if_neg (fun h => hCc h.1.1.2.2.1)]; done) | (rw [if_neg (fun h => hD h.1.1.2.2.2)]; done) | (rw [if_neg (fun h => absurd (show x3 ≤ x4 from h.1.2) (Int.not_le.2 h48))]; done) | (rw [if_neg (fun h => hP h.2.1)]; done) | (rw [if_neg (fun h => hQ9 h.2.2)]; done) | (rw [if_pos ⟨⟨⟨hA, hB, hCc, hD⟩, show x3 ≤ x4 by omega⟩, hP, hQ9⟩, if_pos (by omega)]; done)) (Or.inr ⟨by decide, rfl, MTh.trans hth.2.2 hn9 hF⟩)
        · refine g_ret ?_
          refine g_if_eq_i (tgt := 55) (by decide) d_M_addProduct_42 (by decide) (fun h42 => ?_) (fun h => absurd h (by decide))
          refine g_iconst_i d_M_addProduct_55 ?_
          refine g_istore (i := 7) (by decide) rfl d_M_addProduct_56 ?_
          refine g_iload (i := 7) rfl d_M_addProduct_58 ?_
          refine g_if_eq_i (tgt := 86) (by decide) d_M_addProduct_60 (by decide) (fun h60 => ?_) (fun h => absurd h (by decide))
          refine g_aload_n (n := 0) (i := 0) rfl rfl d_M_addProduct_86 ?_
          refine g_iconst_i d_M_addProduct_87 ?_
          refine g_callV1 rfl rfl e_M_fail l_M_52 iv_M_fail 9 (by decide) rfl (by assumption) (by decide) (Nat.zero_le _) (Nat.zero_le _) (Nat.le_of_ble_eq_true rfl) d_M_addProduct_88 (c_M_fail hm (fun w hF => ?_))
          refine g_ret ?_
          refine g_ireturn_i rfl d_M_addProduct_91 ?_
          exact hQ _ _ _ _ (by unfold gAddP gdP; first | (rw [if_neg (fun h => hA h.1.1.1)]; done) | (rw [if_neg (fun h => hB h.1.1.2.1)]; done) | (rw [if_neg (fun h => hCc h.1.1.2.2.1)]; done) | (rw [if_neg (fun h => hD h.1.1.2.2.2)]; done) | (rw [if_neg (fun h => absurd (show x3 ≤ x4 from h.1.2) (Int.not_le.2 h48))]; done) | (rw [if_neg (fun h => hP h.2.1)]; done) | (rw [if_neg (fun h => hQ9 h.2.2)]; done) | (rw [if_pos ⟨⟨⟨hA, hB, hCc, hD⟩, show x3 ≤ x4 by omega⟩, hP, hQ9⟩, if_pos (by omega)]; done)) (Or.inr ⟨by decide, rfl, MTh.trans hth.2.2 hn9 hF⟩)
      · refine g_ret ?_
        refine g_if_eq_i (tgt := 55) (by decide) d_M_addProduct_31 (by decide) (fun h31 => ?_) (fun h => absurd h (by decide))
        refine g_iconst_i d_M_addProduct_55 ?_
        refine g_istore (i := 7) (by decide) rfl d_M_addProduct_56 ?_
        refine g_iload (i := 7) rfl d_M_addProduct_58 ?_
        refine g_if_eq_i (tgt := 86) (by decide) d_M_addProduct_60 (by decide) (fun h60 => ?_) (fun h => absurd h (by decide))
        refine g_aload_n (n := 0) (i := 0) rfl rfl d_M_addProduct_86 ?_
        refine g_iconst_i d_M_addProduct_87 ?_
        refine g_callV1 rfl rfl e_M_fail l_M_52 iv_M_fail 9 (by decide) rfl (by assumption) (by decide) (Nat.zero_le _) (Nat.zero_le _) (Nat.le_of_ble_eq_true rfl) d_M_addProduct_88 (c_M_fail hm (fun w hF => ?_))
        refine g_ret ?_
        refine g_ireturn_i rfl d_M_addProduct_91 ?_
        exact hQ _ _ _ _ (by unfold gAddP gdP; first | (rw [if_neg (fun h => hA h.1.1.1)]; done) | (rw [if_neg (fun h => hB h.1.1.2.1)]; done) | (rw [if_neg (fun h => hCc h.1.1.2.2.1)]; done) | (rw [if_neg (fun h => hD h.1.1.2.2.2)]; done) | (rw [if_neg (fun h => absurd (show x3 ≤ x4 from h.1.2) (Int.not_le.2 h48))]; done) | (rw [if_neg (fun h => hP h.2.1)]; done) | (rw [if_neg (fun h => hQ9 h.2.2)]; done) | (rw [if_pos ⟨⟨⟨hA, hB, hCc, hD⟩, show x3 ≤ x4 by omega⟩, hP, hQ9⟩, if_pos (by omega)]; done)) (Or.inr ⟨by decide, rfl, MTh.trans hth.2.2 hn9 hF⟩)
    · refine g_ret ?_
      refine g_if_eq_i (tgt := 55) (by decide) d_M_addProduct_21 (by decide) (fun h21 => ?_) (fun h => absurd h (by decide))
      refine g_iconst_i d_M_addProduct_55 ?_
      refine g_istore (i := 7) (by decide) rfl d_M_addProduct_56 ?_
      refine g_iload (i := 7) rfl d_M_addProduct_58 ?_
      refine g_if_eq_i (tgt := 86) (by decide) d_M_addProduct_60 (by decide) (fun h60 => ?_) (fun h => absurd h (by decide))
      refine g_aload_n (n := 0) (i := 0) rfl rfl d_M_addProduct_86 ?_
      refine g_iconst_i d_M_addProduct_87 ?_
      refine g_callV1 rfl rfl e_M_fail l_M_52 iv_M_fail 9 (by decide) rfl (by assumption) (by decide) (Nat.zero_le _) (Nat.zero_le _) (Nat.le_of_ble_eq_true rfl) d_M_addProduct_88 (c_M_fail hm (fun w hF => ?_))
      refine g_ret ?_
      refine g_ireturn_i rfl d_M_addProduct_91 ?_
      exact hQ _ _ _ _ (by unfold gAddP gdP; first | (rw [if_neg (fun h => hA h.1.1.1)]; done) | (rw [if_neg (fun h => hB h.1.1.2.1)]; done) | (rw [if_neg (fun h => hCc h.1.1.2.2.1)]; done) | (rw [if_neg (fun h => hD h.1.1.2.2.2)]; done) | (rw [if_neg (fun h => absurd (show x3 ≤ x4 from h.1.2) (Int.not_le.2 h48))]; done) | (rw [if_neg (fun h => hP h.2.1)]; done) | (rw [if_neg (fun h => hQ9 h.2.2)]; done) | (rw [if_pos ⟨⟨⟨hA, hB, hCc, hD⟩, show x3 ≤ x4 by omega⟩, hP, hQ9⟩, if_pos (by omega)]; done)) (Or.inr ⟨by decide, rfl, MTh.trans hth.2.2 hn9 hF⟩)
  · refine g_ret ?_
    refine g_if_eq_i (tgt := 55) (by decide) d_M_addProduct_11 (by decide) (fun h11 => ?_) (fun h => absurd h (by decide))
    refine g_iconst_i d_M_addProduct_55 ?_
    refine g_istore (i := 7) (by decide) rfl d_M_addProduct_56 ?_
    refine g_iload (i := 7) rfl d_M_addProduct_58 ?_
    refine g_if_eq_i (tgt := 86) (by decide) d_M_addProduct_60 (by decide) (fun h60 => ?_) (fun h => absurd h (by decide))
    refine g_aload_n (n := 0) (i := 0) rfl rfl d_M_addProduct_86 ?_
    refine g_iconst_i d_M_addProduct_87 ?_
    refine g_callV1 rfl rfl e_M_fail l_M_52 iv_M_fail 9 (by decide) rfl (by assumption) (by decide) (Nat.zero_le _) (Nat.zero_le _) (Nat.le_of_ble_eq_true rfl) d_M_addProduct_88 (c_M_fail hm (fun w hF => ?_))
    refine g_ret ?_
    refine g_ireturn_i rfl d_M_addProduct_91 ?_
    exact hQ _ _ _ _ (by unfold gAddP gdP; first | (rw [if_neg (fun h => hA h.1.1.1)]; done) | (rw [if_neg (fun h => hB h.1.1.2.1)]; done) | (rw [if_neg (fun h => hCc h.1.1.2.2.1)]; done) | (rw [if_neg (fun h => hD h.1.1.2.2.2)]; done) | (rw [if_neg (fun h => absurd (show x3 ≤ x4 from h.1.2) (Int.not_le.2 h48))]; done) | (rw [if_neg (fun h => hP h.2.1)]; done) | (rw [if_neg (fun h => hQ9 h.2.2)]; done) | (rw [if_pos ⟨⟨⟨hA, hB, hCc, hD⟩, show x3 ≤ x4 by omega⟩, hP, hQ9⟩, if_pos (by omega)]; done)) (Or.inr ⟨by decide, rfl, MTh.trans hth.2.2 hn9 hF⟩)

