/-! ===== stepping back; the text ===== -/
def cCd (c : CSt) : Int := if 0 < ch c then ch c - 1 else 0

theorem c_H_stepBack {E : gE} {w : gW} {im : gIm} {Q : gQ} {c : CSt} (hx : XW E w im c) (hQ : ∀ w' im', XN E w im (cSetN (cSetH c (cPx c) (cCd c) (cS c)) (cS c (cPx c))) w' im' → Q (.inl none) w' im') : GM E 2 y_H_stepBack m_H_stepBack 0 0 [.ref (gad E 56), .ref (gad E 1)] w im Q := by
  have hx9 := hx
  obtain ⟨⟨hn, x0, x1, x2, x3, x4, x5, m61, x6⟩, ⟨r1, r2, r3⟩, o1, o2, o3, o4⟩ := hx9
  have k0 : g_cell E w im (gad E 0) _ := g_mut 0 (by omega) x0
  have k1 : g_cell E w im (gad E 56) _ := g_mut 56 (by omega) x1
  have k2 : g_cell E w im (gad E 57) _ := g_mut 57 (by omega) x2
  have k3 : g_cell E w im (gad E 58) _ := g_mut 58 (by omega) x3
  have k4 : g_cell E w im (gad E 59) _ := g_mut 59 (by omega) x4
  have k5 : g_cell E w im (gad E 60) _ := g_mut 60 (by omega) x5
  have k6 : g_cell E w im (gad E 61) _ := g_mut 61 (by omega) x6
  have kn := r1.cell
  have kk := r2.cell
  by_cases hc : 0 < cx c
  · have hnx : cPx c = cx c - 1 := by unfold cPx; first | rw [if_pos hc] | rw [if_neg hc]
    have hpr : 0 ≤ cPx c ∧ cPx c < 9 := by rw [hnx]; omega
    have hdr : 0 ≤ cCd c ∧ cCd c ≤ 8 := by unfold cCd; split <;> omega
    refine g_enter (by decide) rfl rfl (fun h => by first | rfl | cases h) (Nat.le_of_ble_eq_true rfl) rfl ?_
    refine g_aload_n (n := 0) (i := 0) rfl rfl d_H_stepBack_0 ?_
    refine g_aload_n (n := 0) (i := 0) rfl rfl d_H_stepBack_1 ?_
    refine g_getfield 2 1 f_H_17 (by assumption) (by rfl) d_H_stepBack_2 ?_
    refine g_if_le_i (tgt := 17) (by first | omega | ((repeat' split) <;> omega)) d_H_stepBack_5 (by decide) (fun h => by exfalso; omega) (fun h5 => ?_)
    refine g_aload_n (n := 0) (i := 0) rfl rfl d_H_stepBack_8 ?_
    refine g_getfield 2 1 f_H_17 (by assumption) (by rfl) d_H_stepBack_9 ?_
    refine g_iconst_i d_H_stepBack_12 ?_
    refine g_isub_i d_H_stepBack_13 ?_
    refine g_goto (tgt := 24) (by decide) d_H_stepBack_14 ?_
    refine g_putA 2 1 56 (by omega) x1 f_H_17 (Or.inl rfl) (by rfl) (by rfl) (Nat.le_of_ble_eq_true rfl) d_H_stepBack_24 (fun w hs hn9 => ?_)
    have x1 : w 56 = hE E (cx c - 1) (ch c) := hs
    have hw := hn9
    have k1 : g_cell E w im (gad E 56) _ := g_mut 56 (by omega) x1
    have k2 : g_cell E w im (gad E 57) _ := g_mut 57 (by omega) ((hn9 57 (by omega)).trans x2)
    refine g_aload_n (n := 0) (i := 0) rfl rfl d_H_stepBack_27 ?_
    refine g_aload_n (n := 0) (i := 0) rfl rfl d_H_stepBack_28 ?_
    refine g_getfield 2 2 f_H_21 (by assumption) (by rfl) d_H_stepBack_29 ?_
    refine g_iconst_i d_H_stepBack_32 ?_
    refine g_isub_i d_H_stepBack_33 ?_
    refine g_iconst_i d_H_stepBack_34 ?_
    refine g_mmax_i l_H_45 x_max.1 x_max.2.1 x_max.2.2 (Nat.le_of_ble_eq_true rfl) (by first | omega | ((repeat' split) <;> omega)) (by first | omega | ((repeat' split) <;> omega)) d_H_stepBack_35 ?_
    refine g_putA 2 2 56 (by omega) x1 f_H_21 (Or.inl rfl) (by rfl) (by rfl) (Nat.le_of_ble_eq_true rfl) d_H_stepBack_38 (fun w hs hn9 => ?_)
    have he : (if ch c - 1 < 0 then 0 else ch c - 1) = cCd c := by unfold cCd; (repeat' split) <;> omega
    have hN1 := hx.sH (nx := cPx c) (k := cCd c) (hs.trans (by simp only [hnx, ← he]; rfl)) (fun j hj => (hn9 j hj).trans (hw j hj)) hpr hdr
    have k1 : g_cell E w im (gad E 56) _ := g_mut 56 (by omega) hN1.2.2.1.2.2.1
    refine g_aload_n (n := 0) (i := 0) rfl rfl d_H_stepBack_41 ?_
    refine g_aload_n (n := 1) (i := 1) rfl rfl d_H_stepBack_42 ?_
    refine g_callV1 rfl rfl e_H_bringBack l_H_48 iv_H_bringBack 2 (by decide) rfl (by assumption) (by decide) (Nat.zero_le _) (Nat.zero_le _) (Nat.le_of_ble_eq_true rfl) d_H_stepBack_43 (c_H_bringBack hN1.2.2 (fun w im hN => ?_))
    refine g_retv ?_
    refine g_return rfl d_H_stepBack_46 ?_
    exact hQ _ _ (hN1.trans hN)
  · have hnx : cPx c = 8 := by unfold cPx; first | rw [if_pos hc] | rw [if_neg hc]
    have hpr : 0 ≤ cPx c ∧ cPx c < 9 := by rw [hnx]; omega
    have hdr : 0 ≤ cCd c ∧ cCd c ≤ 8 := by unfold cCd; split <;> omega
    refine g_enter (by decide) rfl rfl (fun h => by first | rfl | cases h) (Nat.le_of_ble_eq_true rfl) rfl ?_
    refine g_aload_n (n := 0) (i := 0) rfl rfl d_H_stepBack_0 ?_
    refine g_aload_n (n := 0) (i := 0) rfl rfl d_H_stepBack_1 ?_
    refine g_getfield 2 1 f_H_17 (by assumption) (by rfl) d_H_stepBack_2 ?_
    refine g_if_le_i (tgt := 17) (by first | omega | ((repeat' split) <;> omega)) d_H_stepBack_5 (by decide) (fun h5 => ?_) (fun h => by exfalso; omega)
    refine g_aload_n (n := 0) (i := 0) rfl rfl d_H_stepBack_17 ?_
    refine g_getfield 2 0 f_H_11 (by assumption) (by rfl) d_H_stepBack_18 ?_
    refine g_alen_i (by assumption) (by decide) d_H_stepBack_21 ?_
    refine g_iconst_i d_H_stepBack_22 ?_
    refine g_isub_i d_H_stepBack_23 ?_
    refine g_putA 2 1 56 (by omega) x1 f_H_17 (Or.inl rfl) (by rfl) (by rfl) (Nat.le_of_ble_eq_true rfl) d_H_stepBack_24 (fun w hs hn9 => ?_)
    have x1 : w 56 = hE E (8) (ch c) := hs
    have hw := hn9
    have k1 : g_cell E w im (gad E 56) _ := g_mut 56 (by omega) x1
    have k2 : g_cell E w im (gad E 57) _ := g_mut 57 (by omega) ((hn9 57 (by omega)).trans x2)
    refine g_aload_n (n := 0) (i := 0) rfl rfl d_H_stepBack_27 ?_
    refine g_aload_n (n := 0) (i := 0) rfl rfl d_H_stepBack_28 ?_
    refine g_getfield 2 2 f_H_21 (by assumption) (by rfl) d_H_stepBack_29 ?_
    refine g_iconst_i d_H_stepBack_32 ?_
    refine g_isub_i d_H_stepBack_33 ?_
    refine g_iconst_i d_H_stepBack_34 ?_
    refine g_mmax_i l_H_45 x_max.1 x_max.2.1 x_max.2.2 (Nat.le_of_ble_eq_true rfl) (by first | omega | ((repeat' split) <;> omega)) (by first | omega | ((repeat' split) <;> omega)) d_H_stepBack_35 ?_
    refine g_putA 2 2 56 (by omega) x1 f_H_21 (Or.inl rfl) (by rfl) (by rfl) (Nat.le_of_ble_eq_true rfl) d_H_stepBack_38 (fun w hs hn9 => ?_)
    have he : (if ch c - 1 < 0 then 0 else ch c - 1) = cCd c := by unfold cCd; (repeat' split) <;> omega
    have hN1 := hx.sH (nx := cPx c) (k := cCd c) (hs.trans (by simp only [hnx, ← he]; rfl)) (fun j hj => (hn9 j hj).trans (hw j hj)) hpr hdr
    have k1 : g_cell E w im (gad E 56) _ := g_mut 56 (by omega) hN1.2.2.1.2.2.1
    refine g_aload_n (n := 0) (i := 0) rfl rfl d_H_stepBack_41 ?_
    refine g_aload_n (n := 1) (i := 1) rfl rfl d_H_stepBack_42 ?_
    refine g_callV1 rfl rfl e_H_bringBack l_H_48 iv_H_bringBack 2 (by decide) rfl (by assumption) (by decide) (Nat.zero_le _) (Nat.zero_le _) (Nat.le_of_ble_eq_true rfl) d_H_stepBack_43 (c_H_bringBack hN1.2.2 (fun w im hN => ?_))
    refine g_retv ?_
    refine g_return rfl d_H_stepBack_46 ?_
    exact hQ _ _ (hN1.trans hN)


def tLn (t : Tx) (x : Int) : Tx := (x, tp t, to' t, tc t, tn t, tt t, ts t)
def tP (t : Tx) (x : Int) : Tx := (tl t, x, to' t, tc t, tn t, tt t, ts t)
def tOr (t : Tx) (x : Int) : Tx := (tl t, tp t, x, tc t, tn t, tt t, ts t)
def tLt (t : Tx) (x : Int) : Tx := (tl t, tp t, to' t, x, tn t, tt t, ts t)
def tNm (t : Tx) (x : Int) : Tx := (tl t, tp t, to' t, tc t, x, tt t, ts t)
def tTm (t : Tx) (x : Int) : Tx := (tl t, tp t, to' t, tc t, tn t, x, ts t)
def tSg (t : Tx) (m : Int → Int) : Tx := (tl t, tp t, to' t, tc t, tn t, tt t, m)
theorem okT.ln {t : Tx} {x : Int} (h : okT t) (hx : 0 ≤ x ∧ x ≤ 60) : okT (tLn t x) := ⟨hx, h.2⟩
theorem okT.p {t : Tx} {x : Int} (h : okT t) (hx : 0 ≤ x ∧ x ≤ 60) : okT (tP t x) := ⟨h.1, hx, h.2.2⟩
theorem okT.or {t : Tx} {x : Int} (h : okT t) (hx : 0 ≤ x ∧ x ≤ 60) : okT (tOr t x) := ⟨h.1, h.2.1, hx, h.2.2.2⟩
theorem okT.lt {t : Tx} {x : Int} (h : okT t) (hx : 0 ≤ x ∧ x ≤ 255) : okT (tLt t x) := ⟨h.1, h.2.1, h.2.2.1, hx, h.2.2.2.2⟩
theorem okT.nm {t : Tx} {x : Int} (h : okT t) (hx : 0 ≤ x ∧ x ≤ 99999) : okT (tNm t x) := ⟨h.1, h.2.1, h.2.2.1, h.2.2.2.1, hx, h.2.2.2.2.2⟩
theorem okT.tm {t : Tx} {x : Int} (h : okT t) (hx : 0 ≤ x ∧ x ≤ 9) : okT (tTm t x) := ⟨h.1, h.2.1, h.2.2.1, h.2.2.2.1, h.2.2.2.2.1, hx, h.2.2.2.2.2.2⟩
/-- the sign at the position -/
def sg (t : Tx) : Int := if tp t < tl t then ts t (tp t) else 0
theorem sg_rng {t : Tx} (h : okT t) : 0 ≤ sg t ∧ sg t ≤ 255 := by
  obtain ⟨a1, a2, a3, a4, a5, a6, a7⟩ := h
  unfold sg
  split
  · exact a7 _ (by omega)
  · omega
theorem sg_lt {t : Tx} (h : sg t ≠ 0) : tp t < tl t := by
  unfold sg at h
  split at h
  · assumption
  · exact absurd rfl h
def dgB (t : Tx) : Bool := decide (48 ≤ sg t) && decide (sg t ≤ 57)
theorem dgB_iff {t : Tx} : dgB t = true ↔ 48 ≤ sg t ∧ sg t ≤ 57 := by simp [dgB]
theorem dgB_f {t : Tx} (h : sg t < 48 ∨ 57 < sg t) : dgB t = false := by
  rcases hb : dgB t with _ | _
  · rfl
  · have := dgB_iff.1 hb; omega
def tDg (t : Tx) : Tx := tP (tNm t (tn t * 10 + sg t - 48)) (tp t + 1)
def tSk (t : Tx) : Tx := tP t (tp t + 1)
def rdSale (t : Tx) : Bool × Tx :=
  if dgB (tTm (tNm t 0) 1) = true then
    (if sg (tDg (tTm (tNm t 0) 1)) = 42 then
      (if dgB (tNm (tSk (tDg (tTm (tNm t 0) 1))) 0) = true then (true, tNm (tTm (tDg (tNm (tSk (tDg (tTm (tNm t 0) 1))) 0)) (tn (tDg (tNm (tSk (tDg (tTm (tNm t 0) 1))) 0)))) (tn (tDg (tTm (tNm t 0) 1)))) else (false, tNm (tSk (tDg (tTm (tNm t 0) 1))) 0))
    else (true, tDg (tTm (tNm t 0) 1)))
  else (false, tTm (tNm t 0) 1)
def rdMore : Nat → Tx → Tx
  | 0, t => t
  | n + 1, t => if 0 < tn t ∧ dgB t = true then rdMore n (tDg t) else t
def rdNum (t : Tx) : Bool × Tx := if dgB (tNm t 0) = true then (true, rdMore 3 (tDg (tNm t 0))) else (false, tNm t 0)
def numL (x : Int) : Prop := x = 98 ∨ x = 99 ∨ x = 111 ∨ x = 114 ∨ x = 117 ∨ x = 119
def numLB (x : Int) : Bool := decide (x = 98 ∨ x = 99 ∨ x = 111 ∨ x = 114 ∨ x = 117 ∨ x = 119)
def rdOrder (t : Tx) : Bool × Tx := if sg t = 115 then rdSale (tSk (tLt t (sg t))) else if numLB (sg t) = true then rdNum (tSk (tLt t (sg t))) else (false, tLt t (sg t))
def rdAll : Nat → Tx → Int × Tx
  | 0, t => (tp t, t)
  | n + 1, t => if (rdOrder t).1 = true then
      (if sg (tOr (rdOrder t).2 (to' (rdOrder t).2 + 1)) = 59 then rdAll n (tSk (tOr (rdOrder t).2 (to' (rdOrder t).2 + 1)))
       else (if tp (rdOrder t).2 < tl (rdOrder t).2 then tp (rdOrder t).2 else -1, tOr (rdOrder t).2 (to' (rdOrder t).2 + 1)))
    else (tp (rdOrder t).2, (rdOrder t).2)
def TW (E : gE) (w : gW) (t : Tx) : Prop := gN E = 70 ∧ w 58 = tE E t ∧ w 59 = chE t ∧ okT t
def TN (E : gE) (w : gW) (t : Tx) (w' : gW) : Prop := TW E w' t ∧ ∀ j, j ≠ 58 → j ≠ 59 → w' j = w j
theorem TN.trans {E : gE} {w w1 w2 : gW} {t1 t2 : Tx} (h : TN E w t1 w1) (k : TN E w1 t2 w2) : TN E w t2 w2 := ⟨k.1, fun j h1 h2 => (k.2 j h1 h2).trans (h.2 j h1 h2)⟩
theorem XW.tw {E : gE} {w : gW} {im : gIm} {c : CSt} (h : XW E w im c) : TW E w (cT c) := ⟨h.1.1, h.1.2.2.2.2.1, h.1.2.2.2.2.2.1, h.2.2.2.2.2⟩
theorem XW.sTN {E : gE} {w w' : gW} {im : gIm} {c : CSt} {t : Tx} (h : XW E w im c) (k : TN E w t w') : XN E w im (cSetT c t) w' im := h.sT k.1.2.1 k.1.2.2.1 k.2 k.1.2.2.2
theorem tDg_ok {t : Tx} (h : okT t) (hd : dgB t = true) (hn : tn t ≤ 9000) : okT (tDg t) := by
  have h1 := dgB_iff.1 hd
  have h2 := sg_lt (t := t) (by omega)
  obtain ⟨a1, a2, a3, a4, a5, a6, a7⟩ := h
  exact ⟨a1, (show 0 ≤ tp t + 1 ∧ tp t + 1 ≤ 60 by omega), a3, a4, (show 0 ≤ tn t * 10 + sg t - 48 ∧ tn t * 10 + sg t - 48 ≤ 99999 by omega), a6, a7⟩
theorem tSk_ok {t : Tx} (h : okT t) (hd : sg t ≠ 0) : okT (tSk t) := by
  have h2 := sg_lt hd
  have a1 := h.1
  have a2 := h.2.1
  exact h.p (by omega)

theorem c_T_sign {E : gE} {w : gW} {im : gIm} {Q : gQ} {t : Tx} (ht : TW E w t) (hQ : Q (.inl (some (.int (iI (sg t))))) w im) : GM E 0 y_T_sign m_T_sign 0 0 [.ref (gad E 58)] w im Q := by
  have ht9 := ht
  obtain ⟨hn, y0, y1, ok⟩ := ht9
  have hsr := sg_rng ok
  have ok9 := ok
  obtain ⟨a1, a2, a3, a4, a5, a6, a7⟩ := ok9
  have kt : g_cell E w im (gad E 58) _ := g_mut 58 (by omega) y0
  have ks : g_cell E w im (gad E 59) _ := g_mut 59 (by omega) y1
  have hfr : ∀ j, j ≠ 58 → j ≠ 59 → w j = w j := fun _ _ _ => rfl
  refine g_enter (by decide) rfl rfl (fun h => by first | rfl | cases h) (Nat.le_of_ble_eq_true rfl) rfl ?_
  refine g_aload_n (n := 0) (i := 0) rfl rfl d_T_sign_0 ?_
  refine g_getfield 3 2 f_T_19 (by assumption) (by rfl) d_T_sign_1 ?_
  refine g_if_lt_i (tgt := 42) (by first | omega | exact a7 _ (by omega) | (have := a7 (tp t) (by omega); omega)) d_T_sign_4 (by decide) (fun h => by exfalso; omega) (fun h4 => ?_)
  refine g_aload_n (n := 0) (i := 0) rfl rfl d_T_sign_7 ?_
  refine g_getfield 3 2 f_T_19 (by assumption) (by rfl) d_T_sign_8 ?_
  refine g_aload_n (n := 0) (i := 0) rfl rfl d_T_sign_11 ?_
  refine g_getfield 3 1 f_T_15 (by assumption) (by rfl) d_T_sign_12 ?_
  refine g_icmp_ge_i (tgt := 42) (by first | omega | exact a7 _ (by omega) | (have := a7 (tp t) (by omega); omega)) (by first | omega | exact a7 _ (by omega) | (have := a7 (tp t) (by omega); omega)) d_T_sign_15 (by decide) (fun h15 => ?_) (fun h15 => ?_)
  · refine g_iconst_i d_T_sign_42 ?_
    refine g_ireturn_c (by first | omega | exact a7 _ (by omega) | (have := a7 (tp t) (by omega); omega)) rfl d_T_sign_43 ?_
    exact g_qi hQ (by unfold sg; first | (rw [if_pos (by omega)]; done) | (rw [if_neg (by omega)]; done))
  · refine g_aload_n (n := 0) (i := 0) rfl rfl d_T_sign_18 ?_
    refine g_getfield 3 2 f_T_19 (by assumption) (by rfl) d_T_sign_19 ?_
    refine g_aload_n (n := 0) (i := 0) rfl rfl d_T_sign_22 ?_
    refine g_getfield 3 0 f_T_9 (by assumption) (by rfl) d_T_sign_23 ?_
    refine g_alen_i (by assumption) (by decide) d_T_sign_26 ?_
    refine g_icmp_ge_i (tgt := 42) (by first | omega | exact a7 _ (by omega) | (have := a7 (tp t) (by omega); omega)) (by first | omega | exact a7 _ (by omega) | (have := a7 (tp t) (by omega); omega)) d_T_sign_27 (by decide) (fun h => by exfalso; omega) (fun h27 => ?_)
    refine g_aload_n (n := 0) (i := 0) rfl rfl d_T_sign_30 ?_
    refine g_getfield 3 0 f_T_9 (by assumption) (by rfl) d_T_sign_31 ?_
    refine g_aload_n (n := 0) (i := 0) rfl rfl d_T_sign_34 ?_
    refine g_getfield 3 2 f_T_19 (by assumption) (by rfl) d_T_sign_35 ?_
    refine g_caload_i (by assumption) (by first | omega | exact a7 _ (by omega) | (have := a7 (tp t) (by omega); omega)) (by first | omega | exact a7 _ (by omega) | (have := a7 (tp t) (by omega); omega)) (by rfl) d_T_sign_38 ?_
    refine g_goto (tgt := 43) (by decide) d_T_sign_39 ?_
    refine g_ireturn_c (by first | omega | exact a7 _ (by omega) | (have := a7 (tp t) (by omega); omega)) rfl d_T_sign_43 ?_
    exact g_qi hQ (by unfold sg; first | (rw [if_pos (by omega)]; done) | (rw [if_neg (by omega)]; done))

theorem c_T_empty {E : gE} {w : gW} {im : gIm} {Q : gQ} {t : Tx} (ht : TW E w t) (hQ : ∀ w', TN E w (tLn t 0) w' → Q (.inl none) w' im) : GM E 0 y_T_empty m_T_empty 0 0 [.ref (gad E 58)] w im Q := by
  have ht9 := ht
  obtain ⟨hn, y0, y1, ok⟩ := ht9
  have hsr := sg_rng ok
  have ok9 := ok
  obtain ⟨a1, a2, a3, a4, a5, a6, a7⟩ := ok9
  have kt : g_cell E w im (gad E 58) _ := g_mut 58 (by omega) y0
  have ks : g_cell E w im (gad E 59) _ := g_mut 59 (by omega) y1
  have hfr : ∀ j, j ≠ 58 → j ≠ 59 → w j = w j := fun _ _ _ => rfl
  refine g_enter (by decide) rfl rfl (fun h => by first | rfl | cases h) (Nat.le_of_ble_eq_true rfl) rfl ?_
  refine g_aload_n (n := 0) (i := 0) rfl rfl d_T_empty_0 ?_
  refine g_iconst_i d_T_empty_1 ?_
  refine g_putA 3 1 58 (by omega) y0 f_T_15 (Or.inl rfl) (by first | rfl | exact (iI_char (by omega)).1) (by first | rfl | exact (iI_char (by omega)).2) (Nat.le_of_ble_eq_true rfl) d_T_empty_2 (fun w hs hn9 => ?_)
  have y0 : w 58 = tE E (tLn t 0) := hs
  have y1 : w 59 = chE (tLn t 0) := (hn9 59 (by omega)).trans y1
  have hfr := fun j (h1 : j ≠ 58) (h2 : j ≠ 59) => (hn9 j h1).trans (hfr j h1 h2)
  have kt : g_cell E w im (gad E 58) _ := g_mut 58 (by omega) y0
  have ks : g_cell E w im (gad E 59) _ := g_mut 59 (by omega) y1
  refine g_return rfl d_T_empty_5 ?_
  exact hQ _ ⟨⟨hn, y0, y1, ok.ln (by omega)⟩, hfr⟩

theorem c_T_rewind {E : gE} {w : gW} {im : gIm} {Q : gQ} {t : Tx} (ht : TW E w t) (hQ : ∀ w', TN E w (tP t 0) w' → Q (.inl none) w' im) : GM E 0 y_T_rewind m_T_rewind 0 0 [.ref (gad E 58)] w im Q := by
  have ht9 := ht
  obtain ⟨hn, y0, y1, ok⟩ := ht9
  have hsr := sg_rng ok
  have ok9 := ok
  obtain ⟨a1, a2, a3, a4, a5, a6, a7⟩ := ok9
  have kt : g_cell E w im (gad E 58) _ := g_mut 58 (by omega) y0
  have ks : g_cell E w im (gad E 59) _ := g_mut 59 (by omega) y1
  have hfr : ∀ j, j ≠ 58 → j ≠ 59 → w j = w j := fun _ _ _ => rfl
  refine g_enter (by decide) rfl rfl (fun h => by first | rfl | cases h) (Nat.le_of_ble_eq_true rfl) rfl ?_
  refine g_aload_n (n := 0) (i := 0) rfl rfl d_T_rewind_0 ?_
  refine g_iconst_i d_T_rewind_1 ?_
  refine g_putA 3 2 58 (by omega) y0 f_T_19 (Or.inl rfl) (by first | rfl | exact (iI_char (by omega)).1) (by first | rfl | exact (iI_char (by omega)).2) (Nat.le_of_ble_eq_true rfl) d_T_rewind_2 (fun w hs hn9 => ?_)
  have y0 : w 58 = tE E (tP t 0) := hs
  have y1 : w 59 = chE (tP t 0) := (hn9 59 (by omega)).trans y1
  have hfr := fun j (h1 : j ≠ 58) (h2 : j ≠ 59) => (hn9 j h1).trans (hfr j h1 h2)
  have kt : g_cell E w im (gad E 58) _ := g_mut 58 (by omega) y0
  have ks : g_cell E w im (gad E 59) _ := g_mut 59 (by omega) y1
  refine g_return rfl d_T_rewind_5 ?_
  exact hQ _ ⟨⟨hn, y0, y1, ok.p (by omega)⟩, hfr⟩

theorem c_T_takeDigit {E : gE} {w : gW} {im : gIm} {Q : gQ} {t : Tx} (ht : TW E w t) (hnm : tn t ≤ 9000) (hQ1 : dgB t = true → ∀ w', TN E w (tDg t) w' → Q (.inl (some (.int (iI 1)))) w' im) (hQ2 : dgB t = false → Q (.inl (some (.int (iI 0)))) w im) : GM E 1 y_T_takeDigit m_T_takeDigit 0 0 [.ref (gad E 58)] w im Q := by
  have ht9 := ht
  obtain ⟨hn, y0, y1, ok⟩ := ht9
  have hsr := sg_rng ok
  have ok9 := ok
  obtain ⟨a1, a2, a3, a4, a5, a6, a7⟩ := ok9
  have kt : g_cell E w im (gad E 58) _ := g_mut 58 (by omega) y0
  have ks : g_cell E w im (gad E 59) _ := g_mut 59 (by omega) y1
  have hfr : ∀ j, j ≠ 58 → j ≠ 59 → w j = w j := fun _ _ _ => rfl
  refine g_enter (by decide) rfl rfl (fun h => by first | rfl | cases h) (Nat.le_of_ble_eq_true rfl) rfl ?_
  refine g_aload_n (n := 0) (i := 0) rfl rfl d_T_takeDigit_0 ?_
  refine g_callV0 rfl rfl e_T_sign l_T_46 iv_T_sign 3 (by decide) rfl (by assumption) (by decide) (Nat.zero_le _) (Nat.zero_le _) (Nat.le_of_ble_eq_true rfl) d_T_takeDigit_1 (c_T_sign ht ?_)
  refine g_ret ?_
  refine g_istore_n (n := 1) (i := 1) rfl (by decide) rfl d_T_takeDigit_4 ?_
  refine g_iload_n (n := 1) (i := 1) rfl rfl d_T_takeDigit_5 ?_
  refine g_bipush_i (by decide) d_T_takeDigit_6 ?_
  refine g_icmp_lt_i (tgt := 17) (by omega) (by decide) d_T_takeDigit_8 (by decide) (fun h8 => ?_) (fun h8 => ?_)
  · refine g_iconst_i d_T_takeDigit_17 ?_
    refine g_ireturn_0 rfl d_T_takeDigit_18 ?_
    first | exact hQ2 (dgB_f (by omega)) | (have hd : dgB t = true := dgB_iff.2 ⟨by omega, by omega⟩; exact hQ1 hd _ ⟨⟨hn, y0, y1, tDg_ok ok hd hnm⟩, hfr⟩)
  · refine g_iload_n (n := 1) (i := 1) rfl rfl d_T_takeDigit_11 ?_
    refine g_bipush_i (by decide) d_T_takeDigit_12 ?_
    refine g_icmp_le_i (tgt := 19) (by omega) (by decide) d_T_takeDigit_14 (by decide) (fun h14 => ?_) (fun h14 => ?_)
    · refine g_aload_n (n := 0) (i := 0) rfl rfl d_T_takeDigit_19 ?_
      refine g_aload_n (n := 0) (i := 0) rfl rfl d_T_takeDigit_20 ?_
      refine g_getfield 3 5 f_T_29 (by assumption) (by rfl) d_T_takeDigit_21 ?_
      refine g_bipush_i (by decide) d_T_takeDigit_24 ?_
      refine g_imul_i d_T_takeDigit_26 ?_
      refine g_iload_n (n := 1) (i := 1) rfl rfl d_T_takeDigit_27 ?_
      refine g_iadd_i d_T_takeDigit_28 ?_
      refine g_bipush_i (by decide) d_T_takeDigit_29 ?_
      refine g_isub_i d_T_takeDigit_31 ?_
      refine g_putA 3 5 58 (by omega) y0 f_T_29 (Or.inl rfl) (by first | rfl | exact (iI_char (by omega)).1) (by first | rfl | exact (iI_char (by omega)).2) (Nat.le_of_ble_eq_true rfl) d_T_takeDigit_32 (fun w hs hn9 => ?_)
      have y0 : w 58 = tE E (tNm t (tn t * 10 + sg t - 48)) := hs
      have y1 : w 59 = chE (tNm t (tn t * 10 + sg t - 48)) := (hn9 59 (by omega)).trans y1
      have hfr := fun j (h1 : j ≠ 58) (h2 : j ≠ 59) => (hn9 j h1).trans (hfr j h1 h2)
      have kt : g_cell E w im (gad E 58) _ := g_mut 58 (by omega) y0
      have ks : g_cell E w im (gad E 59) _ := g_mut 59 (by omega) y1
      refine g_aload_n (n := 0) (i := 0) rfl rfl d_T_takeDigit_35 ?_
      refine g_dup rfl d_T_takeDigit_36 ?_
      refine g_getfield 3 2 f_T_19 (by assumption) (by rfl) d_T_takeDigit_37 ?_
      refine g_iconst_i d_T_takeDigit_40 ?_
      refine g_iadd_i d_T_takeDigit_41 ?_
      refine g_putA 3 2 58 (by omega) y0 f_T_19 (Or.inl rfl) (by first | rfl | exact (iI_char (by omega)).1) (by first | rfl | exact (iI_char (by omega)).2) (Nat.le_of_ble_eq_true rfl) d_T_takeDigit_42 (fun w hs hn9 => ?_)
      have y0 : w 58 = tE E (tDg t) := hs
      have y1 : w 59 = chE (tDg t) := (hn9 59 (by omega)).trans y1
      have hfr := fun j (h1 : j ≠ 58) (h2 : j ≠ 59) => (hn9 j h1).trans (hfr j h1 h2)
      have kt : g_cell E w im (gad E 58) _ := g_mut 58 (by omega) y0
      have ks : g_cell E w im (gad E 59) _ := g_mut 59 (by omega) y1
      refine g_iconst_i d_T_takeDigit_45 ?_
      refine g_ireturn_1 rfl d_T_takeDigit_46 ?_
      first | exact hQ2 (dgB_f (by omega)) | (have hd : dgB t = true := dgB_iff.2 ⟨by omega, by omega⟩; exact hQ1 hd _ ⟨⟨hn, y0, y1, tDg_ok ok hd hnm⟩, hfr⟩)
    · refine g_iconst_i d_T_takeDigit_17 ?_
      refine g_ireturn_0 rfl d_T_takeDigit_18 ?_
      first | exact hQ2 (dgB_f (by omega)) | (have hd : dgB t = true := dgB_iff.2 ⟨by omega, by omega⟩; exact hQ1 hd _ ⟨⟨hn, y0, y1, tDg_ok ok hd hnm⟩, hfr⟩)

theorem c_T_skip {E : gE} {w : gW} {im : gIm} {Q : gQ} {t : Tx} (ht : TW E w t) {x : Int} (rx : 1 ≤ x ∧ x ≤ 255) (hQ1 : sg t = x → ∀ w', TN E w (tSk t) w' → Q (.inl (some (.int (iI 1)))) w' im) (hQ2 : ¬ sg t = x → ∀ w', TN E w t w' → Q (.inl (some (.int (iI 0)))) w' im) : GM E 1 y_T_skip m_T_skip 0 0 [.ref (gad E 58), .int (iI x)] w im Q := by
  have ht9 := ht
  obtain ⟨hn, y0, y1, ok⟩ := ht9
  have hsr := sg_rng ok
  have ok9 := ok
  obtain ⟨a1, a2, a3, a4, a5, a6, a7⟩ := ok9
  have kt : g_cell E w im (gad E 58) _ := g_mut 58 (by omega) y0
  have ks : g_cell E w im (gad E 59) _ := g_mut 59 (by omega) y1
  have hfr : ∀ j, j ≠ 58 → j ≠ 59 → w j = w j := fun _ _ _ => rfl
  refine g_enter (by decide) rfl rfl (fun h => by first | rfl | cases h) (Nat.le_of_ble_eq_true rfl) rfl ?_
  refine g_aload_n (n := 0) (i := 0) rfl rfl d_T_skip_0 ?_
  refine g_callV0 rfl rfl e_T_sign l_T_46 iv_T_sign 3 (by decide) rfl (by assumption) (by decide) (Nat.zero_le _) (Nat.zero_le _) (Nat.le_of_ble_eq_true rfl) d_T_skip_1 (c_T_sign ht ?_)
  refine g_ret ?_
  refine g_iload_n (n := 1) (i := 1) rfl rfl d_T_skip_4 ?_
  refine g_icmp_ne_i (tgt := 12) (by omega) (by omega) d_T_skip_5 (by decide) (fun h5 => ?_) (fun h5 => ?_)
  · refine g_iconst_i d_T_skip_12 ?_
    refine g_istore_n (n := 2) (i := 2) rfl (by decide) rfl d_T_skip_13 ?_
    refine g_aload_n (n := 0) (i := 0) rfl rfl d_T_skip_14 ?_
    refine g_dup rfl d_T_skip_15 ?_
    refine g_getfield 3 2 f_T_19 (by assumption) (by rfl) d_T_skip_16 ?_
    refine g_iload_n (n := 2) (i := 2) rfl rfl d_T_skip_19 ?_
    refine g_if_eq_i (tgt := 27) (by decide) d_T_skip_20 (by decide) (fun h20 => ?_) (fun h => absurd h (by decide))
    refine g_iconst_i d_T_skip_27 ?_
    refine g_iadd_i d_T_skip_28 ?_
    
    refine g_putA 3 2 58 (by omega) y0 f_T_19 (Or.inl rfl) (by first | rfl | exact (iI_char (by omega)).1) (by first | rfl | exact (iI_char (by omega)).2) (Nat.le_of_ble_eq_true rfl) d_T_skip_29 (fun w hs hn9 => ?_)
    have y0 : w 58 = tE E (tP t (tp t + 0)) := hs
    have y1 : w 59 = chE (tP t (tp t + 0)) := (hn9 59 (by omega)).trans y1
    have hfr := fun j (h1 : j ≠ 58) (h2 : j ≠ 59) => (hn9 j h1).trans (hfr j h1 h2)
    have kt : g_cell E w im (gad E 58) _ := g_mut 58 (by omega) y0
    have ks : g_cell E w im (gad E 59) _ := g_mut 59 (by omega) y1
    refine g_iload_n (n := 2) (i := 2) rfl rfl d_T_skip_32 ?_
    refine g_ireturn_0 rfl d_T_skip_33 ?_
    first | exact hQ1 (by omega) _ ⟨⟨hn, y0, y1, tSk_ok ok (by omega)⟩, hfr⟩ | (rw [show tP t (tp t + 0) = t by simp [tP]] at y0 y1; exact hQ2 (by omega) _ ⟨⟨hn, y0, y1, ok⟩, hfr⟩)
  · refine g_iconst_i d_T_skip_8 ?_
    refine g_goto (tgt := 13) (by decide) d_T_skip_9 ?_
    refine g_istore_n (n := 2) (i := 2) rfl (by decide) rfl d_T_skip_13 ?_
    refine g_aload_n (n := 0) (i := 0) rfl rfl d_T_skip_14 ?_
    refine g_dup rfl d_T_skip_15 ?_
    refine g_getfield 3 2 f_T_19 (by assumption) (by rfl) d_T_skip_16 ?_
    refine g_iload_n (n := 2) (i := 2) rfl rfl d_T_skip_19 ?_
    refine g_if_eq_i (tgt := 27) (by decide) d_T_skip_20 (by decide) (fun h => absurd h (by decide)) (fun h20 => ?_)
    refine g_iconst_i d_T_skip_23 ?_
    refine g_goto (tgt := 28) (by decide) d_T_skip_24 ?_
    refine g_iadd_i d_T_skip_28 ?_
    
    refine g_putA 3 2 58 (by omega) y0 f_T_19 (Or.inl rfl) (by first | rfl | exact (iI_char (by omega)).1) (by first | rfl | exact (iI_char (by omega)).2) (Nat.le_of_ble_eq_true rfl) d_T_skip_29 (fun w hs hn9 => ?_)
    have y0 : w 58 = tE E (tSk t) := hs
    have y1 : w 59 = chE (tSk t) := (hn9 59 (by omega)).trans y1
    have hfr := fun j (h1 : j ≠ 58) (h2 : j ≠ 59) => (hn9 j h1).trans (hfr j h1 h2)
    have kt : g_cell E w im (gad E 58) _ := g_mut 58 (by omega) y0
    have ks : g_cell E w im (gad E 59) _ := g_mut 59 (by omega) y1
    refine g_iload_n (n := 2) (i := 2) rfl rfl d_T_skip_32 ?_
    refine g_ireturn_1 rfl d_T_skip_33 ?_
    first | exact hQ1 (by omega) _ ⟨⟨hn, y0, y1, tSk_ok ok (by omega)⟩, hfr⟩ | (rw [show tP t (tp t + 0) = t by simp [tP]] at y0 y1; exact hQ2 (by omega) _ ⟨⟨hn, y0, y1, ok⟩, hfr⟩)

theorem c_T_takeSale {E : gE} {w : gW} {im : gIm} {Q : gQ} {t : Tx} (ht : TW E w t) (hQ1 : (rdSale t).1 = true → ∀ w', TN E w (rdSale t).2 w' → Q (.inl (some (.int (iI 1)))) w' im) (hQ2 : (rdSale t).1 = false → ∀ w', TN E w (rdSale t).2 w' → Q (.inl (some (.int (iI 0)))) w' im) : GM E 2 y_T_takeSale m_T_takeSale 0 0 [.ref (gad E 58)] w im Q := by
  have ht9 := ht
  obtain ⟨hn, y0, y1, ok⟩ := ht9
  have hsr := sg_rng ok
  have ok9 := ok
  obtain ⟨a1, a2, a3, a4, a5, a6, a7⟩ := ok9
  have kt : g_cell E w im (gad E 58) _ := g_mut 58 (by omega) y0
  have ks : g_cell E w im (gad E 59) _ := g_mut 59 (by omega) y1
  have hfr : ∀ j, j ≠ 58 → j ≠ 59 → w j = w j := fun _ _ _ => rfl
  refine g_enter (by decide) rfl rfl (fun h => by first | rfl | cases h) (Nat.le_of_ble_eq_true rfl) rfl ?_
  refine g_aload_n (n := 0) (i := 0) rfl rfl d_T_takeSale_0 ?_
  refine g_iconst_i d_T_takeSale_1 ?_
  refine g_putA 3 5 58 (by omega) y0 f_T_29 (Or.inl rfl) (by first | rfl | exact (iI_char (by omega)).1) (by first | rfl | exact (iI_char (by omega)).2) (Nat.le_of_ble_eq_true rfl) d_T_takeSale_2 (fun w hs hn9 => ?_)
  have y0 : w 58 = tE E (tNm t 0) := hs
  have y1 : w 59 = chE (tNm t 0) := (hn9 59 (by omega)).trans y1
  have hfr := fun j (h1 : j ≠ 58) (h2 : j ≠ 59) => (hn9 j h1).trans (hfr j h1 h2)
  have kt : g_cell E w im (gad E 58) _ := g_mut 58 (by omega) y0
  have ks : g_cell E w im (gad E 59) _ := g_mut 59 (by omega) y1
  refine g_aload_n (n := 0) (i := 0) rfl rfl d_T_takeSale_5 ?_
  refine g_iconst_i d_T_takeSale_6 ?_
  refine g_putA 3 6 58 (by omega) y0 f_T_32 (Or.inl rfl) (by first | rfl | exact (iI_char (by omega)).1) (by first | rfl | exact (iI_char (by omega)).2) (Nat.le_of_ble_eq_true rfl) d_T_takeSale_7 (fun w hs hn9 => ?_)
  have y0 : w 58 = tE E (tTm (tNm t 0) 1) := hs
  have y1 : w 59 = chE (tTm (tNm t 0) 1) := (hn9 59 (by omega)).trans y1
  have hfr := fun j (h1 : j ≠ 58) (h2 : j ≠ 59) => (hn9 j h1).trans (hfr j h1 h2)
  have kt : g_cell E w im (gad E 58) _ := g_mut 58 (by omega) y0
  have ks : g_cell E w im (gad E 59) _ := g_mut 59 (by omega) y1
  have ok : okT (tTm (tNm t 0) 1) := (ok.nm (by omega)).tm (by omega)
  have htA : TW E w (tTm (tNm t 0) 1) := ⟨hn, y0, y1, ok⟩
  refine g_aload_n (n := 0) (i := 0) rfl rfl d_T_takeSale_10 ?_
  refine g_callV0 rfl rfl e_T_takeDigit l_T_56 iv_T_takeDigit 3 (by decide) rfl (by assumption) (by decide) (Nat.zero_le _) (Nat.zero_le _) (Nat.le_of_ble_eq_true rfl) d_T_takeSale_11 (c_T_takeDigit htA (show (0 : Int) ≤ 9000 by decide) (fun hD1 w hT => ?_) (fun hD1 => ?_))
  · refine g_ret ?_
    obtain ⟨⟨_, y0, y1, ok⟩, hf2⟩ := hT
    have hfr := fun j (h1 : j ≠ 58) (h2 : j ≠ 59) => (hf2 j h1 h2).trans (hfr j h1 h2)
    have kt : g_cell E w im (gad E 58) _ := g_mut 58 (by omega) y0
    have ks : g_cell E w im (gad E 59) _ := g_mut 59 (by omega) y1
    have htA : TW E w (tDg (tTm (tNm t 0) 1)) := ⟨hn, y0, y1, ok⟩
    have hs9 := sg_rng htA.2.2.2
    have hr1 := dgB_iff.1 hD1
    have hm1 : 0 ≤ tn (tDg (tTm (tNm t 0) 1)) ∧ tn (tDg (tTm (tNm t 0) 1)) ≤ 9 := (show 0 ≤ 0 * 10 + sg (tTm (tNm t 0) 1) - 48 ∧ 0 * 10 + sg (tTm (tNm t 0) 1) - 48 ≤ 9 by omega)
    refine g_if_ne_i (tgt := 19) (by decide) d_T_takeSale_14 (by decide) (fun h14 => ?_) (fun h => absurd h (by decide))
    refine g_aload_n (n := 0) (i := 0) rfl rfl d_T_takeSale_19 ?_
    refine g_getfield 3 5 f_T_29 (by assumption) (by rfl) d_T_takeSale_20 ?_
    refine g_istore_n (n := 1) (i := 1) rfl (by decide) rfl d_T_takeSale_23 ?_
    refine g_aload_n (n := 0) (i := 0) rfl rfl d_T_takeSale_24 ?_
    refine g_bipush_i (by decide) d_T_takeSale_25 ?_
    refine g_callV1 rfl rfl e_T_skip l_T_42 iv_T_skip 3 (by decide) rfl (by assumption) (by decide) (Nat.zero_le _) (Nat.zero_le _) (Nat.le_of_ble_eq_true rfl) d_T_takeSale_27 (c_T_skip htA (by omega) (fun hS w hT => ?_) (fun hS w hT => ?_))
    · refine g_ret ?_
      obtain ⟨⟨_, y0, y1, ok⟩, hf2⟩ := hT
      have hfr := fun j (h1 : j ≠ 58) (h2 : j ≠ 59) => (hf2 j h1 h2).trans (hfr j h1 h2)
      have kt : g_cell E w im (gad E 58) _ := g_mut 58 (by omega) y0
      have ks : g_cell E w im (gad E 59) _ := g_mut 59 (by omega) y1
      refine g_if_eq_i (tgt := 60) (by decide) d_T_takeSale_30 (by decide) (fun h => absurd h (by decide)) (fun h30 => ?_)
      refine g_aload_n (n := 0) (i := 0) rfl rfl d_T_takeSale_33 ?_
      refine g_iconst_i d_T_takeSale_34 ?_
      refine g_putA 3 5 58 (by omega) y0 f_T_29 (Or.inl rfl) (by first | rfl | exact (iI_char (by omega)).1) (by first | rfl | exact (iI_char (by omega)).2) (Nat.le_of_ble_eq_true rfl) d_T_takeSale_35 (fun w hs hn9 => ?_)
      have y0 : w 58 = tE E (tNm (tSk (tDg (tTm (tNm t 0) 1))) 0) := hs
      have y1 : w 59 = chE (tNm (tSk (tDg (tTm (tNm t 0) 1))) 0) := (hn9 59 (by omega)).trans y1
      have hfr := fun j (h1 : j ≠ 58) (h2 : j ≠ 59) => (hn9 j h1).trans (hfr j h1 h2)
      have kt : g_cell E w im (gad E 58) _ := g_mut 58 (by omega) y0
      have ks : g_cell E w im (gad E 59) _ := g_mut 59 (by omega) y1
      have ok : okT (tNm (tSk (tDg (tTm (tNm t 0) 1))) 0) := ok.nm (by omega)
      have htB : TW E w (tNm (tSk (tDg (tTm (tNm t 0) 1))) 0) := ⟨hn, y0, y1, ok⟩
      refine g_aload_n (n := 0) (i := 0) rfl rfl d_T_takeSale_38 ?_
      refine g_callV0 rfl rfl e_T_takeDigit l_T_56 iv_T_takeDigit 3 (by decide) rfl (by assumption) (by decide) (Nat.zero_le _) (Nat.zero_le _) (Nat.le_of_ble_eq_true rfl) d_T_takeSale_39 (c_T_takeDigit htB (show (0 : Int) ≤ 9000 by decide) (fun hD2 w hT => ?_) (fun hD2 => ?_))
      · refine g_ret ?_
        obtain ⟨⟨_, y0, y1, ok⟩, hf2⟩ := hT
        have hfr := fun j (h1 : j ≠ 58) (h2 : j ≠ 59) => (hf2 j h1 h2).trans (hfr j h1 h2)
        have kt : g_cell E w im (gad E 58) _ := g_mut 58 (by omega) y0
        have ks : g_cell E w im (gad E 59) _ := g_mut 59 (by omega) y1
        have hr2 := dgB_iff.1 hD2
        have hm2 : 0 ≤ tn (tDg (tNm (tSk (tDg (tTm (tNm t 0) 1))) 0)) ∧ tn (tDg (tNm (tSk (tDg (tTm (tNm t 0) 1))) 0)) ≤ 9 := (show 0 ≤ 0 * 10 + sg (tNm (tSk (tDg (tTm (tNm t 0) 1))) 0) - 48 ∧ 0 * 10 + sg (tNm (tSk (tDg (tTm (tNm t 0) 1))) 0) - 48 ≤ 9 by omega)
        refine g_if_ne_i (tgt := 47) (by decide) d_T_takeSale_42 (by decide) (fun h42 => ?_) (fun h => absurd h (by decide))
        refine g_aload_n (n := 0) (i := 0) rfl rfl d_T_takeSale_47 ?_
        refine g_aload_n (n := 0) (i := 0) rfl rfl d_T_takeSale_48 ?_
        refine g_getfield 3 5 f_T_29 (by assumption) (by rfl) d_T_takeSale_49 ?_
        refine g_putA 3 6 58 (by omega) y0 f_T_32 (Or.inl rfl) (by first | rfl | exact (iI_char (by omega)).1) (by first | rfl | exact (iI_char (by omega)).2) (Nat.le_of_ble_eq_true rfl) d_T_takeSale_52 (fun w hs hn9 => ?_)
        have y0 : w 58 = tE E (tTm (tDg (tNm (tSk (tDg (tTm (tNm t 0) 1))) 0)) (tn (tDg (tNm (tSk (tDg (tTm (tNm t 0) 1))) 0)))) := hs
        have y1 : w 59 = chE (tTm (tDg (tNm (tSk (tDg (tTm (tNm t 0) 1))) 0)) (tn (tDg (tNm (tSk (tDg (tTm (tNm t 0) 1))) 0)))) := (hn9 59 (by omega)).trans y1
        have hfr := fun j (h1 : j ≠ 58) (h2 : j ≠ 59) => (hn9 j h1).trans (hfr j h1 h2)
        have kt : g_cell E w im (gad E 58) _ := g_mut 58 (by omega) y0
        have ks : g_cell E w im (gad E 59) _ := g_mut 59 (by omega) y1
        refine g_aload_n (n := 0) (i := 0) rfl rfl d_T_takeSale_55 ?_
        refine g_iload_n (n := 1) (i := 1) rfl rfl d_T_takeSale_56 ?_
        refine g_putA 3 5 58 (by omega) y0 f_T_29 (Or.inl rfl) (by first | rfl | exact (iI_char (by omega)).1) (by first | rfl | exact (iI_char (by omega)).2) (Nat.le_of_ble_eq_true rfl) d_T_takeSale_57 (fun w hs hn9 => ?_)
        have y0 : w 58 = tE E (tNm (tTm (tDg (tNm (tSk (tDg (tTm (tNm t 0) 1))) 0)) (tn (tDg (tNm (tSk (tDg (tTm (tNm t 0) 1))) 0)))) (tn (tDg (tTm (tNm t 0) 1)))) := hs
        have y1 : w 59 = chE (tNm (tTm (tDg (tNm (tSk (tDg (tTm (tNm t 0) 1))) 0)) (tn (tDg (tNm (tSk (tDg (tTm (tNm t 0) 1))) 0)))) (tn (tDg (tTm (tNm t 0) 1)))) := (hn9 59 (by omega)).trans y1
        have hfr := fun j (h1 : j ≠ 58) (h2 : j ≠ 59) => (hn9 j h1).trans (hfr j h1 h2)
        have kt : g_cell E w im (gad E 58) _ := g_mut 58 (by omega) y0
        have ks : g_cell E w im (gad E 59) _ := g_mut 59 (by omega) y1
        refine g_iconst_i d_T_takeSale_60 ?_
        refine g_ireturn_1 rfl d_T_takeSale_61 ?_
        first
        | (have he : rdSale t = (true, tNm (tTm (tDg (tNm (tSk (tDg (tTm (tNm t 0) 1))) 0)) (tn (tDg (tNm (tSk (tDg (tTm (tNm t 0) 1))) 0)))) (tn (tDg (tTm (tNm t 0) 1)))) := (by unfold rdSale; rw [if_pos hD1, if_pos hS, if_pos hD2]); rw [he] at hQ1; exact hQ1 rfl _ ⟨⟨hn, y0, y1, (ok.tm (by omega)).nm (by omega)⟩, hfr⟩)
        | (have he : rdSale t = (true, tDg (tTm (tNm t 0) 1)) := (by unfold rdSale; rw [if_pos hD1, if_neg hS]); rw [he] at hQ1; exact hQ1 rfl _ ⟨⟨hn, y0, y1, ok⟩, hfr⟩)
      · refine g_ret ?_
        refine g_if_ne_i (tgt := 47) (by decide) d_T_takeSale_42 (by decide) (fun h => absurd h (by decide)) (fun h42 => ?_)
        refine g_iconst_i d_T_takeSale_45 ?_
        refine g_ireturn_0 rfl d_T_takeSale_46 ?_
        have he : rdSale t = (false, tNm (tSk (tDg (tTm (tNm t 0) 1))) 0) := by unfold rdSale; rw [if_pos hD1, if_pos hS, if_neg (by rw [hD2]; exact Bool.false_ne_true)]
        rw [he] at hQ2
        exact hQ2 rfl _ ⟨⟨hn, y0, y1, ok⟩, hfr⟩
    · refine g_ret ?_
      obtain ⟨⟨_, y0, y1, ok⟩, hf2⟩ := hT
      have hfr := fun j (h1 : j ≠ 58) (h2 : j ≠ 59) => (hf2 j h1 h2).trans (hfr j h1 h2)
      have kt : g_cell E w im (gad E 58) _ := g_mut 58 (by omega) y0
      have ks : g_cell E w im (gad E 59) _ := g_mut 59 (by omega) y1
      refine g_if_eq_i (tgt := 60) (by decide) d_T_takeSale_30 (by decide) (fun h30 => ?_) (fun h => absurd h (by decide))
      refine g_iconst_i d_T_takeSale_60 ?_
      refine g_ireturn_1 rfl d_T_takeSale_61 ?_
      first
      | (have he : rdSale t = (true, tNm (tTm (tDg (tNm (tSk (tDg (tTm (tNm t 0) 1))) 0)) (tn (tDg (tNm (tSk (tDg (tTm (tNm t 0) 1))) 0)))) (tn (tDg (tTm (tNm t 0) 1)))) := (by unfold rdSale; rw [if_pos hD1, if_pos hS, if_pos hD2]); rw [he] at hQ1; exact hQ1 rfl _ ⟨⟨hn, y0, y1, (ok.tm (by omega)).nm (by omega)⟩, hfr⟩)
      | (have he : rdSale t = (true, tDg (tTm (tNm t 0) 1)) := (by unfold rdSale; rw [if_pos hD1, if_neg hS]); rw [he] at hQ1; exact hQ1 rfl _ ⟨⟨hn, y0, y1, ok⟩, hfr⟩)
  · refine g_ret ?_
    refine g_if_ne_i (tgt := 19) (by decide) d_T_takeSale_14 (by decide) (fun h => absurd h (by decide)) (fun h14 => ?_)
    refine g_iconst_i d_T_takeSale_17 ?_
    refine g_ireturn_0 rfl d_T_takeSale_18 ?_
    have he : rdSale t = (false, tTm (tNm t 0) 1) := by unfold rdSale; rw [if_neg (by rw [hD1]; exact Bool.false_ne_true)]
    rw [he] at hQ2
    exact hQ2 rfl _ ⟨⟨hn, y0, y1, ok⟩, hfr⟩

theorem c_T_takeNumber {E : gE} {w : gW} {im : gIm} {Q : gQ} {t : Tx} (ht : TW E w t) (hQ1 : (rdNum t).1 = true → ∀ w', TN E w (rdNum t).2 w' → Q (.inl (some (.int (iI 1)))) w' im) (hQ2 : (rdNum t).1 = false → ∀ w', TN E w (rdNum t).2 w' → Q (.inl (some (.int (iI 0)))) w' im) : GM E 2 y_T_takeNumber m_T_takeNumber 0 0 [.ref (gad E 58)] w im Q := by
  have ht9 := ht
  obtain ⟨hn, y0, y1, ok⟩ := ht9
  have hsr := sg_rng ok
  have ok9 := ok
  obtain ⟨a1, a2, a3, a4, a5, a6, a7⟩ := ok9
  have kt : g_cell E w im (gad E 58) _ := g_mut 58 (by omega) y0
  have ks : g_cell E w im (gad E 59) _ := g_mut 59 (by omega) y1
  have hfr0 : ∀ j, j ≠ 58 → j ≠ 59 → w j = w j := fun _ _ _ => rfl
  have loop : ∀ (n9 : Nat) (k9 : Int) (t1 : Tx) (w1 : gW), k9 + n9 = 4 → 1 ≤ k9 → TN E w t1 w1 → (tn t1 ≤ 9 ∨ (k9 = 2 ∧ tn t1 ≤ 99) ∨ (k9 = 3 ∧ tn t1 ≤ 999) ∨ (k9 = 4 ∧ tn t1 ≤ 9999)) → rdMore n9 t1 = (rdNum t).2 → (rdNum t).1 = true → G E 2 m_T_takeNumber 16 [(0, .ref (gad E 58)), (1, .int (iI k9))] [] w1 im 0 0 Q := by
    intro n9
    induction n9 with
    | zero =>
      intro k9 t1 w h9 hk9 hT hb he hr
      rw [rdMore] at he
      refine g_iload_n (n := 1) (i := 1) rfl rfl d_T_takeNumber_16 ?_
      refine g_iconst_i d_T_takeNumber_17 ?_
      refine g_icmp_ge_i (tgt := 43) (by omega) (by decide) d_T_takeNumber_18 (by decide) (fun h18 => ?_) (fun h => by exfalso; omega)
      refine g_iconst_i d_T_takeNumber_43 ?_
      refine g_ireturn_1 rfl d_T_takeNumber_44 ?_
      exact hQ1 hr _ (he ▸ hT)
    | succ n9 ih =>
      intro k9 t1 w h9 hk9 hT hb he hr
      rw [rdMore] at he
      have hT9 := hT
      obtain ⟨⟨_, y0, y1, ok⟩, hf2⟩ := hT9
      have kt : g_cell E w im (gad E 58) _ := g_mut 58 (by omega) y0
      obtain ⟨a1, a2, a3, a4, a5, a6, a7⟩ := ok
      refine g_iload_n (n := 1) (i := 1) rfl rfl d_T_takeNumber_16 ?_
      refine g_iconst_i d_T_takeNumber_17 ?_
      refine g_icmp_ge_i (tgt := 43) (by omega) (by decide) d_T_takeNumber_18 (by decide) (fun h => by exfalso; omega) (fun h18 => ?_)
      refine g_aload_n (n := 0) (i := 0) rfl rfl d_T_takeNumber_21 ?_
      refine g_getfield 3 5 f_T_29 (by assumption) (by rfl) d_T_takeNumber_22 ?_
      refine g_if_le_i (tgt := 43) (by omega) d_T_takeNumber_25 (by decide) (fun h25 => ?_) (fun h25 => ?_)
      · refine g_iconst_i d_T_takeNumber_43 ?_
        refine g_ireturn_1 rfl d_T_takeNumber_44 ?_
        first | (rw [if_neg (fun h => by omega)] at he; exact hQ1 hr _ (he ▸ hT)) | (rw [if_neg (fun h => by rw [hD] at h; exact Bool.noConfusion h.2)] at he; exact hQ1 hr _ (he ▸ hT))
      · refine g_aload_n (n := 0) (i := 0) rfl rfl d_T_takeNumber_28 ?_
        refine g_callV0 rfl rfl e_T_takeDigit l_T_56 iv_T_takeDigit 3 (by decide) rfl (by assumption) (by decide) (Nat.zero_le _) (Nat.zero_le _) (Nat.le_of_ble_eq_true rfl) d_T_takeNumber_29 (c_T_takeDigit hT.1 (by omega) (fun hD w hT2 => ?_) (fun hD => ?_))
        · refine g_ret ?_
          have hr1 := dgB_iff.1 hD
          have hm : tn (tDg t1) = tn t1 * 10 + sg t1 - 48 := rfl
          refine g_if_ne_i (tgt := 37) (by decide) d_T_takeNumber_32 (by decide) (fun h32 => ?_) (fun h => absurd h (by decide))
          refine g_iinc_i (i := 1) rfl (by decide) rfl d_T_takeNumber_37 ?_
          refine g_goto (tgt := 16) (by decide) d_T_takeNumber_40 ?_
          rw [if_pos ⟨by omega, hD⟩] at he
          exact g_cut (lv' := [(0, .ref (gad E 58)), (1, .int (iI (k9 + 1)))]) ⟨rfl, rfl, trivial⟩ (ih (k9 + 1) _ _ (by omega) (by omega) (hT.trans hT2) (by rw [hm]; omega) he hr)
        · refine g_ret ?_
          refine g_if_ne_i (tgt := 37) (by decide) d_T_takeNumber_32 (by decide) (fun h => absurd h (by decide)) (fun h32 => ?_)
          refine g_iconst_i d_T_takeNumber_35 ?_
          refine g_ireturn_1 rfl d_T_takeNumber_36 ?_
          first | (rw [if_neg (fun h => by omega)] at he; exact hQ1 hr _ (he ▸ hT)) | (rw [if_neg (fun h => by rw [hD] at h; exact Bool.noConfusion h.2)] at he; exact hQ1 hr _ (he ▸ hT))
  have hfr := hfr0
  refine g_enter (by decide) rfl rfl (fun h => by first | rfl | cases h) (Nat.le_of_ble_eq_true rfl) rfl ?_
  refine g_aload_n (n := 0) (i := 0) rfl rfl d_T_takeNumber_0 ?_
  refine g_iconst_i d_T_takeNumber_1 ?_
  refine g_putA 3 5 58 (by omega) y0 f_T_29 (Or.inl rfl) (by first | rfl | exact (iI_char (by omega)).1) (by first | rfl | exact (iI_char (by omega)).2) (Nat.le_of_ble_eq_true rfl) d_T_takeNumber_2 (fun w hs hn9 => ?_)
  have y0 : w 58 = tE E (tNm t 0) := hs
  have y1 : w 59 = chE (tNm t 0) := (hn9 59 (by omega)).trans y1
  have hfr := fun j (h1 : j ≠ 58) (h2 : j ≠ 59) => (hn9 j h1).trans (hfr j h1 h2)
  have kt : g_cell E w im (gad E 58) _ := g_mut 58 (by omega) y0
  have ks : g_cell E w im (gad E 59) _ := g_mut 59 (by omega) y1
  have ok : okT (tNm t 0) := ok.nm (by omega)
  have htA : TW E w (tNm t 0) := ⟨hn, y0, y1, ok⟩
  have hTA : TN E _ (tNm t 0) w := ⟨htA, hfr⟩
  refine g_aload_n (n := 0) (i := 0) rfl rfl d_T_takeNumber_5 ?_
  refine g_callV0 rfl rfl e_T_takeDigit l_T_56 iv_T_takeDigit 3 (by decide) rfl (by assumption) (by decide) (Nat.zero_le _) (Nat.zero_le _) (Nat.le_of_ble_eq_true rfl) d_T_takeNumber_6 (c_T_takeDigit htA (show (0 : Int) ≤ 9000 by decide) (fun hD1 w hT => ?_) (fun hD1 => ?_))
  · refine g_ret ?_
    have hr1 := dgB_iff.1 hD1
    refine g_if_ne_i (tgt := 14) (by decide) d_T_takeNumber_9 (by decide) (fun h9 => ?_) (fun h => absurd h (by decide))
    refine g_iconst_i d_T_takeNumber_14 ?_
    refine g_istore_n (n := 1) (i := 1) rfl (by decide) rfl d_T_takeNumber_15 ?_
    refine g_cut ?_ (loop 3 1 _ _ (by omega) (by omega) (hTA.trans hT) (Or.inl (show 0 * 10 + sg (tNm t 0) - 48 ≤ 9 by omega)) (by simp [rdNum, hD1]) (by simp [rdNum, hD1]))
    exact ⟨rfl, rfl, trivial⟩
  · refine g_ret ?_
    refine g_if_ne_i (tgt := 14) (by decide) d_T_takeNumber_9 (by decide) (fun h => absurd h (by decide)) (fun h9 => ?_)
    refine g_iconst_i d_T_takeNumber_12 ?_
    refine g_ireturn_0 rfl d_T_takeNumber_13 ?_
    (have he : rdNum t = (false, tNm t 0) := (by simp [rdNum, hD1]); rw [he] at hQ2; exact hQ2 rfl _ hTA)

