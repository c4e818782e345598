/-! ===== the resort: its changes ===== -/
section GW
variable {E : gE} {d : Nat} {M : gM} {pc : Nat} {lv : List (Nat × Value)} {st : List Value} {w : gW} {im : gIm} {kc ks : Nat} {Q : gQ}
theorem g_putA {idx : Nat} (ci k i : Nat) {fs : List Value} {v : Value} (hi : i < gN E) (hw : w i = .inr (ci, fs)) (h0 : g_fld M.1 idx ci k) (hfin : (g_T ci k).2.2.2 = false ∨ (M.2.2.2.2.2 = true ∧ M.1 = g_C ci)) (hn : narrow (g_y ci k) v = v) (hfit : fits (g_y ci k) v = true) (hlen : k < fs.length) (hd : decode M.2.1 pc = .ok (.putfield idx, 3))
    (kk : ∀ w', w' i = .inr (ci, fs.set k v) → (∀ j, j ≠ i → w' j = w j) → G E d M (pc + 3) (lv) (st) w' (im) (kc) (ks) Q) : G E d M (pc) (lv) (v :: .ref (gad E i) :: st) (w) (im) (kc) (ks) Q := g_putM_i ci k i hi hw h0 hfin hn hfit hlen hd (kk _ vf_us fun j h => vf_un h)
theorem g_iastoreA {n : Nat} {z v : Int} {m : Int → Int} (i0 : Nat) (hi : i0 < gN E) (hw : w i0 = .inl (0, n, .inl (fun j => iI (m j)))) (h0 : 0 ≤ z) (hz : z < n) (hn : n.blt 2147483648 = true) (hd : decode M.2.1 pc = .ok (.iastore, 1)) (kk : ∀ w', w' i0 = .inl (0, n, .inl (fun j => iI (uI m z v j))) → (∀ j, j ≠ i0 → w' j = w j) → G E d M (pc + 1) (lv) (st) w' (im) (kc) (ks) Q) : G E d M (pc) (lv) (.int (iI v) :: .int (iI z) :: .ref (gad E i0) :: st) (w) (im) (kc) (ks) Q := g_iastore_i i0 hi hw h0 hz hn hd (kk _ vf_us fun j h => vf_un h)
theorem g_castoreA {n : Nat} {z v : Int} {m : Int → Int} (i0 : Nat) (hi : i0 < gN E) (hw : w i0 = .inl (1, n, .inl (fun j => iI (m j)))) (h0 : 0 ≤ z) (hz : z < n) (hv : 0 ≤ v ∧ v < 65536) (hn : n.blt 2147483648 = true) (hd : decode M.2.1 pc = .ok (.castore, 1)) (kk : ∀ w', w' i0 = .inl (1, n, .inl (fun j => iI (uI m z v j))) → (∀ j, j ≠ i0 → w' j = w j) → G E d M (pc + 1) (lv) (st) w' (im) (kc) (ks) Q) : G E d M (pc) (lv) (.int (iI v) :: .int (iI z) :: .ref (gad E i0) :: st) (w) (im) (kc) (ks) Q := g_castore_i i0 hi hw h0 hz hv hn hd (kk _ vf_us fun j h => vf_un h)
theorem g_aastoreA {t n b ci : Nat} {z : Int} {r : Int → Option Nat} {fs : List Value} (i0 : Nat) (hi : i0 < gN E) (hw : w i0 = .inl (t, n, .inr (.inr (.inr (.inr (fun j => r j)))))) (ht : t < 8) (hci : ci < 10) (hC : g_ty t = .object (g_C ci)) (hb : g_cell E w im b (.inr (ci, fs))) (h0 : 0 ≤ z) (hz : z < n) (hn : n.blt 2147483648 = true) (hd : decode M.2.1 pc = .ok (.aastore, 1)) (kk : ∀ w', w' i0 = .inl (t, n, .inr (.inr (.inr (.inr (fun j => uI r z (some b) j))))) → (∀ j, j ≠ i0 → w' j = w j) → G E d M (pc + 1) (lv) (st) w' (im) (kc) (ks) Q) : G E d M (pc) (lv) (.ref b :: .int (iI z) :: .ref (gad E i0) :: st) (w) (im) (kc) (ks) Q := g_aastore_i i0 hi hw ht hci hC hb h0 hz hn hd (kk _ vf_us fun j h => vf_un h)
theorem g_aastoreNA {t n : Nat} {z : Int} {r : Int → Option Nat} {C : String} (i0 : Nat) (hi : i0 < gN E) (hw : w i0 = .inl (t, n, .inr (.inr (.inr (.inr (fun j => r j)))))) (ht : t < 8) (hC : g_ty t = .object C) (h0 : 0 ≤ z) (hz : z < n) (hn : n.blt 2147483648 = true) (hd : decode M.2.1 pc = .ok (.aastore, 1)) (kk : ∀ w', w' i0 = .inl (t, n, .inr (.inr (.inr (.inr (fun j => uI r z none j))))) → (∀ j, j ≠ i0 → w' j = w j) → G E d M (pc + 1) (lv) (st) w' (im) (kc) (ks) Q) : G E d M (pc) (lv) (.null :: .int (iI z) :: .ref (gad E i0) :: st) (w) (im) (kc) (ks) Q := g_aastoreN_i i0 hi hw ht hC h0 hz hn hd (kk _ vf_us fun j h => vf_un h)
theorem g_arraycopyA {idx a0 i1 n0 n1 N : Nat} {f g : Int → Int} {nz : Int} (h1 : Cond.methodLink M.1 idx arraycopyName ∈ g_all) (h2 : Cond.native arraycopyName ∈ g_all) (h3 : Cond.static arraycopyName ∈ g_all) (h4 : Cond.initialized "java/lang/System" ∈ g_all) (hcat : (st.map fun v => v.category).sum ≤ 8)
    (hc0 : g_cell E w im a0 (.inl (0, n0, .inl (fun j => iI (f j))))) (hi1 : i1 < gN E) (hw1 : w i1 = .inl (0, n1, .inl (fun j => iI (g j)))) (hn : nz = N) (hN0 : N ≤ n0) (hN1 : N ≤ n1) (hNb : N.blt 2147483648 = true) (hd : decode M.2.1 pc = .ok (.invokestatic idx, 3))
    (kk : ∀ w', w' i1 = .inl (0, n1, .inl (fun j => iI ((fun j : Int => if j < N then f j else g j) j))) → (∀ j, j ≠ i1 → w' j = w j) → G E d M (pc + 3) (lv) (st) w' (im) (kc) (ks) Q) : G E d M (pc) (lv) (.int (iI nz) :: .int (iI 0) :: .ref (gad E i1) :: .int (iI 0) :: .ref a0 :: st) (w) (im) (kc) (ks) Q := by
  refine g_arraycopy h1 h2 h3 h4 hcat hc0 hi1 hw1 (by decide) (by decide) (by rw [hn]; exact (iI_nI N).symm) hN0 hN1 hNb hd (kk _ ?_ fun j h => vf_un h)
  rw [vf_us]
  refine congrArg (fun x => (Sum.inl (0, n1, Sum.inl x) : gA)) (funext fun j => ?_)
  simp only [va_cpy]
  by_cases h : j < N
  · rw [if_pos (by omega), if_pos (by omega)]; simp
  · rw [if_neg (by omega), if_neg (by omega)]
end GW
/-- a resort has changed, and nothing else -/
def RN (E : gE) (w : gW) (im : gIm) (b : Nat) (R : Rz) (w' : gW) (im' : gIm) : Prop := (∀ i, i < b ∨ b + 4 < i → w' i = w i) ∧ (∀ a x, im a = some x → im' a = some x) ∧ RZ E w' im' b R
theorem chn.mono {im im' : gIm} (hm : ∀ a x, im a = some x → im' a = some x) : ∀ {rs : List rT} {la : Option Nat}, chn im la rs → chn im' la rs := by
  intro rs
  induction rs with
  | nil => intro la h; cases la with
    | none => trivial
    | some a => exact h.elim
  | cons x r ih => intro la h; cases la with
    | none => exact h.elim
    | some a =>
      obtain ⟨bf, ga, c1, c2, c3⟩ := h
      exact ⟨bf, ga, hm _ _ c1, hm _ _ c2, ih c3⟩
theorem RI.mono {im im' : gIm} (hm : ∀ a x, im a = some x → im' a = some x) {rg rp rc : Int → Option Nat} {R : Rz} (h : RI im rg rp rc R) : RI im' rg rp rc R := by
  obtain ⟨i1, i2, i3, i4, i5, i6⟩ := h
  refine ⟨fun i hi => ?_, i2, fun i hi => ?_, i4, fun i hi => ?_, i6⟩
  · obtain ⟨a, e1, e2⟩ := i1 i hi; exact ⟨a, e1, hm _ _ e2⟩
  · obtain ⟨a, e1, e2⟩ := i3 i hi; exact ⟨a, e1, hm _ _ e2⟩
  · obtain ⟨a, p, la, e1, e2, e3, e4⟩ := i5 i hi; exact ⟨a, p, la, e1, hm _ _ e2, hm _ _ e3, e4.mono hm⟩
theorem RZ.mono {E : gE} {w w' : gW} {im im' : gIm} {b : Nat} {R : Rz} (h : RZ E w im b R) (hw : ∀ i, b ≤ i ∧ i ≤ b + 4 → w' i = w i) (hm : ∀ a x, im a = some x → im' a = some x) : RZ E w' im' b R := by
  obtain ⟨rg, rp, rc, lc, ⟨hb, h0, h1, h2, h3, h4, hl⟩, hi, ok⟩ := h
  exact ⟨rg, rp, rc, lc, ⟨hb, (hw _ (by omega)).trans h0, (hw _ (by omega)).trans h1, (hw _ (by omega)).trans h2, (hw _ (by omega)).trans h3, (hw _ (by omega)).trans h4, hl⟩, hi.mono hm, ok⟩
def zAddG (R : Rz) (g : Gt) : Rz := ((zg R + 1, zp R, zc R, zs R, zk R), uI (zG R) (zg R) g, zP R, zC R, zL R)
def zAddP (R : Rz) (q : Pt9) : Rz := ((zg R, zp R + 1, zc R, zs R, zk R), zG R, uI (zP R) (zp R) q, zC R, zL R)
def zAddC (R : Rz) (c : Ct) : Rz := ((zg R, zp R, zc R + 1, zs R, zk R), zG R, zP R, uI (zC R) (zc R) c, zL R)
def zSetC (R : Rz) (i : Int) (c : Ct) : Rz := ((zg R, zp R, zc R, zs R, zk R), zG R, zP R, uI (zC R) i c, zL R)
def zShut (R : Rz) (s : Int) : Rz := ((zg R, zp R, zc R, s, zk R), zG R, zP R, zC R, zL R)
def zTime (R : Rz) (k : Int) (L : Int → Int) : Rz := ((zg R, zp R, zc R, zs R, k), zG R, zP R, zC R, L)
def zEmpty : Rz := ((0, 0, 0, 0, 480), fun _ => (0, 0), fun _ => (0, 0, 0, 0, 0, 0), fun _ => (0, 0, 0, 0, []), fun _ => 0)

theorem zg_AddG {R : Rz} {g : Gt} : zg (zAddG R g) = zg R + 1 := rfl
theorem zp_AddG {R : Rz} {g : Gt} : zp (zAddG R g) = zp R := rfl
theorem zc_AddG {R : Rz} {g : Gt} : zc (zAddG R g) = zc R := rfl
theorem zs_AddG {R : Rz} {g : Gt} : zs (zAddG R g) = zs R := rfl
theorem zk_AddG {R : Rz} {g : Gt} : zk (zAddG R g) = zk R := rfl
theorem zG_AddG {R : Rz} {g : Gt} : zG (zAddG R g) = uI (zG R) (zg R) g := rfl
theorem zP_AddG {R : Rz} {g : Gt} : zP (zAddG R g) = zP R := rfl
theorem zC_AddG {R : Rz} {g : Gt} : zC (zAddG R g) = zC R := rfl
theorem zL_AddG {R : Rz} {g : Gt} : zL (zAddG R g) = zL R := rfl
theorem zg_AddP {R : Rz} {q : Pt9} : zg (zAddP R q) = zg R := rfl
theorem zp_AddP {R : Rz} {q : Pt9} : zp (zAddP R q) = zp R + 1 := rfl
theorem zc_AddP {R : Rz} {q : Pt9} : zc (zAddP R q) = zc R := rfl
theorem zs_AddP {R : Rz} {q : Pt9} : zs (zAddP R q) = zs R := rfl
theorem zk_AddP {R : Rz} {q : Pt9} : zk (zAddP R q) = zk R := rfl
theorem zG_AddP {R : Rz} {q : Pt9} : zG (zAddP R q) = zG R := rfl
theorem zP_AddP {R : Rz} {q : Pt9} : zP (zAddP R q) = uI (zP R) (zp R) q := rfl
theorem zC_AddP {R : Rz} {q : Pt9} : zC (zAddP R q) = zC R := rfl
theorem zL_AddP {R : Rz} {q : Pt9} : zL (zAddP R q) = zL R := rfl
theorem zg_AddC {R : Rz} {c : Ct} : zg (zAddC R c) = zg R := rfl
theorem zp_AddC {R : Rz} {c : Ct} : zp (zAddC R c) = zp R := rfl
theorem zc_AddC {R : Rz} {c : Ct} : zc (zAddC R c) = zc R + 1 := rfl
theorem zs_AddC {R : Rz} {c : Ct} : zs (zAddC R c) = zs R := rfl
theorem zk_AddC {R : Rz} {c : Ct} : zk (zAddC R c) = zk R := rfl
theorem zG_AddC {R : Rz} {c : Ct} : zG (zAddC R c) = zG R := rfl
theorem zP_AddC {R : Rz} {c : Ct} : zP (zAddC R c) = zP R := rfl
theorem zC_AddC {R : Rz} {c : Ct} : zC (zAddC R c) = uI (zC R) (zc R) c := rfl
theorem zL_AddC {R : Rz} {c : Ct} : zL (zAddC R c) = zL R := rfl
theorem zg_SetC {R : Rz} {i : Int} {c : Ct} : zg (zSetC R i c) = zg R := rfl
theorem zp_SetC {R : Rz} {i : Int} {c : Ct} : zp (zSetC R i c) = zp R := rfl
theorem zc_SetC {R : Rz} {i : Int} {c : Ct} : zc (zSetC R i c) = zc R := rfl
theorem zs_SetC {R : Rz} {i : Int} {c : Ct} : zs (zSetC R i c) = zs R := rfl
theorem zk_SetC {R : Rz} {i : Int} {c : Ct} : zk (zSetC R i c) = zk R := rfl
theorem zG_SetC {R : Rz} {i : Int} {c : Ct} : zG (zSetC R i c) = zG R := rfl
theorem zP_SetC {R : Rz} {i : Int} {c : Ct} : zP (zSetC R i c) = zP R := rfl
theorem zC_SetC {R : Rz} {i : Int} {c : Ct} : zC (zSetC R i c) = uI (zC R) i c := rfl
theorem zL_SetC {R : Rz} {i : Int} {c : Ct} : zL (zSetC R i c) = zL R := rfl
theorem zg_Shut {R : Rz} {s : Int} : zg (zShut R s) = zg R := rfl
theorem zp_Shut {R : Rz} {s : Int} : zp (zShut R s) = zp R := rfl
theorem zc_Shut {R : Rz} {s : Int} : zc (zShut R s) = zc R := rfl
theorem zs_Shut {R : Rz} {s : Int} : zs (zShut R s) = s := rfl
theorem zk_Shut {R : Rz} {s : Int} : zk (zShut R s) = zk R := rfl
theorem zG_Shut {R : Rz} {s : Int} : zG (zShut R s) = zG R := rfl
theorem zP_Shut {R : Rz} {s : Int} : zP (zShut R s) = zP R := rfl
theorem zC_Shut {R : Rz} {s : Int} : zC (zShut R s) = zC R := rfl
theorem zL_Shut {R : Rz} {s : Int} : zL (zShut R s) = zL R := rfl
theorem zg_Time {R : Rz} {k : Int} {L : Int → Int} : zg (zTime R k L) = zg R := rfl
theorem zp_Time {R : Rz} {k : Int} {L : Int → Int} : zp (zTime R k L) = zp R := rfl
theorem zc_Time {R : Rz} {k : Int} {L : Int → Int} : zc (zTime R k L) = zc R := rfl
theorem zs_Time {R : Rz} {k : Int} {L : Int → Int} : zs (zTime R k L) = zs R := rfl
theorem zk_Time {R : Rz} {k : Int} {L : Int → Int} : zk (zTime R k L) = k := rfl
theorem zG_Time {R : Rz} {k : Int} {L : Int → Int} : zG (zTime R k L) = zG R := rfl
theorem zP_Time {R : Rz} {k : Int} {L : Int → Int} : zP (zTime R k L) = zP R := rfl
theorem zC_Time {R : Rz} {k : Int} {L : Int → Int} : zC (zTime R k L) = zC R := rfl
theorem zL_Time {R : Rz} {k : Int} {L : Int → Int} : zL (zTime R k L) = L := rfl
theorem RI.addG {im : gIm} {rg rp rc : Int → Option Nat} {R : Rz} {g : Gt} {a : Nat} (h : RI im rg rp rc R) (hz : 0 ≤ zg R ∧ zg R < 12) (ha : im a = some (gateE (zg R) g.1 g.2)) : RI im (uI rg (zg R) (some a)) rp rc (zAddG R g) := by
  obtain ⟨i1, i2, i3, i4, i5, i6⟩ := h
  refine ⟨fun i hi => ?_, fun i hi => ?_, i3, i4, i5, i6⟩
  · simp only [zg_AddG, zp_AddG, zc_AddG, zs_AddG, zk_AddG, zG_AddG, zP_AddG, zC_AddG, zL_AddG] at hi
    by_cases e : i = zg R
    · subst e
      exact ⟨a, by rw [uI_s], by simp only [zg_AddG, zp_AddG, zc_AddG, zs_AddG, zk_AddG, zG_AddG, zP_AddG, zC_AddG, zL_AddG]; rw [uI_s]; exact ha⟩
    · obtain ⟨a', e1, e2⟩ := i1 i (by omega)
      exact ⟨a', by rw [uI_n e]; exact e1, by simp only [zg_AddG, zp_AddG, zc_AddG, zs_AddG, zk_AddG, zG_AddG, zP_AddG, zC_AddG, zL_AddG]; rw [uI_n e]; exact e2⟩
  · simp only [zg_AddG, zp_AddG, zc_AddG, zs_AddG, zk_AddG, zG_AddG, zP_AddG, zC_AddG, zL_AddG] at hi
    rw [uI_n (by omega)]
    exact i2 i (by omega)
theorem RI.addP {im : gIm} {rg rp rc : Int → Option Nat} {R : Rz} {q : Pt9} {a : Nat} (h : RI im rg rp rc R) (hk : ∀ i, 0 ≤ i ∧ i < zc R → (zC R i).1 < zp R) (hz : 0 ≤ zp R ∧ zp R < 8) (ha : im a = some (prodAt (zp R) q)) : RI im rg (uI rp (zp R) (some a)) rc (zAddP R q) := by
  obtain ⟨i1, i2, i3, i4, i5, i6⟩ := h
  refine ⟨i1, i2, fun i hi => ?_, fun i hi => ?_, fun i hi => ?_, i6⟩
  · simp only [zg_AddP, zp_AddP, zc_AddP, zs_AddP, zk_AddP, zG_AddP, zP_AddP, zC_AddP, zL_AddP] at hi
    by_cases e : i = zp R
    · subst e
      exact ⟨a, by rw [uI_s], by simp only [zg_AddP, zp_AddP, zc_AddP, zs_AddP, zk_AddP, zG_AddP, zP_AddP, zC_AddP, zL_AddP]; rw [uI_s]; exact ha⟩
    · obtain ⟨a', e1, e2⟩ := i3 i (by omega)
      exact ⟨a', by rw [uI_n e]; exact e1, by simp only [zg_AddP, zp_AddP, zc_AddP, zs_AddP, zk_AddP, zG_AddP, zP_AddP, zC_AddP, zL_AddP]; rw [uI_n e]; exact e2⟩
  · simp only [zg_AddP, zp_AddP, zc_AddP, zs_AddP, zk_AddP, zG_AddP, zP_AddP, zC_AddP, zL_AddP] at hi
    rw [uI_n (by omega)]
    exact i4 i (by omega)
  · obtain ⟨a', p, la, e1, e2, e3, e4⟩ := i5 i hi
    have := hk i hi
    exact ⟨a', p, la, e1, e2, by simp only [zg_AddP, zp_AddP, zc_AddP, zs_AddP, zk_AddP, zG_AddP, zP_AddP, zC_AddP, zL_AddP]; rw [uI_n (by omega)]; exact e3, e4⟩
theorem RI.setC {im : gIm} {rg rp rc : Int → Option Nat} {R : Rz} {i : Int} {c : Ct} {a p : Nat} {la : Option Nat} (h : RI im rg rp rc R) (hi : 0 ≤ i ∧ i < zc R) (ha : im a = some (cardE i p c.2.1 c.2.2.1 c.2.2.2.1 la)) (hp : im p = some (prodAt c.1 (zP R c.1))) (hc : chn im la c.2.2.2.2) : RI im rg rp (uI rc i (some a)) (zSetC R i c) := by
  obtain ⟨i1, i2, i3, i4, i5, i6⟩ := h
  refine ⟨i1, i2, i3, i4, fun j hj => ?_, fun j hj => ?_⟩
  · simp only [zg_SetC, zp_SetC, zc_SetC, zs_SetC, zk_SetC, zG_SetC, zP_SetC, zC_SetC, zL_SetC]
    by_cases e : j = i
    · subst e
      exact ⟨a, p, la, by rw [uI_s], by rw [uI_s]; exact ha, by rw [uI_s]; exact hp, by rw [uI_s]; exact hc⟩
    · obtain ⟨a', p', la', e1, e2, e3, e4⟩ := i5 j hj
      exact ⟨a', p', la', by rw [uI_n e]; exact e1, by rw [uI_n e]; exact e2, by rw [uI_n e]; exact e3, by rw [uI_n e]; exact e4⟩
  · simp only [zg_SetC, zp_SetC, zc_SetC, zs_SetC, zk_SetC, zG_SetC, zP_SetC, zC_SetC, zL_SetC] at hj
    rw [uI_n (by omega)]
    exact i6 j hj
theorem RI.addC {im : gIm} {rg rp rc : Int → Option Nat} {R : Rz} {c : Ct} {a p : Nat} {la : Option Nat} (h : RI im rg rp rc R) (hz : 0 ≤ zc R ∧ zc R < 20) (ha : im a = some (cardE (zc R) p c.2.1 c.2.2.1 c.2.2.2.1 la)) (hp : im p = some (prodAt c.1 (zP R c.1))) (hc : chn im la c.2.2.2.2) : RI im rg rp (uI rc (zc R) (some a)) (zAddC R c) := by
  obtain ⟨i1, i2, i3, i4, i5, i6⟩ := h
  refine ⟨i1, i2, i3, i4, fun j hj => ?_, fun j hj => ?_⟩
  · simp only [zg_AddC, zp_AddC, zc_AddC, zs_AddC, zk_AddC, zG_AddC, zP_AddC, zC_AddC, zL_AddC] at hj ⊢
    by_cases e : j = zc R
    · subst e
      exact ⟨a, p, la, by rw [uI_s], by rw [uI_s]; exact ha, by rw [uI_s]; exact hp, by rw [uI_s]; exact hc⟩
    · obtain ⟨a', p', la', e1, e2, e3, e4⟩ := i5 j (by omega)
      exact ⟨a', p', la', by rw [uI_n e]; exact e1, by rw [uI_n e]; exact e2, by rw [uI_n e]; exact e3, by rw [uI_n e]; exact e4⟩
  · simp only [zg_AddC, zp_AddC, zc_AddC, zs_AddC, zk_AddC, zG_AddC, zP_AddC, zC_AddC, zL_AddC] at hj
    rw [uI_n (by omega)]
    exact i6 j (by omega)
theorem okZ.addG {R : Rz} {g : Gt} (h : okZ R) (hz : zg R < 12) (hg : (0 ≤ g.1 ∧ g.1 ≤ 3) ∧ (0 ≤ g.2 ∧ g.2 ≤ 99)) : okZ (zAddG R g) := by
  obtain ⟨k1, k2, k3, k4, k5, k6, k7, k8, k9⟩ := h
  refine ⟨by simp only [zg_AddG, zp_AddG, zc_AddG, zs_AddG, zk_AddG, zG_AddG, zP_AddG, zC_AddG, zL_AddG]; omega, k2, k3, k4, k5, fun i hi => ?_, k7, k8, k9⟩
  simp only [zg_AddG, zp_AddG, zc_AddG, zs_AddG, zk_AddG, zG_AddG, zP_AddG, zC_AddG, zL_AddG] at hi ⊢
  by_cases e : i = zg R
  · rw [e, uI_s]; exact hg
  · rw [uI_n e]; exact k6 i (by omega)
theorem okZ.addP {R : Rz} {q : Pt9} (h : okZ R) (hz : zp R < 8) (hq : okP q) : okZ (zAddP R q) := by
  obtain ⟨k1, k2, k3, k4, k5, k6, k7, k8, k9⟩ := h
  refine ⟨k1, by simp only [zg_AddP, zp_AddP, zc_AddP, zs_AddP, zk_AddP, zG_AddP, zP_AddP, zC_AddP, zL_AddP]; omega, k3, k4, k5, k6, fun i hi => ?_, fun i hi => ?_, k9⟩
  · simp only [zg_AddP, zp_AddP, zc_AddP, zs_AddP, zk_AddP, zG_AddP, zP_AddP, zC_AddP, zL_AddP] at hi ⊢
    by_cases e : i = zp R
    · rw [e, uI_s]; exact hq
    · rw [uI_n e]; exact k7 i (by omega)
  · have := k8 i hi
    simp only [zg_AddP, zp_AddP, zc_AddP, zs_AddP, zk_AddP, zG_AddP, zP_AddP, zC_AddP, zL_AddP] at hi ⊢
    exact ⟨by omega, this.2⟩
/-- a card's numbers are in their ranges, in a resort of so many products and cards -/
def okC (np nc i : Int) (c : Ct) : Prop := (0 ≤ c.1 ∧ c.1 < np) ∧ (0 ≤ c.2.1 ∧ c.2.1 ≤ 3) ∧ (c.2.2.1 = -1 ∨ (i < c.2.2.1 ∧ c.2.2.1 < nc)) ∧ (0 ≤ c.2.2.2.1 ∧ c.2.2.2.1 ≤ 400000) ∧ okR c.2.2.2.2
theorem okZ.setC {R : Rz} {i : Int} {c : Ct} (h : okZ R) (hc : okC (zp R) (zc R) i c) : okZ (zSetC R i c) := by
  obtain ⟨k1, k2, k3, k4, k5, k6, k7, k8, k9⟩ := h
  refine ⟨k1, k2, k3, k4, k5, k6, k7, fun j hj => ?_, k9⟩
  simp only [zg_SetC, zp_SetC, zc_SetC, zs_SetC, zk_SetC, zG_SetC, zP_SetC, zC_SetC, zL_SetC] at hj ⊢
  by_cases e : j = i
  · rw [e, uI_s]; exact hc
  · rw [uI_n e]; exact k8 j hj
theorem okZ.addC {R : Rz} {c : Ct} (h : okZ R) (hz : zc R < 20) (hc : okC (zp R) (zc R + 1) (zc R) c) : okZ (zAddC R c) := by
  obtain ⟨k1, k2, k3, k4, k5, k6, k7, k8, k9⟩ := h
  refine ⟨k1, k2, by simp only [zg_AddC, zp_AddC, zc_AddC, zs_AddC, zk_AddC, zG_AddC, zP_AddC, zC_AddC, zL_AddC]; omega, k4, k5, k6, k7, fun j hj => ?_, k9⟩
  simp only [zg_AddC, zp_AddC, zc_AddC, zs_AddC, zk_AddC, zG_AddC, zP_AddC, zC_AddC, zL_AddC] at hj ⊢
  by_cases e : j = zc R
  · rw [e, uI_s]; exact hc
  · rw [uI_n e]
    obtain ⟨o1, o2, o3, o4, o5⟩ := k8 j (by omega)
    exact ⟨o1, o2, by omega, o4, o5⟩
theorem okZ.shut {R : Rz} {s : Int} (h : okZ R) (hs : 0 ≤ s ∧ s < 4096) : okZ (zShut R s) := by
  obtain ⟨k1, k2, k3, k4, k5, k6, k7, k8, k9⟩ := h
  exact ⟨k1, k2, k3, hs, k5, k6, k7, k8, k9⟩
theorem okZ.empty : okZ zEmpty := by
  refine ⟨by decide, by decide, by decide, by decide, by decide, fun i hi => ?_, fun i hi => ?_, fun i hi => ?_, fun j hj => ⟨Int.le_refl 0, ?_⟩⟩
  · have hi : 0 ≤ i ∧ i < 0 := hi
    omega
  · have hi : 0 ≤ i ∧ i < 0 := hi
    omega
  · have hi : 0 ≤ i ∧ i < 0 := hi
    omega
  · exact cbZ_le.1

theorem c_R_insertGate {E : gE} {w : gW} {im : gIm} {Q : gQ} {b : Nat} {R : Rz} (hz : RZ E w im b R) {b9 : Nat} {gp gx : Int} (hg : im b9 = some (gateE (zg R) gp gx)) (rg9 : (0 ≤ gp ∧ gp ≤ 3) ∧ (0 ≤ gx ∧ gx ≤ 99)) (hlt : zg R < 12) (hQ : ∀ w' im', RN E w im b (zAddG R (gp, gx)) w' im' → Q (.inl (some (.int (iI (zg R))))) w' im') : GM E 0 y_R_insertGate m_R_insertGate 0 0 [.ref (gad E b), .ref b9] w im Q := by
  have hz9 := hz
  obtain ⟨rg, rp, rc, lc, ⟨hb, h0, h1, h2, h3, h4, hlc⟩, ⟨i1, i2, i3, i4, i5, i6⟩, ok⟩ := hz9
  obtain ⟨ok1, ok2, ok3, ok4, ok5, ok6, ok7, ok8, ok9⟩ := ok
  have co : g_cell E w im (gad E b) (resE E b R) := g_mut b (by omega) h0
  have cg : g_cell E w im (gad E (b + 1)) (rowE 4 12 rg) := g_mut (b + 1) (by omega) h1
  have cp : g_cell E w im (gad E (b + 2)) (rowE 5 8 rp) := g_mut (b + 2) (by omega) h2
  have cc : g_cell E w im (gad E (b + 3)) (rowE 6 20 rc) := g_mut (b + 3) (by omega) h3
  have cl : g_cell E w im (gad E (b + 4)) (intE 372 lc) := g_mut (b + 4) (by omega) h4
  have u0 := h0
  have u1 := h1
  have u2 := h2
  have u3 := h3
  have u4 := h4
  have hfr : ∀ i, i < b ∨ b + 4 < i → w i = w i := fun _ _ => rfl
  refine g_enter (by decide) rfl rfl (fun h => by first | rfl | cases h) (Nat.le_of_ble_eq_true rfl) rfl ?_
  refine g_aload_n (n := 0) (i := 0) rfl rfl d_R_insertGate_0 ?_
  refine g_getfield 1 4 f_R_33 (by first | assumption | exact g_imm hg) (by rfl) d_R_insertGate_1 ?_
  refine g_if_lt_i (tgt := 39) (by omega) d_R_insertGate_4 (by decide) (fun h => by exfalso; omega) (fun h4 => ?_)
  refine g_aload_n (n := 0) (i := 0) rfl rfl d_R_insertGate_7 ?_
  refine g_getfield 1 4 f_R_33 (by first | assumption | exact g_imm hg) (by rfl) d_R_insertGate_8 ?_
  refine g_aload_n (n := 0) (i := 0) rfl rfl d_R_insertGate_11 ?_
  refine g_getfield 1 0 f_R_11 (by first | assumption | exact g_imm hg) (by rfl) d_R_insertGate_12 ?_
  refine g_alen_i (by first | assumption | exact g_imm hg) (by decide) d_R_insertGate_15 ?_
  refine g_icmp_ge_i (tgt := 39) (by omega) (by omega) d_R_insertGate_16 (by decide) (fun h => by exfalso; omega) (fun h16 => ?_)
  refine g_aload_n (n := 0) (i := 0) rfl rfl d_R_insertGate_19 ?_
  refine g_getfield 1 0 f_R_11 (by first | assumption | exact g_imm hg) (by rfl) d_R_insertGate_20 ?_
  refine g_aload_n (n := 0) (i := 0) rfl rfl d_R_insertGate_23 ?_
  refine g_getfield 1 4 f_R_33 (by first | assumption | exact g_imm hg) (by rfl) d_R_insertGate_24 ?_
  refine g_aload_n (n := 1) (i := 1) rfl rfl d_R_insertGate_27 ?_
  refine g_aastoreA (b + 1) (by omega) (by assumption) (by decide) (by decide) (by rfl) (g_imm hg) (by omega) (by omega) (by rfl) d_R_insertGate_28 (fun w hs hn => ?_)
  have u0 := (hn (b) (by omega)).trans u0
  have u2 := (hn (b + 2) (by omega)).trans u2
  have u3 := (hn (b + 3) (by omega)).trans u3
  have u4 := (hn (b + 4) (by omega)).trans u4
  have u1 := hs
  have hfr := fun i (hi : i < b ∨ b + 4 < i) => (hn i (by omega)).trans (hfr i hi)
  have co : g_cell E w im (gad E b) _ := g_mut b (by omega) u0
  have cg : g_cell E w im (gad E (b + 1)) _ := g_mut (b + 1) (by omega) u1
  have cp : g_cell E w im (gad E (b + 2)) _ := g_mut (b + 2) (by omega) u2
  have cc : g_cell E w im (gad E (b + 3)) _ := g_mut (b + 3) (by omega) u3
  have cl : g_cell E w im (gad E (b + 4)) _ := g_mut (b + 4) (by omega) u4
  refine g_aload_n (n := 0) (i := 0) rfl rfl d_R_insertGate_29 ?_
  refine g_dup rfl d_R_insertGate_30 ?_
  refine g_getfield 1 4 f_R_33 (by first | assumption | exact g_imm hg) (by rfl) d_R_insertGate_31 ?_
  refine g_iconst_i d_R_insertGate_34 ?_
  refine g_iadd_i d_R_insertGate_35 ?_
  refine g_putA 1 4 (b) (by omega) (by assumption) f_R_33 (Or.inl rfl) (by rfl) (by rfl) (Nat.le_of_ble_eq_true rfl) d_R_insertGate_36 (fun w hs hn => ?_)
  have u1 := (hn (b + 1) (by omega)).trans u1
  have u2 := (hn (b + 2) (by omega)).trans u2
  have u3 := (hn (b + 3) (by omega)).trans u3
  have u4 := (hn (b + 4) (by omega)).trans u4
  have u0 : w (b) = resE E b (zAddG R (gp, gx)) := hs
  have hfr := fun i (hi : i < b ∨ b + 4 < i) => (hn i (by omega)).trans (hfr i hi)
  have co : g_cell E w im (gad E b) _ := g_mut b (by omega) u0
  have cg : g_cell E w im (gad E (b + 1)) _ := g_mut (b + 1) (by omega) u1
  have cp : g_cell E w im (gad E (b + 2)) _ := g_mut (b + 2) (by omega) u2
  have cc : g_cell E w im (gad E (b + 3)) _ := g_mut (b + 3) (by omega) u3
  have cl : g_cell E w im (gad E (b + 4)) _ := g_mut (b + 4) (by omega) u4
  refine g_aload_n (n := 1) (i := 1) rfl rfl d_R_insertGate_39 ?_
  refine g_getfield 5 0 f_R_67 (by first | assumption | exact g_imm hg) (by rfl) d_R_insertGate_40 ?_
  refine g_ireturn_i rfl d_R_insertGate_43 ?_
  exact hQ _ _ ⟨hfr, fun _ _ h => h, _, _, _, _, ⟨hb, u0, u1, u2, u3, u4, hlc⟩, RI.addG ⟨i1, i2, i3, i4, i5, i6⟩ (by omega) hg, okZ.addG ⟨ok1, ok2, ok3, ok4, ok5, ok6, ok7, ok8, ok9⟩ hlt rg9⟩

theorem c_R_insertProduct {E : gE} {w : gW} {im : gIm} {Q : gQ} {b : Nat} {R : Rz} (hz : RZ E w im b R) {b9 : Nat} {q : Pt9} (hg : im b9 = some (prodAt (zp R) q)) (rq : okP q) (hlt : zp R < 8) (hQ : ∀ w' im', RN E w im b (zAddP R q) w' im' → Q (.inl (some (.int (iI (zp R))))) w' im') : GM E 0 y_R_insertProduct m_R_insertProduct 0 0 [.ref (gad E b), .ref b9] w im Q := by
  have hz9 := hz
  obtain ⟨rg, rp, rc, lc, ⟨hb, h0, h1, h2, h3, h4, hlc⟩, ⟨i1, i2, i3, i4, i5, i6⟩, ok⟩ := hz9
  obtain ⟨ok1, ok2, ok3, ok4, ok5, ok6, ok7, ok8, ok9⟩ := ok
  have co : g_cell E w im (gad E b) (resE E b R) := g_mut b (by omega) h0
  have cg : g_cell E w im (gad E (b + 1)) (rowE 4 12 rg) := g_mut (b + 1) (by omega) h1
  have cp : g_cell E w im (gad E (b + 2)) (rowE 5 8 rp) := g_mut (b + 2) (by omega) h2
  have cc : g_cell E w im (gad E (b + 3)) (rowE 6 20 rc) := g_mut (b + 3) (by omega) h3
  have cl : g_cell E w im (gad E (b + 4)) (intE 372 lc) := g_mut (b + 4) (by omega) h4
  have u0 := h0
  have u1 := h1
  have u2 := h2
  have u3 := h3
  have u4 := h4
  have hfr : ∀ i, i < b ∨ b + 4 < i → w i = w i := fun _ _ => rfl
  refine g_enter (by decide) rfl rfl (fun h => by first | rfl | cases h) (Nat.le_of_ble_eq_true rfl) rfl ?_
  refine g_aload_n (n := 0) (i := 0) rfl rfl d_R_insertProduct_0 ?_
  refine g_getfield 1 5 f_R_37 (by first | assumption | exact g_imm hg) (by rfl) d_R_insertProduct_1 ?_
  refine g_if_lt_i (tgt := 39) (by omega) d_R_insertProduct_4 (by decide) (fun h => by exfalso; omega) (fun h4 => ?_)
  refine g_aload_n (n := 0) (i := 0) rfl rfl d_R_insertProduct_7 ?_
  refine g_getfield 1 5 f_R_37 (by first | assumption | exact g_imm hg) (by rfl) d_R_insertProduct_8 ?_
  refine g_aload_n (n := 0) (i := 0) rfl rfl d_R_insertProduct_11 ?_
  refine g_getfield 1 1 f_R_19 (by first | assumption | exact g_imm hg) (by rfl) d_R_insertProduct_12 ?_
  refine g_alen_i (by first | assumption | exact g_imm hg) (by decide) d_R_insertProduct_15 ?_
  refine g_icmp_ge_i (tgt := 39) (by omega) (by omega) d_R_insertProduct_16 (by decide) (fun h => by exfalso; omega) (fun h16 => ?_)
  refine g_aload_n (n := 0) (i := 0) rfl rfl d_R_insertProduct_19 ?_
  refine g_getfield 1 1 f_R_19 (by first | assumption | exact g_imm hg) (by rfl) d_R_insertProduct_20 ?_
  refine g_aload_n (n := 0) (i := 0) rfl rfl d_R_insertProduct_23 ?_
  refine g_getfield 1 5 f_R_37 (by first | assumption | exact g_imm hg) (by rfl) d_R_insertProduct_24 ?_
  refine g_aload_n (n := 1) (i := 1) rfl rfl d_R_insertProduct_27 ?_
  refine g_aastoreA (b + 2) (by omega) (by assumption) (by decide) (by decide) (by rfl) (g_imm hg) (by omega) (by omega) (by rfl) d_R_insertProduct_28 (fun w hs hn => ?_)
  have u0 := (hn (b) (by omega)).trans u0
  have u1 := (hn (b + 1) (by omega)).trans u1
  have u3 := (hn (b + 3) (by omega)).trans u3
  have u4 := (hn (b + 4) (by omega)).trans u4
  have u2 := hs
  have hfr := fun i (hi : i < b ∨ b + 4 < i) => (hn i (by omega)).trans (hfr i hi)
  have co : g_cell E w im (gad E b) _ := g_mut b (by omega) u0
  have cg : g_cell E w im (gad E (b + 1)) _ := g_mut (b + 1) (by omega) u1
  have cp : g_cell E w im (gad E (b + 2)) _ := g_mut (b + 2) (by omega) u2
  have cc : g_cell E w im (gad E (b + 3)) _ := g_mut (b + 3) (by omega) u3
  have cl : g_cell E w im (gad E (b + 4)) _ := g_mut (b + 4) (by omega) u4
  refine g_aload_n (n := 0) (i := 0) rfl rfl d_R_insertProduct_29 ?_
  refine g_dup rfl d_R_insertProduct_30 ?_
  refine g_getfield 1 5 f_R_37 (by first | assumption | exact g_imm hg) (by rfl) d_R_insertProduct_31 ?_
  refine g_iconst_i d_R_insertProduct_34 ?_
  refine g_iadd_i d_R_insertProduct_35 ?_
  refine g_putA 1 5 (b) (by omega) (by assumption) f_R_37 (Or.inl rfl) (by rfl) (by rfl) (Nat.le_of_ble_eq_true rfl) d_R_insertProduct_36 (fun w hs hn => ?_)
  have u1 := (hn (b + 1) (by omega)).trans u1
  have u2 := (hn (b + 2) (by omega)).trans u2
  have u3 := (hn (b + 3) (by omega)).trans u3
  have u4 := (hn (b + 4) (by omega)).trans u4
  have u0 : w (b) = resE E b (zAddP R q) := hs
  have hfr := fun i (hi : i < b ∨ b + 4 < i) => (hn i (by omega)).trans (hfr i hi)
  have co : g_cell E w im (gad E b) _ := g_mut b (by omega) u0
  have cg : g_cell E w im (gad E (b + 1)) _ := g_mut (b + 1) (by omega) u1
  have cp : g_cell E w im (gad E (b + 2)) _ := g_mut (b + 2) (by omega) u2
  have cc : g_cell E w im (gad E (b + 3)) _ := g_mut (b + 3) (by omega) u3
  have cl : g_cell E w im (gad E (b + 4)) _ := g_mut (b + 4) (by omega) u4
  refine g_aload_n (n := 1) (i := 1) rfl rfl d_R_insertProduct_39 ?_
  refine g_getfield 6 0 f_R_70 (by first | assumption | exact g_imm hg) (by rfl) d_R_insertProduct_40 ?_
  refine g_ireturn_i rfl d_R_insertProduct_43 ?_
  exact hQ _ _ ⟨hfr, fun _ _ h => h, _, _, _, _, ⟨hb, u0, u1, u2, u3, u4, hlc⟩, RI.addP ⟨i1, i2, i3, i4, i5, i6⟩ (fun i hi => (ok8 i hi).1.2) (by omega) hg, okZ.addP ⟨ok1, ok2, ok3, ok4, ok5, ok6, ok7, ok8, ok9⟩ hlt rq⟩

theorem c_R_putCard {E : gE} {w : gW} {im : gIm} {Q : gQ} {b : Nat} {R : Rz} {rc : Int → Option Nat} (hb : b + 4 < gN E) (h0 : w b = resE E b R) (h3 : w (b + 3) = rowE 6 20 rc) {ca p9 : Nat} {x st su rf : Int} {la : Option Nat} (hca : im ca = some (cardE x p9 st su rf la)) (rx : 0 ≤ x ∧ x < 20) (hQ : ∀ w', w' (b + 3) = rowE 6 20 (uI rc x (some ca)) → (∀ j, j ≠ b + 3 → w' j = w j) → Q (.inl none) w' im) : GM E 0 y_R_putCard m_R_putCard 0 0 [.ref (gad E b), .ref ca] w im Q := by
  have co : g_cell E w im (gad E b) (resE E b R) := g_mut b (by omega) h0
  have cc : g_cell E w im (gad E (b + 3)) (rowE 6 20 rc) := g_mut (b + 3) (by omega) h3
  have c1 := g_imm (E := E) (w := w) hca
  refine g_enter (by decide) rfl rfl (fun h => by first | rfl | cases h) (Nat.le_of_ble_eq_true rfl) rfl ?_
  refine g_aload_n (n := 1) (i := 1) rfl rfl d_R_putCard_0 ?_
  refine g_getfield 8 0 f_R_82 (by assumption) (by rfl) d_R_putCard_1 ?_
  refine g_if_lt_i (tgt := 29) (by omega) d_R_putCard_4 (by decide) (fun h => by exfalso; omega) (fun h4 => ?_)
  refine g_aload_n (n := 1) (i := 1) rfl rfl d_R_putCard_7 ?_
  refine g_getfield 8 0 f_R_82 (by assumption) (by rfl) d_R_putCard_8 ?_
  refine g_aload_n (n := 0) (i := 0) rfl rfl d_R_putCard_11 ?_
  refine g_getfield 1 2 f_R_25 (by assumption) (by rfl) d_R_putCard_12 ?_
  refine g_alen_i (by assumption) (by decide) d_R_putCard_15 ?_
  refine g_icmp_ge_i (tgt := 29) (by omega) (by omega) d_R_putCard_16 (by decide) (fun h => by exfalso; omega) (fun h16 => ?_)
  refine g_aload_n (n := 0) (i := 0) rfl rfl d_R_putCard_19 ?_
  refine g_getfield 1 2 f_R_25 (by assumption) (by rfl) d_R_putCard_20 ?_
  refine g_aload_n (n := 1) (i := 1) rfl rfl d_R_putCard_23 ?_
  refine g_getfield 8 0 f_R_82 (by assumption) (by rfl) d_R_putCard_24 ?_
  refine g_aload_n (n := 1) (i := 1) rfl rfl d_R_putCard_27 ?_
  refine g_aastore_i (b + 3) (by omega) h3 (by decide) (by decide) (by rfl) c1 (by omega) (by omega) (by rfl) d_R_putCard_28 ?_
  refine g_return rfl d_R_putCard_29 ?_
  exact hQ _ vf_us (fun j h => vf_un h)

theorem c_R_insertCard {E : gE} {w : gW} {im : gIm} {Q : gQ} {b : Nat} {R : Rz} (hz : RZ E w im b R) {pp : Nat} {pn : Int} {la : Option Nat} {rs : List rT} (hp : im pp = some (prodAt pn (zP R pn))) (rpn : 0 ≤ pn ∧ pn < zp R) (e4 : chn im la rs) (o5 : okR rs) (hlt : zc R < 20) (hQ : ∀ w' im', RN E w im b (zAddC R (pn, 0, -1, 0, rs)) w' im' → Q (.inl (some (.int (iI (zc R))))) w' im') : GM E 1 y_R_insertCard m_R_insertCard 1 6 [.ref (gad E b), .ref pp, va_rf la] w im Q := by
  have hz9 := hz
  obtain ⟨rg, rp, rc, lc, ⟨hb, h0, h1, h2, h3, h4, hlc⟩, ⟨i1, i2, i3, i4, i5, i6⟩, ok⟩ := hz9
  obtain ⟨ok1, ok2, ok3, ok4, ok5, ok6, ok7, ok8, ok9⟩ := ok
  have co : g_cell E w im (gad E b) (resE E b R) := g_mut b (by omega) h0
  have cg : g_cell E w im (gad E (b + 1)) (rowE 4 12 rg) := g_mut (b + 1) (by omega) h1
  have cp : g_cell E w im (gad E (b + 2)) (rowE 5 8 rp) := g_mut (b + 2) (by omega) h2
  have cc : g_cell E w im (gad E (b + 3)) (rowE 6 20 rc) := g_mut (b + 3) (by omega) h3
  have cl : g_cell E w im (gad E (b + 4)) (intE 372 lc) := g_mut (b + 4) (by omega) h4
  have u0 := h0
  have u1 := h1
  have u2 := h2
  have u3 := h3
  have u4 := h4
  have hfr : ∀ i, i < b ∨ b + 4 < i → w i = w i := fun _ _ => rfl
  rcases la with _ | la
  · refine g_enter (by decide) rfl rfl (fun h => by first | rfl | cases h) (Nat.le_of_ble_eq_true rfl) rfl ?_
    refine g_new 8 (by decide) c_R_23 ni_C.1 ni_C.2 (by first | decide | omega) (by first | decide | omega) d_R_insertCard_0 (fun q hq1 hq2 => ?_)
    refine g_dup rfl d_R_insertCard_3 ?_
    refine g_aload_n (n := 0) (i := 0) rfl rfl d_R_insertCard_4 ?_
    refine g_getfield 1 6 f_R_40 (by first | assumption | exact g_mut _ (by omega) (by assumption) | exact g_imm (by first | assumption | exact vf_us | exact im_new (by first | assumption | exact vf_us) (by assumption))) (by rfl) d_R_insertCard_5 ?_
    refine g_aload_n (n := 1) (i := 1) rfl rfl d_R_insertCard_8 ?_
    refine g_iconst_i d_R_insertCard_9 ?_
    refine g_iconst_i d_R_insertCard_10 ?_
    refine g_iconst_i d_R_insertCard_11 ?_
    refine g_aloadN_n (n := 2) (i := 2) rfl rfl d_R_insertCard_12 ?_
    refine g_callI6 rfl rfl e_C_init l_R_75 is_C_init rfl (by decide) (Nat.zero_le _) (Nat.zero_le _) (Nat.le_of_ble_eq_true rfl) d_R_insertCard_13 (c_C_init (la := none) vf_us ?_)
    refine g_retv ?_
    rw [vf_uu]
    refine g_astore_n (n := 3) (i := 3) rfl (by decide) rfl d_R_insertCard_16 ?_
    refine g_aload_n (n := 0) (i := 0) rfl rfl d_R_insertCard_17 ?_
    refine g_aload_n (n := 3) (i := 3) rfl rfl d_R_insertCard_18 ?_
    refine g_callV1 rfl rfl e_R_putCard l_R_78 iv_R_putCard 1 (by decide) rfl (by first | assumption | exact g_mut _ (by omega) (by assumption) | exact g_imm (by first | assumption | exact vf_us | exact im_new (by first | assumption | exact vf_us) (by assumption))) (by decide) (Nat.zero_le _) (Nat.zero_le _) (Nat.le_of_ble_eq_true rfl) d_R_insertCard_19 (c_R_putCard hb (by assumption) (by assumption) (by first | assumption | exact vf_us) (by omega) (fun w hs hn => ?_))
    refine g_retv ?_
    have u0 := (hn (b) (by omega)).trans u0
    have u1 := (hn (b + 1) (by omega)).trans u1
    have u2 := (hn (b + 2) (by omega)).trans u2
    have u4 := (hn (b + 4) (by omega)).trans u4
    have u3 := hs
    have hfr := fun i (hi : i < b ∨ b + 4 < i) => (hn i (by omega)).trans (hfr i hi)
    have co : g_cell E w im (gad E b) _ := g_mut b (by omega) u0
    have cg : g_cell E w im (gad E (b + 1)) _ := g_mut (b + 1) (by omega) u1
    have cp : g_cell E w im (gad E (b + 2)) _ := g_mut (b + 2) (by omega) u2
    have cc : g_cell E w im (gad E (b + 3)) _ := g_mut (b + 3) (by omega) u3
    have cl : g_cell E w im (gad E (b + 4)) _ := g_mut (b + 4) (by omega) u4
    refine g_aload_n (n := 0) (i := 0) rfl rfl d_R_insertCard_22 ?_
    refine g_dup rfl d_R_insertCard_23 ?_
    refine g_getfield 1 6 f_R_40 (by first | assumption | exact g_mut _ (by omega) (by assumption) | exact g_imm (by first | assumption | exact vf_us | exact im_new (by first | assumption | exact vf_us) (by assumption))) (by rfl) d_R_insertCard_24 ?_
    refine g_iconst_i d_R_insertCard_27 ?_
    refine g_iadd_i d_R_insertCard_28 ?_
    refine g_putA 1 6 (b) (by omega) (by assumption) f_R_40 (Or.inl rfl) (by rfl) (by rfl) (Nat.le_of_ble_eq_true rfl) d_R_insertCard_29 (fun w hs hn => ?_)
    have u1 := (hn (b + 1) (by omega)).trans u1
    have u2 := (hn (b + 2) (by omega)).trans u2
    have u3 := (hn (b + 3) (by omega)).trans u3
    have u4 := (hn (b + 4) (by omega)).trans u4
    have u0 : w (b) = resE E b (zAddC R (pn, 0, -1, 0, rs)) := hs
    have hfr := fun i (hi : i < b ∨ b + 4 < i) => (hn i (by omega)).trans (hfr i hi)
    have co : g_cell E w im (gad E b) _ := g_mut b (by omega) u0
    have cg : g_cell E w im (gad E (b + 1)) _ := g_mut (b + 1) (by omega) u1
    have cp : g_cell E w im (gad E (b + 2)) _ := g_mut (b + 2) (by omega) u2
    have cc : g_cell E w im (gad E (b + 3)) _ := g_mut (b + 3) (by omega) u3
    have cl : g_cell E w im (gad E (b + 4)) _ := g_mut (b + 4) (by omega) u4
    refine g_aload_n (n := 3) (i := 3) rfl rfl d_R_insertCard_32 ?_
    refine g_getfield 8 0 f_R_82 (by first | assumption | exact g_mut _ (by omega) (by assumption) | exact g_imm (by first | assumption | exact vf_us | exact im_new (by first | assumption | exact vf_us) (by assumption))) (by rfl) d_R_insertCard_33 ?_
    refine g_ireturn_i rfl d_R_insertCard_36 ?_
    exact hQ _ _ ⟨hfr, fun _ _ h => im_new h hq1, _, _, _, _, ⟨hb, u0, u1, u2, u3, u4, hlc⟩, RI.addC (la := none) (RI.mono (fun _ _ h => im_new h hq1) ⟨i1, i2, i3, i4, i5, i6⟩) (by omega) vf_us (im_new hp hq1) (chn.new hq1 e4), okZ.addC ⟨ok1, ok2, ok3, ok4, ok5, ok6, ok7, ok8, ok9⟩ hlt ⟨rpn, (show (0 : Int) ≤ 0 ∧ (0 : Int) ≤ 3 by omega), Or.inl rfl, (show (0 : Int) ≤ 0 ∧ (0 : Int) ≤ 400000 by omega), o5⟩⟩
  · refine g_enter (by decide) rfl rfl (fun h => by first | rfl | cases h) (Nat.le_of_ble_eq_true rfl) rfl ?_
    refine g_new 8 (by decide) c_R_23 ni_C.1 ni_C.2 (by first | decide | omega) (by first | decide | omega) d_R_insertCard_0 (fun q hq1 hq2 => ?_)
    refine g_dup rfl d_R_insertCard_3 ?_
    refine g_aload_n (n := 0) (i := 0) rfl rfl d_R_insertCard_4 ?_
    refine g_getfield 1 6 f_R_40 (by first | assumption | exact g_mut _ (by omega) (by assumption) | exact g_imm (by first | assumption | exact vf_us | exact im_new (by first | assumption | exact vf_us) (by assumption))) (by rfl) d_R_insertCard_5 ?_
    refine g_aload_n (n := 1) (i := 1) rfl rfl d_R_insertCard_8 ?_
    refine g_iconst_i d_R_insertCard_9 ?_
    refine g_iconst_i d_R_insertCard_10 ?_
    refine g_iconst_i d_R_insertCard_11 ?_
    refine g_aload_n (n := 2) (i := 2) rfl rfl d_R_insertCard_12 ?_
    refine g_callI6 rfl rfl e_C_init l_R_75 is_C_init rfl (by decide) (Nat.zero_le _) (Nat.zero_le _) (Nat.le_of_ble_eq_true rfl) d_R_insertCard_13 (c_C_init (la := some la) vf_us ?_)
    refine g_retv ?_
    rw [vf_uu]
    refine g_astore_n (n := 3) (i := 3) rfl (by decide) rfl d_R_insertCard_16 ?_
    refine g_aload_n (n := 0) (i := 0) rfl rfl d_R_insertCard_17 ?_
    refine g_aload_n (n := 3) (i := 3) rfl rfl d_R_insertCard_18 ?_
    refine g_callV1 rfl rfl e_R_putCard l_R_78 iv_R_putCard 1 (by decide) rfl (by first | assumption | exact g_mut _ (by omega) (by assumption) | exact g_imm (by first | assumption | exact vf_us | exact im_new (by first | assumption | exact vf_us) (by assumption))) (by decide) (Nat.zero_le _) (Nat.zero_le _) (Nat.le_of_ble_eq_true rfl) d_R_insertCard_19 (c_R_putCard hb (by assumption) (by assumption) (by first | assumption | exact vf_us) (by omega) (fun w hs hn => ?_))
    refine g_retv ?_
    have u0 := (hn (b) (by omega)).trans u0
    have u1 := (hn (b + 1) (by omega)).trans u1
    have u2 := (hn (b + 2) (by omega)).trans u2
    have u4 := (hn (b + 4) (by omega)).trans u4
    have u3 := hs
    have hfr := fun i (hi : i < b ∨ b + 4 < i) => (hn i (by omega)).trans (hfr i hi)
    have co : g_cell E w im (gad E b) _ := g_mut b (by omega) u0
    have cg : g_cell E w im (gad E (b + 1)) _ := g_mut (b + 1) (by omega) u1
    have cp : g_cell E w im (gad E (b + 2)) _ := g_mut (b + 2) (by omega) u2
    have cc : g_cell E w im (gad E (b + 3)) _ := g_mut (b + 3) (by omega) u3
    have cl : g_cell E w im (gad E (b + 4)) _ := g_mut (b + 4) (by omega) u4
    refine g_aload_n (n := 0) (i := 0) rfl rfl d_R_insertCard_22 ?_
    refine g_dup rfl d_R_insertCard_23 ?_
    refine g_getfield 1 6 f_R_40 (by first | assumption | exact g_mut _ (by omega) (by assumption) | exact g_imm (by first | assumption | exact vf_us | exact im_new (by first | assumption | exact vf_us) (by assumption))) (by rfl) d_R_insertCard_24 ?_
    refine g_iconst_i d_R_insertCard_27 ?_
    refine g_iadd_i d_R_insertCard_28 ?_
    refine g_putA 1 6 (b) (by omega) (by assumption) f_R_40 (Or.inl rfl) (by rfl) (by rfl) (Nat.le_of_ble_eq_true rfl) d_R_insertCard_29 (fun w hs hn => ?_)
    have u1 := (hn (b + 1) (by omega)).trans u1
    have u2 := (hn (b + 2) (by omega)).trans u2
    have u3 := (hn (b + 3) (by omega)).trans u3
    have u4 := (hn (b + 4) (by omega)).trans u4
    have u0 : w (b) = resE E b (zAddC R (pn, 0, -1, 0, rs)) := hs
    have hfr := fun i (hi : i < b ∨ b + 4 < i) => (hn i (by omega)).trans (hfr i hi)
    have co : g_cell E w im (gad E b) _ := g_mut b (by omega) u0
    have cg : g_cell E w im (gad E (b + 1)) _ := g_mut (b + 1) (by omega) u1
    have cp : g_cell E w im (gad E (b + 2)) _ := g_mut (b + 2) (by omega) u2
    have cc : g_cell E w im (gad E (b + 3)) _ := g_mut (b + 3) (by omega) u3
    have cl : g_cell E w im (gad E (b + 4)) _ := g_mut (b + 4) (by omega) u4
    refine g_aload_n (n := 3) (i := 3) rfl rfl d_R_insertCard_32 ?_
    refine g_getfield 8 0 f_R_82 (by first | assumption | exact g_mut _ (by omega) (by assumption) | exact g_imm (by first | assumption | exact vf_us | exact im_new (by first | assumption | exact vf_us) (by assumption))) (by rfl) d_R_insertCard_33 ?_
    refine g_ireturn_i rfl d_R_insertCard_36 ?_
    exact hQ _ _ ⟨hfr, fun _ _ h => im_new h hq1, _, _, _, _, ⟨hb, u0, u1, u2, u3, u4, hlc⟩, RI.addC (la := some la) (RI.mono (fun _ _ h => im_new h hq1) ⟨i1, i2, i3, i4, i5, i6⟩) (by omega) vf_us (im_new hp hq1) (chn.new hq1 e4), okZ.addC ⟨ok1, ok2, ok3, ok4, ok5, ok6, ok7, ok8, ok9⟩ hlt ⟨rpn, (show (0 : Int) ≤ 0 ∧ (0 : Int) ≤ 3 by omega), Or.inl rfl, (show (0 : Int) ≤ 0 ∧ (0 : Int) ≤ 400000 by omega), o5⟩⟩


theorem c_R_setBlocked {E : gE} {w : gW} {im : gIm} {Q : gQ} {b : Nat} {R : Rz} (hz : RZ E w im b R) {x : Int} {ca cp : Nat} {la : Option Nat} (hx : 0 ≤ x ∧ x < zc R) (e2 : im ca = some (cardE x cp (zC R x).2.1 (zC R x).2.2.1 (zC R x).2.2.2.1 la)) (e3 : im cp = some (prodAt (zC R x).1 (zP R (zC R x).1))) (e4 : chn im la (zC R x).2.2.2.2) {ob : Int} (ro : 0 ≤ ob ∧ ob ≤ 1) (hQ : ∀ w' im', RN E w im b (zSetC R x ((zC R x).1, ob, (zC R x).2.2)) w' im' → Q (.inl none) w' im') : GM E 2 y_R_setBlocked m_R_setBlocked 1 6 [.ref (gad E b), .ref ca, .int (iI ob)] w im Q := by
  have hz9 := hz
  obtain ⟨rg, rp, rc, lc, ⟨hb, h0, h1, h2, h3, h4, hlc⟩, ⟨i1, i2, i3, i4, i5, i6⟩, ok⟩ := hz9
  obtain ⟨ok1, ok2, ok3, ok4, ok5, ok6, ok7, ok8, ok9⟩ := ok
  have co : g_cell E w im (gad E b) (resE E b R) := g_mut b (by omega) h0
  have cg : g_cell E w im (gad E (b + 1)) (rowE 4 12 rg) := g_mut (b + 1) (by omega) h1
  have cp : g_cell E w im (gad E (b + 2)) (rowE 5 8 rp) := g_mut (b + 2) (by omega) h2
  have cc : g_cell E w im (gad E (b + 3)) (rowE 6 20 rc) := g_mut (b + 3) (by omega) h3
  have cl : g_cell E w im (gad E (b + 4)) (intE 372 lc) := g_mut (b + 4) (by omega) h4
  have u0 := h0
  have u1 := h1
  have u2 := h2
  have u3 := h3
  have u4 := h4
  have hfr : ∀ i, i < b ∨ b + 4 < i → w i = w i := fun _ _ => rfl
  have c1 := g_imm (E := E) (w := w) e2
  have c2 := g_imm (E := E) (w := w) e3
  obtain ⟨o1, o2, o3, o4, o5⟩ := ok8 x hx
  have oq := ok7 (zC R x).1 o1
  have hlen := o5.1
  refine g_enter (by decide) rfl rfl (fun h => by first | rfl | cases h) (Nat.le_of_ble_eq_true rfl) rfl ?_
  refine g_aload_n (n := 0) (i := 0) rfl rfl d_R_setBlocked_0 ?_
  refine g_aload_n (n := 1) (i := 1) rfl rfl d_R_setBlocked_1 ?_
  refine g_iload_n (n := 2) (i := 2) rfl rfl d_R_setBlocked_2 ?_
  refine g_callV1 rfl rfl e_C_withBlock l_R_83 iv_C_withBlock 8 (by decide) rfl (by first | assumption | exact g_mut _ (by omega) (by assumption) | exact g_imm (by first | assumption | exact vf_us | exact im_new (by first | assumption | exact vf_us) (by assumption))) (by decide) (Nat.le_refl _) (Nat.le_refl _) (Nat.le_of_ble_eq_true rfl) d_R_setBlocked_3 (c_C_withBlock (by assumption) (by omega) (fun q hq1 hq2 => ?_))
  refine g_retn ?_
  refine g_callV1 rfl rfl e_R_putCard l_R_78 iv_R_putCard 1 (by decide) rfl (by first | assumption | exact g_mut _ (by omega) (by assumption) | exact g_imm (by first | assumption | exact vf_us | exact im_new (by first | assumption | exact vf_us) (by assumption))) (by decide) (Nat.zero_le _) (Nat.zero_le _) (Nat.le_of_ble_eq_true rfl) d_R_setBlocked_6 (c_R_putCard hb (by assumption) (by assumption) (by first | assumption | exact vf_us) (by omega) (fun w hs hn => ?_))
  refine g_retv ?_
  have u0 := (hn (b) (by omega)).trans u0
  have u1 := (hn (b + 1) (by omega)).trans u1
  have u2 := (hn (b + 2) (by omega)).trans u2
  have u4 := (hn (b + 4) (by omega)).trans u4
  have u3 := hs
  have hfr := fun i (hi : i < b ∨ b + 4 < i) => (hn i (by omega)).trans (hfr i hi)
  have co : g_cell E w im (gad E b) _ := g_mut b (by omega) u0
  have cg : g_cell E w im (gad E (b + 1)) _ := g_mut (b + 1) (by omega) u1
  have cp : g_cell E w im (gad E (b + 2)) _ := g_mut (b + 2) (by omega) u2
  have cc : g_cell E w im (gad E (b + 3)) _ := g_mut (b + 3) (by omega) u3
  have cl : g_cell E w im (gad E (b + 4)) _ := g_mut (b + 4) (by omega) u4
  refine g_return rfl d_R_setBlocked_9 ?_
  exact hQ _ _ ⟨hfr, fun _ _ h => im_new h hq1, _, _, _, _, ⟨hb, u0, u1, u2, u3, u4, hlc⟩, RI.setC (i := x) (la := la) (RI.mono (fun _ _ h => im_new h hq1) ⟨i1, i2, i3, i4, i5, i6⟩) hx vf_us (im_new e3 hq1) (chn.new hq1 e4), okZ.setC (i := x) ⟨ok1, ok2, ok3, ok4, ok5, ok6, ok7, ok8, ok9⟩ ⟨o1, (show 0 ≤ ob ∧ ob ≤ 3 by omega), o3, o4, o5⟩⟩

theorem cldays_le {R : Rz} {ps : Int} {rs : List rT} : 0 ≤ cldays R ps rs ∧ cldays R ps rs ≤ 31 := by
  have := sumZ_le (f := fun k9 => if tb (dmask rs : Nat) k9 then (if closedB R ps k9 then 1 else 0) else 0) (c := 1) (n := 31) (by omega) (fun k9 _ _ => by (repeat' split) <;> omega)
  unfold cldays
  omega
theorem refundZ_le {R : Rz} {q : Pt9} {st : Int} {rs : List rT} (h : okP q) : 0 ≤ refundZ R q st rs ∧ refundZ R q st rs ≤ 400000 := by
  have h1 := cldays_le (R := R) (ps := q.2.2.2.2.1) (rs := rs)
  have h2 : 0 ≤ q.2.2.2.2.2 / q.2.1 ∧ q.2.2.2.2.2 / q.2.1 ≤ 9999 := ⟨Int.ediv_nonneg (by omega) (by omega), Int.le_trans (Int.ediv_le_self _ (by omega)) (by omega)⟩
  unfold refundZ
  split
  · omega
  · split
    · omega
    · have h3 := Int.mul_le_mul h2.2 h1.2 h1.1 (by omega)
      have h4 := Int.mul_nonneg h2.1 h1.1
      omega

theorem c_R_payBack {E : gE} {w : gW} {im : gIm} {Q : gQ} {b : Nat} {R : Rz} (hz : RZ E w im b R) {x : Int} {ca cp : Nat} {la : Option Nat} (hx : 0 ≤ x ∧ x < zc R) (e2 : im ca = some (cardE x cp (zC R x).2.1 (zC R x).2.2.1 (zC R x).2.2.2.1 la)) (e3 : im cp = some (prodAt (zC R x).1 (zP R (zC R x).1))) (e4 : chn im la (zC R x).2.2.2.2) (hQ : ∀ w' im', RN E w im b (zSetC R x ((zC R x).1, 3, (zC R x).2.2.1, refundZ R (zP R (zC R x).1) (zC R x).2.1 (zC R x).2.2.2.2, (zC R x).2.2.2.2)) w' im' → Q (.inl (some (.int (iI (refundZ R (zP R (zC R x).1) (zC R x).2.1 (zC R x).2.2.2.2))))) w' im') : GM E 4 y_R_payBack m_R_payBack 1 6 [.ref (gad E b), .ref ca] w im Q := by
  have hz9 := hz
  obtain ⟨rg, rp, rc, lc, ⟨hb, h0, h1, h2, h3, h4, hlc⟩, ⟨i1, i2, i3, i4, i5, i6⟩, ok⟩ := hz9
  obtain ⟨ok1, ok2, ok3, ok4, ok5, ok6, ok7, ok8, ok9⟩ := ok
  have co : g_cell E w im (gad E b) (resE E b R) := g_mut b (by omega) h0
  have cg : g_cell E w im (gad E (b + 1)) (rowE 4 12 rg) := g_mut (b + 1) (by omega) h1
  have cp : g_cell E w im (gad E (b + 2)) (rowE 5 8 rp) := g_mut (b + 2) (by omega) h2
  have cc : g_cell E w im (gad E (b + 3)) (rowE 6 20 rc) := g_mut (b + 3) (by omega) h3
  have cl : g_cell E w im (gad E (b + 4)) (intE 372 lc) := g_mut (b + 4) (by omega) h4
  have u0 := h0
  have u1 := h1
  have u2 := h2
  have u3 := h3
  have u4 := h4
  have hfr : ∀ i, i < b ∨ b + 4 < i → w i = w i := fun _ _ => rfl
  have c1 := g_imm (E := E) (w := w) e2
  have c2 := g_imm (E := E) (w := w) e3
  obtain ⟨o1, o2, o3, o4, o5⟩ := ok8 x hx
  have oq := ok7 (zC R x).1 o1
  have hlen := o5.1
  have hrf := refundZ_le (R := R) (st := (zC R x).2.1) (rs := (zC R x).2.2.2.2) oq
  refine g_enter (by decide) rfl rfl (fun h => by first | rfl | cases h) (Nat.le_of_ble_eq_true rfl) rfl ?_
  refine g_aload_n (n := 0) (i := 0) rfl rfl d_R_payBack_0 ?_
  refine g_aload_n (n := 1) (i := 1) rfl rfl d_R_payBack_1 ?_
  refine g_callV1 rfl rfl e_R_refundFor l_R_99 iv_R_refundFor 1 (by decide) rfl (by first | assumption | exact g_mut _ (by omega) (by assumption) | exact g_imm (by first | assumption | exact vf_us | exact im_new (by first | assumption | exact vf_us) (by assumption))) (by decide) (Nat.zero_le _) (Nat.zero_le _) (Nat.le_of_ble_eq_true rfl) d_R_payBack_2 (c_R_refundFor (by assumption) (by assumption) (by assumption) (by assumption) (by assumption) (by omega) (by first | assumption | omega) ?_)
  refine g_ret ?_
  refine g_istore_n (n := 2) (i := 2) rfl (by decide) rfl d_R_payBack_5 ?_
  refine g_aload_n (n := 0) (i := 0) rfl rfl d_R_payBack_6 ?_
  refine g_aload_n (n := 1) (i := 1) rfl rfl d_R_payBack_7 ?_
  refine g_iload_n (n := 2) (i := 2) rfl rfl d_R_payBack_8 ?_
  refine g_callV1 rfl rfl e_C_paidBack l_R_103 iv_C_paidBack 8 (by decide) rfl (by first | assumption | exact g_mut _ (by omega) (by assumption) | exact g_imm (by first | assumption | exact vf_us | exact im_new (by first | assumption | exact vf_us) (by assumption))) (by decide) (Nat.le_refl _) (Nat.le_refl _) (Nat.le_of_ble_eq_true rfl) d_R_payBack_9 (c_C_paidBack (by assumption) (fun q hq1 hq2 => ?_))
  refine g_retn ?_
  refine g_callV1 rfl rfl e_R_putCard l_R_78 iv_R_putCard 1 (by decide) rfl (by first | assumption | exact g_mut _ (by omega) (by assumption) | exact g_imm (by first | assumption | exact vf_us | exact im_new (by first | assumption | exact vf_us) (by assumption))) (by decide) (Nat.zero_le _) (Nat.zero_le _) (Nat.le_of_ble_eq_true rfl) d_R_payBack_12 (c_R_putCard hb (by assumption) (by assumption) (by first | assumption | exact vf_us) (by omega) (fun w hs hn => ?_))
  refine g_retv ?_
  have u0 := (hn (b) (by omega)).trans u0
  have u1 := (hn (b + 1) (by omega)).trans u1
  have u2 := (hn (b + 2) (by omega)).trans u2
  have u4 := (hn (b + 4) (by omega)).trans u4
  have u3 := hs
  have hfr := fun i (hi : i < b ∨ b + 4 < i) => (hn i (by omega)).trans (hfr i hi)
  have co : g_cell E w im (gad E b) _ := g_mut b (by omega) u0
  have cg : g_cell E w im (gad E (b + 1)) _ := g_mut (b + 1) (by omega) u1
  have cp : g_cell E w im (gad E (b + 2)) _ := g_mut (b + 2) (by omega) u2
  have cc : g_cell E w im (gad E (b + 3)) _ := g_mut (b + 3) (by omega) u3
  have cl : g_cell E w im (gad E (b + 4)) _ := g_mut (b + 4) (by omega) u4
  refine g_iload_n (n := 2) (i := 2) rfl rfl d_R_payBack_15 ?_
  refine g_ireturn_i rfl d_R_payBack_16 ?_
  exact hQ _ _ ⟨hfr, fun _ _ h => im_new h hq1, _, _, _, _, ⟨hb, u0, u1, u2, u3, u4, hlc⟩, RI.setC (i := x) (la := la) (RI.mono (fun _ _ h => im_new h hq1) ⟨i1, i2, i3, i4, i5, i6⟩) hx vf_us (im_new e3 hq1) (chn.new hq1 e4), okZ.setC (i := x) ⟨ok1, ok2, ok3, ok4, ok5, ok6, ok7, ok8, ok9⟩ ⟨o1, (show (0 : Int) ≤ 3 ∧ (3 : Int) ≤ 3 by omega), o3, hrf, o5⟩⟩

theorem chn.ne {im : gIm} {q : Nat} {la : Option Nat} {rs : List rT} (h : chn im la rs) (hq : im q = none) : la ≠ some q := by
  intro e
  rw [e] at h
  cases rs with
  | nil => exact h.elim
  | cons x r =>
    obtain ⟨bf, ga, c1, _⟩ := h
    rw [hq] at c1
    cases c1
theorem chn.none {im : gIm} : chn im none [] := trivial
theorem okR.nil : okR [] := ⟨by decide, fun x hx => by cases hx⟩
theorem okR.cons {q : rT} {rs : List rT} (h : okR rs) (hl : rs.length < 1000) (hq : (0 ≤ q.1 ∧ q.1 ≤ 11) ∧ (0 ≤ q.2.1 ∧ q.2.1 ≤ 3) ∧ (0 ≤ q.2.2.1 ∧ q.2.2.1 ≤ 99) ∧ (0 ≤ q.2.2.2 ∧ q.2.2.2 ≤ 43200)) : okR (q :: rs) := ⟨by simp only [List.length_cons]; omega, fun x hx => by
  rcases List.mem_cons.mp hx with rfl | hx
  · exact hq
  · exact h.2 x hx⟩

theorem c_R_addRide {E : gE} {w : gW} {im : gIm} {Q : gQ} {b : Nat} {R : Rz} (hz : RZ E w im b R) {x : Int} {ca cp : Nat} {la : Option Nat} (hx : 0 ≤ x ∧ x < zc R) (e2 : im ca = some (cardE x cp (zC R x).2.1 (zC R x).2.2.1 (zC R x).2.2.2.1 la)) (e3 : im cp = some (prodAt (zC R x).1 (zP R (zC R x).1))) (e4 : chn im la (zC R x).2.2.2.2) {b9 : Nat} {gn gp gx : Int} (hg : im b9 = some (gateE gn gp gx)) (rg9 : (0 ≤ gn ∧ gn ≤ 11) ∧ (0 ≤ gp ∧ gp ≤ 3) ∧ (0 ≤ gx ∧ gx ≤ 99)) (hrl : (zC R x).2.2.2.2.length < 1000) (hQ : ∀ w' im', RN E w im b (zSetC R x ((zC R x).1, (zC R x).2.1, (zC R x).2.2.1, (zC R x).2.2.2.1, (gn, gp, gx, zk R) :: (zC R x).2.2.2.2)) w' im' → Q (.inl (some (.int (iI ((zC R x).2.2.2.2.length + 1))))) w' im') : GM E 2 y_R_addRide m_R_addRide 2 11 [.ref (gad E b), .ref ca, .ref b9] w im Q := by
  have hz9 := hz
  obtain ⟨rg, rp, rc, lc, ⟨hb, h0, h1, h2, h3, h4, hlc⟩, ⟨i1, i2, i3, i4, i5, i6⟩, ok⟩ := hz9
  obtain ⟨ok1, ok2, ok3, ok4, ok5, ok6, ok7, ok8, ok9⟩ := ok
  have co : g_cell E w im (gad E b) (resE E b R) := g_mut b (by omega) h0
  have cg : g_cell E w im (gad E (b + 1)) (rowE 4 12 rg) := g_mut (b + 1) (by omega) h1
  have cp : g_cell E w im (gad E (b + 2)) (rowE 5 8 rp) := g_mut (b + 2) (by omega) h2
  have cc : g_cell E w im (gad E (b + 3)) (rowE 6 20 rc) := g_mut (b + 3) (by omega) h3
  have cl : g_cell E w im (gad E (b + 4)) (intE 372 lc) := g_mut (b + 4) (by omega) h4
  have u0 := h0
  have u1 := h1
  have u2 := h2
  have u3 := h3
  have u4 := h4
  have hfr : ∀ i, i < b ∨ b + 4 < i → w i = w i := fun _ _ => rfl
  have c1 := g_imm (E := E) (w := w) e2
  have c2 := g_imm (E := E) (w := w) e3
  obtain ⟨o1, o2, o3, o4, o5⟩ := ok8 x hx
  have oq := ok7 (zC R x).1 o1
  have hlen := o5.1
  refine g_enter (by decide) rfl rfl (fun h => by first | rfl | cases h) (Nat.le_of_ble_eq_true rfl) rfl ?_
  refine g_new 7 (by decide) c_R_106 ni_I.1 ni_I.2 (by first | decide | omega) (by first | decide | omega) d_R_addRide_0 (fun q0 hq01 hq02 => ?_)
  refine g_dup rfl d_R_addRide_3 ?_
  refine g_aload_n (n := 1) (i := 1) rfl rfl d_R_addRide_4 ?_
  refine g_getfield 8 5 f_R_91 (by first | assumption | exact g_mut _ (by omega) (by assumption) | exact g_imm (by first | assumption | exact vf_us | exact im_new (by first | assumption | exact vf_us) (by assumption))) (by rfl) d_R_addRide_5 ?_
  refine g_aload_n (n := 2) (i := 2) rfl rfl d_R_addRide_8 ?_
  refine g_aload_n (n := 0) (i := 0) rfl rfl d_R_addRide_9 ?_
  refine g_getfield 1 8 f_R_46 (by first | assumption | exact g_mut _ (by omega) (by assumption) | exact g_imm (by first | assumption | exact vf_us | exact im_new (by first | assumption | exact vf_us) (by assumption))) (by rfl) d_R_addRide_10 ?_
  refine g_callI3 rfl rfl e_I_init l_R_108 is_I_init rfl (by decide) (Nat.zero_le _) (Nat.zero_le _) (Nat.le_of_ble_eq_true rfl) d_R_addRide_13 (c_I_init (rs := (zC R x).2.2.2.2) (by omega) vf_us (chn.ne e4 hq01) (chn.new hq01 e4) o5 ?_)
  refine g_retvn ?_
  rw [vf_uu]
  refine g_astore_n (n := 3) (i := 3) rfl (by decide) rfl d_R_addRide_16 ?_
  refine g_aload_n (n := 0) (i := 0) rfl rfl d_R_addRide_17 ?_
  refine g_aload_n (n := 1) (i := 1) rfl rfl d_R_addRide_18 ?_
  refine g_aload_n (n := 3) (i := 3) rfl rfl d_R_addRide_19 ?_
  refine g_callV1 rfl rfl e_C_withRide l_R_111 iv_C_withRide 8 (by decide) rfl (by first | assumption | exact g_mut _ (by omega) (by assumption) | exact g_imm (by first | assumption | exact vf_us | exact im_new (by first | assumption | exact vf_us) (by assumption))) (by decide) (by decide) (by decide) (Nat.le_of_ble_eq_true rfl) d_R_addRide_20 (c_C_withRide (g_imm (im_new e2 hq01)) (fun q hq1 hq2 => ?_))
  refine g_retn ?_
  refine g_callV1 rfl rfl e_R_putCard l_R_78 iv_R_putCard 1 (by decide) rfl (by first | assumption | exact g_mut _ (by omega) (by assumption) | exact g_imm (by first | assumption | exact vf_us | exact im_new (by first | assumption | exact vf_us) (by assumption))) (by decide) (Nat.zero_le _) (Nat.zero_le _) (Nat.le_of_ble_eq_true rfl) d_R_addRide_23 (c_R_putCard hb (by assumption) (by assumption) (by first | assumption | exact vf_us) (by omega) (fun w hs hn => ?_))
  refine g_retv ?_
  have u0 := (hn (b) (by omega)).trans u0
  have u1 := (hn (b + 1) (by omega)).trans u1
  have u2 := (hn (b + 2) (by omega)).trans u2
  have u4 := (hn (b + 4) (by omega)).trans u4
  have u3 := hs
  have hfr := fun i (hi : i < b ∨ b + 4 < i) => (hn i (by omega)).trans (hfr i hi)
  have co : g_cell E w im (gad E b) _ := g_mut b (by omega) u0
  have cg : g_cell E w im (gad E (b + 1)) _ := g_mut (b + 1) (by omega) u1
  have cp : g_cell E w im (gad E (b + 2)) _ := g_mut (b + 2) (by omega) u2
  have cc : g_cell E w im (gad E (b + 3)) _ := g_mut (b + 3) (by omega) u3
  have cl : g_cell E w im (gad E (b + 4)) _ := g_mut (b + 4) (by omega) u4
  refine g_aload_n (n := 3) (i := 3) rfl rfl d_R_addRide_26 ?_
  refine g_getfield 7 3 f_R_115 (by first | assumption | exact g_mut _ (by omega) (by assumption) | exact g_imm (by first | assumption | exact vf_us | exact im_new (by first | assumption | exact vf_us) (by assumption))) (by rfl) d_R_addRide_27 ?_
  refine g_ireturn_i rfl d_R_addRide_30 ?_
  exact hQ _ _ ⟨hfr, fun _ _ h => im_new (im_new h hq01) hq1, _, _, _, _, ⟨hb, u0, u1, u2, u3, u4, hlc⟩, RI.setC (i := x) (la := some q0) (RI.mono (fun _ _ h => im_new (im_new h hq01) hq1) ⟨i1, i2, i3, i4, i5, i6⟩) hx vf_us (im_new (im_new e3 hq01) hq1) ⟨la, b9, im_new vf_us hq1, im_new (im_new hg hq01) hq1, chn.new hq1 (chn.new hq01 e4)⟩, okZ.setC (i := x) ⟨ok1, ok2, ok3, ok4, ok5, ok6, ok7, ok8, ok9⟩ ⟨o1, o2, o3, o4, okR.cons o5 hrl ⟨rg9.1, rg9.2.1, rg9.2.2, (show 0 ≤ zk R ∧ zk R ≤ 43200 by omega)⟩⟩⟩

