section GH
variable {E : gE} {d : Nat} {M : gM} {pc : Nat} {lv : List (Nat × Value)} {st : List Value} {w : gW} {im : gIm} {kc ks : Nat} {Q : gQ}
/-- what a field's place in the constant pool means: class ci, field k -/
def g_fld (own : String) (idx ci k : Nat) : Prop := ci < 10 ∧ k < g_n ci ∧ (Cond.fieldLink own idx (g_C ci) (g_T ci k).2.1 (g_T ci k).2.2.1 ∈ g_all ∨ ∃ host, Cond.fieldLinkNest own idx (g_C ci) (g_T ci k).2.1 (g_T ci k).2.2.1 host ∈ g_bads)
theorem g_getfield {idx a : Nat} (ci k : Nat) {fs : List Value} {v : Value} (h0 : g_fld M.1 idx ci k) (hcell : g_cell E w im a (.inr (ci, fs))) (hv : fs[k]? = some v) (hd : decode M.2.1 pc = .ok (.getfield idx, 3))
    (kk : G E d M (pc + 3) (lv) (v :: st) (w) (im) (kc) (ks) Q) : G E d M (pc) (lv) (.ref a :: st) (w) (im) (kc) (ks) Q := by
  intro p e R s m args below meth c H locs ls cells slots MC MS dd hdd hf hR hl hP hS hc hs
  obtain ⟨hci, hk, hlink⟩ := h0
  obtain ⟨-, r, h1, cell, q1, q2, q3, q4⟩ := hP.get hcell
  have hr : r = (g_C ci, g_T ci, g_n ci) := Option.some.inj (h1.symm.trans (g_clat hci))
  subst hr
  obtain ⟨hS9, hfc, kC, hkC, hkind⟩ := (hf.2.2.2.2.2.2.2.2.2.1).1 ci _ (g_clat hci)
  obtain ⟨cf, kf, fi, f, hi, hsl⟩ := hS9 k hk
  have hst := (u_facts hfc hkC (u_lays hf.2.2.2.2.1 (g_lays hci) hk) hi).1
  rw [g_own hci k hk] at hi
  have hval : cell.slots[f.slot]? = some v := by
    rw [hsl, q4 k hk]
    simp [vp_V, hv]
  rcases hlink with hl9 | ⟨host, hl9⟩
  · exact W.getf hf.1 hf.2.1 hf.2.2.2.1 (hf.2.2.2.2.1 _ hl9) hi hst q1 (by rw [q3]; exact fun h => by cases h) hval rfl rfl hd (kk p e R s m args below meth c H locs ls cells slots MC MS dd hdd hf hR hl hP hS hc hs)
  · exact va_Wgetf hf.1 hf.2.1 hf.2.2.2.1 (va_Nw.use rfl (hf.2.2.2.2.2.2.2.2.2.2.2.2.2.2.2.1 _ hl9)) hi hst q1 (by rw [q3]; exact fun h => by cases h) hval rfl rfl hd (kk p e R s m args below meth c H locs ls cells slots MC MS dd hdd hf hR hl hP hS hc hs)

theorem g_put0 {p : Program} {e : Env} {R : Room} {s : State} {m : MethodId} {args : Array Value} {below : List Frame} {meth : Method} {c : Code} {H : Heap} {locs : List Loc} {cells slots : Nat} {Z : State → Prop} (hf : g_fix E M p s m args meth c)
    {idx a : Nat} (ci k : Nat) {fs : List Value} {v : Value} (h0 : g_fld M.1 idx ci k) (hfin : (g_T ci k).2.2.2 = false ∨ (M.2.2.2.2.2 = true ∧ M.1 = g_C ci)) (hn : narrow (g_y ci k) v = v) (hfit : fits (g_y ci k) v = true) (hlen : k < fs.length) (hat : g_at E a (.inr (ci, fs)) H) (hd : decode M.2.1 pc = .ok (.putfield idx, 3)) {ls : Array Slot} {rest : List Value}
    (kk : ∀ (H1 : Heap) (j : Nat), g_at E a (.inr (ci, fs.set k v)) H1 → H1.size = H.size → (∀ q : Nat, q ≠ a → H1[q]? = H[q]?) → W p (gl E) e R s m args below meth c H1 (locs ++ [⟨a, j⟩]) cells slots Z (F0 m (pc + 3) ls rest)) : W p (gl E) e R s m args below meth c H locs cells slots Z (F0 m pc ls (v :: .ref a :: rest)) := by
  obtain ⟨hci, hk, hlink⟩ := h0
  obtain ⟨r, h1, cell, q1, q2, q3, q4⟩ := hat
  have hr : r = (g_C ci, g_T ci, g_n ci) := Option.some.inj (h1.symm.trans (g_clat hci))
  subst hr
  have hK := hf.2.2.2.2.2.2.2.2.2.1
  obtain ⟨hS9, hfc, kC, hkC, hkind⟩ := hK.1 ci _ (g_clat hci)
  have hap := va_apart (own := M.1) hf.2.2.2.2.1 (g_lays hci) (g_y ci) (g_tyok hci) (g_nmok hci) hK (g_clat hci)
  obtain ⟨cf, kf, fi, f, hi, hsl⟩ := hS9 k hk
  have hlay := hf.2.2.2.2.1 _ (g_lays hci _ (u_in_lay hk))
  have hst := (u_facts hfc hkC (u_lays hf.2.2.2.2.1 (g_lays hci) hk) hi).1
  have hi2 := hi
  rw [g_own hci k hk] at hi2
  have fin : ∀ H1 : Heap, H1[a]? = some (cell.setSlot f.slot v) → H1.size = H.size → (∀ q : Nat, q ≠ a → H1[q]? = H[q]?) → W p (gl E) e R s m args below meth c H1 (locs ++ [⟨a, f.slot⟩]) cells slots Z (F0 m (pc + 3) ls rest) := fun H1 e1 e2 e3 => by
    refine kk H1 f.slot ?_ e2 e3
    rw [hsl] at e1
    exact ⟨_, g_clat hci, t_OB.to (V := updV (vp_V fs) k v) ⟨_, e1, q2, q3, t_set q4 hap hk v⟩ (fun j _ => vp_updV_set hlen v j)⟩
  by_cases hz : (g_T ci k).2.2.2 = true
  · rcases hfin with hfin | ⟨hini, hcl⟩
    · rw [hz] at hfin; cases hfin
    unfold u_lay at hlay
    rw [if_pos hz] at hlay
    have hcf : m.cls = cf := by
      obtain ⟨_, _, c', _, _, _, -, -, hf', -, -, -, hown2, -⟩ := Cond.laysFinal_spec hlay
      have e1 : c' = cf := by have := hi.symm.trans hf'; simp at this; exact this.1.symm
      rw [g_own hci k hk, ← hcl] at hown2
      rw [← e1]; exact Option.some.inj (hf.2.2.2.1.symm.trans hown2)
    have h6 := u_fits hfc hkC hkind (Or.inr hlay) hi (g_tyok hci k hk) hn hfit
    rcases hlink with hl9 | ⟨host, hl9⟩
    · exact W.putFinK hf.1 hf.2.1 hf.2.2.2.1 (hf.2.2.2.2.1 _ hl9) hi2 hst hcf (hf.2.2.2.2.2.2.2.2.1 hini) (by rw [q2]; exact h6) q1 q3 (by rw [hsl]; exact k2_hasslot (q4 k hk)) rfl rfl hd fin
    · refine va_Wputf hf.1 hf.2.1 hf.2.2.2.1 (va_Nw.use rfl (hf.2.2.2.2.2.2.2.2.2.2.2.2.2.2.2.1 _ hl9)) hi2 hst (Or.inr ⟨hcf, hf.2.2.2.2.2.2.2.2.1 hini⟩) q1 (by rw [q3]; exact fun h => by cases h) (by rw [hsl]; exact k2_hasslot (q4 k hk)) h6.1 (by rw [q2, q3]; exact h6.2) rfl rfl hd ?_
      have ha : a < H.size := (Array.getElem?_eq_some_iff.mp q1).1
      exact fin _ (by simp [Array.getElem?_setIfInBounds, ha]) (by simp) (fun q hq => by simp [Array.getElem?_setIfInBounds, Ne.symm hq])
  · unfold u_lay at hlay
    rw [if_neg hz] at hlay
    have h6 := u_store hfc hkC hkind hlay hi (g_tyok hci k hk) hn hfit
    rcases hlink with hl9 | ⟨host, hl9⟩
    · exact W.putK hf.1 hf.2.1 (f := f) ⟨hf.2.2.2.1, hf.2.2.2.2.1 _ hl9, ⟨_, _, _, hi2⟩, hst⟩ (by rw [q2]; exact h6) q1 q3 (by rw [hsl]; exact k2_hasslot (q4 k hk)) rfl rfl hd fin
    · exact va_WputK hf.1 hf.2.1 (f := f) hf.2.2.2.1 (va_Nw.use rfl (hf.2.2.2.2.2.2.2.2.2.2.2.2.2.2.2.1 _ hl9)) hi2 hst (by rw [q2]; exact h6) q1 q3 (by rw [hsl]; exact k2_hasslot (q4 k hk)) rfl rfl hd fin

theorem g_putM {idx : Nat} (ci k : Nat) {fs : List Value} {v : Value} (h0 : g_fld M.1 idx ci k) (hfin : (g_T ci k).2.2.2 = false ∨ (M.2.2.2.2.2 = true ∧ M.1 = g_C ci)) (hn : narrow (g_y ci k) v = v) (hfit : fits (g_y ci k) v = true) (hlen : k < fs.length) (i : Nat) (hi : i < gN E) (hw : w i = .inr (ci, fs)) (hd : decode M.2.1 pc = .ok (.putfield idx, 3))
    (kk : G E d M (pc + 3) (lv) (st) (vf_upd w i (.inr (ci, fs.set k v))) (im) (kc) (ks) Q) : G E d M (pc) (lv) (v :: .ref (gad E i) :: st) (w) (im) (kc) (ks) Q := by
  intro p e R s m args below meth c H locs ls cells slots MC MS dd hdd hf hR hl hP hS hc hs
  have hat := hP.1 i hi
  rw [hw] at hat
  exact g_put0 hf ci k h0 hfin hn hfit hlen hat.2 hd fun H1 j e1 e2 e3 => (kk p e R s m args below meth c H1 _ ls cells slots MC MS dd hdd hf hR hl (hP.setW hi e1 e3) (hS.put e2 e3 hat.1) hc hs)
theorem g_putI {idx : Nat} (ci k : Nat) {fs : List Value} {v : Value} (h0 : g_fld M.1 idx ci k) (hfin : (g_T ci k).2.2.2 = false ∨ (M.2.2.2.2.2 = true ∧ M.1 = g_C ci)) (hn : narrow (g_y ci k) v = v) (hfit : fits (g_y ci k) v = true) (hlen : k < fs.length) {a : Nat} (hm : im a = some (.inr (ci, fs))) (hd : decode M.2.1 pc = .ok (.putfield idx, 3))
    (kk : G E d M (pc + 3) (lv) (st) (w) (vf_upd im a (some (.inr (ci, fs.set k v)))) (kc) (ks) Q) : G E d M (pc) (lv) (v :: .ref a :: st) (w) (im) (kc) (ks) Q := by
  intro p e R s m args below meth c H locs ls cells slots MC MS dd hdd hf hR hl hP hS hc hs
  have hat := hP.2.1 a _ hm
  exact g_put0 hf ci k h0 hfin hn hfit hlen hat.2 hd fun H1 j e1 e2 e3 => (kk p e R s m args below meth c H1 _ ls cells slots MC MS dd hdd hf hR hl (hP.setI hm e1 e3) (hS.put e2 e3 hat.1) hc hs)

theorem g_vpin {i : Int32} {j n : Nat} (hx : i = nI j) (hj : j < n) (hn : n.blt 2147483648 = true) : vp_in i n ∧ i.toNatClampNeg = j := by
  have hn' : n < 2147483648 := by simpa using hn
  subst hx
  exact ⟨vp_in_nI hj hn', nI_clamp (by omega)⟩
theorem g_arr {E : gE} {s : State} {H : Heap} (hK : g_K E s H) (k : Nat) (hk : k < 8) (n : Nat) (z : Nat → Value) : s.isArrayOf (arrV (gdA E k) n z) (g_ty k) := (hK.2.1 k hk).1 n z
theorem g_alen {a t n : Nat} {x : (Nat → Int32) ⊕ (Nat → Int64) ⊕ (Nat → UInt32) ⊕ (Nat → UInt64) ⊕ (Nat → Option Nat)} (ht : t < 8) (hcell : g_cell E w im a (.inl (t, n, x))) (hd : decode M.2.1 pc = .ok (.arraylength, 1))
    (kk : G E d M (pc + 1) (lv) (.int (nI n) :: st) (w) (im) (kc) (ks) Q) : G E d M (pc) (lv) (.ref a :: st) (w) (im) (kc) (ks) Q := by
  intro p e R s m args below meth c H locs ls cells slots MC MS dd hdd hf hR hl hP hS hc hs
  have hat : H[a]? = some (vp_cell (gdA E t) (n, x)) := (hP.get hcell).2
  have kk2 := (kk p e R s m args below meth c H locs ls cells slots MC MS dd hdd hf hR hl hP hS hc hs)
  rcases x with f | f | f | f | f
  · exact W.alen (n := nI n) hf.1 hf.2.1 hat (g_arr hf.2.2.2.2.2.2.2.2.2 t ht n (fun j => .int (f j))) (by rw [vp_cell_i, arrV_size] <;> rfl) rfl rfl hd kk2
  · exact W.alen (n := nI n) hf.1 hf.2.1 hat (g_arr hf.2.2.2.2.2.2.2.2.2 t ht n (fun j => .long (f j))) (by rw [vp_cell_l, arrV_size] <;> rfl) rfl rfl hd kk2
  · exact W.alen (n := nI n) hf.1 hf.2.1 hat (g_arr hf.2.2.2.2.2.2.2.2.2 t ht n (fun j => .float (f j))) (by rw [vp_cell_f, arrV_size] <;> rfl) rfl rfl hd kk2
  · exact W.alen (n := nI n) hf.1 hf.2.1 hat (g_arr hf.2.2.2.2.2.2.2.2.2 t ht n (fun j => .double (f j))) (by rw [vp_cell_d, arrV_size] <;> rfl) rfl rfl hd kk2
  · exact W.alen (n := nI n) hf.1 hf.2.1 hat (g_arr hf.2.2.2.2.2.2.2.2.2 t ht n (fun j => va_rf (f j))) (by rw [vp_cell_q, arrV_size] <;> rfl) rfl rfl hd kk2
theorem g_slen {b : Nat} (hb : b = (gX E).1) (hd : decode M.2.1 pc = .ok (.arraylength, 1))
    (kk : G E d M (pc + 1) (lv) (.int (nI (gX E).2.1) :: st) (w) (im) (kc) (ks) Q) : G E d M (pc) (lv) (.ref b :: st) (w) (im) (kc) (ks) Q := by
  intro p e R s m args below meth c H locs ls cells slots MC MS dd hdd hf hR hl hP hS hc hs
  have hlt := hf.2.2.2.2.2.2.2.2.2.2.2.2.2.2.2.2.2.2.1
  have hle := hf.2.2.2.2.2.2.2.2.2.2.2.2.2.2.2.2.2.2.2.1
  subst hb
  exact va_slen hf.1 hf.2.1 hf.2.2.2.2.2.2.2.2.2.2.2.2.2.2.2.2.2.1 (by omega) (Nat.not_le.mpr hlt) hS hd (kk p e R s m args below meth c H locs ls cells slots MC MS dd hdd hf hR hl hP hS hc hs)
theorem g_sld {b : Nat} {i : Int32} {j : Nat} (hb : b = (gX E).1) (hx : i = nI j) (hj : j < (gX E).2.1) (hL : (gX E).2.1 < 2147483648) (hd : decode M.2.1 pc = .ok (.iaload, 1))
    (kk : G E d M (pc + 1) (lv) (.int ((gX E).2.2 j) :: st) (w) (im) (kc) (ks) Q) : G E d M (pc) (lv) (.int i :: .ref b :: st) (w) (im) (kc) (ks) Q := by
  intro p e R s m args below meth c H locs ls cells slots MC MS dd hdd hf hR hl hP hS hc hs
  have hlt := hf.2.2.2.2.2.2.2.2.2.2.2.2.2.2.2.2.2.2.1
  have hle := hf.2.2.2.2.2.2.2.2.2.2.2.2.2.2.2.2.2.2.2.1
  subst hb
  have hv : vp_in i (gX E).2.1 := by rw [hx]; exact vp_in_nI hj hL
  have hk2 := (kk p e R s m args below meth c H locs ls cells slots MC MS dd hdd hf hR hl hP hS hc hs)
  refine va_sld hf.1 hf.2.1 hf.2.2.2.2.2.2.2.2.2.2.2.2.2.2.2.2.2.1 (by omega) (Nat.not_le.mpr hlt) hS hv hd ?_
  rw [show i.toNatClampNeg = j by rw [hx]; exact nI_clamp (by omega)]
  exact hk2

theorem g_iaload {a n j : Nat} {i : Int32} {f : Nat → Int32} (hcell : g_cell E w im a (.inl (0, n, .inl f))) (hx : i = nI j) (hj : j < n) (hn : n.blt 2147483648 = true) (hd : decode M.2.1 pc = .ok (.iaload, 1))
    (kk : G E d M (pc + 1) (lv) (.int (f j) :: st) (w) (im) (kc) (ks) Q) : G E d M (pc) (lv) (.int i :: .ref a :: st) (w) (im) (kc) (ks) Q := by
  intro p e R s m args below meth c H locs ls cells slots MC MS dd hdd hf hR hl hP hS hc hs
  obtain ⟨hin, hcl⟩ := g_vpin hx hj hn
  have hat : H[a]? = some (arrV (gdA E 0) n (fun j => .int (f j))) := (hP.get hcell).2
  exact W.iald (v := .int (f j)) hf.1 hf.2.1 hat (g_arr hf.2.2.2.2.2.2.2.2.2 0 (by decide) n _) (fun q => by cases q) (by rw [arrV_size]; exact hin) (by rw [hcl, arrV_read _ _ hj]) rfl rfl hd (kk p e R s m args below meth c H locs ls cells slots MC MS dd hdd hf hR hl hP hS hc hs)

theorem g_caload {a n j : Nat} {i : Int32} {f : Nat → Int32} (hcell : g_cell E w im a (.inl (1, n, .inl f))) (hx : i = nI j) (hj : j < n) (hn : n.blt 2147483648 = true) (hd : decode M.2.1 pc = .ok (.caload, 1))
    (kk : G E d M (pc + 1) (lv) (.int (f j) :: st) (w) (im) (kc) (ks) Q) : G E d M (pc) (lv) (.int i :: .ref a :: st) (w) (im) (kc) (ks) Q := by
  intro p e R s m args below meth c H locs ls cells slots MC MS dd hdd hf hR hl hP hS hc hs
  obtain ⟨hin, hcl⟩ := g_vpin hx hj hn
  have hat : H[a]? = some (arrV (gdA E 1) n (fun j => .int (f j))) := (hP.get hcell).2
  exact W.cald (v := .int (f j)) hf.1 hf.2.1 hat (g_arr hf.2.2.2.2.2.2.2.2.2 1 (by decide) n _) (fun q => by cases q) (by rw [arrV_size]; exact hin) (by rw [hcl, arrV_read _ _ hj]) rfl rfl hd (kk p e R s m args below meth c H locs ls cells slots MC MS dd hdd hf hR hl hP hS hc hs)

theorem g_laload {a n j : Nat} {i : Int32} {f : Nat → Int64} (hcell : g_cell E w im a (.inl (2, n, .inr (.inl f)))) (hx : i = nI j) (hj : j < n) (hn : n.blt 2147483648 = true) (hd : decode M.2.1 pc = .ok (.laload, 1))
    (kk : G E d M (pc + 1) (lv) (.long (f j) :: st) (w) (im) (kc) (ks) Q) : G E d M (pc) (lv) (.int i :: .ref a :: st) (w) (im) (kc) (ks) Q := by
  intro p e R s m args below meth c H locs ls cells slots MC MS dd hdd hf hR hl hP hS hc hs
  obtain ⟨hin, hcl⟩ := g_vpin hx hj hn
  have hat : H[a]? = some (arrV (gdA E 2) n (fun j => .long (f j))) := (hP.get hcell).2
  exact W.lald (v := .long (f j)) hf.1 hf.2.1 hat (g_arr hf.2.2.2.2.2.2.2.2.2 2 (by decide) n _) (fun q => by cases q) (by rw [arrV_size]; exact hin) (by rw [hcl, arrV_read _ _ hj]) rfl rfl hd (kk p e R s m args below meth c H locs ls cells slots MC MS dd hdd hf hR hl hP hS hc hs)

theorem g_daload {a n j : Nat} {i : Int32} {f : Nat → UInt64} (hcell : g_cell E w im a (.inl (3, n, .inr (.inr (.inr (.inl f)))))) (hx : i = nI j) (hj : j < n) (hn : n.blt 2147483648 = true) (hd : decode M.2.1 pc = .ok (.daload, 1))
    (kk : G E d M (pc + 1) (lv) (.double (f j) :: st) (w) (im) (kc) (ks) Q) : G E d M (pc) (lv) (.int i :: .ref a :: st) (w) (im) (kc) (ks) Q := by
  intro p e R s m args below meth c H locs ls cells slots MC MS dd hdd hf hR hl hP hS hc hs
  obtain ⟨hin, hcl⟩ := g_vpin hx hj hn
  have hat : H[a]? = some (arrV (gdA E 3) n (fun j => .double (f j))) := (hP.get hcell).2
  exact W.dald (v := .double (f j)) hf.1 hf.2.1 hat (g_arr hf.2.2.2.2.2.2.2.2.2 3 (by decide) n _) (fun q => by cases q) (by rw [arrV_size]; exact hin) (by rw [hcl, arrV_read _ _ hj]) rfl rfl hd (kk p e R s m args below meth c H locs ls cells slots MC MS dd hdd hf hR hl hP hS hc hs)

theorem g_aaload {a n j t : Nat} {b : Nat} {i : Int32} {f : Nat → Option Nat} {C : String} (ht : t < 8) (hC : g_ty t = .object C) (hcell : g_cell E w im a (.inl (t, n, .inr (.inr (.inr (.inr f)))))) (hx : i = nI j) (hj : j < n) (hn : n.blt 2147483648 = true) (hv : f j = some b) (hd : decode M.2.1 pc = .ok (.aaload, 1))
    (kk : G E d M (pc + 1) (lv) (.ref b :: st) (w) (im) (kc) (ks) Q) : G E d M (pc) (lv) (.int i :: .ref a :: st) (w) (im) (kc) (ks) Q := by
  intro p e R s m args below meth c H locs ls cells slots MC MS dd hdd hf hR hl hP hS hc hs
  obtain ⟨hin, hcl⟩ := g_vpin hx hj hn
  have hat : H[a]? = some (arrV (gdA E t) n (fun j => va_rf (f j))) := (hP.get hcell).2
  exact W.aald (v := .ref b) (ty := .object C) hf.1 hf.2.1 hat (hC ▸ g_arr hf.2.2.2.2.2.2.2.2.2 t ht n _) rfl (fun q => by cases q) (by rw [arrV_size]; exact hin) (by rw [hcl, arrV_read _ _ hj, hv]; rfl) rfl rfl hd (kk p e R s m args below meth c H locs ls cells slots MC MS dd hdd hf hR hl hP hS hc hs)

theorem g_aaloadN {a n j t : Nat} {i : Int32} {f : Nat → Option Nat} {C : String} (ht : t < 8) (hC : g_ty t = .object C) (hcell : g_cell E w im a (.inl (t, n, .inr (.inr (.inr (.inr f)))))) (hx : i = nI j) (hj : j < n) (hn : n.blt 2147483648 = true) (hv : f j = none) (hd : decode M.2.1 pc = .ok (.aaload, 1))
    (kk : G E d M (pc + 1) (lv) (.null :: st) (w) (im) (kc) (ks) Q) : G E d M (pc) (lv) (.int i :: .ref a :: st) (w) (im) (kc) (ks) Q := by
  intro p e R s m args below meth c H locs ls cells slots MC MS dd hdd hf hR hl hP hS hc hs
  obtain ⟨hin, hcl⟩ := g_vpin hx hj hn
  have hat : H[a]? = some (arrV (gdA E t) n (fun j => va_rf (f j))) := (hP.get hcell).2
  exact W.aald (v := .null) (ty := .object C) hf.1 hf.2.1 hat (hC ▸ g_arr hf.2.2.2.2.2.2.2.2.2 t ht n _) rfl (fun q => by cases q) (by rw [arrV_size]; exact hin) (by rw [hcl, arrV_read _ _ hj, hv]; rfl) rfl rfl hd (kk p e R s m args below meth c H locs ls cells slots MC MS dd hdd hf hR hl hP hS hc hs)

theorem g_iastoreM {n j : Nat} {i : Int32} {x : Int32} {f : Nat → Int32} (i0 : Nat) (hi : i0 < gN E) (hw : w i0 = .inl (0, n, .inl (f))) (hx : i = nI j) (hj : j < n) (hn : n.blt 2147483648 = true) (hd : decode M.2.1 pc = .ok (.iastore, 1))
    (kk : G E d M (pc + 1) (lv) (st) (vf_upd w i0 (.inl (0, n, .inl (upd f j x)))) (im) (kc) (ks) Q) : G E d M (pc) (lv) (.int x :: .int i :: .ref (gad E i0) :: st) (w) (im) (kc) (ks) Q := by
  intro p e R s m args below meth c H locs ls cells slots MC MS dd hdd hf hR hl hP hS hc hs
  obtain ⟨hin, hcl⟩ := g_vpin hx hj hn
  have hat0 := hP.1 i0 hi
  rw [hw] at hat0
  have hat : H[gad E i0]? = some (vp_cell (gdA E 0) (n, .inl (f))) := hat0.2
  refine W.iast hf.1 hf.2.1 hat (g_arr hf.2.2.2.2.2.2.2.2.2 0 (by decide) n _) (fun q => by cases q) (by show ¬ (i < 0 ∨ (arrV _ _ _).slots.size ≤ _); rw [arrV_size]; exact hin) rfl rfl hd fun H1 e9 z oq => ?_
  refine (kk p e R s m args below meth c H1 _ ls cells slots MC MS dd hdd hf hR hl (hP.setW hi (show g_at E (gad E i0) (.inl (0, n, .inl (upd f j x))) H1 from ?_) oq) (hS.put z oq hat0.1) hc hs)
  show H1[gad E i0]? = some (vp_cell _ _)
  rw [e9, vp_cell_i, vp_cell_i, arrV_store]
  congr 2
  funext q
  by_cases hq : q = i.toNatClampNeg
  · subst hq
    simp [updV, upd, hcl]
    try rfl
  · simp [updV, upd, hq]
    intro h8
    exact absurd (h8.trans hcl.symm) hq

theorem g_iastoreI {n j : Nat} {i : Int32} {x : Int32} {f : Nat → Int32} {a : Nat} (hm : im a = some (.inl (0, n, .inl (f)))) (hx : i = nI j) (hj : j < n) (hn : n.blt 2147483648 = true) (hd : decode M.2.1 pc = .ok (.iastore, 1))
    (kk : G E d M (pc + 1) (lv) (st) (w) (vf_upd im a (some (.inl (0, n, .inl (upd f j x))))) (kc) (ks) Q) : G E d M (pc) (lv) (.int x :: .int i :: .ref (a) :: st) (w) (im) (kc) (ks) Q := by
  intro p e R s m args below meth c H locs ls cells slots MC MS dd hdd hf hR hl hP hS hc hs
  obtain ⟨hin, hcl⟩ := g_vpin hx hj hn
  have hat0 := hP.2.1 a _ hm
  have hat : H[a]? = some (vp_cell (gdA E 0) (n, .inl (f))) := hat0.2
  refine W.iast hf.1 hf.2.1 hat (g_arr hf.2.2.2.2.2.2.2.2.2 0 (by decide) n _) (fun q => by cases q) (by show ¬ (i < 0 ∨ (arrV _ _ _).slots.size ≤ _); rw [arrV_size]; exact hin) rfl rfl hd fun H1 e9 z oq => ?_
  refine (kk p e R s m args below meth c H1 _ ls cells slots MC MS dd hdd hf hR hl (hP.setI hm (show g_at E a (.inl (0, n, .inl (upd f j x))) H1 from ?_) oq) (hS.put z oq hat0.1) hc hs)
  show H1[a]? = some (vp_cell _ _)
  rw [e9, vp_cell_i, vp_cell_i, arrV_store]
  congr 2
  funext q
  by_cases hq : q = i.toNatClampNeg
  · subst hq
    simp [updV, upd, hcl]
    try rfl
  · simp [updV, upd, hq]
    intro h8
    exact absurd (h8.trans hcl.symm) hq

theorem g_castoreM {n j : Nat} {i : Int32} {x : Int32} {f : Nat → Int32} (i0 : Nat) (hi : i0 < gN E) (hw : w i0 = .inl (1, n, .inl (f))) (hx : i = nI j) (hj : j < n) (hn : n.blt 2147483648 = true) (hd : decode M.2.1 pc = .ok (.castore, 1))
    (kk : G E d M (pc + 1) (lv) (st) (vf_upd w i0 (.inl (1, n, .inl (upd f j (vp_nar .char x))))) (im) (kc) (ks) Q) : G E d M (pc) (lv) (.int x :: .int i :: .ref (gad E i0) :: st) (w) (im) (kc) (ks) Q := by
  intro p e R s m args below meth c H locs ls cells slots MC MS dd hdd hf hR hl hP hS hc hs
  obtain ⟨hin, hcl⟩ := g_vpin hx hj hn
  have hat0 := hP.1 i0 hi
  rw [hw] at hat0
  have hat : H[gad E i0]? = some (vp_cell (gdA E 1) (n, .inl (f))) := hat0.2
  refine W.cast hf.1 hf.2.1 hat (g_arr hf.2.2.2.2.2.2.2.2.2 1 (by decide) n _) (fun q => by cases q) (by show ¬ (i < 0 ∨ (arrV _ _ _).slots.size ≤ _); rw [arrV_size]; exact hin) rfl rfl hd fun H1 e9 z oq => ?_
  refine (kk p e R s m args below meth c H1 _ ls cells slots MC MS dd hdd hf hR hl (hP.setW hi (show g_at E (gad E i0) (.inl (1, n, .inl (upd f j (vp_nar .char x)))) H1 from ?_) oq) (hS.put z oq hat0.1) hc hs)
  show H1[gad E i0]? = some (vp_cell _ _)
  rw [e9, vp_cell_i, vp_cell_i, arrV_store]
  congr 2
  funext q
  by_cases hq : q = i.toNatClampNeg
  · subst hq
    simp [updV, upd, vp_nar, hcl]
    try rfl
  · simp [updV, upd, vp_nar, hq]
    intro h8
    exact absurd (h8.trans hcl.symm) hq

theorem g_castoreI {n j : Nat} {i : Int32} {x : Int32} {f : Nat → Int32} {a : Nat} (hm : im a = some (.inl (1, n, .inl (f)))) (hx : i = nI j) (hj : j < n) (hn : n.blt 2147483648 = true) (hd : decode M.2.1 pc = .ok (.castore, 1))
    (kk : G E d M (pc + 1) (lv) (st) (w) (vf_upd im a (some (.inl (1, n, .inl (upd f j (vp_nar .char x)))))) (kc) (ks) Q) : G E d M (pc) (lv) (.int x :: .int i :: .ref (a) :: st) (w) (im) (kc) (ks) Q := by
  intro p e R s m args below meth c H locs ls cells slots MC MS dd hdd hf hR hl hP hS hc hs
  obtain ⟨hin, hcl⟩ := g_vpin hx hj hn
  have hat0 := hP.2.1 a _ hm
  have hat : H[a]? = some (vp_cell (gdA E 1) (n, .inl (f))) := hat0.2
  refine W.cast hf.1 hf.2.1 hat (g_arr hf.2.2.2.2.2.2.2.2.2 1 (by decide) n _) (fun q => by cases q) (by show ¬ (i < 0 ∨ (arrV _ _ _).slots.size ≤ _); rw [arrV_size]; exact hin) rfl rfl hd fun H1 e9 z oq => ?_
  refine (kk p e R s m args below meth c H1 _ ls cells slots MC MS dd hdd hf hR hl (hP.setI hm (show g_at E a (.inl (1, n, .inl (upd f j (vp_nar .char x)))) H1 from ?_) oq) (hS.put z oq hat0.1) hc hs)
  show H1[a]? = some (vp_cell _ _)
  rw [e9, vp_cell_i, vp_cell_i, arrV_store]
  congr 2
  funext q
  by_cases hq : q = i.toNatClampNeg
  · subst hq
    simp [updV, upd, vp_nar, hcl]
    try rfl
  · simp [updV, upd, vp_nar, hq]
    intro h8
    exact absurd (h8.trans hcl.symm) hq

theorem g_lastoreM {n j : Nat} {i : Int32} {x : Int64} {f : Nat → Int64} (i0 : Nat) (hi : i0 < gN E) (hw : w i0 = .inl (2, n, .inr (.inl (f)))) (hx : i = nI j) (hj : j < n) (hn : n.blt 2147483648 = true) (hd : decode M.2.1 pc = .ok (.lastore, 1))
    (kk : G E d M (pc + 1) (lv) (st) (vf_upd w i0 (.inl (2, n, .inr (.inl (vp_updL f j x))))) (im) (kc) (ks) Q) : G E d M (pc) (lv) (.long x :: .int i :: .ref (gad E i0) :: st) (w) (im) (kc) (ks) Q := by
  intro p e R s m args below meth c H locs ls cells slots MC MS dd hdd hf hR hl hP hS hc hs
  obtain ⟨hin, hcl⟩ := g_vpin hx hj hn
  have hat0 := hP.1 i0 hi
  rw [hw] at hat0
  have hat : H[gad E i0]? = some (vp_cell (gdA E 2) (n, .inr (.inl (f)))) := hat0.2
  refine W.last hf.1 hf.2.1 hat (g_arr hf.2.2.2.2.2.2.2.2.2 2 (by decide) n _) (fun q => by cases q) (by show ¬ (i < 0 ∨ (arrV _ _ _).slots.size ≤ _); rw [arrV_size]; exact hin) rfl rfl hd fun H1 e9 z oq => ?_
  refine (kk p e R s m args below meth c H1 _ ls cells slots MC MS dd hdd hf hR hl (hP.setW hi (show g_at E (gad E i0) (.inl (2, n, .inr (.inl (vp_updL f j x)))) H1 from ?_) oq) (hS.put z oq hat0.1) hc hs)
  show H1[gad E i0]? = some (vp_cell _ _)
  rw [e9, vp_cell_l, vp_cell_l, arrV_store]
  congr 2
  funext q
  by_cases hq : q = i.toNatClampNeg
  · subst hq
    simp [updV, vp_updL, hcl]
    try rfl
  · simp [updV, vp_updL, hq]
    intro h8
    exact absurd (h8.trans hcl.symm) hq

theorem g_lastoreI {n j : Nat} {i : Int32} {x : Int64} {f : Nat → Int64} {a : Nat} (hm : im a = some (.inl (2, n, .inr (.inl (f))))) (hx : i = nI j) (hj : j < n) (hn : n.blt 2147483648 = true) (hd : decode M.2.1 pc = .ok (.lastore, 1))
    (kk : G E d M (pc + 1) (lv) (st) (w) (vf_upd im a (some (.inl (2, n, .inr (.inl (vp_updL f j x)))))) (kc) (ks) Q) : G E d M (pc) (lv) (.long x :: .int i :: .ref (a) :: st) (w) (im) (kc) (ks) Q := by
  intro p e R s m args below meth c H locs ls cells slots MC MS dd hdd hf hR hl hP hS hc hs
  obtain ⟨hin, hcl⟩ := g_vpin hx hj hn
  have hat0 := hP.2.1 a _ hm
  have hat : H[a]? = some (vp_cell (gdA E 2) (n, .inr (.inl (f)))) := hat0.2
  refine W.last hf.1 hf.2.1 hat (g_arr hf.2.2.2.2.2.2.2.2.2 2 (by decide) n _) (fun q => by cases q) (by show ¬ (i < 0 ∨ (arrV _ _ _).slots.size ≤ _); rw [arrV_size]; exact hin) rfl rfl hd fun H1 e9 z oq => ?_
  refine (kk p e R s m args below meth c H1 _ ls cells slots MC MS dd hdd hf hR hl (hP.setI hm (show g_at E a (.inl (2, n, .inr (.inl (vp_updL f j x)))) H1 from ?_) oq) (hS.put z oq hat0.1) hc hs)
  show H1[a]? = some (vp_cell _ _)
  rw [e9, vp_cell_l, vp_cell_l, arrV_store]
  congr 2
  funext q
  by_cases hq : q = i.toNatClampNeg
  · subst hq
    simp [updV, vp_updL, hcl]
    try rfl
  · simp [updV, vp_updL, hq]
    intro h8
    exact absurd (h8.trans hcl.symm) hq

theorem g_dastoreM {n j : Nat} {i : Int32} {x : UInt64} {f : Nat → UInt64} (i0 : Nat) (hi : i0 < gN E) (hw : w i0 = .inl (3, n, .inr (.inr (.inr (.inl (f)))))) (hx : i = nI j) (hj : j < n) (hn : n.blt 2147483648 = true) (hd : decode M.2.1 pc = .ok (.dastore, 1))
    (kk : G E d M (pc + 1) (lv) (st) (vf_upd w i0 (.inl (3, n, .inr (.inr (.inr (.inl (vf_upd f j x))))))) (im) (kc) (ks) Q) : G E d M (pc) (lv) (.double x :: .int i :: .ref (gad E i0) :: st) (w) (im) (kc) (ks) Q := by
  intro p e R s m args below meth c H locs ls cells slots MC MS dd hdd hf hR hl hP hS hc hs
  obtain ⟨hin, hcl⟩ := g_vpin hx hj hn
  have hat0 := hP.1 i0 hi
  rw [hw] at hat0
  have hat : H[gad E i0]? = some (vp_cell (gdA E 3) (n, .inr (.inr (.inr (.inl (f)))))) := hat0.2
  refine W.dast hf.1 hf.2.1 hat (g_arr hf.2.2.2.2.2.2.2.2.2 3 (by decide) n _) (fun q => by cases q) (by show ¬ (i < 0 ∨ (arrV _ _ _).slots.size ≤ _); rw [arrV_size]; exact hin) rfl rfl hd fun H1 e9 z oq => ?_
  refine (kk p e R s m args below meth c H1 _ ls cells slots MC MS dd hdd hf hR hl (hP.setW hi (show g_at E (gad E i0) (.inl (3, n, .inr (.inr (.inr (.inl (vf_upd f j x)))))) H1 from ?_) oq) (hS.put z oq hat0.1) hc hs)
  show H1[gad E i0]? = some (vp_cell _ _)
  rw [e9, vp_cell_d, vp_cell_d, arrV_store]
  congr 2
  funext q
  by_cases hq : q = i.toNatClampNeg
  · subst hq
    simp [updV, vf_upd, hcl]
    try rfl
  · simp [updV, vf_upd, hq]
    intro h8
    exact absurd (h8.trans hcl.symm) hq

theorem g_dastoreI {n j : Nat} {i : Int32} {x : UInt64} {f : Nat → UInt64} {a : Nat} (hm : im a = some (.inl (3, n, .inr (.inr (.inr (.inl (f))))))) (hx : i = nI j) (hj : j < n) (hn : n.blt 2147483648 = true) (hd : decode M.2.1 pc = .ok (.dastore, 1))
    (kk : G E d M (pc + 1) (lv) (st) (w) (vf_upd im a (some (.inl (3, n, .inr (.inr (.inr (.inl (vf_upd f j x)))))))) (kc) (ks) Q) : G E d M (pc) (lv) (.double x :: .int i :: .ref (a) :: st) (w) (im) (kc) (ks) Q := by
  intro p e R s m args below meth c H locs ls cells slots MC MS dd hdd hf hR hl hP hS hc hs
  obtain ⟨hin, hcl⟩ := g_vpin hx hj hn
  have hat0 := hP.2.1 a _ hm
  have hat : H[a]? = some (vp_cell (gdA E 3) (n, .inr (.inr (.inr (.inl (f)))))) := hat0.2
  refine W.dast hf.1 hf.2.1 hat (g_arr hf.2.2.2.2.2.2.2.2.2 3 (by decide) n _) (fun q => by cases q) (by show ¬ (i < 0 ∨ (arrV _ _ _).slots.size ≤ _); rw [arrV_size]; exact hin) rfl rfl hd fun H1 e9 z oq => ?_
  refine (kk p e R s m args below meth c H1 _ ls cells slots MC MS dd hdd hf hR hl (hP.setI hm (show g_at E a (.inl (3, n, .inr (.inr (.inr (.inl (vf_upd f j x)))))) H1 from ?_) oq) (hS.put z oq hat0.1) hc hs)
  show H1[a]? = some (vp_cell _ _)
  rw [e9, vp_cell_d, vp_cell_d, arrV_store]
  congr 2
  funext q
  by_cases hq : q = i.toNatClampNeg
  · subst hq
    simp [updV, vf_upd, hcl]
    try rfl
  · simp [updV, vf_upd, hq]
    intro h8
    exact absurd (h8.trans hcl.symm) hq

theorem g_aastoreM {t n j b ci : Nat} {i : Int32} {f : Nat → Option Nat} {fs : List Value} (i0 : Nat) (hi : i0 < gN E) (hw : w i0 = .inl (t, n, .inr (.inr (.inr (.inr f))))) (ht : t < 8) (hci : ci < 10) (hC : g_ty t = .object (g_C ci)) (hb : g_cell E w im b (.inr (ci, fs))) (hx : i = nI j) (hj : j < n) (hn : n.blt 2147483648 = true) (hd : decode M.2.1 pc = .ok (.aastore, 1))
    (kk : G E d M (pc + 1) (lv) (st) (vf_upd w i0 (.inl (t, n, .inr (.inr (.inr (.inr (va_up f j (some b)))))))) (im) (kc) (ks) Q) : G E d M (pc) (lv) (.ref b :: .int i :: .ref (gad E i0) :: st) (w) (im) (kc) (ks) Q := by
  intro p e R s m args below meth c H locs ls cells slots MC MS dd hdd hf hR hl hP hS hc hs
  obtain ⟨hin, hcl⟩ := g_vpin hx hj hn
  have hat0 := hP.1 i0 hi
  rw [hw] at hat0
  have hat : H[gad E i0]? = some (vp_cell (gdA E t) (n, .inr (.inr (.inr (.inr f))))) := hat0.2
  obtain ⟨-, r', hr', cellV, g1, g2, g3, -⟩ := hP.get hb
  have hK := hf.2.2.2.2.2.2.2.2.2
  have hcls := ((hf.2.2.2.2.2.2.2.2.2.1).1 ci _ (g_clat hci)).2
  obtain ⟨kA, comp, k1, k2, k3, -⟩ : ∃ (kA : Class) (comp : ClassId), s.vm.classes[gdA E t]? = some kA ∧ kA.kind = .array comp (.object (g_C ci)) ∧ s.vm.findClass (g_C ci) = some comp ∧ s.vm.findClass ("[" ++ (FieldType.object (g_C ci)).toString) = some (gdA E t) := by
    have h9 := (hK.2.1 t ht).2
    rw [hC] at h9
    exact h9
  have hcomp : comp = (gD E).1 ci := Option.some.inj (k3.symm.trans hcls.1)
  subst hcomp
  obtain ⟨kC, hkC, -⟩ := hcls.2
  have hlt : i.toNatClampNeg < n := by rw [hcl]; exact hj
  have h0 : ¬ i < 0 := fun q => hin (Or.inl q)
  refine W.aast hf.1 hf.2.1 hat (fun q h => by cases h) (fun h => by cases h) k1 k2 rfl hkC ⟨h0, by show _ < (arrV _ _ _).slots.size; rw [arrV_size]; exact hlt⟩ g1 (fun q h => by rw [g3] at h; cases h) (by rw [g2]; exact hkC) (by rw [g2]; exact va_assign hcls) rfl rfl hd fun H1 e9 z oq => ?_
  refine (kk p e R s m args below meth c H1 _ ls cells slots MC MS dd hdd hf hR hl (hP.setW hi (show g_at E (gad E i0) (.inl (t, n, .inr (.inr (.inr (.inr (va_up f j (some b))))))) H1 from ?_) oq) (hS.put z oq hat0.1) hc hs)
  show H1[gad E i0]? = some (vp_cell _ _)
  rw [e9, vp_cell_q, vp_cell_q, arrV_store]
  congr 2
  funext q
  by_cases hq : q = i.toNatClampNeg
  · subst hq
    simp [updV, va_up, va_rf, hcl]
  · simp [updV, va_up, hq]
    rw [if_neg (by rw [← hcl]; exact hq)]

theorem g_aastoreNM {t n j : Nat} {i : Int32} {f : Nat → Option Nat} {C : String} (i0 : Nat) (hi : i0 < gN E) (hw : w i0 = .inl (t, n, .inr (.inr (.inr (.inr f))))) (ht : t < 8) (hC : g_ty t = .object C) (hx : i = nI j) (hj : j < n) (hn : n.blt 2147483648 = true) (hd : decode M.2.1 pc = .ok (.aastore, 1))
    (kk : G E d M (pc + 1) (lv) (st) (vf_upd w i0 (.inl (t, n, .inr (.inr (.inr (.inr (va_up f j none))))))) (im) (kc) (ks) Q) : G E d M (pc) (lv) (.null :: .int i :: .ref (gad E i0) :: st) (w) (im) (kc) (ks) Q := by
  intro p e R s m args below meth c H locs ls cells slots MC MS dd hdd hf hR hl hP hS hc hs
  obtain ⟨hin, hcl⟩ := g_vpin hx hj hn
  have hat0 := hP.1 i0 hi
  rw [hw] at hat0
  have hat : H[gad E i0]? = some (vp_cell (gdA E t) (n, .inr (.inr (.inr (.inr f))))) := hat0.2
  refine va_WaastN (C := C) hf.1 hf.2.1 hat (hC ▸ g_arr hf.2.2.2.2.2.2.2.2.2 t ht n _) (fun q => by cases q) (by show ¬ (i < 0 ∨ (arrV _ _ _).slots.size ≤ _); rw [arrV_size]; exact hin) rfl rfl hd fun H1 e9 z oq => ?_
  refine (kk p e R s m args below meth c H1 _ ls cells slots MC MS dd hdd hf hR hl (hP.setW hi (show g_at E (gad E i0) (.inl (t, n, .inr (.inr (.inr (.inr (va_up f j none)))))) H1 from ?_) oq) (hS.put z oq hat0.1) hc hs)
  show H1[gad E i0]? = some (vp_cell _ _)
  rw [e9, vp_cell_q, vp_cell_q, arrV_store]
  congr 2
  funext q
  by_cases hq : q = i.toNatClampNeg
  · subst hq
    simp [updV, va_up, va_rf, hcl]
  · simp [updV, va_up, hq]
    rw [if_neg (by rw [← hcl]; exact hq)]

theorem g_aastoreI {t n j b ci : Nat} {i : Int32} {f : Nat → Option Nat} {fs : List Value} {a : Nat} (hm : im a = some (.inl (t, n, .inr (.inr (.inr (.inr f)))))) (ht : t < 8) (hci : ci < 10) (hC : g_ty t = .object (g_C ci)) (hb : g_cell E w im b (.inr (ci, fs))) (hx : i = nI j) (hj : j < n) (hn : n.blt 2147483648 = true) (hd : decode M.2.1 pc = .ok (.aastore, 1))
    (kk : G E d M (pc + 1) (lv) (st) (w) (vf_upd im a (some (.inl (t, n, .inr (.inr (.inr (.inr (va_up f j (some b))))))))) (kc) (ks) Q) : G E d M (pc) (lv) (.ref b :: .int i :: .ref (a) :: st) (w) (im) (kc) (ks) Q := by
  intro p e R s m args below meth c H locs ls cells slots MC MS dd hdd hf hR hl hP hS hc hs
  obtain ⟨hin, hcl⟩ := g_vpin hx hj hn
  have hat0 := hP.2.1 a _ hm
  have hat : H[a]? = some (vp_cell (gdA E t) (n, .inr (.inr (.inr (.inr f))))) := hat0.2
  obtain ⟨-, r', hr', cellV, g1, g2, g3, -⟩ := hP.get hb
  have hK := hf.2.2.2.2.2.2.2.2.2
  have hcls := ((hf.2.2.2.2.2.2.2.2.2.1).1 ci _ (g_clat hci)).2
  obtain ⟨kA, comp, k1, k2, k3, -⟩ : ∃ (kA : Class) (comp : ClassId), s.vm.classes[gdA E t]? = some kA ∧ kA.kind = .array comp (.object (g_C ci)) ∧ s.vm.findClass (g_C ci) = some comp ∧ s.vm.findClass ("[" ++ (FieldType.object (g_C ci)).toString) = some (gdA E t) := by
    have h9 := (hK.2.1 t ht).2
    rw [hC] at h9
    exact h9
  have hcomp : comp = (gD E).1 ci := Option.some.inj (k3.symm.trans hcls.1)
  subst hcomp
  obtain ⟨kC, hkC, -⟩ := hcls.2
  have hlt : i.toNatClampNeg < n := by rw [hcl]; exact hj
  have h0 : ¬ i < 0 := fun q => hin (Or.inl q)
  refine W.aast hf.1 hf.2.1 hat (fun q h => by cases h) (fun h => by cases h) k1 k2 rfl hkC ⟨h0, by show _ < (arrV _ _ _).slots.size; rw [arrV_size]; exact hlt⟩ g1 (fun q h => by rw [g3] at h; cases h) (by rw [g2]; exact hkC) (by rw [g2]; exact va_assign hcls) rfl rfl hd fun H1 e9 z oq => ?_
  refine (kk p e R s m args below meth c H1 _ ls cells slots MC MS dd hdd hf hR hl (hP.setI hm (show g_at E a (.inl (t, n, .inr (.inr (.inr (.inr (va_up f j (some b))))))) H1 from ?_) oq) (hS.put z oq hat0.1) hc hs)
  show H1[a]? = some (vp_cell _ _)
  rw [e9, vp_cell_q, vp_cell_q, arrV_store]
  congr 2
  funext q
  by_cases hq : q = i.toNatClampNeg
  · subst hq
    simp [updV, va_up, va_rf, hcl]
  · simp [updV, va_up, hq]
    rw [if_neg (by rw [← hcl]; exact hq)]

theorem g_aastoreNI {t n j : Nat} {i : Int32} {f : Nat → Option Nat} {C : String} {a : Nat} (hm : im a = some (.inl (t, n, .inr (.inr (.inr (.inr f)))))) (ht : t < 8) (hC : g_ty t = .object C) (hx : i = nI j) (hj : j < n) (hn : n.blt 2147483648 = true) (hd : decode M.2.1 pc = .ok (.aastore, 1))
    (kk : G E d M (pc + 1) (lv) (st) (w) (vf_upd im a (some (.inl (t, n, .inr (.inr (.inr (.inr (va_up f j none)))))))) (kc) (ks) Q) : G E d M (pc) (lv) (.null :: .int i :: .ref (a) :: st) (w) (im) (kc) (ks) Q := by
  intro p e R s m args below meth c H locs ls cells slots MC MS dd hdd hf hR hl hP hS hc hs
  obtain ⟨hin, hcl⟩ := g_vpin hx hj hn
  have hat0 := hP.2.1 a _ hm
  have hat : H[a]? = some (vp_cell (gdA E t) (n, .inr (.inr (.inr (.inr f))))) := hat0.2
  refine va_WaastN (C := C) hf.1 hf.2.1 hat (hC ▸ g_arr hf.2.2.2.2.2.2.2.2.2 t ht n _) (fun q => by cases q) (by show ¬ (i < 0 ∨ (arrV _ _ _).slots.size ≤ _); rw [arrV_size]; exact hin) rfl rfl hd fun H1 e9 z oq => ?_
  refine (kk p e R s m args below meth c H1 _ ls cells slots MC MS dd hdd hf hR hl (hP.setI hm (show g_at E a (.inl (t, n, .inr (.inr (.inr (.inr (va_up f j none)))))) H1 from ?_) oq) (hS.put z oq hat0.1) hc hs)
  show H1[a]? = some (vp_cell _ _)
  rw [e9, vp_cell_q, vp_cell_q, arrV_store]
  congr 2
  funext q
  by_cases hq : q = i.toNatClampNeg
  · subst hq
    simp [updV, va_up, va_rf, hcl]
  · simp [updV, va_up, hq]
    rw [if_neg (by rw [← hcl]; exact hq)]

def g_def (ci : Nat) : List Value := (List.range (g_n ci)).map fun k => defaultValue (g_y ci k)
theorem g_defV {ci j : Nat} (hj : j < g_n ci) : defaultValue (g_y ci j) = vp_V (g_def ci) j := by
  simp [vp_V, g_def, List.getD_eq_getElem?_getD, hj]
theorem g_new {idx : Nat} (ci : Nat) (hci : ci < 10) (h1 : Cond.classLink M.1 idx (g_C ci) ∈ g_all) (h2 : Cond.instantiable (g_C ci) (g_n ci) ∈ g_all) (h3 : Cond.initialized (g_C ci) ∈ g_all) (hk1 : 1 ≤ kc) (hk2 : g_n ci ≤ ks) (hd : decode M.2.1 pc = .ok (.new idx, 3))
    (kk : ∀ q : Nat, im q = none → (∀ i, i < gN E → gad E i ≠ q) → G E d M (pc + 3) (lv) (.ref q :: st) (w) (vf_upd im q (some (.inr (ci, g_def ci)))) (kc - 1) (ks - g_n ci) Q) : G E d M (pc) (lv) (st) (w) (im) (kc) (ks) Q := by
  intro p e R s m args below meth c H locs ls cells slots MC MS dd hdd hf hR hl hP hS hc hs
  have hKn := (hf.2.2.2.2.2.2.2.2.2.1).1 ci _ (g_clat hci)
  have hgb : gb E ≤ H.size := Nat.le_trans (hf.2.2.2.2.2.2.2.2.2.2.2.2.2.2.2.2.2.2.2.1) hS.1
  refine W.newcK hf.1 hf.2.1 hf.2.2.2.1 (hf.2.2.2.2.1 _ h1) (hf.2.2.2.2.1 _ h2) (hf.2.2.2.2.1 _ h3) rfl hd (by have := hR.2.2.1; omega) (by have := hR.2.2.2; omega) hKn.2.1 rfl fun H1 kC hkC e1 z1 o1 => ?_
  have hat : g_at E H.size (.inr (ci, g_def ci)) H1 := ⟨_, g_clat hci, (u_born (g_y ci) hf.2.2.2.2.1 (g_lays hci) hKn hkC e1 (g_tyok hci)).to (fun j hj => g_defV hj)⟩
  obtain ⟨f1, f2, f3⟩ := hP.push hgb hat o1
  exact (kk H.size f1 f2 p e R s m args below meth c H1 locs ls (cells + 1) (slots + g_n ci) MC MS dd hdd hf hR hl f3 ⟨Nat.le_trans hS.1 (by omega), fun x h1 h2 => (o1 x (Nat.lt_of_lt_of_le h1 hS.1)).trans (hS.2.1 x h1 h2), hS.2.2⟩ (by omega) (by omega))

def g_zero (t : Nat) : (Nat → Int32) ⊕ (Nat → Int64) ⊕ (Nat → UInt32) ⊕ (Nat → UInt64) ⊕ (Nat → Option Nat) := match t with
  | 0 => .inl (fun _ => 0)
  | 1 => .inl (fun _ => 0)
  | 2 => .inr (.inl (fun _ => 0))
  | 3 => .inr (.inr (.inr (.inl (fun _ => 0))))
  | _ => .inr (.inr (.inr (.inr (fun _ => none))))
theorem g_newarray {atype : ArrayType} (t : Nat) (ht : t < 4) (hty : newarray.typeOf atype = g_ty t) (h1 : Cond.arrayClass (g_ty t) ∈ g_all) {n : Int32} {N : Nat} (hn : n = nI N) (hN : N ≤ 100000) (hk1 : 1 ≤ kc) (hk2 : N ≤ ks) (hd : decode M.2.1 pc = .ok (.newarray atype, 2))
    (kk : ∀ q : Nat, im q = none → (∀ i, i < gN E → gad E i ≠ q) → G E d M (pc + 2) (lv) (.ref q :: st) (w) (vf_upd im q (some (.inl (t, N, g_zero t)))) (kc - 1) (ks - N) Q) : G E d M (pc) (lv) (.int n :: st) (w) (im) (kc) (ks) Q := by
  intro p e R s m args below meth c H locs ls cells slots MC MS dd hdd hf hR hl hP hS hc hs
  have hK := hf.2.2.2.2.2.2.2.2.2
  have hgb : gb E ≤ H.size := Nat.le_trans (hf.2.2.2.2.2.2.2.2.2.2.2.2.2.2.2.2.2.2.2.1) hS.1
  have hn0 : ¬ n < 0 := by rw [hn]; exact nI_pos (by omega)
  have hcb : N * componentBytes (newarray.typeOf atype) ≤ 536870912 := by
    have : componentBytes (newarray.typeOf atype) ≤ 8 := by cases atype <;> decide
    exact Nat.le_trans (Nat.mul_le_mul hN this) (by decide)
  refine va_newaK hf.1 hf.2.1 (hf.2.2.2.2.1 _ (hty ▸ h1)) rfl hd rfl hn0 (by rw [hn]; exact nI_clamp (by omega)) hcb (by have := hR.2.2.1; omega) (by have := hR.2.2.2; omega) rfl fun H1 cA e1 z1 o1 hAr hNm => ?_
  have hcA : cA = gdA E t := by
    have h9 := (hK.2.1 t (by omega)).2
    have h8 : s.vm.findClass ("[" ++ (g_ty t).toString) = some (gdA E t) := by
      match t, ht with
      | 0, _ => exact h9
      | 1, _ => exact h9
      | 2, _ => exact h9
      | 3, _ => exact h9
    rw [hty] at hNm
    exact Option.some.inj (hNm.symm.trans h8)
  have hat : g_at E H.size (.inl (t, N, g_zero t)) H1 := by
    show H1[H.size]? = some (vp_cell (gdA E t) (N, g_zero t))
    rw [e1, hcA, hty]
    match t, ht with
    | 0, _ => rfl
    | 1, _ => rfl
    | 2, _ => rfl
    | 3, _ => rfl
  obtain ⟨f1, f2, f3⟩ := hP.push hgb hat o1
  exact (kk H.size f1 f2 p e R s m args below meth c H1 locs ls (cells + 1) (slots + N) MC MS dd hdd hf hR hl f3 ⟨Nat.le_trans hS.1 (by omega), fun x h1 h2 => (o1 x (Nat.lt_of_lt_of_le h1 hS.1)).trans (hS.2.1 x h1 h2), hS.2.2⟩ (by omega) (by omega))

theorem g_anewarray {idx : Nat} {C : String} (t : Nat) (ht : 4 ≤ t) (ht8 : t < 8) (hty : g_ty t = .object C) (h1 : Cond.classLink M.1 idx C ∈ g_all) (h2 : C ∈ g_ao) {n : Int32} {N : Nat} (hn : n = nI N) (hN : N ≤ 100000) (hk1 : 1 ≤ kc) (hk2 : N ≤ ks) (hd : decode M.2.1 pc = .ok (.anewarray idx, 3))
    (kk : ∀ q : Nat, im q = none → (∀ i, i < gN E → gad E i ≠ q) → G E d M (pc + 3) (lv) (.ref q :: st) (w) (vf_upd im q (some (.inl (t, N, g_zero t)))) (kc - 1) (ks - N) Q) : G E d M (pc) (lv) (.int n :: st) (w) (im) (kc) (ks) Q := by
  intro p e R s m args below meth c H locs ls cells slots MC MS dd hdd hf hR hl hP hS hc hs
  have hK := hf.2.2.2.2.2.2.2.2.2
  have hgb : gb E ≤ H.size := Nat.le_trans (hf.2.2.2.2.2.2.2.2.2.2.2.2.2.2.2.2.2.2.2.1) hS.1
  have hn0 : ¬ n < 0 := by rw [hn]; exact nI_pos (by omega)
  have hcl : n.toNatClampNeg = N := by rw [hn]; exact nI_clamp (by omega)
  refine W.anew hf.1 hf.2.1 hf.2.2.2.1 (hf.2.2.2.2.1 _ h1) (va_AO.use (hf.2.2.2.2.2.2.2.2.2.2.2.2.2.2.2.2.1 _ h2)) rfl hd rfl hn0 (by rw [hcl]; omega) (by have := hR.2.2.1; omega) (by have := hR.2.2.2; rw [hcl]; omega) fun cA kA comp f1 f2 f3 f4 => ?_
  rw [hcl]
  generalize hH1 : H.push ({ cls := cA, slots := Array.replicate N .null, vm := .none } : Cell) = H1
  have z1 : H1.size = H.size + 1 := by rw [← hH1, Array.size_push]
  have e1 : H1[H.size]? = some (arrV cA N (fun _ => .null)) := by rw [← hH1, Array.getElem?_push_size, ← arrV_new]
  have o1 : ∀ q : Nat, q < H.size → H1[q]? = H[q]? := fun q hq => by rw [← hH1, Array.getElem?_push, if_neg (Nat.ne_of_lt hq)]
  have hz : g_zero t = .inr (.inr (.inr (.inr (fun _ => none)))) := by
    match t, ht with
    | t + 4, _ => rfl
  have hcA : cA = gdA E t := by
    have h9 := (hK.2.1 t ht8).2
    rw [hty] at h9
    obtain ⟨_, _, -, -, -, h8⟩ := h9
    exact Option.some.inj (f1.symm.trans h8)
  have hat : g_at E H.size (.inl (t, N, g_zero t)) H1 := by
    show H1[H.size]? = some (vp_cell (gdA E t) (N, g_zero t))
    rw [e1, hcA, hz]
    rfl
  obtain ⟨f5, f6, f7⟩ := hP.push hgb hat o1
  exact (kk H.size f5 f6 p e R s m args below meth c H1 locs ls (cells + 1) (slots + N) MC MS dd hdd hf hR hl f7 ⟨Nat.le_trans hS.1 (by omega), fun x h1 h2 => (o1 x (Nat.lt_of_lt_of_le h1 hS.1)).trans (hS.2.1 x h1 h2), hS.2.2⟩ (by omega) (by omega))

theorem g_objInit {idx a : Nat} (h1 : Cond.methodLink M.1 idx Lib.objectInit ∈ g_all) (h2 : Cond.instanceMethod Lib.objectInit ∈ g_all) (h3 : Cond.code Lib.objectInit ⟨#[0xb1]⟩ 1 none ∈ g_all) (hcat : (st.map fun v => v.category).sum ≤ 8) (hd : decode M.2.1 pc = .ok (.invokespecial idx, 3))
    (kk : G E d M (pc + 3) (lv) (st) (w) (im) (kc) (ks) Q) : G E d M (pc) (lv) (.ref a :: st) (w) (im) (kc) (ks) Q := by
  intro p e R s m args below meth c H locs ls cells slots MC MS dd hdd hf hR hl hP hS hc hs
  exact W.objInit hf.1 hf.2.1 hf.2.2.2.1 (hf.2.2.2.2.1 _ h1) (hf.2.2.2.2.1 _ h2) (hf.2.2.2.2.1 _ h3) rfl (by rw [hf.2.2.1]; exact hl.1) rfl hd (by have := hR.1; omega) (by show 2 * 0 + _ + 12 ≤ _; have := hR.2.1; omega) (kk p e R s m args below meth c H locs ls cells slots MC MS dd hdd hf hR hl hP hS hc hs)

theorem g_mmax {idx : Nat} {x y : Int32} (h1 : Cond.methodLink M.1 idx Lib.Math.max.name ∈ g_all) (h2 : Cond.static Lib.Math.max.name ∈ g_all) (h3 : Cond.initialized "java/lang/Math" ∈ g_all) (h4 : Cond.code Lib.Math.max.name Lib.Math.max.code 2 (some .int) ∈ g_all) (hcat : (st.map fun v => v.category).sum ≤ 8) (hd : decode M.2.1 pc = .ok (.invokestatic idx, 3))
    (kk : G E d M (pc + 3) (lv) (.int (if x < y then y else x) :: st) (w) (im) (kc) (ks) Q) : G E d M (pc) (lv) (.int y :: .int x :: st) (w) (im) (kc) (ks) Q := by
  intro p e R s m args below meth c H locs ls cells slots MC MS dd hdd hf hR hl hP hS hc hs
  exact va_mmax hf.1 hf.2.1 (by rw [hf.2.2.1]; exact hl.1.symm) hf.2.2.2.1 (hf.2.2.2.2.1 _ h1) (hf.2.2.2.2.1 _ h2) (hf.2.2.2.2.1 _ h3) (hf.2.2.2.2.1 _ h4) (by have := hR.1; omega) (by have := hR.2.1; omega) (by have := hR.2.2.1; omega) (by have := hR.2.2.2; omega) hd (kk p e R s m args below meth c H locs ls cells slots MC MS dd hdd hf hR hl hP hS hc hs)

theorem g_mmin {idx : Nat} {x y : Int32} (h1 : Cond.methodLink M.1 idx Lib.Math.min.name ∈ g_all) (h2 : Cond.static Lib.Math.min.name ∈ g_all) (h3 : Cond.initialized "java/lang/Math" ∈ g_all) (h4 : Cond.code Lib.Math.min.name Lib.Math.min.code 2 (some .int) ∈ g_all) (hcat : (st.map fun v => v.category).sum ≤ 8) (hd : decode M.2.1 pc = .ok (.invokestatic idx, 3))
    (kk : G E d M (pc + 3) (lv) (.int (if y < x then y else x) :: st) (w) (im) (kc) (ks) Q) : G E d M (pc) (lv) (.int y :: .int x :: st) (w) (im) (kc) (ks) Q := by
  intro p e R s m args below meth c H locs ls cells slots MC MS dd hdd hf hR hl hP hS hc hs
  exact va_mmin hf.1 hf.2.1 (by rw [hf.2.2.1]; exact hl.1.symm) hf.2.2.2.1 (hf.2.2.2.2.1 _ h1) (hf.2.2.2.2.1 _ h2) (hf.2.2.2.2.1 _ h3) (hf.2.2.2.2.1 _ h4) (by have := hR.1; omega) (by have := hR.2.1; omega) (by have := hR.2.2.1; omega) (by have := hR.2.2.2; omega) hd (kk p e R s m args below meth c H locs ls cells slots MC MS dd hdd hf hR hl hP hS hc hs)

theorem g_mabs {idx : Nat} {x : Int32} (h1 : Cond.methodLink M.1 idx Lib.Math.abs.name ∈ g_all) (h2 : Cond.static Lib.Math.abs.name ∈ g_all) (h3 : Cond.initialized "java/lang/Math" ∈ g_all) (h4 : Cond.code Lib.Math.abs.name Lib.Math.abs.code 1 (some .int) ∈ g_all) (hcat : (st.map fun v => v.category).sum ≤ 8) (hd : decode M.2.1 pc = .ok (.invokestatic idx, 3))
    (kk : G E d M (pc + 3) (lv) (.int (if 0 ≤ x then x else 0 - x) :: st) (w) (im) (kc) (ks) Q) : G E d M (pc) (lv) (.int x :: st) (w) (im) (kc) (ks) Q := by
  intro p e R s m args below meth c H locs ls cells slots MC MS dd hdd hf hR hl hP hS hc hs
  exact va_mabs hf.1 hf.2.1 (by rw [hf.2.2.1]; exact hl.1.symm) hf.2.2.2.1 (hf.2.2.2.2.1 _ h1) (hf.2.2.2.2.1 _ h2) (hf.2.2.2.2.1 _ h3) (hf.2.2.2.2.1 _ h4) (by have := hR.1; omega) (by have := hR.2.1; omega) (by have := hR.2.2.1; omega) (by have := hR.2.2.2; omega) hd (kk p e R s m args below meth c H locs ls cells slots MC MS dd hdd hf hR hl hP hS hc hs)

theorem g_arraycopy {idx a0 i1 n0 n1 N : Nat} {sp dp n : Int32} {f g : Nat → Int32} (h1 : Cond.methodLink M.1 idx arraycopyName ∈ g_all) (h2 : Cond.native arraycopyName ∈ g_all) (h3 : Cond.static arraycopyName ∈ g_all) (h4 : Cond.initialized "java/lang/System" ∈ g_all) (hcat : (st.map fun v => v.category).sum ≤ 8)
    (hc0 : g_cell E w im a0 (.inl (0, n0, .inl f))) (hi1 : i1 < gN E) (hw1 : w i1 = .inl (0, n1, .inl g)) (hsp : sp = 0) (hdp : dp = 0) (hn : n = nI N) (hN0 : N ≤ n0) (hN1 : N ≤ n1) (hNb : N.blt 2147483648 = true) (hd : decode M.2.1 pc = .ok (.invokestatic idx, 3))
    (kk : G E d M (pc + 3) (lv) (st) (vf_upd w i1 (.inl (0, n1, .inl (va_cpy f g 0 0 N)))) (im) (kc) (ks) Q) : G E d M (pc) (lv) (.int n :: .int dp :: .ref (gad E i1) :: .int sp :: .ref a0 :: st) (w) (im) (kc) (ks) Q := by
  intro p e R s m args below meth c H locs ls cells slots MC MS dd hdd hf hR hl hP hS hc hs
  have hNb' : N < 2147483648 := by simpa using hNb
  have hcl : n.toNatClampNeg = N := by rw [hn]; exact nI_clamp hNb'
  have hti : n.toInt = (N : Int) := by rw [hn]; exact nI_toInt hNb'
  have hn0 : ¬ n < 0 := by rw [hn]; exact nI_pos hNb'
  have hz0 : ¬ (0 : Int32) < 0 := by decide
  have hK := hf.2.2.2.2.2.2.2.2.2
  have hat0 : H[a0]? = some (arrV (gdA E 0) n0 (fun j => .int (f j))) := (hP.get hc0).2
  have hat9 := hP.1 i1 hi1
  rw [hw1] at hat9
  have hat1 : H[gad E i1]? = some (arrV (gdA E 0) n1 (fun j => .int (g j))) := hat9.2
  subst hsp; subst hdp
  obtain ⟨-, k0, hk0, cm0, hkk0⟩ := g_arr hK 0 (by decide) n0 (fun j => .int (f j))
  obtain ⟨-, k1, hk1, cm1, hkk1⟩ := g_arr hK 0 (by decide) n1 (fun j => .int (g j))
  intro T hT X
  have hml : c.maxLocals = ls.size := by rw [hf.2.2.1]; exact hl.1.symm
  have e9 : nativeFrameWords "java/lang/System" "arraycopy" 5 ≤ 100 := by decide +kernel
  have hloc9 : 2 * 0 + (st.map fun v => v.category).sum + (nativeFrameWords "java/lang/System" "arraycopy" 5 + 11) ≤ R.locals := by
    have := hR.2.1
    omega
  obtain ⟨vm', X', step⟩ := X.arraycopy hf.1 hf.2.2.2.1 (hf.2.2.2.2.1 _ h1) (hf.2.2.2.2.1 _ h2) (hf.2.2.2.2.1 _ h3) (hf.2.2.2.2.1 _ h4) (src := a0) (dst := gad E i1) (cs := arrV (gdA E 0) n0 (fun j => .int (f j))) (cd := arrV (gdA E 0) n1 (fun j => .int (g j))) (srcPos := 0) (destPos := 0) (n := n) (by rw [hT]; exact hat0) (by rw [hT]; exact hat1)
    (fun _ h => by cases h) (fun _ h => by cases h) (fun h => by cases h) (fun h => by cases h) hk0 hk1 hkk0 hkk1 (by decide) hz0 hz0 hn0
    (by rw [hti, arrV_size]; show ¬ ((0 : Int) + N > n0); omega)
    (by rw [hti, arrV_size]; show ¬ ((0 : Int) + N > n1); omega)
    (fun vm₁ _ i hi => by
      have e : (arrV (gdA E 0) n0 (fun j => .int (f j))).slots.getD ((0 : Int32).toNatClampNeg + i) .null = .int (f i) := by
        rw [show (0 : Int32).toNatClampNeg + i = i by rw [show (0 : Int32).toNatClampNeg = 0 from rfl]; omega, Array.getD_eq_getD_getElem?, arrV_read _ _ (by rw [hcl] at hi; omega)]
        rfl
      refine ⟨?_, ?_⟩
      · rw [e]; rfl
      · rw [e]; exact trivial)
    (g := F0 m pc ls (.int n :: .int 0 :: .ref (gad E i1) :: .int 0 :: .ref a0 :: st)) rfl (by rw [hml]) (rest := st) rfl (by rw [hf.2.1]; exact hd) (by have := hR.1; omega) hloc9
  have e1 : copied (arrV (gdA E 0) n0 (fun j => .int (f j))) (arrV (gdA E 0) n1 (fun j => .int (g j))) 0 0 n = arrV (gdA E 0) n1 (fun j => .int (va_cpy f g 0 0 N j)) := by
    have h9 : copied (arrV (gdA E 0) n0 (fun j => .int (f j))) (arrV (gdA E 0) n1 (fun j => .int (g j))) 0 0 n = arrV (gdA E 0) n1 (fun j => .int (va_cpy f g (0 : Int32).toNatClampNeg (0 : Int32).toNatClampNeg n.toNatClampNeg j)) := va_copied (fun z => .int z) (gdA E 0) (gdA E 0) f g (by rw [hcl]; show 0 + N ≤ n0; omega)
    rw [hcl] at h9
    exact h9
  rw [e1] at X' step
  have hl9 : gad E i1 < H.size := (Array.getElem?_eq_some_iff.mp hat1).1
  have hheap : ((T.setVm vm').setCell (gad E i1) (arrV (gdA E 0) n1 (fun j => .int (va_cpy f g 0 0 N j)))).heap = H.setIfInBounds (gad E i1) (arrV (gdA E 0) n1 (fun j => .int (va_cpy f g 0 0 N j))) := by rw [← hT]; rfl
  have oq : ∀ q : Nat, q ≠ gad E i1 → (H.setIfInBounds (gad E i1) (arrV (gdA E 0) n1 (fun j => .int (va_cpy f g 0 0 N j))))[q]? = H[q]? := fun q hq => by simp [Array.getElem?_setIfInBounds, Ne.symm hq]
  obtain ⟨t, a1, b1⟩ := (kk p e R s m args below meth c _ _ ls cells slots MC MS dd hdd hf hR hl (hP.setW hi1 (show (H.setIfInBounds (gad E i1) _)[gad E i1]? = some _ by simp [Array.getElem?_setIfInBounds, hl9, vp_cell]) oq) ⟨by simp; exact hS.1, fun q g1 g2 => by rw [oq q (fun e => g2 (by rw [e]; exact hat9.1))]; exact hS.2.1 q g1 g2, fun q hq => by
      rcases List.mem_append.mp hq with h | h
      · exact hS.2.2 q h
      · obtain ⟨z, -, hz⟩ := List.mem_map.mp h
        rw [← hz]
        exact hat9.1⟩ hc hs) _ hheap X'
  exact ⟨t, step t a1, b1⟩

end GH
