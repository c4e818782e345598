section GC
variable {E : gE} {d : Nat} {M : gM} {pc : Nat} {lv : List (Nat × Value)} {st : List Value} {w : gW} {im : gIm} {kc ks : Nat} {Q : gQ}
/-- behind a call: with the answer on the stack, or thrown on to the caller -/
def g_k (E : gE) (d : Nat) (M : gM) (pc : Nat) (lv : List (Nat × Value)) (rest : List Value) (kc ks : Nat) (Q : gQ) : gQ := fun o w im => match o with
  | .inl v => G E d M pc lv (v.toList ++ rest) w im kc ks Q
  | .inr X => Q (.inr X) w im
/-- a method that can be called: its words -/
def g_me (y : MethodName) (M : gM) (n : Nat) : Prop := y.cls ≠ "java/lang/invoke/MethodHandle" ∧ y.cls ≠ "java/lang/invoke/VarHandle" ∧ (parseMethodDescriptor y.desc).map (fun d => d.parameters.length) = some n ∧ g_w y M ∈ g_all ∧ Cond.initialized y.cls ∈ g_all ∧ M.2.2.1 ≤ 60 ∧ (∀ args s, (Cond.initialized y.cls).before args s = true → (Cond.initialized y.cls).before args s = true)
theorem g_rmF {dd mc ms : Nat} : (g_rm dd mc ms).frames = dd + 8 := rfl
theorem g_rmL {dd mc ms : Nat} : (g_rm dd mc ms).locals = 100 * dd + 300 := rfl
set_option maxRecDepth 20000 in
theorem g_locs {dd a mc ms R : Nat} (h1 : a ≤ 60) (h2 : 1 ≤ dd) (h3 : 100 * dd + 300 ≤ R) : 8 + (a + 11) + (g_rm (dd - 1) mc ms).locals ≤ R := by
  obtain ⟨k, rfl⟩ : ∃ k, dd = k + 1 := ⟨dd - 1, by omega⟩
  show 8 + (a + 11) + (100 * k + 300) ≤ R
  omega
theorem g_PcBlind {av : List Value} : FrameBlind (g_Pc E av w im) := fun a U g mk ⟨h1, h2, h3⟩ => ⟨h1, h2, (show g_K E (U.calling g mk a) U.heap from g_K.same (s := U) rfl h3)⟩
theorem g_pre {p : Program} {s : State} {m : MethodId} {args : Array Value} {meth : Method} {c : Code} {H : Heap} {locs : List Loc} (hf : g_fix E M p s m args meth c) (hP : g_Rp E w im H) (hS : va_S (fun q => gb E ≤ q) s.heap H locs) (av : List Value) : ∀ U : State, U.heap = H → s.WarmedH U.vm → g_Pc E av w im av.toArray U := fun U hU hW => by
  refine ⟨rfl, by rw [hU]; exact hP, ?_⟩
  have h := (hf.2.2.2.2.2.2.2.2.2).keptH (g_frame hS (hf.2.2.2.2.2.2.2.2.2.2.2.2.2.2.2.2.2.2.2.1)).1 (g_frame hS (hf.2.2.2.2.2.2.2.2.2.2.2.2.2.2.2.2.2.2.2.1)).2
  rw [hU]
  exact h.warm hW
/-- what a call gives, in a frame without handlers -/
theorem g_after {p : Program} {e : Env} {R : Room} {s : State} {m : MethodId} {args : Array Value} {below : List Frame} {meth : Method} {c : Code} {H : Heap} {locs : List Loc} {ls : Array Slot} {cells slots MC MS dd mc ms : Nat} {st0 rest : List Value} {a : Array Value} (hx : M.2.2.2.2.1 = [])
    (hdd : d ≤ dd) (hf : g_fix E M p s m args meth c) (hR : g_room R dd MC MS) (hl : lv_has ls M.2.2.1 lv) (hS : va_S (fun q => gb E ≤ q) s.heap H locs) (hc : cells + kc ≤ MC) (hs : slots + ks ≤ MS) (hk1 : mc ≤ kc) (hk2 : ms ≤ ks)
    (hr : vx_Run p (gl E) e R s m args below meth c H locs cells slots mc ms (F0 m pc ls st0) rest (g_Qc E (g_k E d M (pc + 3) lv rest (kc - mc) (ks - ms) Q) a) (g_XC E (g_k E d M (pc + 3) lv rest (kc - mc) (ks - ms) Q)) (fun q => gb E ≤ q)) :
    W p (gl E) e R s m args below meth c H locs cells slots (vx_MQ below (g_Qc E Q) (g_XC E Q) args s MC MS (fun q => gb E ≤ q)) (F0 m pc ls st0) := by
  have hb0 := hf.2.2.2.2.2.2.2.2.2.2.2.2.2.2.2.2.2.2.2.1
  intro T hT X
  have key : ∀ (t T' : State) (L : List Loc), T'.heap = t.heap → H.size ≤ t.heap.size → (∀ q : Nat, q < gb E → t.heap[q]? = H[q]?) → (∀ q ∈ L, gb E ≤ q.base) → va_S (fun q => gb E ≤ q) s.heap t.heap (locs ++ L) := fun t T' L _ hz hq hL =>
    ⟨Nat.le_trans hS.1 hz, fun q h1 h2 => (hq q (Nat.lt_of_not_le h2)).trans (hS.2.1 q h1 h2), fun q hq => by
      rcases List.mem_append.mp hq with h | h
      · exact hS.2.2 q h
      · exact hL q h⟩
  rcases hr T hT X with ⟨v, st₀, t, T', L, h0, X', hL, e1, e2, ⟨v2, w2, im2, hv2, hQ, hP2, hz, hq⟩, step⟩ | ⟨q9, st₀, t, T', L, Ex, ce, h0, X', hL, e1, e2, ⟨w2, im2, hQ, hP2, hz, hq⟩, hce, hcv, hcl, step⟩
  · cases hv2
    rw [h0] at hz hq
    obtain ⟨t2, a1, b1⟩ := hQ p e R s m args below meth c t.heap (locs ++ L) ls (cells + mc) (slots + ms) MC MS dd hdd hf hR hl hP2 (key t T' L e1 hz hq hL) (by omega) (by omega) T' e1 X'
    exact ⟨t2, step t2 a1, b1⟩
  · rw [h0] at hz hq
    have hS2 := key t T' L e1 hz hq hL
    have hout := vx_out (p := p) (l := gl E) (e := e) (R := R) (s := s) (m := m) (args := args) (below := below) (meth := meth) (c := c) (H := t.heap) (locs := locs ++ L) (cells := cells + mc) (slots := slots + ms) (mc := MC) (ms := MS) (free := fun q => gb E ≤ q) (Qc := g_Qc E Q) (XC := g_XC E Q) (ls := ls) (rest := rest) (pc := pc) (E := Ex) (ce := ce) (q := q9)
      (by rw [hf.2.2.2.2.2.2.2.1, hx]; intro x hx9; simp [tableOf] at hx9) hf.2.2.2.2.2.2.1 hce hcv hcl (fun t9 ht9 _ => ⟨w2, im2, hQ, by rw [ht9]; exact hP2, by rw [ht9]; exact hS2.1, fun q h => by rw [ht9]; exact (g_frame hS2 hb0).2 q h⟩) hS2.2.2 (by omega) (by omega)
    obtain ⟨t2, a1, b1⟩ := hout T' e1 X'
    exact ⟨t2, step.trans a1, b1⟩
theorem g_callB {p : Program} {R : Room} {s : State} {m : MethodId} {args : Array Value} {meth : Method} {c : Code} {dd d' MC MS mc ms n : Nat} {y : MethodName} {M' : gM} (hf : g_fix E M p s m args meth c) (hR : g_room R dd MC MS) (hM : M'.2.2.2.2.1 = []) (hd' : d' + 1 ≤ dd) (h0 : g_me y M' n) {idx : Nat} (hl : (Cond.methodLink M.1 idx y).before args s = true) :
    CallB R s args M.1 idx y M'.2.1 M'.2.2.1 M'.2.2.2.1 (g_w y M' :: g_all) (g_rm (dd - 1) mc ms) mc ms n := by
  obtain ⟨n1, n2, n3, n4, n5, n6, -⟩ := h0
  have hts := hf.2.2.2.2.1
  have hG : GoodIn g_all (g_w y M' :: g_all) := fun x hx => (List.mem_cons.mp hx).elim (fun e => e ▸ g_good _ n4) (g_good x)
  have hw : g_w y M' = .code y M'.2.1 M'.2.2.1 M'.2.2.2.1 := by simp [g_w, hM]
  have r1 := hR.1
  have r2 := hR.2.1
  exact ⟨rfl, rfl, by rw [g_rmF]; omega, g_locs n6 (by omega) r2, pay_in hts hG, by rw [hw]; exact List.mem_cons_self, hw ▸ hts _ n4, hts _ n5, ⟨n1, n2⟩, fun sig h => by rw [h] at n3; exact (Option.some.inj n3).symm, hl⟩

theorem g_callV0 {d' idx mc ms b : Nat} {y : MethodName} {M' : gM} {rest : List Value} (hx : M.2.2.2.2.1 = []) (hM : M'.2.2.2.2.1 = []) (h0 : g_me y M' 0) (hlk : Cond.methodLink M.1 idx y ∈ g_all) (h1 : Cond.instanceMethod y ∈ g_all ∧ Cond.selects y.cls y y ∈ g_all) (ci : Nat) {fs : List Value} (hci : ci < 10) (hcl : y.cls = g_C ci) (hb : g_cell E w im b (.inr (ci, fs))) (hd' : d' + 1 ≤ d) (hk1 : mc ≤ kc) (hk2 : ms ≤ ks) (hcat : (rest.map fun v => v.category).sum ≤ 8) (hd : decode M.2.1 pc = .ok (.invokevirtual idx, 3))
    (hm : GM E d' y M' mc ms [.ref b] w im (g_k E d M (pc + 3) lv rest (kc - mc) (ks - ms) Q)) : G E d M (pc) (lv) (.ref b :: rest) (w) (im) (kc) (ks) Q := by
  intro p e R s m args below meth c H locs ls cells slots MC MS dd hdd hf hR hl hP hS hc hs
  have hm9 := hm (dd - 1) (by omega)
  obtain ⟨-, r', hr', cellB, g1, g2, g3, -⟩ := hP.get hb
  have hr : r' = (g_C ci, g_T ci, g_n ci) := Option.some.inj (hr'.symm.trans (g_clat hci))
  have hKn := (hf.2.2.2.2.2.2.2.2.2.1).1 ci _ (g_clat hci)
  have hcb := g_callB (mc := mc) (ms := ms) hf hR hM (Nat.le_trans hd' hdd) h0 (hf.2.2.2.2.1 _ hlk)
  exact g_after hx hdd hf hR hl hS hc hs hk1 hk2 (vx_runV (C := y.cls) (As := []) (rest := rest) ⟨hf.1, hf.2.1, hf.2.2.1, hf.2.2.2.1, hf.2.2.2.2.1⟩ hm9 ⟨hcb, hf.2.2.2.2.1 _ h1.1, hf.2.2.2.2.1 _ h1.2⟩ ⟨g_PcBlind, ⟨cellB, g1, by rw [g3]; rfl, by rw [g2, hcl]; exact hKn.2.1⟩, g_pre hf hP hS _⟩ rfl rfl hl.1 rfl (lv_room hcat) hd ⟨by have := hR.2.2.1; omega, by have := hR.2.2.2; omega⟩)
theorem g_callV1 {d' idx mc ms b : Nat} {y : MethodName} {M' : gM} {rest : List Value} {x1 : Value} (hx : M.2.2.2.2.1 = []) (hM : M'.2.2.2.2.1 = []) (h0 : g_me y M' 1) (hlk : Cond.methodLink M.1 idx y ∈ g_all) (h1 : Cond.instanceMethod y ∈ g_all ∧ Cond.selects y.cls y y ∈ g_all) (ci : Nat) {fs : List Value} (hci : ci < 10) (hcl : y.cls = g_C ci) (hb : g_cell E w im b (.inr (ci, fs))) (hd' : d' + 1 ≤ d) (hk1 : mc ≤ kc) (hk2 : ms ≤ ks) (hcat : (rest.map fun v => v.category).sum ≤ 8) (hd : decode M.2.1 pc = .ok (.invokevirtual idx, 3))
    (hm : GM E d' y M' mc ms [.ref b, x1] w im (g_k E d M (pc + 3) lv rest (kc - mc) (ks - ms) Q)) : G E d M (pc) (lv) (x1 :: .ref b :: rest) (w) (im) (kc) (ks) Q := by
  intro p e R s m args below meth c H locs ls cells slots MC MS dd hdd hf hR hl hP hS hc hs
  have hm9 := hm (dd - 1) (by omega)
  obtain ⟨-, r', hr', cellB, g1, g2, g3, -⟩ := hP.get hb
  have hr : r' = (g_C ci, g_T ci, g_n ci) := Option.some.inj (hr'.symm.trans (g_clat hci))
  have hKn := (hf.2.2.2.2.2.2.2.2.2.1).1 ci _ (g_clat hci)
  have hcb := g_callB (mc := mc) (ms := ms) hf hR hM (Nat.le_trans hd' hdd) h0 (hf.2.2.2.2.1 _ hlk)
  exact g_after hx hdd hf hR hl hS hc hs hk1 hk2 (vx_runV (C := y.cls) (As := [x1]) (rest := rest) ⟨hf.1, hf.2.1, hf.2.2.1, hf.2.2.2.1, hf.2.2.2.2.1⟩ hm9 ⟨hcb, hf.2.2.2.2.1 _ h1.1, hf.2.2.2.2.1 _ h1.2⟩ ⟨g_PcBlind, ⟨cellB, g1, by rw [g3]; rfl, by rw [g2, hcl]; exact hKn.2.1⟩, g_pre hf hP hS _⟩ rfl rfl hl.1 rfl (lv_room hcat) hd ⟨by have := hR.2.2.1; omega, by have := hR.2.2.2; omega⟩)
theorem g_callV2 {d' idx mc ms b : Nat} {y : MethodName} {M' : gM} {rest : List Value} {x1 x2 : Value} (hx : M.2.2.2.2.1 = []) (hM : M'.2.2.2.2.1 = []) (h0 : g_me y M' 2) (hlk : Cond.methodLink M.1 idx y ∈ g_all) (h1 : Cond.instanceMethod y ∈ g_all ∧ Cond.selects y.cls y y ∈ g_all) (ci : Nat) {fs : List Value} (hci : ci < 10) (hcl : y.cls = g_C ci) (hb : g_cell E w im b (.inr (ci, fs))) (hd' : d' + 1 ≤ d) (hk1 : mc ≤ kc) (hk2 : ms ≤ ks) (hcat : (rest.map fun v => v.category).sum ≤ 8) (hd : decode M.2.1 pc = .ok (.invokevirtual idx, 3))
    (hm : GM E d' y M' mc ms [.ref b, x1, x2] w im (g_k E d M (pc + 3) lv rest (kc - mc) (ks - ms) Q)) : G E d M (pc) (lv) (x2 :: x1 :: .ref b :: rest) (w) (im) (kc) (ks) Q := by
  intro p e R s m args below meth c H locs ls cells slots MC MS dd hdd hf hR hl hP hS hc hs
  have hm9 := hm (dd - 1) (by omega)
  obtain ⟨-, r', hr', cellB, g1, g2, g3, -⟩ := hP.get hb
  have hr : r' = (g_C ci, g_T ci, g_n ci) := Option.some.inj (hr'.symm.trans (g_clat hci))
  have hKn := (hf.2.2.2.2.2.2.2.2.2.1).1 ci _ (g_clat hci)
  have hcb := g_callB (mc := mc) (ms := ms) hf hR hM (Nat.le_trans hd' hdd) h0 (hf.2.2.2.2.1 _ hlk)
  exact g_after hx hdd hf hR hl hS hc hs hk1 hk2 (vx_runV (C := y.cls) (As := [x1, x2]) (rest := rest) ⟨hf.1, hf.2.1, hf.2.2.1, hf.2.2.2.1, hf.2.2.2.2.1⟩ hm9 ⟨hcb, hf.2.2.2.2.1 _ h1.1, hf.2.2.2.2.1 _ h1.2⟩ ⟨g_PcBlind, ⟨cellB, g1, by rw [g3]; rfl, by rw [g2, hcl]; exact hKn.2.1⟩, g_pre hf hP hS _⟩ rfl rfl hl.1 rfl (lv_room hcat) hd ⟨by have := hR.2.2.1; omega, by have := hR.2.2.2; omega⟩)
theorem g_callV3 {d' idx mc ms b : Nat} {y : MethodName} {M' : gM} {rest : List Value} {x1 x2 x3 : Value} (hx : M.2.2.2.2.1 = []) (hM : M'.2.2.2.2.1 = []) (h0 : g_me y M' 3) (hlk : Cond.methodLink M.1 idx y ∈ g_all) (h1 : Cond.instanceMethod y ∈ g_all ∧ Cond.selects y.cls y y ∈ g_all) (ci : Nat) {fs : List Value} (hci : ci < 10) (hcl : y.cls = g_C ci) (hb : g_cell E w im b (.inr (ci, fs))) (hd' : d' + 1 ≤ d) (hk1 : mc ≤ kc) (hk2 : ms ≤ ks) (hcat : (rest.map fun v => v.category).sum ≤ 8) (hd : decode M.2.1 pc = .ok (.invokevirtual idx, 3))
    (hm : GM E d' y M' mc ms [.ref b, x1, x2, x3] w im (g_k E d M (pc + 3) lv rest (kc - mc) (ks - ms) Q)) : G E d M (pc) (lv) (x3 :: x2 :: x1 :: .ref b :: rest) (w) (im) (kc) (ks) Q := by
  intro p e R s m args below meth c H locs ls cells slots MC MS dd hdd hf hR hl hP hS hc hs
  have hm9 := hm (dd - 1) (by omega)
  obtain ⟨-, r', hr', cellB, g1, g2, g3, -⟩ := hP.get hb
  have hr : r' = (g_C ci, g_T ci, g_n ci) := Option.some.inj (hr'.symm.trans (g_clat hci))
  have hKn := (hf.2.2.2.2.2.2.2.2.2.1).1 ci _ (g_clat hci)
  have hcb := g_callB (mc := mc) (ms := ms) hf hR hM (Nat.le_trans hd' hdd) h0 (hf.2.2.2.2.1 _ hlk)
  exact g_after hx hdd hf hR hl hS hc hs hk1 hk2 (vx_runV (C := y.cls) (As := [x1, x2, x3]) (rest := rest) ⟨hf.1, hf.2.1, hf.2.2.1, hf.2.2.2.1, hf.2.2.2.2.1⟩ hm9 ⟨hcb, hf.2.2.2.2.1 _ h1.1, hf.2.2.2.2.1 _ h1.2⟩ ⟨g_PcBlind, ⟨cellB, g1, by rw [g3]; rfl, by rw [g2, hcl]; exact hKn.2.1⟩, g_pre hf hP hS _⟩ rfl rfl hl.1 rfl (lv_room hcat) hd ⟨by have := hR.2.2.1; omega, by have := hR.2.2.2; omega⟩)
theorem g_callV4 {d' idx mc ms b : Nat} {y : MethodName} {M' : gM} {rest : List Value} {x1 x2 x3 x4 : Value} (hx : M.2.2.2.2.1 = []) (hM : M'.2.2.2.2.1 = []) (h0 : g_me y M' 4) (hlk : Cond.methodLink M.1 idx y ∈ g_all) (h1 : Cond.instanceMethod y ∈ g_all ∧ Cond.selects y.cls y y ∈ g_all) (ci : Nat) {fs : List Value} (hci : ci < 10) (hcl : y.cls = g_C ci) (hb : g_cell E w im b (.inr (ci, fs))) (hd' : d' + 1 ≤ d) (hk1 : mc ≤ kc) (hk2 : ms ≤ ks) (hcat : (rest.map fun v => v.category).sum ≤ 8) (hd : decode M.2.1 pc = .ok (.invokevirtual idx, 3))
    (hm : GM E d' y M' mc ms [.ref b, x1, x2, x3, x4] w im (g_k E d M (pc + 3) lv rest (kc - mc) (ks - ms) Q)) : G E d M (pc) (lv) (x4 :: x3 :: x2 :: x1 :: .ref b :: rest) (w) (im) (kc) (ks) Q := by
  intro p e R s m args below meth c H locs ls cells slots MC MS dd hdd hf hR hl hP hS hc hs
  have hm9 := hm (dd - 1) (by omega)
  obtain ⟨-, r', hr', cellB, g1, g2, g3, -⟩ := hP.get hb
  have hr : r' = (g_C ci, g_T ci, g_n ci) := Option.some.inj (hr'.symm.trans (g_clat hci))
  have hKn := (hf.2.2.2.2.2.2.2.2.2.1).1 ci _ (g_clat hci)
  have hcb := g_callB (mc := mc) (ms := ms) hf hR hM (Nat.le_trans hd' hdd) h0 (hf.2.2.2.2.1 _ hlk)
  exact g_after hx hdd hf hR hl hS hc hs hk1 hk2 (vx_runV (C := y.cls) (As := [x1, x2, x3, x4]) (rest := rest) ⟨hf.1, hf.2.1, hf.2.2.1, hf.2.2.2.1, hf.2.2.2.2.1⟩ hm9 ⟨hcb, hf.2.2.2.2.1 _ h1.1, hf.2.2.2.2.1 _ h1.2⟩ ⟨g_PcBlind, ⟨cellB, g1, by rw [g3]; rfl, by rw [g2, hcl]; exact hKn.2.1⟩, g_pre hf hP hS _⟩ rfl rfl hl.1 rfl (lv_room hcat) hd ⟨by have := hR.2.2.1; omega, by have := hR.2.2.2; omega⟩)
theorem g_callV5 {d' idx mc ms b : Nat} {y : MethodName} {M' : gM} {rest : List Value} {x1 x2 x3 x4 x5 : Value} (hx : M.2.2.2.2.1 = []) (hM : M'.2.2.2.2.1 = []) (h0 : g_me y M' 5) (hlk : Cond.methodLink M.1 idx y ∈ g_all) (h1 : Cond.instanceMethod y ∈ g_all ∧ Cond.selects y.cls y y ∈ g_all) (ci : Nat) {fs : List Value} (hci : ci < 10) (hcl : y.cls = g_C ci) (hb : g_cell E w im b (.inr (ci, fs))) (hd' : d' + 1 ≤ d) (hk1 : mc ≤ kc) (hk2 : ms ≤ ks) (hcat : (rest.map fun v => v.category).sum ≤ 8) (hd : decode M.2.1 pc = .ok (.invokevirtual idx, 3))
    (hm : GM E d' y M' mc ms [.ref b, x1, x2, x3, x4, x5] w im (g_k E d M (pc + 3) lv rest (kc - mc) (ks - ms) Q)) : G E d M (pc) (lv) (x5 :: x4 :: x3 :: x2 :: x1 :: .ref b :: rest) (w) (im) (kc) (ks) Q := by
  intro p e R s m args below meth c H locs ls cells slots MC MS dd hdd hf hR hl hP hS hc hs
  have hm9 := hm (dd - 1) (by omega)
  obtain ⟨-, r', hr', cellB, g1, g2, g3, -⟩ := hP.get hb
  have hr : r' = (g_C ci, g_T ci, g_n ci) := Option.some.inj (hr'.symm.trans (g_clat hci))
  have hKn := (hf.2.2.2.2.2.2.2.2.2.1).1 ci _ (g_clat hci)
  have hcb := g_callB (mc := mc) (ms := ms) hf hR hM (Nat.le_trans hd' hdd) h0 (hf.2.2.2.2.1 _ hlk)
  exact g_after hx hdd hf hR hl hS hc hs hk1 hk2 (vx_runV (C := y.cls) (As := [x1, x2, x3, x4, x5]) (rest := rest) ⟨hf.1, hf.2.1, hf.2.2.1, hf.2.2.2.1, hf.2.2.2.2.1⟩ hm9 ⟨hcb, hf.2.2.2.2.1 _ h1.1, hf.2.2.2.2.1 _ h1.2⟩ ⟨g_PcBlind, ⟨cellB, g1, by rw [g3]; rfl, by rw [g2, hcl]; exact hKn.2.1⟩, g_pre hf hP hS _⟩ rfl rfl hl.1 rfl (lv_room hcat) hd ⟨by have := hR.2.2.1; omega, by have := hR.2.2.2; omega⟩)
theorem g_callV6 {d' idx mc ms b : Nat} {y : MethodName} {M' : gM} {rest : List Value} {x1 x2 x3 x4 x5 x6 : Value} (hx : M.2.2.2.2.1 = []) (hM : M'.2.2.2.2.1 = []) (h0 : g_me y M' 6) (hlk : Cond.methodLink M.1 idx y ∈ g_all) (h1 : Cond.instanceMethod y ∈ g_all ∧ Cond.selects y.cls y y ∈ g_all) (ci : Nat) {fs : List Value} (hci : ci < 10) (hcl : y.cls = g_C ci) (hb : g_cell E w im b (.inr (ci, fs))) (hd' : d' + 1 ≤ d) (hk1 : mc ≤ kc) (hk2 : ms ≤ ks) (hcat : (rest.map fun v => v.category).sum ≤ 8) (hd : decode M.2.1 pc = .ok (.invokevirtual idx, 3))
    (hm : GM E d' y M' mc ms [.ref b, x1, x2, x3, x4, x5, x6] w im (g_k E d M (pc + 3) lv rest (kc - mc) (ks - ms) Q)) : G E d M (pc) (lv) (x6 :: x5 :: x4 :: x3 :: x2 :: x1 :: .ref b :: rest) (w) (im) (kc) (ks) Q := by
  intro p e R s m args below meth c H locs ls cells slots MC MS dd hdd hf hR hl hP hS hc hs
  have hm9 := hm (dd - 1) (by omega)
  obtain ⟨-, r', hr', cellB, g1, g2, g3, -⟩ := hP.get hb
  have hr : r' = (g_C ci, g_T ci, g_n ci) := Option.some.inj (hr'.symm.trans (g_clat hci))
  have hKn := (hf.2.2.2.2.2.2.2.2.2.1).1 ci _ (g_clat hci)
  have hcb := g_callB (mc := mc) (ms := ms) hf hR hM (Nat.le_trans hd' hdd) h0 (hf.2.2.2.2.1 _ hlk)
  exact g_after hx hdd hf hR hl hS hc hs hk1 hk2 (vx_runV (C := y.cls) (As := [x1, x2, x3, x4, x5, x6]) (rest := rest) ⟨hf.1, hf.2.1, hf.2.2.1, hf.2.2.2.1, hf.2.2.2.2.1⟩ hm9 ⟨hcb, hf.2.2.2.2.1 _ h1.1, hf.2.2.2.2.1 _ h1.2⟩ ⟨g_PcBlind, ⟨cellB, g1, by rw [g3]; rfl, by rw [g2, hcl]; exact hKn.2.1⟩, g_pre hf hP hS _⟩ rfl rfl hl.1 rfl (lv_room hcat) hd ⟨by have := hR.2.2.1; omega, by have := hR.2.2.2; omega⟩)
theorem g_callS1 {d' idx mc ms : Nat} {y : MethodName} {M' : gM} {rest : List Value} {x1 : Value} (hx : M.2.2.2.2.1 = []) (hM : M'.2.2.2.2.1 = []) (h0 : g_me y M' 1) (hlk : Cond.methodLink M.1 idx y ∈ g_all) (h1 : Cond.static y ∈ g_all) (hd' : d' + 1 ≤ d) (hk1 : mc ≤ kc) (hk2 : ms ≤ ks) (hcat : (rest.map fun v => v.category).sum ≤ 8) (hd : decode M.2.1 pc = .ok (.invokestatic idx, 3))
    (hm : GM E d' y M' mc ms [x1] w im (g_k E d M (pc + 3) lv rest (kc - mc) (ks - ms) Q)) : G E d M (pc) (lv) (x1 :: rest) (w) (im) (kc) (ks) Q := by
  intro p e R s m args below meth c H locs ls cells slots MC MS dd hdd hf hR hl hP hS hc hs
  have hm9 := hm (dd - 1) (by omega)
  have hcb := g_callB (mc := mc) (ms := ms) hf hR hM (Nat.le_trans hd' hdd) h0 (hf.2.2.2.2.1 _ hlk)
  exact g_after hx hdd hf hR hl hS hc hs hk1 hk2 (vx_runS (As := [x1]) (rest := rest) ⟨hf.1, hf.2.1, hf.2.2.1, hf.2.2.2.1, hf.2.2.2.2.1⟩ hm9 ⟨hcb, hf.2.2.2.2.1 _ h1⟩ ⟨g_PcBlind, g_pre hf hP hS _⟩ rfl rfl hl.1 rfl (lv_room hcat) hd ⟨by have := hR.2.2.1; omega, by have := hR.2.2.2; omega⟩)
theorem g_callS2 {d' idx mc ms : Nat} {y : MethodName} {M' : gM} {rest : List Value} {x1 x2 : Value} (hx : M.2.2.2.2.1 = []) (hM : M'.2.2.2.2.1 = []) (h0 : g_me y M' 2) (hlk : Cond.methodLink M.1 idx y ∈ g_all) (h1 : Cond.static y ∈ g_all) (hd' : d' + 1 ≤ d) (hk1 : mc ≤ kc) (hk2 : ms ≤ ks) (hcat : (rest.map fun v => v.category).sum ≤ 8) (hd : decode M.2.1 pc = .ok (.invokestatic idx, 3))
    (hm : GM E d' y M' mc ms [x1, x2] w im (g_k E d M (pc + 3) lv rest (kc - mc) (ks - ms) Q)) : G E d M (pc) (lv) (x2 :: x1 :: rest) (w) (im) (kc) (ks) Q := by
  intro p e R s m args below meth c H locs ls cells slots MC MS dd hdd hf hR hl hP hS hc hs
  have hm9 := hm (dd - 1) (by omega)
  have hcb := g_callB (mc := mc) (ms := ms) hf hR hM (Nat.le_trans hd' hdd) h0 (hf.2.2.2.2.1 _ hlk)
  exact g_after hx hdd hf hR hl hS hc hs hk1 hk2 (vx_runS (As := [x1, x2]) (rest := rest) ⟨hf.1, hf.2.1, hf.2.2.1, hf.2.2.2.1, hf.2.2.2.2.1⟩ hm9 ⟨hcb, hf.2.2.2.2.1 _ h1⟩ ⟨g_PcBlind, g_pre hf hP hS _⟩ rfl rfl hl.1 rfl (lv_room hcat) hd ⟨by have := hR.2.2.1; omega, by have := hR.2.2.2; omega⟩)
theorem g_callS3 {d' idx mc ms : Nat} {y : MethodName} {M' : gM} {rest : List Value} {x1 x2 x3 : Value} (hx : M.2.2.2.2.1 = []) (hM : M'.2.2.2.2.1 = []) (h0 : g_me y M' 3) (hlk : Cond.methodLink M.1 idx y ∈ g_all) (h1 : Cond.static y ∈ g_all) (hd' : d' + 1 ≤ d) (hk1 : mc ≤ kc) (hk2 : ms ≤ ks) (hcat : (rest.map fun v => v.category).sum ≤ 8) (hd : decode M.2.1 pc = .ok (.invokestatic idx, 3))
    (hm : GM E d' y M' mc ms [x1, x2, x3] w im (g_k E d M (pc + 3) lv rest (kc - mc) (ks - ms) Q)) : G E d M (pc) (lv) (x3 :: x2 :: x1 :: rest) (w) (im) (kc) (ks) Q := by
  intro p e R s m args below meth c H locs ls cells slots MC MS dd hdd hf hR hl hP hS hc hs
  have hm9 := hm (dd - 1) (by omega)
  have hcb := g_callB (mc := mc) (ms := ms) hf hR hM (Nat.le_trans hd' hdd) h0 (hf.2.2.2.2.1 _ hlk)
  exact g_after hx hdd hf hR hl hS hc hs hk1 hk2 (vx_runS (As := [x1, x2, x3]) (rest := rest) ⟨hf.1, hf.2.1, hf.2.2.1, hf.2.2.2.1, hf.2.2.2.2.1⟩ hm9 ⟨hcb, hf.2.2.2.2.1 _ h1⟩ ⟨g_PcBlind, g_pre hf hP hS _⟩ rfl rfl hl.1 rfl (lv_room hcat) hd ⟨by have := hR.2.2.1; omega, by have := hR.2.2.2; omega⟩)
theorem g_callS4 {d' idx mc ms : Nat} {y : MethodName} {M' : gM} {rest : List Value} {x1 x2 x3 x4 : Value} (hx : M.2.2.2.2.1 = []) (hM : M'.2.2.2.2.1 = []) (h0 : g_me y M' 4) (hlk : Cond.methodLink M.1 idx y ∈ g_all) (h1 : Cond.static y ∈ g_all) (hd' : d' + 1 ≤ d) (hk1 : mc ≤ kc) (hk2 : ms ≤ ks) (hcat : (rest.map fun v => v.category).sum ≤ 8) (hd : decode M.2.1 pc = .ok (.invokestatic idx, 3))
    (hm : GM E d' y M' mc ms [x1, x2, x3, x4] w im (g_k E d M (pc + 3) lv rest (kc - mc) (ks - ms) Q)) : G E d M (pc) (lv) (x4 :: x3 :: x2 :: x1 :: rest) (w) (im) (kc) (ks) Q := by
  intro p e R s m args below meth c H locs ls cells slots MC MS dd hdd hf hR hl hP hS hc hs
  have hm9 := hm (dd - 1) (by omega)
  have hcb := g_callB (mc := mc) (ms := ms) hf hR hM (Nat.le_trans hd' hdd) h0 (hf.2.2.2.2.1 _ hlk)
  exact g_after hx hdd hf hR hl hS hc hs hk1 hk2 (vx_runS (As := [x1, x2, x3, x4]) (rest := rest) ⟨hf.1, hf.2.1, hf.2.2.1, hf.2.2.2.1, hf.2.2.2.2.1⟩ hm9 ⟨hcb, hf.2.2.2.2.1 _ h1⟩ ⟨g_PcBlind, g_pre hf hP hS _⟩ rfl rfl hl.1 rfl (lv_room hcat) hd ⟨by have := hR.2.2.1; omega, by have := hR.2.2.2; omega⟩)
theorem g_callI0 {d' idx mc ms b : Nat} {y : MethodName} {M' : gM} {rest : List Value} (hx : M.2.2.2.2.1 = []) (hM : M'.2.2.2.2.1 = []) (h0 : g_me y M' 0) (hlk : Cond.methodLink M.1 idx y ∈ g_all) (h1 : Cond.instanceMethod y ∈ g_all ∧ y.name = "<init>") (hret : M'.2.2.2.1 = none) (hd' : d' + 1 ≤ d) (hk1 : mc ≤ kc) (hk2 : ms ≤ ks) (hcat : (rest.map fun v => v.category).sum ≤ 8) (hd : decode M.2.1 pc = .ok (.invokespecial idx, 3))
    (hm : GM E d' y M' mc ms [.ref b] w im (g_k E d M (pc + 3) lv rest (kc - mc) (ks - ms) Q)) : G E d M (pc) (lv) (.ref b :: rest) (w) (im) (kc) (ks) Q := by
  intro p e R s m args below meth c H locs ls cells slots MC MS dd hdd hf hR hl hP hS hc hs
  have hm9 := hm (dd - 1) (by omega)
  have hcb := g_callB (mc := mc) (ms := ms) hf hR hM (Nat.le_trans hd' hdd) h0 (hf.2.2.2.2.1 _ hlk)
  rw [hret] at hcb
  exact g_after hx hdd hf hR hl hS hc hs hk1 hk2 (vx_runI (As := []) (rest := rest) ⟨hf.1, hf.2.1, hf.2.2.1, hf.2.2.2.1, hf.2.2.2.2.1⟩ hm9 ⟨hcb, h1.2, hf.2.2.2.2.1 _ h1.1⟩ ⟨g_PcBlind, g_pre hf hP hS _⟩ rfl rfl hl.1 rfl (lv_room hcat) hd ⟨by have := hR.2.2.1; omega, by have := hR.2.2.2; omega⟩)
theorem g_callI3 {d' idx mc ms b : Nat} {y : MethodName} {M' : gM} {rest : List Value} {x1 x2 x3 : Value} (hx : M.2.2.2.2.1 = []) (hM : M'.2.2.2.2.1 = []) (h0 : g_me y M' 3) (hlk : Cond.methodLink M.1 idx y ∈ g_all) (h1 : Cond.instanceMethod y ∈ g_all ∧ y.name = "<init>") (hret : M'.2.2.2.1 = none) (hd' : d' + 1 ≤ d) (hk1 : mc ≤ kc) (hk2 : ms ≤ ks) (hcat : (rest.map fun v => v.category).sum ≤ 8) (hd : decode M.2.1 pc = .ok (.invokespecial idx, 3))
    (hm : GM E d' y M' mc ms [.ref b, x1, x2, x3] w im (g_k E d M (pc + 3) lv rest (kc - mc) (ks - ms) Q)) : G E d M (pc) (lv) (x3 :: x2 :: x1 :: .ref b :: rest) (w) (im) (kc) (ks) Q := by
  intro p e R s m args below meth c H locs ls cells slots MC MS dd hdd hf hR hl hP hS hc hs
  have hm9 := hm (dd - 1) (by omega)
  have hcb := g_callB (mc := mc) (ms := ms) hf hR hM (Nat.le_trans hd' hdd) h0 (hf.2.2.2.2.1 _ hlk)
  rw [hret] at hcb
  exact g_after hx hdd hf hR hl hS hc hs hk1 hk2 (vx_runI (As := [x1, x2, x3]) (rest := rest) ⟨hf.1, hf.2.1, hf.2.2.1, hf.2.2.2.1, hf.2.2.2.2.1⟩ hm9 ⟨hcb, h1.2, hf.2.2.2.2.1 _ h1.1⟩ ⟨g_PcBlind, g_pre hf hP hS _⟩ rfl rfl hl.1 rfl (lv_room hcat) hd ⟨by have := hR.2.2.1; omega, by have := hR.2.2.2; omega⟩)
theorem g_callI6 {d' idx mc ms b : Nat} {y : MethodName} {M' : gM} {rest : List Value} {x1 x2 x3 x4 x5 x6 : Value} (hx : M.2.2.2.2.1 = []) (hM : M'.2.2.2.2.1 = []) (h0 : g_me y M' 6) (hlk : Cond.methodLink M.1 idx y ∈ g_all) (h1 : Cond.instanceMethod y ∈ g_all ∧ y.name = "<init>") (hret : M'.2.2.2.1 = none) (hd' : d' + 1 ≤ d) (hk1 : mc ≤ kc) (hk2 : ms ≤ ks) (hcat : (rest.map fun v => v.category).sum ≤ 8) (hd : decode M.2.1 pc = .ok (.invokespecial idx, 3))
    (hm : GM E d' y M' mc ms [.ref b, x1, x2, x3, x4, x5, x6] w im (g_k E d M (pc + 3) lv rest (kc - mc) (ks - ms) Q)) : G E d M (pc) (lv) (x6 :: x5 :: x4 :: x3 :: x2 :: x1 :: .ref b :: rest) (w) (im) (kc) (ks) Q := by
  intro p e R s m args below meth c H locs ls cells slots MC MS dd hdd hf hR hl hP hS hc hs
  have hm9 := hm (dd - 1) (by omega)
  have hcb := g_callB (mc := mc) (ms := ms) hf hR hM (Nat.le_trans hd' hdd) h0 (hf.2.2.2.2.1 _ hlk)
  rw [hret] at hcb
  exact g_after hx hdd hf hR hl hS hc hs hk1 hk2 (vx_runI (As := [x1, x2, x3, x4, x5, x6]) (rest := rest) ⟨hf.1, hf.2.1, hf.2.2.1, hf.2.2.2.1, hf.2.2.2.2.1⟩ hm9 ⟨hcb, h1.2, hf.2.2.2.2.1 _ h1.1⟩ ⟨g_PcBlind, g_pre hf hP hS _⟩ rfl rfl hl.1 rfl (lv_room hcat) hd ⟨by have := hR.2.2.1; omega, by have := hR.2.2.2; omega⟩)
theorem g_callI7 {d' idx mc ms b : Nat} {y : MethodName} {M' : gM} {rest : List Value} {x1 x2 x3 x4 x5 x6 x7 : Value} (hx : M.2.2.2.2.1 = []) (hM : M'.2.2.2.2.1 = []) (h0 : g_me y M' 7) (hlk : Cond.methodLink M.1 idx y ∈ g_all) (h1 : Cond.instanceMethod y ∈ g_all ∧ y.name = "<init>") (hret : M'.2.2.2.1 = none) (hd' : d' + 1 ≤ d) (hk1 : mc ≤ kc) (hk2 : ms ≤ ks) (hcat : (rest.map fun v => v.category).sum ≤ 8) (hd : decode M.2.1 pc = .ok (.invokespecial idx, 3))
    (hm : GM E d' y M' mc ms [.ref b, x1, x2, x3, x4, x5, x6, x7] w im (g_k E d M (pc + 3) lv rest (kc - mc) (ks - ms) Q)) : G E d M (pc) (lv) (x7 :: x6 :: x5 :: x4 :: x3 :: x2 :: x1 :: .ref b :: rest) (w) (im) (kc) (ks) Q := by
  intro p e R s m args below meth c H locs ls cells slots MC MS dd hdd hf hR hl hP hS hc hs
  have hm9 := hm (dd - 1) (by omega)
  have hcb := g_callB (mc := mc) (ms := ms) hf hR hM (Nat.le_trans hd' hdd) h0 (hf.2.2.2.2.1 _ hlk)
  rw [hret] at hcb
  exact g_after hx hdd hf hR hl hS hc hs hk1 hk2 (vx_runI (As := [x1, x2, x3, x4, x5, x6, x7]) (rest := rest) ⟨hf.1, hf.2.1, hf.2.2.1, hf.2.2.2.1, hf.2.2.2.2.1⟩ hm9 ⟨hcb, h1.2, hf.2.2.2.2.1 _ h1.1⟩ ⟨g_PcBlind, g_pre hf hP hS _⟩ rfl rfl hl.1 rfl (lv_room hcat) hd ⟨by have := hR.2.2.1; omega, by have := hR.2.2.2; omega⟩)
theorem g_callSN3 {d' idx mc ms : Nat} {y : MethodName} {M' : gM} {rest : List Value} {x1 x2 x3 : Value} (hx : M.2.2.2.2.1 = []) (hM : M'.2.2.2.2.1 = []) (h0 : g_me y M' 3) {host : String} (hlk : Cond.methodLinkNest M.1 idx y host ∈ g_bads) (h1 : Cond.static y ∈ g_all) (hd' : d' + 1 ≤ d) (hk1 : mc ≤ kc) (hk2 : ms ≤ ks) (hcat : (rest.map fun v => v.category).sum ≤ 8) (hd : decode M.2.1 pc = .ok (.invokestatic idx, 3))
    (hm : GM E d' y M' mc ms [x1, x2, x3] w im (g_k E d M (pc + 3) lv rest (kc - mc) (ks - ms) Q)) : G E d M (pc) (lv) (x3 :: x2 :: x1 :: rest) (w) (im) (kc) (ks) Q := by
  intro p e R s m args below meth c H locs ls cells slots MC MS dd hdd hf hR hl hP hS hc hs
  have hm9 := hm (dd - 1) (by omega)
  obtain ⟨n1, n2, n3, n4, n5, n6, -⟩ := h0
  have hts := hf.2.2.2.2.1
  have hG : GoodIn g_all (g_w y M' :: g_all) := fun x hx => (List.mem_cons.mp hx).elim (fun e => e ▸ g_good _ n4) (g_good x)
  have hw : g_w y M' = .code y M'.2.1 M'.2.2.1 M'.2.2.2.1 := by simp [g_w, hM]
  have r1 := hR.1
  have r2 := hR.2.1
  have hcn : va_CN R s args M.1 idx y host M'.2.1 M'.2.2.1 M'.2.2.2.1 (g_w y M' :: g_all) (g_rm (dd - 1) mc ms) mc ms 3 := ⟨⟨rfl, rfl, by rw [g_rmF]; omega, g_locs n6 (by omega) r2, pay_in hts hG, by rw [hw]; exact List.mem_cons_self⟩, hw ▸ hts _ n4, hts _ n5, ⟨n1, n2⟩, fun sig h => by rw [h] at n3; exact (Option.some.inj n3).symm, va_Nw.use rfl (hf.2.2.2.2.2.2.2.2.2.2.2.2.2.2.2.1 _ hlk)⟩
  exact g_after hx hdd hf hR hl hS hc hs hk1 hk2 (vx_runSN (As := [x1, x2, x3]) (rest := rest) ⟨hf.1, hf.2.1, hf.2.2.1, hf.2.2.2.1, hf.2.2.2.2.1⟩ hm9 ⟨hcn, hts _ h1, trivial⟩ ⟨g_PcBlind, g_pre hf hP hS _⟩ rfl rfl hl.1 rfl (lv_room hcat) hd ⟨by have := hR.2.2.1; omega, by have := hR.2.2.2; omega⟩)
theorem g_callIN0 {d' idx mc ms b : Nat} {y : MethodName} {M' : gM} {rest : List Value} (hx : M.2.2.2.2.1 = []) (hM : M'.2.2.2.2.1 = []) (h0 : g_me y M' 0) {host : String} (hlk : Cond.methodLinkNest M.1 idx y host ∈ g_bads) (h1 : Cond.instanceMethod y ∈ g_all ∧ y.name = "<init>") (hret : M'.2.2.2.1 = none) (hd' : d' + 1 ≤ d) (hk1 : mc ≤ kc) (hk2 : ms ≤ ks) (hcat : (rest.map fun v => v.category).sum ≤ 8) (hd : decode M.2.1 pc = .ok (.invokespecial idx, 3))
    (hm : GM E d' y M' mc ms [.ref b] w im (g_k E d M (pc + 3) lv rest (kc - mc) (ks - ms) Q)) : G E d M (pc) (lv) (.ref b :: rest) (w) (im) (kc) (ks) Q := by
  intro p e R s m args below meth c H locs ls cells slots MC MS dd hdd hf hR hl hP hS hc hs
  have hm9 := hm (dd - 1) (by omega)
  obtain ⟨n1, n2, n3, n4, n5, n6, -⟩ := h0
  have hts := hf.2.2.2.2.1
  have hG : GoodIn g_all (g_w y M' :: g_all) := fun x hx => (List.mem_cons.mp hx).elim (fun e => e ▸ g_good _ n4) (g_good x)
  have hw : g_w y M' = .code y M'.2.1 M'.2.2.1 M'.2.2.2.1 := by simp [g_w, hM]
  have r1 := hR.1
  have r2 := hR.2.1
  have hcn : va_CN R s args M.1 idx y host M'.2.1 M'.2.2.1 M'.2.2.2.1 (g_w y M' :: g_all) (g_rm (dd - 1) mc ms) mc ms 0 := ⟨⟨rfl, rfl, by rw [g_rmF]; omega, g_locs n6 (by omega) r2, pay_in hts hG, by rw [hw]; exact List.mem_cons_self⟩, hw ▸ hts _ n4, hts _ n5, ⟨n1, n2⟩, fun sig h => by rw [h] at n3; exact (Option.some.inj n3).symm, va_Nw.use rfl (hf.2.2.2.2.2.2.2.2.2.2.2.2.2.2.2.1 _ hlk)⟩
  rw [hret] at hcn
  exact g_after hx hdd hf hR hl hS hc hs hk1 hk2 (vx_runIN (As := []) (rest := rest) ⟨hf.1, hf.2.1, hf.2.2.1, hf.2.2.2.1, hf.2.2.2.2.1⟩ hm9 ⟨hcn, h1.2, hts _ h1.1⟩ ⟨g_PcBlind, g_pre hf hP hS _⟩ rfl rfl hl.1 rfl (lv_room hcat) hd ⟨by have := hR.2.2.1; omega, by have := hR.2.2.2; omega⟩)
theorem g_callW2 {d' idx mc ms : Nat} {y : MethodName} {M' : gM} {rest : List Value} {x1 x2 : Value} (hx : M.2.2.2.2.1 = []) (hM : M'.2.2.2.2.1.isEmpty = false) (h0 : g_me y M' 2) (hlk : Cond.methodLink M.1 idx y ∈ g_all) (h1 : Cond.static y ∈ g_all) (hd' : d' + 1 ≤ d) (hk1 : mc ≤ kc) (hk2 : ms ≤ ks) (hcat : (rest.map fun v => v.category).sum ≤ 8) (hd : decode M.2.1 pc = .ok (.invokestatic idx, 3))
    (hm : GM E d' y M' mc ms [x1, x2] w im (g_k E d M (pc + 3) lv rest (kc - mc) (ks - ms) Q)) : G E d M (pc) (lv) (x2 :: x1 :: rest) (w) (im) (kc) (ks) Q := by
  intro p e R s m args below meth c H locs ls cells slots MC MS dd hdd hf hR hl hP hS hc hs
  have hm9 := hm (dd - 1) (by omega)
  obtain ⟨n1, n2, n3, n4, n5, n6, -⟩ := h0
  have hts := hf.2.2.2.2.1
  have hG : GoodIn g_all (g_w y M' :: g_all) := fun x hx => (List.mem_cons.mp hx).elim (fun e => e ▸ g_good _ n4) (g_good x)
  have hw : g_w y M' = .codeWith y M'.2.1 M'.2.2.1 M'.2.2.2.1 M'.2.2.2.2.1 := by simp [g_w, hM]
  have r1 := hR.1
  have r2 := hR.2.1
  have hcs : vx_CSW R s args M.1 idx y M'.2.1 M'.2.2.1 M'.2.2.2.1 M'.2.2.2.2.1 (g_w y M' :: g_all) (g_rm (dd - 1) mc ms) mc ms 2 := ⟨⟨rfl, rfl, by rw [g_rmF]; omega, g_locs n6 (by omega) r2, pay_in hts hG, by rw [hw]; exact List.mem_cons_self⟩, hw ▸ hts _ n4, hts _ n5, ⟨n1, n2⟩, fun sig h => by rw [h] at n3; exact (Option.some.inj n3).symm, hts _ hlk, hts _ h1⟩
  exact g_after hx hdd hf hR hl hS hc hs hk1 hk2 (vx_runSX (As := [x1, x2]) (rest := rest) ⟨hf.1, hf.2.1, hf.2.2.1, hf.2.2.2.1, hf.2.2.2.2.1⟩ hm9 hcs ⟨g_PcBlind, g_pre hf hP hS _⟩ rfl rfl hl.1 rfl (lv_room hcat) hd ⟨by have := hR.2.2.1; omega, by have := hR.2.2.2; omega⟩)
theorem g_callW3 {d' idx mc ms : Nat} {y : MethodName} {M' : gM} {rest : List Value} {x1 x2 x3 : Value} (hx : M.2.2.2.2.1 = []) (hM : M'.2.2.2.2.1.isEmpty = false) (h0 : g_me y M' 3) (hlk : Cond.methodLink M.1 idx y ∈ g_all) (h1 : Cond.static y ∈ g_all) (hd' : d' + 1 ≤ d) (hk1 : mc ≤ kc) (hk2 : ms ≤ ks) (hcat : (rest.map fun v => v.category).sum ≤ 8) (hd : decode M.2.1 pc = .ok (.invokestatic idx, 3))
    (hm : GM E d' y M' mc ms [x1, x2, x3] w im (g_k E d M (pc + 3) lv rest (kc - mc) (ks - ms) Q)) : G E d M (pc) (lv) (x3 :: x2 :: x1 :: rest) (w) (im) (kc) (ks) Q := by
  intro p e R s m args below meth c H locs ls cells slots MC MS dd hdd hf hR hl hP hS hc hs
  have hm9 := hm (dd - 1) (by omega)
  obtain ⟨n1, n2, n3, n4, n5, n6, -⟩ := h0
  have hts := hf.2.2.2.2.1
  have hG : GoodIn g_all (g_w y M' :: g_all) := fun x hx => (List.mem_cons.mp hx).elim (fun e => e ▸ g_good _ n4) (g_good x)
  have hw : g_w y M' = .codeWith y M'.2.1 M'.2.2.1 M'.2.2.2.1 M'.2.2.2.2.1 := by simp [g_w, hM]
  have r1 := hR.1
  have r2 := hR.2.1
  have hcs : vx_CSW R s args M.1 idx y M'.2.1 M'.2.2.1 M'.2.2.2.1 M'.2.2.2.2.1 (g_w y M' :: g_all) (g_rm (dd - 1) mc ms) mc ms 3 := ⟨⟨rfl, rfl, by rw [g_rmF]; omega, g_locs n6 (by omega) r2, pay_in hts hG, by rw [hw]; exact List.mem_cons_self⟩, hw ▸ hts _ n4, hts _ n5, ⟨n1, n2⟩, fun sig h => by rw [h] at n3; exact (Option.some.inj n3).symm, hts _ hlk, hts _ h1⟩
  exact g_after hx hdd hf hR hl hS hc hs hk1 hk2 (vx_runSX (As := [x1, x2, x3]) (rest := rest) ⟨hf.1, hf.2.1, hf.2.2.1, hf.2.2.2.1, hf.2.2.2.2.1⟩ hm9 hcs ⟨g_PcBlind, g_pre hf hP hS _⟩ rfl rfl hl.1 rfl (lv_room hcat) hd ⟨by have := hR.2.2.1; omega, by have := hR.2.2.2; omega⟩)
theorem g_callW4 {d' idx mc ms : Nat} {y : MethodName} {M' : gM} {rest : List Value} {x1 x2 x3 x4 : Value} (hx : M.2.2.2.2.1 = []) (hM : M'.2.2.2.2.1.isEmpty = false) (h0 : g_me y M' 4) (hlk : Cond.methodLink M.1 idx y ∈ g_all) (h1 : Cond.static y ∈ g_all) (hd' : d' + 1 ≤ d) (hk1 : mc ≤ kc) (hk2 : ms ≤ ks) (hcat : (rest.map fun v => v.category).sum ≤ 8) (hd : decode M.2.1 pc = .ok (.invokestatic idx, 3))
    (hm : GM E d' y M' mc ms [x1, x2, x3, x4] w im (g_k E d M (pc + 3) lv rest (kc - mc) (ks - ms) Q)) : G E d M (pc) (lv) (x4 :: x3 :: x2 :: x1 :: rest) (w) (im) (kc) (ks) Q := by
  intro p e R s m args below meth c H locs ls cells slots MC MS dd hdd hf hR hl hP hS hc hs
  have hm9 := hm (dd - 1) (by omega)
  obtain ⟨n1, n2, n3, n4, n5, n6, -⟩ := h0
  have hts := hf.2.2.2.2.1
  have hG : GoodIn g_all (g_w y M' :: g_all) := fun x hx => (List.mem_cons.mp hx).elim (fun e => e ▸ g_good _ n4) (g_good x)
  have hw : g_w y M' = .codeWith y M'.2.1 M'.2.2.1 M'.2.2.2.1 M'.2.2.2.2.1 := by simp [g_w, hM]
  have r1 := hR.1
  have r2 := hR.2.1
  have hcs : vx_CSW R s args M.1 idx y M'.2.1 M'.2.2.1 M'.2.2.2.1 M'.2.2.2.2.1 (g_w y M' :: g_all) (g_rm (dd - 1) mc ms) mc ms 4 := ⟨⟨rfl, rfl, by rw [g_rmF]; omega, g_locs n6 (by omega) r2, pay_in hts hG, by rw [hw]; exact List.mem_cons_self⟩, hw ▸ hts _ n4, hts _ n5, ⟨n1, n2⟩, fun sig h => by rw [h] at n3; exact (Option.some.inj n3).symm, hts _ hlk, hts _ h1⟩
  exact g_after hx hdd hf hR hl hS hc hs hk1 hk2 (vx_runSX (As := [x1, x2, x3, x4]) (rest := rest) ⟨hf.1, hf.2.1, hf.2.2.1, hf.2.2.2.1, hf.2.2.2.2.1⟩ hm9 hcs ⟨g_PcBlind, g_pre hf hP hS _⟩ rfl rfl hl.1 rfl (lv_room hcat) hd ⟨by have := hR.2.2.1; omega, by have := hR.2.2.2; omega⟩)
theorem g_callW5 {d' idx mc ms : Nat} {y : MethodName} {M' : gM} {rest : List Value} {x1 x2 x3 x4 x5 : Value} (hx : M.2.2.2.2.1 = []) (hM : M'.2.2.2.2.1.isEmpty = false) (h0 : g_me y M' 5) (hlk : Cond.methodLink M.1 idx y ∈ g_all) (h1 : Cond.static y ∈ g_all) (hd' : d' + 1 ≤ d) (hk1 : mc ≤ kc) (hk2 : ms ≤ ks) (hcat : (rest.map fun v => v.category).sum ≤ 8) (hd : decode M.2.1 pc = .ok (.invokestatic idx, 3))
    (hm : GM E d' y M' mc ms [x1, x2, x3, x4, x5] w im (g_k E d M (pc + 3) lv rest (kc - mc) (ks - ms) Q)) : G E d M (pc) (lv) (x5 :: x4 :: x3 :: x2 :: x1 :: rest) (w) (im) (kc) (ks) Q := by
  intro p e R s m args below meth c H locs ls cells slots MC MS dd hdd hf hR hl hP hS hc hs
  have hm9 := hm (dd - 1) (by omega)
  obtain ⟨n1, n2, n3, n4, n5, n6, -⟩ := h0
  have hts := hf.2.2.2.2.1
  have hG : GoodIn g_all (g_w y M' :: g_all) := fun x hx => (List.mem_cons.mp hx).elim (fun e => e ▸ g_good _ n4) (g_good x)
  have hw : g_w y M' = .codeWith y M'.2.1 M'.2.2.1 M'.2.2.2.1 M'.2.2.2.2.1 := by simp [g_w, hM]
  have r1 := hR.1
  have r2 := hR.2.1
  have hcs : vx_CSW R s args M.1 idx y M'.2.1 M'.2.2.1 M'.2.2.2.1 M'.2.2.2.2.1 (g_w y M' :: g_all) (g_rm (dd - 1) mc ms) mc ms 5 := ⟨⟨rfl, rfl, by rw [g_rmF]; omega, g_locs n6 (by omega) r2, pay_in hts hG, by rw [hw]; exact List.mem_cons_self⟩, hw ▸ hts _ n4, hts _ n5, ⟨n1, n2⟩, fun sig h => by rw [h] at n3; exact (Option.some.inj n3).symm, hts _ hlk, hts _ h1⟩
  exact g_after hx hdd hf hR hl hS hc hs hk1 hk2 (vx_runSX (As := [x1, x2, x3, x4, x5]) (rest := rest) ⟨hf.1, hf.2.1, hf.2.2.1, hf.2.2.2.1, hf.2.2.2.2.1⟩ hm9 hcs ⟨g_PcBlind, g_pre hf hP hS _⟩ rfl rfl hl.1 rfl (lv_room hcat) hd ⟨by have := hR.2.2.1; omega, by have := hR.2.2.2; omega⟩)
theorem g_callW8 {d' idx mc ms : Nat} {y : MethodName} {M' : gM} {rest : List Value} {x1 x2 x3 x4 x5 x6 x7 x8 : Value} (hx : M.2.2.2.2.1 = []) (hM : M'.2.2.2.2.1.isEmpty = false) (h0 : g_me y M' 8) (hlk : Cond.methodLink M.1 idx y ∈ g_all) (h1 : Cond.static y ∈ g_all) (hd' : d' + 1 ≤ d) (hk1 : mc ≤ kc) (hk2 : ms ≤ ks) (hcat : (rest.map fun v => v.category).sum ≤ 8) (hd : decode M.2.1 pc = .ok (.invokestatic idx, 3))
    (hm : GM E d' y M' mc ms [x1, x2, x3, x4, x5, x6, x7, x8] w im (g_k E d M (pc + 3) lv rest (kc - mc) (ks - ms) Q)) : G E d M (pc) (lv) (x8 :: x7 :: x6 :: x5 :: x4 :: x3 :: x2 :: x1 :: rest) (w) (im) (kc) (ks) Q := by
  intro p e R s m args below meth c H locs ls cells slots MC MS dd hdd hf hR hl hP hS hc hs
  have hm9 := hm (dd - 1) (by omega)
  obtain ⟨n1, n2, n3, n4, n5, n6, -⟩ := h0
  have hts := hf.2.2.2.2.1
  have hG : GoodIn g_all (g_w y M' :: g_all) := fun x hx => (List.mem_cons.mp hx).elim (fun e => e ▸ g_good _ n4) (g_good x)
  have hw : g_w y M' = .codeWith y M'.2.1 M'.2.2.1 M'.2.2.2.1 M'.2.2.2.2.1 := by simp [g_w, hM]
  have r1 := hR.1
  have r2 := hR.2.1
  have hcs : vx_CSW R s args M.1 idx y M'.2.1 M'.2.2.1 M'.2.2.2.1 M'.2.2.2.2.1 (g_w y M' :: g_all) (g_rm (dd - 1) mc ms) mc ms 8 := ⟨⟨rfl, rfl, by rw [g_rmF]; omega, g_locs n6 (by omega) r2, pay_in hts hG, by rw [hw]; exact List.mem_cons_self⟩, hw ▸ hts _ n4, hts _ n5, ⟨n1, n2⟩, fun sig h => by rw [h] at n3; exact (Option.some.inj n3).symm, hts _ hlk, hts _ h1⟩
  exact g_after hx hdd hf hR hl hS hc hs hk1 hk2 (vx_runSX (As := [x1, x2, x3, x4, x5, x6, x7, x8]) (rest := rest) ⟨hf.1, hf.2.1, hf.2.2.1, hf.2.2.2.1, hf.2.2.2.2.1⟩ hm9 hcs ⟨g_PcBlind, g_pre hf hP hS _⟩ rfl rfl hl.1 rfl (lv_room hcat) hd ⟨by have := hR.2.2.1; omega, by have := hR.2.2.2; omega⟩)
/-- the handler at hpc of the method M takes the class X, thrown at pc -/
def g_hnd (M : gM) (X : String) (pc hpc : Nat) : Prop := ∃ (pre : List ExceptionTableEntry) (x : ExceptionTableEntry) (suf : List ExceptionTableEntry) (nm : String), tableOf M.2.2.2.2.1 = pre ++ x :: suf ∧
  (∀ z ∈ pre, covers z pc = false ∨ (z.catchType ≠ 0 ∧ ∃ nm' : String, Cond.classLink M.1 z.catchType nm' ∈ g_all ∧ (X, nm') ∈ g_nc)) ∧ covers x pc = true ∧ x.catchType ≠ 0 ∧ Cond.classLink M.1 x.catchType nm ∈ g_all ∧ Cond.castable X nm ∈ g_bads ∧ x.handlerPc = hpc
/-- behind a call in a frame with handlers: caught at hpc -/
def g_kh (E : gE) (d : Nat) (M : gM) (pc pc0 : Nat) (lv : List (Nat × Value)) (rest : List Value) (kc ks : Nat) (Q : gQ) : gQ := fun o w im => match o with
  | .inl v => G E d M pc lv (v.toList ++ rest) w im kc ks Q
  | .inr X => ∃ hpc, g_hnd M X pc0 hpc ∧ ∀ q : Nat, G E d M hpc lv [.ref q] w im kc ks Q
theorem g_afterH {p : Program} {e : Env} {R : Room} {s : State} {m : MethodId} {args : Array Value} {below : List Frame} {meth : Method} {c : Code} {H : Heap} {locs : List Loc} {ls : Array Slot} {cells slots MC MS dd mc ms : Nat} {st0 rest : List Value} {a : Array Value}
    (hdd : d ≤ dd) (hf : g_fix E M p s m args meth c) (hR : g_room R dd MC MS) (hl : lv_has ls M.2.2.1 lv) (hS : va_S (fun q => gb E ≤ q) s.heap H locs) (hc : cells + kc ≤ MC) (hs : slots + ks ≤ MS) (hk1 : mc ≤ kc) (hk2 : ms ≤ ks)
    (hr : vx_Run p (gl E) e R s m args below meth c H locs cells slots mc ms (F0 m pc ls st0) rest (g_Qc E (g_kh E d M (pc + 3) pc lv rest (kc - mc) (ks - ms) Q) a) (g_XC E (g_kh E d M (pc + 3) pc lv rest (kc - mc) (ks - ms) Q)) (fun q => gb E ≤ q)) :
    W p (gl E) e R s m args below meth c H locs cells slots (vx_MQ below (g_Qc E Q) (g_XC E Q) args s MC MS (fun q => gb E ≤ q)) (F0 m pc ls st0) := by
  intro T hT X
  have key : ∀ (t T' : State) (L : List Loc), T'.heap = t.heap → H.size ≤ t.heap.size → (∀ q : Nat, q < gb E → t.heap[q]? = H[q]?) → (∀ q ∈ L, gb E ≤ q.base) → va_S (fun q => gb E ≤ q) s.heap t.heap (locs ++ L) := fun t T' L _ hz hq hL =>
    ⟨Nat.le_trans hS.1 hz, fun q h1 h2 => (hq q (Nat.lt_of_not_le h2)).trans (hS.2.1 q h1 h2), fun q hq => by
      rcases List.mem_append.mp hq with h | h
      · exact hS.2.2 q h
      · exact hL q h⟩
  rcases hr T hT X with ⟨v, st₀, t, T', L, h0, X', hL, e1, e2, ⟨v2, w2, im2, hv2, hQ, hP2, hz, hq⟩, step⟩ | ⟨q9, st₀, t, T', L, Ex, ce, h0, X', hL, e1, e2, ⟨w2, im2, hQ, hP2, hz, hq⟩, hce, hcv, hcl, step⟩
  · cases hv2
    rw [h0] at hz hq
    obtain ⟨t2, a1, b1⟩ := hQ p e R s m args below meth c t.heap (locs ++ L) ls (cells + mc) (slots + ms) MC MS dd hdd hf hR hl hP2 (key t T' L e1 hz hq hL) (by omega) (by omega) T' e1 X'
    exact ⟨t2, step t2 a1, b1⟩
  · rw [h0] at hz hq
    have hS2 := key t T' L e1 hz hq hL
    obtain ⟨hpc, ⟨pre, x, suf, nm, c1, c2, c3, c4, c5, c6, rfl⟩, hG⟩ := hQ
    have hout := vx_catch (p := p) (l := gl E) (e := e) (R := R) (s := s) (m := m) (args := args) (below := below) (meth := meth) (c := c) (H := t.heap) (locs := locs ++ L) (cells := cells + mc) (slots := slots + ms) (Q := vx_MQ below (g_Qc E Q) (g_XC E Q) args s MC MS (fun q => gb E ≤ q)) (ls := ls) (rest := rest) (pc := pc) (own := M.1) (name := nm) (E := Ex) (ce := ce) (q := q9)
      hf.2.2.2.1 pre x suf (hf.2.2.2.2.2.2.2.1.trans c1) (fun z hz9 => (c2 z hz9).imp id fun ⟨k1, nm', k2, k3⟩ => ⟨k1, nm', hf.2.2.2.2.1 _ k2, hf.2.2.2.2.2.2.2.2.2.2.2.2.2.2.1 _ k3⟩) c3 c4 (hf.2.2.2.2.1 _ c5) (va_Nw.use rfl (hf.2.2.2.2.2.2.2.2.2.2.2.2.2.2.2.1 _ c6)) hce hcv hcl
      (hG q9 p e R s m args below meth c t.heap (locs ++ L) ls (cells + mc) (slots + ms) MC MS dd hdd hf hR hl hP2 hS2 (by omega) (by omega))
    obtain ⟨t2, a1, b1⟩ := hout T' e1 X'
    exact ⟨t2, step.trans a1, b1⟩

theorem g_callVH0 {d' idx mc ms b : Nat} {y : MethodName} {M' : gM} {rest : List Value} (hM : M'.2.2.2.2.1 = []) (h0 : g_me y M' 0) (hlk : Cond.methodLink M.1 idx y ∈ g_all) (h1 : Cond.instanceMethod y ∈ g_all ∧ Cond.selects y.cls y y ∈ g_all) (ci : Nat) {fs : List Value} (hci : ci < 10) (hcl : y.cls = g_C ci) (hb : g_cell E w im b (.inr (ci, fs))) (hd' : d' + 1 ≤ d) (hk1 : mc ≤ kc) (hk2 : ms ≤ ks) (hcat : (rest.map fun v => v.category).sum ≤ 8) (hd : decode M.2.1 pc = .ok (.invokevirtual idx, 3))
    (hm : GM E d' y M' mc ms [.ref b] w im (g_kh E d M (pc + 3) pc lv rest (kc - mc) (ks - ms) Q)) : G E d M (pc) (lv) (.ref b :: rest) (w) (im) (kc) (ks) Q := by
  intro p e R s m args below meth c H locs ls cells slots MC MS dd hdd hf hR hl hP hS hc hs
  have hm9 := hm (dd - 1) (by omega)
  obtain ⟨-, r', hr', cellB, g1, g2, g3, -⟩ := hP.get hb
  have hr : r' = (g_C ci, g_T ci, g_n ci) := Option.some.inj (hr'.symm.trans (g_clat hci))
  have hKn := (hf.2.2.2.2.2.2.2.2.2.1).1 ci _ (g_clat hci)
  have hcb := g_callB (mc := mc) (ms := ms) hf hR hM (Nat.le_trans hd' hdd) h0 (hf.2.2.2.2.1 _ hlk)
  exact g_afterH hdd hf hR hl hS hc hs hk1 hk2 (vx_runV (C := y.cls) (As := []) (rest := rest) ⟨hf.1, hf.2.1, hf.2.2.1, hf.2.2.2.1, hf.2.2.2.2.1⟩ hm9 ⟨hcb, hf.2.2.2.2.1 _ h1.1, hf.2.2.2.2.1 _ h1.2⟩ ⟨g_PcBlind, ⟨cellB, g1, by rw [g3]; rfl, by rw [g2, hcl]; exact hKn.2.1⟩, g_pre hf hP hS _⟩ rfl rfl hl.1 rfl (lv_room hcat) hd ⟨by have := hR.2.2.1; omega, by have := hR.2.2.2; omega⟩)
theorem g_callVH1 {d' idx mc ms b : Nat} {y : MethodName} {M' : gM} {rest : List Value} {x1 : Value} (hM : M'.2.2.2.2.1 = []) (h0 : g_me y M' 1) (hlk : Cond.methodLink M.1 idx y ∈ g_all) (h1 : Cond.instanceMethod y ∈ g_all ∧ Cond.selects y.cls y y ∈ g_all) (ci : Nat) {fs : List Value} (hci : ci < 10) (hcl : y.cls = g_C ci) (hb : g_cell E w im b (.inr (ci, fs))) (hd' : d' + 1 ≤ d) (hk1 : mc ≤ kc) (hk2 : ms ≤ ks) (hcat : (rest.map fun v => v.category).sum ≤ 8) (hd : decode M.2.1 pc = .ok (.invokevirtual idx, 3))
    (hm : GM E d' y M' mc ms [.ref b, x1] w im (g_kh E d M (pc + 3) pc lv rest (kc - mc) (ks - ms) Q)) : G E d M (pc) (lv) (x1 :: .ref b :: rest) (w) (im) (kc) (ks) Q := by
  intro p e R s m args below meth c H locs ls cells slots MC MS dd hdd hf hR hl hP hS hc hs
  have hm9 := hm (dd - 1) (by omega)
  obtain ⟨-, r', hr', cellB, g1, g2, g3, -⟩ := hP.get hb
  have hr : r' = (g_C ci, g_T ci, g_n ci) := Option.some.inj (hr'.symm.trans (g_clat hci))
  have hKn := (hf.2.2.2.2.2.2.2.2.2.1).1 ci _ (g_clat hci)
  have hcb := g_callB (mc := mc) (ms := ms) hf hR hM (Nat.le_trans hd' hdd) h0 (hf.2.2.2.2.1 _ hlk)
  exact g_afterH hdd hf hR hl hS hc hs hk1 hk2 (vx_runV (C := y.cls) (As := [x1]) (rest := rest) ⟨hf.1, hf.2.1, hf.2.2.1, hf.2.2.2.1, hf.2.2.2.2.1⟩ hm9 ⟨hcb, hf.2.2.2.2.1 _ h1.1, hf.2.2.2.2.1 _ h1.2⟩ ⟨g_PcBlind, ⟨cellB, g1, by rw [g3]; rfl, by rw [g2, hcl]; exact hKn.2.1⟩, g_pre hf hP hS _⟩ rfl rfl hl.1 rfl (lv_room hcat) hd ⟨by have := hR.2.2.1; omega, by have := hR.2.2.2; omega⟩)
theorem g_callVH2 {d' idx mc ms b : Nat} {y : MethodName} {M' : gM} {rest : List Value} {x1 x2 : Value} (hM : M'.2.2.2.2.1 = []) (h0 : g_me y M' 2) (hlk : Cond.methodLink M.1 idx y ∈ g_all) (h1 : Cond.instanceMethod y ∈ g_all ∧ Cond.selects y.cls y y ∈ g_all) (ci : Nat) {fs : List Value} (hci : ci < 10) (hcl : y.cls = g_C ci) (hb : g_cell E w im b (.inr (ci, fs))) (hd' : d' + 1 ≤ d) (hk1 : mc ≤ kc) (hk2 : ms ≤ ks) (hcat : (rest.map fun v => v.category).sum ≤ 8) (hd : decode M.2.1 pc = .ok (.invokevirtual idx, 3))
    (hm : GM E d' y M' mc ms [.ref b, x1, x2] w im (g_kh E d M (pc + 3) pc lv rest (kc - mc) (ks - ms) Q)) : G E d M (pc) (lv) (x2 :: x1 :: .ref b :: rest) (w) (im) (kc) (ks) Q := by
  intro p e R s m args below meth c H locs ls cells slots MC MS dd hdd hf hR hl hP hS hc hs
  have hm9 := hm (dd - 1) (by omega)
  obtain ⟨-, r', hr', cellB, g1, g2, g3, -⟩ := hP.get hb
  have hr : r' = (g_C ci, g_T ci, g_n ci) := Option.some.inj (hr'.symm.trans (g_clat hci))
  have hKn := (hf.2.2.2.2.2.2.2.2.2.1).1 ci _ (g_clat hci)
  have hcb := g_callB (mc := mc) (ms := ms) hf hR hM (Nat.le_trans hd' hdd) h0 (hf.2.2.2.2.1 _ hlk)
  exact g_afterH hdd hf hR hl hS hc hs hk1 hk2 (vx_runV (C := y.cls) (As := [x1, x2]) (rest := rest) ⟨hf.1, hf.2.1, hf.2.2.1, hf.2.2.2.1, hf.2.2.2.2.1⟩ hm9 ⟨hcb, hf.2.2.2.2.1 _ h1.1, hf.2.2.2.2.1 _ h1.2⟩ ⟨g_PcBlind, ⟨cellB, g1, by rw [g3]; rfl, by rw [g2, hcl]; exact hKn.2.1⟩, g_pre hf hP hS _⟩ rfl rfl hl.1 rfl (lv_room hcat) hd ⟨by have := hR.2.2.1; omega, by have := hR.2.2.2; omega⟩)
theorem g_callVH3 {d' idx mc ms b : Nat} {y : MethodName} {M' : gM} {rest : List Value} {x1 x2 x3 : Value} (hM : M'.2.2.2.2.1 = []) (h0 : g_me y M' 3) (hlk : Cond.methodLink M.1 idx y ∈ g_all) (h1 : Cond.instanceMethod y ∈ g_all ∧ Cond.selects y.cls y y ∈ g_all) (ci : Nat) {fs : List Value} (hci : ci < 10) (hcl : y.cls = g_C ci) (hb : g_cell E w im b (.inr (ci, fs))) (hd' : d' + 1 ≤ d) (hk1 : mc ≤ kc) (hk2 : ms ≤ ks) (hcat : (rest.map fun v => v.category).sum ≤ 8) (hd : decode M.2.1 pc = .ok (.invokevirtual idx, 3))
    (hm : GM E d' y M' mc ms [.ref b, x1, x2, x3] w im (g_kh E d M (pc + 3) pc lv rest (kc - mc) (ks - ms) Q)) : G E d M (pc) (lv) (x3 :: x2 :: x1 :: .ref b :: rest) (w) (im) (kc) (ks) Q := by
  intro p e R s m args below meth c H locs ls cells slots MC MS dd hdd hf hR hl hP hS hc hs
  have hm9 := hm (dd - 1) (by omega)
  obtain ⟨-, r', hr', cellB, g1, g2, g3, -⟩ := hP.get hb
  have hr : r' = (g_C ci, g_T ci, g_n ci) := Option.some.inj (hr'.symm.trans (g_clat hci))
  have hKn := (hf.2.2.2.2.2.2.2.2.2.1).1 ci _ (g_clat hci)
  have hcb := g_callB (mc := mc) (ms := ms) hf hR hM (Nat.le_trans hd' hdd) h0 (hf.2.2.2.2.1 _ hlk)
  exact g_afterH hdd hf hR hl hS hc hs hk1 hk2 (vx_runV (C := y.cls) (As := [x1, x2, x3]) (rest := rest) ⟨hf.1, hf.2.1, hf.2.2.1, hf.2.2.2.1, hf.2.2.2.2.1⟩ hm9 ⟨hcb, hf.2.2.2.2.1 _ h1.1, hf.2.2.2.2.1 _ h1.2⟩ ⟨g_PcBlind, ⟨cellB, g1, by rw [g3]; rfl, by rw [g2, hcl]; exact hKn.2.1⟩, g_pre hf hP hS _⟩ rfl rfl hl.1 rfl (lv_room hcat) hd ⟨by have := hR.2.2.1; omega, by have := hR.2.2.2; omega⟩)
theorem g_callVH4 {d' idx mc ms b : Nat} {y : MethodName} {M' : gM} {rest : List Value} {x1 x2 x3 x4 : Value} (hM : M'.2.2.2.2.1 = []) (h0 : g_me y M' 4) (hlk : Cond.methodLink M.1 idx y ∈ g_all) (h1 : Cond.instanceMethod y ∈ g_all ∧ Cond.selects y.cls y y ∈ g_all) (ci : Nat) {fs : List Value} (hci : ci < 10) (hcl : y.cls = g_C ci) (hb : g_cell E w im b (.inr (ci, fs))) (hd' : d' + 1 ≤ d) (hk1 : mc ≤ kc) (hk2 : ms ≤ ks) (hcat : (rest.map fun v => v.category).sum ≤ 8) (hd : decode M.2.1 pc = .ok (.invokevirtual idx, 3))
    (hm : GM E d' y M' mc ms [.ref b, x1, x2, x3, x4] w im (g_kh E d M (pc + 3) pc lv rest (kc - mc) (ks - ms) Q)) : G E d M (pc) (lv) (x4 :: x3 :: x2 :: x1 :: .ref b :: rest) (w) (im) (kc) (ks) Q := by
  intro p e R s m args below meth c H locs ls cells slots MC MS dd hdd hf hR hl hP hS hc hs
  have hm9 := hm (dd - 1) (by omega)
  obtain ⟨-, r', hr', cellB, g1, g2, g3, -⟩ := hP.get hb
  have hr : r' = (g_C ci, g_T ci, g_n ci) := Option.some.inj (hr'.symm.trans (g_clat hci))
  have hKn := (hf.2.2.2.2.2.2.2.2.2.1).1 ci _ (g_clat hci)
  have hcb := g_callB (mc := mc) (ms := ms) hf hR hM (Nat.le_trans hd' hdd) h0 (hf.2.2.2.2.1 _ hlk)
  exact g_afterH hdd hf hR hl hS hc hs hk1 hk2 (vx_runV (C := y.cls) (As := [x1, x2, x3, x4]) (rest := rest) ⟨hf.1, hf.2.1, hf.2.2.1, hf.2.2.2.1, hf.2.2.2.2.1⟩ hm9 ⟨hcb, hf.2.2.2.2.1 _ h1.1, hf.2.2.2.2.1 _ h1.2⟩ ⟨g_PcBlind, ⟨cellB, g1, by rw [g3]; rfl, by rw [g2, hcl]; exact hKn.2.1⟩, g_pre hf hP hS _⟩ rfl rfl hl.1 rfl (lv_room hcat) hd ⟨by have := hR.2.2.1; omega, by have := hR.2.2.2; omega⟩)
theorem g_callVH5 {d' idx mc ms b : Nat} {y : MethodName} {M' : gM} {rest : List Value} {x1 x2 x3 x4 x5 : Value} (hM : M'.2.2.2.2.1 = []) (h0 : g_me y M' 5) (hlk : Cond.methodLink M.1 idx y ∈ g_all) (h1 : Cond.instanceMethod y ∈ g_all ∧ Cond.selects y.cls y y ∈ g_all) (ci : Nat) {fs : List Value} (hci : ci < 10) (hcl : y.cls = g_C ci) (hb : g_cell E w im b (.inr (ci, fs))) (hd' : d' + 1 ≤ d) (hk1 : mc ≤ kc) (hk2 : ms ≤ ks) (hcat : (rest.map fun v => v.category).sum ≤ 8) (hd : decode M.2.1 pc = .ok (.invokevirtual idx, 3))
    (hm : GM E d' y M' mc ms [.ref b, x1, x2, x3, x4, x5] w im (g_kh E d M (pc + 3) pc lv rest (kc - mc) (ks - ms) Q)) : G E d M (pc) (lv) (x5 :: x4 :: x3 :: x2 :: x1 :: .ref b :: rest) (w) (im) (kc) (ks) Q := by
  intro p e R s m args below meth c H locs ls cells slots MC MS dd hdd hf hR hl hP hS hc hs
  have hm9 := hm (dd - 1) (by omega)
  obtain ⟨-, r', hr', cellB, g1, g2, g3, -⟩ := hP.get hb
  have hr : r' = (g_C ci, g_T ci, g_n ci) := Option.some.inj (hr'.symm.trans (g_clat hci))
  have hKn := (hf.2.2.2.2.2.2.2.2.2.1).1 ci _ (g_clat hci)
  have hcb := g_callB (mc := mc) (ms := ms) hf hR hM (Nat.le_trans hd' hdd) h0 (hf.2.2.2.2.1 _ hlk)
  exact g_afterH hdd hf hR hl hS hc hs hk1 hk2 (vx_runV (C := y.cls) (As := [x1, x2, x3, x4, x5]) (rest := rest) ⟨hf.1, hf.2.1, hf.2.2.1, hf.2.2.2.1, hf.2.2.2.2.1⟩ hm9 ⟨hcb, hf.2.2.2.2.1 _ h1.1, hf.2.2.2.2.1 _ h1.2⟩ ⟨g_PcBlind, ⟨cellB, g1, by rw [g3]; rfl, by rw [g2, hcl]; exact hKn.2.1⟩, g_pre hf hP hS _⟩ rfl rfl hl.1 rfl (lv_room hcat) hd ⟨by have := hR.2.2.1; omega, by have := hR.2.2.2; omega⟩)
theorem g_callVH6 {d' idx mc ms b : Nat} {y : MethodName} {M' : gM} {rest : List Value} {x1 x2 x3 x4 x5 x6 : Value} (hM : M'.2.2.2.2.1 = []) (h0 : g_me y M' 6) (hlk : Cond.methodLink M.1 idx y ∈ g_all) (h1 : Cond.instanceMethod y ∈ g_all ∧ Cond.selects y.cls y y ∈ g_all) (ci : Nat) {fs : List Value} (hci : ci < 10) (hcl : y.cls = g_C ci) (hb : g_cell E w im b (.inr (ci, fs))) (hd' : d' + 1 ≤ d) (hk1 : mc ≤ kc) (hk2 : ms ≤ ks) (hcat : (rest.map fun v => v.category).sum ≤ 8) (hd : decode M.2.1 pc = .ok (.invokevirtual idx, 3))
    (hm : GM E d' y M' mc ms [.ref b, x1, x2, x3, x4, x5, x6] w im (g_kh E d M (pc + 3) pc lv rest (kc - mc) (ks - ms) Q)) : G E d M (pc) (lv) (x6 :: x5 :: x4 :: x3 :: x2 :: x1 :: .ref b :: rest) (w) (im) (kc) (ks) Q := by
  intro p e R s m args below meth c H locs ls cells slots MC MS dd hdd hf hR hl hP hS hc hs
  have hm9 := hm (dd - 1) (by omega)
  obtain ⟨-, r', hr', cellB, g1, g2, g3, -⟩ := hP.get hb
  have hr : r' = (g_C ci, g_T ci, g_n ci) := Option.some.inj (hr'.symm.trans (g_clat hci))
  have hKn := (hf.2.2.2.2.2.2.2.2.2.1).1 ci _ (g_clat hci)
  have hcb := g_callB (mc := mc) (ms := ms) hf hR hM (Nat.le_trans hd' hdd) h0 (hf.2.2.2.2.1 _ hlk)
  exact g_afterH hdd hf hR hl hS hc hs hk1 hk2 (vx_runV (C := y.cls) (As := [x1, x2, x3, x4, x5, x6]) (rest := rest) ⟨hf.1, hf.2.1, hf.2.2.1, hf.2.2.2.1, hf.2.2.2.2.1⟩ hm9 ⟨hcb, hf.2.2.2.2.1 _ h1.1, hf.2.2.2.2.1 _ h1.2⟩ ⟨g_PcBlind, ⟨cellB, g1, by rw [g3]; rfl, by rw [g2, hcl]; exact hKn.2.1⟩, g_pre hf hP hS _⟩ rfl rfl hl.1 rfl (lv_room hcat) hd ⟨by have := hR.2.2.1; omega, by have := hR.2.2.2; omega⟩)
/-- throw new X(text) at the end of a way, in a method without handlers -/
theorem g_throw {X text : String} {names : List String} {ik is ic : Nat} (hx : M.2.2.2.2.1 = []) (hcls : Bundle.fit X = true) (hnames : ∀ n ∈ names, Bundle.fit n = true) (hlen : names.length ≤ 4)
    (hk : Cond.classLink M.1 ik X ∈ g_all) (hini : Cond.initialized X ∈ g_all) (hstr : (M.1, is, text) ∈ g_strs) (hat : ∀ x ∈ vx_atS M.1 ic X names, x ∈ g_all ∨ x ∈ g_bads) (hgood : ∀ x ∈ vx_atS M.1 ic X names, vx_ot x = true)
    (hcat : (st.map fun v => v.category).sum ≤ 8) (hk1 : 1 ≤ kc) (hk2 : 6 ≤ ks)
    (d0 : decode M.2.1 pc = .ok (.new ik, 3)) (d3 : decode M.2.1 (pc + 3) = .ok (.dup, 1)) (d4 : decode M.2.1 (pc + 4) = .ok (.ldc is, 2)) (d6 : decode M.2.1 (pc + 6) = .ok (.invokespecial ic, 3)) (d9 : decode M.2.1 (pc + 9) = .ok (.athrow, 1))
    (hQ : Q (.inr X) w im) : G E d M (pc) (lv) (st) (w) (im) (kc) (ks) Q := by
  intro p e R s m args below meth c H locs ls cells slots MC MS dd hdd hf hR hl hP hS hc hs
  obtain ⟨sa, hsa⟩ := hf.2.2.2.2.2.2.2.2.2.2.2.2.2.1 _ hstr
  have hb0 := hf.2.2.2.2.2.2.2.2.2.2.2.2.2.2.2.2.2.2.2.1
  have hr1 := hR.1
  have hr2 := hR.2.1
  have h13 : 13 * (names.length + 1) ≤ 65 := by omega
  refine vx_throwS (names := names) (text := text) (sa := sa) hf.1 hf.2.1 (hf.2.2.2.2.2.2.2.2.2.2.2.2.2.2.2.2.2.2.2.2) hf.2.2.2.1 hcls hnames (hf.2.2.2.2.1 _ hk) (hf.2.2.2.2.1 _ hini) hsa (fun x hx9 => (hat x hx9).elim (hf.2.2.2.2.1 x) fun h => va_Nw.use (g_badT (List.mem_filter.mp h).2) (hf.2.2.2.2.2.2.2.2.2.2.2.2.2.2.2.1 x h)) (fun x hx9 => ?_) (hf.2.2.2.2.2.2.2.2.2.2.2.1) (hf.2.2.2.2.2.2.2.2.2.2.2.2.1) hS (by rw [hf.2.2.1]; exact hl.1) d0 d3 d4 d6 d9
    (by rw [hf.2.2.2.2.2.2.2.1, hx]; intro x hx9; simp [tableOf] at hx9) (by omega) (by omega) (by have := hR.2.2.1; omega) (by have := hR.2.2.2; omega) hf.2.2.2.2.2.2.1 (fun t _ hz hq => ⟨w, im, hQ, hP.kept hq, Nat.le_trans hS.1 hz, fun q h => (hq q (Nat.lt_of_lt_of_le h (Nat.le_trans hb0 hS.1))).trans ((g_frame hS hb0).2 q h)⟩) hS.2.2 (by omega) (by omega)
  rcases List.mem_cons.mp hx9 with rfl | hx9
  · rfl
  · rcases List.mem_cons.mp hx9 with rfl | hx9
    · rfl
    · exact hgood x hx9
end GC

