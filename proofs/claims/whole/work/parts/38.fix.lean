/-! ===== built cells become the fixed cells ===== -/
def gFix (E : gE) (n : Nat) (ad : Nat → Nat) : gE := (E.1, E.2.1, E.2.2.1, E.2.2.2.1, E.2.2.2.2.1, E.2.2.2.2.2.1, n, ad)
def imFix (n : Nat) (ad : Nat → Nat) (im : gIm) : gIm := fun a => if (List.range n).any (fun i => ad i == a) then none else im a
theorem imFix_id {n : Nat} {ad : Nat → Nat} {im : gIm} {i : Nat} (hi : i < n) : imFix n ad im (ad i) = none := by
  unfold imFix
  rw [if_pos]
  exact List.any_eq_true.2 ⟨i, List.mem_range.2 hi, by simp⟩
theorem imFix_some {n : Nat} {ad : Nat → Nat} {im : gIm} {a : Nat} {x : gA} (h : imFix n ad im a = some x) : im a = some x := by
  unfold imFix at h
  split at h
  · cases h
  · exact h
theorem arrV_cong {cI : ClassId} {N : Nat} {f g : Nat → Value} (h : ∀ j, j < N → f j = g j) : arrV cI N f = arrV cI N g := by
  unfold arrV
  congr 1
  exact congrArg Array.ofFn (funext fun j => h j.val j.isLt)
theorem g_at.ints {E : gE} {a n : Nat} {f g : Nat → Int32} {H : Heap} (t : Nat) (h : ∀ j, j < n → f j = g j) (k : g_at E a (.inl (t, n, .inl f)) H) : g_at E a (.inl (t, n, .inl g)) H := by
  have e : vp_cell (gdA E t) (n, .inl f) = vp_cell (gdA E t) (n, .inl g) := by
    rw [vp_cell_i, vp_cell_i]; exact arrV_cong fun j hj => by rw [h j hj]
  show H[a]? = some (vp_cell (gdA E t) (n, .inl g))
  rw [← e]; exact k
theorem g_at.refs {E : gE} {a n : Nat} {f g : Nat → Option Nat} {H : Heap} (t : Nat) (h : ∀ j, j < n → f j = g j) (k : g_at E a (.inl (t, n, .inr (.inr (.inr (.inr f))))) H) : g_at E a (.inl (t, n, .inr (.inr (.inr (.inr g))))) H := by
  have e : vp_cell (gdA E t) (n, .inr (.inr (.inr (.inr f)))) = vp_cell (gdA E t) (n, .inr (.inr (.inr (.inr g)))) := by
    rw [vp_cell_q, vp_cell_q]; exact arrV_cong fun j hj => by rw [h j hj]
  show H[a]? = some (vp_cell (gdA E t) (n, .inr (.inr (.inr (.inr g)))))
  rw [← e]; exact k
theorem vx_T.mono {XC XC' : String → State → State → Prop} (h : ∀ c s t, XC c s t → XC' c s t) {st t : State} {q : Addr} {mc ms : Nat} {free : Addr → Prop} (k : vx_T XC st q t mc ms free) : vx_T XC' st q t mc ms free := by
  obtain ⟨E, ce, L, k1, k2⟩ := k
  exact ⟨E, ce, L, h _ _ _ k1, k2⟩
theorem G.fix {E : gE} {n : Nat} {ad : Nat → Nat} {d : Nat} {M : gM} {pc : Nat} {lv : List (Nat × Value)} {st : List Value} {w w' : gW} {im : gIm} {c : Nat → gA} {kc ks : Nat} {P : gO → Prop} (h0 : gN E = 0) (hB : BI ad (fun i => i < n) im c)
    (hw : ∀ i, i < n → ∀ H, g_at E (ad i) (c i) H → g_at E (ad i) (w' i) H) (k : G (gFix E n ad) d M pc lv st w' (imFix n ad im) kc ks (fun o _ _ => P o)) : G E d M pc lv st w im kc ks (fun o _ _ => P o) := by
  intro p e R s m args below meth c' H locs ls cells slots MC MS dd hdd hf hR hl hP hS hc hs T hT X
  have hP' : g_Rp (gFix E n ad) w' (imFix n ad im) H := by
    refine ⟨fun i hi => ?_, fun a x ha => hP.2.1 a x (imFix_some ha), fun i j hi hj e => hB.2 i j hi hj e, fun i hi => imFix_id hi⟩
    have h1 := hP.2.1 _ _ (hB.1 i hi)
    exact ⟨h1.1, hw i hi H h1.2⟩
  have back : ∀ (o : gO) (t : State), (∃ w2 im2, P o ∧ g_Rp (gFix E n ad) w2 im2 t.heap) → ∃ (w2 : gW) (im2 : gIm), P o ∧ g_Rp E w2 im2 t.heap := by
    rintro o t ⟨w2, im2, hp, hr⟩
    exact ⟨w2, fun _ => none, hp, fun i hi => absurd hi (by omega), fun a x ha => (by cases ha), fun i j hi => absurd hi (by omega), fun i hi => absurd hi (by omega)⟩
  obtain ⟨t, a1, o, b1, b2, b3⟩ := k p e R s m args below meth c' H locs ls cells slots MC MS dd hdd hf hR hl hP' hS hc hs T hT X
  refine ⟨t, a1, o, b1, b2, ?_⟩
  rcases b3 with ⟨⟨v, w2, im2, z1, z2, z3, z4⟩, b4⟩ | ⟨q, b3, b4⟩
  · obtain ⟨w3, im3, y1, y2⟩ := back (.inl v) t ⟨w2, im2, z2, z3⟩
    exact Or.inl ⟨⟨v, w3, im3, z1, y1, y2, z4⟩, b4⟩
  · refine Or.inr ⟨q, b3, b4.mono fun c st t h => ?_⟩
    obtain ⟨w2, im2, z2, z3, z4⟩ := h
    obtain ⟨w3, im3, y1, y2⟩ := back (.inr c) t ⟨w2, im2, z2, z3⟩
    exact ⟨w3, im3, y1, y2, z4⟩

theorem zrE_eq {n : Nat} : zrE n = intE n (fun _ => 0) := congrArg (fun z : Int32 => (Sum.inl (0, n, Sum.inl (fun _ => z)) : gA)) iI_0
theorem RZ.init {E : gE} {w : gW} {im : gIm} {b : Nat} (hb : b + 4 < gN E) (h : emR (gad E) w b) : RZ E w im b zEmpty := by
  obtain ⟨h0, h1, h2, h3, h4⟩ := h
  refine ⟨fun _ => none, fun _ => none, fun _ => none, fun _ => 0, ⟨hb, h0, h1, h2, h3, h4.trans zrE_eq, fun _ _ => rfl⟩, ⟨fun i hi => ?_, fun _ _ => rfl, fun i hi => ?_, fun _ _ => rfl, fun i hi => ?_, fun _ _ => rfl⟩, okZ.empty⟩
  · have hi : 0 ≤ i ∧ i < 0 := hi
    omega
  · have hi : 0 ≤ i ∧ i < 0 := hi
    omega
  · have hi : 0 ≤ i ∧ i < 0 := hi
    omega
def tInit : Tx := (0, 0, 0, 32, 0, 0, fun _ => 0)
def cInit : CSt := ((zEmpty, zEmpty), (0, 0, fun _ => zEmpty), tInit, (0, 0, -1, -1))
theorem XW.init {E : gE} {w : gW} {im : gIm} (hn : gN E = 70) (h0 : w 0 = xE E (0, 0, -1, -1)) (e1 : emR (gad E) w 1) (e6 : emR (gad E) w 6) (v56 : w 56 = hE E 0 0) (v57 : w 57 = plE E) (vf : ∀ i, i < 9 → emR (gad E) w (11 + 5 * i)) (v58 : w 58 = tE E tInit) (v59 : w 59 = chE tInit) (v60 : w 60 = sE E) (v61 : w 61 = zrE 4) : XW E w im cInit := by
  refine ⟨⟨hn, h0, v56, v57, v58, v59, v60, fun _ => 0, v61.trans zrE_eq⟩, ⟨RZ.init (by omega) e1, RZ.init (by omega) e6, fun i hi => RZ.init (by omega) (vf i.toNat (by omega))⟩, by decide, by decide, ⟨by decide, by decide, by decide, by decide⟩, ?_⟩
  exact ⟨by decide, by decide, by decide, by decide, by decide, by decide, fun j hj => ⟨Int.le_refl 0, (show (0 : Int) ≤ 255 by omega)⟩⟩

