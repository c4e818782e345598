/-! ===== the law's helpers ===== -/
abbrev lgE (g : Nat → Int64) : gA := .inl (2, 1, .inr (.inl g))
abbrev dbE (g : Nat → UInt64) : gA := .inl (3, 1, .inr (.inr (.inr (.inl g))))
theorem g_lastoreA {E : gE} {d : Nat} {M : gM} {pc : Nat} {lv : List (Nat × Value)} {st : List Value} {w : gW} {im : gIm} {kc ks : Nat} {Q : gQ} {n j : Nat} {i : Int32} {x : Int64} {f : Nat → Int64} (i0 : Nat) (hi : i0 < gN E) (hw : w i0 = .inl (2, n, .inr (.inl f))) (hx : i = nI j) (hj : j < n) (hn : n.blt 2147483648 = true) (hd : decode M.2.1 pc = .ok (.lastore, 1)) (kk : ∀ w', w' i0 = .inl (2, n, .inr (.inl (vp_updL f j x))) → (∀ j, j ≠ i0 → w' j = w j) → G E d M (pc + 1) lv st w' im kc ks Q) : G E d M pc lv (.long x :: .int i :: .ref (gad E i0) :: st) w im kc ks Q := g_lastoreM i0 hi hw hx hj hn hd (kk _ vf_us fun j h => vf_un h)
theorem g_dastoreA {E : gE} {d : Nat} {M : gM} {pc : Nat} {lv : List (Nat × Value)} {st : List Value} {w : gW} {im : gIm} {kc ks : Nat} {Q : gQ} {n j : Nat} {i : Int32} {x : UInt64} {f : Nat → UInt64} (i0 : Nat) (hi : i0 < gN E) (hw : w i0 = .inl (3, n, .inr (.inr (.inr (.inl f))))) (hx : i = nI j) (hj : j < n) (hn : n.blt 2147483648 = true) (hd : decode M.2.1 pc = .ok (.dastore, 1)) (kk : ∀ w', w' i0 = .inl (3, n, .inr (.inr (.inr (.inl (vf_upd f j x))))) → (∀ j, j ≠ i0 → w' j = w j) → G E d M (pc + 1) lv st w' im kc ks Q) : G E d M pc lv (.double x :: .int i :: .ref (gad E i0) :: st) w im kc ks Q := g_dastoreM i0 hi hw hx hj hn hd (kk _ vf_us fun j h => vf_un h)
theorem g_khv {E : gE} {d : Nat} {M : gM} {pc pc0 : Nat} {lv : List (Nat × Value)} {rest : List Value} {w : gW} {im : gIm} {kc ks : Nat} {Q : gQ} {v : Value} (h : G E d M pc lv (v :: rest) w im kc ks Q) : g_kh E d M pc pc0 lv rest kc ks Q (.inl (some v)) w im := h
theorem g_khx {E : gE} {d : Nat} {M : gM} {pc pc0 : Nat} {lv : List (Nat × Value)} {rest : List Value} {w : gW} {im : gIm} {kc ks : Nat} {Q : gQ} {X : String} (h : ∃ hpc, g_hnd M X pc0 hpc ∧ ∀ q : Nat, G E d M hpc lv [.ref q] w im kc ks Q) : g_kh E d M pc pc0 lv rest kc ks Q (.inr X) w im := h
theorem XW.frame {E : gE} {w w' : gW} {im : gIm} {c : CSt} (h : XW E w im c) (hw : ∀ j, j < 62 → w' j = w j) : XW E w' im c := by
  obtain ⟨⟨a, b0, b1, b2, b3, b4, b5, m, b6⟩, ⟨c1, c2, c3⟩, d⟩ := h
  have hz : ∀ {b : Nat} {R : Rz}, b + 4 < 62 → RZ E w im b R → RZ E w' im b R := by
    intro b R hb hz
    obtain ⟨rg, rp, rc, lc, ⟨z0, z1, z2, z3, z4, z5, z6⟩, z7⟩ := hz
    exact ⟨rg, rp, rc, lc, ⟨z0, (hw b (by omega)).trans z1, (hw (b + 1) (by omega)).trans z2, (hw (b + 2) (by omega)).trans z3, (hw (b + 3) (by omega)).trans z4, (hw (b + 4) (by omega)).trans z5, z6⟩, z7⟩
  exact ⟨⟨a, (hw 0 (by omega)).trans b0, (hw 56 (by omega)).trans b1, (hw 57 (by omega)).trans b2, (hw 58 (by omega)).trans b3, (hw 59 (by omega)).trans b4, (hw 60 (by omega)).trans b5, m, (hw 61 (by omega)).trans b6⟩, ⟨hz (by omega) c1, hz (by omega) c2, fun i hi => hz (by omega) (c3 i hi)⟩, d⟩
/-- behind a helper: the class's state is c, the reference's cells are as they were -/
def LX (E : gE) (w : gW) (im : gIm) (c : CSt) (w' : gW) (im' : gIm) : Prop := (∀ j, 62 ≤ j → j ≠ 68 → j ≠ 69 → w' j = w j) ∧ (∀ a x, im a = some x → im' a = some x) ∧ XW E w' im' c
theorem vp0 {g : Nat → Int64} {x : Int64} : vp_updL g 0 x 0 = x := if_pos rfl
theorem nn_f2d {a b : Int32} (h : b ≠ 0) : vf_n64 (FP.f2d (FP.fdiv (FP.i2f a) (FP.i2f b))) := Jvm.Free.Fl.f2d_out (nn_fdiv h)

theorem hn_L_addGate_1 : g_hnd m_L_addGate "java/lang/IllegalArgumentException" 5 13 := ⟨[], _, _, "java/lang/IllegalArgumentException", rfl, (fun z hz => (by cases hz)), by decide, by decide, g_mem 363 (by decide +kernel) rfl, g_bmem 377 (by decide +kernel) rfl, rfl⟩
theorem hn_L_addGate_2 : g_hnd m_L_addGate "java/lang/IllegalStateException" 5 17 := ⟨[_], _, _, "java/lang/IllegalStateException", rfl, (fun z hz => (by
  rcases List.mem_singleton.1 hz with rfl
  exact Or.inr ⟨by decide, "java/lang/IllegalArgumentException", g_mem 363 (by decide +kernel) rfl, by decide +kernel⟩)), by decide, by decide, g_mem 364 (by decide +kernel) rfl, g_bmem 449 (by decide +kernel) rfl, rfl⟩
theorem c_L_addGate {E : gE} {w : gW} {im : gIm} {Q : gQ} {c : CSt} (hx : XW E w im c) {x1 x2 : Int} (rx1 : -2147483648 ≤ x1 ∧ x1 < 2147483648) (rx2 : -2147483648 ≤ x2 ∧ x2 < 2147483648) {ta ra : Int} (hA : An sIA sIS ((eAddG c x1 x2).1) (ta, ra)) {g0 : Nat → Int64} (h68 : w 68 = lgE g0) (hQ : ∀ w' im' g, LX E w im ((eAddG c x1 x2).2) w' im' → w' 68 = lgE g → (∀ j, j = 69 → w' j = w j) → (ta = 0 → g 0 = (iI ra).toInt64) → Q (.inl (some (.int (iI ta)))) w' im') : GM E 4 y_L_addGate m_L_addGate 1 6 [.ref (gad E 0), .int (iI x1), .int (iI x2), .ref (gad E 68)] w im Q := by
  have hn := hx.1.1
  have k0 : g_cell E w im (gad E 0) _ := g_mut 0 (by omega) hx.1.2.1
  refine g_entryH (by decide) rfl rfl (fun h => by cases h) (Nat.le_of_ble_eq_true rfl) ?_
  refine g_aload_n (n := 3) (i := 3) rfl rfl d_L_addGate_0 ?_
  refine g_iconst_i d_L_addGate_1 ?_
  refine g_aload_n (n := 0) (i := 0) rfl rfl d_L_addGate_2 ?_
  refine g_iload_n (n := 1) (i := 1) rfl rfl d_L_addGate_3 ?_
  refine g_iload_n (n := 2) (i := 2) rfl rfl d_L_addGate_4 ?_
  refine g_callVH2 rfl e_X_addGate l_L_7 iv_X_addGate 0 (by decide) rfl k0 (by decide) (Nat.le_refl _) (Nat.le_refl _) (Nat.le_of_ble_eq_true rfl) d_L_addGate_5 (c_X_addGate hx rx1 rx2 (fun o c2 w1 im1 he hN => ?_))
  have e1 : o = (eAddG c x1 x2).1 := congrArg Prod.fst he
  have e2 : c2 = (eAddG c x1 x2).2 := congrArg Prod.snd he
  rw [e2] at hN
  rw [e1]
  have h681 : w1 68 = lgE g0 := (hN.1 68 (by omega)).trans h68
  rcases hA with ⟨h0, ho⟩ | ⟨h0, ho⟩ | ⟨h0, ho⟩
  · rw [show (eAddG c x1 x2).1 = oV ra from ho]
    have h0 : ta = 0 := h0
    refine g_khv ?_
    refine g_i2l d_L_addGate_8 ?_
    refine g_lastoreA 68 (by omega) h681 (iI_nI 0).symm (by decide) (by rfl) d_L_addGate_9 (fun w2 hs hs9 => ?_)
    refine g_goto (tgt := 21) (by decide) d_L_addGate_10 ?_
    refine g_iconst_i d_L_addGate_21 ?_
    refine g_ireturn_i rfl d_L_addGate_22 ?_
    have hq := hQ w2 im1 _ ⟨fun j h1 h2 h3 => (hs9 j h2).trans (hN.1 j h1), hN.2.1, hN.2.2.frame (fun j hj => hs9 j (by omega))⟩ hs (fun j hj => (hs9 j (by omega)).trans (hN.1 j (by omega))) (fun _ => by rw [vp0])
    rw [h0] at hq
    exact hq
  · rw [ho]
    have h0 : ta = 1 := h0
    refine g_khx ⟨13, hn_L_addGate_1, fun q => ?_⟩
    refine g_astore (i := 4) (by decide) rfl d_L_addGate_13 ?_
    refine g_iconst_i d_L_addGate_15 ?_
    refine g_ireturn_i rfl d_L_addGate_16 ?_
    have hq := hQ w1 im1 g0 ⟨fun j h1 h2 h3 => hN.1 j h1, hN.2.1, hN.2.2⟩ h681 (fun j hj => hN.1 j (by omega)) (fun h9 => by omega)
    rw [h0] at hq
    exact hq
  · rw [ho]
    have h0 : ta = 2 := h0
    refine g_khx ⟨17, hn_L_addGate_2, fun q => ?_⟩
    refine g_astore (i := 4) (by decide) rfl d_L_addGate_17 ?_
    refine g_iconst_i d_L_addGate_19 ?_
    refine g_ireturn_i rfl d_L_addGate_20 ?_
    have hq := hQ w1 im1 g0 ⟨fun j h1 h2 h3 => hN.1 j h1, hN.2.1, hN.2.2⟩ h681 (fun j hj => hN.1 j (by omega)) (fun h9 => by omega)
    rw [h0] at hq
    exact hq


theorem hn_L_addProduct_1 : g_hnd m_L_addProduct "java/lang/IllegalArgumentException" 13 21 := ⟨[], _, _, "java/lang/IllegalArgumentException", rfl, (fun z hz => (by cases hz)), by decide, by decide, g_mem 363 (by decide +kernel) rfl, g_bmem 377 (by decide +kernel) rfl, rfl⟩
theorem hn_L_addProduct_2 : g_hnd m_L_addProduct "java/lang/IllegalStateException" 13 25 := ⟨[_], _, _, "java/lang/IllegalStateException", rfl, (fun z hz => (by
  rcases List.mem_singleton.1 hz with rfl
  exact Or.inr ⟨by decide, "java/lang/IllegalArgumentException", g_mem 363 (by decide +kernel) rfl, by decide +kernel⟩)), by decide, by decide, g_mem 364 (by decide +kernel) rfl, g_bmem 449 (by decide +kernel) rfl, rfl⟩
theorem c_L_addProduct {E : gE} {w : gW} {im : gIm} {Q : gQ} {c : CSt} (hx : XW E w im c) {x1 x2 x3 x4 x5 x6 : Int} (rx1 : -2147483648 ≤ x1 ∧ x1 < 2147483648) (rx2 : -2147483648 ≤ x2 ∧ x2 < 2147483648) (rx3 : -2147483648 ≤ x3 ∧ x3 < 2147483648) (rx4 : -2147483648 ≤ x4 ∧ x4 < 2147483648) (rx5 : -2147483648 ≤ x5 ∧ x5 < 2147483648) (rx6 : -2147483648 ≤ x6 ∧ x6 < 2147483648) {ta ra : Int} (hA : An sIA sIS ((eAddP c (x1, x2, x3, x4, x5, x6)).1) (ta, ra)) {g0 : Nat → Int64} (h68 : w 68 = lgE g0) (hQ : ∀ w' im' g, LX E w im ((eAddP c (x1, x2, x3, x4, x5, x6)).2) w' im' → w' 68 = lgE g → (∀ j, j = 69 → w' j = w j) → (ta = 0 → g 0 = (iI ra).toInt64) → Q (.inl (some (.int (iI ta)))) w' im') : GM E 4 y_L_addProduct m_L_addProduct 1 7 [.ref (gad E 0), .int (iI x1), .int (iI x2), .int (iI x3), .int (iI x4), .int (iI x5), .int (iI x6), .ref (gad E 68)] w im Q := by
  have hn := hx.1.1
  have k0 : g_cell E w im (gad E 0) _ := g_mut 0 (by omega) hx.1.2.1
  refine g_entryH (by decide) rfl rfl (fun h => by cases h) (Nat.le_of_ble_eq_true rfl) ?_
  refine g_aload (i := 7) rfl d_L_addProduct_0 ?_
  refine g_iconst_i d_L_addProduct_2 ?_
  refine g_aload_n (n := 0) (i := 0) rfl rfl d_L_addProduct_3 ?_
  refine g_iload_n (n := 1) (i := 1) rfl rfl d_L_addProduct_4 ?_
  refine g_iload_n (n := 2) (i := 2) rfl rfl d_L_addProduct_5 ?_
  refine g_iload_n (n := 3) (i := 3) rfl rfl d_L_addProduct_6 ?_
  refine g_iload (i := 4) rfl d_L_addProduct_7 ?_
  refine g_iload (i := 5) rfl d_L_addProduct_9 ?_
  refine g_iload (i := 6) rfl d_L_addProduct_11 ?_
  refine g_callVH6 rfl e_X_addProduct l_L_17 iv_X_addProduct 0 (by decide) rfl k0 (by decide) (Nat.le_refl _) (Nat.le_refl _) (Nat.le_of_ble_eq_true rfl) d_L_addProduct_13 (c_X_addProduct hx rx1 rx2 rx3 rx4 rx5 rx6 (fun o c2 w1 im1 he hN => ?_))
  have e1 : o = (eAddP c (x1, x2, x3, x4, x5, x6)).1 := congrArg Prod.fst he
  have e2 : c2 = (eAddP c (x1, x2, x3, x4, x5, x6)).2 := congrArg Prod.snd he
  rw [e2] at hN
  rw [e1]
  have h681 : w1 68 = lgE g0 := (hN.1 68 (by omega)).trans h68
  rcases hA with ⟨h0, ho⟩ | ⟨h0, ho⟩ | ⟨h0, ho⟩
  · rw [show (eAddP c (x1, x2, x3, x4, x5, x6)).1 = oV ra from ho]
    have h0 : ta = 0 := h0
    refine g_khv ?_
    refine g_i2l d_L_addProduct_16 ?_
    refine g_lastoreA 68 (by omega) h681 (iI_nI 0).symm (by decide) (by rfl) d_L_addProduct_17 (fun w2 hs hs9 => ?_)
    refine g_goto (tgt := 29) (by decide) d_L_addProduct_18 ?_
    refine g_iconst_i d_L_addProduct_29 ?_
    refine g_ireturn_i rfl d_L_addProduct_30 ?_
    have hq := hQ w2 im1 _ ⟨fun j h1 h2 h3 => (hs9 j h2).trans (hN.1 j h1), hN.2.1, hN.2.2.frame (fun j hj => hs9 j (by omega))⟩ hs (fun j hj => (hs9 j (by omega)).trans (hN.1 j (by omega))) (fun _ => by rw [vp0])
    rw [h0] at hq
    exact hq
  · rw [ho]
    have h0 : ta = 1 := h0
    refine g_khx ⟨21, hn_L_addProduct_1, fun q => ?_⟩
    refine g_astore (i := 8) (by decide) rfl d_L_addProduct_21 ?_
    refine g_iconst_i d_L_addProduct_23 ?_
    refine g_ireturn_i rfl d_L_addProduct_24 ?_
    have hq := hQ w1 im1 g0 ⟨fun j h1 h2 h3 => hN.1 j h1, hN.2.1, hN.2.2⟩ h681 (fun j hj => hN.1 j (by omega)) (fun h9 => by omega)
    rw [h0] at hq
    exact hq
  · rw [ho]
    have h0 : ta = 2 := h0
    refine g_khx ⟨25, hn_L_addProduct_2, fun q => ?_⟩
    refine g_astore (i := 8) (by decide) rfl d_L_addProduct_25 ?_
    refine g_iconst_i d_L_addProduct_27 ?_
    refine g_ireturn_i rfl d_L_addProduct_28 ?_
    have hq := hQ w1 im1 g0 ⟨fun j h1 h2 h3 => hN.1 j h1, hN.2.1, hN.2.2⟩ h681 (fun j hj => hN.1 j (by omega)) (fun h9 => by omega)
    rw [h0] at hq
    exact hq


theorem hn_L_gate_1 : g_hnd m_L_gate "java/lang/IndexOutOfBoundsException" 5 13 := ⟨[], _, _, "java/lang/IndexOutOfBoundsException", rfl, (fun z hz => (by cases hz)), by decide, by decide, g_mem 563 (by decide +kernel) rfl, g_bmem 601 (by decide +kernel) rfl, rfl⟩
theorem hn_L_gate_2 : g_hnd m_L_gate "java/lang/IllegalArgumentException" 5 17 := ⟨[_], _, _, "java/lang/IllegalArgumentException", rfl, (fun z hz => (by
  rcases List.mem_singleton.1 hz with rfl
  exact Or.inr ⟨by decide, "java/lang/IndexOutOfBoundsException", g_mem 563 (by decide +kernel) rfl, by decide +kernel⟩)), by decide, by decide, g_mem 363 (by decide +kernel) rfl, g_bmem 377 (by decide +kernel) rfl, rfl⟩
theorem c_L_gate {E : gE} {w : gW} {im : gIm} {Q : gQ} {c : CSt} (hx : XW E w im c) {x1 x2 : Int} (rx1 : -2147483648 ≤ x1 ∧ x1 < 2147483648) (rx2 : -2147483648 ≤ x2 ∧ x2 < 2147483648) {ta ra : Int} (hA : An sIB sIA (oGate (cN c) x1 x2) (ta, ra)) {g0 : Nat → Int64} (h68 : w 68 = lgE g0) (hQ : ∀ w' im' g, LX E w im (c) w' im' → w' 68 = lgE g → (∀ j, j = 69 → w' j = w j) → (ta = 0 → g 0 = (iI ra).toInt64) → Q (.inl (some (.int (iI ta)))) w' im') : GM E 3 y_L_gate m_L_gate 2 12 [.ref (gad E 0), .int (iI x1), .int (iI x2), .ref (gad E 68)] w im Q := by
  have hn := hx.1.1
  have k0 : g_cell E w im (gad E 0) _ := g_mut 0 (by omega) hx.1.2.1
  refine g_entryH (by decide) rfl rfl (fun h => by cases h) (Nat.le_of_ble_eq_true rfl) ?_
  refine g_aload_n (n := 3) (i := 3) rfl rfl d_L_gate_0 ?_
  refine g_iconst_i d_L_gate_1 ?_
  refine g_aload_n (n := 0) (i := 0) rfl rfl d_L_gate_2 ?_
  refine g_iload_n (n := 1) (i := 1) rfl rfl d_L_gate_3 ?_
  refine g_iload_n (n := 2) (i := 2) rfl rfl d_L_gate_4 ?_
  refine g_callVH2 rfl e_X_gate l_L_21 iv_X_gate 0 (by decide) rfl k0 (by decide) (Nat.le_refl _) (Nat.le_refl _) (Nat.le_of_ble_eq_true rfl) d_L_gate_5 (c_X_gate hx rx1 rx2 (fun o w1 im1 he hN => ?_))
  rw [he]
  have h681 : w1 68 = lgE g0 := (hN.1 68 (by omega)).trans h68
  rcases hA with ⟨h0, ho⟩ | ⟨h0, ho⟩ | ⟨h0, ho⟩
  · rw [show oGate (cN c) x1 x2 = oV ra from ho]
    have h0 : ta = 0 := h0
    refine g_khv ?_
    refine g_i2l d_L_gate_8 ?_
    refine g_lastoreA 68 (by omega) h681 (iI_nI 0).symm (by decide) (by rfl) d_L_gate_9 (fun w2 hs hs9 => ?_)
    refine g_goto (tgt := 21) (by decide) d_L_gate_10 ?_
    refine g_iconst_i d_L_gate_21 ?_
    refine g_ireturn_i rfl d_L_gate_22 ?_
    have hq := hQ w2 im1 _ ⟨fun j h1 h2 h3 => (hs9 j h2).trans (hN.1 j h1), hN.2.1, hN.2.2.frame (fun j hj => hs9 j (by omega))⟩ hs (fun j hj => (hs9 j (by omega)).trans (hN.1 j (by omega))) (fun _ => by rw [vp0])
    rw [h0] at hq
    exact hq
  · rw [ho]
    have h0 : ta = 1 := h0
    refine g_khx ⟨13, hn_L_gate_1, fun q => ?_⟩
    refine g_astore (i := 4) (by decide) rfl d_L_gate_13 ?_
    refine g_iconst_i d_L_gate_15 ?_
    refine g_ireturn_i rfl d_L_gate_16 ?_
    have hq := hQ w1 im1 g0 ⟨fun j h1 h2 h3 => hN.1 j h1, hN.2.1, hN.2.2⟩ h681 (fun j hj => hN.1 j (by omega)) (fun h9 => by omega)
    rw [h0] at hq
    exact hq
  · rw [ho]
    have h0 : ta = 2 := h0
    refine g_khx ⟨17, hn_L_gate_2, fun q => ?_⟩
    refine g_astore (i := 4) (by decide) rfl d_L_gate_17 ?_
    refine g_iconst_i d_L_gate_19 ?_
    refine g_ireturn_i rfl d_L_gate_20 ?_
    have hq := hQ w1 im1 g0 ⟨fun j h1 h2 h3 => hN.1 j h1, hN.2.1, hN.2.2⟩ h681 (fun j hj => hN.1 j (by omega)) (fun h9 => by omega)
    rw [h0] at hq
    exact hq


theorem hn_L_product_1 : g_hnd m_L_product "java/lang/IndexOutOfBoundsException" 5 13 := ⟨[], _, _, "java/lang/IndexOutOfBoundsException", rfl, (fun z hz => (by cases hz)), by decide, by decide, g_mem 563 (by decide +kernel) rfl, g_bmem 601 (by decide +kernel) rfl, rfl⟩
theorem hn_L_product_2 : g_hnd m_L_product "java/lang/IllegalArgumentException" 5 17 := ⟨[_], _, _, "java/lang/IllegalArgumentException", rfl, (fun z hz => (by
  rcases List.mem_singleton.1 hz with rfl
  exact Or.inr ⟨by decide, "java/lang/IndexOutOfBoundsException", g_mem 563 (by decide +kernel) rfl, by decide +kernel⟩)), by decide, by decide, g_mem 363 (by decide +kernel) rfl, g_bmem 377 (by decide +kernel) rfl, rfl⟩
theorem c_L_product {E : gE} {w : gW} {im : gIm} {Q : gQ} {c : CSt} (hx : XW E w im c) {x1 x2 : Int} (rx1 : -2147483648 ≤ x1 ∧ x1 < 2147483648) (rx2 : -2147483648 ≤ x2 ∧ x2 < 2147483648) {ta ra : Int} (hA : An sIB sIA (oProd (cN c) x1 x2) (ta, ra)) {g0 : Nat → Int64} (h68 : w 68 = lgE g0) (hQ : ∀ w' im' g, LX E w im (c) w' im' → w' 68 = lgE g → (∀ j, j = 69 → w' j = w j) → (ta = 0 → g 0 = (iI ra).toInt64) → Q (.inl (some (.int (iI ta)))) w' im') : GM E 3 y_L_product m_L_product 2 12 [.ref (gad E 0), .int (iI x1), .int (iI x2), .ref (gad E 68)] w im Q := by
  have hn := hx.1.1
  have k0 : g_cell E w im (gad E 0) _ := g_mut 0 (by omega) hx.1.2.1
  refine g_entryH (by decide) rfl rfl (fun h => by cases h) (Nat.le_of_ble_eq_true rfl) ?_
  refine g_aload_n (n := 3) (i := 3) rfl rfl d_L_product_0 ?_
  refine g_iconst_i d_L_product_1 ?_
  refine g_aload_n (n := 0) (i := 0) rfl rfl d_L_product_2 ?_
  refine g_iload_n (n := 1) (i := 1) rfl rfl d_L_product_3 ?_
  refine g_iload_n (n := 2) (i := 2) rfl rfl d_L_product_4 ?_
  refine g_callVH2 rfl e_X_product l_L_26 iv_X_product 0 (by decide) rfl k0 (by decide) (Nat.le_refl _) (Nat.le_refl _) (Nat.le_of_ble_eq_true rfl) d_L_product_5 (c_X_product hx rx1 rx2 (fun o w1 im1 he hN => ?_))
  rw [he]
  have h681 : w1 68 = lgE g0 := (hN.1 68 (by omega)).trans h68
  rcases hA with ⟨h0, ho⟩ | ⟨h0, ho⟩ | ⟨h0, ho⟩
  · rw [show oProd (cN c) x1 x2 = oV ra from ho]
    have h0 : ta = 0 := h0
    refine g_khv ?_
    refine g_i2l d_L_product_8 ?_
    refine g_lastoreA 68 (by omega) h681 (iI_nI 0).symm (by decide) (by rfl) d_L_product_9 (fun w2 hs hs9 => ?_)
    refine g_goto (tgt := 21) (by decide) d_L_product_10 ?_
    refine g_iconst_i d_L_product_21 ?_
    refine g_ireturn_i rfl d_L_product_22 ?_
    have hq := hQ w2 im1 _ ⟨fun j h1 h2 h3 => (hs9 j h2).trans (hN.1 j h1), hN.2.1, hN.2.2.frame (fun j hj => hs9 j (by omega))⟩ hs (fun j hj => (hs9 j (by omega)).trans (hN.1 j (by omega))) (fun _ => by rw [vp0])
    rw [h0] at hq
    exact hq
  · rw [ho]
    have h0 : ta = 1 := h0
    refine g_khx ⟨13, hn_L_product_1, fun q => ?_⟩
    refine g_astore (i := 4) (by decide) rfl d_L_product_13 ?_
    refine g_iconst_i d_L_product_15 ?_
    refine g_ireturn_i rfl d_L_product_16 ?_
    have hq := hQ w1 im1 g0 ⟨fun j h1 h2 h3 => hN.1 j h1, hN.2.1, hN.2.2⟩ h681 (fun j hj => hN.1 j (by omega)) (fun h9 => by omega)
    rw [h0] at hq
    exact hq
  · rw [ho]
    have h0 : ta = 2 := h0
    refine g_khx ⟨17, hn_L_product_2, fun q => ?_⟩
    refine g_astore (i := 4) (by decide) rfl d_L_product_17 ?_
    refine g_iconst_i d_L_product_19 ?_
    refine g_ireturn_i rfl d_L_product_20 ?_
    have hq := hQ w1 im1 g0 ⟨fun j h1 h2 h3 => hN.1 j h1, hN.2.1, hN.2.2⟩ h681 (fun j hj => hN.1 j (by omega)) (fun h9 => by omega)
    rw [h0] at hq
    exact hq


theorem hn_L_way_1 : g_hnd m_L_way "java/lang/IndexOutOfBoundsException" 5 13 := ⟨[], _, _, "java/lang/IndexOutOfBoundsException", rfl, (fun z hz => (by cases hz)), by decide, by decide, g_mem 563 (by decide +kernel) rfl, g_bmem 601 (by decide +kernel) rfl, rfl⟩
theorem c_L_way {E : gE} {w : gW} {im : gIm} {Q : gQ} {c : CSt} (hx : XW E w im c) {x1 x2 : Int} (rx1 : -2147483648 ≤ x1 ∧ x1 < 2147483648) (rx2 : -2147483648 ≤ x2 ∧ x2 < 2147483648) {ta ra : Int} (hA : An sIB sIA (oWay (cN c) x1 x2) (ta, ra)) (ha2 : ta ≠ 2) {g0 : Nat → Int64} (h68 : w 68 = lgE g0) (hQ : ∀ w' im' g, LX E w im (c) w' im' → w' 68 = lgE g → (∀ j, j = 69 → w' j = w j) → (ta = 0 → g 0 = (iI ra).toInt64) → Q (.inl (some (.int (iI ta)))) w' im') : GM E 3 y_L_way m_L_way 2 12 [.ref (gad E 0), .int (iI x1), .int (iI x2), .ref (gad E 68)] w im Q := by
  have hn := hx.1.1
  have k0 : g_cell E w im (gad E 0) _ := g_mut 0 (by omega) hx.1.2.1
  refine g_entryH (by decide) rfl rfl (fun h => by cases h) (Nat.le_of_ble_eq_true rfl) ?_
  refine g_aload_n (n := 3) (i := 3) rfl rfl d_L_way_0 ?_
  refine g_iconst_i d_L_way_1 ?_
  refine g_aload_n (n := 0) (i := 0) rfl rfl d_L_way_2 ?_
  refine g_iload_n (n := 1) (i := 1) rfl rfl d_L_way_3 ?_
  refine g_iload_n (n := 2) (i := 2) rfl rfl d_L_way_4 ?_
  refine g_callVH2 rfl e_X_way l_L_29 iv_X_way 0 (by decide) rfl k0 (by decide) (Nat.le_refl _) (Nat.le_refl _) (Nat.le_of_ble_eq_true rfl) d_L_way_5 (c_X_way hx rx1 rx2 (fun o w1 im1 he hN => ?_))
  rw [he]
  have h681 : w1 68 = lgE g0 := (hN.1 68 (by omega)).trans h68
  rcases hA with ⟨h0, ho⟩ | ⟨h0, ho⟩ | ⟨h0, ho⟩
  · rw [show oWay (cN c) x1 x2 = oV ra from ho]
    have h0 : ta = 0 := h0
    refine g_khv ?_
    refine g_i2l d_L_way_8 ?_
    refine g_lastoreA 68 (by omega) h681 (iI_nI 0).symm (by decide) (by rfl) d_L_way_9 (fun w2 hs hs9 => ?_)
    refine g_goto (tgt := 17) (by decide) d_L_way_10 ?_
    refine g_iconst_i d_L_way_17 ?_
    refine g_ireturn_i rfl d_L_way_18 ?_
    have hq := hQ w2 im1 _ ⟨fun j h1 h2 h3 => (hs9 j h2).trans (hN.1 j h1), hN.2.1, hN.2.2.frame (fun j hj => hs9 j (by omega))⟩ hs (fun j hj => (hs9 j (by omega)).trans (hN.1 j (by omega))) (fun _ => by rw [vp0])
    rw [h0] at hq
    exact hq
  · rw [ho]
    have h0 : ta = 1 := h0
    refine g_khx ⟨13, hn_L_way_1, fun q => ?_⟩
    refine g_astore (i := 4) (by decide) rfl d_L_way_13 ?_
    refine g_iconst_i d_L_way_15 ?_
    refine g_ireturn_i rfl d_L_way_16 ?_
    have hq := hQ w1 im1 g0 ⟨fun j h1 h2 h3 => hN.1 j h1, hN.2.1, hN.2.2⟩ h681 (fun j hj => hN.1 j (by omega)) (fun h9 => by omega)
    rw [h0] at hq
    exact hq
  · exact absurd h0 ha2


theorem hn_L_advance_1 : g_hnd m_L_advance "java/lang/IllegalArgumentException" 4 12 := ⟨[], _, _, "java/lang/IllegalArgumentException", rfl, (fun z hz => (by cases hz)), by decide, by decide, g_mem 363 (by decide +kernel) rfl, g_bmem 377 (by decide +kernel) rfl, rfl⟩
theorem hn_L_advance_2 : g_hnd m_L_advance "java/lang/IllegalStateException" 4 15 := ⟨[_], _, _, "java/lang/IllegalStateException", rfl, (fun z hz => (by
  rcases List.mem_singleton.1 hz with rfl
  exact Or.inr ⟨by decide, "java/lang/IllegalArgumentException", g_mem 363 (by decide +kernel) rfl, by decide +kernel⟩)), by decide, by decide, g_mem 364 (by decide +kernel) rfl, g_bmem 449 (by decide +kernel) rfl, rfl⟩
theorem c_L_advance {E : gE} {w : gW} {im : gIm} {Q : gQ} {c : CSt} (hx : XW E w im c) {x1 : Int} (rx1 : -2147483648 ≤ x1 ∧ x1 < 2147483648) {ta ra : Int} (hA : An sIA sIS ((eAdv c x1).1) (ta, ra)) {g0 : Nat → Int64} (h68 : w 68 = lgE g0) (hQ : ∀ w' im' g, LX E w im ((eAdv c x1).2) w' im' → w' 68 = lgE g → (∀ j, j = 69 → w' j = w j) → (ta = 0 → g 0 = (iI ra).toInt64) → Q (.inl (some (.int (iI ta)))) w' im') : GM E 4 y_L_advance m_L_advance 1 6 [.ref (gad E 0), .int (iI x1), .ref (gad E 68)] w im Q := by
  have hn := hx.1.1
  have k0 : g_cell E w im (gad E 0) _ := g_mut 0 (by omega) hx.1.2.1
  refine g_entryH (by decide) rfl rfl (fun h => by cases h) (Nat.le_of_ble_eq_true rfl) ?_
  refine g_aload_n (n := 2) (i := 2) rfl rfl d_L_advance_0 ?_
  refine g_iconst_i d_L_advance_1 ?_
  refine g_aload_n (n := 0) (i := 0) rfl rfl d_L_advance_2 ?_
  refine g_iload_n (n := 1) (i := 1) rfl rfl d_L_advance_3 ?_
  refine g_callVH1 rfl e_X_advance l_L_32 iv_X_advance 0 (by decide) rfl k0 (by decide) (Nat.le_refl _) (Nat.le_refl _) (Nat.le_of_ble_eq_true rfl) d_L_advance_4 (c_X_advance hx rx1 (fun o c2 w1 im1 he hN => ?_))
  have e1 : o = (eAdv c x1).1 := congrArg Prod.fst he
  have e2 : c2 = (eAdv c x1).2 := congrArg Prod.snd he
  rw [e2] at hN
  rw [e1]
  have h681 : w1 68 = lgE g0 := (hN.1 68 (by omega)).trans h68
  rcases hA with ⟨h0, ho⟩ | ⟨h0, ho⟩ | ⟨h0, ho⟩
  · rw [show (eAdv c x1).1 = oV ra from ho]
    have h0 : ta = 0 := h0
    refine g_khv ?_
    refine g_i2l d_L_advance_7 ?_
    refine g_lastoreA 68 (by omega) h681 (iI_nI 0).symm (by decide) (by rfl) d_L_advance_8 (fun w2 hs hs9 => ?_)
    refine g_goto (tgt := 18) (by decide) d_L_advance_9 ?_
    refine g_iconst_i d_L_advance_18 ?_
    refine g_ireturn_i rfl d_L_advance_19 ?_
    have hq := hQ w2 im1 _ ⟨fun j h1 h2 h3 => (hs9 j h2).trans (hN.1 j h1), hN.2.1, hN.2.2.frame (fun j hj => hs9 j (by omega))⟩ hs (fun j hj => (hs9 j (by omega)).trans (hN.1 j (by omega))) (fun _ => by rw [vp0])
    rw [h0] at hq
    exact hq
  · rw [ho]
    have h0 : ta = 1 := h0
    refine g_khx ⟨12, hn_L_advance_1, fun q => ?_⟩
    refine g_astore_n (n := 3) (i := 3) rfl (by decide) rfl d_L_advance_12 ?_
    refine g_iconst_i d_L_advance_13 ?_
    refine g_ireturn_i rfl d_L_advance_14 ?_
    have hq := hQ w1 im1 g0 ⟨fun j h1 h2 h3 => hN.1 j h1, hN.2.1, hN.2.2⟩ h681 (fun j hj => hN.1 j (by omega)) (fun h9 => by omega)
    rw [h0] at hq
    exact hq
  · rw [ho]
    have h0 : ta = 2 := h0
    refine g_khx ⟨15, hn_L_advance_2, fun q => ?_⟩
    refine g_astore_n (n := 3) (i := 3) rfl (by decide) rfl d_L_advance_15 ?_
    refine g_iconst_i d_L_advance_16 ?_
    refine g_ireturn_i rfl d_L_advance_17 ?_
    have hq := hQ w1 im1 g0 ⟨fun j h1 h2 h3 => hN.1 j h1, hN.2.1, hN.2.2⟩ h681 (fun j hj => hN.1 j (by omega)) (fun h9 => by omega)
    rw [h0] at hq
    exact hq


theorem hn_L_system_1 : g_hnd m_L_system "java/lang/IllegalArgumentException" 4 12 := ⟨[], _, _, "java/lang/IllegalArgumentException", rfl, (fun z hz => (by cases hz)), by decide, by decide, g_mem 363 (by decide +kernel) rfl, g_bmem 377 (by decide +kernel) rfl, rfl⟩
theorem c_L_system {E : gE} {w : gW} {im : gIm} {Q : gQ} {c : CSt} (hx : XW E w im c) {x1 : Int} (rx1 : -2147483648 ≤ x1 ∧ x1 < 2147483648) {ta ra : Int} (hA : An sIA sIS (oSys (cN c) (tl (cT c)) (ch c) x1) (ta, ra)) (ha2 : ta ≠ 2) {g0 : Nat → Int64} (h68 : w 68 = lgE g0) (hQ : ∀ w' im' g, LX E w im (c) w' im' → w' 68 = lgE g → (∀ j, j = 69 → w' j = w j) → (ta = 0 → g 0 = (iI ra).toInt64) → Q (.inl (some (.int (iI ta)))) w' im') : GM E 3 y_L_system m_L_system 1 6 [.ref (gad E 0), .int (iI x1), .ref (gad E 68)] w im Q := by
  have hn := hx.1.1
  have k0 : g_cell E w im (gad E 0) _ := g_mut 0 (by omega) hx.1.2.1
  refine g_entryH (by decide) rfl rfl (fun h => by cases h) (Nat.le_of_ble_eq_true rfl) ?_
  refine g_aload_n (n := 2) (i := 2) rfl rfl d_L_system_0 ?_
  refine g_iconst_i d_L_system_1 ?_
  refine g_aload_n (n := 0) (i := 0) rfl rfl d_L_system_2 ?_
  refine g_iload_n (n := 1) (i := 1) rfl rfl d_L_system_3 ?_
  refine g_callVH1 rfl e_X_system l_L_36 iv_X_system 0 (by decide) rfl k0 (by decide) (Nat.le_refl _) (Nat.le_refl _) (Nat.le_of_ble_eq_true rfl) d_L_system_4 (c_X_system hx rx1 (fun o w1 im1 he hN => ?_))
  rw [he]
  have h681 : w1 68 = lgE g0 := (hN.1 68 (by omega)).trans h68
  rcases hA with ⟨h0, ho⟩ | ⟨h0, ho⟩ | ⟨h0, ho⟩
  · rw [show oSys (cN c) (tl (cT c)) (ch c) x1 = oV ra from ho]
    have h0 : ta = 0 := h0
    refine g_khv ?_
    refine g_i2l d_L_system_7 ?_
    refine g_lastoreA 68 (by omega) h681 (iI_nI 0).symm (by decide) (by rfl) d_L_system_8 (fun w2 hs hs9 => ?_)
    refine g_goto (tgt := 15) (by decide) d_L_system_9 ?_
    refine g_iconst_i d_L_system_15 ?_
    refine g_ireturn_i rfl d_L_system_16 ?_
    have hq := hQ w2 im1 _ ⟨fun j h1 h2 h3 => (hs9 j h2).trans (hN.1 j h1), hN.2.1, hN.2.2.frame (fun j hj => hs9 j (by omega))⟩ hs (fun j hj => (hs9 j (by omega)).trans (hN.1 j (by omega))) (fun _ => by rw [vp0])
    rw [h0] at hq
    exact hq
  · rw [ho]
    have h0 : ta = 1 := h0
    refine g_khx ⟨12, hn_L_system_1, fun q => ?_⟩
    refine g_astore_n (n := 3) (i := 3) rfl (by decide) rfl d_L_system_12 ?_
    refine g_iconst_i d_L_system_13 ?_
    refine g_ireturn_i rfl d_L_system_14 ?_
    have hq := hQ w1 im1 g0 ⟨fun j h1 h2 h3 => hN.1 j h1, hN.2.1, hN.2.2⟩ h681 (fun j hj => hN.1 j (by omega)) (fun h9 => by omega)
    rw [h0] at hq
    exact hq
  · exact absurd h0 ha2


theorem hn_L_setClosed_1 : g_hnd m_L_setClosed "java/lang/IndexOutOfBoundsException" 5 20 := ⟨[], _, _, "java/lang/IndexOutOfBoundsException", rfl, (fun z hz => (by cases hz)), by decide, by decide, g_mem 563 (by decide +kernel) rfl, g_bmem 601 (by decide +kernel) rfl, rfl⟩
theorem c_L_setClosed {E : gE} {w : gW} {im : gIm} {Q : gQ} {c : CSt} (hx : XW E w im c) {x1 x2 : Int} (rx1 : -2147483648 ≤ x1 ∧ x1 < 2147483648) (rx2 : 0 ≤ x2 ∧ x2 ≤ 1) {ta ra : Int} (hA : An sIB sIA ((eClo c x1 x2).1) (ta, ra)) (ha2 : ta ≠ 2) (hb : 0 ≤ ra ∧ ra ≤ 1) {g0 : Nat → Int64} (h68 : w 68 = lgE g0) (hQ : ∀ w' im' g, LX E w im ((eClo c x1 x2).2) w' im' → w' 68 = lgE g → (∀ j, j = 69 → w' j = w j) → (ta = 0 → g 0 = (iI ra).toInt64) → Q (.inl (some (.int (iI ta)))) w' im') : GM E 4 y_L_setClosed m_L_setClosed 1 6 [.ref (gad E 0), .int (iI x1), .int (iI x2), .ref (gad E 68)] w im Q := by
  have hn := hx.1.1
  have k0 : g_cell E w im (gad E 0) _ := g_mut 0 (by omega) hx.1.2.1
  refine g_entryH (by decide) rfl rfl (fun h => by cases h) (Nat.le_of_ble_eq_true rfl) ?_
  refine g_aload_n (n := 3) (i := 3) rfl rfl d_L_setClosed_0 ?_
  refine g_iconst_i d_L_setClosed_1 ?_
  refine g_aload_n (n := 0) (i := 0) rfl rfl d_L_setClosed_2 ?_
  refine g_iload_n (n := 1) (i := 1) rfl rfl d_L_setClosed_3 ?_
  refine g_iload_n (n := 2) (i := 2) rfl rfl d_L_setClosed_4 ?_
  refine g_callVH2 rfl e_X_setClosed l_L_39 iv_X_setClosed 0 (by decide) rfl k0 (by decide) (Nat.le_refl _) (Nat.le_refl _) (Nat.le_of_ble_eq_true rfl) d_L_setClosed_5 (c_X_setClosed hx rx1 rx2 (fun o c2 w1 im1 he hN => ?_))
  have e1 : o = (eClo c x1 x2).1 := congrArg Prod.fst he
  have e2 : c2 = (eClo c x1 x2).2 := congrArg Prod.snd he
  rw [e2] at hN
  rw [e1]
  have h681 : w1 68 = lgE g0 := (hN.1 68 (by omega)).trans h68
  rcases hA with ⟨h0, ho⟩ | ⟨h0, ho⟩ | ⟨h0, ho⟩
  · rw [show (eClo c x1 x2).1 = oV ra from ho]
    have h0 : ta = 0 := h0
    refine g_khv ?_
    refine g_if_eq_i (tgt := 15) (by omega) d_L_setClosed_8 (by decide) (fun h8 => ?_) (fun h8 => ?_)
    · refine g_lconst (v := 0) (by decide) d_L_setClosed_15 ?_
      refine g_lastoreA 68 (by omega) h681 (iI_nI 0).symm (by decide) (by rfl) d_L_setClosed_16 (fun w2 hs hs9 => ?_)
      refine g_goto (tgt := 24) (by decide) d_L_setClosed_17 ?_
      refine g_iconst_i d_L_setClosed_24 ?_
      refine g_ireturn_i rfl d_L_setClosed_25 ?_
      have hq := hQ w2 im1 _ ⟨fun j h1 h2 h3 => (hs9 j h2).trans (hN.1 j h1), hN.2.1, hN.2.2.frame (fun j hj => hs9 j (by omega))⟩ hs (fun j hj => (hs9 j (by omega)).trans (hN.1 j (by omega))) (fun _ => by rw [vp0]; first | (rw [show ra = 1 by omega]; decide) | (rw [show ra = 0 by omega]; decide))
      rw [h0] at hq
      exact hq
    · refine g_lconst (v := 1) (by decide) d_L_setClosed_11 ?_
      refine g_goto (tgt := 16) (by decide) d_L_setClosed_12 ?_
      refine g_lastoreA 68 (by omega) h681 (iI_nI 0).symm (by decide) (by rfl) d_L_setClosed_16 (fun w2 hs hs9 => ?_)
      refine g_goto (tgt := 24) (by decide) d_L_setClosed_17 ?_
      refine g_iconst_i d_L_setClosed_24 ?_
      refine g_ireturn_i rfl d_L_setClosed_25 ?_
      have hq := hQ w2 im1 _ ⟨fun j h1 h2 h3 => (hs9 j h2).trans (hN.1 j h1), hN.2.1, hN.2.2.frame (fun j hj => hs9 j (by omega))⟩ hs (fun j hj => (hs9 j (by omega)).trans (hN.1 j (by omega))) (fun _ => by rw [vp0]; first | (rw [show ra = 1 by omega]; decide) | (rw [show ra = 0 by omega]; decide))
      rw [h0] at hq
      exact hq
  · rw [ho]
    have h0 : ta = 1 := h0
    refine g_khx ⟨20, hn_L_setClosed_1, fun q => ?_⟩
    refine g_astore (i := 4) (by decide) rfl d_L_setClosed_20 ?_
    refine g_iconst_i d_L_setClosed_22 ?_
    refine g_ireturn_i rfl d_L_setClosed_23 ?_
    have hq := hQ w1 im1 g0 ⟨fun j h1 h2 h3 => hN.1 j h1, hN.2.1, hN.2.2⟩ h681 (fun j hj => hN.1 j (by omega)) (fun h9 => by omega)
    rw [h0] at hq
    exact hq
  · exact absurd h0 ha2


theorem hn_L_closedMinutes_1 : g_hnd m_L_closedMinutes "java/lang/IndexOutOfBoundsException" 5 13 := ⟨[], _, _, "java/lang/IndexOutOfBoundsException", rfl, (fun z hz => (by cases hz)), by decide, by decide, g_mem 563 (by decide +kernel) rfl, g_bmem 601 (by decide +kernel) rfl, rfl⟩
theorem hn_L_closedMinutes_2 : g_hnd m_L_closedMinutes "java/lang/IllegalArgumentException" 5 17 := ⟨[_], _, _, "java/lang/IllegalArgumentException", rfl, (fun z hz => (by
  rcases List.mem_singleton.1 hz with rfl
  exact Or.inr ⟨by decide, "java/lang/IndexOutOfBoundsException", g_mem 563 (by decide +kernel) rfl, by decide +kernel⟩)), by decide, by decide, g_mem 363 (by decide +kernel) rfl, g_bmem 377 (by decide +kernel) rfl, rfl⟩
theorem c_L_closedMinutes {E : gE} {w : gW} {im : gIm} {Q : gQ} {c : CSt} (hx : XW E w im c) {x1 x2 : Int} (rx1 : -2147483648 ≤ x1 ∧ x1 < 2147483648) (rx2 : -2147483648 ≤ x2 ∧ x2 < 2147483648) {ta ra : Int} (hA : An sIB sIA (oClo (cN c) x1 x2) (ta, ra)) {g0 : Nat → Int64} (h68 : w 68 = lgE g0) (hQ : ∀ w' im' g, LX E w im (c) w' im' → w' 68 = lgE g → (∀ j, j = 69 → w' j = w j) → (ta = 0 → g 0 = (iI ra).toInt64) → Q (.inl (some (.int (iI ta)))) w' im') : GM E 3 y_L_closedMinutes m_L_closedMinutes 2 12 [.ref (gad E 0), .int (iI x1), .int (iI x2), .ref (gad E 68)] w im Q := by
  have hn := hx.1.1
  have k0 : g_cell E w im (gad E 0) _ := g_mut 0 (by omega) hx.1.2.1
  refine g_entryH (by decide) rfl rfl (fun h => by cases h) (Nat.le_of_ble_eq_true rfl) ?_
  refine g_aload_n (n := 3) (i := 3) rfl rfl d_L_closedMinutes_0 ?_
  refine g_iconst_i d_L_closedMinutes_1 ?_
  refine g_aload_n (n := 0) (i := 0) rfl rfl d_L_closedMinutes_2 ?_
  refine g_iload_n (n := 1) (i := 1) rfl rfl d_L_closedMinutes_3 ?_
  refine g_iload_n (n := 2) (i := 2) rfl rfl d_L_closedMinutes_4 ?_
  refine g_callVH2 rfl e_X_closedMinutes l_L_43 iv_X_closedMinutes 0 (by decide) rfl k0 (by decide) (Nat.le_refl _) (Nat.le_refl _) (Nat.le_of_ble_eq_true rfl) d_L_closedMinutes_5 (c_X_closedMinutes hx rx1 rx2 (fun o w1 im1 he hN => ?_))
  rw [he]
  have h681 : w1 68 = lgE g0 := (hN.1 68 (by omega)).trans h68
  rcases hA with ⟨h0, ho⟩ | ⟨h0, ho⟩ | ⟨h0, ho⟩
  · rw [show oClo (cN c) x1 x2 = oV ra from ho]
    have h0 : ta = 0 := h0
    refine g_khv ?_
    refine g_i2l d_L_closedMinutes_8 ?_
    refine g_lastoreA 68 (by omega) h681 (iI_nI 0).symm (by decide) (by rfl) d_L_closedMinutes_9 (fun w2 hs hs9 => ?_)
    refine g_goto (tgt := 21) (by decide) d_L_closedMinutes_10 ?_
    refine g_iconst_i d_L_closedMinutes_21 ?_
    refine g_ireturn_i rfl d_L_closedMinutes_22 ?_
    have hq := hQ w2 im1 _ ⟨fun j h1 h2 h3 => (hs9 j h2).trans (hN.1 j h1), hN.2.1, hN.2.2.frame (fun j hj => hs9 j (by omega))⟩ hs (fun j hj => (hs9 j (by omega)).trans (hN.1 j (by omega))) (fun _ => by rw [vp0])
    rw [h0] at hq
    exact hq
  · rw [ho]
    have h0 : ta = 1 := h0
    refine g_khx ⟨13, hn_L_closedMinutes_1, fun q => ?_⟩
    refine g_astore (i := 4) (by decide) rfl d_L_closedMinutes_13 ?_
    refine g_iconst_i d_L_closedMinutes_15 ?_
    refine g_ireturn_i rfl d_L_closedMinutes_16 ?_
    have hq := hQ w1 im1 g0 ⟨fun j h1 h2 h3 => hN.1 j h1, hN.2.1, hN.2.2⟩ h681 (fun j hj => hN.1 j (by omega)) (fun h9 => by omega)
    rw [h0] at hq
    exact hq
  · rw [ho]
    have h0 : ta = 2 := h0
    refine g_khx ⟨17, hn_L_closedMinutes_2, fun q => ?_⟩
    refine g_astore (i := 4) (by decide) rfl d_L_closedMinutes_17 ?_
    refine g_iconst_i d_L_closedMinutes_19 ?_
    refine g_ireturn_i rfl d_L_closedMinutes_20 ?_
    have hq := hQ w1 im1 g0 ⟨fun j h1 h2 h3 => hN.1 j h1, hN.2.1, hN.2.2⟩ h681 (fun j hj => hN.1 j (by omega)) (fun h9 => by omega)
    rw [h0] at hq
    exact hq


theorem hn_L_isClosedDay_1 : g_hnd m_L_isClosedDay "java/lang/IndexOutOfBoundsException" 5 20 := ⟨[], _, _, "java/lang/IndexOutOfBoundsException", rfl, (fun z hz => (by cases hz)), by decide, by decide, g_mem 563 (by decide +kernel) rfl, g_bmem 601 (by decide +kernel) rfl, rfl⟩
theorem hn_L_isClosedDay_2 : g_hnd m_L_isClosedDay "java/lang/IllegalArgumentException" 5 24 := ⟨[_], _, _, "java/lang/IllegalArgumentException", rfl, (fun z hz => (by
  rcases List.mem_singleton.1 hz with rfl
  exact Or.inr ⟨by decide, "java/lang/IndexOutOfBoundsException", g_mem 563 (by decide +kernel) rfl, by decide +kernel⟩)), by decide, by decide, g_mem 363 (by decide +kernel) rfl, g_bmem 377 (by decide +kernel) rfl, rfl⟩
theorem c_L_isClosedDay {E : gE} {w : gW} {im : gIm} {Q : gQ} {c : CSt} (hx : XW E w im c) {x1 x2 : Int} (rx1 : -2147483648 ≤ x1 ∧ x1 < 2147483648) (rx2 : -2147483648 ≤ x2 ∧ x2 < 2147483648) {ta ra : Int} (hA : An sIB sIA (oCld (cN c) x1 x2) (ta, ra)) (hb : 0 ≤ ra ∧ ra ≤ 1) {g0 : Nat → Int64} (h68 : w 68 = lgE g0) (hQ : ∀ w' im' g, LX E w im (c) w' im' → w' 68 = lgE g → (∀ j, j = 69 → w' j = w j) → (ta = 0 → g 0 = (iI ra).toInt64) → Q (.inl (some (.int (iI ta)))) w' im') : GM E 3 y_L_isClosedDay m_L_isClosedDay 2 12 [.ref (gad E 0), .int (iI x1), .int (iI x2), .ref (gad E 68)] w im Q := by
  have hn := hx.1.1
  have k0 : g_cell E w im (gad E 0) _ := g_mut 0 (by omega) hx.1.2.1
  refine g_entryH (by decide) rfl rfl (fun h => by cases h) (Nat.le_of_ble_eq_true rfl) ?_
  refine g_aload_n (n := 3) (i := 3) rfl rfl d_L_isClosedDay_0 ?_
  refine g_iconst_i d_L_isClosedDay_1 ?_
  refine g_aload_n (n := 0) (i := 0) rfl rfl d_L_isClosedDay_2 ?_
  refine g_iload_n (n := 1) (i := 1) rfl rfl d_L_isClosedDay_3 ?_
  refine g_iload_n (n := 2) (i := 2) rfl rfl d_L_isClosedDay_4 ?_
  refine g_callVH2 rfl e_X_isClosedDay l_L_46 iv_X_isClosedDay 0 (by decide) rfl k0 (by decide) (Nat.le_refl _) (Nat.le_refl _) (Nat.le_of_ble_eq_true rfl) d_L_isClosedDay_5 (c_X_isClosedDay hx rx1 rx2 (fun o w1 im1 he hN => ?_))
  rw [he]
  have h681 : w1 68 = lgE g0 := (hN.1 68 (by omega)).trans h68
  rcases hA with ⟨h0, ho⟩ | ⟨h0, ho⟩ | ⟨h0, ho⟩
  · rw [show oCld (cN c) x1 x2 = oV ra from ho]
    have h0 : ta = 0 := h0
    refine g_khv ?_
    refine g_if_eq_i (tgt := 15) (by omega) d_L_isClosedDay_8 (by decide) (fun h8 => ?_) (fun h8 => ?_)
    · refine g_lconst (v := 0) (by decide) d_L_isClosedDay_15 ?_
      refine g_lastoreA 68 (by omega) h681 (iI_nI 0).symm (by decide) (by rfl) d_L_isClosedDay_16 (fun w2 hs hs9 => ?_)
      refine g_goto (tgt := 28) (by decide) d_L_isClosedDay_17 ?_
      refine g_iconst_i d_L_isClosedDay_28 ?_
      refine g_ireturn_i rfl d_L_isClosedDay_29 ?_
      have hq := hQ w2 im1 _ ⟨fun j h1 h2 h3 => (hs9 j h2).trans (hN.1 j h1), hN.2.1, hN.2.2.frame (fun j hj => hs9 j (by omega))⟩ hs (fun j hj => (hs9 j (by omega)).trans (hN.1 j (by omega))) (fun _ => by rw [vp0]; first | (rw [show ra = 1 by omega]; decide) | (rw [show ra = 0 by omega]; decide))
      rw [h0] at hq
      exact hq
    · refine g_lconst (v := 1) (by decide) d_L_isClosedDay_11 ?_
      refine g_goto (tgt := 16) (by decide) d_L_isClosedDay_12 ?_
      refine g_lastoreA 68 (by omega) h681 (iI_nI 0).symm (by decide) (by rfl) d_L_isClosedDay_16 (fun w2 hs hs9 => ?_)
      refine g_goto (tgt := 28) (by decide) d_L_isClosedDay_17 ?_
      refine g_iconst_i d_L_isClosedDay_28 ?_
      refine g_ireturn_i rfl d_L_isClosedDay_29 ?_
      have hq := hQ w2 im1 _ ⟨fun j h1 h2 h3 => (hs9 j h2).trans (hN.1 j h1), hN.2.1, hN.2.2.frame (fun j hj => hs9 j (by omega))⟩ hs (fun j hj => (hs9 j (by omega)).trans (hN.1 j (by omega))) (fun _ => by rw [vp0]; first | (rw [show ra = 1 by omega]; decide) | (rw [show ra = 0 by omega]; decide))
      rw [h0] at hq
      exact hq
  · rw [ho]
    have h0 : ta = 1 := h0
    refine g_khx ⟨20, hn_L_isClosedDay_1, fun q => ?_⟩
    refine g_astore (i := 4) (by decide) rfl d_L_isClosedDay_20 ?_
    refine g_iconst_i d_L_isClosedDay_22 ?_
    refine g_ireturn_i rfl d_L_isClosedDay_23 ?_
    have hq := hQ w1 im1 g0 ⟨fun j h1 h2 h3 => hN.1 j h1, hN.2.1, hN.2.2⟩ h681 (fun j hj => hN.1 j (by omega)) (fun h9 => by omega)
    rw [h0] at hq
    exact hq
  · rw [ho]
    have h0 : ta = 2 := h0
    refine g_khx ⟨24, hn_L_isClosedDay_2, fun q => ?_⟩
    refine g_astore (i := 4) (by decide) rfl d_L_isClosedDay_24 ?_
    refine g_iconst_i d_L_isClosedDay_26 ?_
    refine g_ireturn_i rfl d_L_isClosedDay_27 ?_
    have hq := hQ w1 im1 g0 ⟨fun j h1 h2 h3 => hN.1 j h1, hN.2.1, hN.2.2⟩ h681 (fun j hj => hN.1 j (by omega)) (fun h9 => by omega)
    rw [h0] at hq
    exact hq


theorem hn_L_sell_1 : g_hnd m_L_sell "java/lang/IndexOutOfBoundsException" 4 12 := ⟨[], _, _, "java/lang/IndexOutOfBoundsException", rfl, (fun z hz => (by cases hz)), by decide, by decide, g_mem 563 (by decide +kernel) rfl, g_bmem 601 (by decide +kernel) rfl, rfl⟩
theorem hn_L_sell_2 : g_hnd m_L_sell "java/lang/IllegalStateException" 4 15 := ⟨[_], _, _, "java/lang/IllegalStateException", rfl, (fun z hz => (by
  rcases List.mem_singleton.1 hz with rfl
  exact Or.inr ⟨by decide, "java/lang/IndexOutOfBoundsException", g_mem 563 (by decide +kernel) rfl, by decide +kernel⟩)), by decide, by decide, g_mem 364 (by decide +kernel) rfl, g_bmem 449 (by decide +kernel) rfl, rfl⟩
theorem c_L_sell {E : gE} {w : gW} {im : gIm} {Q : gQ} {c : CSt} (hx : XW E w im c) {x1 : Int} (rx1 : -2147483648 ≤ x1 ∧ x1 < 2147483648) {ta ra : Int} (hA : An sIB sIS ((eSell c x1).1) (ta, ra)) {g0 : Nat → Int64} (h68 : w 68 = lgE g0) (hQ : ∀ w' im' g, LX E w im ((eSell c x1).2) w' im' → w' 68 = lgE g → (∀ j, j = 69 → w' j = w j) → (ta = 0 → g 0 = (iI ra).toInt64) → Q (.inl (some (.int (iI ta)))) w' im') : GM E 4 y_L_sell m_L_sell 21 126 [.ref (gad E 0), .int (iI x1), .ref (gad E 68)] w im Q := by
  have hn := hx.1.1
  have k0 : g_cell E w im (gad E 0) _ := g_mut 0 (by omega) hx.1.2.1
  refine g_entryH (by decide) rfl rfl (fun h => by cases h) (Nat.le_of_ble_eq_true rfl) ?_
  refine g_aload_n (n := 2) (i := 2) rfl rfl d_L_sell_0 ?_
  refine g_iconst_i d_L_sell_1 ?_
  refine g_aload_n (n := 0) (i := 0) rfl rfl d_L_sell_2 ?_
  refine g_iload_n (n := 1) (i := 1) rfl rfl d_L_sell_3 ?_
  refine g_callVH1 rfl e_X_sell l_L_50 iv_X_sell 0 (by decide) rfl k0 (by decide) (Nat.le_refl _) (Nat.le_refl _) (Nat.le_of_ble_eq_true rfl) d_L_sell_4 (c_X_sell hx rx1 (fun o c2 w1 im1 he hN => ?_))
  have e1 : o = (eSell c x1).1 := congrArg Prod.fst he
  have e2 : c2 = (eSell c x1).2 := congrArg Prod.snd he
  rw [e2] at hN
  rw [e1]
  have h681 : w1 68 = lgE g0 := (hN.1 68 (by omega)).trans h68
  rcases hA with ⟨h0, ho⟩ | ⟨h0, ho⟩ | ⟨h0, ho⟩
  · rw [show (eSell c x1).1 = oV ra from ho]
    have h0 : ta = 0 := h0
    refine g_khv ?_
    refine g_i2l d_L_sell_7 ?_
    refine g_lastoreA 68 (by omega) h681 (iI_nI 0).symm (by decide) (by rfl) d_L_sell_8 (fun w2 hs hs9 => ?_)
    refine g_goto (tgt := 18) (by decide) d_L_sell_9 ?_
    refine g_iconst_i d_L_sell_18 ?_
    refine g_ireturn_i rfl d_L_sell_19 ?_
    have hq := hQ w2 im1 _ ⟨fun j h1 h2 h3 => (hs9 j h2).trans (hN.1 j h1), hN.2.1, hN.2.2.frame (fun j hj => hs9 j (by omega))⟩ hs (fun j hj => (hs9 j (by omega)).trans (hN.1 j (by omega))) (fun _ => by rw [vp0])
    rw [h0] at hq
    exact hq
  · rw [ho]
    have h0 : ta = 1 := h0
    refine g_khx ⟨12, hn_L_sell_1, fun q => ?_⟩
    refine g_astore_n (n := 3) (i := 3) rfl (by decide) rfl d_L_sell_12 ?_
    refine g_iconst_i d_L_sell_13 ?_
    refine g_ireturn_i rfl d_L_sell_14 ?_
    have hq := hQ w1 im1 g0 ⟨fun j h1 h2 h3 => hN.1 j h1, hN.2.1, hN.2.2⟩ h681 (fun j hj => hN.1 j (by omega)) (fun h9 => by omega)
    rw [h0] at hq
    exact hq
  · rw [ho]
    have h0 : ta = 2 := h0
    refine g_khx ⟨15, hn_L_sell_2, fun q => ?_⟩
    refine g_astore_n (n := 3) (i := 3) rfl (by decide) rfl d_L_sell_15 ?_
    refine g_iconst_i d_L_sell_16 ?_
    refine g_ireturn_i rfl d_L_sell_17 ?_
    have hq := hQ w1 im1 g0 ⟨fun j h1 h2 h3 => hN.1 j h1, hN.2.1, hN.2.2⟩ h681 (fun j hj => hN.1 j (by omega)) (fun h9 => by omega)
    rw [h0] at hq
    exact hq


theorem hn_L_pass_1 : g_hnd m_L_pass "java/lang/IndexOutOfBoundsException" 5 13 := ⟨[], _, _, "java/lang/IndexOutOfBoundsException", rfl, (fun z hz => (by cases hz)), by decide, by decide, g_mem 563 (by decide +kernel) rfl, g_bmem 601 (by decide +kernel) rfl, rfl⟩
theorem hn_L_pass_2 : g_hnd m_L_pass "java/lang/UnsupportedOperationException" 5 17 := ⟨[_], _, _, "java/lang/UnsupportedOperationException", rfl, (fun z hz => (by
  rcases List.mem_singleton.1 hz with rfl
  exact Or.inr ⟨by decide, "java/lang/IndexOutOfBoundsException", g_mem 563 (by decide +kernel) rfl, by decide +kernel⟩)), by decide, by decide, g_mem 800 (by decide +kernel) rfl, g_bmem 855 (by decide +kernel) rfl, rfl⟩
theorem c_L_pass {E : gE} {w : gW} {im : gIm} {Q : gQ} {c : CSt} (hx : XW E w im c) {x1 x2 : Int} (rx1 : -2147483648 ≤ x1 ∧ x1 < 2147483648) (rx2 : -2147483648 ≤ x2 ∧ x2 < 2147483648) (hrl : isC (cN c) x1 → (zC (cN c) x1).2.2.2.2.length < 1000) {ta ra : Int} (hA : An sIB sUO ((ePass c x1 x2).1) (ta, ra)) {g0 : Nat → Int64} (h68 : w 68 = lgE g0) (hQ : ∀ w' im' g, LX E w im ((ePass c x1 x2).2) w' im' → w' 68 = lgE g → (∀ j, j = 69 → w' j = w j) → (ta = 0 → g 0 = (iI ra).toInt64) → Q (.inl (some (.int (iI ta)))) w' im') : GM E 5 y_L_pass m_L_pass 4 24 [.ref (gad E 0), .int (iI x1), .int (iI x2), .ref (gad E 68)] w im Q := by
  have hn := hx.1.1
  have k0 : g_cell E w im (gad E 0) _ := g_mut 0 (by omega) hx.1.2.1
  refine g_entryH (by decide) rfl rfl (fun h => by cases h) (Nat.le_of_ble_eq_true rfl) ?_
  refine g_aload_n (n := 3) (i := 3) rfl rfl d_L_pass_0 ?_
  refine g_iconst_i d_L_pass_1 ?_
  refine g_aload_n (n := 0) (i := 0) rfl rfl d_L_pass_2 ?_
  refine g_iload_n (n := 1) (i := 1) rfl rfl d_L_pass_3 ?_
  refine g_iload_n (n := 2) (i := 2) rfl rfl d_L_pass_4 ?_
  refine g_callVH2 rfl e_X_pass l_L_53 iv_X_pass 0 (by decide) rfl k0 (by decide) (Nat.le_refl _) (Nat.le_refl _) (Nat.le_of_ble_eq_true rfl) d_L_pass_5 (c_X_pass hx rx1 rx2 hrl (fun o c2 w1 im1 he hN => ?_))
  have e1 : o = (ePass c x1 x2).1 := congrArg Prod.fst he
  have e2 : c2 = (ePass c x1 x2).2 := congrArg Prod.snd he
  rw [e2] at hN
  rw [e1]
  have h681 : w1 68 = lgE g0 := (hN.1 68 (by omega)).trans h68
  rcases hA with ⟨h0, ho⟩ | ⟨h0, ho⟩ | ⟨h0, ho⟩
  · rw [show (ePass c x1 x2).1 = oV ra from ho]
    have h0 : ta = 0 := h0
    refine g_khv ?_
    refine g_i2l d_L_pass_8 ?_
    refine g_lastoreA 68 (by omega) h681 (iI_nI 0).symm (by decide) (by rfl) d_L_pass_9 (fun w2 hs hs9 => ?_)
    refine g_goto (tgt := 21) (by decide) d_L_pass_10 ?_
    refine g_iconst_i d_L_pass_21 ?_
    refine g_ireturn_i rfl d_L_pass_22 ?_
    have hq := hQ w2 im1 _ ⟨fun j h1 h2 h3 => (hs9 j h2).trans (hN.1 j h1), hN.2.1, hN.2.2.frame (fun j hj => hs9 j (by omega))⟩ hs (fun j hj => (hs9 j (by omega)).trans (hN.1 j (by omega))) (fun _ => by rw [vp0])
    rw [h0] at hq
    exact hq
  · rw [ho]
    have h0 : ta = 1 := h0
    refine g_khx ⟨13, hn_L_pass_1, fun q => ?_⟩
    refine g_astore (i := 4) (by decide) rfl d_L_pass_13 ?_
    refine g_iconst_i d_L_pass_15 ?_
    refine g_ireturn_i rfl d_L_pass_16 ?_
    have hq := hQ w1 im1 g0 ⟨fun j h1 h2 h3 => hN.1 j h1, hN.2.1, hN.2.2⟩ h681 (fun j hj => hN.1 j (by omega)) (fun h9 => by omega)
    rw [h0] at hq
    exact hq
  · rw [ho]
    have h0 : ta = 2 := h0
    refine g_khx ⟨17, hn_L_pass_2, fun q => ?_⟩
    refine g_astore (i := 4) (by decide) rfl d_L_pass_17 ?_
    refine g_iconst_i d_L_pass_19 ?_
    refine g_ireturn_i rfl d_L_pass_20 ?_
    have hq := hQ w1 im1 g0 ⟨fun j h1 h2 h3 => hN.1 j h1, hN.2.1, hN.2.2⟩ h681 (fun j hj => hN.1 j (by omega)) (fun h9 => by omega)
    rw [h0] at hq
    exact hq


theorem hn_L_reason_1 : g_hnd m_L_reason "java/lang/IndexOutOfBoundsException" 5 13 := ⟨[], _, _, "java/lang/IndexOutOfBoundsException", rfl, (fun z hz => (by cases hz)), by decide, by decide, g_mem 563 (by decide +kernel) rfl, g_bmem 601 (by decide +kernel) rfl, rfl⟩
theorem c_L_reason {E : gE} {w : gW} {im : gIm} {Q : gQ} {c : CSt} (hx : XW E w im c) {x1 x2 : Int} (rx1 : -2147483648 ≤ x1 ∧ x1 < 2147483648) (rx2 : -2147483648 ≤ x2 ∧ x2 < 2147483648) {ta ra : Int} (hA : An sIB sIA (oRea (cN c) x1 x2) (ta, ra)) (ha2 : ta ≠ 2) {g0 : Nat → Int64} (h68 : w 68 = lgE g0) (hQ : ∀ w' im' g, LX E w im (c) w' im' → w' 68 = lgE g → (∀ j, j = 69 → w' j = w j) → (ta = 0 → g 0 = (iI ra).toInt64) → Q (.inl (some (.int (iI ta)))) w' im') : GM E 5 y_L_reason m_L_reason 2 12 [.ref (gad E 0), .int (iI x1), .int (iI x2), .ref (gad E 68)] w im Q := by
  have hn := hx.1.1
  have k0 : g_cell E w im (gad E 0) _ := g_mut 0 (by omega) hx.1.2.1
  refine g_entryH (by decide) rfl rfl (fun h => by cases h) (Nat.le_of_ble_eq_true rfl) ?_
  refine g_aload_n (n := 3) (i := 3) rfl rfl d_L_reason_0 ?_
  refine g_iconst_i d_L_reason_1 ?_
  refine g_aload_n (n := 0) (i := 0) rfl rfl d_L_reason_2 ?_
  refine g_iload_n (n := 1) (i := 1) rfl rfl d_L_reason_3 ?_
  refine g_iload_n (n := 2) (i := 2) rfl rfl d_L_reason_4 ?_
  refine g_callVH2 rfl e_X_reason l_L_58 iv_X_reason 0 (by decide) rfl k0 (by decide) (Nat.le_refl _) (Nat.le_refl _) (Nat.le_of_ble_eq_true rfl) d_L_reason_5 (c_X_reason hx rx1 rx2 (fun o w1 im1 he hN => ?_))
  rw [he]
  have h681 : w1 68 = lgE g0 := (hN.1 68 (by omega)).trans h68
  rcases hA with ⟨h0, ho⟩ | ⟨h0, ho⟩ | ⟨h0, ho⟩
  · rw [show oRea (cN c) x1 x2 = oV ra from ho]
    have h0 : ta = 0 := h0
    refine g_khv ?_
    refine g_i2l d_L_reason_8 ?_
    refine g_lastoreA 68 (by omega) h681 (iI_nI 0).symm (by decide) (by rfl) d_L_reason_9 (fun w2 hs hs9 => ?_)
    refine g_goto (tgt := 17) (by decide) d_L_reason_10 ?_
    refine g_iconst_i d_L_reason_17 ?_
    refine g_ireturn_i rfl d_L_reason_18 ?_
    have hq := hQ w2 im1 _ ⟨fun j h1 h2 h3 => (hs9 j h2).trans (hN.1 j h1), hN.2.1, hN.2.2.frame (fun j hj => hs9 j (by omega))⟩ hs (fun j hj => (hs9 j (by omega)).trans (hN.1 j (by omega))) (fun _ => by rw [vp0])
    rw [h0] at hq
    exact hq
  · rw [ho]
    have h0 : ta = 1 := h0
    refine g_khx ⟨13, hn_L_reason_1, fun q => ?_⟩
    refine g_astore (i := 4) (by decide) rfl d_L_reason_13 ?_
    refine g_iconst_i d_L_reason_15 ?_
    refine g_ireturn_i rfl d_L_reason_16 ?_
    have hq := hQ w1 im1 g0 ⟨fun j h1 h2 h3 => hN.1 j h1, hN.2.1, hN.2.2⟩ h681 (fun j hj => hN.1 j (by omega)) (fun h9 => by omega)
    rw [h0] at hq
    exact hq
  · exact absurd h0 ha2


theorem hn_L_openGates_1 : g_hnd m_L_openGates "java/lang/IndexOutOfBoundsException" 4 12 := ⟨[], _, _, "java/lang/IndexOutOfBoundsException", rfl, (fun z hz => (by cases hz)), by decide, by decide, g_mem 563 (by decide +kernel) rfl, g_bmem 601 (by decide +kernel) rfl, rfl⟩
theorem c_L_openGates {E : gE} {w : gW} {im : gIm} {Q : gQ} {c : CSt} (hx : XW E w im c) {x1 : Int} (rx1 : -2147483648 ≤ x1 ∧ x1 < 2147483648) {ta ra : Int} (hA : An sIB sIA (oOpe (cN c) x1) (ta, ra)) (ha2 : ta ≠ 2) {g0 : Nat → Int64} (h68 : w 68 = lgE g0) (hQ : ∀ w' im' g, LX E w im (c) w' im' → w' 68 = lgE g → (∀ j, j = 69 → w' j = w j) → (ta = 0 → g 0 = (iI ra).toInt64) → Q (.inl (some (.int (iI ta)))) w' im') : GM E 6 y_L_openGates m_L_openGates 1 6 [.ref (gad E 0), .int (iI x1), .ref (gad E 68)] w im Q := by
  have hn := hx.1.1
  have k0 : g_cell E w im (gad E 0) _ := g_mut 0 (by omega) hx.1.2.1
  refine g_entryH (by decide) rfl rfl (fun h => by cases h) (Nat.le_of_ble_eq_true rfl) ?_
  refine g_aload_n (n := 2) (i := 2) rfl rfl d_L_openGates_0 ?_
  refine g_iconst_i d_L_openGates_1 ?_
  refine g_aload_n (n := 0) (i := 0) rfl rfl d_L_openGates_2 ?_
  refine g_iload_n (n := 1) (i := 1) rfl rfl d_L_openGates_3 ?_
  refine g_callVH1 rfl e_X_openGates l_L_61 iv_X_openGates 0 (by decide) rfl k0 (by decide) (Nat.le_refl _) (Nat.le_refl _) (Nat.le_of_ble_eq_true rfl) d_L_openGates_4 (c_X_openGates hx rx1 (fun o w1 im1 he hN => ?_))
  rw [he]
  have h681 : w1 68 = lgE g0 := (hN.1 68 (by omega)).trans h68
  rcases hA with ⟨h0, ho⟩ | ⟨h0, ho⟩ | ⟨h0, ho⟩
  · rw [show oOpe (cN c) x1 = oV ra from ho]
    have h0 : ta = 0 := h0
    refine g_khv ?_
    refine g_i2l d_L_openGates_7 ?_
    refine g_lastoreA 68 (by omega) h681 (iI_nI 0).symm (by decide) (by rfl) d_L_openGates_8 (fun w2 hs hs9 => ?_)
    refine g_goto (tgt := 15) (by decide) d_L_openGates_9 ?_
    refine g_iconst_i d_L_openGates_15 ?_
    refine g_ireturn_i rfl d_L_openGates_16 ?_
    have hq := hQ w2 im1 _ ⟨fun j h1 h2 h3 => (hs9 j h2).trans (hN.1 j h1), hN.2.1, hN.2.2.frame (fun j hj => hs9 j (by omega))⟩ hs (fun j hj => (hs9 j (by omega)).trans (hN.1 j (by omega))) (fun _ => by rw [vp0])
    rw [h0] at hq
    exact hq
  · rw [ho]
    have h0 : ta = 1 := h0
    refine g_khx ⟨12, hn_L_openGates_1, fun q => ?_⟩
    refine g_astore_n (n := 3) (i := 3) rfl (by decide) rfl d_L_openGates_12 ?_
    refine g_iconst_i d_L_openGates_13 ?_
    refine g_ireturn_i rfl d_L_openGates_14 ?_
    have hq := hQ w1 im1 g0 ⟨fun j h1 h2 h3 => hN.1 j h1, hN.2.1, hN.2.2⟩ h681 (fun j hj => hN.1 j (by omega)) (fun h9 => by omega)
    rw [h0] at hq
    exact hq
  · exact absurd h0 ha2


theorem hn_L_refusal_1 : g_hnd m_L_refusal "java/lang/IllegalStateException" 4 12 := ⟨[], _, _, "java/lang/IllegalStateException", rfl, (fun z hz => (by cases hz)), by decide, by decide, g_mem 364 (by decide +kernel) rfl, g_bmem 449 (by decide +kernel) rfl, rfl⟩
theorem hn_L_refusal_2 : g_hnd m_L_refusal "java/util/NoSuchElementException" 4 15 := ⟨[_], _, _, "java/util/NoSuchElementException", rfl, (fun z hz => (by
  rcases List.mem_singleton.1 hz with rfl
  exact Or.inr ⟨by decide, "java/lang/IllegalStateException", g_mem 364 (by decide +kernel) rfl, by decide +kernel⟩)), by decide, by decide, g_mem 933 (by decide +kernel) rfl, g_bmem 945 (by decide +kernel) rfl, rfl⟩
theorem c_L_refusal {E : gE} {w : gW} {im : gIm} {Q : gQ} {c : CSt} (hx : XW E w im c) {x1 : Int} (rx1 : -2147483648 ≤ x1 ∧ x1 < 2147483648) {ta ra : Int} (hA : An sIS sNS (oRfs (cF c).2.1 x1) (ta, ra)) {g0 : Nat → Int64} (h68 : w 68 = lgE g0) (hQ : ∀ w' im' g, LX E w im (c) w' im' → w' 68 = lgE g → (∀ j, j = 69 → w' j = w j) → (ta = 0 → g 0 = (iI ra).toInt64) → Q (.inl (some (.int (iI ta)))) w' im') : GM E 2 y_L_refusal m_L_refusal 1 6 [.ref (gad E 0), .int (iI x1), .ref (gad E 68)] w im Q := by
  have hn := hx.1.1
  have k0 : g_cell E w im (gad E 0) _ := g_mut 0 (by omega) hx.1.2.1
  refine g_entryH (by decide) rfl rfl (fun h => by cases h) (Nat.le_of_ble_eq_true rfl) ?_
  refine g_aload_n (n := 2) (i := 2) rfl rfl d_L_refusal_0 ?_
  refine g_iconst_i d_L_refusal_1 ?_
  refine g_aload_n (n := 0) (i := 0) rfl rfl d_L_refusal_2 ?_
  refine g_iload_n (n := 1) (i := 1) rfl rfl d_L_refusal_3 ?_
  refine g_callVH1 rfl e_X_refusal l_L_64 iv_X_refusal 0 (by decide) rfl k0 (by decide) (Nat.le_refl _) (Nat.le_refl _) (Nat.le_of_ble_eq_true rfl) d_L_refusal_4 (c_X_refusal hx rx1 (fun o w1 im1 he hN => ?_))
  rw [he]
  have h681 : w1 68 = lgE g0 := (hN.1 68 (by omega)).trans h68
  rcases hA with ⟨h0, ho⟩ | ⟨h0, ho⟩ | ⟨h0, ho⟩
  · rw [show oRfs (cF c).2.1 x1 = oV ra from ho]
    have h0 : ta = 0 := h0
    refine g_khv ?_
    refine g_i2l d_L_refusal_7 ?_
    refine g_lastoreA 68 (by omega) h681 (iI_nI 0).symm (by decide) (by rfl) d_L_refusal_8 (fun w2 hs hs9 => ?_)
    refine g_goto (tgt := 18) (by decide) d_L_refusal_9 ?_
    refine g_iconst_i d_L_refusal_18 ?_
    refine g_ireturn_i rfl d_L_refusal_19 ?_
    have hq := hQ w2 im1 _ ⟨fun j h1 h2 h3 => (hs9 j h2).trans (hN.1 j h1), hN.2.1, hN.2.2.frame (fun j hj => hs9 j (by omega))⟩ hs (fun j hj => (hs9 j (by omega)).trans (hN.1 j (by omega))) (fun _ => by rw [vp0])
    rw [h0] at hq
    exact hq
  · rw [ho]
    have h0 : ta = 1 := h0
    refine g_khx ⟨12, hn_L_refusal_1, fun q => ?_⟩
    refine g_astore_n (n := 3) (i := 3) rfl (by decide) rfl d_L_refusal_12 ?_
    refine g_iconst_i d_L_refusal_13 ?_
    refine g_ireturn_i rfl d_L_refusal_14 ?_
    have hq := hQ w1 im1 g0 ⟨fun j h1 h2 h3 => hN.1 j h1, hN.2.1, hN.2.2⟩ h681 (fun j hj => hN.1 j (by omega)) (fun h9 => by omega)
    rw [h0] at hq
    exact hq
  · rw [ho]
    have h0 : ta = 2 := h0
    refine g_khx ⟨15, hn_L_refusal_2, fun q => ?_⟩
    refine g_astore_n (n := 3) (i := 3) rfl (by decide) rfl d_L_refusal_15 ?_
    refine g_iconst_i d_L_refusal_16 ?_
    refine g_ireturn_i rfl d_L_refusal_17 ?_
    have hq := hQ w1 im1 g0 ⟨fun j h1 h2 h3 => hN.1 j h1, hN.2.1, hN.2.2⟩ h681 (fun j hj => hN.1 j (by omega)) (fun h9 => by omega)
    rw [h0] at hq
    exact hq


theorem hn_L_block_1 : g_hnd m_L_block "java/lang/IndexOutOfBoundsException" 5 13 := ⟨[], _, _, "java/lang/IndexOutOfBoundsException", rfl, (fun z hz => (by cases hz)), by decide, by decide, g_mem 563 (by decide +kernel) rfl, g_bmem 601 (by decide +kernel) rfl, rfl⟩
theorem hn_L_block_2 : g_hnd m_L_block "java/lang/IllegalStateException" 5 17 := ⟨[_], _, _, "java/lang/IllegalStateException", rfl, (fun z hz => (by
  rcases List.mem_singleton.1 hz with rfl
  exact Or.inr ⟨by decide, "java/lang/IndexOutOfBoundsException", g_mem 563 (by decide +kernel) rfl, by decide +kernel⟩)), by decide, by decide, g_mem 364 (by decide +kernel) rfl, g_bmem 449 (by decide +kernel) rfl, rfl⟩
theorem c_L_block {E : gE} {w : gW} {im : gIm} {Q : gQ} {c : CSt} (hx : XW E w im c) {x1 x2 : Int} (rx1 : -2147483648 ≤ x1 ∧ x1 < 2147483648) (rx2 : 0 ≤ x2 ∧ x2 ≤ 1) {ta ra : Int} (hA : An sIB sIS ((eBlk c x1 x2).1) (ta, ra)) {g0 : Nat → Int64} (h68 : w 68 = lgE g0) (hQ : ∀ w' im' g, LX E w im ((eBlk c x1 x2).2) w' im' → w' 68 = lgE g → (∀ j, j = 69 → w' j = w j) → (ta = 0 → g 0 = (iI ra).toInt64) → Q (.inl (some (.int (iI ta)))) w' im') : GM E 4 y_L_block m_L_block 2 12 [.ref (gad E 0), .int (iI x1), .int (iI x2), .ref (gad E 68)] w im Q := by
  have hn := hx.1.1
  have k0 : g_cell E w im (gad E 0) _ := g_mut 0 (by omega) hx.1.2.1
  refine g_entryH (by decide) rfl rfl (fun h => by cases h) (Nat.le_of_ble_eq_true rfl) ?_
  refine g_aload_n (n := 3) (i := 3) rfl rfl d_L_block_0 ?_
  refine g_iconst_i d_L_block_1 ?_
  refine g_aload_n (n := 0) (i := 0) rfl rfl d_L_block_2 ?_
  refine g_iload_n (n := 1) (i := 1) rfl rfl d_L_block_3 ?_
  refine g_iload_n (n := 2) (i := 2) rfl rfl d_L_block_4 ?_
  refine g_callVH2 rfl e_X_block l_L_69 iv_X_block 0 (by decide) rfl k0 (by decide) (Nat.le_refl _) (Nat.le_refl _) (Nat.le_of_ble_eq_true rfl) d_L_block_5 (c_X_block hx rx1 rx2 (fun o c2 w1 im1 he hN => ?_))
  have e1 : o = (eBlk c x1 x2).1 := congrArg Prod.fst he
  have e2 : c2 = (eBlk c x1 x2).2 := congrArg Prod.snd he
  rw [e2] at hN
  rw [e1]
  have h681 : w1 68 = lgE g0 := (hN.1 68 (by omega)).trans h68
  rcases hA with ⟨h0, ho⟩ | ⟨h0, ho⟩ | ⟨h0, ho⟩
  · rw [show (eBlk c x1 x2).1 = oV ra from ho]
    have h0 : ta = 0 := h0
    refine g_khv ?_
    refine g_i2l d_L_block_8 ?_
    refine g_lastoreA 68 (by omega) h681 (iI_nI 0).symm (by decide) (by rfl) d_L_block_9 (fun w2 hs hs9 => ?_)
    refine g_goto (tgt := 21) (by decide) d_L_block_10 ?_
    refine g_iconst_i d_L_block_21 ?_
    refine g_ireturn_i rfl d_L_block_22 ?_
    have hq := hQ w2 im1 _ ⟨fun j h1 h2 h3 => (hs9 j h2).trans (hN.1 j h1), hN.2.1, hN.2.2.frame (fun j hj => hs9 j (by omega))⟩ hs (fun j hj => (hs9 j (by omega)).trans (hN.1 j (by omega))) (fun _ => by rw [vp0])
    rw [h0] at hq
    exact hq
  · rw [ho]
    have h0 : ta = 1 := h0
    refine g_khx ⟨13, hn_L_block_1, fun q => ?_⟩
    refine g_astore (i := 4) (by decide) rfl d_L_block_13 ?_
    refine g_iconst_i d_L_block_15 ?_
    refine g_ireturn_i rfl d_L_block_16 ?_
    have hq := hQ w1 im1 g0 ⟨fun j h1 h2 h3 => hN.1 j h1, hN.2.1, hN.2.2⟩ h681 (fun j hj => hN.1 j (by omega)) (fun h9 => by omega)
    rw [h0] at hq
    exact hq
  · rw [ho]
    have h0 : ta = 2 := h0
    refine g_khx ⟨17, hn_L_block_2, fun q => ?_⟩
    refine g_astore (i := 4) (by decide) rfl d_L_block_17 ?_
    refine g_iconst_i d_L_block_19 ?_
    refine g_ireturn_i rfl d_L_block_20 ?_
    have hq := hQ w1 im1 g0 ⟨fun j h1 h2 h3 => hN.1 j h1, hN.2.1, hN.2.2⟩ h681 (fun j hj => hN.1 j (by omega)) (fun h9 => by omega)
    rw [h0] at hq
    exact hq


theorem hn_L_replace_1 : g_hnd m_L_replace "java/lang/IndexOutOfBoundsException" 4 12 := ⟨[], _, _, "java/lang/IndexOutOfBoundsException", rfl, (fun z hz => (by cases hz)), by decide, by decide, g_mem 563 (by decide +kernel) rfl, g_bmem 601 (by decide +kernel) rfl, rfl⟩
theorem hn_L_replace_2 : g_hnd m_L_replace "java/lang/IllegalStateException" 4 15 := ⟨[_], _, _, "java/lang/IllegalStateException", rfl, (fun z hz => (by
  rcases List.mem_singleton.1 hz with rfl
  exact Or.inr ⟨by decide, "java/lang/IndexOutOfBoundsException", g_mem 563 (by decide +kernel) rfl, by decide +kernel⟩)), by decide, by decide, g_mem 364 (by decide +kernel) rfl, g_bmem 449 (by decide +kernel) rfl, rfl⟩
theorem c_L_replace {E : gE} {w : gW} {im : gIm} {Q : gQ} {c : CSt} (hx : XW E w im c) {x1 : Int} (rx1 : -2147483648 ≤ x1 ∧ x1 < 2147483648) {ta ra : Int} (hA : An sIB sIS ((eRep c x1).1) (ta, ra)) {g0 : Nat → Int64} (h68 : w 68 = lgE g0) (hQ : ∀ w' im' g, LX E w im ((eRep c x1).2) w' im' → w' 68 = lgE g → (∀ j, j = 69 → w' j = w j) → (ta = 0 → g 0 = (iI ra).toInt64) → Q (.inl (some (.int (iI ta)))) w' im') : GM E 4 y_L_replace m_L_replace 3 18 [.ref (gad E 0), .int (iI x1), .ref (gad E 68)] w im Q := by
  have hn := hx.1.1
  have k0 : g_cell E w im (gad E 0) _ := g_mut 0 (by omega) hx.1.2.1
  refine g_entryH (by decide) rfl rfl (fun h => by cases h) (Nat.le_of_ble_eq_true rfl) ?_
  refine g_aload_n (n := 2) (i := 2) rfl rfl d_L_replace_0 ?_
  refine g_iconst_i d_L_replace_1 ?_
  refine g_aload_n (n := 0) (i := 0) rfl rfl d_L_replace_2 ?_
  refine g_iload_n (n := 1) (i := 1) rfl rfl d_L_replace_3 ?_
  refine g_callVH1 rfl e_X_replace l_L_73 iv_X_replace 0 (by decide) rfl k0 (by decide) (Nat.le_refl _) (Nat.le_refl _) (Nat.le_of_ble_eq_true rfl) d_L_replace_4 (c_X_replace hx rx1 (fun o c2 w1 im1 he hN => ?_))
  have e1 : o = (eRep c x1).1 := congrArg Prod.fst he
  have e2 : c2 = (eRep c x1).2 := congrArg Prod.snd he
  rw [e2] at hN
  rw [e1]
  have h681 : w1 68 = lgE g0 := (hN.1 68 (by omega)).trans h68
  rcases hA with ⟨h0, ho⟩ | ⟨h0, ho⟩ | ⟨h0, ho⟩
  · rw [show (eRep c x1).1 = oV ra from ho]
    have h0 : ta = 0 := h0
    refine g_khv ?_
    refine g_i2l d_L_replace_7 ?_
    refine g_lastoreA 68 (by omega) h681 (iI_nI 0).symm (by decide) (by rfl) d_L_replace_8 (fun w2 hs hs9 => ?_)
    refine g_goto (tgt := 18) (by decide) d_L_replace_9 ?_
    refine g_iconst_i d_L_replace_18 ?_
    refine g_ireturn_i rfl d_L_replace_19 ?_
    have hq := hQ w2 im1 _ ⟨fun j h1 h2 h3 => (hs9 j h2).trans (hN.1 j h1), hN.2.1, hN.2.2.frame (fun j hj => hs9 j (by omega))⟩ hs (fun j hj => (hs9 j (by omega)).trans (hN.1 j (by omega))) (fun _ => by rw [vp0])
    rw [h0] at hq
    exact hq
  · rw [ho]
    have h0 : ta = 1 := h0
    refine g_khx ⟨12, hn_L_replace_1, fun q => ?_⟩
    refine g_astore_n (n := 3) (i := 3) rfl (by decide) rfl d_L_replace_12 ?_
    refine g_iconst_i d_L_replace_13 ?_
    refine g_ireturn_i rfl d_L_replace_14 ?_
    have hq := hQ w1 im1 g0 ⟨fun j h1 h2 h3 => hN.1 j h1, hN.2.1, hN.2.2⟩ h681 (fun j hj => hN.1 j (by omega)) (fun h9 => by omega)
    rw [h0] at hq
    exact hq
  · rw [ho]
    have h0 : ta = 2 := h0
    refine g_khx ⟨15, hn_L_replace_2, fun q => ?_⟩
    refine g_astore_n (n := 3) (i := 3) rfl (by decide) rfl d_L_replace_15 ?_
    refine g_iconst_i d_L_replace_16 ?_
    refine g_ireturn_i rfl d_L_replace_17 ?_
    have hq := hQ w1 im1 g0 ⟨fun j h1 h2 h3 => hN.1 j h1, hN.2.1, hN.2.2⟩ h681 (fun j hj => hN.1 j (by omega)) (fun h9 => by omega)
    rw [h0] at hq
    exact hq


theorem hn_L_card_1 : g_hnd m_L_card "java/lang/IndexOutOfBoundsException" 5 13 := ⟨[], _, _, "java/lang/IndexOutOfBoundsException", rfl, (fun z hz => (by cases hz)), by decide, by decide, g_mem 563 (by decide +kernel) rfl, g_bmem 601 (by decide +kernel) rfl, rfl⟩
theorem hn_L_card_2 : g_hnd m_L_card "java/lang/IllegalArgumentException" 5 17 := ⟨[_], _, _, "java/lang/IllegalArgumentException", rfl, (fun z hz => (by
  rcases List.mem_singleton.1 hz with rfl
  exact Or.inr ⟨by decide, "java/lang/IndexOutOfBoundsException", g_mem 563 (by decide +kernel) rfl, by decide +kernel⟩)), by decide, by decide, g_mem 363 (by decide +kernel) rfl, g_bmem 377 (by decide +kernel) rfl, rfl⟩
theorem c_L_card {E : gE} {w : gW} {im : gIm} {Q : gQ} {c : CSt} (hx : XW E w im c) {x1 x2 : Int} (rx1 : -2147483648 ≤ x1 ∧ x1 < 2147483648) (rx2 : -2147483648 ≤ x2 ∧ x2 < 2147483648) {ta ra : Int} (hA : An sIB sIA (oCard (cN c) x1 x2) (ta, ra)) {g0 : Nat → Int64} (h68 : w 68 = lgE g0) (hQ : ∀ w' im' g, LX E w im (c) w' im' → w' 68 = lgE g → (∀ j, j = 69 → w' j = w j) → (ta = 0 → g 0 = (iI ra).toInt64) → Q (.inl (some (.int (iI ta)))) w' im') : GM E 4 y_L_card m_L_card 2 12 [.ref (gad E 0), .int (iI x1), .int (iI x2), .ref (gad E 68)] w im Q := by
  have hn := hx.1.1
  have k0 : g_cell E w im (gad E 0) _ := g_mut 0 (by omega) hx.1.2.1
  refine g_entryH (by decide) rfl rfl (fun h => by cases h) (Nat.le_of_ble_eq_true rfl) ?_
  refine g_aload_n (n := 3) (i := 3) rfl rfl d_L_card_0 ?_
  refine g_iconst_i d_L_card_1 ?_
  refine g_aload_n (n := 0) (i := 0) rfl rfl d_L_card_2 ?_
  refine g_iload_n (n := 1) (i := 1) rfl rfl d_L_card_3 ?_
  refine g_iload_n (n := 2) (i := 2) rfl rfl d_L_card_4 ?_
  refine g_callVH2 rfl e_X_card l_L_76 iv_X_card 0 (by decide) rfl k0 (by decide) (Nat.le_refl _) (Nat.le_refl _) (Nat.le_of_ble_eq_true rfl) d_L_card_5 (c_X_card hx rx1 rx2 (fun o w1 im1 he hN => ?_))
  rw [he]
  have h681 : w1 68 = lgE g0 := (hN.1 68 (by omega)).trans h68
  rcases hA with ⟨h0, ho⟩ | ⟨h0, ho⟩ | ⟨h0, ho⟩
  · rw [show oCard (cN c) x1 x2 = oV ra from ho]
    have h0 : ta = 0 := h0
    refine g_khv ?_
    refine g_i2l d_L_card_8 ?_
    refine g_lastoreA 68 (by omega) h681 (iI_nI 0).symm (by decide) (by rfl) d_L_card_9 (fun w2 hs hs9 => ?_)
    refine g_goto (tgt := 21) (by decide) d_L_card_10 ?_
    refine g_iconst_i d_L_card_21 ?_
    refine g_ireturn_i rfl d_L_card_22 ?_
    have hq := hQ w2 im1 _ ⟨fun j h1 h2 h3 => (hs9 j h2).trans (hN.1 j h1), hN.2.1, hN.2.2.frame (fun j hj => hs9 j (by omega))⟩ hs (fun j hj => (hs9 j (by omega)).trans (hN.1 j (by omega))) (fun _ => by rw [vp0])
    rw [h0] at hq
    exact hq
  · rw [ho]
    have h0 : ta = 1 := h0
    refine g_khx ⟨13, hn_L_card_1, fun q => ?_⟩
    refine g_astore (i := 4) (by decide) rfl d_L_card_13 ?_
    refine g_iconst_i d_L_card_15 ?_
    refine g_ireturn_i rfl d_L_card_16 ?_
    have hq := hQ w1 im1 g0 ⟨fun j h1 h2 h3 => hN.1 j h1, hN.2.1, hN.2.2⟩ h681 (fun j hj => hN.1 j (by omega)) (fun h9 => by omega)
    rw [h0] at hq
    exact hq
  · rw [ho]
    have h0 : ta = 2 := h0
    refine g_khx ⟨17, hn_L_card_2, fun q => ?_⟩
    refine g_astore (i := 4) (by decide) rfl d_L_card_17 ?_
    refine g_iconst_i d_L_card_19 ?_
    refine g_ireturn_i rfl d_L_card_20 ?_
    have hq := hQ w1 im1 g0 ⟨fun j h1 h2 h3 => hN.1 j h1, hN.2.1, hN.2.2⟩ h681 (fun j hj => hN.1 j (by omega)) (fun h9 => by omega)
    rw [h0] at hq
    exact hq


theorem hn_L_ride_1 : g_hnd m_L_ride "java/lang/IndexOutOfBoundsException" 7 15 := ⟨[], _, _, "java/lang/IndexOutOfBoundsException", rfl, (fun z hz => (by cases hz)), by decide, by decide, g_mem 563 (by decide +kernel) rfl, g_bmem 601 (by decide +kernel) rfl, rfl⟩
theorem hn_L_ride_2 : g_hnd m_L_ride "java/util/NoSuchElementException" 7 19 := ⟨[_], _, _, "java/util/NoSuchElementException", rfl, (fun z hz => (by
  rcases List.mem_singleton.1 hz with rfl
  exact Or.inr ⟨by decide, "java/lang/IndexOutOfBoundsException", g_mem 563 (by decide +kernel) rfl, by decide +kernel⟩)), by decide, by decide, g_mem 933 (by decide +kernel) rfl, g_bmem 945 (by decide +kernel) rfl, rfl⟩
theorem c_L_ride {E : gE} {w : gW} {im : gIm} {Q : gQ} {c : CSt} (hx : XW E w im c) {x1 x2 x3 : Int} (rx1 : -2147483648 ≤ x1 ∧ x1 < 2147483648) (rx2 : -2147483648 ≤ x2 ∧ x2 < 2147483648) (rx3 : 0 ≤ x3 ∧ x3 ≤ 1) {ta ra : Int} (hA : An sIB sNS (oRide (cN c) x1 x2 x3) (ta, ra)) {g0 : Nat → Int64} (h68 : w 68 = lgE g0) (hQ : ∀ w' im' g, LX E w im (c) w' im' → w' 68 = lgE g → (∀ j, j = 69 → w' j = w j) → (ta = 0 → g 0 = (iI ra).toInt64) → Q (.inl (some (.int (iI ta)))) w' im') : GM E 3 y_L_ride m_L_ride 2 12 [.ref (gad E 0), .int (iI x1), .int (iI x2), .int (iI x3), .ref (gad E 68)] w im Q := by
  have hn := hx.1.1
  have k0 : g_cell E w im (gad E 0) _ := g_mut 0 (by omega) hx.1.2.1
  refine g_entryH (by decide) rfl rfl (fun h => by cases h) (Nat.le_of_ble_eq_true rfl) ?_
  refine g_aload (i := 4) rfl d_L_ride_0 ?_
  refine g_iconst_i d_L_ride_2 ?_
  refine g_aload_n (n := 0) (i := 0) rfl rfl d_L_ride_3 ?_
  refine g_iload_n (n := 1) (i := 1) rfl rfl d_L_ride_4 ?_
  refine g_iload_n (n := 2) (i := 2) rfl rfl d_L_ride_5 ?_
  refine g_iload_n (n := 3) (i := 3) rfl rfl d_L_ride_6 ?_
  refine g_callVH3 rfl e_X_ride l_L_79 iv_X_ride 0 (by decide) rfl k0 (by decide) (Nat.le_refl _) (Nat.le_refl _) (Nat.le_of_ble_eq_true rfl) d_L_ride_7 (c_X_ride hx rx1 rx2 rx3 (fun o w1 im1 he hN => ?_))
  rw [he]
  have h681 : w1 68 = lgE g0 := (hN.1 68 (by omega)).trans h68
  rcases hA with ⟨h0, ho⟩ | ⟨h0, ho⟩ | ⟨h0, ho⟩
  · rw [show oRide (cN c) x1 x2 x3 = oV ra from ho]
    have h0 : ta = 0 := h0
    refine g_khv ?_
    refine g_i2l d_L_ride_10 ?_
    refine g_lastoreA 68 (by omega) h681 (iI_nI 0).symm (by decide) (by rfl) d_L_ride_11 (fun w2 hs hs9 => ?_)
    refine g_goto (tgt := 23) (by decide) d_L_ride_12 ?_
    refine g_iconst_i d_L_ride_23 ?_
    refine g_ireturn_i rfl d_L_ride_24 ?_
    have hq := hQ w2 im1 _ ⟨fun j h1 h2 h3 => (hs9 j h2).trans (hN.1 j h1), hN.2.1, hN.2.2.frame (fun j hj => hs9 j (by omega))⟩ hs (fun j hj => (hs9 j (by omega)).trans (hN.1 j (by omega))) (fun _ => by rw [vp0])
    rw [h0] at hq
    exact hq
  · rw [ho]
    have h0 : ta = 1 := h0
    refine g_khx ⟨15, hn_L_ride_1, fun q => ?_⟩
    refine g_astore (i := 5) (by decide) rfl d_L_ride_15 ?_
    refine g_iconst_i d_L_ride_17 ?_
    refine g_ireturn_i rfl d_L_ride_18 ?_
    have hq := hQ w1 im1 g0 ⟨fun j h1 h2 h3 => hN.1 j h1, hN.2.1, hN.2.2⟩ h681 (fun j hj => hN.1 j (by omega)) (fun h9 => by omega)
    rw [h0] at hq
    exact hq
  · rw [ho]
    have h0 : ta = 2 := h0
    refine g_khx ⟨19, hn_L_ride_2, fun q => ?_⟩
    refine g_astore (i := 5) (by decide) rfl d_L_ride_19 ?_
    refine g_iconst_i d_L_ride_21 ?_
    refine g_ireturn_i rfl d_L_ride_22 ?_
    have hq := hQ w1 im1 g0 ⟨fun j h1 h2 h3 => hN.1 j h1, hN.2.1, hN.2.2⟩ h681 (fun j hj => hN.1 j (by omega)) (fun h9 => by omega)
    rw [h0] at hq
    exact hq


theorem hn_L_refundable_1 : g_hnd m_L_refundable "java/lang/IndexOutOfBoundsException" 4 12 := ⟨[], _, _, "java/lang/IndexOutOfBoundsException", rfl, (fun z hz => (by cases hz)), by decide, by decide, g_mem 563 (by decide +kernel) rfl, g_bmem 601 (by decide +kernel) rfl, rfl⟩
theorem c_L_refundable {E : gE} {w : gW} {im : gIm} {Q : gQ} {c : CSt} (hx : XW E w im c) {x1 : Int} (rx1 : -2147483648 ≤ x1 ∧ x1 < 2147483648) {ta ra : Int} (hA : An sIB sIA (oRfb (cN c) x1) (ta, ra)) (ha2 : ta ≠ 2) {g0 : Nat → Int64} (h68 : w 68 = lgE g0) (hQ : ∀ w' im' g, LX E w im (c) w' im' → w' 68 = lgE g → (∀ j, j = 69 → w' j = w j) → (ta = 0 → g 0 = (iI ra).toInt64) → Q (.inl (some (.int (iI ta)))) w' im') : GM E 5 y_L_refundable m_L_refundable 1 6 [.ref (gad E 0), .int (iI x1), .ref (gad E 68)] w im Q := by
  have hn := hx.1.1
  have k0 : g_cell E w im (gad E 0) _ := g_mut 0 (by omega) hx.1.2.1
  refine g_entryH (by decide) rfl rfl (fun h => by cases h) (Nat.le_of_ble_eq_true rfl) ?_
  refine g_aload_n (n := 2) (i := 2) rfl rfl d_L_refundable_0 ?_
  refine g_iconst_i d_L_refundable_1 ?_
  refine g_aload_n (n := 0) (i := 0) rfl rfl d_L_refundable_2 ?_
  refine g_iload_n (n := 1) (i := 1) rfl rfl d_L_refundable_3 ?_
  refine g_callVH1 rfl e_X_refundable l_L_83 iv_X_refundable 0 (by decide) rfl k0 (by decide) (Nat.le_refl _) (Nat.le_refl _) (Nat.le_of_ble_eq_true rfl) d_L_refundable_4 (c_X_refundable hx rx1 (fun o w1 im1 he hN => ?_))
  rw [he]
  have h681 : w1 68 = lgE g0 := (hN.1 68 (by omega)).trans h68
  rcases hA with ⟨h0, ho⟩ | ⟨h0, ho⟩ | ⟨h0, ho⟩
  · rw [show oRfb (cN c) x1 = oV ra from ho]
    have h0 : ta = 0 := h0
    refine g_khv ?_
    refine g_i2l d_L_refundable_7 ?_
    refine g_lastoreA 68 (by omega) h681 (iI_nI 0).symm (by decide) (by rfl) d_L_refundable_8 (fun w2 hs hs9 => ?_)
    refine g_goto (tgt := 15) (by decide) d_L_refundable_9 ?_
    refine g_iconst_i d_L_refundable_15 ?_
    refine g_ireturn_i rfl d_L_refundable_16 ?_
    have hq := hQ w2 im1 _ ⟨fun j h1 h2 h3 => (hs9 j h2).trans (hN.1 j h1), hN.2.1, hN.2.2.frame (fun j hj => hs9 j (by omega))⟩ hs (fun j hj => (hs9 j (by omega)).trans (hN.1 j (by omega))) (fun _ => by rw [vp0])
    rw [h0] at hq
    exact hq
  · rw [ho]
    have h0 : ta = 1 := h0
    refine g_khx ⟨12, hn_L_refundable_1, fun q => ?_⟩
    refine g_astore_n (n := 3) (i := 3) rfl (by decide) rfl d_L_refundable_12 ?_
    refine g_iconst_i d_L_refundable_13 ?_
    refine g_ireturn_i rfl d_L_refundable_14 ?_
    have hq := hQ w1 im1 g0 ⟨fun j h1 h2 h3 => hN.1 j h1, hN.2.1, hN.2.2⟩ h681 (fun j hj => hN.1 j (by omega)) (fun h9 => by omega)
    rw [h0] at hq
    exact hq
  · exact absurd h0 ha2


theorem hn_L_refund_1 : g_hnd m_L_refund "java/lang/IndexOutOfBoundsException" 4 12 := ⟨[], _, _, "java/lang/IndexOutOfBoundsException", rfl, (fun z hz => (by cases hz)), by decide, by decide, g_mem 563 (by decide +kernel) rfl, g_bmem 601 (by decide +kernel) rfl, rfl⟩
theorem hn_L_refund_2 : g_hnd m_L_refund "java/lang/IllegalStateException" 4 15 := ⟨[_], _, _, "java/lang/IllegalStateException", rfl, (fun z hz => (by
  rcases List.mem_singleton.1 hz with rfl
  exact Or.inr ⟨by decide, "java/lang/IndexOutOfBoundsException", g_mem 563 (by decide +kernel) rfl, by decide +kernel⟩)), by decide, by decide, g_mem 364 (by decide +kernel) rfl, g_bmem 449 (by decide +kernel) rfl, rfl⟩
theorem c_L_refund {E : gE} {w : gW} {im : gIm} {Q : gQ} {c : CSt} (hx : XW E w im c) {x1 : Int} (rx1 : -2147483648 ≤ x1 ∧ x1 < 2147483648) {ta ra : Int} (hA : An sIB sIS ((eRef c x1).1) (ta, ra)) {g0 : Nat → Int64} (h68 : w 68 = lgE g0) (hQ : ∀ w' im' g, LX E w im ((eRef c x1).2) w' im' → w' 68 = lgE g → (∀ j, j = 69 → w' j = w j) → (ta = 0 → g 0 = (iI ra).toInt64) → Q (.inl (some (.int (iI ta)))) w' im') : GM E 6 y_L_refund m_L_refund 2 12 [.ref (gad E 0), .int (iI x1), .ref (gad E 68)] w im Q := by
  have hn := hx.1.1
  have k0 : g_cell E w im (gad E 0) _ := g_mut 0 (by omega) hx.1.2.1
  refine g_entryH (by decide) rfl rfl (fun h => by cases h) (Nat.le_of_ble_eq_true rfl) ?_
  refine g_aload_n (n := 2) (i := 2) rfl rfl d_L_refund_0 ?_
  refine g_iconst_i d_L_refund_1 ?_
  refine g_aload_n (n := 0) (i := 0) rfl rfl d_L_refund_2 ?_
  refine g_iload_n (n := 1) (i := 1) rfl rfl d_L_refund_3 ?_
  refine g_callVH1 rfl e_X_refund l_L_86 iv_X_refund 0 (by decide) rfl k0 (by decide) (Nat.le_refl _) (Nat.le_refl _) (Nat.le_of_ble_eq_true rfl) d_L_refund_4 (c_X_refund hx rx1 (fun o c2 w1 im1 he hN => ?_))
  have e1 : o = (eRef c x1).1 := congrArg Prod.fst he
  have e2 : c2 = (eRef c x1).2 := congrArg Prod.snd he
  rw [e2] at hN
  rw [e1]
  have h681 : w1 68 = lgE g0 := (hN.1 68 (by omega)).trans h68
  rcases hA with ⟨h0, ho⟩ | ⟨h0, ho⟩ | ⟨h0, ho⟩
  · rw [show (eRef c x1).1 = oV ra from ho]
    have h0 : ta = 0 := h0
    refine g_khv ?_
    refine g_i2l d_L_refund_7 ?_
    refine g_lastoreA 68 (by omega) h681 (iI_nI 0).symm (by decide) (by rfl) d_L_refund_8 (fun w2 hs hs9 => ?_)
    refine g_goto (tgt := 18) (by decide) d_L_refund_9 ?_
    refine g_iconst_i d_L_refund_18 ?_
    refine g_ireturn_i rfl d_L_refund_19 ?_
    have hq := hQ w2 im1 _ ⟨fun j h1 h2 h3 => (hs9 j h2).trans (hN.1 j h1), hN.2.1, hN.2.2.frame (fun j hj => hs9 j (by omega))⟩ hs (fun j hj => (hs9 j (by omega)).trans (hN.1 j (by omega))) (fun _ => by rw [vp0])
    rw [h0] at hq
    exact hq
  · rw [ho]
    have h0 : ta = 1 := h0
    refine g_khx ⟨12, hn_L_refund_1, fun q => ?_⟩
    refine g_astore_n (n := 3) (i := 3) rfl (by decide) rfl d_L_refund_12 ?_
    refine g_iconst_i d_L_refund_13 ?_
    refine g_ireturn_i rfl d_L_refund_14 ?_
    have hq := hQ w1 im1 g0 ⟨fun j h1 h2 h3 => hN.1 j h1, hN.2.1, hN.2.2⟩ h681 (fun j hj => hN.1 j (by omega)) (fun h9 => by omega)
    rw [h0] at hq
    exact hq
  · rw [ho]
    have h0 : ta = 2 := h0
    refine g_khx ⟨15, hn_L_refund_2, fun q => ?_⟩
    refine g_astore_n (n := 3) (i := 3) rfl (by decide) rfl d_L_refund_15 ?_
    refine g_iconst_i d_L_refund_16 ?_
    refine g_ireturn_i rfl d_L_refund_17 ?_
    have hq := hQ w1 im1 g0 ⟨fun j h1 h2 h3 => hN.1 j h1, hN.2.1, hN.2.2⟩ h681 (fun j hj => hN.1 j (by omega)) (fun h9 => by omega)
    rw [h0] at hq
    exact hq


theorem hn_L_share_1 : g_hnd m_L_share "java/lang/IndexOutOfBoundsException" 5 13 := ⟨[], _, _, "java/lang/IndexOutOfBoundsException", rfl, (fun z hz => (by cases hz)), by decide, by decide, g_mem 563 (by decide +kernel) rfl, g_bmem 601 (by decide +kernel) rfl, rfl⟩
theorem c_L_share {E : gE} {w : gW} {im : gIm} {Q : gQ} {c : CSt} (hx : XW E w im c) {x1 x2 : Int} (rx1 : -2147483648 ≤ x1 ∧ x1 < 2147483648) (rx2 : -2147483648 ≤ x2 ∧ x2 < 2147483648) {ta ra : Int} (hA : An sIB sIA (oSha (cN c) x1 x2) (ta, ra)) (ha2 : ta ≠ 2) {g0 : Nat → Int64} (h68 : w 68 = lgE g0) (hQ : ∀ w' im' g, LX E w im (c) w' im' → w' 68 = lgE g → (∀ j, j = 69 → w' j = w j) → (ta = 0 → g 0 = (iI ra).toInt64) → Q (.inl (some (.int (iI ta)))) w' im') : GM E 4 y_L_share m_L_share 2 12 [.ref (gad E 0), .int (iI x1), .int (iI x2), .ref (gad E 68)] w im Q := by
  have hn := hx.1.1
  have k0 : g_cell E w im (gad E 0) _ := g_mut 0 (by omega) hx.1.2.1
  refine g_entryH (by decide) rfl rfl (fun h => by cases h) (Nat.le_of_ble_eq_true rfl) ?_
  refine g_aload_n (n := 3) (i := 3) rfl rfl d_L_share_0 ?_
  refine g_iconst_i d_L_share_1 ?_
  refine g_aload_n (n := 0) (i := 0) rfl rfl d_L_share_2 ?_
  refine g_iload_n (n := 1) (i := 1) rfl rfl d_L_share_3 ?_
  refine g_iload_n (n := 2) (i := 2) rfl rfl d_L_share_4 ?_
  refine g_callVH2 rfl e_X_share l_L_89 iv_X_share 0 (by decide) rfl k0 (by decide) (Nat.le_refl _) (Nat.le_refl _) (Nat.le_of_ble_eq_true rfl) d_L_share_5 (c_X_share hx rx1 rx2 (fun o w1 im1 he hN => ?_))
  rw [he]
  have h681 : w1 68 = lgE g0 := (hN.1 68 (by omega)).trans h68
  rcases hA with ⟨h0, ho⟩ | ⟨h0, ho⟩ | ⟨h0, ho⟩
  · rw [show oSha (cN c) x1 x2 = oV ra from ho]
    have h0 : ta = 0 := h0
    refine g_khv ?_
    refine g_i2l d_L_share_8 ?_
    refine g_lastoreA 68 (by omega) h681 (iI_nI 0).symm (by decide) (by rfl) d_L_share_9 (fun w2 hs hs9 => ?_)
    refine g_goto (tgt := 17) (by decide) d_L_share_10 ?_
    refine g_iconst_i d_L_share_17 ?_
    refine g_ireturn_i rfl d_L_share_18 ?_
    have hq := hQ w2 im1 _ ⟨fun j h1 h2 h3 => (hs9 j h2).trans (hN.1 j h1), hN.2.1, hN.2.2.frame (fun j hj => hs9 j (by omega))⟩ hs (fun j hj => (hs9 j (by omega)).trans (hN.1 j (by omega))) (fun _ => by rw [vp0])
    rw [h0] at hq
    exact hq
  · rw [ho]
    have h0 : ta = 1 := h0
    refine g_khx ⟨13, hn_L_share_1, fun q => ?_⟩
    refine g_astore (i := 4) (by decide) rfl d_L_share_13 ?_
    refine g_iconst_i d_L_share_15 ?_
    refine g_ireturn_i rfl d_L_share_16 ?_
    have hq := hQ w1 im1 g0 ⟨fun j h1 h2 h3 => hN.1 j h1, hN.2.1, hN.2.2⟩ h681 (fun j hj => hN.1 j (by omega)) (fun h9 => by omega)
    rw [h0] at hq
    exact hq
  · exact absurd h0 ha2


theorem hn_L_partner_1 : g_hnd m_L_partner "java/lang/IndexOutOfBoundsException" 5 13 := ⟨[], _, _, "java/lang/IndexOutOfBoundsException", rfl, (fun z hz => (by cases hz)), by decide, by decide, g_mem 563 (by decide +kernel) rfl, g_bmem 601 (by decide +kernel) rfl, rfl⟩
theorem hn_L_partner_2 : g_hnd m_L_partner "java/lang/IllegalArgumentException" 5 17 := ⟨[_], _, _, "java/lang/IllegalArgumentException", rfl, (fun z hz => (by
  rcases List.mem_singleton.1 hz with rfl
  exact Or.inr ⟨by decide, "java/lang/IndexOutOfBoundsException", g_mem 563 (by decide +kernel) rfl, by decide +kernel⟩)), by decide, by decide, g_mem 363 (by decide +kernel) rfl, g_bmem 377 (by decide +kernel) rfl, rfl⟩
theorem c_L_partner {E : gE} {w : gW} {im : gIm} {Q : gQ} {c : CSt} (hx : XW E w im c) {x1 x2 : Int} (rx1 : -2147483648 ≤ x1 ∧ x1 < 2147483648) (rx2 : -2147483648 ≤ x2 ∧ x2 < 2147483648) {ta ra : Int} (hA : An sIB sIA (oPar (cN c) x1 x2) (ta, ra)) {g0 : Nat → Int64} (h68 : w 68 = lgE g0) (hQ : ∀ w' im' g, LX E w im (c) w' im' → w' 68 = lgE g → (∀ j, j = 69 → w' j = w j) → (ta = 0 → g 0 = (iI ra).toInt64) → Q (.inl (some (.int (iI ta)))) w' im') : GM E 4 y_L_partner m_L_partner 2 12 [.ref (gad E 0), .int (iI x1), .int (iI x2), .ref (gad E 68)] w im Q := by
  have hn := hx.1.1
  have k0 : g_cell E w im (gad E 0) _ := g_mut 0 (by omega) hx.1.2.1
  refine g_entryH (by decide) rfl rfl (fun h => by cases h) (Nat.le_of_ble_eq_true rfl) ?_
  refine g_aload_n (n := 3) (i := 3) rfl rfl d_L_partner_0 ?_
  refine g_iconst_i d_L_partner_1 ?_
  refine g_aload_n (n := 0) (i := 0) rfl rfl d_L_partner_2 ?_
  refine g_iload_n (n := 1) (i := 1) rfl rfl d_L_partner_3 ?_
  refine g_iload_n (n := 2) (i := 2) rfl rfl d_L_partner_4 ?_
  refine g_callVH2 rfl e_X_partner l_L_92 iv_X_partner 0 (by decide) rfl k0 (by decide) (Nat.le_refl _) (Nat.le_refl _) (Nat.le_of_ble_eq_true rfl) d_L_partner_5 (c_X_partner hx rx1 rx2 (fun o w1 im1 he hN => ?_))
  rw [he]
  have h681 : w1 68 = lgE g0 := (hN.1 68 (by omega)).trans h68
  rcases hA with ⟨h0, ho⟩ | ⟨h0, ho⟩ | ⟨h0, ho⟩
  · rw [show oPar (cN c) x1 x2 = oV ra from ho]
    have h0 : ta = 0 := h0
    refine g_khv ?_
    refine g_i2l d_L_partner_8 ?_
    refine g_lastoreA 68 (by omega) h681 (iI_nI 0).symm (by decide) (by rfl) d_L_partner_9 (fun w2 hs hs9 => ?_)
    refine g_goto (tgt := 21) (by decide) d_L_partner_10 ?_
    refine g_iconst_i d_L_partner_21 ?_
    refine g_ireturn_i rfl d_L_partner_22 ?_
    have hq := hQ w2 im1 _ ⟨fun j h1 h2 h3 => (hs9 j h2).trans (hN.1 j h1), hN.2.1, hN.2.2.frame (fun j hj => hs9 j (by omega))⟩ hs (fun j hj => (hs9 j (by omega)).trans (hN.1 j (by omega))) (fun _ => by rw [vp0])
    rw [h0] at hq
    exact hq
  · rw [ho]
    have h0 : ta = 1 := h0
    refine g_khx ⟨13, hn_L_partner_1, fun q => ?_⟩
    refine g_astore (i := 4) (by decide) rfl d_L_partner_13 ?_
    refine g_iconst_i d_L_partner_15 ?_
    refine g_ireturn_i rfl d_L_partner_16 ?_
    have hq := hQ w1 im1 g0 ⟨fun j h1 h2 h3 => hN.1 j h1, hN.2.1, hN.2.2⟩ h681 (fun j hj => hN.1 j (by omega)) (fun h9 => by omega)
    rw [h0] at hq
    exact hq
  · rw [ho]
    have h0 : ta = 2 := h0
    refine g_khx ⟨17, hn_L_partner_2, fun q => ?_⟩
    refine g_astore (i := 4) (by decide) rfl d_L_partner_17 ?_
    refine g_iconst_i d_L_partner_19 ?_
    refine g_ireturn_i rfl d_L_partner_20 ?_
    have hq := hQ w1 im1 g0 ⟨fun j h1 h2 h3 => hN.1 j h1, hN.2.1, hN.2.2⟩ h681 (fun j hj => hN.1 j (by omega)) (fun h9 => by omega)
    rw [h0] at hq
    exact hq


theorem hn_L_account_1 : g_hnd m_L_account "java/lang/IllegalArgumentException" 4 12 := ⟨[], _, _, "java/lang/IllegalArgumentException", rfl, (fun z hz => (by cases hz)), by decide, by decide, g_mem 363 (by decide +kernel) rfl, g_bmem 377 (by decide +kernel) rfl, rfl⟩
theorem c_L_account {E : gE} {w : gW} {im : gIm} {Q : gQ} {c : CSt} (hx : XW E w im c) {x1 : Int} (rx1 : -2147483648 ≤ x1 ∧ x1 < 2147483648) {ta ra : Int} (hA : An sIA sIS (oAcc (cN c) x1) (ta, ra)) (ha2 : ta ≠ 2) {g0 : Nat → Int64} (h68 : w 68 = lgE g0) (hQ : ∀ w' im' g, LX E w im (c) w' im' → w' 68 = lgE g → (∀ j, j = 69 → w' j = w j) → (ta = 0 → g 0 = (iI ra).toInt64) → Q (.inl (some (.int (iI ta)))) w' im') : GM E 6 y_L_account m_L_account 1 6 [.ref (gad E 0), .int (iI x1), .ref (gad E 68)] w im Q := by
  have hn := hx.1.1
  have k0 : g_cell E w im (gad E 0) _ := g_mut 0 (by omega) hx.1.2.1
  refine g_entryH (by decide) rfl rfl (fun h => by cases h) (Nat.le_of_ble_eq_true rfl) ?_
  refine g_aload_n (n := 2) (i := 2) rfl rfl d_L_account_0 ?_
  refine g_iconst_i d_L_account_1 ?_
  refine g_aload_n (n := 0) (i := 0) rfl rfl d_L_account_2 ?_
  refine g_iload_n (n := 1) (i := 1) rfl rfl d_L_account_3 ?_
  refine g_callVH1 rfl e_X_account l_L_95 iv_X_account 0 (by decide) rfl k0 (by decide) (Nat.le_refl _) (Nat.le_refl _) (Nat.le_of_ble_eq_true rfl) d_L_account_4 (c_X_account hx rx1 (fun o w1 im1 he hN => ?_))
  rw [he]
  have h681 : w1 68 = lgE g0 := (hN.1 68 (by omega)).trans h68
  rcases hA with ⟨h0, ho⟩ | ⟨h0, ho⟩ | ⟨h0, ho⟩
  · rw [show oAcc (cN c) x1 = oV ra from ho]
    have h0 : ta = 0 := h0
    refine g_khv ?_
    refine g_i2l d_L_account_7 ?_
    refine g_lastoreA 68 (by omega) h681 (iI_nI 0).symm (by decide) (by rfl) d_L_account_8 (fun w2 hs hs9 => ?_)
    refine g_goto (tgt := 15) (by decide) d_L_account_9 ?_
    refine g_iconst_i d_L_account_15 ?_
    refine g_ireturn_i rfl d_L_account_16 ?_
    have hq := hQ w2 im1 _ ⟨fun j h1 h2 h3 => (hs9 j h2).trans (hN.1 j h1), hN.2.1, hN.2.2.frame (fun j hj => hs9 j (by omega))⟩ hs (fun j hj => (hs9 j (by omega)).trans (hN.1 j (by omega))) (fun _ => by rw [vp0])
    rw [h0] at hq
    exact hq
  · rw [ho]
    have h0 : ta = 1 := h0
    refine g_khx ⟨12, hn_L_account_1, fun q => ?_⟩
    refine g_astore_n (n := 3) (i := 3) rfl (by decide) rfl d_L_account_12 ?_
    refine g_iconst_i d_L_account_13 ?_
    refine g_ireturn_i rfl d_L_account_14 ?_
    have hq := hQ w1 im1 g0 ⟨fun j h1 h2 h3 => hN.1 j h1, hN.2.1, hN.2.2⟩ h681 (fun j hj => hN.1 j (by omega)) (fun h9 => by omega)
    rw [h0] at hq
    exact hq
  · exact absurd h0 ha2


theorem hn_L_append_1 : g_hnd m_L_append "java/lang/IllegalArgumentException" 4 12 := ⟨[], _, _, "java/lang/IllegalArgumentException", rfl, (fun z hz => (by cases hz)), by decide, by decide, g_mem 363 (by decide +kernel) rfl, g_bmem 377 (by decide +kernel) rfl, rfl⟩
theorem hn_L_append_2 : g_hnd m_L_append "java/lang/IllegalStateException" 4 15 := ⟨[_], _, _, "java/lang/IllegalStateException", rfl, (fun z hz => (by
  rcases List.mem_singleton.1 hz with rfl
  exact Or.inr ⟨by decide, "java/lang/IllegalArgumentException", g_mem 363 (by decide +kernel) rfl, by decide +kernel⟩)), by decide, by decide, g_mem 364 (by decide +kernel) rfl, g_bmem 449 (by decide +kernel) rfl, rfl⟩
theorem c_L_append {E : gE} {w : gW} {im : gIm} {Q : gQ} {c : CSt} (hx : XW E w im c) {x1 : Int} (rx1 : -2147483648 ≤ x1 ∧ x1 < 2147483648) {ta ra : Int} (hA : An sIA sIS ((eApp c x1).1) (ta, ra)) {g0 : Nat → Int64} (h68 : w 68 = lgE g0) (hQ : ∀ w' im' g, LX E w im ((eApp c x1).2) w' im' → w' 68 = lgE g → (∀ j, j = 69 → w' j = w j) → (ta = 0 → g 0 = (iI ra).toInt64) → Q (.inl (some (.int (iI ta)))) w' im') : GM E 2 y_L_append m_L_append 1 6 [.ref (gad E 0), .int (iI x1), .ref (gad E 68)] w im Q := by
  have hn := hx.1.1
  have k0 : g_cell E w im (gad E 0) _ := g_mut 0 (by omega) hx.1.2.1
  refine g_entryH (by decide) rfl rfl (fun h => by cases h) (Nat.le_of_ble_eq_true rfl) ?_
  refine g_aload_n (n := 2) (i := 2) rfl rfl d_L_append_0 ?_
  refine g_iconst_i d_L_append_1 ?_
  refine g_aload_n (n := 0) (i := 0) rfl rfl d_L_append_2 ?_
  refine g_iload_n (n := 1) (i := 1) rfl rfl d_L_append_3 ?_
  refine g_callVH1 rfl e_X_append l_L_108 iv_X_append 0 (by decide) rfl k0 (by decide) (Nat.le_refl _) (Nat.le_refl _) (Nat.le_of_ble_eq_true rfl) d_L_append_4 (c_X_append hx rx1 (fun o c2 w1 im1 he hN => ?_))
  have e1 : o = (eApp c x1).1 := congrArg Prod.fst he
  have e2 : c2 = (eApp c x1).2 := congrArg Prod.snd he
  rw [e2] at hN
  rw [e1]
  have h681 : w1 68 = lgE g0 := (hN.1 68 (by omega)).trans h68
  rcases hA with ⟨h0, ho⟩ | ⟨h0, ho⟩ | ⟨h0, ho⟩
  · rw [show (eApp c x1).1 = oV ra from ho]
    have h0 : ta = 0 := h0
    refine g_khv ?_
    refine g_i2l d_L_append_7 ?_
    refine g_lastoreA 68 (by omega) h681 (iI_nI 0).symm (by decide) (by rfl) d_L_append_8 (fun w2 hs hs9 => ?_)
    refine g_goto (tgt := 18) (by decide) d_L_append_9 ?_
    refine g_iconst_i d_L_append_18 ?_
    refine g_ireturn_i rfl d_L_append_19 ?_
    have hq := hQ w2 im1 _ ⟨fun j h1 h2 h3 => (hs9 j h2).trans (hN.1 j h1), hN.2.1, hN.2.2.frame (fun j hj => hs9 j (by omega))⟩ hs (fun j hj => (hs9 j (by omega)).trans (hN.1 j (by omega))) (fun _ => by rw [vp0])
    rw [h0] at hq
    exact hq
  · rw [ho]
    have h0 : ta = 1 := h0
    refine g_khx ⟨12, hn_L_append_1, fun q => ?_⟩
    refine g_astore_n (n := 3) (i := 3) rfl (by decide) rfl d_L_append_12 ?_
    refine g_iconst_i d_L_append_13 ?_
    refine g_ireturn_i rfl d_L_append_14 ?_
    have hq := hQ w1 im1 g0 ⟨fun j h1 h2 h3 => hN.1 j h1, hN.2.1, hN.2.2⟩ h681 (fun j hj => hN.1 j (by omega)) (fun h9 => by omega)
    rw [h0] at hq
    exact hq
  · rw [ho]
    have h0 : ta = 2 := h0
    refine g_khx ⟨15, hn_L_append_2, fun q => ?_⟩
    refine g_astore_n (n := 3) (i := 3) rfl (by decide) rfl d_L_append_15 ?_
    refine g_iconst_i d_L_append_16 ?_
    refine g_ireturn_i rfl d_L_append_17 ?_
    have hq := hQ w1 im1 g0 ⟨fun j h1 h2 h3 => hN.1 j h1, hN.2.1, hN.2.2⟩ h681 (fun j hj => hN.1 j (by omega)) (fun h9 => by omega)
    rw [h0] at hq
    exact hq


theorem hn_L_read_1 : g_hnd m_L_read "java/lang/IllegalArgumentException" 3 11 := ⟨[], _, _, "java/lang/IllegalArgumentException", rfl, (fun z hz => (by cases hz)), by decide, by decide, g_mem 363 (by decide +kernel) rfl, g_bmem 377 (by decide +kernel) rfl, rfl⟩
theorem hn_L_read_2 : g_hnd m_L_read "java/lang/UnsupportedOperationException" 3 14 := ⟨[_], _, _, "java/lang/UnsupportedOperationException", rfl, (fun z hz => (by
  rcases List.mem_singleton.1 hz with rfl
  exact Or.inr ⟨by decide, "java/lang/IllegalArgumentException", g_mem 363 (by decide +kernel) rfl, by decide +kernel⟩)), by decide, by decide, g_mem 800 (by decide +kernel) rfl, g_bmem 855 (by decide +kernel) rfl, rfl⟩
theorem c_L_read {E : gE} {w : gW} {im : gIm} {Q : gQ} {c : CSt} (hx : XW E w im c) {ta ra : Int} (hA : An sIA sUO ((eRead c).1) (ta, ra)) {g0 : Nat → Int64} (h68 : w 68 = lgE g0) (hQ : ∀ w' im' g, LX E w im ((eRead c).2) w' im' → w' 68 = lgE g → (∀ j, j = 69 → w' j = w j) → (ta = 0 → g 0 = (iI ra).toInt64) → Q (.inl (some (.int (iI ta)))) w' im') : GM E 7 y_L_read m_L_read 541 3246 [.ref (gad E 0), .ref (gad E 68)] w im Q := by
  have hn := hx.1.1
  have k0 : g_cell E w im (gad E 0) _ := g_mut 0 (by omega) hx.1.2.1
  refine g_entryH (by decide) rfl rfl (fun h => by cases h) (Nat.le_of_ble_eq_true rfl) ?_
  refine g_aload_n (n := 1) (i := 1) rfl rfl d_L_read_0 ?_
  refine g_iconst_i d_L_read_1 ?_
  refine g_aload_n (n := 0) (i := 0) rfl rfl d_L_read_2 ?_
  refine g_callVH0 rfl e_X_read l_L_111 iv_X_read 0 (by decide) rfl k0 (by decide) (Nat.le_refl _) (Nat.le_refl _) (Nat.le_of_ble_eq_true rfl) d_L_read_3 (c_X_read hx  (fun o c2 w1 im1 he hN => ?_))
  have e1 : o = (eRead c).1 := congrArg Prod.fst he
  have e2 : c2 = (eRead c).2 := congrArg Prod.snd he
  rw [e2] at hN
  rw [e1]
  have h681 : w1 68 = lgE g0 := (hN.1 68 (by omega)).trans h68
  rcases hA with ⟨h0, ho⟩ | ⟨h0, ho⟩ | ⟨h0, ho⟩
  · rw [show (eRead c).1 = oV ra from ho]
    have h0 : ta = 0 := h0
    refine g_khv ?_
    refine g_i2l d_L_read_6 ?_
    refine g_lastoreA 68 (by omega) h681 (iI_nI 0).symm (by decide) (by rfl) d_L_read_7 (fun w2 hs hs9 => ?_)
    refine g_goto (tgt := 17) (by decide) d_L_read_8 ?_
    refine g_iconst_i d_L_read_17 ?_
    refine g_ireturn_i rfl d_L_read_18 ?_
    have hq := hQ w2 im1 _ ⟨fun j h1 h2 h3 => (hs9 j h2).trans (hN.1 j h1), hN.2.1, hN.2.2.frame (fun j hj => hs9 j (by omega))⟩ hs (fun j hj => (hs9 j (by omega)).trans (hN.1 j (by omega))) (fun _ => by rw [vp0])
    rw [h0] at hq
    exact hq
  · rw [ho]
    have h0 : ta = 1 := h0
    refine g_khx ⟨11, hn_L_read_1, fun q => ?_⟩
    refine g_astore_n (n := 2) (i := 2) rfl (by decide) rfl d_L_read_11 ?_
    refine g_iconst_i d_L_read_12 ?_
    refine g_ireturn_i rfl d_L_read_13 ?_
    have hq := hQ w1 im1 g0 ⟨fun j h1 h2 h3 => hN.1 j h1, hN.2.1, hN.2.2⟩ h681 (fun j hj => hN.1 j (by omega)) (fun h9 => by omega)
    rw [h0] at hq
    exact hq
  · rw [ho]
    have h0 : ta = 2 := h0
    refine g_khx ⟨14, hn_L_read_2, fun q => ?_⟩
    refine g_astore_n (n := 2) (i := 2) rfl (by decide) rfl d_L_read_14 ?_
    refine g_iconst_i d_L_read_15 ?_
    refine g_ireturn_i rfl d_L_read_16 ?_
    have hq := hQ w1 im1 g0 ⟨fun j h1 h2 h3 => hN.1 j h1, hN.2.1, hN.2.2⟩ h681 (fun j hj => hN.1 j (by omega)) (fun h9 => by omega)
    rw [h0] at hq
    exact hq


theorem hn_L_errorPosition_1 : g_hnd m_L_errorPosition "java/util/NoSuchElementException" 3 11 := ⟨[], _, _, "java/util/NoSuchElementException", rfl, (fun z hz => (by cases hz)), by decide, by decide, g_mem 933 (by decide +kernel) rfl, g_bmem 945 (by decide +kernel) rfl, rfl⟩
theorem c_L_errorPosition {E : gE} {w : gW} {im : gIm} {Q : gQ} {c : CSt} (hx : XW E w im c) {ta ra : Int} (hA : An sNS sIA (oNum (cF c).2.2.1) (ta, ra)) (ha2 : ta ≠ 2) {g0 : Nat → Int64} (h68 : w 68 = lgE g0) (hQ : ∀ w' im' g, LX E w im (c) w' im' → w' 68 = lgE g → (∀ j, j = 69 → w' j = w j) → (ta = 0 → g 0 = (iI ra).toInt64) → Q (.inl (some (.int (iI ta)))) w' im') : GM E 1 y_L_errorPosition m_L_errorPosition 1 6 [.ref (gad E 0), .ref (gad E 68)] w im Q := by
  have hn := hx.1.1
  have k0 : g_cell E w im (gad E 0) _ := g_mut 0 (by omega) hx.1.2.1
  refine g_entryH (by decide) rfl rfl (fun h => by cases h) (Nat.le_of_ble_eq_true rfl) ?_
  refine g_aload_n (n := 1) (i := 1) rfl rfl d_L_errorPosition_0 ?_
  refine g_iconst_i d_L_errorPosition_1 ?_
  refine g_aload_n (n := 0) (i := 0) rfl rfl d_L_errorPosition_2 ?_
  refine g_callVH0 rfl e_X_errorPosition l_L_115 iv_X_errorPosition 0 (by decide) rfl k0 (by decide) (Nat.le_refl _) (Nat.le_refl _) (Nat.le_of_ble_eq_true rfl) d_L_errorPosition_3 (c_X_errorPosition hx  (fun o w1 im1 he hN => ?_))
  rw [he]
  have h681 : w1 68 = lgE g0 := (hN.1 68 (by omega)).trans h68
  rcases hA with ⟨h0, ho⟩ | ⟨h0, ho⟩ | ⟨h0, ho⟩
  · rw [show oNum (cF c).2.2.1 = oV ra from ho]
    have h0 : ta = 0 := h0
    refine g_khv ?_
    refine g_i2l d_L_errorPosition_6 ?_
    refine g_lastoreA 68 (by omega) h681 (iI_nI 0).symm (by decide) (by rfl) d_L_errorPosition_7 (fun w2 hs hs9 => ?_)
    refine g_goto (tgt := 14) (by decide) d_L_errorPosition_8 ?_
    refine g_iconst_i d_L_errorPosition_14 ?_
    refine g_ireturn_i rfl d_L_errorPosition_15 ?_
    have hq := hQ w2 im1 _ ⟨fun j h1 h2 h3 => (hs9 j h2).trans (hN.1 j h1), hN.2.1, hN.2.2.frame (fun j hj => hs9 j (by omega))⟩ hs (fun j hj => (hs9 j (by omega)).trans (hN.1 j (by omega))) (fun _ => by rw [vp0])
    rw [h0] at hq
    exact hq
  · rw [ho]
    have h0 : ta = 1 := h0
    refine g_khx ⟨11, hn_L_errorPosition_1, fun q => ?_⟩
    refine g_astore_n (n := 2) (i := 2) rfl (by decide) rfl d_L_errorPosition_11 ?_
    refine g_iconst_i d_L_errorPosition_12 ?_
    refine g_ireturn_i rfl d_L_errorPosition_13 ?_
    have hq := hQ w1 im1 g0 ⟨fun j h1 h2 h3 => hN.1 j h1, hN.2.1, hN.2.2⟩ h681 (fun j hj => hN.1 j (by omega)) (fun h9 => by omega)
    rw [h0] at hq
    exact hq
  · exact absurd h0 ha2


theorem hn_L_refusedOrder_1 : g_hnd m_L_refusedOrder "java/util/NoSuchElementException" 3 11 := ⟨[], _, _, "java/util/NoSuchElementException", rfl, (fun z hz => (by cases hz)), by decide, by decide, g_mem 933 (by decide +kernel) rfl, g_bmem 945 (by decide +kernel) rfl, rfl⟩
theorem c_L_refusedOrder {E : gE} {w : gW} {im : gIm} {Q : gQ} {c : CSt} (hx : XW E w im c) {ta ra : Int} (hA : An sNS sIA (oNum (cF c).2.2.2) (ta, ra)) (ha2 : ta ≠ 2) {g0 : Nat → Int64} (h68 : w 68 = lgE g0) (hQ : ∀ w' im' g, LX E w im (c) w' im' → w' 68 = lgE g → (∀ j, j = 69 → w' j = w j) → (ta = 0 → g 0 = (iI ra).toInt64) → Q (.inl (some (.int (iI ta)))) w' im') : GM E 1 y_L_refusedOrder m_L_refusedOrder 1 6 [.ref (gad E 0), .ref (gad E 68)] w im Q := by
  have hn := hx.1.1
  have k0 : g_cell E w im (gad E 0) _ := g_mut 0 (by omega) hx.1.2.1
  refine g_entryH (by decide) rfl rfl (fun h => by cases h) (Nat.le_of_ble_eq_true rfl) ?_
  refine g_aload_n (n := 1) (i := 1) rfl rfl d_L_refusedOrder_0 ?_
  refine g_iconst_i d_L_refusedOrder_1 ?_
  refine g_aload_n (n := 0) (i := 0) rfl rfl d_L_refusedOrder_2 ?_
  refine g_callVH0 rfl e_X_refusedOrder l_L_118 iv_X_refusedOrder 0 (by decide) rfl k0 (by decide) (Nat.le_refl _) (Nat.le_refl _) (Nat.le_of_ble_eq_true rfl) d_L_refusedOrder_3 (c_X_refusedOrder hx  (fun o w1 im1 he hN => ?_))
  rw [he]
  have h681 : w1 68 = lgE g0 := (hN.1 68 (by omega)).trans h68
  rcases hA with ⟨h0, ho⟩ | ⟨h0, ho⟩ | ⟨h0, ho⟩
  · rw [show oNum (cF c).2.2.2 = oV ra from ho]
    have h0 : ta = 0 := h0
    refine g_khv ?_
    refine g_i2l d_L_refusedOrder_6 ?_
    refine g_lastoreA 68 (by omega) h681 (iI_nI 0).symm (by decide) (by rfl) d_L_refusedOrder_7 (fun w2 hs hs9 => ?_)
    refine g_goto (tgt := 14) (by decide) d_L_refusedOrder_8 ?_
    refine g_iconst_i d_L_refusedOrder_14 ?_
    refine g_ireturn_i rfl d_L_refusedOrder_15 ?_
    have hq := hQ w2 im1 _ ⟨fun j h1 h2 h3 => (hs9 j h2).trans (hN.1 j h1), hN.2.1, hN.2.2.frame (fun j hj => hs9 j (by omega))⟩ hs (fun j hj => (hs9 j (by omega)).trans (hN.1 j (by omega))) (fun _ => by rw [vp0])
    rw [h0] at hq
    exact hq
  · rw [ho]
    have h0 : ta = 1 := h0
    refine g_khx ⟨11, hn_L_refusedOrder_1, fun q => ?_⟩
    refine g_astore_n (n := 2) (i := 2) rfl (by decide) rfl d_L_refusedOrder_11 ?_
    refine g_iconst_i d_L_refusedOrder_12 ?_
    refine g_ireturn_i rfl d_L_refusedOrder_13 ?_
    have hq := hQ w1 im1 g0 ⟨fun j h1 h2 h3 => hN.1 j h1, hN.2.1, hN.2.2⟩ h681 (fun j hj => hN.1 j (by omega)) (fun h9 => by omega)
    rw [h0] at hq
    exact hq
  · exact absurd h0 ha2


theorem hn_L_undo_1 : g_hnd m_L_undo "java/lang/IllegalStateException" 3 11 := ⟨[], _, _, "java/lang/IllegalStateException", rfl, (fun z hz => (by cases hz)), by decide, by decide, g_mem 364 (by decide +kernel) rfl, g_bmem 449 (by decide +kernel) rfl, rfl⟩
theorem c_L_undo {E : gE} {w : gW} {im : gIm} {Q : gQ} {c : CSt} (hx : XW E w im c) {ta ra : Int} (hA : An sIS sIA ((eUndo c).1) (ta, ra)) (ha2 : ta ≠ 2) {g0 : Nat → Int64} (h68 : w 68 = lgE g0) (hQ : ∀ w' im' g, LX E w im ((eUndo c).2) w' im' → w' 68 = lgE g → (∀ j, j = 69 → w' j = w j) → (ta = 0 → g 0 = (iI ra).toInt64) → Q (.inl (some (.int (iI ta)))) w' im') : GM E 4 y_L_undo m_L_undo 1 6 [.ref (gad E 0), .ref (gad E 68)] w im Q := by
  have hn := hx.1.1
  have k0 : g_cell E w im (gad E 0) _ := g_mut 0 (by omega) hx.1.2.1
  refine g_entryH (by decide) rfl rfl (fun h => by cases h) (Nat.le_of_ble_eq_true rfl) ?_
  refine g_aload_n (n := 1) (i := 1) rfl rfl d_L_undo_0 ?_
  refine g_iconst_i d_L_undo_1 ?_
  refine g_aload_n (n := 0) (i := 0) rfl rfl d_L_undo_2 ?_
  refine g_callVH0 rfl e_X_undo l_L_121 iv_X_undo 0 (by decide) rfl k0 (by decide) (Nat.le_refl _) (Nat.le_refl _) (Nat.le_of_ble_eq_true rfl) d_L_undo_3 (c_X_undo hx  (fun o c2 w1 im1 he hN => ?_))
  have e1 : o = (eUndo c).1 := congrArg Prod.fst he
  have e2 : c2 = (eUndo c).2 := congrArg Prod.snd he
  rw [e2] at hN
  rw [e1]
  have h681 : w1 68 = lgE g0 := (hN.1 68 (by omega)).trans h68
  rcases hA with ⟨h0, ho⟩ | ⟨h0, ho⟩ | ⟨h0, ho⟩
  · rw [show (eUndo c).1 = oV ra from ho]
    have h0 : ta = 0 := h0
    refine g_khv ?_
    refine g_i2l d_L_undo_6 ?_
    refine g_lastoreA 68 (by omega) h681 (iI_nI 0).symm (by decide) (by rfl) d_L_undo_7 (fun w2 hs hs9 => ?_)
    refine g_goto (tgt := 14) (by decide) d_L_undo_8 ?_
    refine g_iconst_i d_L_undo_14 ?_
    refine g_ireturn_i rfl d_L_undo_15 ?_
    have hq := hQ w2 im1 _ ⟨fun j h1 h2 h3 => (hs9 j h2).trans (hN.1 j h1), hN.2.1, hN.2.2.frame (fun j hj => hs9 j (by omega))⟩ hs (fun j hj => (hs9 j (by omega)).trans (hN.1 j (by omega))) (fun _ => by rw [vp0])
    rw [h0] at hq
    exact hq
  · rw [ho]
    have h0 : ta = 1 := h0
    refine g_khx ⟨11, hn_L_undo_1, fun q => ?_⟩
    refine g_astore_n (n := 2) (i := 2) rfl (by decide) rfl d_L_undo_11 ?_
    refine g_iconst_i d_L_undo_12 ?_
    refine g_ireturn_i rfl d_L_undo_13 ?_
    have hq := hQ w1 im1 g0 ⟨fun j h1 h2 h3 => hN.1 j h1, hN.2.1, hN.2.2⟩ h681 (fun j hj => hN.1 j (by omega)) (fun h9 => by omega)
    rw [h0] at hq
    exact hq
  · exact absurd h0 ha2


theorem hn_L_restore_1 : g_hnd m_L_restore "java/lang/IllegalStateException" 3 11 := ⟨[], _, _, "java/lang/IllegalStateException", rfl, (fun z hz => (by cases hz)), by decide, by decide, g_mem 364 (by decide +kernel) rfl, g_bmem 449 (by decide +kernel) rfl, rfl⟩
theorem c_L_restore {E : gE} {w : gW} {im : gIm} {Q : gQ} {c : CSt} (hx : XW E w im c) {ta ra : Int} (hA : An sIS sIA ((eRest c).1) (ta, ra)) (ha2 : ta ≠ 2) {g0 : Nat → Int64} (h68 : w 68 = lgE g0) (hQ : ∀ w' im' g, LX E w im ((eRest c).2) w' im' → w' 68 = lgE g → (∀ j, j = 69 → w' j = w j) → (ta = 0 → g 0 = (iI ra).toInt64) → Q (.inl (some (.int (iI ta)))) w' im') : GM E 2 y_L_restore m_L_restore 1 6 [.ref (gad E 0), .ref (gad E 68)] w im Q := by
  have hn := hx.1.1
  have k0 : g_cell E w im (gad E 0) _ := g_mut 0 (by omega) hx.1.2.1
  refine g_entryH (by decide) rfl rfl (fun h => by cases h) (Nat.le_of_ble_eq_true rfl) ?_
  refine g_aload_n (n := 1) (i := 1) rfl rfl d_L_restore_0 ?_
  refine g_iconst_i d_L_restore_1 ?_
  refine g_aload_n (n := 0) (i := 0) rfl rfl d_L_restore_2 ?_
  refine g_callVH0 rfl e_X_restore l_L_124 iv_X_restore 0 (by decide) rfl k0 (by decide) (Nat.le_refl _) (Nat.le_refl _) (Nat.le_of_ble_eq_true rfl) d_L_restore_3 (c_X_restore hx  (fun o c2 w1 im1 he hN => ?_))
  have e1 : o = (eRest c).1 := congrArg Prod.fst he
  have e2 : c2 = (eRest c).2 := congrArg Prod.snd he
  rw [e2] at hN
  rw [e1]
  have h681 : w1 68 = lgE g0 := (hN.1 68 (by omega)).trans h68
  rcases hA with ⟨h0, ho⟩ | ⟨h0, ho⟩ | ⟨h0, ho⟩
  · rw [show (eRest c).1 = oV ra from ho]
    have h0 : ta = 0 := h0
    refine g_khv ?_
    refine g_i2l d_L_restore_6 ?_
    refine g_lastoreA 68 (by omega) h681 (iI_nI 0).symm (by decide) (by rfl) d_L_restore_7 (fun w2 hs hs9 => ?_)
    refine g_goto (tgt := 14) (by decide) d_L_restore_8 ?_
    refine g_iconst_i d_L_restore_14 ?_
    refine g_ireturn_i rfl d_L_restore_15 ?_
    have hq := hQ w2 im1 _ ⟨fun j h1 h2 h3 => (hs9 j h2).trans (hN.1 j h1), hN.2.1, hN.2.2.frame (fun j hj => hs9 j (by omega))⟩ hs (fun j hj => (hs9 j (by omega)).trans (hN.1 j (by omega))) (fun _ => by rw [vp0])
    rw [h0] at hq
    exact hq
  · rw [ho]
    have h0 : ta = 1 := h0
    refine g_khx ⟨11, hn_L_restore_1, fun q => ?_⟩
    refine g_astore_n (n := 2) (i := 2) rfl (by decide) rfl d_L_restore_11 ?_
    refine g_iconst_i d_L_restore_12 ?_
    refine g_ireturn_i rfl d_L_restore_13 ?_
    have hq := hQ w1 im1 g0 ⟨fun j h1 h2 h3 => hN.1 j h1, hN.2.1, hN.2.2⟩ h681 (fun j hj => hN.1 j (by omega)) (fun h9 => by omega)
    rw [h0] at hq
    exact hq
  · exact absurd h0 ha2


