/-! ===== the resort: cards in a row, exchanges, closings, time ===== -/
theorem RN.trans {E : gE} {w w1 w2 : gW} {im im1 im2 : gIm} {b : Nat} {R1 R2 : Rz} (h : RN E w im b R1 w1 im1) (k : RN E w1 im1 b R2 w2 im2) : RN E w im b R2 w2 im2 := ⟨fun i hi => (k.1 i hi).trans (h.1 i hi), fun a x hx => k.2.1 a x (h.2.1 a x hx), k.2.2⟩
theorem RN.refl {E : gE} {w : gW} {im : gIm} {b : Nat} {R : Rz} (h : RZ E w im b R) : RN E w im b R w im := ⟨fun _ _ => rfl, fun _ _ h => h, h⟩
theorem RZ.cell {E : gE} {w : gW} {im : gIm} {b : Nat} {R : Rz} (h : RZ E w im b R) : g_cell E w im (gad E b) (resE E b R) := by
  obtain ⟨_, _, _, _, ⟨q1, q2, _⟩, _⟩ := h
  exact g_mut b (by omega) q2
/-- so many new cards with this product -/
def zAddN (R : Rz) (pn : Int) : Nat → Rz
  | 0 => R
  | n + 1 => zAddC (zAddN R pn n) (pn, 0, -1, 0, [])
theorem zP_addN {R : Rz} {pn : Int} {n : Nat} : zP (zAddN R pn n) = zP R := by
  induction n with
  | zero => rfl
  | succ n ih => rw [zAddN, zP_AddC, ih]
theorem zp_addN {R : Rz} {pn : Int} {n : Nat} : zp (zAddN R pn n) = zp R := by
  induction n with
  | zero => rfl
  | succ n ih => rw [zAddN, zp_AddC, ih]
theorem zc_addN {R : Rz} {pn : Int} {n : Nat} : zc (zAddN R pn n) = zc R + n := by
  induction n with
  | zero => simp [zAddN]
  | succ n ih => rw [zAddN, zc_AddC, ih]; omega

theorem c_R_insertCards {E : gE} {w : gW} {im : gIm} {Q : gQ} {b : Nat} {R : Rz} (hz : RZ E w im b R) {pp : Nat} {pn x : Int} (hp : im pp = some (prodAt pn (zP R pn))) (rpn : 0 ≤ pn ∧ pn < zp R) (rx : 0 ≤ x ∧ zc R + x ≤ 20) (hQ : ∀ w' im', RN E w im b (zAddN R pn x.toNat) w' im' → Q (.inl (some (.int (iI (zc R))))) w' im') : GM E 2 y_R_insertCards m_R_insertCards 20 120 [.ref (gad E b), .ref pp, .int (iI x)] w im Q := by
  have hz9 := hz
  obtain ⟨rg, rp, rc, lc, ⟨hb, h0, h1, h2, h3, h4, hlc⟩, ⟨i1, i2, i3, i4, i5, i6⟩, ok⟩ := hz9
  obtain ⟨ok1, ok2, ok3, ok4, ok5, ok6, ok7, ok8, ok9⟩ := ok
  have co : g_cell E w im (gad E b) (resE E b R) := g_mut b (by omega) h0
  have cg : g_cell E w im (gad E (b + 1)) (rowE 4 12 rg) := g_mut (b + 1) (by omega) h1
  have cp : g_cell E w im (gad E (b + 2)) (rowE 5 8 rp) := g_mut (b + 2) (by omega) h2
  have cc : g_cell E w im (gad E (b + 3)) (rowE 6 20 rc) := g_mut (b + 3) (by omega) h3
  have cl : g_cell E w im (gad E (b + 4)) (intE 372 lc) := g_mut (b + 4) (by omega) h4
  have loop : ∀ (n9 j9 : Nat) (k9 : Int) (w1 : gW) (im1 : gIm) (kc ks : Nat), (j9 : Int) = k9 → k9 + n9 = x → RN E w im b (zAddN R pn j9) w1 im1 → n9 ≤ kc → 6 * n9 ≤ ks → G E 2 m_R_insertCards 8 [(0, .ref (gad E b)), (1, .ref pp), (2, .int (iI x)), (3, .int (iI (zc R))), (4, .int (iI k9))] [] w1 im1 kc ks Q := by
    intro n9
    induction n9 with
    | zero =>
      intro j9 k9 w1 im1 kc ks hj hk9 hN hk1 hk2
      have e9 : j9 = x.toNat := by omega
      rw [e9] at hN
      refine g_iload (i := 4) rfl d_R_insertCards_8 ?_
      refine g_iload_n (n := 2) (i := 2) rfl rfl d_R_insertCards_10 ?_
      refine g_icmp_ge_i (tgt := 27) (by omega) (by omega) d_R_insertCards_11 (by decide) (fun h11 => ?_) (fun h => by exfalso; omega)
      refine g_iload_n (n := 3) (i := 3) rfl rfl d_R_insertCards_27 ?_
      refine g_ireturn_i rfl d_R_insertCards_28 ?_
      exact hQ _ _ hN
    | succ n9 ih =>
      intro j9 k9 w1 im1 kc ks hj hk9 hN hk1 hk2
      have hz1 := hN.2.2
      have co1 := hz1.cell
      have hp1 : im1 pp = some (prodAt pn (zP (zAddN R pn j9) pn)) := by rw [zP_addN]; exact hN.2.1 _ _ hp
      have hpn : 0 ≤ pn ∧ pn < zp (zAddN R pn j9) := by rw [zp_addN]; exact rpn
      have hcn : zc (zAddN R pn j9) < 20 := by rw [zc_addN]; omega
      refine g_iload (i := 4) rfl d_R_insertCards_8 ?_
      refine g_iload_n (n := 2) (i := 2) rfl rfl d_R_insertCards_10 ?_
      refine g_icmp_ge_i (tgt := 27) (by omega) (by omega) d_R_insertCards_11 (by decide) (fun h => by exfalso; omega) (fun h11 => ?_)
      refine g_aload_n (n := 0) (i := 0) rfl rfl d_R_insertCards_14 ?_
      refine g_aload_n (n := 1) (i := 1) rfl rfl d_R_insertCards_15 ?_
      refine g_null d_R_insertCards_16 ?_
      refine g_callV2 rfl rfl e_R_insertCard l_R_71 iv_R_insertCard 1 (by decide) rfl (by assumption) (by decide) (by omega) (by omega) (Nat.le_of_ble_eq_true rfl) d_R_insertCards_17 (c_R_insertCard (la := none) (rs := []) hz1 hp1 hpn trivial okR.nil hcn (fun w2 im2 hN2 => ?_))
      refine g_retn ?_
      refine g_pop rfl d_R_insertCards_20 ?_
      refine g_iinc_i (i := 4) rfl (by decide) rfl d_R_insertCards_21 ?_
      refine g_goto (tgt := 8) (by decide) d_R_insertCards_24 ?_
      exact g_cut (lv' := [(0, .ref (gad E b)), (1, .ref pp), (2, .int (iI x)), (3, .int (iI (zc R))), (4, .int (iI (k9 + 1)))]) ⟨rfl, rfl, rfl, rfl, rfl, trivial⟩ (ih (j9 + 1) (k9 + 1) w2 im2 _ _ (by omega) (by omega) (hN.trans hN2) (by omega) (by omega))
  refine g_enter (by decide) rfl rfl (fun h => by first | rfl | cases h) (Nat.le_of_ble_eq_true rfl) rfl ?_
  refine g_aload_n (n := 0) (i := 0) rfl rfl d_R_insertCards_0 ?_
  refine g_getfield 1 6 f_R_40 (by assumption) (by rfl) d_R_insertCards_1 ?_
  refine g_istore_n (n := 3) (i := 3) rfl (by decide) rfl d_R_insertCards_4 ?_
  refine g_iconst_i d_R_insertCards_5 ?_
  refine g_istore (i := 4) (by decide) rfl d_R_insertCards_6 ?_
  refine g_cut ?_ (loop x.toNat 0 0 w im _ _ rfl (by omega) (RN.refl hz) (by omega) (by omega))
  exact ⟨rfl, rfl, rfl, rfl, rfl, trivial⟩

theorem c_R_exchange {E : gE} {w : gW} {im : gIm} {Q : gQ} {b : Nat} {R : Rz} (hz : RZ E w im b R) {x : Int} {ca cp : Nat} {la : Option Nat} (hx : 0 ≤ x ∧ x < zc R) (e2 : im ca = some (cardE x cp (zC R x).2.1 (zC R x).2.2.1 (zC R x).2.2.2.1 la)) (e3 : im cp = some (prodAt (zC R x).1 (zP R (zC R x).1))) (e4 : chn im la (zC R x).2.2.2.2) (hlt : zc R < 20) (hQ : ∀ w' im', RN E w im b (zSetC (zAddC R ((zC R x).1, 0, -1, 0, (zC R x).2.2.2.2)) x ((zC R x).1, 2, zc R, (zC R x).2.2.2.1, [])) w' im' → Q (.inl (some (.int (iI (zc R))))) w' im') : GM E 2 y_R_exchange m_R_exchange 2 12 [.ref (gad E b), .ref ca] w im Q := by
  have hz9 := hz
  obtain ⟨rg, rp, rc, lc, ⟨hb, h0, h1, h2, h3, h4, hlc⟩, ⟨i1, i2, i3, i4, i5, i6⟩, ok⟩ := hz9
  obtain ⟨ok1, ok2, ok3, ok4, ok5, ok6, ok7, ok8, ok9⟩ := ok
  have co : g_cell E w im (gad E b) (resE E b R) := g_mut b (by omega) h0
  have cg : g_cell E w im (gad E (b + 1)) (rowE 4 12 rg) := g_mut (b + 1) (by omega) h1
  have cp : g_cell E w im (gad E (b + 2)) (rowE 5 8 rp) := g_mut (b + 2) (by omega) h2
  have cc : g_cell E w im (gad E (b + 3)) (rowE 6 20 rc) := g_mut (b + 3) (by omega) h3
  have cl : g_cell E w im (gad E (b + 4)) (intE 372 lc) := g_mut (b + 4) (by omega) h4
  have u0 := h0
  have u1 := h1
  have u2 := h2
  have u3 := h3
  have u4 := h4
  have hfr : ∀ i, i < b ∨ b + 4 < i → w i = w i := fun _ _ => rfl
  have c1 := g_imm (E := E) (w := w) e2
  have c2 := g_imm (E := E) (w := w) e3
  obtain ⟨o1, o2, o3, o4, o5⟩ := ok8 x hx
  have oq := ok7 (zC R x).1 o1
  have hlen := o5.1
  have hx1 : x < zc R := hx.2
  have hcr : 0 ≤ zc R ∧ zc R ≤ 20 := ok3
  refine g_enter (by decide) rfl rfl (fun h => by first | rfl | cases h) (Nat.le_of_ble_eq_true rfl) rfl ?_
  refine g_aload_n (n := 0) (i := 0) rfl rfl d_R_exchange_0 ?_
  refine g_aload_n (n := 1) (i := 1) rfl rfl d_R_exchange_1 ?_
  refine g_getfield 8 1 f_R_87 (by first | assumption | exact g_mut _ (by omega) (by assumption) | exact g_imm (by first | assumption | exact vf_us | exact im_new (by first | assumption | exact vf_us) (by assumption))) (by rfl) d_R_exchange_2 ?_
  refine g_aload_n (n := 1) (i := 1) rfl rfl d_R_exchange_5 ?_
  refine g_getfield 8 5 f_R_91 (by first | assumption | exact g_mut _ (by omega) (by assumption) | exact g_imm (by first | assumption | exact vf_us | exact im_new (by first | assumption | exact vf_us) (by assumption))) (by rfl) d_R_exchange_6 ?_
  refine g_callV2 rfl rfl e_R_insertCard l_R_71 iv_R_insertCard 1 (by decide) rfl (by first | assumption | exact g_mut _ (by omega) (by assumption) | exact g_imm (by first | assumption | exact vf_us | exact im_new (by first | assumption | exact vf_us) (by assumption))) (by decide) (by decide) (by decide) (Nat.le_of_ble_eq_true rfl) d_R_exchange_9 (c_R_insertCard hz e3 o1 e4 o5 hlt (fun w im hN => ?_))
  refine g_retn ?_
  obtain ⟨hf1, hm1, rg, rp, rc, lc, ⟨_, h0, h1, h2, h3, h4, hlc⟩, ⟨i1, i2, i3, i4, i5, i6⟩, ⟨ok1, ok2, ok3, ok4, ok5, ok6, ok7, ok8, ok9⟩⟩ := hN
  have u0 := h0
  have u1 := h1
  have u2 := h2
  have u3 := h3
  have u4 := h4
  have hfr := fun i (hi : i < b ∨ b + 4 < i) => (hf1 i hi).trans (hfr i hi)
  have co : g_cell E w im (gad E b) _ := g_mut b (by omega) u0
  have cg : g_cell E w im (gad E (b + 1)) _ := g_mut (b + 1) (by omega) u1
  have cp : g_cell E w im (gad E (b + 2)) _ := g_mut (b + 2) (by omega) u2
  have cc : g_cell E w im (gad E (b + 3)) _ := g_mut (b + 3) (by omega) u3
  have cl : g_cell E w im (gad E (b + 4)) _ := g_mut (b + 4) (by omega) u4
  have e2 := hm1 _ _ e2
  have e3 := hm1 _ _ e3
  have c1 := g_imm (E := E) (w := w) e2
  have c2 := g_imm (E := E) (w := w) e3
  refine g_istore_n (n := 2) (i := 2) rfl (by decide) rfl d_R_exchange_12 ?_
  refine g_aload_n (n := 0) (i := 0) rfl rfl d_R_exchange_13 ?_
  refine g_aload_n (n := 1) (i := 1) rfl rfl d_R_exchange_14 ?_
  refine g_iload_n (n := 2) (i := 2) rfl rfl d_R_exchange_15 ?_
  refine g_callV1 rfl rfl e_C_replacedBy l_R_95 iv_C_replacedBy 8 (by decide) rfl (by first | assumption | exact g_mut _ (by omega) (by assumption) | exact g_imm (by first | assumption | exact vf_us | exact im_new (by first | assumption | exact vf_us) (by assumption))) (by decide) (by decide) (by decide) (Nat.le_of_ble_eq_true rfl) d_R_exchange_16 (c_C_replacedBy (by assumption) (fun q hq1 hq2 => ?_))
  refine g_retn ?_
  refine g_callV1 rfl rfl e_R_putCard l_R_78 iv_R_putCard 1 (by decide) rfl (by first | assumption | exact g_mut _ (by omega) (by assumption) | exact g_imm (by first | assumption | exact vf_us | exact im_new (by first | assumption | exact vf_us) (by assumption))) (by decide) (Nat.zero_le _) (Nat.zero_le _) (Nat.le_of_ble_eq_true rfl) d_R_exchange_19 (c_R_putCard hb (by assumption) (by assumption) (by first | assumption | exact vf_us) (by omega) (fun w hs hn => ?_))
  refine g_retv ?_
  have u0 := (hn (b) (by omega)).trans u0
  have u1 := (hn (b + 1) (by omega)).trans u1
  have u2 := (hn (b + 2) (by omega)).trans u2
  have u4 := (hn (b + 4) (by omega)).trans u4
  have u3 := hs
  have hfr := fun i (hi : i < b ∨ b + 4 < i) => (hn i (by omega)).trans (hfr i hi)
  have co : g_cell E w im (gad E b) _ := g_mut b (by omega) u0
  have cg : g_cell E w im (gad E (b + 1)) _ := g_mut (b + 1) (by omega) u1
  have cp : g_cell E w im (gad E (b + 2)) _ := g_mut (b + 2) (by omega) u2
  have cc : g_cell E w im (gad E (b + 3)) _ := g_mut (b + 3) (by omega) u3
  have cl : g_cell E w im (gad E (b + 4)) _ := g_mut (b + 4) (by omega) u4
  refine g_iload_n (n := 2) (i := 2) rfl rfl d_R_exchange_22 ?_
  refine g_ireturn_i rfl d_R_exchange_23 ?_
  exact hQ _ _ ⟨hfr, fun _ _ h => im_new (hm1 _ _ h) hq1, _, _, _, _, ⟨hb, u0, u1, u2, u3, u4, hlc⟩, RI.setC (i := x) (la := none) (RI.mono (fun _ _ h => im_new h hq1) ⟨i1, i2, i3, i4, i5, i6⟩) ⟨hx.1, (show x < zc R + 1 by omega)⟩ vf_us (im_new e3 hq1) trivial, okZ.setC (i := x) ⟨ok1, ok2, ok3, ok4, ok5, ok6, ok7, ok8, ok9⟩ ⟨o1, (show (0 : Int) ≤ 2 ∧ (2 : Int) ≤ 3 by omega), Or.inr ⟨hx1, (show zc R < zc R + 1 by omega)⟩, o4, okR.nil⟩⟩

def clrB (s g : Nat) : Nat := s ^^^ (s &&& g)
theorem iI_clr (a b : Nat) : iI a &&& (iI b ^^^ iI (-1)) = iI ((clrB a b : Nat) : Int) := by
  rw [← iI_nI, ← iI_nI, ← iI_nI]
  apply Int32.toBitVec_inj.1
  show BitVec.ofNat 32 a &&& (BitVec.ofNat 32 b ^^^ BitVec.ofInt 32 (-1)) = BitVec.ofNat 32 (clrB a b)
  apply BitVec.eq_of_getLsbD_eq
  intro i hi
  have h1 : (BitVec.ofInt 32 (-1)).getLsbD i = true := by
    have : BitVec.ofInt 32 (-1) = BitVec.allOnes 32 := by decide
    rw [this, BitVec.getLsbD_allOnes]; simp [hi]
  simp only [BitVec.getLsbD_and, BitVec.getLsbD_xor, BitVec.getLsbD_ofNat, h1, clrB, Nat.testBit_xor, Nat.testBit_and]
  cases a.testBit i <;> cases b.testBit i <;> simp [hi]
def shutZ (s g on : Int) : Int := if on = 1 then ((s.toNat ||| 2 ^ g.toNat : Nat) : Int) else (clrB s.toNat (2 ^ g.toNat) : Nat)
theorem shutZ_rng {s g on : Int} (hs : 0 ≤ s ∧ s < 4096) (hg : 0 ≤ g ∧ g ≤ 11) : 0 ≤ shutZ s g on ∧ shutZ s g on < 4096 := by
  have h1 : s.toNat < 2 ^ 12 := by omega
  have h2 : 2 ^ g.toNat < 2 ^ 12 := Nat.pow_lt_pow_right (by decide) (by omega)
  have h3 := Nat.or_lt_two_pow h1 h2
  have h4 : clrB s.toNat (2 ^ g.toNat) < 2 ^ 12 := Nat.xor_lt_two_pow h1 (Nat.and_lt_two_pow _ h2)
  unfold shutZ
  split <;> omega
theorem iI_orz {s : Int} {b : Nat} (h : 0 ≤ s) : iI s ||| iI b = iI ((s.toNat ||| b : Nat) : Int) := by
  have := iI_or s.toNat b
  rwa [Int.toNat_of_nonneg h] at this
theorem iI_clrz {s : Int} {b : Nat} (h : 0 ≤ s) : iI s &&& (iI b ^^^ iI (-1)) = iI ((clrB s.toNat b : Nat) : Int) := by
  have := iI_clr s.toNat b
  rwa [Int.toNat_of_nonneg h] at this

theorem c_R_shut {E : gE} {w : gW} {im : gIm} {Q : gQ} {b : Nat} {R : Rz} (hz : RZ E w im b R) {b9 : Nat} {gn gp gx : Int} (hg : im b9 = some (gateE gn gp gx)) (rg9 : (0 ≤ gn ∧ gn ≤ 11) ∧ (0 ≤ gp ∧ gp ≤ 3) ∧ (0 ≤ gx ∧ gx ≤ 99)) {on : Int} (ro : 0 ≤ on ∧ on ≤ 1) (hQ : ∀ w' im', RN E w im b (zShut R (shutZ (zs R) gn on)) w' im' → Q (.inl none) w' im') : GM E 0 y_R_shut m_R_shut 0 0 [.ref (gad E b), .ref b9, .int (iI on)] w im Q := by
  have hz9 := hz
  obtain ⟨rg, rp, rc, lc, ⟨hb, h0, h1, h2, h3, h4, hlc⟩, ⟨i1, i2, i3, i4, i5, i6⟩, ok⟩ := hz9
  obtain ⟨ok1, ok2, ok3, ok4, ok5, ok6, ok7, ok8, ok9⟩ := ok
  have co : g_cell E w im (gad E b) (resE E b R) := g_mut b (by omega) h0
  have cg : g_cell E w im (gad E (b + 1)) (rowE 4 12 rg) := g_mut (b + 1) (by omega) h1
  have cp : g_cell E w im (gad E (b + 2)) (rowE 5 8 rp) := g_mut (b + 2) (by omega) h2
  have cc : g_cell E w im (gad E (b + 3)) (rowE 6 20 rc) := g_mut (b + 3) (by omega) h3
  have cl : g_cell E w im (gad E (b + 4)) (intE 372 lc) := g_mut (b + 4) (by omega) h4
  have u0 := h0
  have u1 := h1
  have u2 := h2
  have u3 := h3
  have u4 := h4
  have hfr : ∀ i, i < b ∨ b + 4 < i → w i = w i := fun _ _ => rfl
  have cgt := g_imm (E := E) (w := w) hg
  have hsr := shutZ_rng (on := on) ok4 rg9.1
  have hon : on = 0 ∨ on = 1 := by omega
  rcases hon with rfl | rfl
  · refine g_enter (by decide) rfl rfl (fun h => by first | rfl | cases h) (Nat.le_of_ble_eq_true rfl) rfl ?_
    refine g_iconst_i d_R_shut_0 ?_
    refine g_aload_n (n := 1) (i := 1) rfl rfl d_R_shut_1 ?_
    refine g_getfield 5 0 f_R_67 (by assumption) (by rfl) d_R_shut_2 ?_
    refine g_ishl d_R_shut_5 ?_
    rw [iI_shl1 (by omega)]
    refine g_istore_n (n := 3) (i := 3) rfl (by decide) rfl d_R_shut_6 ?_
    refine g_aload_n (n := 0) (i := 0) rfl rfl d_R_shut_7 ?_
    refine g_iload_n (n := 2) (i := 2) rfl rfl d_R_shut_8 ?_
    refine g_if_eq_i (tgt := 21) (by decide) d_R_shut_9 (by decide) (fun h9 => ?_) (fun h => absurd h (by decide))
    refine g_aload_n (n := 0) (i := 0) rfl rfl d_R_shut_21 ?_
    refine g_getfield 1 7 f_R_43 (by assumption) (by rfl) d_R_shut_22 ?_
    refine g_iload_n (n := 3) (i := 3) rfl rfl d_R_shut_25 ?_
    refine g_iconst_i d_R_shut_26 ?_
    refine g_ixor d_R_shut_27 ?_
    refine g_iand d_R_shut_28 ?_
    rw [iI_clrz (by omega)]
    refine g_putA 1 7 (b) (by omega) (by assumption) f_R_43 (Or.inl rfl) (by rfl) (by rfl) (Nat.le_of_ble_eq_true rfl) d_R_shut_29 (fun w hs hn => ?_)
    have u1 := (hn (b + 1) (by omega)).trans u1
    have u2 := (hn (b + 2) (by omega)).trans u2
    have u3 := (hn (b + 3) (by omega)).trans u3
    have u4 := (hn (b + 4) (by omega)).trans u4
    have u0 : w (b) = resE E b (zShut R (shutZ (zs R) gn 0)) := hs
    have hfr := fun i (hi : i < b ∨ b + 4 < i) => (hn i (by omega)).trans (hfr i hi)
    have co : g_cell E w im (gad E b) _ := g_mut b (by omega) u0
    have cg : g_cell E w im (gad E (b + 1)) _ := g_mut (b + 1) (by omega) u1
    have cp : g_cell E w im (gad E (b + 2)) _ := g_mut (b + 2) (by omega) u2
    have cc : g_cell E w im (gad E (b + 3)) _ := g_mut (b + 3) (by omega) u3
    have cl : g_cell E w im (gad E (b + 4)) _ := g_mut (b + 4) (by omega) u4
    refine g_return rfl d_R_shut_32 ?_
    exact hQ _ _ ⟨hfr, fun _ _ h => h, _, _, _, _, ⟨hb, u0, u1, u2, u3, u4, hlc⟩, ⟨i1, i2, i3, i4, i5, i6⟩, okZ.shut ⟨ok1, ok2, ok3, ok4, ok5, ok6, ok7, ok8, ok9⟩ hsr⟩
  · refine g_enter (by decide) rfl rfl (fun h => by first | rfl | cases h) (Nat.le_of_ble_eq_true rfl) rfl ?_
    refine g_iconst_i d_R_shut_0 ?_
    refine g_aload_n (n := 1) (i := 1) rfl rfl d_R_shut_1 ?_
    refine g_getfield 5 0 f_R_67 (by assumption) (by rfl) d_R_shut_2 ?_
    refine g_ishl d_R_shut_5 ?_
    rw [iI_shl1 (by omega)]
    refine g_istore_n (n := 3) (i := 3) rfl (by decide) rfl d_R_shut_6 ?_
    refine g_aload_n (n := 0) (i := 0) rfl rfl d_R_shut_7 ?_
    refine g_iload_n (n := 2) (i := 2) rfl rfl d_R_shut_8 ?_
    refine g_if_eq_i (tgt := 21) (by decide) d_R_shut_9 (by decide) (fun h => absurd h (by decide)) (fun h9 => ?_)
    refine g_aload_n (n := 0) (i := 0) rfl rfl d_R_shut_12 ?_
    refine g_getfield 1 7 f_R_43 (by assumption) (by rfl) d_R_shut_13 ?_
    refine g_iload_n (n := 3) (i := 3) rfl rfl d_R_shut_16 ?_
    refine g_ior d_R_shut_17 ?_
    rw [iI_orz (by omega)]
    refine g_goto (tgt := 29) (by decide) d_R_shut_18 ?_
    refine g_putA 1 7 (b) (by omega) (by assumption) f_R_43 (Or.inl rfl) (by rfl) (by rfl) (Nat.le_of_ble_eq_true rfl) d_R_shut_29 (fun w hs hn => ?_)
    have u1 := (hn (b + 1) (by omega)).trans u1
    have u2 := (hn (b + 2) (by omega)).trans u2
    have u3 := (hn (b + 3) (by omega)).trans u3
    have u4 := (hn (b + 4) (by omega)).trans u4
    have u0 : w (b) = resE E b (zShut R (shutZ (zs R) gn 1)) := hs
    have hfr := fun i (hi : i < b ∨ b + 4 < i) => (hn i (by omega)).trans (hfr i hi)
    have co : g_cell E w im (gad E b) _ := g_mut b (by omega) u0
    have cg : g_cell E w im (gad E (b + 1)) _ := g_mut (b + 1) (by omega) u1
    have cp : g_cell E w im (gad E (b + 2)) _ := g_mut (b + 2) (by omega) u2
    have cc : g_cell E w im (gad E (b + 3)) _ := g_mut (b + 3) (by omega) u3
    have cl : g_cell E w im (gad E (b + 4)) _ := g_mut (b + 4) (by omega) u4
    refine g_return rfl d_R_shut_32 ?_
    exact hQ _ _ ⟨hfr, fun _ _ h => h, _, _, _, _, ⟨hb, u0, u1, u2, u3, u4, hlc⟩, ⟨i1, i2, i3, i4, i5, i6⟩, okZ.shut ⟨ok1, ok2, ok3, ok4, ok5, ok6, ok7, ok8, ok9⟩ hsr⟩


theorem clstep {lc lc1 : Int → Int} {f t a k : Int} (h : 0 ≤ k) (hf : ∀ j, lc1 j = if a ≤ j ∧ j < a + k then lc j + cbZ f t (j - a) else lc j) : ∀ j, uI lc1 (a + k) (lc1 (a + k) + cbZ f t k) j = if a ≤ j ∧ j < a + (k + 1) then lc j + cbZ f t (j - a) else lc j := by
  intro j
  simp only [uI]
  by_cases e : j = a + k
  · rw [if_pos e, if_pos (by omega), hf, if_neg (by omega), e, show a + k - a = k by omega]
  · rw [if_neg e, hf]
    by_cases e2 : a ≤ j ∧ j < a + k
    · rw [if_pos e2, if_pos (by omega)]
    · rw [if_neg e2, if_neg (by omega)]

theorem c_R_countClosed {E : gE} {w : gW} {im : gIm} {Q : gQ} {b : Nat} {R : Rz} {lc : Int → Int} (hb : b + 4 < gN E) (h0 : w b = resE E b R) (h4 : w (b + 4) = intE 372 lc) {b9 : Nat} {gn gp gx : Int} (hg : im b9 = some (gateE gn gp gx)) (rg9 : (0 ≤ gn ∧ gn ≤ 11) ∧ (0 ≤ gp ∧ gp ≤ 3) ∧ (0 ≤ gx ∧ gx ≤ 99)) {f t : Int} (r : (0 ≤ f ∧ f ≤ 50000) ∧ (0 ≤ t ∧ t ≤ 50000)) (hQ : ∀ w' lc', w' (b + 4) = intE 372 lc' → (∀ j, lc' j = if gn * 31 ≤ j ∧ j < gn * 31 + 31 then lc j + cbZ f t (j - gn * 31) else lc j) → (∀ j, j ≠ b + 4 → w' j = w j) → Q (.inl none) w' im) : GM E 1 y_R_countClosed m_R_countClosed 0 0 [.ref (gad E b), .ref b9, .int (iI f), .int (iI t)] w im Q := by
  have loop : ∀ (n9 : Nat) (k9 : Int) (w1 : gW) (lc1 : Int → Int), 0 ≤ k9 → k9 + n9 = 31 → w1 (b + 4) = intE 372 lc1 → (∀ j, j ≠ b + 4 → w1 j = w j) → (∀ j, lc1 j = if gn * 31 ≤ j ∧ j < gn * 31 + k9 then lc j + cbZ f t (j - gn * 31) else lc j) → G E 1 m_R_countClosed 3 [(0, .ref (gad E b)), (1, .ref b9), (2, .int (iI f)), (3, .int (iI t)), (4, .int (iI k9))] [] w1 im 0 0 Q := by
    intro n9
    induction n9 with
    | zero =>
      intro k9 w1 lc1 h9 hk9 hl1 hw1 hf1
      have e9 : k9 = 31 := by omega
      rw [e9] at hf1
      refine g_iload (i := 4) rfl d_R_countClosed_3 ?_
      refine g_bipush_i (by decide) d_R_countClosed_5 ?_
      refine g_icmp_ge_i (tgt := 60) (by omega) (by decide) d_R_countClosed_7 (by decide) (fun h7 => ?_) (fun h => by exfalso; omega)
      refine g_return rfl d_R_countClosed_60 ?_
      exact hQ w1 lc1 hl1 hf1 hw1
    | succ n9 ih =>
      intro k9 w1 lc1 h9 hk9 hl1 hw1 hf1
      have co : g_cell E w1 im (gad E b) (resE E b R) := g_mut b (by omega) ((hw1 b (by omega)).trans h0)
      have cl : g_cell E w1 im (gad E (b + 4)) (intE 372 lc1) := g_mut (b + 4) (by omega) hl1
      have cgt := g_imm (E := E) (w := w1) hg
      refine g_iload (i := 4) rfl d_R_countClosed_3 ?_
      refine g_bipush_i (by decide) d_R_countClosed_5 ?_
      refine g_icmp_ge_i (tgt := 60) (by omega) (by decide) d_R_countClosed_7 (by decide) (fun h => by exfalso; omega) (fun h7 => ?_)
      refine g_aload_n (n := 1) (i := 1) rfl rfl d_R_countClosed_10 ?_
      refine g_getfield 5 0 f_R_67 (by assumption) (by rfl) d_R_countClosed_11 ?_
      refine g_bipush_i (by decide) d_R_countClosed_14 ?_
      refine g_imul_i d_R_countClosed_16 ?_
      refine g_iload (i := 4) rfl d_R_countClosed_17 ?_
      refine g_iadd_i d_R_countClosed_19 ?_
      refine g_istore (i := 5) (by decide) rfl d_R_countClosed_20 ?_
      refine g_iload (i := 5) rfl d_R_countClosed_22 ?_
      refine g_if_lt_i (tgt := 54) (by omega) d_R_countClosed_24 (by decide) (fun h => by exfalso; omega) (fun h24 => ?_)
      refine g_iload (i := 5) rfl d_R_countClosed_27 ?_
      refine g_aload_n (n := 0) (i := 0) rfl rfl d_R_countClosed_29 ?_
      refine g_getfield 1 3 f_R_29 (by assumption) (by rfl) d_R_countClosed_30 ?_
      refine g_alen_i (by assumption) (by decide) d_R_countClosed_33 ?_
      refine g_icmp_ge_i (tgt := 54) (by omega) (by omega) d_R_countClosed_34 (by decide) (fun h => by exfalso; omega) (fun h34 => ?_)
      refine g_aload_n (n := 0) (i := 0) rfl rfl d_R_countClosed_37 ?_
      refine g_getfield 1 3 f_R_29 (by assumption) (by rfl) d_R_countClosed_38 ?_
      refine g_iload (i := 5) rfl d_R_countClosed_41 ?_
      refine g_dup2 rfl rfl d_R_countClosed_43 ?_
      refine g_iaload_i (by assumption) (by omega) (by omega) (by rfl) d_R_countClosed_44 ?_
      refine g_iload_n (n := 2) (i := 2) rfl rfl d_R_countClosed_45 ?_
      refine g_iload_n (n := 3) (i := 3) rfl rfl d_R_countClosed_46 ?_
      refine g_iload (i := 4) rfl d_R_countClosed_47 ?_
      refine g_callS3 rfl rfl e_R_countedBetween l_R_132 st_R_countedBetween (by decide) (Nat.zero_le _) (Nat.zero_le _) (Nat.le_of_ble_eq_true rfl) d_R_countClosed_49 (c_R_countedBetween (by omega) ?_)
      refine g_ret ?_
      refine g_iadd_i d_R_countClosed_52 ?_
      refine g_iastoreA (b + 4) (by omega) hl1 (by omega) (by omega) (by rfl) d_R_countClosed_53 (fun w2 hs hn => ?_)
      refine g_iinc_i (i := 4) rfl (by decide) rfl d_R_countClosed_54 ?_
      refine g_goto (tgt := 3) (by decide) d_R_countClosed_57 ?_
      exact g_cut (lv' := [(0, .ref (gad E b)), (1, .ref b9), (2, .int (iI f)), (3, .int (iI t)), (4, .int (iI (k9 + 1)))]) ⟨rfl, rfl, rfl, rfl, rfl, trivial⟩ (ih (k9 + 1) w2 _ (by omega) (by omega) hs (fun j hj => (hn j hj).trans (hw1 j hj)) (clstep (by omega) hf1))
  refine g_enter (by decide) rfl rfl (fun h => by first | rfl | cases h) (Nat.le_of_ble_eq_true rfl) rfl ?_
  refine g_iconst_i d_R_countClosed_0 ?_
  refine g_istore (i := 4) (by decide) rfl d_R_countClosed_1 ?_
  refine g_cut ?_ (loop 31 0 w lc (by omega) (by omega) h4 (fun _ _ => rfl) (fun j => by rw [if_neg (by omega)]))
  exact ⟨rfl, rfl, rfl, rfl, rfl, trivial⟩

