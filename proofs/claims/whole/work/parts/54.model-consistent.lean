/-! ===== the reference: isConsistent ===== -/
def raM (m : Int → Int) (x : Int) : Int := sumZ (fun k9 => if m (561 + 3 * k9 + 1) = x then 1 else 0) (m 4)
theorem raM_rng {m : Int → Int} (h : 0 ≤ m 4 ∧ m 4 ≤ 600) {x : Int} : 0 ≤ raM m x ∧ raM m x ≤ 600 := by
  have := sumZ_le (f := fun k9 => if m (561 + 3 * k9 + 1) = x then 1 else 0) (c := 1) (n := m 4) h.1 (fun k9 _ _ => by (repeat' split) <;> omega)
  unfold raM
  omega
/-- the way from the ride before to the ride of an index was kept -/
def wkM (m : Int → Int) (x i : Int) : Prop := wayZ (m (5 + 34 * m (561 + 3 * rideAtM m x (i - 1) + 1) + 0)) (m (5 + 34 * m (561 + 3 * rideAtM m x (i - 1) + 1) + 1)) (m (5 + 34 * m (561 + 3 * rideAtM m x i + 1) + 0)) (m (5 + 34 * m (561 + 3 * rideAtM m x i + 1) + 1)) ≤ m (561 + 3 * rideAtM m x i + 2) - m (561 + 3 * rideAtM m x (i - 1) + 2)
def wiM (m : Int → Int) (x : Int) : Nat → Prop
  | 0 => True
  | n + 1 => wiM m x n ∧ wkM m x ((n : Int) + 1)
def wcM (m : Int → Int) : Nat → Prop
  | 0 => True
  | n + 1 => wcM m n ∧ wiM m n (ridesOnM m n - 1).toNat
def moM (m : Int → Int) : Prop := iI (soM m 0) = iI (soM m 1 + sumZ (fun k9 => sharesM m k9) 4 + soM m 3)
def okConM (m : Int → Int) : Prop := moM m ∧ wcM m (m 3).toNat ∧ sumZ (fun k9 => raM m k9) (m 1) - sumZ (fun k9 => ridesOnM m k9) (m 3) = 0
theorem c_M_ridesAt2 {E : gE} {w : gW} {im : gIm} {Q : gQ} {f : Nat → Int} {m : Int → Int} (hm : MR E w f m) (ok : okM m) {x : Int} (rx : 0 ≤ x ∧ x < 12) (hQ : Q (.inl (some (.int (iI (raM m x))))) w im) : GM E 1 y_M_ridesAt m_M_ridesAt 0 0 [.ref (gad E 62), .int (iI x)] w im Q := c_M_ridesAt hm ok rx hQ
theorem c_M_sumOf2 {E : gE} {w : gW} {im : gIm} {Q : gQ} {f : Nat → Int} {m : Int → Int} (hm : MR E w f m) (ok : okM m) {y : Int} (ry : 0 ≤ y ∧ y ≤ 4) (hQ : Q (.inl (some (.int (iI (soM m y))))) w im) : GM E 5 y_M_sumOf m_M_sumOf 0 0 [.ref (gad E 62), .int (iI y)] w im Q := c_M_sumOf hm ok ry hQ

theorem c_M_isConsistent {E : gE} {w : gW} {im : gIm} {Q : gQ} {f : Nat → Int} {m : Int → Int} (hm : MR E w f m) (ok : okM m) (hQ1 : okConM m → ∀ w', MTh E w f m 0 w' → Q (.inl (some (.int (iI 1)))) w' im) (hQ2 : ¬ okConM m → ∀ w', MTh E w f m 0 w' → Q (.inl (some (.int (iI 0)))) w' im) : GM E 6 y_M_isConsistent m_M_isConsistent 0 0 [.ref (gad E 62)] w im Q := by
  obtain ⟨hn, u2, u3⟩ := id hm
  have k2 : g_cell E w im (gad E 62) _ := g_mut 62 (by omega) u2
  have k3 : g_cell E w im (gad E 63) _ := g_mut 63 (by omega) u3
  obtain ⟨z0, z1, z2, z3, z4, z5, z6, z7, z8, z9⟩ := id ok
  refine g_enter (by decide) rfl rfl (fun h => by first | rfl | cases h) (Nat.le_of_ble_eq_true rfl) rfl ?_
  refine g_aload_n (n := 0) (i := 0) rfl rfl d_M_isConsistent_0 ?_
  refine g_iconst_i d_M_isConsistent_1 ?_
  refine g_putA 9 6 62 (by omega) u2 f_M_33 (Or.inl rfl) (by rfl) (by rfl) (Nat.le_of_ble_eq_true rfl) d_M_isConsistent_2 (fun w hs hn9 => ?_)
  have hth := hm.th (t := 0) hs hn9
  have hm0 := hm
  have hm := hth.1
  obtain ⟨hn, u2, u3⟩ := id hm
  have k2 : g_cell E w im (gad E 62) _ := g_mut 62 (by omega) u2
  have k3 : g_cell E w im (gad E 63) _ := g_mut 63 (by omega) u3
  have hbA := sumZ_le (f := fun k9 => raM m k9) (c := 600) (n := m 1) z1.1 (fun k9 _ _ => raM_rng z4)
  have hbB := sumZ_le (f := fun k9 => ridesOnM m k9) (c := 600) (n := m 3) z3.1 (fun k9 _ _ => ridesOnM_rng z4)
  have loopB : ∀ (n9 j9 : Nat) (k9 e9 s9 : Int), (j9 : Int) = k9 → k9 + n9 = m 3 → (0 ≤ e9 ∧ e9 ≤ 1) → (e9 = 1 ↔ moM m ∧ wcM m j9) → s9 = sumZ (fun k9 => raM m k9) (m 1) - sumZ (fun k9 => ridesOnM m k9) k9 → G E 6 m_M_isConsistent 65 [(0, .ref (gad E 62)), (1, .int (iI e9)), (2, .int (iI s9)), (3, .int (iI k9))] [] w im 0 0 Q := by
    intro n9
    induction n9 with
    | zero =>
      intro j9 k9 e9 s9 hjk hk9 he1 he hs
      have e8 : k9 = m 3 := by omega
      rw [e8] at hs
      rw [show j9 = (m 3).toNat by omega] at he
      refine g_iload_n (n := 3) (i := 3) rfl rfl d_M_isConsistent_65 ?_
      refine g_aload_n (n := 0) (i := 0) rfl rfl d_M_isConsistent_66 ?_
      refine g_getfield 9 0 f_M_9 (by assumption) (by rfl) d_M_isConsistent_67 ?_
      refine g_iconst_i d_M_isConsistent_70 ?_
      refine g_iaload_i (by assumption) (by omega) (by omega) (by rfl) d_M_isConsistent_71 ?_
      refine g_icmp_ge_i (tgt := 174) (by omega) (by omega) d_M_isConsistent_72 (by decide) (fun h72 => ?_) (fun h => by exfalso; omega)
      refine g_iload_n (n := 1) (i := 1) rfl rfl d_M_isConsistent_174 ?_
      refine g_if_eq_i (tgt := 186) (by omega) d_M_isConsistent_175 (by decide) (fun h175 => ?_) (fun h175 => ?_)
      · refine g_iconst_i d_M_isConsistent_186 ?_
        refine g_ireturn_0 rfl d_M_isConsistent_187 ?_
        first
        | exact hQ1 ⟨(he.1 (by omega)).1, (he.1 (by omega)).2, by omega⟩ _ ⟨_, hm, hth.2.1, hth.2.2, hn9⟩
        | exact hQ2 (fun h => by have h3 := h.2.2; have h4 := he.2 ⟨h.1, h.2.1⟩; omega) _ ⟨_, hm, hth.2.1, hth.2.2, hn9⟩
      · refine g_iload_n (n := 2) (i := 2) rfl rfl d_M_isConsistent_178 ?_
        refine g_if_ne_i (tgt := 186) (by omega) d_M_isConsistent_179 (by decide) (fun h179 => ?_) (fun h179 => ?_)
        · refine g_iconst_i d_M_isConsistent_186 ?_
          refine g_ireturn_0 rfl d_M_isConsistent_187 ?_
          first
          | exact hQ1 ⟨(he.1 (by omega)).1, (he.1 (by omega)).2, by omega⟩ _ ⟨_, hm, hth.2.1, hth.2.2, hn9⟩
          | exact hQ2 (fun h => by have h3 := h.2.2; have h4 := he.2 ⟨h.1, h.2.1⟩; omega) _ ⟨_, hm, hth.2.1, hth.2.2, hn9⟩
        · refine g_iconst_i d_M_isConsistent_182 ?_
          refine g_goto (tgt := 187) (by decide) d_M_isConsistent_183 ?_
          refine g_ireturn_1 rfl d_M_isConsistent_187 ?_
          first
          | exact hQ1 ⟨(he.1 (by omega)).1, (he.1 (by omega)).2, by omega⟩ _ ⟨_, hm, hth.2.1, hth.2.2, hn9⟩
          | exact hQ2 (fun h => by have h3 := h.2.2; have h4 := he.2 ⟨h.1, h.2.1⟩; omega) _ ⟨_, hm, hth.2.1, hth.2.2, hn9⟩
    | succ n9 ih =>
      intro j9 k9 e9 s9 hjk hk9 he1 he hs
      have hrn := ridesOnM_rng z4 (x := k9)
      have loopC : ∀ (n8 j8 : Nat) (i9 e9 s9 : Int), i9 = (j8 : Int) + 1 → j8 + n8 = (ridesOnM m k9 - 1).toNat → (0 ≤ e9 ∧ e9 ≤ 1) → (e9 = 1 ↔ (moM m ∧ wcM m j9) ∧ wiM m k9 j8) → s9 = sumZ (fun k9 => raM m k9) (m 1) - sumZ (fun k9 => ridesOnM m k9) (k9 + 1) → G E 6 m_M_isConsistent 86 [(0, .ref (gad E 62)), (1, .int (iI e9)), (2, .int (iI s9)), (3, .int (iI k9)), (4, .int (iI i9))] [] w im 0 0 Q := by
        intro n8
        induction n8 with
        | zero =>
          intro j8 i9 e9 s9 hi hj he1 he hs
          refine g_iload (i := 4) rfl d_M_isConsistent_86 ?_
          refine g_aload_n (n := 0) (i := 0) rfl rfl d_M_isConsistent_88 ?_
          refine g_iload_n (n := 3) (i := 3) rfl rfl d_M_isConsistent_89 ?_
          refine g_callV1 rfl rfl e_M_ridesOn l_M_136 iv_M_ridesOn 9 (by decide) rfl (by assumption) (by decide) (Nat.zero_le _) (Nat.zero_le _) (Nat.le_of_ble_eq_true rfl) d_M_isConsistent_90 (c_M_ridesOn2 hm ok (by omega) ?_)
          refine g_ret ?_
          refine g_icmp_ge_i (tgt := 168) (by omega) (by omega) d_M_isConsistent_93 (by decide) (fun h93 => ?_) (fun h => by exfalso; omega)
          refine g_iinc_i (i := 3) rfl (by decide) rfl d_M_isConsistent_168 ?_
          refine g_goto (tgt := 65) (by decide) d_M_isConsistent_171 ?_
          exact g_cut (lv' := [(0, .ref (gad E 62)), (1, .int (iI e9)), (2, .int (iI s9)), (3, .int (iI (k9 + 1)))]) ⟨rfl, rfl, rfl, rfl, trivial⟩ (ih (j9 + 1) (k9 + 1) e9 s9 (by omega) (by omega) he1 (by rw [wcM, hjk, ← and_assoc, show (ridesOnM m k9 - 1).toNat = j8 by omega]; exact he) hs)
        | succ n8 ih2 =>
          intro j8 i9 e9 s9 hi hj he1 he hs
          have hra := rideAtM_ok (m := m) (x := k9) (y := i9 - 1) z4.1 (by omega)
          have hrb := rideAtM_ok (m := m) (x := k9) (y := i9) z4.1 (by omega)
          have zra := z9 _ ⟨hra.1, hra.2.1⟩
          have zrb := z9 _ ⟨hrb.1, hrb.2.1⟩
          have zga := z6 (m (561 + 3 * rideAtM m k9 (i9 - 1) + 1)) (by omega)
          have zgb := z6 (m (561 + 3 * rideAtM m k9 i9 + 1)) (by omega)
          refine g_iload (i := 4) rfl d_M_isConsistent_86 ?_
          refine g_aload_n (n := 0) (i := 0) rfl rfl d_M_isConsistent_88 ?_
          refine g_iload_n (n := 3) (i := 3) rfl rfl d_M_isConsistent_89 ?_
          refine g_callV1 rfl rfl e_M_ridesOn l_M_136 iv_M_ridesOn 9 (by decide) rfl (by assumption) (by decide) (Nat.zero_le _) (Nat.zero_le _) (Nat.le_of_ble_eq_true rfl) d_M_isConsistent_90 (c_M_ridesOn2 hm ok (by omega) ?_)
          refine g_ret ?_
          refine g_icmp_ge_i (tgt := 168) (by first | omega | (unfold wayZ; (repeat' split) <;> omega)) (by first | omega | (unfold wayZ; (repeat' split) <;> omega)) d_M_isConsistent_93 (by decide) (fun h => by exfalso; omega) (fun h93 => ?_)
          refine g_aload_n (n := 0) (i := 0) rfl rfl d_M_isConsistent_96 ?_
          refine g_iload_n (n := 3) (i := 3) rfl rfl d_M_isConsistent_97 ?_
          refine g_iload (i := 4) rfl d_M_isConsistent_98 ?_
          refine g_iconst_i d_M_isConsistent_100 ?_
          refine g_isub_i d_M_isConsistent_101 ?_
          refine g_callV2 rfl rfl e_M_rideAt l_M_139 iv_M_rideAt 9 (by decide) rfl (by assumption) (by decide) (Nat.zero_le _) (Nat.zero_le _) (Nat.le_of_ble_eq_true rfl) d_M_isConsistent_102 (c_M_rideAt hm ok (by omega) (by omega) ?_)
          refine g_ret ?_
          refine g_istore (i := 5) (by decide) rfl d_M_isConsistent_105 ?_
          refine g_aload_n (n := 0) (i := 0) rfl rfl d_M_isConsistent_107 ?_
          refine g_iload_n (n := 3) (i := 3) rfl rfl d_M_isConsistent_108 ?_
          refine g_iload (i := 4) rfl d_M_isConsistent_109 ?_
          refine g_callV2 rfl rfl e_M_rideAt l_M_139 iv_M_rideAt 9 (by decide) rfl (by assumption) (by decide) (Nat.zero_le _) (Nat.zero_le _) (Nat.le_of_ble_eq_true rfl) d_M_isConsistent_111 (c_M_rideAt hm ok (by omega) (by omega) ?_)
          refine g_ret ?_
          refine g_istore (i := 6) (by decide) rfl d_M_isConsistent_114 ?_
          refine g_iload_n (n := 1) (i := 1) rfl rfl d_M_isConsistent_116 ?_
          refine g_if_eq_i (tgt := 160) (by first | omega | (unfold wayZ; (repeat' split) <;> omega)) d_M_isConsistent_117 (by decide) (fun h117 => ?_) (fun h117 => ?_)
          · refine g_iconst_i d_M_isConsistent_160 ?_
            refine g_istore_n (n := 1) (i := 1) rfl (by decide) rfl d_M_isConsistent_161 ?_
            refine g_iinc_i (i := 4) rfl (by decide) rfl d_M_isConsistent_162 ?_
            refine g_goto (tgt := 86) (by decide) d_M_isConsistent_165 ?_
            have hiff : ((0 : Int) = 1 ↔ ((moM m ∧ wcM m j9) ∧ wiM m k9 j8) ∧ wkM m k9 ((j8 : Int) + 1)) := ⟨fun h => absurd h (by decide), fun h => absurd (he.2 h.1) (fun h9 => by have h2 : wkM m k9 i9 := hi ▸ h.2; unfold wkM at h2; omega)⟩
            exact g_cut (lv' := [(0, .ref (gad E 62)), (1, .int (iI 0)), (2, .int (iI s9)), (3, .int (iI k9)), (4, .int (iI (i9 + 1)))]) ⟨rfl, rfl, rfl, rfl, rfl, trivial⟩ (ih2 (j8 + 1) (i9 + 1) 0 s9 (by omega) (by omega) (by omega) (by rw [wiM, ← and_assoc]; exact hiff) hs)
          · refine g_aload_n (n := 0) (i := 0) rfl rfl d_M_isConsistent_120 ?_
            refine g_iload (i := 6) rfl d_M_isConsistent_121 ?_
            refine g_iconst_i d_M_isConsistent_123 ?_
            refine g_callV2 rfl rfl e_M_rideOf l_M_59 iv_M_rideOf 9 (by decide) rfl (by assumption) (by decide) (Nat.zero_le _) (Nat.zero_le _) (Nat.le_of_ble_eq_true rfl) d_M_isConsistent_124 (c_M_rideOf hm (by omega) (by omega) ?_)
            refine g_ret ?_
            refine g_aload_n (n := 0) (i := 0) rfl rfl d_M_isConsistent_127 ?_
            refine g_iload (i := 5) rfl d_M_isConsistent_128 ?_
            refine g_iconst_i d_M_isConsistent_130 ?_
            refine g_callV2 rfl rfl e_M_rideOf l_M_59 iv_M_rideOf 9 (by decide) rfl (by assumption) (by decide) (Nat.zero_le _) (Nat.zero_le _) (Nat.le_of_ble_eq_true rfl) d_M_isConsistent_131 (c_M_rideOf hm (by omega) (by omega) ?_)
            refine g_ret ?_
            refine g_isub_i d_M_isConsistent_134 ?_
            refine g_aload_n (n := 0) (i := 0) rfl rfl d_M_isConsistent_135 ?_
            refine g_aload_n (n := 0) (i := 0) rfl rfl d_M_isConsistent_136 ?_
            refine g_iload (i := 5) rfl d_M_isConsistent_137 ?_
            refine g_iconst_i d_M_isConsistent_139 ?_
            refine g_callV2 rfl rfl e_M_rideOf l_M_59 iv_M_rideOf 9 (by decide) rfl (by assumption) (by decide) (Nat.zero_le _) (Nat.zero_le _) (Nat.le_of_ble_eq_true rfl) d_M_isConsistent_140 (c_M_rideOf hm (by omega) (by omega) ?_)
            refine g_ret ?_
            refine g_aload_n (n := 0) (i := 0) rfl rfl d_M_isConsistent_143 ?_
            refine g_iload (i := 6) rfl d_M_isConsistent_144 ?_
            refine g_iconst_i d_M_isConsistent_146 ?_
            refine g_callV2 rfl rfl e_M_rideOf l_M_59 iv_M_rideOf 9 (by decide) rfl (by assumption) (by decide) (Nat.zero_le _) (Nat.zero_le _) (Nat.le_of_ble_eq_true rfl) d_M_isConsistent_147 (c_M_rideOf hm (by omega) (by omega) ?_)
            refine g_ret ?_
            refine g_callV2 rfl rfl e_M_wayOf l_M_103 iv_M_wayOf 9 (by decide) rfl (by assumption) (by decide) (Nat.zero_le _) (Nat.zero_le _) (Nat.le_of_ble_eq_true rfl) d_M_isConsistent_150 (c_M_wayOf hm ok (by omega) (by omega) ?_)
            refine g_ret ?_
            refine g_icmp_lt_i (tgt := 160) (by first | omega | (unfold wayZ; (repeat' split) <;> omega)) (by first | omega | (unfold wayZ; (repeat' split) <;> omega)) d_M_isConsistent_153 (by decide) (fun h153 => ?_) (fun h153 => ?_)
            · refine g_iconst_i d_M_isConsistent_160 ?_
              refine g_istore_n (n := 1) (i := 1) rfl (by decide) rfl d_M_isConsistent_161 ?_
              refine g_iinc_i (i := 4) rfl (by decide) rfl d_M_isConsistent_162 ?_
              refine g_goto (tgt := 86) (by decide) d_M_isConsistent_165 ?_
              have hiff : ((0 : Int) = 1 ↔ ((moM m ∧ wcM m j9) ∧ wiM m k9 j8) ∧ wkM m k9 ((j8 : Int) + 1)) := ⟨fun h => absurd h (by decide), fun h => absurd (he.2 h.1) (fun h9 => by have h2 : wkM m k9 i9 := hi ▸ h.2; unfold wkM at h2; omega)⟩
              exact g_cut (lv' := [(0, .ref (gad E 62)), (1, .int (iI 0)), (2, .int (iI s9)), (3, .int (iI k9)), (4, .int (iI (i9 + 1)))]) ⟨rfl, rfl, rfl, rfl, rfl, trivial⟩ (ih2 (j8 + 1) (i9 + 1) 0 s9 (by omega) (by omega) (by omega) (by rw [wiM, ← and_assoc]; exact hiff) hs)
            · refine g_iconst_i d_M_isConsistent_156 ?_
              refine g_goto (tgt := 161) (by decide) d_M_isConsistent_157 ?_
              refine g_istore_n (n := 1) (i := 1) rfl (by decide) rfl d_M_isConsistent_161 ?_
              refine g_iinc_i (i := 4) rfl (by decide) rfl d_M_isConsistent_162 ?_
              refine g_goto (tgt := 86) (by decide) d_M_isConsistent_165 ?_
              have hiff : ((1 : Int) = 1 ↔ ((moM m ∧ wcM m j9) ∧ wiM m k9 j8) ∧ wkM m k9 ((j8 : Int) + 1)) := ⟨fun _ => ⟨he.1 (by omega), hi ▸ (show wkM m k9 i9 by unfold wkM; omega)⟩, fun _ => rfl⟩
              exact g_cut (lv' := [(0, .ref (gad E 62)), (1, .int (iI 1)), (2, .int (iI s9)), (3, .int (iI k9)), (4, .int (iI (i9 + 1)))]) ⟨rfl, rfl, rfl, rfl, rfl, trivial⟩ (ih2 (j8 + 1) (i9 + 1) 1 s9 (by omega) (by omega) (by omega) (by rw [wiM, ← and_assoc]; exact hiff) hs)
      
      refine g_iload_n (n := 3) (i := 3) rfl rfl d_M_isConsistent_65 ?_
      refine g_aload_n (n := 0) (i := 0) rfl rfl d_M_isConsistent_66 ?_
      refine g_getfield 9 0 f_M_9 (by assumption) (by rfl) d_M_isConsistent_67 ?_
      refine g_iconst_i d_M_isConsistent_70 ?_
      refine g_iaload_i (by assumption) (by omega) (by omega) (by rfl) d_M_isConsistent_71 ?_
      refine g_icmp_ge_i (tgt := 174) (by omega) (by omega) d_M_isConsistent_72 (by decide) (fun h => by exfalso; omega) (fun h72 => ?_)
      refine g_iload_n (n := 2) (i := 2) rfl rfl d_M_isConsistent_75 ?_
      refine g_aload_n (n := 0) (i := 0) rfl rfl d_M_isConsistent_76 ?_
      refine g_iload_n (n := 3) (i := 3) rfl rfl d_M_isConsistent_77 ?_
      refine g_callV1 rfl rfl e_M_ridesOn l_M_136 iv_M_ridesOn 9 (by decide) rfl (by assumption) (by decide) (Nat.zero_le _) (Nat.zero_le _) (Nat.le_of_ble_eq_true rfl) d_M_isConsistent_78 (c_M_ridesOn2 hm ok (by omega) ?_)
      refine g_ret ?_
      refine g_isub_i d_M_isConsistent_81 ?_
      refine g_istore_n (n := 2) (i := 2) rfl (by decide) rfl d_M_isConsistent_82 ?_
      refine g_iconst_i d_M_isConsistent_83 ?_
      refine g_istore (i := 4) (by decide) rfl d_M_isConsistent_84 ?_
      exact g_cut (lv' := [(0, .ref (gad E 62)), (1, .int (iI e9)), (2, .int (iI _)), (3, .int (iI k9)), (4, .int (iI 1))]) ⟨rfl, rfl, rfl, rfl, rfl, trivial⟩ (loopC (ridesOnM m k9 - 1).toNat 0 1 e9 _ rfl (by omega) he1 ⟨fun h => ⟨he.1 h, trivial⟩, fun h => he.2 h.1⟩ (by rw [sumZ_s (by omega), hs]; omega))
  have loopA : ∀ (n9 : Nat) (k9 e9 s9 : Int), 0 ≤ k9 → k9 + n9 = m 1 → (0 ≤ e9 ∧ e9 ≤ 1) → (e9 = 1 ↔ moM m) → s9 = sumZ (fun k9 => raM m k9) k9 → G E 6 m_M_isConsistent 39 [(0, .ref (gad E 62)), (1, .int (iI e9)), (2, .int (iI s9)), (3, .int (iI k9))] [] w im 0 0 Q := by
    intro n9
    induction n9 with
    | zero =>
      intro k9 e9 s9 h9 hk9 he1 he hs
      have e8 : k9 = m 1 := by omega
      rw [e8] at hs
      refine g_iload_n (n := 3) (i := 3) rfl rfl d_M_isConsistent_39 ?_
      refine g_aload_n (n := 0) (i := 0) rfl rfl d_M_isConsistent_40 ?_
      refine g_getfield 9 0 f_M_9 (by assumption) (by rfl) d_M_isConsistent_41 ?_
      refine g_iconst_i d_M_isConsistent_44 ?_
      refine g_iaload_i (by assumption) (by omega) (by omega) (by rfl) d_M_isConsistent_45 ?_
      refine g_icmp_ge_i (tgt := 63) (by omega) (by omega) d_M_isConsistent_46 (by decide) (fun h46 => ?_) (fun h => by exfalso; omega)
      refine g_iconst_i d_M_isConsistent_63 ?_
      refine g_istore_n (n := 3) (i := 3) rfl (by decide) rfl d_M_isConsistent_64 ?_
      exact g_cut (lv' := [(0, .ref (gad E 62)), (1, .int (iI e9)), (2, .int (iI s9)), (3, .int (iI 0))]) ⟨rfl, rfl, rfl, rfl, trivial⟩ (loopB (m 3).toNat 0 0 e9 s9 rfl (by omega) he1 ⟨fun h => ⟨he.1 h, trivial⟩, fun h => he.2 h.1⟩ (by rw [hs, sumZ_0, Int.sub_zero]))
    | succ n9 ih =>
      intro k9 e9 s9 h9 hk9 he1 he hs
      have hlt : k9 < m 1 := by omega
      refine g_iload_n (n := 3) (i := 3) rfl rfl d_M_isConsistent_39 ?_
      refine g_aload_n (n := 0) (i := 0) rfl rfl d_M_isConsistent_40 ?_
      refine g_getfield 9 0 f_M_9 (by assumption) (by rfl) d_M_isConsistent_41 ?_
      refine g_iconst_i d_M_isConsistent_44 ?_
      refine g_iaload_i (by assumption) (by omega) (by omega) (by rfl) d_M_isConsistent_45 ?_
      refine g_icmp_ge_i (tgt := 63) (by omega) (by omega) d_M_isConsistent_46 (by decide) (fun h => by exfalso; omega) (fun h46 => ?_)
      refine g_iload_n (n := 2) (i := 2) rfl rfl d_M_isConsistent_49 ?_
      refine g_aload_n (n := 0) (i := 0) rfl rfl d_M_isConsistent_50 ?_
      refine g_iload_n (n := 3) (i := 3) rfl rfl d_M_isConsistent_51 ?_
      refine g_callV1 rfl rfl e_M_ridesAt l_M_73 iv_M_ridesAt 9 (by decide) rfl (by assumption) (by decide) (Nat.zero_le _) (Nat.zero_le _) (Nat.le_of_ble_eq_true rfl) d_M_isConsistent_52 (c_M_ridesAt2 hm ok (by omega) ?_)
      refine g_ret ?_
      refine g_iadd_i d_M_isConsistent_55 ?_
      refine g_istore_n (n := 2) (i := 2) rfl (by decide) rfl d_M_isConsistent_56 ?_
      refine g_iinc_i (i := 3) rfl (by decide) rfl d_M_isConsistent_57 ?_
      refine g_goto (tgt := 39) (by decide) d_M_isConsistent_60 ?_
      exact g_cut (lv' := [(0, .ref (gad E 62)), (1, .int (iI e9)), (2, .int (iI _)), (3, .int (iI (k9 + 1)))]) ⟨rfl, rfl, rfl, rfl, trivial⟩ (ih (k9 + 1) e9 _ (by omega) (by omega) he1 he (by rw [sumZ_s (by omega), hs]))
  refine g_aload_n (n := 0) (i := 0) rfl rfl d_M_isConsistent_5 ?_
  refine g_iconst_i d_M_isConsistent_6 ?_
  refine g_callV1 rfl rfl e_M_sumOf l_M_199 iv_M_sumOf 9 (by decide) rfl (by assumption) (by decide) (Nat.zero_le _) (Nat.zero_le _) (Nat.le_of_ble_eq_true rfl) d_M_isConsistent_7 (c_M_sumOf2 hm ok (by omega) ?_)
  refine g_ret ?_
  refine g_aload_n (n := 0) (i := 0) rfl rfl d_M_isConsistent_10 ?_
  refine g_iconst_i d_M_isConsistent_11 ?_
  refine g_callV1 rfl rfl e_M_sumOf l_M_199 iv_M_sumOf 9 (by decide) rfl (by assumption) (by decide) (Nat.zero_le _) (Nat.zero_le _) (Nat.le_of_ble_eq_true rfl) d_M_isConsistent_12 (c_M_sumOf2 hm ok (by omega) ?_)
  refine g_ret ?_
  refine g_aload_n (n := 0) (i := 0) rfl rfl d_M_isConsistent_15 ?_
  refine g_callV0 rfl rfl e_M_sharesInAll l_M_196 iv_M_sharesInAll 9 (by decide) rfl (by assumption) (by decide) (Nat.zero_le _) (Nat.zero_le _) (Nat.le_of_ble_eq_true rfl) d_M_isConsistent_16 (c_M_sharesInAll hm ok ?_)
  refine g_ret ?_
  refine g_iadd_i d_M_isConsistent_19 ?_
  refine g_aload_n (n := 0) (i := 0) rfl rfl d_M_isConsistent_20 ?_
  refine g_iconst_i d_M_isConsistent_21 ?_
  refine g_callV1 rfl rfl e_M_sumOf l_M_199 iv_M_sumOf 9 (by decide) rfl (by assumption) (by decide) (Nat.zero_le _) (Nat.zero_le _) (Nat.le_of_ble_eq_true rfl) d_M_isConsistent_22 (c_M_sumOf2 hm ok (by omega) ?_)
  refine g_ret ?_
  refine g_iadd_i d_M_isConsistent_25 ?_
  refine g_icmp_ne (tgt := 33) d_M_isConsistent_26 (by decide) (fun h26 => ?_) (fun h26 => ?_)
  · refine g_iconst_i d_M_isConsistent_33 ?_
    refine g_istore_n (n := 1) (i := 1) rfl (by decide) rfl d_M_isConsistent_34 ?_
    refine g_iconst_i d_M_isConsistent_35 ?_
    refine g_istore_n (n := 2) (i := 2) rfl (by decide) rfl d_M_isConsistent_36 ?_
    refine g_iconst_i d_M_isConsistent_37 ?_
    refine g_istore_n (n := 3) (i := 3) rfl (by decide) rfl d_M_isConsistent_38 ?_
    exact g_cut (lv' := [(0, .ref (gad E 62)), (1, .int (iI 0)), (2, .int (iI 0)), (3, .int (iI 0))]) ⟨rfl, rfl, rfl, rfl, trivial⟩ (loopA (m 1).toNat 0 0 0 (by omega) (by omega) (by omega) ⟨fun h => absurd h (by decide), fun h => absurd (show moM m from h) (by unfold moM; first | exact h26 | (intro h; exact h26 (fun h2 => h2 h)))⟩ rfl)
  · refine g_iconst_i d_M_isConsistent_29 ?_
    refine g_goto (tgt := 34) (by decide) d_M_isConsistent_30 ?_
    refine g_istore_n (n := 1) (i := 1) rfl (by decide) rfl d_M_isConsistent_34 ?_
    refine g_iconst_i d_M_isConsistent_35 ?_
    refine g_istore_n (n := 2) (i := 2) rfl (by decide) rfl d_M_isConsistent_36 ?_
    refine g_iconst_i d_M_isConsistent_37 ?_
    refine g_istore_n (n := 3) (i := 3) rfl (by decide) rfl d_M_isConsistent_38 ?_
    exact g_cut (lv' := [(0, .ref (gad E 62)), (1, .int (iI 1)), (2, .int (iI 0)), (3, .int (iI 0))]) ⟨rfl, rfl, rfl, rfl, trivial⟩ (loopA (m 1).toNat 0 1 0 (by omega) (by omega) (by omega) ⟨fun _ => (show moM m by unfold moM; first | exact h26 | (exact Classical.not_not.1 h26)), fun _ => rfl⟩ rfl)

