theorem c_C_isSettled {E : gE} {w : gW} {im : gIm} {Q : gQ} {a p : Nat} {n st su rf : Int} {la : Option Nat} (h1 : g_cell E w im a (cardE n p st su rf la)) (rst : 0 ≤ st ∧ st ≤ 3) (hQ1 : (st = 2 ∨ st = 3) → Q (.inl (some (.int (iI 1)))) w im) (hQ2 : ¬ (st = 2 ∨ st = 3) → Q (.inl (some (.int (iI 0)))) w im) : GM E 0 y_C_isSettled m_C_isSettled 0 0 [.ref a] w im Q := by
  refine g_enter (by decide) rfl rfl (fun h => by first | rfl | cases h) (Nat.le_of_ble_eq_true rfl) rfl ?_
  refine g_aload_n (n := 0) (i := 0) rfl rfl d_C_isSettled_0 ?_
  refine g_getfield 8 2 f_C_19 (by assumption) (by rfl) d_C_isSettled_1 ?_
  refine g_iconst_i d_C_isSettled_4 ?_
  refine g_icmp_eq_i (tgt := 16) (by omega) (by decide) d_C_isSettled_5 (by decide) (fun h5 => ?_) (fun h5 => ?_)
  · refine g_iconst_i d_C_isSettled_16 ?_
    refine g_goto (tgt := 21) (by decide) d_C_isSettled_17 ?_
    refine g_ireturn_1 rfl d_C_isSettled_21 ?_
    first | exact hQ1 (by omega) | exact hQ2 (by omega)
  · refine g_aload_n (n := 0) (i := 0) rfl rfl d_C_isSettled_8 ?_
    refine g_getfield 8 2 f_C_19 (by assumption) (by rfl) d_C_isSettled_9 ?_
    refine g_iconst_i d_C_isSettled_12 ?_
    refine g_icmp_ne_i (tgt := 20) (by omega) (by decide) d_C_isSettled_13 (by decide) (fun h13 => ?_) (fun h13 => ?_)
    · refine g_iconst_i d_C_isSettled_20 ?_
      refine g_ireturn_0 rfl d_C_isSettled_21 ?_
      first | exact hQ1 (by omega) | exact hQ2 (by omega)
    · refine g_iconst_i d_C_isSettled_16 ?_
      refine g_goto (tgt := 21) (by decide) d_C_isSettled_17 ?_
      refine g_ireturn_1 rfl d_C_isSettled_21 ?_
      first | exact hQ1 (by omega) | exact hQ2 (by omega)

theorem c_C_price {E : gE} {w : gW} {im : gIm} {Q : gQ} {a p : Nat} {n st su rf : Int} {la : Option Nat} (h1 : g_cell E w im a (cardE n p st su rf la)) {pn k am f l ps pr : Int} (h2 : g_cell E w im p (prodE pn k am f l ps pr)) (rst : 0 ≤ st ∧ st ≤ 3) (hQ : Q (.inl (some (.int (iI (if st = 2 then 0 else pr))))) w im) : GM E 0 y_C_price m_C_price 0 0 [.ref a] w im Q := by
  refine g_enter (by decide) rfl rfl (fun h => by first | rfl | cases h) (Nat.le_of_ble_eq_true rfl) rfl ?_
  refine g_aload_n (n := 0) (i := 0) rfl rfl d_C_price_0 ?_
  refine g_getfield 8 2 f_C_19 (by assumption) (by rfl) d_C_price_1 ?_
  refine g_iconst_i d_C_price_4 ?_
  refine g_icmp_ne_i (tgt := 12) (by omega) (by decide) d_C_price_5 (by decide) (fun h5 => ?_) (fun h5 => ?_)
  · refine g_aload_n (n := 0) (i := 0) rfl rfl d_C_price_12 ?_
    refine g_getfield 8 1 f_C_15 (by assumption) (by rfl) d_C_price_13 ?_
    refine g_getfield 6 6 f_C_35 (by assumption) (by rfl) d_C_price_16 ?_
    refine g_ireturn_i rfl d_C_price_19 ?_
    exact g_qi hQ (by (repeat' split) <;> omega)
  · refine g_iconst_i d_C_price_8 ?_
    refine g_goto (tgt := 19) (by decide) d_C_price_9 ?_
    refine g_ireturn_i rfl d_C_price_19 ?_
    exact g_qi hQ (by (repeat' split) <;> omega)

theorem c_C_rideCount {E : gE} {w : gW} {im : gIm} {Q : gQ} {a p : Nat} {n st su rf : Int} {la : Option Nat} (h1 : g_cell E w im a (cardE n p st su rf la)) {rs : List rT} (hc : chn im la rs) (ok : okR rs) (hQ : Q (.inl (some (.int (iI (rs.length))))) w im) : GM E 0 y_C_rideCount m_C_rideCount 0 0 [.ref a] w im Q := by
  rcases la with _ | la <;> rcases rs with _ | ⟨q, r⟩
  · refine g_enter (by decide) rfl rfl (fun h => by first | rfl | cases h) (Nat.le_of_ble_eq_true rfl) rfl ?_
    refine g_aload_n (n := 0) (i := 0) rfl rfl d_C_rideCount_0 ?_
    refine g_getfield 8 5 f_C_28 (by assumption) (by rfl) d_C_rideCount_1 ?_
    refine g_ifnonnullN d_C_rideCount_4 ?_
    refine g_iconst_i d_C_rideCount_7 ?_
    refine g_goto (tgt := 18) (by decide) d_C_rideCount_8 ?_
    refine g_ireturn_i rfl d_C_rideCount_18 ?_
    exact hQ
  · exact hc.elim
  · exact hc.elim
  · obtain ⟨bf, ga, c1, c2, c3⟩ := hc
    have c1 := g_imm (E := E) (w := w) c1
    have c2 := g_imm (E := E) (w := w) c2
    have hq := ok.head
    have hlen := ok.1
    simp only [List.length_cons] at hlen
    have hdm := dmask_lt ok
    refine g_enter (by decide) rfl rfl (fun h => by first | rfl | cases h) (Nat.le_of_ble_eq_true rfl) rfl ?_
    refine g_aload_n (n := 0) (i := 0) rfl rfl d_C_rideCount_0 ?_
    refine g_getfield 8 5 f_C_28 (by assumption) (by rfl) d_C_rideCount_1 ?_
    refine g_ifnonnull (tgt := 11) (by decide) d_C_rideCount_4 ?_
    refine g_aload_n (n := 0) (i := 0) rfl rfl d_C_rideCount_11 ?_
    refine g_getfield 8 5 f_C_28 (by assumption) (by rfl) d_C_rideCount_12 ?_
    refine g_getfield 7 3 f_C_40 (by assumption) (by rfl) d_C_rideCount_15 ?_
    refine g_ireturn_i rfl d_C_rideCount_18 ?_
    exact g_qi hQ (by simp)


theorem c_C_dayMask {E : gE} {w : gW} {im : gIm} {Q : gQ} {a p : Nat} {n st su rf : Int} {la : Option Nat} (h1 : g_cell E w im a (cardE n p st su rf la)) {rs : List rT} (hc : chn im la rs) (ok : okR rs) (hQ : Q (.inl (some (.int (iI ((dmask rs : Nat)))))) w im) : GM E 0 y_C_dayMask m_C_dayMask 0 0 [.ref a] w im Q := by
  rcases la with _ | la <;> rcases rs with _ | ⟨q, r⟩
  · refine g_enter (by decide) rfl rfl (fun h => by first | rfl | cases h) (Nat.le_of_ble_eq_true rfl) rfl ?_
    refine g_aload_n (n := 0) (i := 0) rfl rfl d_C_dayMask_0 ?_
    refine g_getfield 8 5 f_C_28 (by assumption) (by rfl) d_C_dayMask_1 ?_
    refine g_ifnonnullN d_C_dayMask_4 ?_
    refine g_iconst_i d_C_dayMask_7 ?_
    refine g_goto (tgt := 18) (by decide) d_C_dayMask_8 ?_
    refine g_ireturn_i rfl d_C_dayMask_18 ?_
    exact hQ
  · exact hc.elim
  · exact hc.elim
  · obtain ⟨bf, ga, c1, c2, c3⟩ := hc
    have c1 := g_imm (E := E) (w := w) c1
    have c2 := g_imm (E := E) (w := w) c2
    have hq := ok.head
    have hlen := ok.1
    simp only [List.length_cons] at hlen
    have hdm := dmask_lt ok
    refine g_enter (by decide) rfl rfl (fun h => by first | rfl | cases h) (Nat.le_of_ble_eq_true rfl) rfl ?_
    refine g_aload_n (n := 0) (i := 0) rfl rfl d_C_dayMask_0 ?_
    refine g_getfield 8 5 f_C_28 (by assumption) (by rfl) d_C_dayMask_1 ?_
    refine g_ifnonnull (tgt := 11) (by decide) d_C_dayMask_4 ?_
    refine g_aload_n (n := 0) (i := 0) rfl rfl d_C_dayMask_11 ?_
    refine g_getfield 8 5 f_C_28 (by assumption) (by rfl) d_C_dayMask_12 ?_
    refine g_getfield 7 4 f_C_45 (by assumption) (by rfl) d_C_dayMask_15 ?_
    refine g_ireturn_i rfl d_C_dayMask_18 ?_
    exact hQ


theorem c_C_daysSinceFirst {E : gE} {w : gW} {im : gIm} {Q : gQ} {a p : Nat} {n st su rf : Int} {la : Option Nat} (h1 : g_cell E w im a (cardE n p st su rf la)) {rs : List rT} (hc : chn im la rs) (ok : okR rs) {dy : Int} (rd : 0 ≤ dy ∧ dy ≤ 30) (hQ : Q (.inl (some (.int (iI (if rs = [] then 0 else dy - (ntz (dmask rs) : Nat)))))) w im) : GM E 1 y_C_daysSinceFirst m_C_daysSinceFirst 0 0 [.ref a, .int (iI dy)] w im Q := by
  rcases la with _ | la <;> rcases rs with _ | ⟨q, r⟩
  · refine g_enter (by decide) rfl rfl (fun h => by first | rfl | cases h) (Nat.le_of_ble_eq_true rfl) rfl ?_
    refine g_aload_n (n := 0) (i := 0) rfl rfl d_C_daysSinceFirst_0 ?_
    refine g_getfield 8 5 f_C_28 (by assumption) (by rfl) d_C_daysSinceFirst_1 ?_
    refine g_ifnonnullN d_C_daysSinceFirst_4 ?_
    refine g_iconst_i d_C_daysSinceFirst_7 ?_
    refine g_goto (tgt := 23) (by decide) d_C_daysSinceFirst_8 ?_
    refine g_ireturn_i rfl d_C_daysSinceFirst_23 ?_
    exact hQ
  · exact hc.elim
  · exact hc.elim
  · obtain ⟨bf, ga, c1, c2, c3⟩ := hc
    have c1 := g_imm (E := E) (w := w) c1
    have c2 := g_imm (E := E) (w := w) c2
    have hq := ok.head
    have hlen := ok.1
    simp only [List.length_cons] at hlen
    have hdm := dmask_lt ok
    have hd0 : dmask (q :: r) ≠ 0 := dmask_ne
    have hnz := ntz_le (dmask (q :: r))
    refine g_enter (by decide) rfl rfl (fun h => by first | rfl | cases h) (Nat.le_of_ble_eq_true rfl) rfl ?_
    refine g_aload_n (n := 0) (i := 0) rfl rfl d_C_daysSinceFirst_0 ?_
    refine g_getfield 8 5 f_C_28 (by assumption) (by rfl) d_C_daysSinceFirst_1 ?_
    refine g_ifnonnull (tgt := 11) (by decide) d_C_daysSinceFirst_4 ?_
    refine g_iload_n (n := 1) (i := 1) rfl rfl d_C_daysSinceFirst_11 ?_
    refine g_aload_n (n := 0) (i := 0) rfl rfl d_C_daysSinceFirst_12 ?_
    refine g_getfield 8 5 f_C_28 (by assumption) (by rfl) d_C_daysSinceFirst_13 ?_
    refine g_getfield 7 4 f_C_45 (by assumption) (by rfl) d_C_daysSinceFirst_16 ?_
    refine g_callS1 rfl rfl e_J_numberOfTrailingZeros l_C_48 st_J_numberOfTrailingZeros (by decide) (Nat.zero_le _) (Nat.zero_le _) (Nat.le_of_ble_eq_true rfl) d_C_daysSinceFirst_19 (c_J_numberOfTrailingZeros (by first | assumption | omega) (by first | assumption | omega) ?_)
    refine g_ret ?_
    refine g_isub_i d_C_daysSinceFirst_22 ?_
    refine g_ireturn_i rfl d_C_daysSinceFirst_23 ?_
    exact hQ


theorem l_C_ridesThrough {E : gE} {w : gW} {im : gIm} {Q : gQ} {a : Nat} {b : Nat} {gn gp gx : Int} (h2 : g_cell E w im b (gateE gn gp gx)) (rg : 0 ≤ gn ∧ gn ≤ 11) : ∀ (rs : List rT) (la : Option Nat) (n : Int), chn im la rs → okR rs → 0 ≤ n ∧ n + rs.length ≤ 100000 → Q (.inl (some (.int (iI (n + cntG gn rs))))) w im → G E 0 m_C_ridesThrough 7 [(0, .ref a), (1, .ref b), (2, .int (iI n)), (3, va_rf la)] [] w im 0 0 Q := by
  intro rs
  induction rs with
  | nil =>
    intro la n hc ok hn hQ
    cases la with
    | some x => exact hc.elim
    | none =>
      refine g_aloadN_n (n := 3) (i := 3) rfl rfl d_C_ridesThrough_7 ?_
      refine g_ifnullN (tgt := 41) (by decide) d_C_ridesThrough_8 ?_
      refine g_iload_n (n := 2) (i := 2) rfl rfl d_C_ridesThrough_41 ?_
      refine g_ireturn_i rfl d_C_ridesThrough_42 ?_
      exact g_qi hQ (by simp [cntG])
  | cons q r ih =>
    intro la n hc ok hn hQ
    have hlen := ok.1
    simp only [List.length_cons] at hlen hn
    cases la with
    | none => exact hc.elim
    | some x =>
      obtain ⟨bf, ga, c1, c2, c3⟩ := hc
      have c1 := g_imm (E := E) (w := w) c1
      have c2 := g_imm (E := E) (w := w) c2
      have hq := ok.head
      refine g_aload_n (n := 3) (i := 3) rfl rfl d_C_ridesThrough_7 ?_
      refine g_ifnull d_C_ridesThrough_8 ?_
      refine g_iload_n (n := 2) (i := 2) rfl rfl d_C_ridesThrough_11 ?_
      refine g_aload_n (n := 3) (i := 3) rfl rfl d_C_ridesThrough_12 ?_
      refine g_getfield 7 1 f_C_57 (by assumption) (by rfl) d_C_ridesThrough_13 ?_
      refine g_getfield 5 0 f_C_61 (by assumption) (by rfl) d_C_ridesThrough_16 ?_
      refine g_aload_n (n := 1) (i := 1) rfl rfl d_C_ridesThrough_19 ?_
      refine g_getfield 5 0 f_C_61 (by assumption) (by rfl) d_C_ridesThrough_20 ?_
      refine g_icmp_ne_i (tgt := 30) (by omega) (by omega) d_C_ridesThrough_23 (by decide) (fun h23 => ?_) (fun h23 => ?_)
      · refine g_iconst_i d_C_ridesThrough_30 ?_
        refine g_iadd_i d_C_ridesThrough_31 ?_
        refine g_istore_n (n := 2) (i := 2) rfl (by decide) rfl d_C_ridesThrough_32 ?_
        refine g_aload_n (n := 3) (i := 3) rfl rfl d_C_ridesThrough_33 ?_
        refine g_getfield 7 0 f_C_54 (by assumption) (by rfl) d_C_ridesThrough_34 ?_
        refine g_astoreV_n (n := 3) (i := 3) rfl (by decide) rfl d_C_ridesThrough_37 ?_
        refine g_goto (tgt := 7) (by decide) d_C_ridesThrough_38 ?_
        refine g_cut ?_ (ih bf (n + 0) c3 ok.tail (by omega) (g_qi hQ (by simp only [cntG]; (repeat' split) <;> omega)))
        exact ⟨rfl, rfl, rfl, rfl, trivial⟩
      · refine g_iconst_i d_C_ridesThrough_26 ?_
        refine g_goto (tgt := 31) (by decide) d_C_ridesThrough_27 ?_
        refine g_iadd_i d_C_ridesThrough_31 ?_
        refine g_istore_n (n := 2) (i := 2) rfl (by decide) rfl d_C_ridesThrough_32 ?_
        refine g_aload_n (n := 3) (i := 3) rfl rfl d_C_ridesThrough_33 ?_
        refine g_getfield 7 0 f_C_54 (by assumption) (by rfl) d_C_ridesThrough_34 ?_
        refine g_astoreV_n (n := 3) (i := 3) rfl (by decide) rfl d_C_ridesThrough_37 ?_
        refine g_goto (tgt := 7) (by decide) d_C_ridesThrough_38 ?_
        refine g_cut ?_ (ih bf (n + 1) c3 ok.tail (by omega) (g_qi hQ (by simp only [cntG]; (repeat' split) <;> omega)))
        exact ⟨rfl, rfl, rfl, rfl, trivial⟩

theorem c_C_ridesThrough {E : gE} {w : gW} {im : gIm} {Q : gQ} {a p : Nat} {n st su rf : Int} {la : Option Nat} (h1 : g_cell E w im a (cardE n p st su rf la)) {rs : List rT} (hc : chn im la rs) (ok : okR rs) {b : Nat} {gn gp gx : Int} (h2 : g_cell E w im b (gateE gn gp gx)) (rg : 0 ≤ gn ∧ gn ≤ 11) (hQ : Q (.inl (some (.int (iI (cntG gn rs))))) w im) : GM E 0 y_C_ridesThrough m_C_ridesThrough 0 0 [.ref a, .ref b] w im Q := by
  refine g_enter (by decide) rfl rfl (fun h => by first | rfl | cases h) (Nat.le_of_ble_eq_true rfl) rfl ?_
  refine g_iconst_i d_C_ridesThrough_0 ?_
  refine g_istore_n (n := 2) (i := 2) rfl (by decide) rfl d_C_ridesThrough_1 ?_
  refine g_aload_n (n := 0) (i := 0) rfl rfl d_C_ridesThrough_2 ?_
  refine g_getfield 8 5 f_C_28 (by assumption) (by rfl) d_C_ridesThrough_3 ?_
  refine g_astoreV_n (n := 3) (i := 3) rfl (by decide) rfl d_C_ridesThrough_6 ?_
  refine g_cut ?_ (l_C_ridesThrough (a := a) h2 (by omega) rs la 0 hc ok (by have := ok.1; omega) (g_qi hQ (by omega)))
  exact ⟨rfl, rfl, rfl, rfl, trivial⟩

theorem l_C_ridesAt {E : gE} {w : gW} {im : gIm} {Q : gQ} {a : Nat} {pa : Int} (rg : 0 ≤ pa ∧ pa ≤ 3) : ∀ (rs : List rT) (la : Option Nat) (n : Int), chn im la rs → okR rs → 0 ≤ n ∧ n + rs.length ≤ 100000 → Q (.inl (some (.int (iI (n + cntP pa rs))))) w im → G E 0 m_C_ridesAt 7 [(0, .ref a), (1, .int (iI pa)), (2, .int (iI n)), (3, va_rf la)] [] w im 0 0 Q := by
  intro rs
  induction rs with
  | nil =>
    intro la n hc ok hn hQ
    cases la with
    | some x => exact hc.elim
    | none =>
      refine g_aloadN_n (n := 3) (i := 3) rfl rfl d_C_ridesAt_7 ?_
      refine g_ifnullN (tgt := 38) (by decide) d_C_ridesAt_8 ?_
      refine g_iload_n (n := 2) (i := 2) rfl rfl d_C_ridesAt_38 ?_
      refine g_ireturn_i rfl d_C_ridesAt_39 ?_
      exact g_qi hQ (by simp [cntP])
  | cons q r ih =>
    intro la n hc ok hn hQ
    have hlen := ok.1
    simp only [List.length_cons] at hlen hn
    cases la with
    | none => exact hc.elim
    | some x =>
      obtain ⟨bf, ga, c1, c2, c3⟩ := hc
      have c1 := g_imm (E := E) (w := w) c1
      have c2 := g_imm (E := E) (w := w) c2
      have hq := ok.head
      refine g_aload_n (n := 3) (i := 3) rfl rfl d_C_ridesAt_7 ?_
      refine g_ifnull d_C_ridesAt_8 ?_
      refine g_iload_n (n := 2) (i := 2) rfl rfl d_C_ridesAt_11 ?_
      refine g_aload_n (n := 3) (i := 3) rfl rfl d_C_ridesAt_12 ?_
      refine g_getfield 7 1 f_C_57 (by assumption) (by rfl) d_C_ridesAt_13 ?_
      refine g_getfield 5 1 f_C_64 (by assumption) (by rfl) d_C_ridesAt_16 ?_
      refine g_iload_n (n := 1) (i := 1) rfl rfl d_C_ridesAt_19 ?_
      refine g_icmp_ne_i (tgt := 27) (by omega) (by omega) d_C_ridesAt_20 (by decide) (fun h20 => ?_) (fun h20 => ?_)
      · refine g_iconst_i d_C_ridesAt_27 ?_
        refine g_iadd_i d_C_ridesAt_28 ?_
        refine g_istore_n (n := 2) (i := 2) rfl (by decide) rfl d_C_ridesAt_29 ?_
        refine g_aload_n (n := 3) (i := 3) rfl rfl d_C_ridesAt_30 ?_
        refine g_getfield 7 0 f_C_54 (by assumption) (by rfl) d_C_ridesAt_31 ?_
        refine g_astoreV_n (n := 3) (i := 3) rfl (by decide) rfl d_C_ridesAt_34 ?_
        refine g_goto (tgt := 7) (by decide) d_C_ridesAt_35 ?_
        refine g_cut ?_ (ih bf (n + 0) c3 ok.tail (by omega) (g_qi hQ (by simp only [cntP]; (repeat' split) <;> omega)))
        exact ⟨rfl, rfl, rfl, rfl, trivial⟩
      · refine g_iconst_i d_C_ridesAt_23 ?_
        refine g_goto (tgt := 28) (by decide) d_C_ridesAt_24 ?_
        refine g_iadd_i d_C_ridesAt_28 ?_
        refine g_istore_n (n := 2) (i := 2) rfl (by decide) rfl d_C_ridesAt_29 ?_
        refine g_aload_n (n := 3) (i := 3) rfl rfl d_C_ridesAt_30 ?_
        refine g_getfield 7 0 f_C_54 (by assumption) (by rfl) d_C_ridesAt_31 ?_
        refine g_astoreV_n (n := 3) (i := 3) rfl (by decide) rfl d_C_ridesAt_34 ?_
        refine g_goto (tgt := 7) (by decide) d_C_ridesAt_35 ?_
        refine g_cut ?_ (ih bf (n + 1) c3 ok.tail (by omega) (g_qi hQ (by simp only [cntP]; (repeat' split) <;> omega)))
        exact ⟨rfl, rfl, rfl, rfl, trivial⟩

theorem c_C_ridesAt {E : gE} {w : gW} {im : gIm} {Q : gQ} {a p : Nat} {n st su rf : Int} {la : Option Nat} (h1 : g_cell E w im a (cardE n p st su rf la)) {rs : List rT} (hc : chn im la rs) (ok : okR rs) {pa : Int} (rg : 0 ≤ pa ∧ pa ≤ 3) (hQ : Q (.inl (some (.int (iI (cntP pa rs))))) w im) : GM E 0 y_C_ridesAt m_C_ridesAt 0 0 [.ref a, .int (iI pa)] w im Q := by
  refine g_enter (by decide) rfl rfl (fun h => by first | rfl | cases h) (Nat.le_of_ble_eq_true rfl) rfl ?_
  refine g_iconst_i d_C_ridesAt_0 ?_
  refine g_istore_n (n := 2) (i := 2) rfl (by decide) rfl d_C_ridesAt_1 ?_
  refine g_aload_n (n := 0) (i := 0) rfl rfl d_C_ridesAt_2 ?_
  refine g_getfield 8 5 f_C_28 (by assumption) (by rfl) d_C_ridesAt_3 ?_
  refine g_astoreV_n (n := 3) (i := 3) rfl (by decide) rfl d_C_ridesAt_6 ?_
  refine g_cut ?_ (l_C_ridesAt (a := a) (by omega) rs la 0 hc ok (by have := ok.1; omega) (g_qi hQ (by omega)))
  exact ⟨rfl, rfl, rfl, rfl, trivial⟩

/-- the ride that has k rides before it -/
def nthR : List rT → Int → Option rT
  | [], _ => none
  | q :: r, k => if (r.length : Int) = k then some q else nthR r k
/-- the address of the ride that has k rides before it -/
def nthA (im : gIm) : Option Nat → List rT → Int → Option Nat
  | some a, q :: r, k => if (r.length : Int) = k then some a else match im a with
    | some (.inr (_, .ref b :: _)) => nthA im (some b) r k
    | _ => none
  | _, _, _ => none
theorem nthA_tail {im : gIm} {a ga : Nat} {bf : Option Nat} {q : rT} {r : List rT} {k mi ct dy : Int} (h : im a = some (rideE bf ga mi ct dy)) (hc : chn im bf r) : nthA im (some a) (q :: r) k = if (r.length : Int) = k then some a else nthA im bf r k := by
  rw [nthA]
  split
  · rfl
  · rw [h]
    cases bf with
    | none =>
      cases r with
      | nil => first | rfl | simp [va_rf, nthA]
      | cons x y => exact hc.elim
    | some b => first | rfl | simp [va_rf]
/-- what lies at that address -/
theorem nthA_spec {im : gIm} {rs : List rT} {k : Int} : ∀ {la : Option Nat}, chn im la rs → match nthA im la rs k, nthR rs k with
    | none, none => True
    | some a, some q => ∃ bf ga ct dy, im a = some (rideE bf ga q.2.2.2 ct dy) ∧ im ga = some (gateE q.1 q.2.1 q.2.2.1)
    | _, _ => False := by
  induction rs with
  | nil =>
    intro la hc
    cases la with
    | none => simp [nthA, nthR]
    | some a => exact hc.elim
  | cons q r ih =>
    intro la hc
    cases la with
    | none => exact hc.elim
    | some a =>
      obtain ⟨bf, ga, c1, c2, c3⟩ := hc
      rw [nthA_tail c1 c3, nthR]
      by_cases e : (r.length : Int) = k
      · rw [if_pos e, if_pos e]
        exact ⟨bf, ga, _, _, c1, c2⟩
      · rw [if_neg e, if_neg e]
        exact ih c3

theorem l_C_rideAt {E : gE} {w : gW} {im : gIm} {Q : gQ} {a : Nat} {x : Int} (rx : -2147483648 ≤ x ∧ x < 2147483648) : ∀ (rs : List rT) (la : Option Nat), chn im la rs → okR rs → Q (.inl (some (va_rf (nthA im la rs x)))) w im → G E 0 m_C_rideAt 5 [(0, .ref a), (1, .int (iI x)), (2, va_rf la)] [] w im 0 0 Q := by
  intro rs
  induction rs with
  | nil =>
    intro la hc ok hQ
    cases la with
    | some x => exact hc.elim
    | none =>
      refine g_aloadN_n (n := 2) (i := 2) rfl rfl d_C_rideAt_5 ?_
      refine g_ifnullN (tgt := 29) (by decide) d_C_rideAt_6 ?_
      refine g_null d_C_rideAt_29 ?_
      refine g_areturn rfl (Or.inl ⟨_, rfl⟩) (Or.inl rfl) d_C_rideAt_30 ?_
      exact hQ
  | cons q r ih =>
    intro la hc ok hQ
    have hlen := ok.1
    simp only [List.length_cons] at hlen
    cases la with
    | none => exact hc.elim
    | some x0 =>
      obtain ⟨bf, ga, c1, c2, c3⟩ := hc
      rw [nthA_tail c1 c3] at hQ
      have c1 := g_imm (E := E) (w := w) c1
      have c2 := g_imm (E := E) (w := w) c2
      have hq := ok.head
      refine g_aload_n (n := 2) (i := 2) rfl rfl d_C_rideAt_5 ?_
      refine g_ifnull d_C_rideAt_6 ?_
      refine g_aload_n (n := 2) (i := 2) rfl rfl d_C_rideAt_9 ?_
      refine g_getfield 7 3 f_C_40 (by assumption) (by rfl) d_C_rideAt_10 ?_
      refine g_iconst_i d_C_rideAt_13 ?_
      refine g_isub_i d_C_rideAt_14 ?_
      refine g_iload_n (n := 1) (i := 1) rfl rfl d_C_rideAt_15 ?_
      refine g_icmp_ne_i (tgt := 21) (by omega) (by omega) d_C_rideAt_16 (by decide) (fun h16 => ?_) (fun h16 => ?_)
      · refine g_aload_n (n := 2) (i := 2) rfl rfl d_C_rideAt_21 ?_
        refine g_getfield 7 0 f_C_54 (by assumption) (by rfl) d_C_rideAt_22 ?_
        refine g_astoreV_n (n := 2) (i := 2) rfl (by decide) rfl d_C_rideAt_25 ?_
        refine g_goto (tgt := 5) (by decide) d_C_rideAt_26 ?_
        rw [if_neg (by omega)] at hQ
        refine g_cut ?_ (ih bf c3 ok.tail hQ)
        exact ⟨rfl, rfl, rfl, trivial⟩
      · refine g_aload_n (n := 2) (i := 2) rfl rfl d_C_rideAt_19 ?_
        refine g_areturn rfl (Or.inl ⟨_, rfl⟩) (Or.inr ⟨_, rfl⟩) d_C_rideAt_20 ?_
        rw [if_pos (by omega)] at hQ; exact hQ

theorem c_C_rideAt {E : gE} {w : gW} {im : gIm} {Q : gQ} {a p : Nat} {n st su rf : Int} {la : Option Nat} (h1 : g_cell E w im a (cardE n p st su rf la)) {rs : List rT} (hc : chn im la rs) (ok : okR rs) {x : Int} (rx : -2147483648 ≤ x ∧ x < 2147483648) (hQ : Q (.inl (some (va_rf (nthA im la rs x)))) w im) : GM E 0 y_C_rideAt m_C_rideAt 0 0 [.ref a, .int (iI x)] w im Q := by
  refine g_enter (by decide) rfl rfl (fun h => by first | rfl | cases h) (Nat.le_of_ble_eq_true rfl) rfl ?_
  refine g_aload_n (n := 0) (i := 0) rfl rfl d_C_rideAt_0 ?_
  refine g_getfield 8 5 f_C_28 (by assumption) (by rfl) d_C_rideAt_1 ?_
  refine g_astoreV_n (n := 2) (i := 2) rfl (by decide) rfl d_C_rideAt_4 ?_
  refine g_cut ?_ (l_C_rideAt (a := a) (by omega) rs la hc ok hQ)
  exact ⟨rfl, rfl, rfl, trivial⟩

theorem l_C_keepsWays {E : gE} {w : gW} {im : gIm} {Q : gQ} {a : Nat} : ∀ (rs : List rT) (la : Option Nat), chn im la rs → okR rs → (waysOk rs → Q (.inl (some (.int (iI 1)))) w im) → (¬ waysOk rs → Q (.inl (some (.int (iI 0)))) w im) → G E 1 m_C_keepsWays 5 [(0, .ref a), (1, va_rf la)] [] w im 0 0 Q := by
  intro rs
  induction rs with
  | nil =>
    intro la hc ok hQ1 hQ2
    cases la with
    | some x => exact hc.elim
    | none =>
      refine g_aloadN_n (n := 1) (i := 1) rfl rfl d_C_keepsWays_5 ?_
      refine g_ifnullN (tgt := 51) (by decide) d_C_keepsWays_6 ?_
      refine g_iconst_i d_C_keepsWays_51 ?_
      refine g_ireturn_1 rfl d_C_keepsWays_52 ?_
      exact hQ1 trivial
  | cons q r ih =>
    intro la hc ok hQ1 hQ2
    cases la with
    | none => exact hc.elim
    | some x0 =>
      obtain ⟨bf, ga, c1, c2, c3⟩ := hc
      have c1 := g_imm (E := E) (w := w) c1
      have c2 := g_imm (E := E) (w := w) c2
      have hq := ok.head
      rcases bf with _ | bf <;> rcases r with _ | ⟨q2, r⟩
      · refine g_aload_n (n := 1) (i := 1) rfl rfl d_C_keepsWays_5 ?_
        refine g_ifnull d_C_keepsWays_6 ?_
        refine g_aload_n (n := 1) (i := 1) rfl rfl d_C_keepsWays_9 ?_
        refine g_getfield 7 0 f_C_54 (by assumption) (by rfl) d_C_keepsWays_10 ?_
        refine g_astoreN_n (n := 2) (i := 2) rfl (by decide) rfl d_C_keepsWays_13 ?_
        refine g_aloadN_n (n := 2) (i := 2) rfl rfl d_C_keepsWays_14 ?_
        refine g_ifnullN (tgt := 43) (by decide) d_C_keepsWays_15 ?_
        refine g_aload_n (n := 1) (i := 1) rfl rfl d_C_keepsWays_43 ?_
        refine g_getfield 7 0 f_C_54 (by assumption) (by rfl) d_C_keepsWays_44 ?_
        refine g_astoreN_n (n := 1) (i := 1) rfl (by decide) rfl d_C_keepsWays_47 ?_
        refine g_goto (tgt := 5) (by decide) d_C_keepsWays_48 ?_
        refine g_cut ?_ (ih none trivial ok.tail (fun _ => hQ1 trivial) (fun h => absurd trivial h))
        exact ⟨rfl, rfl, trivial⟩
      · exact c3.elim
      · exact c3.elim
      · obtain ⟨bf3, ga3, c4, c5, c6⟩ := id c3
        have c4 := g_imm (E := E) (w := w) c4
        have c5 := g_imm (E := E) (w := w) c5
        have hq2 := ok.tail.head
        refine g_aload_n (n := 1) (i := 1) rfl rfl d_C_keepsWays_5 ?_
        refine g_ifnull d_C_keepsWays_6 ?_
        refine g_aload_n (n := 1) (i := 1) rfl rfl d_C_keepsWays_9 ?_
        refine g_getfield 7 0 f_C_54 (by assumption) (by rfl) d_C_keepsWays_10 ?_
        refine g_astore_n (n := 2) (i := 2) rfl (by decide) rfl d_C_keepsWays_13 ?_
        refine g_aload_n (n := 2) (i := 2) rfl rfl d_C_keepsWays_14 ?_
        refine g_ifnull d_C_keepsWays_15 ?_
        refine g_aload_n (n := 1) (i := 1) rfl rfl d_C_keepsWays_18 ?_
        refine g_getfield 7 2 f_C_67 (by assumption) (by rfl) d_C_keepsWays_19 ?_
        refine g_aload_n (n := 2) (i := 2) rfl rfl d_C_keepsWays_22 ?_
        refine g_getfield 7 2 f_C_67 (by assumption) (by rfl) d_C_keepsWays_23 ?_
        refine g_isub_i d_C_keepsWays_26 ?_
        refine g_aload_n (n := 2) (i := 2) rfl rfl d_C_keepsWays_27 ?_
        refine g_getfield 7 1 f_C_57 (by assumption) (by rfl) d_C_keepsWays_28 ?_
        refine g_aload_n (n := 1) (i := 1) rfl rfl d_C_keepsWays_31 ?_
        refine g_getfield 7 1 f_C_57 (by assumption) (by rfl) d_C_keepsWays_32 ?_
        refine g_callV1 rfl rfl e_G_wayTo l_C_70 iv_G_wayTo 5 (by decide) rfl (by assumption) (by decide) (Nat.zero_le _) (Nat.zero_le _) (Nat.le_of_ble_eq_true rfl) d_C_keepsWays_35 (c_G_wayTo (by assumption) (by assumption) (by omega) ?_)
        refine g_ret ?_
        refine g_icmp_ge_i (tgt := 43) (by first | omega | (unfold wayZ; (repeat' split) <;> omega)) (by first | omega | (unfold wayZ; (repeat' split) <;> omega)) d_C_keepsWays_38 (by decide) (fun h38 => ?_) (fun h38 => ?_)
        · refine g_aload_n (n := 1) (i := 1) rfl rfl d_C_keepsWays_43 ?_
          refine g_getfield 7 0 f_C_54 (by assumption) (by rfl) d_C_keepsWays_44 ?_
          refine g_astore_n (n := 1) (i := 1) rfl (by decide) rfl d_C_keepsWays_47 ?_
          refine g_goto (tgt := 5) (by decide) d_C_keepsWays_48 ?_
          refine g_cut ?_ (ih (some bf) c3 ok.tail (fun h => hQ1 ⟨by omega, h⟩) (fun h => hQ2 (fun h9 => h h9.2)))
          exact ⟨rfl, rfl, trivial⟩
        · refine g_iconst_i d_C_keepsWays_41 ?_
          refine g_ireturn_0 rfl d_C_keepsWays_42 ?_
          exact hQ2 (fun h => by have := h.1; omega)

theorem c_C_keepsWays {E : gE} {w : gW} {im : gIm} {Q : gQ} {a p : Nat} {n st su rf : Int} {la : Option Nat} (h1 : g_cell E w im a (cardE n p st su rf la)) {rs : List rT} (hc : chn im la rs) (ok : okR rs) (hQ1 : (waysOk rs) → Q (.inl (some (.int (iI 1)))) w im) (hQ2 : ¬ (waysOk rs) → Q (.inl (some (.int (iI 0)))) w im) : GM E 1 y_C_keepsWays m_C_keepsWays 0 0 [.ref a] w im Q := by
  refine g_enter (by decide) rfl rfl (fun h => by first | rfl | cases h) (Nat.le_of_ble_eq_true rfl) rfl ?_
  refine g_aload_n (n := 0) (i := 0) rfl rfl d_C_keepsWays_0 ?_
  refine g_getfield 8 5 f_C_28 (by assumption) (by rfl) d_C_keepsWays_1 ?_
  refine g_astoreV_n (n := 1) (i := 1) rfl (by decide) rfl d_C_keepsWays_4 ?_
  refine g_cut ?_ (l_C_keepsWays (a := a) rs la hc ok hQ1 hQ2)
  exact ⟨rfl, rfl, trivial⟩

/-- may there be a ride on this day -/
def validR (k am : Int) (rs : List rT) (dy : Int) : Prop := if k = 0 then (if rs = [] then 0 else dy - (ntz (dmask rs) : Nat)) < am else if k = 1 then (popc (dmask rs ||| 2 ^ dy.toNat) : Nat) ≤ am else (rs.length : Int) < am * 10
def leftR (k am : Int) (rs : List rT) (dy : Int) : Int := if k = 0 then (if 0 < am - (if rs = [] then 0 else dy - (ntz (dmask rs) : Nat)) then am - (if rs = [] then 0 else dy - (ntz (dmask rs) : Nat)) else 0) else if k = 1 then am - (popc (dmask rs) : Nat) else am * 10 - rs.length

theorem c_C_isValidForRideOn {E : gE} {w : gW} {im : gIm} {Q : gQ} {a p : Nat} {n st su rf : Int} {la : Option Nat} (h1 : g_cell E w im a (cardE n p st su rf la)) {pn k am f l ps pr : Int} (h2 : g_cell E w im p (prodE pn k am f l ps pr)) {rs : List rT} (hc : chn im la rs) (ok : okR rs) {dy : Int} (rd : 0 ≤ dy ∧ dy ≤ 30) (rp : (0 ≤ k ∧ k ≤ 2) ∧ (1 ≤ am ∧ am ≤ 9)) (hQ1 : (validR k am rs dy) → Q (.inl (some (.int (iI 1)))) w im) (hQ2 : ¬ (validR k am rs dy) → Q (.inl (some (.int (iI 0)))) w im) : GM E 2 y_C_isValidForRideOn m_C_isValidForRideOn 0 0 [.ref a, .int (iI dy)] w im Q := by
  have hlen := ok.1
  have hdm := dmask_lt ok
  have hnz := ntz_le (dmask rs)
  have hpc := popc_le (dmask rs)
  have hp2 : 2 ^ dy.toNat < 2 ^ 31 := Nat.pow_lt_pow_right (by decide) (by omega)
  have hor : dmask rs ||| 2 ^ dy.toNat < 2147483648 := Nat.or_lt_two_pow (n := 31) hdm hp2
  have hpo := popc_le (dmask rs ||| 2 ^ dy.toNat)
  refine g_enter (by decide) rfl rfl (fun h => by first | rfl | cases h) (Nat.le_of_ble_eq_true rfl) rfl ?_
  refine g_aload_n (n := 0) (i := 0) rfl rfl d_C_isValidForRideOn_0 ?_
  refine g_getfield 8 1 f_C_15 (by assumption) (by rfl) d_C_isValidForRideOn_1 ?_
  refine g_getfield 6 1 f_C_74 (by assumption) (by rfl) d_C_isValidForRideOn_4 ?_
  have hk9 : k = 0 ∨ k = 1 ∨ k = 2 := by omega
  rcases hk9 with rfl | rfl | rfl
  · refine g_lookup (off := 25) (tgt := 32) d_C_isValidForRideOn_7 (by decide) (by decide) (by decide) ?_
    refine g_aload_n (n := 0) (i := 0) rfl rfl d_C_isValidForRideOn_32 ?_
    refine g_iload_n (n := 1) (i := 1) rfl rfl d_C_isValidForRideOn_33 ?_
    refine g_callV1 rfl rfl e_C_daysSinceFirst l_C_77 iv_C_daysSinceFirst 8 (by decide) rfl (by assumption) (by decide) (Nat.zero_le _) (Nat.zero_le _) (Nat.le_of_ble_eq_true rfl) d_C_isValidForRideOn_34 (c_C_daysSinceFirst (by assumption) (by assumption) (by assumption) (by omega) ?_)
    refine g_ret ?_
    refine g_aload_n (n := 0) (i := 0) rfl rfl d_C_isValidForRideOn_37 ?_
    refine g_getfield 8 1 f_C_15 (by assumption) (by rfl) d_C_isValidForRideOn_38 ?_
    refine g_getfield 6 2 f_C_80 (by assumption) (by rfl) d_C_isValidForRideOn_41 ?_
    refine g_icmp_ge_i (tgt := 51) (by first | omega | ((repeat' split) <;> omega)) (by first | omega | ((repeat' split) <;> omega)) d_C_isValidForRideOn_44 (by decide) (fun h44 => ?_) (fun h44 => ?_)
    · refine g_iconst_i d_C_isValidForRideOn_51 ?_
      refine g_ireturn_0 rfl d_C_isValidForRideOn_52 ?_
      first | exact hQ1 (by simp only [validR]; simp; omega) | exact hQ2 (by simp only [validR]; simp; omega)
    · refine g_iconst_i d_C_isValidForRideOn_47 ?_
      refine g_goto (tgt := 52) (by decide) d_C_isValidForRideOn_48 ?_
      refine g_ireturn_1 rfl d_C_isValidForRideOn_52 ?_
      first | exact hQ1 (by simp only [validR]; simp; omega) | exact hQ2 (by simp only [validR]; simp; omega)
  · refine g_lookup (off := 46) (tgt := 53) d_C_isValidForRideOn_7 (by decide) (by decide) (by decide) ?_
    refine g_aload_n (n := 0) (i := 0) rfl rfl d_C_isValidForRideOn_53 ?_
    refine g_callV0 rfl rfl e_C_dayMask l_C_83 iv_C_dayMask 8 (by decide) rfl (by assumption) (by decide) (Nat.zero_le _) (Nat.zero_le _) (Nat.le_of_ble_eq_true rfl) d_C_isValidForRideOn_54 (c_C_dayMask (by assumption) (by assumption) (by assumption) ?_)
    refine g_ret ?_
    refine g_iconst_i d_C_isValidForRideOn_57 ?_
    refine g_iload_n (n := 1) (i := 1) rfl rfl d_C_isValidForRideOn_58 ?_
    refine g_ishl d_C_isValidForRideOn_59 ?_
    rw [iI_shl1 (by omega)]
    refine g_ior d_C_isValidForRideOn_60 ?_
    rw [iI_or]
    refine g_callS1 rfl rfl e_J_bitCount l_C_87 st_J_bitCount (by decide) (Nat.zero_le _) (Nat.zero_le _) (Nat.le_of_ble_eq_true rfl) d_C_isValidForRideOn_61 (c_J_bitCount (by first | assumption | omega) ?_)
    refine g_ret ?_
    refine g_aload_n (n := 0) (i := 0) rfl rfl d_C_isValidForRideOn_64 ?_
    refine g_getfield 8 1 f_C_15 (by assumption) (by rfl) d_C_isValidForRideOn_65 ?_
    refine g_getfield 6 2 f_C_80 (by assumption) (by rfl) d_C_isValidForRideOn_68 ?_
    refine g_icmp_gt_i (tgt := 78) (by first | omega | ((repeat' split) <;> omega)) (by first | omega | ((repeat' split) <;> omega)) d_C_isValidForRideOn_71 (by decide) (fun h71 => ?_) (fun h71 => ?_)
    · refine g_iconst_i d_C_isValidForRideOn_78 ?_
      refine g_ireturn_0 rfl d_C_isValidForRideOn_79 ?_
      first | exact hQ1 (by simp only [validR]; simp; omega) | exact hQ2 (by simp only [validR]; simp; omega)
    · refine g_iconst_i d_C_isValidForRideOn_74 ?_
      refine g_goto (tgt := 79) (by decide) d_C_isValidForRideOn_75 ?_
      refine g_ireturn_1 rfl d_C_isValidForRideOn_79 ?_
      first | exact hQ1 (by simp only [validR]; simp; omega) | exact hQ2 (by simp only [validR]; simp; omega)
  · refine g_lookup (off := 73) (tgt := 80) d_C_isValidForRideOn_7 (by decide) (by decide) (by decide) ?_
    refine g_aload_n (n := 0) (i := 0) rfl rfl d_C_isValidForRideOn_80 ?_
    refine g_callV0 rfl rfl e_C_rideCount l_C_90 iv_C_rideCount 8 (by decide) rfl (by assumption) (by decide) (Nat.zero_le _) (Nat.zero_le _) (Nat.le_of_ble_eq_true rfl) d_C_isValidForRideOn_81 (c_C_rideCount (by assumption) (by assumption) (by assumption) ?_)
    refine g_ret ?_
    refine g_aload_n (n := 0) (i := 0) rfl rfl d_C_isValidForRideOn_84 ?_
    refine g_getfield 8 1 f_C_15 (by assumption) (by rfl) d_C_isValidForRideOn_85 ?_
    refine g_getfield 6 2 f_C_80 (by assumption) (by rfl) d_C_isValidForRideOn_88 ?_
    refine g_bipush_i (by decide) d_C_isValidForRideOn_91 ?_
    refine g_imul_i d_C_isValidForRideOn_93 ?_
    refine g_icmp_ge_i (tgt := 101) (by first | omega | ((repeat' split) <;> omega)) (by first | omega | ((repeat' split) <;> omega)) d_C_isValidForRideOn_94 (by decide) (fun h94 => ?_) (fun h94 => ?_)
    · refine g_iconst_i d_C_isValidForRideOn_101 ?_
      refine g_ireturn_0 rfl d_C_isValidForRideOn_102 ?_
      first | exact hQ1 (by simp only [validR]; simp; omega) | exact hQ2 (by simp only [validR]; simp; omega)
    · refine g_iconst_i d_C_isValidForRideOn_97 ?_
      refine g_goto (tgt := 102) (by decide) d_C_isValidForRideOn_98 ?_
      refine g_ireturn_1 rfl d_C_isValidForRideOn_102 ?_
      first | exact hQ1 (by simp only [validR]; simp; omega) | exact hQ2 (by simp only [validR]; simp; omega)

theorem c_C_leftOn {E : gE} {w : gW} {im : gIm} {Q : gQ} {a p : Nat} {n st su rf : Int} {la : Option Nat} (h1 : g_cell E w im a (cardE n p st su rf la)) {pn k am f l ps pr : Int} (h2 : g_cell E w im p (prodE pn k am f l ps pr)) {rs : List rT} (hc : chn im la rs) (ok : okR rs) {dy : Int} (rd : 0 ≤ dy ∧ dy ≤ 30) (rp : (0 ≤ k ∧ k ≤ 2) ∧ (1 ≤ am ∧ am ≤ 9)) (hQ : Q (.inl (some (.int (iI (leftR k am rs dy))))) w im) : GM E 2 y_C_leftOn m_C_leftOn 0 0 [.ref a, .int (iI dy)] w im Q := by
  have hlen := ok.1
  have hdm := dmask_lt ok
  have hnz := ntz_le (dmask rs)
  have hpc := popc_le (dmask rs)
  have hp2 : 2 ^ dy.toNat < 2 ^ 31 := Nat.pow_lt_pow_right (by decide) (by omega)
  have hor : dmask rs ||| 2 ^ dy.toNat < 2147483648 := Nat.or_lt_two_pow (n := 31) hdm hp2
  have hpo := popc_le (dmask rs ||| 2 ^ dy.toNat)
  refine g_enter (by decide) rfl rfl (fun h => by first | rfl | cases h) (Nat.le_of_ble_eq_true rfl) rfl ?_
  refine g_aload_n (n := 0) (i := 0) rfl rfl d_C_leftOn_0 ?_
  refine g_getfield 8 1 f_C_15 (by assumption) (by rfl) d_C_leftOn_1 ?_
  refine g_getfield 6 1 f_C_74 (by assumption) (by rfl) d_C_leftOn_4 ?_
  have hk9 : k = 0 ∨ k = 1 ∨ k = 2 := by omega
  rcases hk9 with rfl | rfl | rfl
  · refine g_lookup (off := 25) (tgt := 32) d_C_leftOn_7 (by decide) (by decide) (by decide) ?_
    refine g_iconst_i d_C_leftOn_32 ?_
    refine g_aload_n (n := 0) (i := 0) rfl rfl d_C_leftOn_33 ?_
    refine g_getfield 8 1 f_C_15 (by assumption) (by rfl) d_C_leftOn_34 ?_
    refine g_getfield 6 2 f_C_80 (by assumption) (by rfl) d_C_leftOn_37 ?_
    refine g_aload_n (n := 0) (i := 0) rfl rfl d_C_leftOn_40 ?_
    refine g_iload_n (n := 1) (i := 1) rfl rfl d_C_leftOn_41 ?_
    refine g_callV1 rfl rfl e_C_daysSinceFirst l_C_77 iv_C_daysSinceFirst 8 (by decide) rfl (by assumption) (by decide) (Nat.zero_le _) (Nat.zero_le _) (Nat.le_of_ble_eq_true rfl) d_C_leftOn_42 (c_C_daysSinceFirst (by assumption) (by assumption) (by assumption) (by omega) ?_)
    refine g_ret ?_
    refine g_isub_i d_C_leftOn_45 ?_
    refine g_mmax_i l_C_93 x_max.1 x_max.2.1 x_max.2.2 (Nat.le_of_ble_eq_true rfl) (by first | omega | ((repeat' split) <;> omega)) (by first | omega | ((repeat' split) <;> omega)) d_C_leftOn_46 ?_
    refine g_ireturn_i rfl d_C_leftOn_49 ?_
    exact g_qi hQ (by simp [leftR])
  · refine g_lookup (off := 43) (tgt := 50) d_C_leftOn_7 (by decide) (by decide) (by decide) ?_
    refine g_aload_n (n := 0) (i := 0) rfl rfl d_C_leftOn_50 ?_
    refine g_getfield 8 1 f_C_15 (by assumption) (by rfl) d_C_leftOn_51 ?_
    refine g_getfield 6 2 f_C_80 (by assumption) (by rfl) d_C_leftOn_54 ?_
    refine g_aload_n (n := 0) (i := 0) rfl rfl d_C_leftOn_57 ?_
    refine g_callV0 rfl rfl e_C_dayMask l_C_83 iv_C_dayMask 8 (by decide) rfl (by assumption) (by decide) (Nat.zero_le _) (Nat.zero_le _) (Nat.le_of_ble_eq_true rfl) d_C_leftOn_58 (c_C_dayMask (by assumption) (by assumption) (by assumption) ?_)
    refine g_ret ?_
    refine g_callS1 rfl rfl e_J_bitCount l_C_87 st_J_bitCount (by decide) (Nat.zero_le _) (Nat.zero_le _) (Nat.le_of_ble_eq_true rfl) d_C_leftOn_61 (c_J_bitCount (by first | assumption | omega) ?_)
    refine g_ret ?_
    refine g_isub_i d_C_leftOn_64 ?_
    refine g_ireturn_i rfl d_C_leftOn_65 ?_
    exact g_qi hQ (by simp [leftR])
  · refine g_lookup (off := 59) (tgt := 66) d_C_leftOn_7 (by decide) (by decide) (by decide) ?_
    refine g_aload_n (n := 0) (i := 0) rfl rfl d_C_leftOn_66 ?_
    refine g_getfield 8 1 f_C_15 (by assumption) (by rfl) d_C_leftOn_67 ?_
    refine g_getfield 6 2 f_C_80 (by assumption) (by rfl) d_C_leftOn_70 ?_
    refine g_bipush_i (by decide) d_C_leftOn_73 ?_
    refine g_imul_i d_C_leftOn_75 ?_
    refine g_aload_n (n := 0) (i := 0) rfl rfl d_C_leftOn_76 ?_
    refine g_callV0 rfl rfl e_C_rideCount l_C_90 iv_C_rideCount 8 (by decide) rfl (by assumption) (by decide) (Nat.zero_le _) (Nat.zero_le _) (Nat.le_of_ble_eq_true rfl) d_C_leftOn_77 (c_C_rideCount (by assumption) (by assumption) (by assumption) ?_)
    refine g_ret ?_
    refine g_isub_i d_C_leftOn_80 ?_
    refine g_ireturn_i rfl d_C_leftOn_81 ?_
    exact g_qi hQ (by simp [leftR])

