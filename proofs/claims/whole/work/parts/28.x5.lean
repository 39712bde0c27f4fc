theorem lgc0 {x y : Int64} : (lg_cmp x y = 0) = (x = y) := by
  unfold lg_cmp
  by_cases h1 : x > y
  · rw [if_pos h1]
    have : ¬ x = y := fun e => by subst e; exact Int64.lt_irrefl h1
    simp [this]
  · rw [if_neg h1]
    by_cases h2 : x = y
    · rw [if_pos h2]; simp [h2]
    · rw [if_neg h2]; simp [h2]
set_option maxHeartbeats 2000000 in
theorem s_fitted {d : Nat} {σ : mx_S} {q : mx_R} {t : Nat} {v : Int64} (ht : t < 6) : mx_call (d + 1) m_X4_fitted [.ref (76 + 2 * t), .long v] σ q ↔ q = (some (.long (fitL (σ.1 (76 + 2 * t) 1) v)), σ) := by
  simp (disch := omega) only [C_X4_fitted, true_and, and_true, and_self, exists_eq_left, Option.toList_some, Option.toList_none, List.cons_append, List.nil_append, List.append_nil, i2_i, i2_r, i2_n, nz0, nz1, true_or, or_true, Nat.reduceAdd, Nat.le_refl, Nat.reduceLT, Nat.reduceLeDiff, ↓E_X4_fitted_0, ↓E_X4_fitted_1, ↓E_X4_fitted_4, ↓E_X4_fitted_36, ↓E_X4_fitted_37, ↓E_X4_fitted_38, ↓E_X4_fitted_39, ↓E_X4_fitted_40, ↓E_X4_fitted_41, ↓E_X4_fitted_42, ↓E_X4_fitted_43, ↓E_X4_fitted_44, ↓E_X4_fitted_45, ↓E_X4_fitted_46, ↓E_X4_fitted_47, ↓E_X4_fitted_48, ↓E_X4_fitted_49, ↓E_X4_fitted_50, ↓E_X4_fitted_51, ↓E_X4_fitted_52, ↓E_X4_fitted_53, ↓E_X4_fitted_54, ↓E_X4_fitted_55, ↓E_X4_fitted_58, ↓E_X4_fitted_59, ↓E_X4_fitted_62, ↓E_X4_fitted_63, kdT, lgc0]
  unfold fitL
  generalize σ.1 (76 + 2 * t) 1 = s
  by_cases h0 : s = 0
  · simp only [if_pos h0]
  by_cases h1 : s = 1
  · simp only [if_neg h0, if_pos h1]
  by_cases h2 : s = 2
  · simp only [if_neg h0, if_neg h1, if_pos h2]
  by_cases h3 : s = 3
  · simp only [if_neg h0, if_neg h1, if_neg h2, if_pos h3]
  simp only [if_neg h0, if_neg h1, if_neg h2, if_neg h3]
  by_cases h4 : v = 0
  · simp only [if_pos h4]
  · simp only [if_neg h4]
theorem okT_m1 {z : Int32 × Nat × (Nat → Int64)} (h : okT z) (e : ¬ z.1 = -1) : (∃ k : Nat, k ≤ 4 ∧ z.1 = nI k) ∧ z.2.1 ≤ 60 := by
  rcases h with h | h
  · exact absurd h.1 e
  · exact h
set_option maxHeartbeats 2000000 in
theorem X_item {d : Nat} {σ : mx_S} {w : Vw} {a b : Int32} {v : Int64} (hw : vwX w σ) : ∃ σ', mx_call (d + 2) m_X6_item [.ref 0, .int a, .int b, .long v] σ (some (.int (F_item w a b v).1), σ') ∧ vwX (F_item w a b v).2 σ' ∧ hiS σ σ' := by
  simp (disch := omega) only [C_X6_item, true_and, and_true, and_self, exists_eq_left, Option.toList_some, Option.toList_none, List.cons_append, List.nil_append, List.append_nil, i2_i, i2_r, i2_n, nz0, nz1, true_or, or_true, Nat.reduceAdd, Nat.le_refl, Nat.reduceLT, Nat.reduceLeDiff, ↓E_X6_item_0, ↓E_X6_item_1, ↓E_X6_item_3, ↓E_X6_item_6, ↓E_X6_item_9, ↓E_X6_item_10, ↓E_X6_item_11, ↓E_X6_item_12, ↓E_X6_item_15, ↓E_X6_item_16, ↓E_X6_item_17, ↓E_X6_item_19, ↓E_X6_item_21, ↓E_X6_item_24, ↓E_X6_item_25, ↓E_X6_item_28, ↓E_X6_item_30, ↓E_X6_item_31, ↓E_X6_item_33, ↓E_X6_item_34, ↓E_X6_item_37, ↓E_X6_item_40, ↓E_X6_item_42, ↓E_X6_item_43, ↓E_X6_item_45, ↓E_X6_item_48, ↓E_X6_item_49, ↓E_X6_item_51, ↓E_X6_item_52, ↓E_X6_item_55, ↓E_X6_item_56, ↓E_X6_item_57, s_isBelow, bz_0, ibx_6]
  unfold F_item
  by_cases e0 : ibI a 6 = false
  · simp only [if_pos e0]
    exact ⟨σ, rfl, hw, hiS.rf⟩
  obtain ⟨ha, ha2, ha3⟩ := ibI_of (eq_true_of_ne_false e0)
  simp only [if_neg e0]
  generalize ixI a = t at *
  subst ha
  obtain ⟨T1, T2, T3, T4⟩ := tapX_at hw ha2
  simp (disch := omega) only [true_and, and_true, and_self, exists_eq_left, Option.toList_some, Option.toList_none, List.cons_append, List.nil_append, List.append_nil, i2_i, i2_r, i2_n, nz0, nz1, true_or, or_true, Nat.reduceAdd, Nat.le_refl, Nat.reduceLT, Nat.reduceLeDiff, ↓E_X6_item_0, ↓E_X6_item_1, ↓E_X6_item_3, ↓E_X6_item_6, ↓E_X6_item_9, ↓E_X6_item_10, ↓E_X6_item_11, ↓E_X6_item_12, ↓E_X6_item_15, ↓E_X6_item_16, ↓E_X6_item_17, ↓E_X6_item_19, ↓E_X6_item_21, ↓E_X6_item_24, ↓E_X6_item_25, ↓E_X6_item_28, ↓E_X6_item_30, ↓E_X6_item_31, ↓E_X6_item_33, ↓E_X6_item_34, ↓E_X6_item_37, ↓E_X6_item_40, ↓E_X6_item_42, ↓E_X6_item_43, ↓E_X6_item_45, ↓E_X6_item_48, ↓E_X6_item_49, ↓E_X6_item_51, ↓E_X6_item_52, ↓E_X6_item_55, ↓E_X6_item_56, ↓E_X6_item_57, kd_14, ln_6, vin, clN, ptrT, kdT, s_hasItem, T1, T2, ibx_N, bz_0]
  by_cases e1 : (w.2.2.2 t).1 = -1
  · simp only [if_pos e1]
    exact ⟨σ, rfl, hw, hiS.rf⟩
  simp only [if_neg e1]
  by_cases e2 : ibI b (w.2.2.2 t).2.1 = false
  · simp only [if_pos e2]
    exact ⟨σ, rfl, hw, hiS.rf⟩
  obtain ⟨hb, hb2, hb3⟩ := ibI_of (eq_true_of_ne_false e2)
  simp only [if_neg e2]
  generalize ixI b = i at *
  subst hb
  simp (disch := omega) only [true_and, and_true, and_self, exists_eq_left, Option.toList_some, Option.toList_none, List.cons_append, List.nil_append, List.append_nil, i2_i, i2_r, i2_n, nz0, nz1, true_or, or_true, Nat.reduceAdd, Nat.le_refl, Nat.reduceLT, Nat.reduceLeDiff, ↓E_X6_item_0, ↓E_X6_item_1, ↓E_X6_item_3, ↓E_X6_item_6, ↓E_X6_item_9, ↓E_X6_item_10, ↓E_X6_item_11, ↓E_X6_item_12, ↓E_X6_item_15, ↓E_X6_item_16, ↓E_X6_item_17, ↓E_X6_item_19, ↓E_X6_item_21, ↓E_X6_item_24, ↓E_X6_item_25, ↓E_X6_item_28, ↓E_X6_item_30, ↓E_X6_item_31, ↓E_X6_item_33, ↓E_X6_item_34, ↓E_X6_item_37, ↓E_X6_item_40, ↓E_X6_item_42, ↓E_X6_item_43, ↓E_X6_item_45, ↓E_X6_item_48, ↓E_X6_item_49, ↓E_X6_item_51, ↓E_X6_item_52, ↓E_X6_item_55, ↓E_X6_item_56, ↓E_X6_item_57, kdT, s_fitted, T1, kd_11, ln_60, vin, clN]
  refine ⟨_, rfl, vwX_tp hw ha2 (Or.inr (okT_m1 (hw.1.2.2.2 t ha2) e1)) ⟨T1, T2, ?_⟩ (fun i hi => rfl) (fun i hi => mx_u_ne (by omega)), fun i hi => ⟨rfl, mx_u_ne (by omega)⟩⟩
  intro k hk
  rw [show 77 + 2 * t = 76 + 2 * t + 1 by omega]
  show _ = if k = i then _ else _
  by_cases e : k = i
  · subst e; simp only [uu_same, if_true]
  · rw [if_neg e]; simp (disch := omega) only [uu_col]; exact T3 k hk
theorem s_hasRun {d : Nat} {σ : mx_S} {q : mx_R} {t s : Nat} {x n : Int32} (ht : t < 6) (hs : s ≤ 60) (h2 : σ.1 (76 + 2 * t) 2 = nI s) : mx_call (d + 1) m_X4_hasRun [.ref (76 + 2 * t), .int x, .int n] σ q ↔ q = (some (.int (bz (runI n x s))), σ) := by
  simp (disch := omega) only [C_X4_hasRun, true_and, and_true, and_self, exists_eq_left, Option.toList_some, Option.toList_none, List.cons_append, List.nil_append, List.append_nil, i2_i, i2_r, i2_n, nz0, nz1, true_or, or_true, Nat.reduceAdd, Nat.le_refl, Nat.reduceLT, Nat.reduceLeDiff, ↓E_X4_hasRun_0, ↓E_X4_hasRun_1, ↓E_X4_hasRun_4, ↓E_X4_hasRun_5, ↓E_X4_hasRun_8, ↓E_X4_hasRun_9, ↓E_X4_hasRun_10, ↓E_X4_hasRun_13, ↓E_X4_hasRun_16, ↓E_X4_hasRun_17, ↓E_X4_hasRun_18, ↓E_X4_hasRun_21, ↓E_X4_hasRun_22, ↓E_X4_hasRun_23, ↓E_X4_hasRun_26, ↓E_X4_hasRun_27, ↓E_X4_hasRun_30, ↓E_X4_hasRun_31, kdT, h2, lt0, le0]
  unfold runI
  by_cases a1 : n.toInt < 0
  · simp only [if_pos a1, if_neg (show ¬ 0 ≤ n.toInt by omega), show decide (0 ≤ n.toInt) = false by simp; omega, Bool.false_and]; rfl
  by_cases a2 : x.toInt < 0
  · simp only [if_neg a1, if_pos (show 0 ≤ n.toInt by omega), if_pos a2, if_neg (show ¬ 0 ≤ x.toInt by omega), show decide (0 ≤ x.toInt) = false by simp; omega, Bool.false_and, Bool.and_false]; rfl
  simp only [if_neg a1, if_neg a2, if_pos (show 0 ≤ n.toInt by omega), if_pos (show 0 ≤ x.toInt by omega), show decide (0 ≤ n.toInt) = true by simp; omega, show decide (0 ≤ x.toInt) = true by simp; omega, Bool.true_and, l32, le32, nI_toInt (show s < 2147483648 by omega)]
  by_cases a3 : (s : Int) < n.toInt
  · simp only [if_pos a3, if_neg (show ¬ n.toInt ≤ (s : Int) by omega), show decide (n.toInt + x.toInt ≤ (s : Int)) = false by simp; omega]; rfl
  have e1 : (nI s - n).toInt = (s : Int) - n.toInt := by
    obtain ⟨g1, g2, g3⟩ := inI_of (x := n) (m := 60) (by simp [inI]; omega)
    generalize ixI n = k at *
    subst g1
    rw [nI_toInt (by omega)]
    exact pk_sub_toInt (by omega) (by omega)
  simp only [if_neg a3, if_pos (show n.toInt ≤ (s : Int) by omega), e1]
  by_cases a4 : n.toInt + x.toInt ≤ (s : Int)
  · simp only [if_neg (show ¬ (s : Int) - n.toInt < x.toInt by omega), if_pos (show x.toInt ≤ (s : Int) - n.toInt by omega), show decide (n.toInt + x.toInt ≤ (s : Int)) = true by simp; omega]; rfl
  · simp only [if_pos (show (s : Int) - n.toInt < x.toInt by omega), if_neg (show ¬ x.toInt ≤ (s : Int) - n.toInt by omega), show decide (n.toInt + x.toInt ≤ (s : Int)) = false by simp; omega]; rfl
theorem runI_of {n i : Int32} {s : Nat} (hs : s ≤ 60) (h : runI n i s = true) : n = nI (ixI n) ∧ i = nI (ixI i) ∧ ixI n + ixI i ≤ s := by
  simp only [runI, Bool.and_eq_true, decide_eq_true_eq] at h
  obtain ⟨g1, g2, g3⟩ := inI_of (x := n) (m := 60) (by simp [inI]; omega)
  obtain ⟨k1, k2, k3⟩ := inI_of (x := i) (m := 60) (by simp [inI]; omega)
  refine ⟨g1, k1, ?_⟩
  unfold ixI
  omega
set_option maxHeartbeats 2000000 in
theorem X_shift {d : Nat} {σ : mx_S} {w : Vw} {a i b j n : Int32} (hw : vwX w σ) : ∃ σ', mx_call (d + 2) m_X6_shift [.ref 0, .int a, .int i, .int b, .int j, .int n] σ (some (.int (F_shift w a i b j n).1), σ') ∧ vwX (F_shift w a i b j n).2 σ' ∧ hiS σ σ' := by
  generalize hF : F_shift w a i b j n = R
  simp (disch := omega) only [C_X6_shift, true_and, and_true, and_self, exists_eq_left, Option.toList_some, Option.toList_none, List.cons_append, List.nil_append, List.append_nil, i2_i, i2_r, i2_n, nz0, nz1, true_or, or_true, Nat.reduceAdd, Nat.le_refl, Nat.reduceLT, Nat.reduceLeDiff, ↓E_X6_shift_0, ↓E_X6_shift_1, ↓E_X6_shift_3, ↓E_X6_shift_6, ↓E_X6_shift_9, ↓E_X6_shift_10, ↓E_X6_shift_12, ↓E_X6_shift_15, ↓E_X6_shift_18, ↓E_X6_shift_19, ↓E_X6_shift_20, ↓E_X6_shift_21, ↓E_X6_shift_24, ↓E_X6_shift_25, ↓E_X6_shift_26, ↓E_X6_shift_28, ↓E_X6_shift_29, ↓E_X6_shift_32, ↓E_X6_shift_33, ↓E_X6_shift_34, ↓E_X6_shift_36, ↓E_X6_shift_38, ↓E_X6_shift_41, ↓E_X6_shift_42, ↓E_X6_shift_45, ↓E_X6_shift_47, ↓E_X6_shift_50, ↓E_X6_shift_51, ↓E_X6_shift_54, ↓E_X6_shift_56, ↓E_X6_shift_57, ↓E_X6_shift_59, ↓E_X6_shift_62, ↓E_X6_shift_64, ↓E_X6_shift_67, ↓E_X6_shift_70, ↓E_X6_shift_72, ↓E_X6_shift_73, ↓E_X6_shift_75, ↓E_X6_shift_76, ↓E_X6_shift_78, ↓E_X6_shift_81, ↓E_X6_shift_84, ↓E_X6_shift_86, ↓E_X6_shift_88, ↓E_X6_shift_90, ↓E_X6_shift_93, ↓E_X6_shift_96, ↓E_X6_shift_98, ↓E_X6_shift_99, ↓E_X6_shift_101, ↓E_X6_shift_104, ↓E_X6_shift_105, ↓E_X6_shift_107, ↓E_X6_shift_110, ↓E_X6_shift_112, ↓E_X6_shift_114, ↓E_X6_shift_117, ↓E_X6_shift_119, s_isBelow, bz_0, ibx_6]
  unfold F_shift at hF
  by_cases e0 : ibI a 6 = false
  · simp only [if_pos e0, e0, Bool.false_and, if_true] at hF ⊢
    subst hF
    exact ⟨σ, rfl, hw, hiS.rf⟩
  by_cases e1 : ibI b 6 = false
  · simp only [if_neg e0, if_pos e1, e1, Bool.and_false, if_true] at hF ⊢
    subst hF
    exact ⟨σ, rfl, hw, hiS.rf⟩
  have e01 : ¬ (ibI a 6 && ibI b 6) = false := by rw [eq_true_of_ne_false e0, eq_true_of_ne_false e1]; decide
  obtain ⟨ha, ha2, ha3⟩ := ibI_of (eq_true_of_ne_false e0)
  obtain ⟨hb, hb2, hb3⟩ := ibI_of (eq_true_of_ne_false e1)
  simp only [if_neg e0, if_neg e1, if_neg e01] at hF ⊢
  generalize ixI a = t at *
  generalize ixI b = u at *
  subst ha
  subst hb
  obtain ⟨T1, T2, T3, T4⟩ := tapX_at hw ha2
  obtain ⟨U1, U2, U3, U4⟩ := tapX_at hw hb2
  simp (disch := omega) only [true_and, and_true, and_self, exists_eq_left, Option.toList_some, Option.toList_none, List.cons_append, List.nil_append, List.append_nil, i2_i, i2_r, i2_n, nz0, nz1, true_or, or_true, Nat.reduceAdd, Nat.le_refl, Nat.reduceLT, Nat.reduceLeDiff, ↓E_X6_shift_0, ↓E_X6_shift_1, ↓E_X6_shift_3, ↓E_X6_shift_6, ↓E_X6_shift_9, ↓E_X6_shift_10, ↓E_X6_shift_12, ↓E_X6_shift_15, ↓E_X6_shift_18, ↓E_X6_shift_19, ↓E_X6_shift_20, ↓E_X6_shift_21, ↓E_X6_shift_24, ↓E_X6_shift_25, ↓E_X6_shift_26, ↓E_X6_shift_28, ↓E_X6_shift_29, ↓E_X6_shift_32, ↓E_X6_shift_33, ↓E_X6_shift_34, ↓E_X6_shift_36, ↓E_X6_shift_38, ↓E_X6_shift_41, ↓E_X6_shift_42, ↓E_X6_shift_45, ↓E_X6_shift_47, ↓E_X6_shift_50, ↓E_X6_shift_51, ↓E_X6_shift_54, ↓E_X6_shift_56, ↓E_X6_shift_57, ↓E_X6_shift_59, ↓E_X6_shift_62, ↓E_X6_shift_64, ↓E_X6_shift_67, ↓E_X6_shift_70, ↓E_X6_shift_72, ↓E_X6_shift_73, ↓E_X6_shift_75, ↓E_X6_shift_76, ↓E_X6_shift_78, ↓E_X6_shift_81, ↓E_X6_shift_84, ↓E_X6_shift_86, ↓E_X6_shift_88, ↓E_X6_shift_90, ↓E_X6_shift_93, ↓E_X6_shift_96, ↓E_X6_shift_98, ↓E_X6_shift_99, ↓E_X6_shift_101, ↓E_X6_shift_104, ↓E_X6_shift_105, ↓E_X6_shift_107, ↓E_X6_shift_110, ↓E_X6_shift_112, ↓E_X6_shift_117, ↓E_X6_shift_119, kd_14, ln_6, vin, clN, ptrT, kdT, T1, U1, s_hasRun ha2 T4 T2, s_hasRun hb2 U4 U2, bz_0]
  by_cases e2 : (w.2.2.2 t).1 = -1
  · simp only [if_pos e2, if_pos (Or.inl e2 : (w.2.2.2 t).1 = -1 ∨ (w.2.2.2 u).1 = -1)] at hF ⊢
    subst hF
    exact ⟨σ, rfl, hw, hiS.rf⟩
  by_cases e3 : (w.2.2.2 u).1 = -1
  · simp only [if_neg e2, if_pos e3, if_pos (Or.inr e3 : (w.2.2.2 t).1 = -1 ∨ (w.2.2.2 u).1 = -1)] at hF ⊢
    subst hF
    exact ⟨σ, rfl, hw, hiS.rf⟩
  have e23 : ¬ ((w.2.2.2 t).1 = -1 ∨ (w.2.2.2 u).1 = -1) := fun z => z.elim e2 e3
  simp only [if_neg e2, if_neg e3, if_neg e23] at hF ⊢
  by_cases e4 : (w.2.2.2 t).1 = (w.2.2.2 u).1
  · have n4 : ¬ ¬ (w.2.2.2 t).1 = (w.2.2.2 u).1 := fun z => z e4
    simp only [if_pos e4, if_neg n4] at hF ⊢
    by_cases e5 : runI n i (w.2.2.2 t).2.1 = false
    · simp only [if_pos e5, e5, Bool.false_and, if_true] at hF ⊢
      subst hF
      exact ⟨σ, rfl, hw, hiS.rf⟩
    by_cases e6 : runI n j (w.2.2.2 u).2.1 = false
    · simp only [if_neg e5, if_pos e6, e6, Bool.and_false, if_true] at hF ⊢
      subst hF
      exact ⟨σ, rfl, hw, hiS.rf⟩
    have e56 : ¬ (runI n i (w.2.2.2 t).2.1 && runI n j (w.2.2.2 u).2.1) = false := by rw [eq_true_of_ne_false e5, eq_true_of_ne_false e6]; decide
    simp only [if_neg e5, if_neg e6, if_neg e56] at hF ⊢
    obtain ⟨r1, r2, r3⟩ := runI_of T4 (eq_true_of_ne_false e5)
    obtain ⟨-, r5, r6⟩ := runI_of U4 (eq_true_of_ne_false e6)
    generalize ixI n = k at *
    generalize ixI i = x at *
    generalize ixI j = y at *
    subst r1
    subst r2
    subst r5
    have hcp : mx_cpOK (nI x) (nI y) (nI k) (76 + 2 * t + 1) (76 + 2 * u + 1) 11 := by
      unfold mx_cpOK
      rw [clN (by omega), clN (by omega), clN (by omega), ln_60 (by omega), ln_60 (by omega)]
      exact ⟨nI_pos (by omega), nI_pos (by omega), nI_pos (by omega), by omega, by omega, kdTi hb2, kdTi ha2⟩
    simp (disch := omega) only [E_X6_shift_114 (kdTi hb2), hcp, true_and, and_true, and_self, exists_eq_left, Option.toList_some, Option.toList_none, List.cons_append, List.nil_append, List.append_nil, i2_i, i2_r, i2_n, nz0, nz1, true_or, or_true, Nat.reduceAdd, Nat.le_refl, Nat.reduceLT, Nat.reduceLeDiff, ↓E_X6_shift_0, ↓E_X6_shift_1, ↓E_X6_shift_3, ↓E_X6_shift_6, ↓E_X6_shift_9, ↓E_X6_shift_10, ↓E_X6_shift_12, ↓E_X6_shift_15, ↓E_X6_shift_18, ↓E_X6_shift_19, ↓E_X6_shift_20, ↓E_X6_shift_21, ↓E_X6_shift_24, ↓E_X6_shift_25, ↓E_X6_shift_26, ↓E_X6_shift_28, ↓E_X6_shift_29, ↓E_X6_shift_32, ↓E_X6_shift_33, ↓E_X6_shift_34, ↓E_X6_shift_36, ↓E_X6_shift_38, ↓E_X6_shift_41, ↓E_X6_shift_42, ↓E_X6_shift_45, ↓E_X6_shift_47, ↓E_X6_shift_50, ↓E_X6_shift_51, ↓E_X6_shift_54, ↓E_X6_shift_56, ↓E_X6_shift_57, ↓E_X6_shift_59, ↓E_X6_shift_62, ↓E_X6_shift_64, ↓E_X6_shift_67, ↓E_X6_shift_70, ↓E_X6_shift_72, ↓E_X6_shift_73, ↓E_X6_shift_75, ↓E_X6_shift_76, ↓E_X6_shift_78, ↓E_X6_shift_81, ↓E_X6_shift_84, ↓E_X6_shift_86, ↓E_X6_shift_88, ↓E_X6_shift_90, ↓E_X6_shift_93, ↓E_X6_shift_96, ↓E_X6_shift_98, ↓E_X6_shift_99, ↓E_X6_shift_101, ↓E_X6_shift_104, ↓E_X6_shift_105, ↓E_X6_shift_107, ↓E_X6_shift_110, ↓E_X6_shift_112, ↓E_X6_shift_117, ↓E_X6_shift_119, clN]
    subst hF
    refine ⟨_, rfl, vwX_tp hw hb2 (Or.inr (okT_m1 (hw.1.2.2.2 u hb2) e3)) ⟨U1, U2, ?_⟩ (fun i hi => rfl) (fun i hi => mx_c_ne (by omega)), fun i hi => ⟨rfl, mx_c_ne (by omega)⟩⟩
    intro z hz
    rw [show 77 + 2 * u = 76 + 2 * u + 1 by omega]
    simp only [cc_same, va_cpy]
    by_cases hc : y ≤ z ∧ z < y + k
    · rw [if_pos hc, if_pos hc]; exact T3 _ (by omega)
    · rw [if_neg hc, if_neg hc]; exact U3 z hz
  · simp only [if_neg e4, if_pos e4] at hF ⊢
    subst hF
    exact ⟨σ, rfl, hw, hiS.rf⟩
