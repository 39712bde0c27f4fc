/-! ===== the reference: time, sums ===== -/
set_option maxHeartbeats 4000000 in
theorem M_time {d : Nat} {σ : mx_S} {w : Vw} {a b : Int32} (hw : vwM w σ) : ∃ σ', mx_call (d + 3) m_X7_time [.ref 88, .int a, .int b] σ (some (.long (F_time w a b)), σ') ∧ vwM w σ' ∧ loS σ σ' := by
  obtain ⟨S1, S2, S3, S4, S5⟩ := vwM_now hw
  have hn := hw.1.1.1
  have hO := hw.1.1.2.2.2.2.1
  generalize hF : F_time w a b = R
  simp (disch := omega) only [C_X7_time, true_and, and_true, and_self, exists_eq_left, Option.toList_some, Option.toList_none, List.cons_append, List.nil_append, List.append_nil, i2_i, i2_r, i2_n, nz0, nz1, true_or, or_true, Nat.reduceAdd, Nat.le_refl, Nat.reduceLT, Nat.reduceLeDiff, ↓E_X7_time_0, ↓E_X7_time_1, ↓E_X7_time_2, ↓E_X7_time_5, ↓E_X7_time_8, ↓E_X7_time_9, ↓E_X7_time_10, ↓E_X7_time_11, ↓E_X7_time_14, ↓E_X7_time_17, ↓E_X7_time_20, ↓E_X7_time_23, ↓E_X7_time_25, ↓E_X7_time_26, ↓E_X7_time_29, ↓E_X7_time_30, ↓E_X7_time_33, ↓E_X7_time_36, ↓E_X7_time_37, ↓E_X7_time_39, ↓E_X7_time_42, ↓E_X7_time_43, ↓E_X7_time_44, ↓E_X7_time_47, ↓E_X7_time_48, ↓E_X7_time_49, ↓E_X7_time_50, ↓E_X7_time_53, ↓E_X7_time_54, ↓E_X7_time_55, ↓E_X7_time_58, ↓E_X7_time_59, ↓E_X7_time_62, ↓E_X7_time_64, ↓E_X7_time_65, ↓E_X7_time_66, ↓E_X7_time_67, ↓E_X7_time_68, ↓E_X7_time_69, ↓E_X7_time_70, m_isJob hn S1, s_in, inL_6, bz_0]
  unfold F_time NO at hF
  by_cases e0 : ibI a w.1.jn = false
  · simp only [if_pos e0, e0, Bool.false_and, if_true] at hF ⊢
    subst hF
    exact ⟨σ, rfl, hw, loS.rf⟩
  by_cases e1 : ibI b 7 = false
  · simp only [if_neg e0, if_pos e1, e1, Bool.and_false, if_true] at hF ⊢
    subst hF
    exact ⟨σ, rfl, hw, loS.rf⟩
  have e01 : ¬ (ibI a w.1.jn && ibI b 7) = false := by rw [eq_true_of_ne_false e0, eq_true_of_ne_false e1]; decide
  simp only [if_neg e0, if_neg e1, if_neg e01] at hF ⊢
  obtain ⟨ha, ha2, ha3⟩ := ibI_of (eq_true_of_ne_false e0)
  obtain ⟨hb, hb2, hb3⟩ := ibI_of (eq_true_of_ne_false e1)
  generalize ixI a = j at *
  generalize ixI b = x at *
  subst ha
  subst hb
  obtain ⟨hp, hp2⟩ := plc_ok hO ha2
  obtain ⟨σ1, c1, hT, f, g⟩ := m_goes (d := d) (a := 90) (Or.inl rfl) hn hw.1.1.2.1 (okV_of hw.1.1.2.2.2.1) hO S1 S5 S4
  have sc := scM99 f g
  obtain ⟨w0, w1, w2, w3, w4, w5⟩ := hT _ hp
  rw [hp2] at w0 w1 w2 w3 w4 w5
  have r5 : σ1.1 89 (6 * j + 5) = nI (w.1.V j 5) := by rw [f 89 (by omega)]; exact S4 j 5 ha2 (by omega)
  by_cases e6 : x = 6
  · subst e6
    simp only [if_pos (show nI 6 = (6 : Int32) by decide)] at hF
    simp (disch := omega) only [true_and, and_true, and_self, exists_eq_left, Option.toList_some, Option.toList_none, List.cons_append, List.nil_append, List.append_nil, i2_i, i2_r, i2_n, nz0, nz1, true_or, or_true, Nat.reduceAdd, Nat.le_refl, Nat.reduceLT, Nat.reduceLeDiff, ↓E_X7_time_0, ↓E_X7_time_1, ↓E_X7_time_2, ↓E_X7_time_5, ↓E_X7_time_8, ↓E_X7_time_9, ↓E_X7_time_10, ↓E_X7_time_11, ↓E_X7_time_14, ↓E_X7_time_17, ↓E_X7_time_20, ↓E_X7_time_23, ↓E_X7_time_24, ↓E_X7_time_25, ↓E_X7_time_26, ↓E_X7_time_29, ↓E_X7_time_30, ↓E_X7_time_33, ↓E_X7_time_36, ↓E_X7_time_37, ↓E_X7_time_39, ↓E_X7_time_42, ↓E_X7_time_43, ↓E_X7_time_44, ↓E_X7_time_47, ↓E_X7_time_48, ↓E_X7_time_49, ↓E_X7_time_50, ↓E_X7_time_53, ↓E_X7_time_54, ↓E_X7_time_55, ↓E_X7_time_59, ↓E_X7_time_62, ↓E_X7_time_64, ↓E_X7_time_65, ↓E_X7_time_66, ↓E_X7_time_67, ↓E_X7_time_68, ↓E_X7_time_69, ↓E_X7_time_70, S2, c1, if_pos (show nI 6 = (6 : Int32) by decide), m_ends, m_g5, w5, r5, iN_sub]
    subst hF
    refine ⟨σ1, ?_, sc.vw hw, sc.lo⟩
    unfold EN
    rw [hp2]
  have n6 : ¬ nI x = (6 : Int32) := fun z => e6 ((nI_eq (a := x) (b := 6) (by omega) (by omega)).mp z)
  simp only [if_neg n6] at hF
  have wx : σ1.1 99 (6 * j + x) = nI (tAt w (plc w.1.O j w.1.jn) x) := by
    unfold tAt
    rw [hp2]
    rcases (show x = 0 ∨ x = 1 ∨ x = 2 ∨ x = 3 ∨ x = 4 ∨ x = 5 by omega) with rfl | rfl | rfl | rfl | rfl | rfl
    · exact w0
    · exact w1
    · exact w2
    · exact w3
    · exact w4
    · exact w5
  simp (disch := omega) only [true_and, and_true, and_self, exists_eq_left, Option.toList_some, Option.toList_none, List.cons_append, List.nil_append, List.append_nil, i2_i, i2_r, i2_n, nz0, nz1, true_or, or_true, Nat.reduceAdd, Nat.le_refl, Nat.reduceLT, Nat.reduceLeDiff, ↓E_X7_time_0, ↓E_X7_time_1, ↓E_X7_time_2, ↓E_X7_time_5, ↓E_X7_time_8, ↓E_X7_time_9, ↓E_X7_time_10, ↓E_X7_time_11, ↓E_X7_time_14, ↓E_X7_time_17, ↓E_X7_time_20, ↓E_X7_time_23, ↓E_X7_time_24, ↓E_X7_time_25, ↓E_X7_time_26, ↓E_X7_time_29, ↓E_X7_time_30, ↓E_X7_time_33, ↓E_X7_time_36, ↓E_X7_time_37, ↓E_X7_time_39, ↓E_X7_time_43, ↓E_X7_time_44, ↓E_X7_time_47, ↓E_X7_time_48, ↓E_X7_time_49, ↓E_X7_time_50, ↓E_X7_time_53, ↓E_X7_time_54, ↓E_X7_time_55, ↓E_X7_time_58, ↓E_X7_time_59, ↓E_X7_time_62, ↓E_X7_time_64, ↓E_X7_time_65, ↓E_X7_time_66, ↓E_X7_time_67, ↓E_X7_time_68, ↓E_X7_time_69, ↓E_X7_time_70, S2, c1, if_neg n6, kd_8, ln_36, m6, nI_add, vin, clN, wx]
  subst hF
  exact ⟨σ1, rfl, sc.vw hw, sc.lo⟩
set_option maxHeartbeats 2000000 in
theorem m_together {d k n : Nat} {V : Nat → Nat → Nat} {σ : mx_S} {q : mx_R} (hn : n ≤ 6) (hk : k < 6) (h0 : σ.1 88 0 = nI n) (hR : ∀ j k, j < n → k < 6 → σ.1 89 (6 * j + k) = nI (V j k)) : mx_call (d + 2) m_X7_together [.ref 88, .int (nI k)] σ q ↔ q = (some (.int (nI (smV (fun j => V j k) n))), σ) := by
  have lp : ∀ m t, t + m = n → (mx_run (d + 1) m_X7_together 4 [some (.ref 88), some (.int (nI k)), some (.int (nI (smV (fun j => V j k) t))), some (.int (nI t))] [] σ q ↔ q = (some (.int (nI (smV (fun j => V j k) n))), σ)) := by
    intro m
    induction m with
    | zero =>
      intro t ht
      have e : t = n := by omega
      subst e
      rw [E_X7_together_4]
      simp (disch := omega) only [true_and, and_true, and_self, exists_eq_left, Option.toList_some, Option.toList_none, List.cons_append, List.nil_append, List.append_nil, i2_i, i2_r, i2_n, nz0, nz1, true_or, or_true, Nat.reduceAdd, Nat.le_refl, Nat.reduceLT, Nat.reduceLeDiff, ↓E_X7_together_0, ↓E_X7_together_1, ↓E_X7_together_2, ↓E_X7_together_3, ↓E_X7_together_5, ↓E_X7_together_6, ↓E_X7_together_9, ↓E_X7_together_12, ↓E_X7_together_13, ↓E_X7_together_14, ↓E_X7_together_15, ↓E_X7_together_16, ↓E_X7_together_19, ↓E_X7_together_20, ↓E_X7_together_21, ↓E_X7_together_24, ↓E_X7_together_27, ↓E_X7_together_28, h0, leN, if_true]
    | succ m ih =>
      intro t ht
      have r := hR t k (by omega) hk
      rw [E_X7_together_4]
      simp (disch := omega) only [true_and, and_true, and_self, exists_eq_left, Option.toList_some, Option.toList_none, List.cons_append, List.nil_append, List.append_nil, i2_i, i2_r, i2_n, nz0, nz1, true_or, or_true, Nat.reduceAdd, Nat.le_refl, Nat.reduceLT, Nat.reduceLeDiff, ↓E_X7_together_0, ↓E_X7_together_1, ↓E_X7_together_2, ↓E_X7_together_3, ↓E_X7_together_5, ↓E_X7_together_6, ↓E_X7_together_9, ↓E_X7_together_12, ↓E_X7_together_13, ↓E_X7_together_14, ↓E_X7_together_15, ↓E_X7_together_16, ↓E_X7_together_19, ↓E_X7_together_20, ↓E_X7_together_21, ↓E_X7_together_24, ↓E_X7_together_27, ↓E_X7_together_28, h0, leN, if_neg (show ¬ n ≤ t by omega), m_getR, r, nI_add, nI_1]
      exact ih (t + 1) (by omega)
  simp (disch := omega) only [C_X7_together, true_and, and_true, and_self, exists_eq_left, Option.toList_some, Option.toList_none, List.cons_append, List.nil_append, List.append_nil, i2_i, i2_r, i2_n, nz0, nz1, true_or, or_true, Nat.reduceAdd, Nat.le_refl, Nat.reduceLT, Nat.reduceLeDiff, ↓E_X7_together_0, ↓E_X7_together_1, ↓E_X7_together_2, ↓E_X7_together_3, ↓E_X7_together_5, ↓E_X7_together_6, ↓E_X7_together_9, ↓E_X7_together_12, ↓E_X7_together_13, ↓E_X7_together_14, ↓E_X7_together_15, ↓E_X7_together_16, ↓E_X7_together_19, ↓E_X7_together_20, ↓E_X7_together_21, ↓E_X7_together_24, ↓E_X7_together_27, ↓E_X7_together_28]
  exact lp n 0 (by omega)
set_option maxHeartbeats 2000000 in
theorem m_lowest1 {d k n : Nat} {V : Nat → Nat → Nat} {σ : mx_S} {q : mx_R} (hn : n ≤ 6) (hk : k < 6) (hV : okV n V) (h0 : σ.1 88 0 = nI n) (hR : ∀ j k, j < n → k < 6 → σ.1 89 (6 * j + k) = nI (V j k)) : mx_call (d + 2) m_X7_lowestOf [.ref 88, .int (nI k), .int (-1)] σ q ↔ q = (some (.int (nI (mnV (fun j => V j k) n))), σ) := by
  have lp : ∀ m t, t + m = n → (mx_run (d + 1) m_X7_lowestOf 7 [some (.ref 88), some (.int (nI k)), some (.int (-1)), some (.int (nI (mnV (fun j => V j k) t))), some (.int (nI t))] [] σ q ↔ q = (some (.int (nI (mnV (fun j => V j k) n))), σ)) := by
    intro m
    induction m with
    | zero =>
      intro t ht
      have e : t = n := by omega
      subst e
      rw [E_X7_lowestOf_7]
      simp (disch := omega) only [true_and, and_true, and_self, exists_eq_left, Option.toList_some, Option.toList_none, List.cons_append, List.nil_append, List.append_nil, i2_i, i2_r, i2_n, nz0, nz1, true_or, or_true, Nat.reduceAdd, Nat.le_refl, Nat.reduceLT, Nat.reduceLeDiff, ↓E_X7_lowestOf_0, ↓E_X7_lowestOf_3, ↓E_X7_lowestOf_4, ↓E_X7_lowestOf_5, ↓E_X7_lowestOf_9, ↓E_X7_lowestOf_10, ↓E_X7_lowestOf_13, ↓E_X7_lowestOf_16, ↓E_X7_lowestOf_17, ↓E_X7_lowestOf_18, ↓E_X7_lowestOf_20, ↓E_X7_lowestOf_21, ↓E_X7_lowestOf_24, ↓E_X7_lowestOf_25, ↓E_X7_lowestOf_28, ↓E_X7_lowestOf_29, ↓E_X7_lowestOf_32, ↓E_X7_lowestOf_33, ↓E_X7_lowestOf_35, ↓E_X7_lowestOf_36, ↓E_X7_lowestOf_39, ↓E_X7_lowestOf_40, ↓E_X7_lowestOf_43, ↓E_X7_lowestOf_44, ↓E_X7_lowestOf_47, ↓E_X7_lowestOf_50, ↓E_X7_lowestOf_51, h0, leN, if_true]
    | succ m ih =>
      intro t ht
      have r := hR t k (by omega) hk
      have b1 := mnV_le (g := fun j => V j k) t
      have b2 := hV t k (by omega) hk
      rw [E_X7_lowestOf_7]
      simp (disch := omega) only [true_and, and_true, and_self, exists_eq_left, Option.toList_some, Option.toList_none, List.cons_append, List.nil_append, List.append_nil, i2_i, i2_r, i2_n, nz0, nz1, true_or, or_true, Nat.reduceAdd, Nat.le_refl, Nat.reduceLT, Nat.reduceLeDiff, ↓E_X7_lowestOf_0, ↓E_X7_lowestOf_3, ↓E_X7_lowestOf_4, ↓E_X7_lowestOf_5, ↓E_X7_lowestOf_9, ↓E_X7_lowestOf_10, ↓E_X7_lowestOf_13, ↓E_X7_lowestOf_16, ↓E_X7_lowestOf_17, ↓E_X7_lowestOf_18, ↓E_X7_lowestOf_20, ↓E_X7_lowestOf_21, ↓E_X7_lowestOf_24, ↓E_X7_lowestOf_25, ↓E_X7_lowestOf_28, ↓E_X7_lowestOf_29, ↓E_X7_lowestOf_33, ↓E_X7_lowestOf_35, ↓E_X7_lowestOf_36, ↓E_X7_lowestOf_39, ↓E_X7_lowestOf_40, ↓E_X7_lowestOf_43, ↓E_X7_lowestOf_44, ↓E_X7_lowestOf_47, ↓E_X7_lowestOf_50, ↓E_X7_lowestOf_51, h0, leN, if_neg (show ¬ n ≤ t by omega), m_getR, r, if_neg (show ¬ (0 : Int32) ≤ -1 by decide), nI_p0, nI_min, nI_1]
      exact ih (t + 1) (by omega)
  simp (disch := omega) only [C_X7_lowestOf, true_and, and_true, and_self, exists_eq_left, Option.toList_some, Option.toList_none, List.cons_append, List.nil_append, List.append_nil, i2_i, i2_r, i2_n, nz0, nz1, true_or, or_true, Nat.reduceAdd, Nat.le_refl, Nat.reduceLT, Nat.reduceLeDiff, ↓E_X7_lowestOf_0, ↓E_X7_lowestOf_3, ↓E_X7_lowestOf_4, ↓E_X7_lowestOf_5, ↓E_X7_lowestOf_9, ↓E_X7_lowestOf_10, ↓E_X7_lowestOf_13, ↓E_X7_lowestOf_16, ↓E_X7_lowestOf_17, ↓E_X7_lowestOf_18, ↓E_X7_lowestOf_20, ↓E_X7_lowestOf_21, ↓E_X7_lowestOf_24, ↓E_X7_lowestOf_25, ↓E_X7_lowestOf_28, ↓E_X7_lowestOf_29, ↓E_X7_lowestOf_32, ↓E_X7_lowestOf_33, ↓E_X7_lowestOf_35, ↓E_X7_lowestOf_36, ↓E_X7_lowestOf_39, ↓E_X7_lowestOf_40, ↓E_X7_lowestOf_43, ↓E_X7_lowestOf_44, ↓E_X7_lowestOf_47, ↓E_X7_lowestOf_50, ↓E_X7_lowestOf_51]
  exact lp n 0 (by omega)
set_option maxHeartbeats 2000000 in
theorem m_lowest2 {d k l n : Nat} {V : Nat → Nat → Nat} {σ : mx_S} {q : mx_R} (hn : n ≤ 6) (hk : k < 6) (hl : l < 6) (hV : okV n V) (h0 : σ.1 88 0 = nI n) (hR : ∀ j k, j < n → k < 6 → σ.1 89 (6 * j + k) = nI (V j k)) : mx_call (d + 2) m_X7_lowestOf [.ref 88, .int (nI k), .int (nI l)] σ q ↔ q = (some (.int (nI (mnV (fun j => V j k + V j l) n))), σ) := by
  have lp : ∀ m t, t + m = n → (mx_run (d + 1) m_X7_lowestOf 7 [some (.ref 88), some (.int (nI k)), some (.int (nI l)), some (.int (nI (mnV (fun j => V j k + V j l) t))), some (.int (nI t))] [] σ q ↔ q = (some (.int (nI (mnV (fun j => V j k + V j l) n))), σ)) := by
    intro m
    induction m with
    | zero =>
      intro t ht
      have e : t = n := by omega
      subst e
      rw [E_X7_lowestOf_7]
      simp (disch := omega) only [true_and, and_true, and_self, exists_eq_left, Option.toList_some, Option.toList_none, List.cons_append, List.nil_append, List.append_nil, i2_i, i2_r, i2_n, nz0, nz1, true_or, or_true, Nat.reduceAdd, Nat.le_refl, Nat.reduceLT, Nat.reduceLeDiff, ↓E_X7_lowestOf_0, ↓E_X7_lowestOf_3, ↓E_X7_lowestOf_4, ↓E_X7_lowestOf_5, ↓E_X7_lowestOf_9, ↓E_X7_lowestOf_10, ↓E_X7_lowestOf_13, ↓E_X7_lowestOf_16, ↓E_X7_lowestOf_17, ↓E_X7_lowestOf_18, ↓E_X7_lowestOf_20, ↓E_X7_lowestOf_21, ↓E_X7_lowestOf_24, ↓E_X7_lowestOf_25, ↓E_X7_lowestOf_28, ↓E_X7_lowestOf_29, ↓E_X7_lowestOf_32, ↓E_X7_lowestOf_33, ↓E_X7_lowestOf_35, ↓E_X7_lowestOf_36, ↓E_X7_lowestOf_39, ↓E_X7_lowestOf_40, ↓E_X7_lowestOf_43, ↓E_X7_lowestOf_44, ↓E_X7_lowestOf_47, ↓E_X7_lowestOf_50, ↓E_X7_lowestOf_51, h0, leN, if_true]
    | succ m ih =>
      intro t ht
      have r := hR t k (by omega) hk
      have r2 := hR t l (by omega) hl
      have b1 := mnV_le (g := fun j => V j k + V j l) t
      have b2 := hV t k (by omega) hk
      have b3 := hV t l (by omega) hl
      rw [E_X7_lowestOf_7]
      simp (disch := omega) only [true_and, and_true, and_self, exists_eq_left, Option.toList_some, Option.toList_none, List.cons_append, List.nil_append, List.append_nil, i2_i, i2_r, i2_n, nz0, nz1, true_or, or_true, Nat.reduceAdd, Nat.le_refl, Nat.reduceLT, Nat.reduceLeDiff, ↓E_X7_lowestOf_0, ↓E_X7_lowestOf_3, ↓E_X7_lowestOf_4, ↓E_X7_lowestOf_5, ↓E_X7_lowestOf_9, ↓E_X7_lowestOf_10, ↓E_X7_lowestOf_13, ↓E_X7_lowestOf_16, ↓E_X7_lowestOf_17, ↓E_X7_lowestOf_18, ↓E_X7_lowestOf_20, ↓E_X7_lowestOf_21, ↓E_X7_lowestOf_24, ↓E_X7_lowestOf_25, ↓E_X7_lowestOf_29, ↓E_X7_lowestOf_32, ↓E_X7_lowestOf_33, ↓E_X7_lowestOf_35, ↓E_X7_lowestOf_36, ↓E_X7_lowestOf_39, ↓E_X7_lowestOf_40, ↓E_X7_lowestOf_43, ↓E_X7_lowestOf_44, ↓E_X7_lowestOf_47, ↓E_X7_lowestOf_50, ↓E_X7_lowestOf_51, h0, leN, if_neg (show ¬ n ≤ t by omega), m_getR, r, r2, if_pos (nI_nonneg (show l < 2147483648 by omega)), if_neg (nI_neg (show l < 2147483648 by omega)), nI_add, nI_min, nI_1]
      exact ih (t + 1) (by omega)
  simp (disch := omega) only [C_X7_lowestOf, true_and, and_true, and_self, exists_eq_left, Option.toList_some, Option.toList_none, List.cons_append, List.nil_append, List.append_nil, i2_i, i2_r, i2_n, nz0, nz1, true_or, or_true, Nat.reduceAdd, Nat.le_refl, Nat.reduceLT, Nat.reduceLeDiff, ↓E_X7_lowestOf_0, ↓E_X7_lowestOf_3, ↓E_X7_lowestOf_4, ↓E_X7_lowestOf_5, ↓E_X7_lowestOf_9, ↓E_X7_lowestOf_10, ↓E_X7_lowestOf_13, ↓E_X7_lowestOf_16, ↓E_X7_lowestOf_17, ↓E_X7_lowestOf_18, ↓E_X7_lowestOf_20, ↓E_X7_lowestOf_21, ↓E_X7_lowestOf_24, ↓E_X7_lowestOf_25, ↓E_X7_lowestOf_28, ↓E_X7_lowestOf_29, ↓E_X7_lowestOf_32, ↓E_X7_lowestOf_33, ↓E_X7_lowestOf_35, ↓E_X7_lowestOf_36, ↓E_X7_lowestOf_39, ↓E_X7_lowestOf_40, ↓E_X7_lowestOf_43, ↓E_X7_lowestOf_44, ↓E_X7_lowestOf_47, ↓E_X7_lowestOf_50, ↓E_X7_lowestOf_51]
  exact lp n 0 (by omega)
theorem iN_addN {a : Int} {b : Nat} : iN a + nI b = iN (a + (b : Int)) := by
  unfold iN
  rw [Int32.ofInt_add]
  rfl
set_option maxHeartbeats 2000000 in
theorem m_waited {d : Nat} {σ : mx_S} {w : Vw} (hw : vwM w σ) (hj : w.1.jn ≠ 0) : ∃ σ', (∀ q, mx_call (d + 4) m_X7_waited [.ref 88] σ q ↔ q = (some (.int (iN (WT w))), σ')) ∧ scM σ σ' := by
  obtain ⟨S1, S2, S3, S4, S5⟩ := vwM_now hw
  have ok := hw.1.1
  have hn := ok.1
  obtain ⟨σ1, c1, sc, f⟩ := m_cost1 (d := d) (a := 90) (md := w.1.md) (am := 0) hw hj (Or.inl rfl) ok.2.1 (by omega) ok.2.2.2.2.1 S5
  obtain ⟨T1, T2, T3, T4, T5⟩ := vwM_now (sc.vw hw)
  have c1' : ∀ q, mx_call (d + 3) m_X7_costOf [.ref 88, .ref 90, .int (nI w.1.md), .int 0] σ q ↔ q = (some (.int (iN (CST w.1.V w.1.md 0 w.1.O w.1.jn))), σ1) := c1
  have t2 : ∀ q, mx_call (d + 3) m_X7_together [.ref 88, .int 2] σ1 q ↔ q = (some (.int (nI (smV (fun j => w.1.V j 2) w.1.jn))), σ1) := fun q => m_together (k := 2) hn (by omega) T1 T4
  have t4 : ∀ q, mx_call (d + 3) m_X7_together [.ref 88, .int 4] σ1 q ↔ q = (some (.int (nI (smV (fun j => w.1.V j 4) w.1.jn))), σ1) := fun q => m_together (k := 4) hn (by omega) T1 T4
  have hl := ok.2.2.2.2.1.1 (w.1.jn - 1) (by omega)
  have e1 : nI w.1.jn - 1 = nI (w.1.jn - 1) := by rw [show w.1.jn = (w.1.jn - 1) + 1 by omega, nI_pred]; rfl
  have ro := S5 (w.1.jn - 1) (by omega)
  have r4 := T4 (w.1.O (w.1.jn - 1)) 4 hl (by omega)
  refine ⟨σ1, fun q => ?_, sc⟩
  simp (disch := omega) only [C_X7_waited, true_and, and_true, and_self, exists_eq_left, Option.toList_some, Option.toList_none, List.cons_append, List.nil_append, List.append_nil, i2_i, i2_r, i2_n, nz0, nz1, true_or, or_true, Nat.reduceAdd, Nat.le_refl, Nat.reduceLT, Nat.reduceLeDiff, ↓E_X7_waited_0, ↓E_X7_waited_1, ↓E_X7_waited_4, ↓E_X7_waited_5, ↓E_X7_waited_8, ↓E_X7_waited_9, ↓E_X7_waited_10, ↓E_X7_waited_11, ↓E_X7_waited_12, ↓E_X7_waited_13, ↓E_X7_waited_14, ↓E_X7_waited_17, ↓E_X7_waited_18, ↓E_X7_waited_21, ↓E_X7_waited_22, ↓E_X7_waited_25, ↓E_X7_waited_26, ↓E_X7_waited_27, ↓E_X7_waited_30, ↓E_X7_waited_31, ↓E_X7_waited_32, ↓E_X7_waited_33, ↓E_X7_waited_36, ↓E_X7_waited_37, ↓E_X7_waited_38, ↓E_X7_waited_39, ↓E_X7_waited_40, ↓E_X7_waited_43, ↓E_X7_waited_44, S1, S2, e1, kd_8, ln_6, vin, clN, ro, c1', t2, t4, m_g4, r4, iN_sub2, iN_addN]
  rfl
set_option maxHeartbeats 4000000 in
theorem m_turn {d : Nat} {σ : mx_S} {w : Vw} (hw : vwM w σ) (hj : w.1.jn ≠ 0) : ∃ σ', (∀ q, mx_call (d + 3) m_X7_turn [.ref 88] σ q ↔ q = (some (.int (nI (w.1.O (lsP (tnB w) w.1.jn)))), σ')) ∧ scM σ σ' := by
  obtain ⟨S1, S2, S3, S4, S5⟩ := vwM_now hw
  have ok := hw.1.1
  have hn := ok.1
  have hO := ok.2.2.2.2.1
  have hV := okV_of ok.2.2.2.1
  obtain ⟨σ1, c1, hT, f, g⟩ := m_goes (d := d) (a := 90) (Or.inl rfl) hn ok.2.1 hV hO S1 S5 S4
  have T1 : σ1.1 88 0 = nI w.1.jn := by rw [f 88 (by omega)]; exact S1
  have T5 : ∀ p, p < w.1.jn → σ1.1 90 p = nI (w.1.O p) := fun p hp => by rw [f 90 (by omega)]; exact S5 p hp
  have lp : ∀ k, k < w.1.jn → lsP (tnB w) w.1.jn = lsP (tnB w) (k + 1) → ∀ q, (mx_run (d + 2) m_X7_turn 19 [some (.ref 88), some (.int (nI k))] [] σ1 q ↔ q = (some (.int (nI (w.1.O (lsP (tnB w) w.1.jn)))), σ1)) := by
    intro k
    induction k with
    | zero =>
      intro hk hl q
      have ro := T5 0 hk
      have hOk := hO.1 0 hk
      obtain ⟨-, -, -, w3, w4, -⟩ := hT 0 hk
      obtain ⟨B1, B2, B3⟩ := TS_le (md := w.1.md) hV hO.1 0 (by omega)
      obtain ⟨t1, t2, t3, -⟩ := t_le (md := w.1.md) (hV (w.1.O 0) · hOk) B1 B2 B3
      have e : tAr w.1.V w.1.md (w.1.O 0) (TS w.1.V w.1.md w.1.O 0) = tBa w.1.V w.1.md (w.1.O 0) (TS w.1.V w.1.md w.1.O 0) := by
        show _ = max _ 0
        exact (Nat.max_eq_left (Nat.zero_le _)).symm
      have l0 : lsP (tnB w) (0 + 1) = 0 := if_pos (by unfold tnB; rw [e]; exact decide_eq_true rfl)
      rw [hl, l0, E_X7_turn_19]
      simp (disch := omega) only [true_and, and_true, and_self, exists_eq_left, Option.toList_some, Option.toList_none, List.cons_append, List.nil_append, List.append_nil, i2_i, i2_r, i2_n, nz0, nz1, true_or, or_true, Nat.reduceAdd, Nat.le_refl, Nat.reduceLT, Nat.reduceLeDiff, ↓E_X7_turn_0, ↓E_X7_turn_1, ↓E_X7_turn_2, ↓E_X7_turn_5, ↓E_X7_turn_6, ↓E_X7_turn_9, ↓E_X7_turn_12, ↓E_X7_turn_13, ↓E_X7_turn_16, ↓E_X7_turn_17, ↓E_X7_turn_18, ↓E_X7_turn_20, ↓E_X7_turn_23, ↓E_X7_turn_25, ↓E_X7_turn_26, ↓E_X7_turn_29, ↓E_X7_turn_30, ↓E_X7_turn_31, ↓E_X7_turn_32, ↓E_X7_turn_33, ↓E_X7_turn_34, ↓E_X7_turn_35, ↓E_X7_turn_36, ↓E_X7_turn_39, ↓E_X7_turn_41, ↓E_X7_turn_42, ↓E_X7_turn_45, ↓E_X7_turn_46, ↓E_X7_turn_47, ↓E_X7_turn_48, ↓E_X7_turn_49, ↓E_X7_turn_50, ↓E_X7_turn_51, ↓E_X7_turn_54, ↓E_X7_turn_57, ↓E_X7_turn_60, ↓E_X7_turn_61, ↓E_X7_turn_64, ↓E_X7_turn_65, ↓E_X7_turn_66, kd_8, ln_6, ln_36, vin, clN, ro, m6, nI_p3, nI_p4, w3, w4, eqN, if_pos e]
    | succ k ih =>
      intro hk hl q
      have ro := T5 (k + 1) hk
      have hOk := hO.1 (k + 1) hk
      obtain ⟨-, -, -, w3, w4, -⟩ := hT (k + 1) hk
      obtain ⟨B1, B2, B3⟩ := TS_le (md := w.1.md) hV hO.1 (k + 1) (by omega)
      obtain ⟨t1, t2, t3, -⟩ := t_le (md := w.1.md) (hV (w.1.O (k + 1)) · hOk) B1 B2 B3
      rw [E_X7_turn_19]
      simp (disch := omega) only [true_and, and_true, and_self, exists_eq_left, Option.toList_some, Option.toList_none, List.cons_append, List.nil_append, List.append_nil, i2_i, i2_r, i2_n, nz0, nz1, true_or, or_true, Nat.reduceAdd, Nat.le_refl, Nat.reduceLT, Nat.reduceLeDiff, ↓E_X7_turn_0, ↓E_X7_turn_1, ↓E_X7_turn_2, ↓E_X7_turn_5, ↓E_X7_turn_6, ↓E_X7_turn_9, ↓E_X7_turn_12, ↓E_X7_turn_13, ↓E_X7_turn_16, ↓E_X7_turn_17, ↓E_X7_turn_18, ↓E_X7_turn_20, ↓E_X7_turn_23, ↓E_X7_turn_25, ↓E_X7_turn_26, ↓E_X7_turn_29, ↓E_X7_turn_30, ↓E_X7_turn_31, ↓E_X7_turn_32, ↓E_X7_turn_33, ↓E_X7_turn_34, ↓E_X7_turn_35, ↓E_X7_turn_36, ↓E_X7_turn_39, ↓E_X7_turn_41, ↓E_X7_turn_42, ↓E_X7_turn_45, ↓E_X7_turn_46, ↓E_X7_turn_47, ↓E_X7_turn_48, ↓E_X7_turn_49, ↓E_X7_turn_50, ↓E_X7_turn_51, ↓E_X7_turn_54, ↓E_X7_turn_57, ↓E_X7_turn_61, ↓E_X7_turn_64, ↓E_X7_turn_65, ↓E_X7_turn_66, kd_8, ln_6, ln_36, vin, clN, ro, m6, nI_p3, nI_p4, w3, w4, eqN, pk_m1]
      by_cases e : tAr w.1.V w.1.md (w.1.O (k + 1)) (TS w.1.V w.1.md w.1.O (k + 1)) = tBa w.1.V w.1.md (w.1.O (k + 1)) (TS w.1.V w.1.md w.1.O (k + 1))
      · have l0 : lsP (tnB w) (k + 1 + 1) = k + 1 := if_pos (by unfold tnB; rw [e]; exact decide_eq_true rfl)
        rw [if_pos e, hl, l0]
        simp (disch := omega) only [true_and, and_true, and_self, exists_eq_left, Option.toList_some, Option.toList_none, List.cons_append, List.nil_append, List.append_nil, i2_i, i2_r, i2_n, nz0, nz1, true_or, or_true, Nat.reduceAdd, Nat.le_refl, Nat.reduceLT, Nat.reduceLeDiff, ↓E_X7_turn_0, ↓E_X7_turn_1, ↓E_X7_turn_2, ↓E_X7_turn_5, ↓E_X7_turn_6, ↓E_X7_turn_9, ↓E_X7_turn_12, ↓E_X7_turn_13, ↓E_X7_turn_16, ↓E_X7_turn_17, ↓E_X7_turn_18, ↓E_X7_turn_20, ↓E_X7_turn_23, ↓E_X7_turn_25, ↓E_X7_turn_26, ↓E_X7_turn_29, ↓E_X7_turn_30, ↓E_X7_turn_31, ↓E_X7_turn_32, ↓E_X7_turn_33, ↓E_X7_turn_34, ↓E_X7_turn_35, ↓E_X7_turn_36, ↓E_X7_turn_39, ↓E_X7_turn_41, ↓E_X7_turn_42, ↓E_X7_turn_45, ↓E_X7_turn_46, ↓E_X7_turn_47, ↓E_X7_turn_48, ↓E_X7_turn_49, ↓E_X7_turn_50, ↓E_X7_turn_51, ↓E_X7_turn_54, ↓E_X7_turn_57, ↓E_X7_turn_60, ↓E_X7_turn_61, ↓E_X7_turn_64, ↓E_X7_turn_65, ↓E_X7_turn_66, kd_8, ln_6, vin, clN, ro]
      · have l0 : lsP (tnB w) (k + 1 + 1) = lsP (tnB w) (k + 1) := if_neg (by unfold tnB; rw [decide_eq_false (fun z => e z.symm)]; decide)
        rw [if_neg e]
        exact ih (by omega) (hl.trans l0) q
  refine ⟨σ1, fun q => ?_, scM99 f g⟩
  have e1 : nI w.1.jn - 1 = nI (w.1.jn - 1) := by rw [show w.1.jn = (w.1.jn - 1) + 1 by omega, nI_pred]; rfl
  rw [← lp (w.1.jn - 1) (by omega) (by rw [show w.1.jn - 1 + 1 = w.1.jn by omega]) q]
  simp (disch := omega) only [C_X7_turn, true_and, and_true, and_self, exists_eq_left, Option.toList_some, Option.toList_none, List.cons_append, List.nil_append, List.append_nil, i2_i, i2_r, i2_n, nz0, nz1, true_or, or_true, Nat.reduceAdd, Nat.le_refl, Nat.reduceLT, Nat.reduceLeDiff, ↓E_X7_turn_0, ↓E_X7_turn_1, ↓E_X7_turn_2, ↓E_X7_turn_5, ↓E_X7_turn_6, ↓E_X7_turn_9, ↓E_X7_turn_12, ↓E_X7_turn_13, ↓E_X7_turn_16, ↓E_X7_turn_17, ↓E_X7_turn_18, ↓E_X7_turn_20, ↓E_X7_turn_23, ↓E_X7_turn_25, ↓E_X7_turn_26, ↓E_X7_turn_29, ↓E_X7_turn_30, ↓E_X7_turn_31, ↓E_X7_turn_32, ↓E_X7_turn_33, ↓E_X7_turn_34, ↓E_X7_turn_35, ↓E_X7_turn_36, ↓E_X7_turn_39, ↓E_X7_turn_41, ↓E_X7_turn_42, ↓E_X7_turn_45, ↓E_X7_turn_46, ↓E_X7_turn_47, ↓E_X7_turn_48, ↓E_X7_turn_49, ↓E_X7_turn_50, ↓E_X7_turn_51, ↓E_X7_turn_54, ↓E_X7_turn_57, ↓E_X7_turn_60, ↓E_X7_turn_61, ↓E_X7_turn_64, ↓E_X7_turn_65, ↓E_X7_turn_66, S2, c1, T1, e1]
