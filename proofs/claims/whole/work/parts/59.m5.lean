/-! ===== the reference: items ===== -/
set_option maxHeartbeats 2000000 in
theorem m_fit {d : Nat} {σ : mx_S} {q : mx_R} {s : Int32} {v : Int64} : mx_call (d + 1) m_X7_fit [.int s, .long v] σ q ↔ q = (some (.long (fitL s v)), σ) := by
  simp (disch := omega) only [C_X7_fit, true_and, and_true, and_self, exists_eq_left, Option.toList_some, Option.toList_none, List.cons_append, List.nil_append, List.append_nil, i2_i, i2_r, i2_n, nz0, nz1, true_or, or_true, Nat.reduceAdd, Nat.le_refl, Nat.reduceLT, Nat.reduceLeDiff, ↓E_X7_fit_0, ↓E_X7_fit_1, ↓E_X7_fit_32, ↓E_X7_fit_33, ↓E_X7_fit_34, ↓E_X7_fit_35, ↓E_X7_fit_36, ↓E_X7_fit_37, ↓E_X7_fit_38, ↓E_X7_fit_39, ↓E_X7_fit_40, ↓E_X7_fit_41, ↓E_X7_fit_42, ↓E_X7_fit_43, ↓E_X7_fit_44, ↓E_X7_fit_45, ↓E_X7_fit_46, ↓E_X7_fit_47, ↓E_X7_fit_48, ↓E_X7_fit_49, ↓E_X7_fit_50, ↓E_X7_fit_51, ↓E_X7_fit_54, ↓E_X7_fit_55, ↓E_X7_fit_58, ↓E_X7_fit_59, lgc0]
  unfold fitL
  by_cases h0 : s = 0
  · simp only [if_pos h0]
  by_cases h1 : s = 1
  · simp only [if_neg h0, if_pos h1]
  by_cases h2 : s = 2
  · simp only [if_neg h0, if_neg h1, if_pos h2]
  by_cases h3 : s = 3
  · simp only [if_neg h0, if_neg h1, if_neg h2, if_pos h3]
  simp only [if_neg h0, if_neg h1, if_neg h2, if_neg h3]
  by_cases h4 : v = 0
  · simp only [if_pos h4]
  · simp only [if_neg h4]
set_option maxHeartbeats 2000000 in
theorem M_peek {d : Nat} {σ : mx_S} {w : Vw} {a b : Int32} (hw : vwM w σ) : mx_call (d + 3) m_X7_peek [.ref 88, .int a, .int b] σ (some (.long (F_peek w a b)), σ) := by
  simp (disch := omega) only [C_X7_peek, true_and, and_true, and_self, exists_eq_left, Option.toList_some, Option.toList_none, List.cons_append, List.nil_append, List.append_nil, i2_i, i2_r, i2_n, nz0, nz1, true_or, or_true, Nat.reduceAdd, Nat.le_refl, Nat.reduceLT, Nat.reduceLeDiff, ↓E_X7_peek_0, ↓E_X7_peek_1, ↓E_X7_peek_4, ↓E_X7_peek_8, ↓E_X7_peek_11, ↓E_X7_peek_12, ↓E_X7_peek_13, ↓E_X7_peek_16, ↓E_X7_peek_17, ↓E_X7_peek_18, ↓E_X7_peek_19, ↓E_X7_peek_20, ↓E_X7_peek_23, ↓E_X7_peek_24, ↓E_X7_peek_25, ↓E_X7_peek_26, ↓E_X7_peek_27, ↓E_X7_peek_28, ↓E_X7_peek_31, ↓E_X7_peek_34, ↓E_X7_peek_35, ↓E_X7_peek_38, ↓E_X7_peek_39, ↓E_X7_peek_40, ↓E_X7_peek_41, ↓E_X7_peek_42, ↓E_X7_peek_45, ↓E_X7_peek_48, m_isTape, bz_0]
  unfold F_peek
  by_cases e0 : ibI a 6 = false
  · simp only [if_pos e0]
  obtain ⟨ha, ha2, ha3⟩ := ibI_of (eq_true_of_ne_false e0)
  simp only [if_neg e0]
  generalize ixI a = t at *
  subst ha
  obtain ⟨T1, T2, T3, T4⟩ := tapM_at hw ha2
  obtain ⟨g1, g2⟩ := okT_sg (hw.1.2.2.2 t ha2)
  simp (disch := omega) only [true_and, and_true, and_self, exists_eq_left, Option.toList_some, Option.toList_none, List.cons_append, List.nil_append, List.append_nil, i2_i, i2_r, i2_n, nz0, nz1, true_or, or_true, Nat.reduceAdd, Nat.le_refl, Nat.reduceLT, Nat.reduceLeDiff, ↓E_X7_peek_0, ↓E_X7_peek_1, ↓E_X7_peek_4, ↓E_X7_peek_7, ↓E_X7_peek_8, ↓E_X7_peek_11, ↓E_X7_peek_12, ↓E_X7_peek_13, ↓E_X7_peek_16, ↓E_X7_peek_17, ↓E_X7_peek_18, ↓E_X7_peek_19, ↓E_X7_peek_20, ↓E_X7_peek_23, ↓E_X7_peek_24, ↓E_X7_peek_25, ↓E_X7_peek_26, ↓E_X7_peek_27, ↓E_X7_peek_28, ↓E_X7_peek_31, ↓E_X7_peek_35, ↓E_X7_peek_38, ↓E_X7_peek_39, ↓E_X7_peek_40, ↓E_X7_peek_41, ↓E_X7_peek_42, ↓E_X7_peek_45, ↓E_X7_peek_48, kd_8, ln_6, vin, clN, T1, T2, g1, g2, s_in, inL_p, bz_0]
  by_cases e1 : (w.2.2.2 t).1 = -1
  · have z : (w.2.2.2 t).2.1 = 0 := by
      rcases hw.1.2.2.2 t ha2 with h | h
      · exact h.2
      · obtain ⟨k, hk, e⟩ := h.1
        rw [e] at e1
        exact absurd e1.symm (nI_m1 (by omega))
    have z2 : ibI b (w.2.2.2 t).2.1 = false := by
      rw [z]
      unfold ibI
      by_cases h : 0 ≤ b.toInt
      · rw [decide_eq_false (show ¬ b.toInt < ((0 : Nat) : Int) by omega), Bool.and_false]
      · rw [decide_eq_false h, Bool.false_and]
    simp only [if_pos e1, if_pos z2]
  have n1 : ¬ ¬ (w.2.2.2 t).1 = -1 ↔ False := ⟨fun z => z e1, fun z => z.elim⟩
  simp only [if_neg e1]
  by_cases e2 : ibI b (w.2.2.2 t).2.1 = false
  · simp only [if_pos e2]
  obtain ⟨hb, hb2, hb3⟩ := ibI_of (eq_true_of_ne_false e2)
  simp only [if_neg e2]
  generalize ixI b = i at *
  subst hb
  simp (disch := omega) only [true_and, and_true, and_self, exists_eq_left, Option.toList_some, Option.toList_none, List.cons_append, List.nil_append, List.append_nil, i2_i, i2_r, i2_n, nz0, nz1, true_or, or_true, Nat.reduceAdd, Nat.le_refl, Nat.reduceLT, Nat.reduceLeDiff, ↓E_X7_peek_0, ↓E_X7_peek_1, ↓E_X7_peek_4, ↓E_X7_peek_7, ↓E_X7_peek_8, ↓E_X7_peek_11, ↓E_X7_peek_12, ↓E_X7_peek_13, ↓E_X7_peek_16, ↓E_X7_peek_17, ↓E_X7_peek_18, ↓E_X7_peek_19, ↓E_X7_peek_20, ↓E_X7_peek_23, ↓E_X7_peek_24, ↓E_X7_peek_25, ↓E_X7_peek_26, ↓E_X7_peek_27, ↓E_X7_peek_28, ↓E_X7_peek_31, ↓E_X7_peek_34, ↓E_X7_peek_35, ↓E_X7_peek_38, ↓E_X7_peek_39, ↓E_X7_peek_40, ↓E_X7_peek_41, ↓E_X7_peek_42, ↓E_X7_peek_45, ↓E_X7_peek_48, kd_15, ln_6, kd_11, ln_60, vin, clN, ptrM, or_true, T3]
set_option maxHeartbeats 2000000 in
theorem M_item {d : Nat} {σ : mx_S} {w : Vw} {a b : Int32} {v : Int64} (hw : vwM w σ) : ∃ σ', mx_call (d + 3) m_X7_item [.ref 88, .int a, .int b, .long v] σ (some (.int (F_item w a b v).1), σ') ∧ vwM (F_item w a b v).2 σ' ∧ loS σ σ' := by
  simp (disch := omega) only [C_X7_item, true_and, and_true, and_self, exists_eq_left, Option.toList_some, Option.toList_none, List.cons_append, List.nil_append, List.append_nil, i2_i, i2_r, i2_n, nz0, nz1, true_or, or_true, Nat.reduceAdd, Nat.le_refl, Nat.reduceLT, Nat.reduceLeDiff, ↓E_X7_item_0, ↓E_X7_item_1, ↓E_X7_item_4, ↓E_X7_item_7, ↓E_X7_item_8, ↓E_X7_item_10, ↓E_X7_item_13, ↓E_X7_item_14, ↓E_X7_item_15, ↓E_X7_item_18, ↓E_X7_item_20, ↓E_X7_item_21, ↓E_X7_item_22, ↓E_X7_item_23, ↓E_X7_item_24, ↓E_X7_item_25, ↓E_X7_item_28, ↓E_X7_item_29, ↓E_X7_item_30, ↓E_X7_item_31, ↓E_X7_item_32, ↓E_X7_item_33, ↓E_X7_item_36, ↓E_X7_item_39, ↓E_X7_item_41, ↓E_X7_item_42, ↓E_X7_item_43, ↓E_X7_item_46, ↓E_X7_item_47, ↓E_X7_item_48, ↓E_X7_item_49, ↓E_X7_item_50, ↓E_X7_item_53, ↓E_X7_item_54, ↓E_X7_item_55, ↓E_X7_item_56, ↓E_X7_item_59, ↓E_X7_item_60, ↓E_X7_item_61, m_isTape, bz_0]
  unfold F_item
  by_cases e0 : ibI a 6 = false
  · simp only [if_pos e0]
    exact ⟨σ, rfl, hw, loS.rf⟩
  obtain ⟨ha, ha2, ha3⟩ := ibI_of (eq_true_of_ne_false e0)
  simp only [if_neg e0]
  generalize ixI a = t at *
  subst ha
  obtain ⟨T1, T2, T3, T4⟩ := tapM_at hw ha2
  obtain ⟨g1, g2⟩ := okT_sg (hw.1.2.2.2 t ha2)
  simp (disch := omega) only [true_and, and_true, and_self, exists_eq_left, Option.toList_some, Option.toList_none, List.cons_append, List.nil_append, List.append_nil, i2_i, i2_r, i2_n, nz0, nz1, true_or, or_true, Nat.reduceAdd, Nat.le_refl, Nat.reduceLT, Nat.reduceLeDiff, ↓E_X7_item_0, ↓E_X7_item_1, ↓E_X7_item_4, ↓E_X7_item_7, ↓E_X7_item_8, ↓E_X7_item_9, ↓E_X7_item_10, ↓E_X7_item_13, ↓E_X7_item_14, ↓E_X7_item_15, ↓E_X7_item_18, ↓E_X7_item_20, ↓E_X7_item_21, ↓E_X7_item_22, ↓E_X7_item_23, ↓E_X7_item_24, ↓E_X7_item_25, ↓E_X7_item_28, ↓E_X7_item_29, ↓E_X7_item_30, ↓E_X7_item_31, ↓E_X7_item_32, ↓E_X7_item_33, ↓E_X7_item_36, ↓E_X7_item_39, ↓E_X7_item_41, ↓E_X7_item_43, ↓E_X7_item_46, ↓E_X7_item_47, ↓E_X7_item_48, ↓E_X7_item_49, ↓E_X7_item_50, ↓E_X7_item_53, ↓E_X7_item_54, ↓E_X7_item_55, ↓E_X7_item_56, ↓E_X7_item_59, ↓E_X7_item_60, ↓E_X7_item_61, kd_8, ln_6, vin, clN, T1, T2, g1, g2, s_in, inL_p, bz_0]
  by_cases e1 : (w.2.2.2 t).1 = -1
  · have n1 : ¬ ¬ (w.2.2.2 t).1 = -1 := fun z => z e1
    simp only [if_pos e1, if_neg n1]
    exact ⟨σ, rfl, hw, loS.rf⟩
  simp only [if_neg e1, if_pos e1]
  by_cases e2 : ibI b (w.2.2.2 t).2.1 = false
  · simp only [if_pos e2]
    exact ⟨σ, rfl, hw, loS.rf⟩
  obtain ⟨hb, hb2, hb3⟩ := ibI_of (eq_true_of_ne_false e2)
  simp only [if_neg e2]
  generalize ixI b = i at *
  subst hb
  simp (disch := omega) only [true_and, and_true, and_self, exists_eq_left, Option.toList_some, Option.toList_none, List.cons_append, List.nil_append, List.append_nil, i2_i, i2_r, i2_n, nz0, nz1, true_or, or_true, Nat.reduceAdd, Nat.le_refl, Nat.reduceLT, Nat.reduceLeDiff, ↓E_X7_item_0, ↓E_X7_item_1, ↓E_X7_item_4, ↓E_X7_item_7, ↓E_X7_item_8, ↓E_X7_item_9, ↓E_X7_item_10, ↓E_X7_item_13, ↓E_X7_item_14, ↓E_X7_item_15, ↓E_X7_item_18, ↓E_X7_item_20, ↓E_X7_item_21, ↓E_X7_item_22, ↓E_X7_item_23, ↓E_X7_item_24, ↓E_X7_item_25, ↓E_X7_item_28, ↓E_X7_item_29, ↓E_X7_item_30, ↓E_X7_item_31, ↓E_X7_item_32, ↓E_X7_item_33, ↓E_X7_item_36, ↓E_X7_item_39, ↓E_X7_item_41, ↓E_X7_item_42, ↓E_X7_item_43, ↓E_X7_item_46, ↓E_X7_item_47, ↓E_X7_item_48, ↓E_X7_item_49, ↓E_X7_item_50, ↓E_X7_item_53, ↓E_X7_item_54, ↓E_X7_item_55, ↓E_X7_item_56, ↓E_X7_item_59, ↓E_X7_item_60, ↓E_X7_item_61, kd_15, kd_8, ln_6, kd_11, ln_60, vin, clN, ptrM, or_true, T1, m_fit]
  refine ⟨_, rfl, vwM_tp hw (Or.inr (okT_m1 (hw.1.2.2.2 t ha2) e1)) T1 T2 ?_ (fun u hu => rfl) (fun u hu => rfl) (fun i h1 h2 => rfl) (fun i h1 h2 => mx_u_ne h2), fun i hi => ⟨rfl, mx_u_ne (by omega)⟩⟩
  intro k hk
  show _ = if k = i then _ else _
  by_cases e : k = i
  · subst e; simp only [uu_same, if_true]
  · rw [if_neg e]; simp (disch := omega) only [uu_col]; exact T3 k hk
theorem cpy_s {f g : Nat → Int64} {sp dp k : Nat} : vp_updL (va_cpy f g sp dp k) (dp + k) (f (sp + k)) = va_cpy f g sp dp (k + 1) := by
  funext p
  unfold vp_updL va_cpy
  by_cases e : p = dp + k
  · subst e
    rw [if_pos rfl, if_pos (by omega)]
    congr 1
    omega
  · rw [if_neg e]
    by_cases h : dp ≤ p ∧ p < dp + k
    · rw [if_pos h, if_pos (by omega)]
    · rw [if_neg h, if_neg (by omega)]
theorem cpy_0 {f g : Nat → Int64} {sp dp : Nat} : va_cpy f g sp dp 0 = g := by
  funext p
  unfold va_cpy
  rw [if_neg (by omega)]
set_option maxHeartbeats 2000000 in
theorem m_out {d t x u y n : Nat} {f : Nat → Nat → Int32} {τ : Nat → Nat → Int64} {q : mx_R} (ht : t < 6) (hn : x + n ≤ 60) : ∀ m k, k + m = n → (mx_run d m_X7_shift 124 [some (.ref 88), some (.int (nI t)), some (.int (nI x)), some (.int (nI u)), some (.int (nI y)), some (.int (nI n)), some (.int (nI k))] [] (f, mx_c τ 113 (va_cpy (τ (105 + t)) (τ 113) x 0 k)) q ↔ mx_run d m_X7_shift 155 [some (.ref 88), some (.int (nI t)), some (.int (nI x)), some (.int (nI u)), some (.int (nI y)), some (.int (nI n)), some (.int (nI n))] [] (f, mx_c τ 113 (va_cpy (τ (105 + t)) (τ 113) x 0 n)) q) := by
  intro m
  induction m with
  | zero =>
    intro k hk
    have e : k = n := by omega
    subst e
    rw [E_X7_shift_124]
    simp (disch := omega) only [true_and, and_true, and_self, exists_eq_left, Option.toList_some, Option.toList_none, List.cons_append, List.nil_append, List.append_nil, i2_i, i2_r, i2_n, nz0, nz1, true_or, or_true, Nat.reduceAdd, Nat.le_refl, Nat.reduceLT, Nat.reduceLeDiff, ↓E_X7_shift_0, ↓E_X7_shift_1, ↓E_X7_shift_4, ↓E_X7_shift_7, ↓E_X7_shift_8, ↓E_X7_shift_11, ↓E_X7_shift_14, ↓E_X7_shift_15, ↓E_X7_shift_16, ↓E_X7_shift_17, ↓E_X7_shift_20, ↓E_X7_shift_21, ↓E_X7_shift_22, ↓E_X7_shift_25, ↓E_X7_shift_26, ↓E_X7_shift_29, ↓E_X7_shift_30, ↓E_X7_shift_31, ↓E_X7_shift_34, ↓E_X7_shift_36, ↓E_X7_shift_37, ↓E_X7_shift_38, ↓E_X7_shift_41, ↓E_X7_shift_42, ↓E_X7_shift_43, ↓E_X7_shift_44, ↓E_X7_shift_47, ↓E_X7_shift_48, ↓E_X7_shift_49, ↓E_X7_shift_52, ↓E_X7_shift_54, ↓E_X7_shift_55, ↓E_X7_shift_57, ↓E_X7_shift_60, ↓E_X7_shift_61, ↓E_X7_shift_64, ↓E_X7_shift_66, ↓E_X7_shift_69, ↓E_X7_shift_71, ↓E_X7_shift_72, ↓E_X7_shift_75, ↓E_X7_shift_76, ↓E_X7_shift_77, ↓E_X7_shift_80, ↓E_X7_shift_82, ↓E_X7_shift_83, ↓E_X7_shift_86, ↓E_X7_shift_87, ↓E_X7_shift_88, ↓E_X7_shift_91, ↓E_X7_shift_92, ↓E_X7_shift_93, ↓E_X7_shift_96, ↓E_X7_shift_97, ↓E_X7_shift_98, ↓E_X7_shift_100, ↓E_X7_shift_101, ↓E_X7_shift_104, ↓E_X7_shift_106, ↓E_X7_shift_107, ↓E_X7_shift_110, ↓E_X7_shift_111, ↓E_X7_shift_112, ↓E_X7_shift_114, ↓E_X7_shift_115, ↓E_X7_shift_118, ↓E_X7_shift_120, ↓E_X7_shift_121, ↓E_X7_shift_122, ↓E_X7_shift_126, ↓E_X7_shift_128, ↓E_X7_shift_131, ↓E_X7_shift_132, ↓E_X7_shift_135, ↓E_X7_shift_137, ↓E_X7_shift_138, ↓E_X7_shift_141, ↓E_X7_shift_142, ↓E_X7_shift_143, ↓E_X7_shift_144, ↓E_X7_shift_146, ↓E_X7_shift_147, ↓E_X7_shift_148, ↓E_X7_shift_149, ↓E_X7_shift_152, ↓E_X7_shift_156, ↓E_X7_shift_158, ↓E_X7_shift_160, ↓E_X7_shift_162, ↓E_X7_shift_165, ↓E_X7_shift_166, ↓E_X7_shift_169, ↓E_X7_shift_170, ↓E_X7_shift_171, ↓E_X7_shift_173, ↓E_X7_shift_175, ↓E_X7_shift_176, ↓E_X7_shift_177, ↓E_X7_shift_180, ↓E_X7_shift_182, ↓E_X7_shift_183, ↓E_X7_shift_184, ↓E_X7_shift_187, ↓E_X7_shift_190, ↓E_X7_shift_192, leN, if_true]
  | succ m ih =>
    intro k hk
    rw [E_X7_shift_124]
    simp (disch := omega) only [true_and, and_true, and_self, exists_eq_left, Option.toList_some, Option.toList_none, List.cons_append, List.nil_append, List.append_nil, i2_i, i2_r, i2_n, nz0, nz1, true_or, or_true, Nat.reduceAdd, Nat.le_refl, Nat.reduceLT, Nat.reduceLeDiff, ↓E_X7_shift_0, ↓E_X7_shift_1, ↓E_X7_shift_4, ↓E_X7_shift_7, ↓E_X7_shift_8, ↓E_X7_shift_11, ↓E_X7_shift_14, ↓E_X7_shift_15, ↓E_X7_shift_16, ↓E_X7_shift_17, ↓E_X7_shift_20, ↓E_X7_shift_21, ↓E_X7_shift_22, ↓E_X7_shift_25, ↓E_X7_shift_26, ↓E_X7_shift_29, ↓E_X7_shift_30, ↓E_X7_shift_31, ↓E_X7_shift_34, ↓E_X7_shift_36, ↓E_X7_shift_37, ↓E_X7_shift_38, ↓E_X7_shift_41, ↓E_X7_shift_42, ↓E_X7_shift_43, ↓E_X7_shift_44, ↓E_X7_shift_47, ↓E_X7_shift_48, ↓E_X7_shift_49, ↓E_X7_shift_52, ↓E_X7_shift_54, ↓E_X7_shift_55, ↓E_X7_shift_57, ↓E_X7_shift_60, ↓E_X7_shift_61, ↓E_X7_shift_64, ↓E_X7_shift_66, ↓E_X7_shift_69, ↓E_X7_shift_71, ↓E_X7_shift_72, ↓E_X7_shift_75, ↓E_X7_shift_76, ↓E_X7_shift_77, ↓E_X7_shift_80, ↓E_X7_shift_82, ↓E_X7_shift_83, ↓E_X7_shift_86, ↓E_X7_shift_87, ↓E_X7_shift_88, ↓E_X7_shift_91, ↓E_X7_shift_92, ↓E_X7_shift_93, ↓E_X7_shift_96, ↓E_X7_shift_97, ↓E_X7_shift_98, ↓E_X7_shift_100, ↓E_X7_shift_101, ↓E_X7_shift_104, ↓E_X7_shift_106, ↓E_X7_shift_107, ↓E_X7_shift_110, ↓E_X7_shift_111, ↓E_X7_shift_112, ↓E_X7_shift_114, ↓E_X7_shift_115, ↓E_X7_shift_118, ↓E_X7_shift_120, ↓E_X7_shift_121, ↓E_X7_shift_122, ↓E_X7_shift_126, ↓E_X7_shift_128, ↓E_X7_shift_131, ↓E_X7_shift_132, ↓E_X7_shift_135, ↓E_X7_shift_137, ↓E_X7_shift_138, ↓E_X7_shift_141, ↓E_X7_shift_142, ↓E_X7_shift_143, ↓E_X7_shift_144, ↓E_X7_shift_146, ↓E_X7_shift_147, ↓E_X7_shift_148, ↓E_X7_shift_149, ↓E_X7_shift_152, ↓E_X7_shift_156, ↓E_X7_shift_158, ↓E_X7_shift_160, ↓E_X7_shift_162, ↓E_X7_shift_165, ↓E_X7_shift_166, ↓E_X7_shift_169, ↓E_X7_shift_170, ↓E_X7_shift_171, ↓E_X7_shift_173, ↓E_X7_shift_175, ↓E_X7_shift_176, ↓E_X7_shift_177, ↓E_X7_shift_180, ↓E_X7_shift_182, ↓E_X7_shift_183, ↓E_X7_shift_184, ↓E_X7_shift_187, ↓E_X7_shift_190, ↓E_X7_shift_192, leN, if_neg (show ¬ n ≤ k by omega), kd_15, ln_6, kd_11, ln_60, vin, clN, ptrM, or_true, nI_add, nI_1, cc_row]
    rw [mx_ucl]
    have e := cpy_s (f := τ (105 + t)) (g := τ 113) (sp := x) (dp := 0) (k := k)
    rw [Nat.zero_add] at e
    rw [e]
    exact ih (k + 1) (by omega)
set_option maxHeartbeats 2000000 in
theorem m_in {d t x u y n : Nat} {f : Nat → Nat → Int32} {τ : Nat → Nat → Int64} {q : mx_R} (hu : u < 6) (hn : y + n ≤ 60) : ∀ m k, k + m = n → (mx_run d m_X7_shift 158 [some (.ref 88), some (.int (nI t)), some (.int (nI x)), some (.int (nI u)), some (.int (nI y)), some (.int (nI n)), some (.int (nI k))] [] (f, mx_c τ (105 + u) (va_cpy (τ 113) (τ (105 + u)) 0 y k)) q ↔ q = (some (.int (nI n)), (f, mx_c τ (105 + u) (va_cpy (τ 113) (τ (105 + u)) 0 y n)))) := by
  intro m
  induction m with
  | zero =>
    intro k hk
    have e : k = n := by omega
    subst e
    rw [E_X7_shift_158]
    simp (disch := omega) only [true_and, and_true, and_self, exists_eq_left, Option.toList_some, Option.toList_none, List.cons_append, List.nil_append, List.append_nil, i2_i, i2_r, i2_n, nz0, nz1, true_or, or_true, Nat.reduceAdd, Nat.le_refl, Nat.reduceLT, Nat.reduceLeDiff, ↓E_X7_shift_0, ↓E_X7_shift_1, ↓E_X7_shift_4, ↓E_X7_shift_7, ↓E_X7_shift_8, ↓E_X7_shift_11, ↓E_X7_shift_14, ↓E_X7_shift_15, ↓E_X7_shift_16, ↓E_X7_shift_17, ↓E_X7_shift_20, ↓E_X7_shift_21, ↓E_X7_shift_22, ↓E_X7_shift_25, ↓E_X7_shift_26, ↓E_X7_shift_29, ↓E_X7_shift_30, ↓E_X7_shift_31, ↓E_X7_shift_34, ↓E_X7_shift_36, ↓E_X7_shift_37, ↓E_X7_shift_38, ↓E_X7_shift_41, ↓E_X7_shift_42, ↓E_X7_shift_43, ↓E_X7_shift_44, ↓E_X7_shift_47, ↓E_X7_shift_48, ↓E_X7_shift_49, ↓E_X7_shift_52, ↓E_X7_shift_54, ↓E_X7_shift_55, ↓E_X7_shift_57, ↓E_X7_shift_60, ↓E_X7_shift_61, ↓E_X7_shift_64, ↓E_X7_shift_66, ↓E_X7_shift_69, ↓E_X7_shift_71, ↓E_X7_shift_72, ↓E_X7_shift_75, ↓E_X7_shift_76, ↓E_X7_shift_77, ↓E_X7_shift_80, ↓E_X7_shift_82, ↓E_X7_shift_83, ↓E_X7_shift_86, ↓E_X7_shift_87, ↓E_X7_shift_88, ↓E_X7_shift_91, ↓E_X7_shift_92, ↓E_X7_shift_93, ↓E_X7_shift_96, ↓E_X7_shift_97, ↓E_X7_shift_98, ↓E_X7_shift_100, ↓E_X7_shift_101, ↓E_X7_shift_104, ↓E_X7_shift_106, ↓E_X7_shift_107, ↓E_X7_shift_110, ↓E_X7_shift_111, ↓E_X7_shift_112, ↓E_X7_shift_114, ↓E_X7_shift_115, ↓E_X7_shift_118, ↓E_X7_shift_120, ↓E_X7_shift_121, ↓E_X7_shift_122, ↓E_X7_shift_126, ↓E_X7_shift_128, ↓E_X7_shift_131, ↓E_X7_shift_132, ↓E_X7_shift_135, ↓E_X7_shift_137, ↓E_X7_shift_138, ↓E_X7_shift_141, ↓E_X7_shift_142, ↓E_X7_shift_143, ↓E_X7_shift_144, ↓E_X7_shift_146, ↓E_X7_shift_147, ↓E_X7_shift_148, ↓E_X7_shift_149, ↓E_X7_shift_152, ↓E_X7_shift_155, ↓E_X7_shift_156, ↓E_X7_shift_160, ↓E_X7_shift_162, ↓E_X7_shift_165, ↓E_X7_shift_166, ↓E_X7_shift_169, ↓E_X7_shift_170, ↓E_X7_shift_171, ↓E_X7_shift_173, ↓E_X7_shift_175, ↓E_X7_shift_176, ↓E_X7_shift_177, ↓E_X7_shift_180, ↓E_X7_shift_182, ↓E_X7_shift_183, ↓E_X7_shift_184, ↓E_X7_shift_187, ↓E_X7_shift_190, ↓E_X7_shift_192, leN, if_true]
  | succ m ih =>
    intro k hk
    rw [E_X7_shift_158]
    simp (disch := omega) only [true_and, and_true, and_self, exists_eq_left, Option.toList_some, Option.toList_none, List.cons_append, List.nil_append, List.append_nil, i2_i, i2_r, i2_n, nz0, nz1, true_or, or_true, Nat.reduceAdd, Nat.le_refl, Nat.reduceLT, Nat.reduceLeDiff, ↓E_X7_shift_0, ↓E_X7_shift_1, ↓E_X7_shift_4, ↓E_X7_shift_7, ↓E_X7_shift_8, ↓E_X7_shift_11, ↓E_X7_shift_14, ↓E_X7_shift_15, ↓E_X7_shift_16, ↓E_X7_shift_17, ↓E_X7_shift_20, ↓E_X7_shift_21, ↓E_X7_shift_22, ↓E_X7_shift_25, ↓E_X7_shift_26, ↓E_X7_shift_29, ↓E_X7_shift_30, ↓E_X7_shift_31, ↓E_X7_shift_34, ↓E_X7_shift_36, ↓E_X7_shift_37, ↓E_X7_shift_38, ↓E_X7_shift_41, ↓E_X7_shift_42, ↓E_X7_shift_43, ↓E_X7_shift_44, ↓E_X7_shift_47, ↓E_X7_shift_48, ↓E_X7_shift_49, ↓E_X7_shift_52, ↓E_X7_shift_54, ↓E_X7_shift_55, ↓E_X7_shift_57, ↓E_X7_shift_60, ↓E_X7_shift_61, ↓E_X7_shift_64, ↓E_X7_shift_66, ↓E_X7_shift_69, ↓E_X7_shift_71, ↓E_X7_shift_72, ↓E_X7_shift_75, ↓E_X7_shift_76, ↓E_X7_shift_77, ↓E_X7_shift_80, ↓E_X7_shift_82, ↓E_X7_shift_83, ↓E_X7_shift_86, ↓E_X7_shift_87, ↓E_X7_shift_88, ↓E_X7_shift_91, ↓E_X7_shift_92, ↓E_X7_shift_93, ↓E_X7_shift_96, ↓E_X7_shift_97, ↓E_X7_shift_98, ↓E_X7_shift_100, ↓E_X7_shift_101, ↓E_X7_shift_104, ↓E_X7_shift_106, ↓E_X7_shift_107, ↓E_X7_shift_110, ↓E_X7_shift_111, ↓E_X7_shift_112, ↓E_X7_shift_114, ↓E_X7_shift_115, ↓E_X7_shift_118, ↓E_X7_shift_120, ↓E_X7_shift_121, ↓E_X7_shift_122, ↓E_X7_shift_126, ↓E_X7_shift_128, ↓E_X7_shift_131, ↓E_X7_shift_132, ↓E_X7_shift_135, ↓E_X7_shift_137, ↓E_X7_shift_138, ↓E_X7_shift_141, ↓E_X7_shift_142, ↓E_X7_shift_143, ↓E_X7_shift_144, ↓E_X7_shift_146, ↓E_X7_shift_147, ↓E_X7_shift_148, ↓E_X7_shift_149, ↓E_X7_shift_152, ↓E_X7_shift_155, ↓E_X7_shift_156, ↓E_X7_shift_160, ↓E_X7_shift_162, ↓E_X7_shift_165, ↓E_X7_shift_166, ↓E_X7_shift_169, ↓E_X7_shift_170, ↓E_X7_shift_171, ↓E_X7_shift_173, ↓E_X7_shift_175, ↓E_X7_shift_176, ↓E_X7_shift_177, ↓E_X7_shift_180, ↓E_X7_shift_182, ↓E_X7_shift_183, ↓E_X7_shift_184, ↓E_X7_shift_187, ↓E_X7_shift_190, ↓E_X7_shift_192, leN, if_neg (show ¬ n ≤ k by omega), kd_15, ln_6, kd_11, ln_60, vin, clN, ptrM, or_true, nI_add, nI_1, cc_row]
    rw [mx_ucl]
    have e := cpy_s (f := τ 113) (g := τ (105 + u)) (sp := 0) (dp := y) (k := k)
    rw [Nat.zero_add] at e
    rw [e]
    exact ih (k + 1) (by omega)
theorem runI2 {n i j : Int32} {s u : Nat} : (runI n i s && runI n j u) = decide (0 ≤ n.toInt ∧ 0 ≤ i.toInt ∧ 0 ≤ j.toInt ∧ n.toInt + i.toInt ≤ s ∧ n.toInt + j.toInt ≤ u) := by
  unfold runI
  rw [Bool.eq_iff_iff]
  simp only [Bool.and_eq_true, decide_eq_true_eq]
  omega
set_option maxHeartbeats 4000000 in
theorem M_shift {d : Nat} {σ : mx_S} {w : Vw} {a i b j n : Int32} (hw : vwM w σ) : ∃ σ', mx_call (d + 3) m_X7_shift [.ref 88, .int a, .int i, .int b, .int j, .int n] σ (some (.int (F_shift w a i b j n).1), σ') ∧ vwM (F_shift w a i b j n).2 σ' ∧ loS σ σ' := by
  generalize hF : F_shift w a i b j n = R
  simp (disch := omega) only [C_X7_shift, true_and, and_true, and_self, exists_eq_left, Option.toList_some, Option.toList_none, List.cons_append, List.nil_append, List.append_nil, i2_i, i2_r, i2_n, nz0, nz1, true_or, or_true, Nat.reduceAdd, Nat.le_refl, Nat.reduceLT, Nat.reduceLeDiff, ↓E_X7_shift_0, ↓E_X7_shift_1, ↓E_X7_shift_4, ↓E_X7_shift_7, ↓E_X7_shift_8, ↓E_X7_shift_11, ↓E_X7_shift_14, ↓E_X7_shift_15, ↓E_X7_shift_17, ↓E_X7_shift_20, ↓E_X7_shift_21, ↓E_X7_shift_22, ↓E_X7_shift_25, ↓E_X7_shift_26, ↓E_X7_shift_29, ↓E_X7_shift_30, ↓E_X7_shift_31, ↓E_X7_shift_34, ↓E_X7_shift_36, ↓E_X7_shift_37, ↓E_X7_shift_38, ↓E_X7_shift_41, ↓E_X7_shift_42, ↓E_X7_shift_43, ↓E_X7_shift_44, ↓E_X7_shift_47, ↓E_X7_shift_48, ↓E_X7_shift_49, ↓E_X7_shift_52, ↓E_X7_shift_54, ↓E_X7_shift_55, ↓E_X7_shift_57, ↓E_X7_shift_60, ↓E_X7_shift_61, ↓E_X7_shift_64, ↓E_X7_shift_66, ↓E_X7_shift_69, ↓E_X7_shift_71, ↓E_X7_shift_72, ↓E_X7_shift_75, ↓E_X7_shift_76, ↓E_X7_shift_77, ↓E_X7_shift_80, ↓E_X7_shift_82, ↓E_X7_shift_83, ↓E_X7_shift_86, ↓E_X7_shift_87, ↓E_X7_shift_88, ↓E_X7_shift_91, ↓E_X7_shift_92, ↓E_X7_shift_93, ↓E_X7_shift_96, ↓E_X7_shift_97, ↓E_X7_shift_98, ↓E_X7_shift_100, ↓E_X7_shift_101, ↓E_X7_shift_104, ↓E_X7_shift_106, ↓E_X7_shift_107, ↓E_X7_shift_110, ↓E_X7_shift_111, ↓E_X7_shift_112, ↓E_X7_shift_114, ↓E_X7_shift_115, ↓E_X7_shift_118, ↓E_X7_shift_120, ↓E_X7_shift_121, ↓E_X7_shift_122, ↓E_X7_shift_124, ↓E_X7_shift_126, ↓E_X7_shift_128, ↓E_X7_shift_131, ↓E_X7_shift_132, ↓E_X7_shift_135, ↓E_X7_shift_137, ↓E_X7_shift_138, ↓E_X7_shift_141, ↓E_X7_shift_142, ↓E_X7_shift_143, ↓E_X7_shift_144, ↓E_X7_shift_146, ↓E_X7_shift_147, ↓E_X7_shift_148, ↓E_X7_shift_149, ↓E_X7_shift_152, ↓E_X7_shift_155, ↓E_X7_shift_156, ↓E_X7_shift_158, ↓E_X7_shift_160, ↓E_X7_shift_162, ↓E_X7_shift_165, ↓E_X7_shift_166, ↓E_X7_shift_169, ↓E_X7_shift_170, ↓E_X7_shift_171, ↓E_X7_shift_173, ↓E_X7_shift_175, ↓E_X7_shift_176, ↓E_X7_shift_177, ↓E_X7_shift_180, ↓E_X7_shift_182, ↓E_X7_shift_183, ↓E_X7_shift_184, ↓E_X7_shift_187, ↓E_X7_shift_190, ↓E_X7_shift_192, m_isTape, bz_0]
  unfold F_shift at hF
  by_cases e0 : ibI a 6 = false
  · simp only [if_pos e0, e0, Bool.false_and, if_true] at hF ⊢
    subst hF
    exact ⟨σ, rfl, hw, loS.rf⟩
  by_cases e1 : ibI b 6 = false
  · simp only [if_neg e0, if_pos e1, e1, Bool.and_false, if_true] at hF ⊢
    subst hF
    exact ⟨σ, rfl, hw, loS.rf⟩
  have e01 : ¬ (ibI a 6 && ibI b 6) = false := by rw [eq_true_of_ne_false e0, eq_true_of_ne_false e1]; decide
  obtain ⟨ha, ha2, ha3⟩ := ibI_of (eq_true_of_ne_false e0)
  obtain ⟨hb, hb2, hb3⟩ := ibI_of (eq_true_of_ne_false e1)
  simp only [if_neg e0, if_neg e1, if_neg e01] at hF ⊢
  generalize ixI a = t at *
  generalize ixI b = u at *
  subst ha
  subst hb
  obtain ⟨T1, T2, T3, T4⟩ := tapM_at hw ha2
  obtain ⟨U1, U2, U3, U4⟩ := tapM_at hw hb2
  obtain ⟨t1, t2⟩ := okT_sg (hw.1.2.2.2 t ha2)
  obtain ⟨u1, u2⟩ := okT_sg (hw.1.2.2.2 u hb2)
  simp (disch := omega) only [true_and, and_true, and_self, exists_eq_left, Option.toList_some, Option.toList_none, List.cons_append, List.nil_append, List.append_nil, i2_i, i2_r, i2_n, nz0, nz1, true_or, or_true, Nat.reduceAdd, Nat.le_refl, Nat.reduceLT, Nat.reduceLeDiff, ↓E_X7_shift_0, ↓E_X7_shift_1, ↓E_X7_shift_4, ↓E_X7_shift_7, ↓E_X7_shift_8, ↓E_X7_shift_11, ↓E_X7_shift_14, ↓E_X7_shift_15, ↓E_X7_shift_16, ↓E_X7_shift_17, ↓E_X7_shift_20, ↓E_X7_shift_21, ↓E_X7_shift_22, ↓E_X7_shift_25, ↓E_X7_shift_26, ↓E_X7_shift_29, ↓E_X7_shift_30, ↓E_X7_shift_31, ↓E_X7_shift_34, ↓E_X7_shift_36, ↓E_X7_shift_37, ↓E_X7_shift_38, ↓E_X7_shift_41, ↓E_X7_shift_42, ↓E_X7_shift_43, ↓E_X7_shift_44, ↓E_X7_shift_47, ↓E_X7_shift_48, ↓E_X7_shift_49, ↓E_X7_shift_52, ↓E_X7_shift_54, ↓E_X7_shift_57, ↓E_X7_shift_60, ↓E_X7_shift_61, ↓E_X7_shift_64, ↓E_X7_shift_66, ↓E_X7_shift_69, ↓E_X7_shift_71, ↓E_X7_shift_72, ↓E_X7_shift_75, ↓E_X7_shift_76, ↓E_X7_shift_77, ↓E_X7_shift_80, ↓E_X7_shift_82, ↓E_X7_shift_83, ↓E_X7_shift_86, ↓E_X7_shift_87, ↓E_X7_shift_88, ↓E_X7_shift_91, ↓E_X7_shift_92, ↓E_X7_shift_93, ↓E_X7_shift_96, ↓E_X7_shift_97, ↓E_X7_shift_98, ↓E_X7_shift_100, ↓E_X7_shift_101, ↓E_X7_shift_104, ↓E_X7_shift_106, ↓E_X7_shift_107, ↓E_X7_shift_110, ↓E_X7_shift_111, ↓E_X7_shift_112, ↓E_X7_shift_114, ↓E_X7_shift_115, ↓E_X7_shift_118, ↓E_X7_shift_120, ↓E_X7_shift_121, ↓E_X7_shift_122, ↓E_X7_shift_124, ↓E_X7_shift_126, ↓E_X7_shift_128, ↓E_X7_shift_131, ↓E_X7_shift_132, ↓E_X7_shift_135, ↓E_X7_shift_137, ↓E_X7_shift_138, ↓E_X7_shift_141, ↓E_X7_shift_142, ↓E_X7_shift_143, ↓E_X7_shift_144, ↓E_X7_shift_146, ↓E_X7_shift_147, ↓E_X7_shift_148, ↓E_X7_shift_149, ↓E_X7_shift_152, ↓E_X7_shift_155, ↓E_X7_shift_156, ↓E_X7_shift_158, ↓E_X7_shift_160, ↓E_X7_shift_162, ↓E_X7_shift_165, ↓E_X7_shift_166, ↓E_X7_shift_169, ↓E_X7_shift_170, ↓E_X7_shift_171, ↓E_X7_shift_173, ↓E_X7_shift_175, ↓E_X7_shift_176, ↓E_X7_shift_177, ↓E_X7_shift_180, ↓E_X7_shift_182, ↓E_X7_shift_183, ↓E_X7_shift_184, ↓E_X7_shift_187, ↓E_X7_shift_190, ↓E_X7_shift_192, kd_8, ln_6, vin, clN, T1, U1, t1, t2, u1, u2]
  by_cases e2 : (w.2.2.2 t).1 = -1
  · simp only [if_pos e2, if_pos (Or.inl e2 : (w.2.2.2 t).1 = -1 ∨ (w.2.2.2 u).1 = -1)] at hF ⊢
    subst hF
    exact ⟨σ, rfl, hw, loS.rf⟩
  by_cases e3 : (w.2.2.2 u).1 = -1
  · simp only [if_neg e2, if_pos e3, if_neg (fun z : ¬ (w.2.2.2 u).1 = -1 => z e3), if_pos (Or.inr e3 : (w.2.2.2 t).1 = -1 ∨ (w.2.2.2 u).1 = -1)] at hF ⊢
    subst hF
    exact ⟨σ, rfl, hw, loS.rf⟩
  have e23 : ¬ ((w.2.2.2 t).1 = -1 ∨ (w.2.2.2 u).1 = -1) := fun z => z.elim e2 e3
  simp only [if_neg e2, if_neg e3, if_pos e3, if_neg e23] at hF ⊢
  by_cases e4 : (w.2.2.2 t).1 = (w.2.2.2 u).1
  · have n4 : ¬ ¬ (w.2.2.2 t).1 = (w.2.2.2 u).1 := fun z => z e4
    simp only [if_pos e4, if_neg n4] at hF ⊢
    rw [runI2] at hF
    have bad : ¬ (0 ≤ n.toInt ∧ 0 ≤ i.toInt ∧ 0 ≤ j.toInt ∧ n.toInt + i.toInt ≤ (w.2.2.2 t).2.1 ∧ n.toInt + j.toInt ≤ (w.2.2.2 u).2.1) → (-13, w) = R := fun z => by
      rw [decide_eq_false z] at hF
      exact hF
    have fin : (-13, w) = R → ∃ σ' : mx_S, (some (Value.int (-13)), σ) = (some (Value.int R.1), σ') ∧ vwM R.2 σ' ∧ loS σ σ' := fun z => by
      subst z
      exact ⟨σ, rfl, hw, loS.rf⟩
    have nt := nI_toInt (n := (w.2.2.2 t).2.1) (by omega)
    have nu := nI_toInt (n := (w.2.2.2 u).2.1) (by omega)
    simp (disch := omega) only [true_and, and_true, and_self, exists_eq_left, Option.toList_some, Option.toList_none, List.cons_append, List.nil_append, List.append_nil, i2_i, i2_r, i2_n, nz0, nz1, true_or, or_true, Nat.reduceAdd, Nat.le_refl, Nat.reduceLT, Nat.reduceLeDiff, ↓E_X7_shift_0, ↓E_X7_shift_1, ↓E_X7_shift_4, ↓E_X7_shift_7, ↓E_X7_shift_8, ↓E_X7_shift_11, ↓E_X7_shift_14, ↓E_X7_shift_15, ↓E_X7_shift_16, ↓E_X7_shift_17, ↓E_X7_shift_20, ↓E_X7_shift_21, ↓E_X7_shift_22, ↓E_X7_shift_25, ↓E_X7_shift_26, ↓E_X7_shift_29, ↓E_X7_shift_30, ↓E_X7_shift_31, ↓E_X7_shift_34, ↓E_X7_shift_36, ↓E_X7_shift_37, ↓E_X7_shift_38, ↓E_X7_shift_41, ↓E_X7_shift_42, ↓E_X7_shift_43, ↓E_X7_shift_44, ↓E_X7_shift_47, ↓E_X7_shift_48, ↓E_X7_shift_49, ↓E_X7_shift_52, ↓E_X7_shift_54, ↓E_X7_shift_55, ↓E_X7_shift_57, ↓E_X7_shift_60, ↓E_X7_shift_61, ↓E_X7_shift_64, ↓E_X7_shift_66, ↓E_X7_shift_71, ↓E_X7_shift_72, ↓E_X7_shift_75, ↓E_X7_shift_76, ↓E_X7_shift_77, ↓E_X7_shift_80, ↓E_X7_shift_82, ↓E_X7_shift_83, ↓E_X7_shift_86, ↓E_X7_shift_87, ↓E_X7_shift_88, ↓E_X7_shift_91, ↓E_X7_shift_92, ↓E_X7_shift_93, ↓E_X7_shift_96, ↓E_X7_shift_97, ↓E_X7_shift_98, ↓E_X7_shift_100, ↓E_X7_shift_101, ↓E_X7_shift_104, ↓E_X7_shift_106, ↓E_X7_shift_107, ↓E_X7_shift_110, ↓E_X7_shift_111, ↓E_X7_shift_112, ↓E_X7_shift_114, ↓E_X7_shift_115, ↓E_X7_shift_118, ↓E_X7_shift_120, ↓E_X7_shift_121, ↓E_X7_shift_122, ↓E_X7_shift_124, ↓E_X7_shift_126, ↓E_X7_shift_128, ↓E_X7_shift_131, ↓E_X7_shift_132, ↓E_X7_shift_135, ↓E_X7_shift_137, ↓E_X7_shift_138, ↓E_X7_shift_141, ↓E_X7_shift_142, ↓E_X7_shift_143, ↓E_X7_shift_144, ↓E_X7_shift_146, ↓E_X7_shift_147, ↓E_X7_shift_148, ↓E_X7_shift_149, ↓E_X7_shift_152, ↓E_X7_shift_155, ↓E_X7_shift_156, ↓E_X7_shift_158, ↓E_X7_shift_160, ↓E_X7_shift_162, ↓E_X7_shift_165, ↓E_X7_shift_166, ↓E_X7_shift_169, ↓E_X7_shift_170, ↓E_X7_shift_171, ↓E_X7_shift_173, ↓E_X7_shift_175, ↓E_X7_shift_176, ↓E_X7_shift_177, ↓E_X7_shift_180, ↓E_X7_shift_182, ↓E_X7_shift_183, ↓E_X7_shift_184, ↓E_X7_shift_187, ↓E_X7_shift_190, ↓E_X7_shift_192, lt0, le0]
    by_cases a1 : n.toInt < 0
    · simp only [if_pos a1, if_neg (show ¬ 0 ≤ n.toInt by omega)]
      obtain ⟨σ', h1, h2⟩ := fin (bad (by omega))
      exact ⟨σ', h1.symm, h2⟩
    simp only [if_neg a1, if_pos (show 0 ≤ n.toInt by omega)]
    by_cases a2 : i.toInt < 0
    · simp only [if_pos a2, if_neg (show ¬ 0 ≤ i.toInt by omega)]
      obtain ⟨σ', h1, h2⟩ := fin (bad (by omega))
      exact ⟨σ', h1.symm, h2⟩
    simp only [if_neg a2, if_pos (show 0 ≤ i.toInt by omega)]
    by_cases a3 : j.toInt < 0
    · simp only [if_pos a3, if_neg (show ¬ 0 ≤ j.toInt by omega)]
      obtain ⟨σ', h1, h2⟩ := fin (bad (by omega))
      exact ⟨σ', h1.symm, h2⟩
    simp only [if_neg a3, if_pos (show 0 ≤ j.toInt by omega)]
    simp (disch := omega) only [true_and, and_true, and_self, exists_eq_left, Option.toList_some, Option.toList_none, List.cons_append, List.nil_append, List.append_nil, i2_i, i2_r, i2_n, nz0, nz1, true_or, or_true, Nat.reduceAdd, Nat.le_refl, Nat.reduceLT, Nat.reduceLeDiff, ↓E_X7_shift_0, ↓E_X7_shift_1, ↓E_X7_shift_4, ↓E_X7_shift_7, ↓E_X7_shift_8, ↓E_X7_shift_11, ↓E_X7_shift_14, ↓E_X7_shift_15, ↓E_X7_shift_16, ↓E_X7_shift_17, ↓E_X7_shift_20, ↓E_X7_shift_21, ↓E_X7_shift_22, ↓E_X7_shift_25, ↓E_X7_shift_26, ↓E_X7_shift_29, ↓E_X7_shift_30, ↓E_X7_shift_31, ↓E_X7_shift_34, ↓E_X7_shift_36, ↓E_X7_shift_37, ↓E_X7_shift_38, ↓E_X7_shift_41, ↓E_X7_shift_42, ↓E_X7_shift_43, ↓E_X7_shift_44, ↓E_X7_shift_47, ↓E_X7_shift_48, ↓E_X7_shift_49, ↓E_X7_shift_52, ↓E_X7_shift_54, ↓E_X7_shift_55, ↓E_X7_shift_57, ↓E_X7_shift_60, ↓E_X7_shift_61, ↓E_X7_shift_64, ↓E_X7_shift_66, ↓E_X7_shift_69, ↓E_X7_shift_71, ↓E_X7_shift_72, ↓E_X7_shift_75, ↓E_X7_shift_76, ↓E_X7_shift_77, ↓E_X7_shift_80, ↓E_X7_shift_82, ↓E_X7_shift_83, ↓E_X7_shift_86, ↓E_X7_shift_87, ↓E_X7_shift_88, ↓E_X7_shift_92, ↓E_X7_shift_93, ↓E_X7_shift_96, ↓E_X7_shift_97, ↓E_X7_shift_98, ↓E_X7_shift_100, ↓E_X7_shift_101, ↓E_X7_shift_104, ↓E_X7_shift_106, ↓E_X7_shift_107, ↓E_X7_shift_110, ↓E_X7_shift_111, ↓E_X7_shift_112, ↓E_X7_shift_114, ↓E_X7_shift_115, ↓E_X7_shift_118, ↓E_X7_shift_120, ↓E_X7_shift_121, ↓E_X7_shift_122, ↓E_X7_shift_124, ↓E_X7_shift_126, ↓E_X7_shift_128, ↓E_X7_shift_131, ↓E_X7_shift_132, ↓E_X7_shift_135, ↓E_X7_shift_137, ↓E_X7_shift_138, ↓E_X7_shift_141, ↓E_X7_shift_142, ↓E_X7_shift_143, ↓E_X7_shift_144, ↓E_X7_shift_146, ↓E_X7_shift_147, ↓E_X7_shift_148, ↓E_X7_shift_149, ↓E_X7_shift_152, ↓E_X7_shift_155, ↓E_X7_shift_156, ↓E_X7_shift_158, ↓E_X7_shift_160, ↓E_X7_shift_162, ↓E_X7_shift_165, ↓E_X7_shift_166, ↓E_X7_shift_169, ↓E_X7_shift_170, ↓E_X7_shift_171, ↓E_X7_shift_173, ↓E_X7_shift_175, ↓E_X7_shift_176, ↓E_X7_shift_177, ↓E_X7_shift_180, ↓E_X7_shift_182, ↓E_X7_shift_183, ↓E_X7_shift_184, ↓E_X7_shift_187, ↓E_X7_shift_190, ↓E_X7_shift_192, kd_8, ln_6, vin, clN, T2, U2, l32, le32, nt, nu]
    by_cases a4 : ((w.2.2.2 t).2.1 : Int) < n.toInt
    · simp only [if_pos a4, if_neg (show ¬ n.toInt ≤ ((w.2.2.2 t).2.1 : Int) by omega)]
      obtain ⟨σ', h1, h2⟩ := fin (bad (by omega))
      exact ⟨σ', h1.symm, h2⟩
    simp only [if_neg a4, if_pos (show n.toInt ≤ ((w.2.2.2 t).2.1 : Int) by omega)]
    by_cases a5 : ((w.2.2.2 u).2.1 : Int) < n.toInt
    · simp only [if_pos a5, if_neg (show ¬ n.toInt ≤ ((w.2.2.2 u).2.1 : Int) by omega)]
      obtain ⟨σ', h1, h2⟩ := fin (bad (by omega))
      exact ⟨σ', h1.symm, h2⟩
    simp only [if_neg a5, if_pos (show n.toInt ≤ ((w.2.2.2 u).2.1 : Int) by omega)]
    obtain ⟨g1, g2, g3⟩ := inI_of (x := n) (m := 60) (by simp [inI]; omega)
    have sb : ∀ s : Nat, s ≤ 60 → (nI s - n).toInt = (s : Int) - n.toInt := by
      intro s hs
      generalize ixI n = k at *
      subst g1
      rw [nI_toInt (by omega)]
      exact pk_sub_toInt (by omega) (by omega)
    simp (disch := omega) only [true_and, and_true, and_self, exists_eq_left, Option.toList_some, Option.toList_none, List.cons_append, List.nil_append, List.append_nil, i2_i, i2_r, i2_n, nz0, nz1, true_or, or_true, Nat.reduceAdd, Nat.le_refl, Nat.reduceLT, Nat.reduceLeDiff, ↓E_X7_shift_0, ↓E_X7_shift_1, ↓E_X7_shift_4, ↓E_X7_shift_7, ↓E_X7_shift_8, ↓E_X7_shift_11, ↓E_X7_shift_14, ↓E_X7_shift_15, ↓E_X7_shift_16, ↓E_X7_shift_17, ↓E_X7_shift_20, ↓E_X7_shift_21, ↓E_X7_shift_22, ↓E_X7_shift_25, ↓E_X7_shift_26, ↓E_X7_shift_29, ↓E_X7_shift_30, ↓E_X7_shift_31, ↓E_X7_shift_34, ↓E_X7_shift_36, ↓E_X7_shift_37, ↓E_X7_shift_38, ↓E_X7_shift_41, ↓E_X7_shift_42, ↓E_X7_shift_43, ↓E_X7_shift_44, ↓E_X7_shift_47, ↓E_X7_shift_48, ↓E_X7_shift_49, ↓E_X7_shift_52, ↓E_X7_shift_54, ↓E_X7_shift_55, ↓E_X7_shift_57, ↓E_X7_shift_60, ↓E_X7_shift_61, ↓E_X7_shift_64, ↓E_X7_shift_66, ↓E_X7_shift_69, ↓E_X7_shift_71, ↓E_X7_shift_72, ↓E_X7_shift_75, ↓E_X7_shift_76, ↓E_X7_shift_77, ↓E_X7_shift_80, ↓E_X7_shift_82, ↓E_X7_shift_83, ↓E_X7_shift_86, ↓E_X7_shift_87, ↓E_X7_shift_88, ↓E_X7_shift_91, ↓E_X7_shift_92, ↓E_X7_shift_93, ↓E_X7_shift_96, ↓E_X7_shift_97, ↓E_X7_shift_98, ↓E_X7_shift_100, ↓E_X7_shift_101, ↓E_X7_shift_104, ↓E_X7_shift_106, ↓E_X7_shift_107, ↓E_X7_shift_110, ↓E_X7_shift_111, ↓E_X7_shift_112, ↓E_X7_shift_114, ↓E_X7_shift_115, ↓E_X7_shift_118, ↓E_X7_shift_120, ↓E_X7_shift_122, ↓E_X7_shift_124, ↓E_X7_shift_126, ↓E_X7_shift_128, ↓E_X7_shift_131, ↓E_X7_shift_132, ↓E_X7_shift_135, ↓E_X7_shift_137, ↓E_X7_shift_138, ↓E_X7_shift_141, ↓E_X7_shift_142, ↓E_X7_shift_143, ↓E_X7_shift_144, ↓E_X7_shift_146, ↓E_X7_shift_147, ↓E_X7_shift_148, ↓E_X7_shift_149, ↓E_X7_shift_152, ↓E_X7_shift_155, ↓E_X7_shift_156, ↓E_X7_shift_158, ↓E_X7_shift_160, ↓E_X7_shift_162, ↓E_X7_shift_165, ↓E_X7_shift_166, ↓E_X7_shift_169, ↓E_X7_shift_170, ↓E_X7_shift_171, ↓E_X7_shift_173, ↓E_X7_shift_175, ↓E_X7_shift_176, ↓E_X7_shift_177, ↓E_X7_shift_180, ↓E_X7_shift_182, ↓E_X7_shift_183, ↓E_X7_shift_184, ↓E_X7_shift_187, ↓E_X7_shift_190, ↓E_X7_shift_192, kd_8, ln_6, vin, clN, T2, U2, l32, le32, sb]
    by_cases a6 : ((w.2.2.2 t).2.1 : Int) - n.toInt < i.toInt
    · simp only [if_pos a6, if_neg (show ¬ i.toInt ≤ ((w.2.2.2 t).2.1 : Int) - n.toInt by omega)]
      obtain ⟨σ', h1, h2⟩ := fin (bad (by omega))
      exact ⟨σ', h1.symm, h2⟩
    simp only [if_neg a6, if_pos (show i.toInt ≤ ((w.2.2.2 t).2.1 : Int) - n.toInt by omega)]
    by_cases a7 : ((w.2.2.2 u).2.1 : Int) - n.toInt < j.toInt
    · simp only [if_pos a7, if_neg (show ¬ j.toInt ≤ ((w.2.2.2 u).2.1 : Int) - n.toInt by omega)]
      obtain ⟨σ', h1, h2⟩ := fin (bad (by omega))
      exact ⟨σ', h1.symm, h2⟩
    simp only [if_neg a7, if_pos (show j.toInt ≤ ((w.2.2.2 u).2.1 : Int) - n.toInt by omega)]
    rw [decide_eq_true (show 0 ≤ n.toInt ∧ 0 ≤ i.toInt ∧ 0 ≤ j.toInt ∧ n.toInt + i.toInt ≤ (w.2.2.2 t).2.1 ∧ n.toInt + j.toInt ≤ (w.2.2.2 u).2.1 by omega)] at hF
    simp only [if_neg (show ¬ true = false by decide)] at hF
    obtain ⟨k1, k2, k3⟩ := inI_of (x := i) (m := 60) (by simp [inI]; omega)
    obtain ⟨m1, m2, m3⟩ := inI_of (x := j) (m := 60) (by simp [inI]; omega)
    have q1 : ixI n + ixI i ≤ (w.2.2.2 t).2.1 := by unfold ixI; omega
    have q2 : ixI n + ixI j ≤ (w.2.2.2 u).2.1 := by unfold ixI; omega
    clear sb bad fin a1 a2 a3 a4 a5 a6 a7
    generalize ixI n = k at *
    generalize ixI i = x at *
    generalize ixI j = y at *
    subst g1
    subst k1
    subst m1
    have r1 := fun q => m_out (d := d + 2) (t := t) (x := x) (u := u) (y := y) (n := k) (f := σ.1) (τ := σ.2) (q := q) ha2 (by omega) k 0 (by omega)
    have r2 := fun q => m_in (d := d + 2) (t := t) (x := x) (u := u) (y := y) (n := k) (f := σ.1) (τ := mx_c σ.2 113 (va_cpy (σ.2 (105 + t)) (σ.2 113) x 0 k)) (q := q) hb2 (by omega) k 0 (by omega)
    simp only [cpy_0, mx_c_id] at r1 r2
    have r1' : ∀ q, mx_run (d + 2) m_X7_shift 124 [some (.ref 88), some (.int (nI t)), some (.int (nI x)), some (.int (nI u)), some (.int (nI y)), some (.int (nI k)), some (.int 0)] [] σ q ↔ _ := r1
    have r2' : ∀ q, mx_run (d + 2) m_X7_shift 158 [some (.ref 88), some (.int (nI t)), some (.int (nI x)), some (.int (nI u)), some (.int (nI y)), some (.int (nI k)), some (.int 0)] [] (σ.1, mx_c σ.2 113 (va_cpy (σ.2 (105 + t)) (σ.2 113) x 0 k)) q ↔ _ := r2
    simp (disch := omega) only [true_and, and_true, and_self, exists_eq_left, Option.toList_some, Option.toList_none, List.cons_append, List.nil_append, List.append_nil, i2_i, i2_r, i2_n, nz0, nz1, true_or, or_true, Nat.reduceAdd, Nat.le_refl, Nat.reduceLT, Nat.reduceLeDiff, ↓E_X7_shift_0, ↓E_X7_shift_1, ↓E_X7_shift_4, ↓E_X7_shift_7, ↓E_X7_shift_8, ↓E_X7_shift_11, ↓E_X7_shift_14, ↓E_X7_shift_15, ↓E_X7_shift_16, ↓E_X7_shift_17, ↓E_X7_shift_20, ↓E_X7_shift_21, ↓E_X7_shift_22, ↓E_X7_shift_25, ↓E_X7_shift_26, ↓E_X7_shift_29, ↓E_X7_shift_30, ↓E_X7_shift_31, ↓E_X7_shift_34, ↓E_X7_shift_36, ↓E_X7_shift_37, ↓E_X7_shift_38, ↓E_X7_shift_41, ↓E_X7_shift_42, ↓E_X7_shift_43, ↓E_X7_shift_44, ↓E_X7_shift_47, ↓E_X7_shift_48, ↓E_X7_shift_49, ↓E_X7_shift_52, ↓E_X7_shift_54, ↓E_X7_shift_55, ↓E_X7_shift_57, ↓E_X7_shift_60, ↓E_X7_shift_61, ↓E_X7_shift_64, ↓E_X7_shift_66, ↓E_X7_shift_69, ↓E_X7_shift_71, ↓E_X7_shift_72, ↓E_X7_shift_75, ↓E_X7_shift_76, ↓E_X7_shift_77, ↓E_X7_shift_80, ↓E_X7_shift_82, ↓E_X7_shift_83, ↓E_X7_shift_86, ↓E_X7_shift_87, ↓E_X7_shift_88, ↓E_X7_shift_91, ↓E_X7_shift_92, ↓E_X7_shift_93, ↓E_X7_shift_96, ↓E_X7_shift_97, ↓E_X7_shift_98, ↓E_X7_shift_100, ↓E_X7_shift_101, ↓E_X7_shift_104, ↓E_X7_shift_106, ↓E_X7_shift_107, ↓E_X7_shift_110, ↓E_X7_shift_111, ↓E_X7_shift_112, ↓E_X7_shift_114, ↓E_X7_shift_115, ↓E_X7_shift_118, ↓E_X7_shift_120, ↓E_X7_shift_121, ↓E_X7_shift_122, ↓E_X7_shift_126, ↓E_X7_shift_128, ↓E_X7_shift_131, ↓E_X7_shift_132, ↓E_X7_shift_135, ↓E_X7_shift_137, ↓E_X7_shift_138, ↓E_X7_shift_141, ↓E_X7_shift_142, ↓E_X7_shift_143, ↓E_X7_shift_144, ↓E_X7_shift_146, ↓E_X7_shift_147, ↓E_X7_shift_148, ↓E_X7_shift_149, ↓E_X7_shift_152, ↓E_X7_shift_155, ↓E_X7_shift_156, ↓E_X7_shift_160, ↓E_X7_shift_162, ↓E_X7_shift_165, ↓E_X7_shift_166, ↓E_X7_shift_169, ↓E_X7_shift_170, ↓E_X7_shift_171, ↓E_X7_shift_173, ↓E_X7_shift_175, ↓E_X7_shift_176, ↓E_X7_shift_177, ↓E_X7_shift_180, ↓E_X7_shift_182, ↓E_X7_shift_183, ↓E_X7_shift_184, ↓E_X7_shift_187, ↓E_X7_shift_190, ↓E_X7_shift_192, r1', r2']
    subst hF
    refine ⟨_, rfl, vwM_tp hw (Or.inr (okT_m1 (hw.1.2.2.2 u hb2) e3)) U1 U2 ?_ (fun u hu => rfl) (fun u hu => rfl) (fun i h1 h2 => rfl) (fun i h1 h2 => by simp (disch := omega) only [mx_c_ne]), fun i hi => ⟨rfl, by simp (disch := omega) only [mx_c_ne]⟩⟩
    intro z hz
    simp (disch := omega) only [cc_same, cc_row, va_cpy]
    by_cases hc : y ≤ z ∧ z < y + k
    · rw [if_pos hc, if_pos hc, if_pos (by omega), show 0 + (z - y) - 0 = z - y by omega]
      exact T3 _ (by omega)
    · rw [if_neg hc, if_neg hc]; exact U3 z hz
  · simp only [if_neg e4, if_pos e4] at hF ⊢
    subst hF
    exact ⟨σ, rfl, hw, loS.rf⟩
