/-! ===== the reference: seen, odds ===== -/
theorem se_P {V' : Nat → Nat → Nat} {n j p : Nat} (hj : j < n) : (decide (p < n) && decide (OR V' 1 n p = j)) = decide (PB V' 1 n j = p) := by
  rw [Bool.eq_iff_iff, Bool.and_eq_true, decide_eq_true_eq, decide_eq_true_eq, decide_eq_true_eq]
  constructor
  · rintro ⟨h1, h2⟩
    have := (OR_ok (V := V') (r := 1) h1).2
    rw [h2] at this
    exact this
  · intro h
    have h1 := PB_lt (V := V') (r := 1) hj
    have h2 := OR_PB (V := V') (r := 1) hj
    rw [h] at h1 h2
    exact ⟨h1, h2⟩
set_option maxHeartbeats 4000000 in
theorem m_allSeen {d : Nat} {σ : mx_S} {w : Vw} {V' : Nat → Nat → Nat} {q : mx_R} (ok : okW w) (h0 : σ.1 88 0 = nI w.1.jn) (R1 : rowM w.1.se 11 91 92 σ.1) (row : ∀ p, p < w.1.jn → σ.1 100 p = nI (OR V' 1 w.1.jn p)) : mx_call (d + 2) m_X7_isAllSeen [.ref 88] σ q ↔ q = (some (.int (bz (seA w V'))), σ) := by
  have hn := ok.1.1
  have hl := ok.1.2.2.2.2.2.1
  have lp : ∀ m t, t + m = w.1.se.length → alN (seB w V') t = true → (mx_run (d + 1) m_X7_isAllSeen 2 [some (.ref 88), some (.int (nI t))] [] σ q ↔ q = (some (.int (bz (seA w V'))), σ)) := by
    intro m
    induction m with
    | zero =>
      intro t ht hp
      have e : t = w.1.se.length := by omega
      subst e
      rw [E_X7_isAllSeen_2]
      simp (disch := omega) only [true_and, and_true, and_self, exists_eq_left, Option.toList_some, Option.toList_none, List.cons_append, List.nil_append, List.append_nil, i2_i, i2_r, i2_n, nz0, nz1, true_or, or_true, Nat.reduceAdd, Nat.le_refl, Nat.reduceLT, Nat.reduceLeDiff, ↓E_X7_isAllSeen_0, ↓E_X7_isAllSeen_1, ↓E_X7_isAllSeen_3, ↓E_X7_isAllSeen_4, ↓E_X7_isAllSeen_7, ↓E_X7_isAllSeen_10, ↓E_X7_isAllSeen_11, ↓E_X7_isAllSeen_12, ↓E_X7_isAllSeen_15, ↓E_X7_isAllSeen_16, ↓E_X7_isAllSeen_19, ↓E_X7_isAllSeen_20, ↓E_X7_isAllSeen_21, ↓E_X7_isAllSeen_22, ↓E_X7_isAllSeen_25, ↓E_X7_isAllSeen_26, ↓E_X7_isAllSeen_27, ↓E_X7_isAllSeen_30, ↓E_X7_isAllSeen_33, ↓E_X7_isAllSeen_34, ↓E_X7_isAllSeen_35, ↓E_X7_isAllSeen_38, ↓E_X7_isAllSeen_41, ↓E_X7_isAllSeen_42, R1.1, leN, if_true]
      unfold seA
      rw [hp]
      rfl
    | succ m ih =>
      intro t ht hp
      obtain ⟨b1, b2⟩ := R1.2 t (by omega)
      obtain ⟨k1, k2⟩ := hl.2 _ (getD_mem (y := (0, 0)) (show t < w.1.se.length by omega))
      have cs := fun q => m_stands (d := d) (q := q) (a := 100) (O := OR V' 1 w.1.jn) (σ := σ) (Or.inr rfl) hn h0 (fun p hp => ⟨(OR_ok hp).1, row p hp⟩) k1 k2
      rw [se_P k1] at cs
      rw [E_X7_isAllSeen_2]
      simp (disch := omega) only [true_and, and_true, and_self, exists_eq_left, Option.toList_some, Option.toList_none, List.cons_append, List.nil_append, List.append_nil, i2_i, i2_r, i2_n, nz0, nz1, true_or, or_true, Nat.reduceAdd, Nat.le_refl, Nat.reduceLT, Nat.reduceLeDiff, ↓E_X7_isAllSeen_0, ↓E_X7_isAllSeen_1, ↓E_X7_isAllSeen_3, ↓E_X7_isAllSeen_4, ↓E_X7_isAllSeen_7, ↓E_X7_isAllSeen_10, ↓E_X7_isAllSeen_11, ↓E_X7_isAllSeen_12, ↓E_X7_isAllSeen_15, ↓E_X7_isAllSeen_16, ↓E_X7_isAllSeen_19, ↓E_X7_isAllSeen_20, ↓E_X7_isAllSeen_21, ↓E_X7_isAllSeen_22, ↓E_X7_isAllSeen_25, ↓E_X7_isAllSeen_26, ↓E_X7_isAllSeen_27, ↓E_X7_isAllSeen_30, ↓E_X7_isAllSeen_33, ↓E_X7_isAllSeen_34, ↓E_X7_isAllSeen_35, ↓E_X7_isAllSeen_38, ↓E_X7_isAllSeen_41, ↓E_X7_isAllSeen_42, kd_8, ln_5, R1.1, leN, if_neg (show ¬ w.1.se.length ≤ t by omega), vin, clN, b1, b2, cs, bz_0, nI_1]
      by_cases e : PB V' 1 w.1.jn (w.1.se.getD t (0, 0)).1 = (w.1.se.getD t (0, 0)).2
      · simp only [decide_eq_true e, if_neg (show ¬ true = false by decide)]
        exact ih (t + 1) (by omega) (by unfold alN; rw [hp]; unfold seB; rw [decide_eq_true e]; rfl)
      · simp only [decide_eq_false e, if_true]
        unfold seA
        rw [alN_f (t := t) (b := seB w V') (decide_eq_false e) _ (by omega)]
        rfl
  simp (disch := omega) only [C_X7_isAllSeen, true_and, and_true, and_self, exists_eq_left, Option.toList_some, Option.toList_none, List.cons_append, List.nil_append, List.append_nil, i2_i, i2_r, i2_n, nz0, nz1, true_or, or_true, Nat.reduceAdd, Nat.le_refl, Nat.reduceLT, Nat.reduceLeDiff, ↓E_X7_isAllSeen_0, ↓E_X7_isAllSeen_1, ↓E_X7_isAllSeen_3, ↓E_X7_isAllSeen_4, ↓E_X7_isAllSeen_7, ↓E_X7_isAllSeen_10, ↓E_X7_isAllSeen_11, ↓E_X7_isAllSeen_12, ↓E_X7_isAllSeen_15, ↓E_X7_isAllSeen_16, ↓E_X7_isAllSeen_19, ↓E_X7_isAllSeen_20, ↓E_X7_isAllSeen_21, ↓E_X7_isAllSeen_22, ↓E_X7_isAllSeen_25, ↓E_X7_isAllSeen_26, ↓E_X7_isAllSeen_27, ↓E_X7_isAllSeen_30, ↓E_X7_isAllSeen_33, ↓E_X7_isAllSeen_34, ↓E_X7_isAllSeen_35, ↓E_X7_isAllSeen_38, ↓E_X7_isAllSeen_41, ↓E_X7_isAllSeen_42]
  exact lp w.1.se.length 0 (by omega) rfl
set_option maxHeartbeats 4000000 in
theorem M_fits {d : Nat} {σ : mx_S} {w : Vw} {a b : Int32} (hw : vwM w σ) : ∃ σ', mx_call (d + 5) m_X7_fits [.ref 88, .int a, .int b] σ (some (.int (F_fits w a b)), σ') ∧ vwM w σ' ∧ loS σ σ' := by
  obtain ⟨S1, S2, S3, S4, S5⟩ := vwM_now hw
  have R1 := hw.2.1.2.1
  have hn := hw.1.1.1
  have hL := hw.1.1.2.2.2.1
  have hV := okV_of hL
  generalize hF : F_fits w a b = R
  unfold F_fits at hF
  simp (disch := omega) only [C_X7_fits, true_and, and_true, and_self, exists_eq_left, Option.toList_some, Option.toList_none, List.cons_append, List.nil_append, List.append_nil, i2_i, i2_r, i2_n, nz0, nz1, true_or, or_true, Nat.reduceAdd, Nat.le_refl, Nat.reduceLT, Nat.reduceLeDiff, ↓E_X7_fits_0, ↓E_X7_fits_1, ↓E_X7_fits_2, ↓E_X7_fits_5, ↓E_X7_fits_8, ↓E_X7_fits_9, ↓E_X7_fits_10, ↓E_X7_fits_11, ↓E_X7_fits_12, ↓E_X7_fits_15, ↓E_X7_fits_18, ↓E_X7_fits_19, ↓E_X7_fits_21, ↓E_X7_fits_22, ↓E_X7_fits_23, ↓E_X7_fits_26, ↓E_X7_fits_27, ↓E_X7_fits_28, ↓E_X7_fits_30, ↓E_X7_fits_32, ↓E_X7_fits_34, ↓E_X7_fits_36, ↓E_X7_fits_38, ↓E_X7_fits_40, ↓E_X7_fits_43, ↓E_X7_fits_44, ↓E_X7_fits_47, ↓E_X7_fits_49, ↓E_X7_fits_50, ↓E_X7_fits_51, ↓E_X7_fits_52, ↓E_X7_fits_53, ↓E_X7_fits_55, ↓E_X7_fits_56, ↓E_X7_fits_57, ↓E_X7_fits_58, ↓E_X7_fits_59, ↓E_X7_fits_62, ↓E_X7_fits_65, ↓E_X7_fits_66, ↓E_X7_fits_69, ↓E_X7_fits_72, ↓E_X7_fits_75, ↓E_X7_fits_77, ↓E_X7_fits_79, ↓E_X7_fits_82, ↓E_X7_fits_85, ↓E_X7_fits_86, ↓E_X7_fits_89, ↓E_X7_fits_91, ↓E_X7_fits_92, ↓E_X7_fits_93, ↓E_X7_fits_94, ↓E_X7_fits_95, ↓E_X7_fits_96, ↓E_X7_fits_97, ↓E_X7_fits_98, ↓E_X7_fits_101, ↓E_X7_fits_103, ↓E_X7_fits_106, ↓E_X7_fits_108, m_isJob hn S1, s_in, inL_1, bz_0]
  by_cases e0 : ibI a w.1.jn = false
  · simp only [if_pos e0, e0, Bool.false_and, if_true] at hF ⊢
    subst hF
    exact ⟨σ, rfl, hw, loS.rf⟩
  by_cases e1 : ibI b 2 = false
  · simp only [if_neg e0, if_pos e1, e1, Bool.and_false, if_true] at hF ⊢
    subst hF
    exact ⟨σ, rfl, hw, loS.rf⟩
  have e01 : ¬ (ibI a w.1.jn && ibI b 2) = false := by rw [eq_true_of_ne_false e0, eq_true_of_ne_false e1]; decide
  simp only [if_neg e0, if_neg e1, if_neg e01] at hF ⊢
  obtain ⟨ha, ha2, ha3⟩ := ibI_of (eq_true_of_ne_false e0)
  obtain ⟨hb, hb2, hb3⟩ := ibI_of (eq_true_of_ne_false e1)
  generalize ixI a = j at *
  generalize ixI b = x at *
  subst ha
  subst hb
  have hx0 : (nI x = 0) = (x = 0) := nI_eq0 (by omega)
  simp only [hx0] at hF
  have r0 : σ.1 89 (6 * j) = nI (w.1.V j 0) := S4 j 0 ha2 (by omega)
  have key : ∀ m (σ2 : mx_S), m ≤ 30 → frH j σ σ2 → ∃ σ4, frH j σ σ4 ∧ ∀ q, (mx_run (d + 4) m_X7_fits 38 [some (.ref 88), some (.int (nI j)), some (.int (nI x)), some (.int (nI (w.1.V j 0))), some (.int (nI (ftC (ftB w j) m).1)), some (.int (ftC (ftB w j) m).2), some (.int (nI (30 - m)))] [] σ2 q ↔ mx_run (d + 4) m_X7_fits 38 [some (.ref 88), some (.int (nI j)), some (.int (nI x)), some (.int (nI (w.1.V j 0))), some (.int (nI (ftC (ftB w j) (m + 1)).1)), some (.int (ftC (ftB w j) (m + 1)).2), some (.int (nI (30 - m) + -1))] [] σ4 q) := by
    intro m σ2 hm fr
    have fr3 : frH j σ (mx_u σ2.1 89 (6 * j) (nI (30 - m)), σ2.2) := fr.u
    have hR3 := frH.R fr3 hn S4 (a := 30 - m) uu_same
    have hV3 : okV w.1.jn (upV1 w.1.V j 0 (30 - m)) := okV_up hV (by omega)
    have h03 : (mx_u σ2.1 89 (6 * j) (nI (30 - m)), σ2.2).1 88 0 = nI w.1.jn := (fr3.2.1 0 (by omega)).trans S1
    obtain ⟨σ4, c4, g4, f4, sc4⟩ := m_ordersR (d := d) (a := 100) (Or.inl rfl) hn hV3 h03 hR3
    have fr4 := fr3.sc sc4
    have R1' : rowM w.1.se 11 91 92 σ4.1 := rowM_agr (fr4.2.1 11 (by omega)) (fr4.1 91 (by omega)) (fr4.1 92 (by omega)) R1
    have cs := fun q => m_allSeen (d := d + 2) (w := w) (V' := upV1 w.1.V j 0 (30 - m)) (σ := σ4) (q := q) hw.1 ((fr4.2.1 0 (by omega)).trans S1) R1' g4
    have cs' : ∀ q, mx_call (d + 4) m_X7_isAllSeen [.ref 88] σ4 q ↔ q = (some (.int (bz (ftB w j (30 - m)))), σ4) := cs
    have st : ftC (ftB w j) (m + 1) = if ftB w j (30 - m) = true then ((ftC (ftB w j) m).1 + 1, nI (30 - m)) else ftC (ftB w j) m := rfl
    refine ⟨σ4, fr4, fun q => ?_⟩
    rw [st]
    conv => lhs; rw [E_X7_fits_38]
    by_cases e : ftB w j (30 - m) = true
    · rw [e] at cs'
      simp (disch := omega) only [true_and, and_true, and_self, exists_eq_left, Option.toList_some, Option.toList_none, List.cons_append, List.nil_append, List.append_nil, i2_i, i2_r, i2_n, nz0, nz1, true_or, or_true, Nat.reduceAdd, Nat.le_refl, Nat.reduceLT, Nat.reduceLeDiff, ↓E_X7_fits_0, ↓E_X7_fits_1, ↓E_X7_fits_2, ↓E_X7_fits_5, ↓E_X7_fits_8, ↓E_X7_fits_9, ↓E_X7_fits_10, ↓E_X7_fits_11, ↓E_X7_fits_12, ↓E_X7_fits_15, ↓E_X7_fits_18, ↓E_X7_fits_19, ↓E_X7_fits_20, ↓E_X7_fits_21, ↓E_X7_fits_22, ↓E_X7_fits_23, ↓E_X7_fits_26, ↓E_X7_fits_27, ↓E_X7_fits_28, ↓E_X7_fits_30, ↓E_X7_fits_32, ↓E_X7_fits_34, ↓E_X7_fits_36, ↓E_X7_fits_40, ↓E_X7_fits_43, ↓E_X7_fits_44, ↓E_X7_fits_47, ↓E_X7_fits_49, ↓E_X7_fits_50, ↓E_X7_fits_51, ↓E_X7_fits_52, ↓E_X7_fits_53, ↓E_X7_fits_55, ↓E_X7_fits_56, ↓E_X7_fits_57, ↓E_X7_fits_58, ↓E_X7_fits_59, ↓E_X7_fits_62, ↓E_X7_fits_65, ↓E_X7_fits_66, ↓E_X7_fits_69, ↓E_X7_fits_72, ↓E_X7_fits_75, ↓E_X7_fits_77, ↓E_X7_fits_79, ↓E_X7_fits_82, ↓E_X7_fits_85, ↓E_X7_fits_86, ↓E_X7_fits_89, ↓E_X7_fits_91, ↓E_X7_fits_92, ↓E_X7_fits_93, ↓E_X7_fits_94, ↓E_X7_fits_95, ↓E_X7_fits_96, ↓E_X7_fits_97, ↓E_X7_fits_98, ↓E_X7_fits_101, ↓E_X7_fits_103, ↓E_X7_fits_106, ↓E_X7_fits_108, if_neg (nI_neg (show 30 - m < 2147483648 by omega)), if_pos (nI_nonneg (show 30 - m < 2147483648 by omega)), kd_8, ln_36, m6, nI_p0, vin, clN, c4, cs', e, bzt, if_false, nI_1, if_true]
    · rw [eq_false_of_ne_true e] at cs'
      simp (disch := omega) only [true_and, and_true, and_self, exists_eq_left, Option.toList_some, Option.toList_none, List.cons_append, List.nil_append, List.append_nil, i2_i, i2_r, i2_n, nz0, nz1, true_or, or_true, Nat.reduceAdd, Nat.le_refl, Nat.reduceLT, Nat.reduceLeDiff, ↓E_X7_fits_0, ↓E_X7_fits_1, ↓E_X7_fits_2, ↓E_X7_fits_5, ↓E_X7_fits_8, ↓E_X7_fits_9, ↓E_X7_fits_10, ↓E_X7_fits_11, ↓E_X7_fits_12, ↓E_X7_fits_15, ↓E_X7_fits_18, ↓E_X7_fits_19, ↓E_X7_fits_20, ↓E_X7_fits_21, ↓E_X7_fits_22, ↓E_X7_fits_23, ↓E_X7_fits_26, ↓E_X7_fits_27, ↓E_X7_fits_28, ↓E_X7_fits_30, ↓E_X7_fits_32, ↓E_X7_fits_34, ↓E_X7_fits_36, ↓E_X7_fits_40, ↓E_X7_fits_43, ↓E_X7_fits_44, ↓E_X7_fits_47, ↓E_X7_fits_49, ↓E_X7_fits_50, ↓E_X7_fits_51, ↓E_X7_fits_52, ↓E_X7_fits_53, ↓E_X7_fits_55, ↓E_X7_fits_56, ↓E_X7_fits_57, ↓E_X7_fits_58, ↓E_X7_fits_59, ↓E_X7_fits_62, ↓E_X7_fits_65, ↓E_X7_fits_66, ↓E_X7_fits_69, ↓E_X7_fits_72, ↓E_X7_fits_75, ↓E_X7_fits_77, ↓E_X7_fits_79, ↓E_X7_fits_82, ↓E_X7_fits_85, ↓E_X7_fits_86, ↓E_X7_fits_89, ↓E_X7_fits_91, ↓E_X7_fits_92, ↓E_X7_fits_93, ↓E_X7_fits_94, ↓E_X7_fits_95, ↓E_X7_fits_96, ↓E_X7_fits_97, ↓E_X7_fits_98, ↓E_X7_fits_101, ↓E_X7_fits_103, ↓E_X7_fits_106, ↓E_X7_fits_108, if_neg (nI_neg (show 30 - m < 2147483648 by omega)), if_pos (nI_nonneg (show 30 - m < 2147483648 by omega)), kd_8, ln_36, m6, nI_p0, vin, clN, c4, cs', eq_false_of_ne_true e, bzf, if_true, nI_1, if_neg (show ¬ false = true by decide)]
  have lp : ∀ k m (σ2 : mx_S), m + k = 30 → frH j σ σ2 → ∃ σ', (∀ q, mx_run (d + 4) m_X7_fits 38 [some (.ref 88), some (.int (nI j)), some (.int (nI x)), some (.int (nI (w.1.V j 0))), some (.int (nI (ftC (ftB w j) m).1)), some (.int (ftC (ftB w j) m).2), some (.int (nI (30 - m)))] [] σ2 q ↔ q = (some (.int R), σ')) ∧ scM σ σ' := by
    intro k
    induction k with
    | zero =>
      intro m σ2 hm fr
      obtain ⟨σ4, fr4, r⟩ := key m σ2 (by omega) fr
      have e : m = 30 := by omega
      subst e
      have e1 : nI (30 - 30) + -1 = -1 := by decide
      refine ⟨_, fun q => ?_, fr4.back r0⟩
      rw [r q, e1, E_X7_fits_38]
      simp (disch := omega) only [true_and, and_true, and_self, exists_eq_left, Option.toList_some, Option.toList_none, List.cons_append, List.nil_append, List.append_nil, i2_i, i2_r, i2_n, nz0, nz1, true_or, or_true, Nat.reduceAdd, Nat.le_refl, Nat.reduceLT, Nat.reduceLeDiff, ↓E_X7_fits_0, ↓E_X7_fits_1, ↓E_X7_fits_2, ↓E_X7_fits_5, ↓E_X7_fits_8, ↓E_X7_fits_9, ↓E_X7_fits_10, ↓E_X7_fits_11, ↓E_X7_fits_12, ↓E_X7_fits_15, ↓E_X7_fits_18, ↓E_X7_fits_19, ↓E_X7_fits_20, ↓E_X7_fits_21, ↓E_X7_fits_22, ↓E_X7_fits_23, ↓E_X7_fits_26, ↓E_X7_fits_27, ↓E_X7_fits_28, ↓E_X7_fits_30, ↓E_X7_fits_32, ↓E_X7_fits_34, ↓E_X7_fits_36, ↓E_X7_fits_40, ↓E_X7_fits_43, ↓E_X7_fits_44, ↓E_X7_fits_47, ↓E_X7_fits_49, ↓E_X7_fits_50, ↓E_X7_fits_51, ↓E_X7_fits_52, ↓E_X7_fits_53, ↓E_X7_fits_55, ↓E_X7_fits_56, ↓E_X7_fits_57, ↓E_X7_fits_58, ↓E_X7_fits_59, ↓E_X7_fits_62, ↓E_X7_fits_65, ↓E_X7_fits_66, ↓E_X7_fits_69, ↓E_X7_fits_72, ↓E_X7_fits_75, ↓E_X7_fits_77, ↓E_X7_fits_79, ↓E_X7_fits_82, ↓E_X7_fits_85, ↓E_X7_fits_86, ↓E_X7_fits_89, ↓E_X7_fits_91, ↓E_X7_fits_92, ↓E_X7_fits_93, ↓E_X7_fits_94, ↓E_X7_fits_95, ↓E_X7_fits_96, ↓E_X7_fits_97, ↓E_X7_fits_98, ↓E_X7_fits_101, ↓E_X7_fits_103, ↓E_X7_fits_106, ↓E_X7_fits_108, if_pos (show (-1 : Int32) < 0 by decide), if_neg (show ¬ (0 : Int32) ≤ -1 by decide), kd_8, ln_36, m6, nI_p0, vin, clN, hx0]
      by_cases e2 : x = 0
      · simp only [if_pos e2] at hF ⊢
        rw [hF]
      · simp only [if_neg e2] at hF ⊢
        rw [hF]
    | succ k ih =>
      intro m σ2 hm fr
      obtain ⟨σ4, fr4, r⟩ := key m σ2 (by omega) fr
      obtain ⟨σ', r2, sc'⟩ := ih (m + 1) σ4 (by omega) fr4
      refine ⟨σ', fun q => ?_, sc'⟩
      have e1 : nI (30 - m) + -1 = nI (30 - (m + 1)) := by rw [show 30 - m = (30 - (m + 1)) + 1 by omega, pk_m1]
      rw [r q, e1]
      exact r2 q
  obtain ⟨σ', r, sc'⟩ := lp 30 0 σ rfl frH.rf
  have r' : ∀ q, mx_run (d + 4) m_X7_fits 38 [some (.ref 88), some (.int (nI j)), some (.int (nI x)), some (.int (nI (w.1.V j 0))), some (.int 0), some (.int (-5)), some (.int 30)] [] σ q ↔ _ := r
  have cg : ∀ q, mx_call (d + 4) m_X7_get [.ref 88, .int (nI j), .int 0] σ q ↔ q = (some (.int (σ.1 89 (6 * j))), σ) := fun q => m_g0 (by omega)
  simp (disch := omega) only [true_and, and_true, and_self, exists_eq_left, Option.toList_some, Option.toList_none, List.cons_append, List.nil_append, List.append_nil, i2_i, i2_r, i2_n, nz0, nz1, true_or, or_true, Nat.reduceAdd, Nat.le_refl, Nat.reduceLT, Nat.reduceLeDiff, ↓E_X7_fits_0, ↓E_X7_fits_1, ↓E_X7_fits_2, ↓E_X7_fits_5, ↓E_X7_fits_8, ↓E_X7_fits_9, ↓E_X7_fits_10, ↓E_X7_fits_11, ↓E_X7_fits_12, ↓E_X7_fits_15, ↓E_X7_fits_18, ↓E_X7_fits_19, ↓E_X7_fits_20, ↓E_X7_fits_21, ↓E_X7_fits_22, ↓E_X7_fits_23, ↓E_X7_fits_26, ↓E_X7_fits_27, ↓E_X7_fits_28, ↓E_X7_fits_30, ↓E_X7_fits_32, ↓E_X7_fits_34, ↓E_X7_fits_36, ↓E_X7_fits_40, ↓E_X7_fits_43, ↓E_X7_fits_44, ↓E_X7_fits_47, ↓E_X7_fits_49, ↓E_X7_fits_50, ↓E_X7_fits_51, ↓E_X7_fits_52, ↓E_X7_fits_53, ↓E_X7_fits_55, ↓E_X7_fits_56, ↓E_X7_fits_57, ↓E_X7_fits_58, ↓E_X7_fits_59, ↓E_X7_fits_62, ↓E_X7_fits_65, ↓E_X7_fits_66, ↓E_X7_fits_69, ↓E_X7_fits_72, ↓E_X7_fits_75, ↓E_X7_fits_77, ↓E_X7_fits_79, ↓E_X7_fits_82, ↓E_X7_fits_85, ↓E_X7_fits_86, ↓E_X7_fits_89, ↓E_X7_fits_91, ↓E_X7_fits_92, ↓E_X7_fits_93, ↓E_X7_fits_94, ↓E_X7_fits_95, ↓E_X7_fits_96, ↓E_X7_fits_97, ↓E_X7_fits_98, ↓E_X7_fits_101, ↓E_X7_fits_103, ↓E_X7_fits_106, ↓E_X7_fits_108, cg, r0, r']
  exact ⟨σ', rfl, sc'.vw hw, sc'.lo⟩
set_option maxHeartbeats 4000000 in
theorem M_odds {d : Nat} {σ : mx_S} {w : Vw} {a b : Int32} (hw : vwM w σ) : ∃ σ', mx_call (d + 5) m_X7_odds [.ref 88, .int a, .int b] σ (some (.long (F_odds w a b)), σ') ∧ vwM w σ' ∧ loS σ σ' := by
  obtain ⟨S1, S2, S3, S4, S5⟩ := vwM_now hw
  have hn := hw.1.1.1
  have hL := hw.1.1.2.2.2.1
  have hV := okV_of hL
  generalize hF : F_odds w a b = R
  unfold F_odds NO at hF
  simp (disch := omega) only [C_X7_odds, true_and, and_true, and_self, exists_eq_left, Option.toList_some, Option.toList_none, List.cons_append, List.nil_append, List.append_nil, i2_i, i2_r, i2_n, nz0, nz1, true_or, or_true, Nat.reduceAdd, Nat.le_refl, Nat.reduceLT, Nat.reduceLeDiff, ↓E_X7_odds_0, ↓E_X7_odds_1, ↓E_X7_odds_2, ↓E_X7_odds_5, ↓E_X7_odds_8, ↓E_X7_odds_9, ↓E_X7_odds_10, ↓E_X7_odds_11, ↓E_X7_odds_12, ↓E_X7_odds_15, ↓E_X7_odds_18, ↓E_X7_odds_21, ↓E_X7_odds_23, ↓E_X7_odds_24, ↓E_X7_odds_25, ↓E_X7_odds_28, ↓E_X7_odds_29, ↓E_X7_odds_30, ↓E_X7_odds_32, ↓E_X7_odds_33, ↓E_X7_odds_35, ↓E_X7_odds_37, ↓E_X7_odds_39, ↓E_X7_odds_42, ↓E_X7_odds_43, ↓E_X7_odds_46, ↓E_X7_odds_48, ↓E_X7_odds_49, ↓E_X7_odds_50, ↓E_X7_odds_51, ↓E_X7_odds_52, ↓E_X7_odds_54, ↓E_X7_odds_55, ↓E_X7_odds_56, ↓E_X7_odds_57, ↓E_X7_odds_60, ↓E_X7_odds_61, ↓E_X7_odds_64, ↓E_X7_odds_67, ↓E_X7_odds_68, ↓E_X7_odds_70, ↓E_X7_odds_71, ↓E_X7_odds_74, ↓E_X7_odds_75, ↓E_X7_odds_76, ↓E_X7_odds_77, ↓E_X7_odds_80, ↓E_X7_odds_81, ↓E_X7_odds_84, ↓E_X7_odds_85, ↓E_X7_odds_86, ↓E_X7_odds_88, ↓E_X7_odds_91, ↓E_X7_odds_94, ↓E_X7_odds_95, ↓E_X7_odds_98, ↓E_X7_odds_100, ↓E_X7_odds_101, ↓E_X7_odds_102, ↓E_X7_odds_103, ↓E_X7_odds_104, ↓E_X7_odds_105, ↓E_X7_odds_106, ↓E_X7_odds_108, ↓E_X7_odds_109, ↓E_X7_odds_112, ↓E_X7_odds_113, ↓E_X7_odds_116, m_isJob hn S1, s_in, inL_1, bz_0]
  by_cases e0 : ibI a w.1.jn = false
  · simp only [if_pos e0, e0, Bool.false_and, if_true] at hF ⊢
    subst hF
    exact ⟨σ, rfl, hw, loS.rf⟩
  by_cases e1 : ibI b 2 = false
  · simp only [if_neg e0, if_pos e1, e1, Bool.and_false, if_true] at hF ⊢
    subst hF
    exact ⟨σ, rfl, hw, loS.rf⟩
  have e01 : ¬ (ibI a w.1.jn && ibI b 2) = false := by rw [eq_true_of_ne_false e0, eq_true_of_ne_false e1]; decide
  simp only [if_neg e0, if_neg e1, if_neg e01] at hF ⊢
  obtain ⟨ha, ha2, ha3⟩ := ibI_of (eq_true_of_ne_false e0)
  obtain ⟨hb, hb2, hb3⟩ := ibI_of (eq_true_of_ne_false e1)
  generalize ixI a = j at *
  generalize ixI b = x at *
  subst ha
  subst hb
  have r0 : σ.1 89 (6 * j) = nI (w.1.V j 0) := S4 j 0 ha2 (by omega)
  have lp : ∀ m t (σ2 : mx_S), t + m = 10 → frH j σ σ2 → ∃ σ', (∀ q, mx_run (d + 4) m_X7_odds 35 [some (.ref 88), some (.int (nI j)), some (.int (nI x)), some (.int (nI (w.1.V j 0))), some (.int (nI (cnt (odB w j) t))), some (.int (nI t))] [] σ2 q ↔ mx_run (d + 4) m_X7_odds 94 [some (.ref 88), some (.int (nI j)), some (.int (nI x)), some (.int (nI (w.1.V j 0))), some (.int (nI (cnt (odB w j) 10))), some (.int (nI 10))] [] σ' q) ∧ frH j σ σ' := by
    intro m
    induction m with
    | zero =>
      intro t σ2 ht fr
      have e : t = 10 := by omega
      subst e
      refine ⟨σ2, fun q => ?_, fr⟩
      conv => lhs; rw [E_X7_odds_35]
      simp (disch := omega) only [true_and, and_true, and_self, exists_eq_left, Option.toList_some, Option.toList_none, List.cons_append, List.nil_append, List.append_nil, i2_i, i2_r, i2_n, nz0, nz1, true_or, or_true, Nat.reduceAdd, Nat.le_refl, Nat.reduceLT, Nat.reduceLeDiff, ↓E_X7_odds_0, ↓E_X7_odds_1, ↓E_X7_odds_2, ↓E_X7_odds_5, ↓E_X7_odds_8, ↓E_X7_odds_9, ↓E_X7_odds_10, ↓E_X7_odds_11, ↓E_X7_odds_12, ↓E_X7_odds_15, ↓E_X7_odds_18, ↓E_X7_odds_21, ↓E_X7_odds_22, ↓E_X7_odds_23, ↓E_X7_odds_24, ↓E_X7_odds_25, ↓E_X7_odds_28, ↓E_X7_odds_29, ↓E_X7_odds_30, ↓E_X7_odds_32, ↓E_X7_odds_33, ↓E_X7_odds_37, ↓E_X7_odds_39, ↓E_X7_odds_42, ↓E_X7_odds_43, ↓E_X7_odds_46, ↓E_X7_odds_48, ↓E_X7_odds_49, ↓E_X7_odds_50, ↓E_X7_odds_51, ↓E_X7_odds_52, ↓E_X7_odds_54, ↓E_X7_odds_55, ↓E_X7_odds_56, ↓E_X7_odds_57, ↓E_X7_odds_60, ↓E_X7_odds_61, ↓E_X7_odds_64, ↓E_X7_odds_67, ↓E_X7_odds_68, ↓E_X7_odds_70, ↓E_X7_odds_71, ↓E_X7_odds_74, ↓E_X7_odds_75, ↓E_X7_odds_76, ↓E_X7_odds_77, ↓E_X7_odds_80, ↓E_X7_odds_81, ↓E_X7_odds_84, ↓E_X7_odds_85, ↓E_X7_odds_86, ↓E_X7_odds_88, ↓E_X7_odds_91, ↓E_X7_odds_95, ↓E_X7_odds_98, ↓E_X7_odds_100, ↓E_X7_odds_101, ↓E_X7_odds_102, ↓E_X7_odds_103, ↓E_X7_odds_104, ↓E_X7_odds_105, ↓E_X7_odds_106, ↓E_X7_odds_108, ↓E_X7_odds_109, ↓E_X7_odds_112, ↓E_X7_odds_113, ↓E_X7_odds_116, if_pos (show (10 : Int32) ≤ nI 10 by decide)]
    | succ m ih =>
      intro t σ2 ht fr
      have fr3 : frH j σ (mx_u σ2.1 89 (6 * j) (nI t), σ2.2) := fr.u
      have hR3 := frH.R fr3 hn S4 (a := t) uu_same
      have hV3 : okV w.1.jn (upV1 w.1.V j 0 t) := okV_up hV (by omega)
      have h03 : (mx_u σ2.1 89 (6 * j) (nI t), σ2.2).1 88 0 = nI w.1.jn := (fr3.2.1 0 (by omega)).trans S1
      have h13 : mx_u σ2.1 89 (6 * j) (nI t) 88 1 = nI w.1.md := (fr3.2.1 1 (by omega)).trans S2
      have h23 : mx_u σ2.1 89 (6 * j) (nI t) 88 2 = nI w.1.am := (fr3.2.1 2 (by omega)).trans S3
      obtain ⟨σ4, c4, g4, f4⟩ := m_finds (d := d) hn (show 0 < w.1.jn by omega) hw.1.1.2.1 hw.1.1.2.2.1 hV3 h03 hR3
      have fr4 := fr3.sc f4.M
      have b0 := ofL_bst (md := w.1.md) (am := w.1.am) hn (show 0 < w.1.jn by omega) hV3 0
      have g40 := g4 0 (by omega)
      obtain ⟨σ', r, fr'⟩ := ih (t + 1) σ4 (by omega) fr4
      refine ⟨σ', fun q => ?_, fr'⟩
      have st : cnt (odB w j) (t + 1) = cnt (odB w j) t + (if odB w j t = true then 1 else 0) := rfl
      rw [← r q, st]
      have l10 : ¬ (10 : Int32) ≤ nI t := fun z => absurd ((nI_leI (a := 10) (b := t) (by omega) (by omega)).mp z) (by omega)
      have cat : (Value.int (iN (bst (cst (upV1 w.1.V j 0 t) w.1.md w.1.am) w.1.jn).1)).category = 1 := rfl
      conv => lhs; rw [E_X7_odds_35]
      by_cases e : ofL (bst (cst (upV1 w.1.V j 0 t) w.1.md w.1.am) w.1.jn).2 0 = j
      · have eB : odB w j t = true := decide_eq_true e
        simp (disch := first | omega | exact cat) only [true_and, and_true, and_self, exists_eq_left, Option.toList_some, Option.toList_none, List.cons_append, List.nil_append, List.append_nil, i2_i, i2_r, i2_n, nz0, nz1, true_or, or_true, Nat.reduceAdd, Nat.le_refl, Nat.reduceLT, Nat.reduceLeDiff, ↓E_X7_odds_0, ↓E_X7_odds_1, ↓E_X7_odds_2, ↓E_X7_odds_5, ↓E_X7_odds_8, ↓E_X7_odds_9, ↓E_X7_odds_10, ↓E_X7_odds_11, ↓E_X7_odds_12, ↓E_X7_odds_15, ↓E_X7_odds_18, ↓E_X7_odds_21, ↓E_X7_odds_22, ↓E_X7_odds_23, ↓E_X7_odds_24, ↓E_X7_odds_25, ↓E_X7_odds_28, ↓E_X7_odds_29, ↓E_X7_odds_30, ↓E_X7_odds_32, ↓E_X7_odds_33, ↓E_X7_odds_37, ↓E_X7_odds_39, ↓E_X7_odds_42, ↓E_X7_odds_43, ↓E_X7_odds_46, ↓E_X7_odds_48, ↓E_X7_odds_49, ↓E_X7_odds_50, ↓E_X7_odds_51, ↓E_X7_odds_52, ↓E_X7_odds_54, ↓E_X7_odds_55, ↓E_X7_odds_56, ↓E_X7_odds_57, ↓E_X7_odds_60, ↓E_X7_odds_61, ↓E_X7_odds_64, ↓E_X7_odds_67, ↓E_X7_odds_68, ↓E_X7_odds_70, ↓E_X7_odds_71, ↓E_X7_odds_74, ↓E_X7_odds_75, ↓E_X7_odds_76, ↓E_X7_odds_77, ↓E_X7_odds_80, ↓E_X7_odds_81, ↓E_X7_odds_84, ↓E_X7_odds_85, ↓E_X7_odds_86, ↓E_X7_odds_88, ↓E_X7_odds_91, ↓E_X7_odds_95, ↓E_X7_odds_98, ↓E_X7_odds_100, ↓E_X7_odds_101, ↓E_X7_odds_102, ↓E_X7_odds_103, ↓E_X7_odds_104, ↓E_X7_odds_105, ↓E_X7_odds_106, ↓E_X7_odds_108, ↓E_X7_odds_109, ↓E_X7_odds_112, ↓E_X7_odds_113, ↓E_X7_odds_116, if_neg l10, kd_8, ln_36, ln_6, m6, nI_p0, vin, clN, vin_0, cl_0, h13, h23, c4, cat, g40, eqN, if_pos e, eB, if_true, nI_1]
      · have eB : odB w j t = false := decide_eq_false e
        simp (disch := first | omega | exact cat) only [true_and, and_true, and_self, exists_eq_left, Option.toList_some, Option.toList_none, List.cons_append, List.nil_append, List.append_nil, i2_i, i2_r, i2_n, nz0, nz1, true_or, or_true, Nat.reduceAdd, Nat.le_refl, Nat.reduceLT, Nat.reduceLeDiff, ↓E_X7_odds_0, ↓E_X7_odds_1, ↓E_X7_odds_2, ↓E_X7_odds_5, ↓E_X7_odds_8, ↓E_X7_odds_9, ↓E_X7_odds_10, ↓E_X7_odds_11, ↓E_X7_odds_12, ↓E_X7_odds_15, ↓E_X7_odds_18, ↓E_X7_odds_21, ↓E_X7_odds_22, ↓E_X7_odds_23, ↓E_X7_odds_24, ↓E_X7_odds_25, ↓E_X7_odds_28, ↓E_X7_odds_29, ↓E_X7_odds_30, ↓E_X7_odds_32, ↓E_X7_odds_33, ↓E_X7_odds_37, ↓E_X7_odds_39, ↓E_X7_odds_42, ↓E_X7_odds_43, ↓E_X7_odds_46, ↓E_X7_odds_48, ↓E_X7_odds_49, ↓E_X7_odds_50, ↓E_X7_odds_51, ↓E_X7_odds_52, ↓E_X7_odds_54, ↓E_X7_odds_55, ↓E_X7_odds_56, ↓E_X7_odds_57, ↓E_X7_odds_60, ↓E_X7_odds_61, ↓E_X7_odds_64, ↓E_X7_odds_67, ↓E_X7_odds_68, ↓E_X7_odds_70, ↓E_X7_odds_71, ↓E_X7_odds_74, ↓E_X7_odds_75, ↓E_X7_odds_76, ↓E_X7_odds_77, ↓E_X7_odds_80, ↓E_X7_odds_81, ↓E_X7_odds_84, ↓E_X7_odds_85, ↓E_X7_odds_86, ↓E_X7_odds_88, ↓E_X7_odds_91, ↓E_X7_odds_95, ↓E_X7_odds_98, ↓E_X7_odds_100, ↓E_X7_odds_101, ↓E_X7_odds_102, ↓E_X7_odds_103, ↓E_X7_odds_104, ↓E_X7_odds_105, ↓E_X7_odds_106, ↓E_X7_odds_108, ↓E_X7_odds_109, ↓E_X7_odds_112, ↓E_X7_odds_113, ↓E_X7_odds_116, if_neg l10, kd_8, ln_36, ln_6, m6, nI_p0, vin, clN, vin_0, cl_0, h13, h23, c4, cat, g40, eqN, if_neg e, eB, if_neg (show ¬ false = true by decide), nI_1, nI_p0]
        rfl
  obtain ⟨σ', r, fr⟩ := lp 10 0 σ rfl frH.rf
  have r' : ∀ q, mx_run (d + 4) m_X7_odds 35 [some (.ref 88), some (.int (nI j)), some (.int (nI x)), some (.int (nI (w.1.V j 0))), some (.int 0), some (.int 0)] [] σ q ↔ _ := r
  have cg : ∀ q, mx_call (d + 4) m_X7_get [.ref 88, .int (nI j), .int 0] σ q ↔ q = (some (.int (σ.1 89 (6 * j))), σ) := fun q => m_g0 (by omega)
  have hc := cnt_le (odB w j) 10
  have gf : frc (cnt (odB w j) 10) 10 x < 2147483648 := by
    unfold frc
    split
    · exact Nat.lt_of_le_of_lt (Nat.div_le_self _ _) (by omega)
    · exact Nat.lt_of_le_of_lt (Nat.div_le_self _ _) (by omega)
  have sc := fr.back r0
  have ml : ∀ q, mx_call (d + 4) m_X7_lowest [.long (lN (cnt (odB w j) 10)), .long 10, .int (nI x)] (mx_u σ'.1 89 (6 * j) (nI (w.1.V j 0)), σ'.2) q ↔ q = (some (.long (lN (frc (cnt (odB w j) 10) 10 x))), _) := fun q => m_lowest (b := 10) (by omega) (by omega) (by omega) (by omega)
  simp (disch := omega) only [true_and, and_true, and_self, exists_eq_left, Option.toList_some, Option.toList_none, List.cons_append, List.nil_append, List.append_nil, i2_i, i2_r, i2_n, nz0, nz1, true_or, or_true, Nat.reduceAdd, Nat.le_refl, Nat.reduceLT, Nat.reduceLeDiff, ↓E_X7_odds_0, ↓E_X7_odds_1, ↓E_X7_odds_2, ↓E_X7_odds_5, ↓E_X7_odds_8, ↓E_X7_odds_9, ↓E_X7_odds_10, ↓E_X7_odds_11, ↓E_X7_odds_12, ↓E_X7_odds_15, ↓E_X7_odds_18, ↓E_X7_odds_21, ↓E_X7_odds_22, ↓E_X7_odds_23, ↓E_X7_odds_24, ↓E_X7_odds_25, ↓E_X7_odds_28, ↓E_X7_odds_29, ↓E_X7_odds_30, ↓E_X7_odds_32, ↓E_X7_odds_33, ↓E_X7_odds_37, ↓E_X7_odds_39, ↓E_X7_odds_42, ↓E_X7_odds_43, ↓E_X7_odds_46, ↓E_X7_odds_48, ↓E_X7_odds_49, ↓E_X7_odds_50, ↓E_X7_odds_51, ↓E_X7_odds_52, ↓E_X7_odds_54, ↓E_X7_odds_55, ↓E_X7_odds_56, ↓E_X7_odds_57, ↓E_X7_odds_60, ↓E_X7_odds_61, ↓E_X7_odds_64, ↓E_X7_odds_67, ↓E_X7_odds_68, ↓E_X7_odds_70, ↓E_X7_odds_71, ↓E_X7_odds_74, ↓E_X7_odds_75, ↓E_X7_odds_76, ↓E_X7_odds_77, ↓E_X7_odds_80, ↓E_X7_odds_81, ↓E_X7_odds_84, ↓E_X7_odds_85, ↓E_X7_odds_86, ↓E_X7_odds_88, ↓E_X7_odds_91, ↓E_X7_odds_94, ↓E_X7_odds_95, ↓E_X7_odds_98, ↓E_X7_odds_100, ↓E_X7_odds_101, ↓E_X7_odds_102, ↓E_X7_odds_103, ↓E_X7_odds_104, ↓E_X7_odds_105, ↓E_X7_odds_106, ↓E_X7_odds_108, ↓E_X7_odds_109, ↓E_X7_odds_112, ↓E_X7_odds_113, ↓E_X7_odds_116, cg, r0, r', kd_8, ln_36, m6, nI_p0, vin, clN, nI_l, ml]
  subst hF
  refine ⟨_, ?_, sc.vw hw, sc.lo⟩
  rw [nI_l gf]
