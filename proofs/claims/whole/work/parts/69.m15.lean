/-! ===== the reference: plan, ruled, cost, steps ===== -/
theorem m_orders1 {d r a : Nat} {σ : mx_S} {w : Vw} (hw : vwM w σ) (ha : a = 100 ∨ a = 101) (hr : r ≤ 3) : ∃ σ', (∀ q, mx_call (d + 4) m_X7_orders [.ref 88, .int (nI r), .ref a] σ q ↔ q = (none, σ')) ∧ (∀ p, p < w.1.jn → σ'.1 a p = nI (OR w.1.V r w.1.jn p)) ∧ scM σ σ' ∧ (∀ i, i ≠ a → σ'.1 i = σ.1 i) := by
  obtain ⟨S1, S2, S3, S4, S5⟩ := vwM_now hw
  obtain ⟨σ', c, h1, h2, h3⟩ := m_orders (d := d) ha hw.1.1.1 hr (okV_of hw.1.1.2.2.2.1) S1 S4
  exact ⟨σ', c, h1, ⟨fun i hi => h2 i (by omega), fun k hk => by rw [h2 88 (by omega)], fun i _ => by rw [h3]⟩, h2⟩
set_option maxHeartbeats 2000000 in
theorem M_ruled {d : Nat} {σ : mx_S} {w : Vw} {a b : Int32} (hw : vwM w σ) : ∃ σ', mx_call (d + 5) m_X7_ruled [.ref 88, .int a, .int b] σ (some (.int (F_ruled w a b)), σ') ∧ vwM w σ' ∧ loS σ σ' := by
  obtain ⟨S1, S2, S3, S4, S5⟩ := vwM_now hw
  have hn := hw.1.1.1
  generalize hF : F_ruled w a b = R
  simp (disch := omega) only [C_X7_ruled, true_and, and_true, and_self, exists_eq_left, Option.toList_some, Option.toList_none, List.cons_append, List.nil_append, List.append_nil, i2_i, i2_r, i2_n, nz0, nz1, true_or, or_true, Nat.reduceAdd, Nat.le_refl, Nat.reduceLT, Nat.reduceLeDiff, ↓E_X7_ruled_0, ↓E_X7_ruled_1, ↓E_X7_ruled_2, ↓E_X7_ruled_3, ↓E_X7_ruled_6, ↓E_X7_ruled_9, ↓E_X7_ruled_12, ↓E_X7_ruled_13, ↓E_X7_ruled_14, ↓E_X7_ruled_17, ↓E_X7_ruled_20, ↓E_X7_ruled_21, ↓E_X7_ruled_23, ↓E_X7_ruled_24, ↓E_X7_ruled_25, ↓E_X7_ruled_28, ↓E_X7_ruled_31, ↓E_X7_ruled_32, ↓E_X7_ruled_35, ↓E_X7_ruled_36, ↓E_X7_ruled_37, s_in, inL_3, m_isJob hn S1, bz_0]
  unfold F_ruled at hF
  by_cases e0 : ibI a 4 = false
  · simp only [if_pos e0, e0, Bool.false_and, if_true] at hF ⊢
    subst hF
    exact ⟨σ, rfl, hw, loS.rf⟩
  by_cases e1 : ibI b w.1.jn = false
  · simp only [if_neg e0, if_pos e1, e1, Bool.and_false, if_true] at hF ⊢
    subst hF
    exact ⟨σ, rfl, hw, loS.rf⟩
  have e01 : ¬ (ibI a 4 && ibI b w.1.jn) = false := by rw [eq_true_of_ne_false e0, eq_true_of_ne_false e1]; decide
  simp only [if_neg e0, if_neg e1, if_neg e01] at hF ⊢
  obtain ⟨ha, ha2⟩ := ib_rule (eq_true_of_ne_false e0)
  obtain ⟨hb, hb2, hb3⟩ := ibI_of (eq_true_of_ne_false e1)
  generalize ixI a = r at *
  generalize ixI b = p at *
  subst ha
  subst hb
  obtain ⟨σ', c, h1, sc, -⟩ := m_orders1 (d := d) (a := 100) hw (Or.inl rfl) ha2
  simp (disch := omega) only [c, true_and, and_true, and_self, exists_eq_left, Option.toList_some, Option.toList_none, List.cons_append, List.nil_append, List.append_nil, i2_i, i2_r, i2_n, nz0, nz1, true_or, or_true, Nat.reduceAdd, Nat.le_refl, Nat.reduceLT, Nat.reduceLeDiff, ↓E_X7_ruled_0, ↓E_X7_ruled_1, ↓E_X7_ruled_2, ↓E_X7_ruled_3, ↓E_X7_ruled_6, ↓E_X7_ruled_9, ↓E_X7_ruled_12, ↓E_X7_ruled_13, ↓E_X7_ruled_14, ↓E_X7_ruled_17, ↓E_X7_ruled_20, ↓E_X7_ruled_21, ↓E_X7_ruled_22, ↓E_X7_ruled_23, ↓E_X7_ruled_24, ↓E_X7_ruled_25, ↓E_X7_ruled_28, ↓E_X7_ruled_31, ↓E_X7_ruled_32, ↓E_X7_ruled_35, ↓E_X7_ruled_36, ↓E_X7_ruled_37, kd_8, ln_6, vin, clN, h1 p hb2]
  subst hF
  exact ⟨σ', rfl, sc.vw hw, sc.lo⟩
set_option maxHeartbeats 2000000 in
theorem M_cost {d : Nat} {σ : mx_S} {w : Vw} {x m a : Int32} (hw : vwM w σ) : ∃ σ', mx_call (d + 5) m_X7_cost [.ref 88, .int x, .int m, .int a] σ (some (.long (F_cost w x m a)), σ') ∧ vwM w σ' ∧ loS σ σ' := by
  obtain ⟨S1, S2, S3, S4, S5⟩ := vwM_now hw
  have hn := hw.1.1.1
  generalize hF : F_cost w x m a = R
  simp (disch := omega) only [C_X7_cost, true_and, and_true, and_self, exists_eq_left, Option.toList_some, Option.toList_none, List.cons_append, List.nil_append, List.append_nil, i2_i, i2_r, i2_n, nz0, nz1, true_or, or_true, Nat.reduceAdd, Nat.le_refl, Nat.reduceLT, Nat.reduceLeDiff, ↓E_X7_cost_0, ↓E_X7_cost_1, ↓E_X7_cost_2, ↓E_X7_cost_3, ↓E_X7_cost_6, ↓E_X7_cost_9, ↓E_X7_cost_12, ↓E_X7_cost_13, ↓E_X7_cost_14, ↓E_X7_cost_15, ↓E_X7_cost_18, ↓E_X7_cost_21, ↓E_X7_cost_24, ↓E_X7_cost_25, ↓E_X7_cost_26, ↓E_X7_cost_27, ↓E_X7_cost_30, ↓E_X7_cost_33, ↓E_X7_cost_36, ↓E_X7_cost_37, ↓E_X7_cost_40, ↓E_X7_cost_43, ↓E_X7_cost_46, ↓E_X7_cost_48, ↓E_X7_cost_49, ↓E_X7_cost_50, ↓E_X7_cost_53, ↓E_X7_cost_56, ↓E_X7_cost_57, ↓E_X7_cost_58, ↓E_X7_cost_61, ↓E_X7_cost_62, ↓E_X7_cost_63, ↓E_X7_cost_66, ↓E_X7_cost_67, s_in, inL_3, inL_2, bz_0, S1, nI_eq0 hn]
  unfold F_cost NO at hF
  by_cases e0 : ibI x 4 = false
  · simp only [if_pos e0, e0, Bool.false_and, true_or, if_true] at hF ⊢
    subst hF
    exact ⟨σ, rfl, hw, loS.rf⟩
  by_cases e1 : ibI m 3 = false
  · simp only [if_neg e0, if_pos e1, e1, Bool.false_and, Bool.and_false, true_or, if_true] at hF ⊢
    subst hF
    exact ⟨σ, rfl, hw, loS.rf⟩
  by_cases e2 : ibI a 3 = false
  · simp only [if_neg e0, if_neg e1, if_pos e2, e2, Bool.and_false, true_or, if_true] at hF ⊢
    subst hF
    exact ⟨σ, rfl, hw, loS.rf⟩
  by_cases e3 : w.1.jn = 0
  · rw [if_pos (Or.inr e3)] at hF
    simp only [if_neg e0, if_neg e1, if_neg e2, if_pos e3]
    subst hF
    exact ⟨σ, rfl, hw, loS.rf⟩
  have e12 : ¬ (ibI m 3 && ibI a 3) = false := by rw [eq_true_of_ne_false e1, eq_true_of_ne_false e2]; decide
  have e012 : ¬ (ibI x 4 && (ibI m 3 && ibI a 3)) = false := by rw [eq_true_of_ne_false e0, eq_true_of_ne_false e1, eq_true_of_ne_false e2]; decide
  rw [if_neg (fun z => z.elim e012 e3)] at hF
  simp only [if_neg e0, if_neg e1, if_neg e2, if_neg e3]
  obtain ⟨hx, hx2⟩ := ib_rule (eq_true_of_ne_false e0)
  obtain ⟨hm, ha, hm2, ha2⟩ := goal_of e12
  generalize ixI x = r at *
  generalize ixI m = md at *
  generalize ixI a = am at *
  subst hx
  subst hm
  subst ha
  obtain ⟨σ1, c1, h1, sc1, -⟩ := m_orders1 (d := d) (a := 100) hw (Or.inl rfl) hx2
  obtain ⟨σ2, c2, sc2, -⟩ := m_cost1 (d := d + 1) (a := 100) (sc1.vw hw) e3 (by omega) hm2 ha2 okO_OR h1
  simp (disch := omega) only [c1, c2, true_and, and_true, and_self, exists_eq_left, Option.toList_some, Option.toList_none, List.cons_append, List.nil_append, List.append_nil, i2_i, i2_r, i2_n, nz0, nz1, true_or, or_true, Nat.reduceAdd, Nat.le_refl, Nat.reduceLT, Nat.reduceLeDiff, ↓E_X7_cost_0, ↓E_X7_cost_1, ↓E_X7_cost_2, ↓E_X7_cost_3, ↓E_X7_cost_6, ↓E_X7_cost_9, ↓E_X7_cost_12, ↓E_X7_cost_13, ↓E_X7_cost_14, ↓E_X7_cost_15, ↓E_X7_cost_18, ↓E_X7_cost_21, ↓E_X7_cost_24, ↓E_X7_cost_25, ↓E_X7_cost_26, ↓E_X7_cost_27, ↓E_X7_cost_30, ↓E_X7_cost_33, ↓E_X7_cost_36, ↓E_X7_cost_37, ↓E_X7_cost_40, ↓E_X7_cost_43, ↓E_X7_cost_46, ↓E_X7_cost_47, ↓E_X7_cost_48, ↓E_X7_cost_49, ↓E_X7_cost_50, ↓E_X7_cost_53, ↓E_X7_cost_56, ↓E_X7_cost_57, ↓E_X7_cost_58, ↓E_X7_cost_61, ↓E_X7_cost_62, ↓E_X7_cost_63, ↓E_X7_cost_66, ↓E_X7_cost_67]
  subst hF
  exact ⟨σ2, rfl, (sc1.tr sc2).vw hw, (sc1.tr sc2).lo⟩
set_option maxHeartbeats 2000000 in
theorem m_plan {d : Nat} {n : Nat} {O P : Nat → Nat} {x : Int32} (hn : n ≤ 6) (hO : ∀ p, p < n → O p < n) (hP : ∀ p, p < n → P p < n) (σ0 : mx_S) (h0 : σ0.1 88 0 = nI n) (h1 : ∀ p, p < n → σ0.1 90 p = nI (O p)) (h2 : ∀ p, p < n → σ0.1 100 p = nI (P p)) : ∀ m t (σ : mx_S), t + m = n → (∀ p, p < t → σ.1 90 p = nI (P p)) → (∀ p, t ≤ p → σ.1 90 p = σ0.1 90 p) → (∀ i, i ≠ 90 → σ.1 i = σ0.1 i) → σ.2 = σ0.2 →
    ∃ σ', (∀ q, mx_run d m_X7_plan 38 [some (.ref 88), some (.int x), some (.int (nI (cnt (fun p => decide (P p ≠ O p)) t))), some (.int (nI t))] [] σ q ↔ q = (some (.int (nI (cnt (fun p => decide (P p ≠ O p)) n))), σ')) ∧ (∀ p, p < n → σ'.1 90 p = nI (P p)) ∧ (∀ i, i ≠ 90 → σ'.1 i = σ0.1 i) ∧ σ'.2 = σ0.2 := by
  intro m
  induction m with
  | zero =>
    intro t σ ht g1 g2 g3 g4
    have e : t = n := by omega
    subst e
    have h0' : σ.1 88 0 = nI t := by rw [g3 88 (by omega)]; exact h0
    refine ⟨σ, fun q => ?_, g1, g3, g4⟩
    rw [E_X7_plan_38]
    simp (disch := omega) only [true_and, and_true, and_self, exists_eq_left, Option.toList_some, Option.toList_none, List.cons_append, List.nil_append, List.append_nil, i2_i, i2_r, i2_n, nz0, nz1, true_or, or_true, Nat.reduceAdd, Nat.le_refl, Nat.reduceLT, Nat.reduceLeDiff, ↓E_X7_plan_0, ↓E_X7_plan_1, ↓E_X7_plan_2, ↓E_X7_plan_3, ↓E_X7_plan_6, ↓E_X7_plan_9, ↓E_X7_plan_12, ↓E_X7_plan_14, ↓E_X7_plan_15, ↓E_X7_plan_16, ↓E_X7_plan_19, ↓E_X7_plan_22, ↓E_X7_plan_24, ↓E_X7_plan_25, ↓E_X7_plan_26, ↓E_X7_plan_27, ↓E_X7_plan_28, ↓E_X7_plan_31, ↓E_X7_plan_34, ↓E_X7_plan_35, ↓E_X7_plan_36, ↓E_X7_plan_37, ↓E_X7_plan_39, ↓E_X7_plan_40, ↓E_X7_plan_43, ↓E_X7_plan_46, ↓E_X7_plan_47, ↓E_X7_plan_48, ↓E_X7_plan_51, ↓E_X7_plan_52, ↓E_X7_plan_53, ↓E_X7_plan_54, ↓E_X7_plan_57, ↓E_X7_plan_58, ↓E_X7_plan_59, ↓E_X7_plan_62, ↓E_X7_plan_63, ↓E_X7_plan_66, ↓E_X7_plan_67, ↓E_X7_plan_68, ↓E_X7_plan_69, ↓E_X7_plan_70, ↓E_X7_plan_73, ↓E_X7_plan_74, ↓E_X7_plan_75, ↓E_X7_plan_78, ↓E_X7_plan_79, ↓E_X7_plan_80, ↓E_X7_plan_81, ↓E_X7_plan_84, ↓E_X7_plan_87, ↓E_X7_plan_88, h0', leN, if_true]
  | succ m ih =>
    intro t σ ht g1 g2 g3 g4
    have h0' : σ.1 88 0 = nI n := by rw [g3 88 (by omega)]; exact h0
    have p1 : σ.1 100 t = nI (P t) := by rw [g3 100 (by omega)]; exact h2 t (by omega)
    have p2 : σ.1 90 t = nI (O t) := by rw [g2 t (by omega)]; exact h1 t (by omega)
    have b1 := hO t (by omega)
    have b2 := hP t (by omega)
    obtain ⟨σ', k1, k2⟩ := ih (t + 1) (mx_u σ.1 90 t (nI (P t)), σ.2) (by omega) (fun p hp => by
      by_cases e : p = t
      · subst e; simp only [uu_same]
      · simp (disch := omega) only [uu_col]; exact g1 p (by omega)) (fun p hp => by simp (disch := omega) only [uu_col]; exact g2 p (by omega)) (fun i hi => by show mx_u _ _ _ _ i = _; rw [mx_u_ne hi]; exact g3 i hi) g4
    refine ⟨σ', fun q => ?_, k2⟩
    rw [← k1 q]
    have st : cnt (fun p => decide (P p ≠ O p)) (t + 1) = cnt (fun p => decide (P p ≠ O p)) t + (if decide (P t ≠ O t) = true then 1 else 0) := rfl
    rw [st]
    conv => lhs; rw [E_X7_plan_38]
    simp (disch := omega) only [true_and, and_true, and_self, exists_eq_left, Option.toList_some, Option.toList_none, List.cons_append, List.nil_append, List.append_nil, i2_i, i2_r, i2_n, nz0, nz1, true_or, or_true, Nat.reduceAdd, Nat.le_refl, Nat.reduceLT, Nat.reduceLeDiff, ↓E_X7_plan_0, ↓E_X7_plan_1, ↓E_X7_plan_2, ↓E_X7_plan_3, ↓E_X7_plan_6, ↓E_X7_plan_9, ↓E_X7_plan_12, ↓E_X7_plan_14, ↓E_X7_plan_15, ↓E_X7_plan_16, ↓E_X7_plan_19, ↓E_X7_plan_22, ↓E_X7_plan_24, ↓E_X7_plan_25, ↓E_X7_plan_26, ↓E_X7_plan_27, ↓E_X7_plan_28, ↓E_X7_plan_31, ↓E_X7_plan_34, ↓E_X7_plan_35, ↓E_X7_plan_36, ↓E_X7_plan_37, ↓E_X7_plan_39, ↓E_X7_plan_40, ↓E_X7_plan_43, ↓E_X7_plan_46, ↓E_X7_plan_47, ↓E_X7_plan_48, ↓E_X7_plan_51, ↓E_X7_plan_52, ↓E_X7_plan_53, ↓E_X7_plan_54, ↓E_X7_plan_57, ↓E_X7_plan_58, ↓E_X7_plan_59, ↓E_X7_plan_62, ↓E_X7_plan_63, ↓E_X7_plan_66, ↓E_X7_plan_67, ↓E_X7_plan_68, ↓E_X7_plan_69, ↓E_X7_plan_70, ↓E_X7_plan_73, ↓E_X7_plan_74, ↓E_X7_plan_75, ↓E_X7_plan_78, ↓E_X7_plan_79, ↓E_X7_plan_80, ↓E_X7_plan_81, ↓E_X7_plan_84, ↓E_X7_plan_87, ↓E_X7_plan_88, kd_8, ln_6, h0', leN, if_neg (show ¬ n ≤ t by omega), vin, clN, p1, p2, eqN, nI_1]
    by_cases e : P t = O t
    · rw [show decide (P t ≠ O t) = false by simp [e]]
      simp only [if_pos e.symm, nI_p0]
      rfl
    · rw [show decide (P t ≠ O t) = true by simp [e]]
      simp only [if_neg (fun z : O t = P t => e z.symm), nI_1]
      rfl
set_option maxHeartbeats 2000000 in
theorem M_plan {d : Nat} {σ : mx_S} {w : Vw} {a : Int32} (hw : vwM w σ) : ∃ σ', mx_call (d + 5) m_X7_plan [.ref 88, .int a] σ (some (.int (F_plan w a).1), σ') ∧ vwM (F_plan w a).2 σ' ∧ loS σ σ' := by
  obtain ⟨S1, S2, S3, S4, S5⟩ := vwM_now hw
  have hn := hw.1.1.1
  generalize hF : F_plan w a = R
  simp (disch := omega) only [C_X7_plan, true_and, and_true, and_self, exists_eq_left, Option.toList_some, Option.toList_none, List.cons_append, List.nil_append, List.append_nil, i2_i, i2_r, i2_n, nz0, nz1, true_or, or_true, Nat.reduceAdd, Nat.le_refl, Nat.reduceLT, Nat.reduceLeDiff, ↓E_X7_plan_0, ↓E_X7_plan_1, ↓E_X7_plan_2, ↓E_X7_plan_3, ↓E_X7_plan_6, ↓E_X7_plan_9, ↓E_X7_plan_12, ↓E_X7_plan_14, ↓E_X7_plan_15, ↓E_X7_plan_16, ↓E_X7_plan_19, ↓E_X7_plan_22, ↓E_X7_plan_24, ↓E_X7_plan_26, ↓E_X7_plan_27, ↓E_X7_plan_28, ↓E_X7_plan_31, ↓E_X7_plan_34, ↓E_X7_plan_35, ↓E_X7_plan_36, ↓E_X7_plan_37, ↓E_X7_plan_38, ↓E_X7_plan_39, ↓E_X7_plan_40, ↓E_X7_plan_43, ↓E_X7_plan_46, ↓E_X7_plan_47, ↓E_X7_plan_48, ↓E_X7_plan_51, ↓E_X7_plan_52, ↓E_X7_plan_53, ↓E_X7_plan_54, ↓E_X7_plan_57, ↓E_X7_plan_58, ↓E_X7_plan_59, ↓E_X7_plan_62, ↓E_X7_plan_63, ↓E_X7_plan_66, ↓E_X7_plan_67, ↓E_X7_plan_68, ↓E_X7_plan_69, ↓E_X7_plan_70, ↓E_X7_plan_73, ↓E_X7_plan_74, ↓E_X7_plan_75, ↓E_X7_plan_78, ↓E_X7_plan_79, ↓E_X7_plan_80, ↓E_X7_plan_81, ↓E_X7_plan_84, ↓E_X7_plan_87, ↓E_X7_plan_88, s_in, inL_3, bz_0, S1, nI_eq0 hn]
  unfold F_plan at hF
  by_cases e0 : ibI a 4 = false
  · simp only [if_pos e0] at hF ⊢
    subst hF
    exact ⟨σ, rfl, hw, loS.rf⟩
  by_cases e1 : w.1.jn = 0
  · simp only [if_neg e0, if_pos e1] at hF ⊢
    subst hF
    exact ⟨σ, rfl, hw, loS.rf⟩
  simp only [if_neg e0, if_neg e1] at hF ⊢
  obtain ⟨ha, ha2⟩ := ib_rule (eq_true_of_ne_false e0)
  generalize ixI a = r at *
  subst ha
  obtain ⟨σ1, c1, h1, sc1, -⟩ := m_orders1 (d := d) (a := 100) hw (Or.inl rfl) ha2
  have hw1 := sc1.vw hw
  obtain ⟨T1, T2, T3, T4, T5⟩ := vwM_now hw1
  obtain ⟨σ2, c2, g1, g2, g3⟩ := m_plan (d := d + 4) (x := nI r) hn hw.1.1.2.2.2.2.1.1 okO_OR.1 σ1 T1 T5 h1 w.1.jn 0 σ1 (by omega) (fun p hp => by omega) (fun _ _ => rfl) (fun _ _ => rfl) rfl
  have c2' : ∀ q, mx_run (d + 4) m_X7_plan 38 [some (.ref 88), some (.int (nI r)), some (.int 0), some (.int 0)] [] σ1 q ↔ _ := c2
  simp (disch := omega) only [c1, true_and, and_true, and_self, exists_eq_left, Option.toList_some, Option.toList_none, List.cons_append, List.nil_append, List.append_nil, i2_i, i2_r, i2_n, nz0, nz1, true_or, or_true, Nat.reduceAdd, Nat.le_refl, Nat.reduceLT, Nat.reduceLeDiff, ↓E_X7_plan_0, ↓E_X7_plan_1, ↓E_X7_plan_2, ↓E_X7_plan_3, ↓E_X7_plan_6, ↓E_X7_plan_9, ↓E_X7_plan_12, ↓E_X7_plan_14, ↓E_X7_plan_15, ↓E_X7_plan_16, ↓E_X7_plan_19, ↓E_X7_plan_22, ↓E_X7_plan_24, ↓E_X7_plan_25, ↓E_X7_plan_26, ↓E_X7_plan_27, ↓E_X7_plan_28, ↓E_X7_plan_31, ↓E_X7_plan_34, ↓E_X7_plan_35, ↓E_X7_plan_36, ↓E_X7_plan_37, ↓E_X7_plan_39, ↓E_X7_plan_40, ↓E_X7_plan_43, ↓E_X7_plan_46, ↓E_X7_plan_47, ↓E_X7_plan_48, ↓E_X7_plan_51, ↓E_X7_plan_52, ↓E_X7_plan_53, ↓E_X7_plan_54, ↓E_X7_plan_57, ↓E_X7_plan_58, ↓E_X7_plan_59, ↓E_X7_plan_62, ↓E_X7_plan_63, ↓E_X7_plan_66, ↓E_X7_plan_67, ↓E_X7_plan_68, ↓E_X7_plan_69, ↓E_X7_plan_70, ↓E_X7_plan_73, ↓E_X7_plan_74, ↓E_X7_plan_75, ↓E_X7_plan_78, ↓E_X7_plan_79, ↓E_X7_plan_80, ↓E_X7_plan_81, ↓E_X7_plan_84, ↓E_X7_plan_87, ↓E_X7_plan_88, c2']
  subst hF
  have e9 : σ2 = (mx_c σ1.1 90 (σ2.1 90), σ1.2) := by
    refine Prod.ext ?_ g3
    funext i j
    show _ = mx_c σ1.1 90 (σ2.1 90) i j
    unfold mx_c
    by_cases e : i = 90
    · subst e; rw [if_pos rfl]
    · rw [if_neg e, g2 i e]
  have vO := vwM_O hw1 okO_OR g1
  rw [← e9] at vO
  exact ⟨σ2, rfl, vO.1, sc1.lo.tr vO.2⟩
/-! steps -/
def bA (s : BS) : Int32 := match s.2 with
  | none => -1
  | some x => nI x.1
def bB (s : BS) : Int32 := match s.2 with
  | none => -1
  | some x => nI x.2
def btU (c : Nat → Nat → Int) (k l : Nat) (s : BS) : BS := if c k l < s.1 then (c k l, some (k, l)) else s
theorem btT_2 {c : Nat → Nat → Int} {k l : Nat} {s : BS} : btT c 2 k l s = btU c k l s := by
  unfold btT btU
  by_cases h : c k l < s.1
  · rw [if_pos ⟨Or.inl rfl, h⟩, if_pos h]
  · rw [if_neg (fun z => h z.2), if_neg h]
theorem btL_one {c : Nat → Nat → Int} {mn k : Nat} {s : BS} (h : mn ≠ 2) : ∀ m, btL c mn k s m = if k + 1 < m then btU c k (k + 1) s else s
  | 0 => by rw [if_neg (by omega)]; rfl
  | m + 1 => by
    have ih := btL_one (c := c) (k := k) (s := s) h m
    have st : btL c mn k s (m + 1) = btT c mn k m (btL c mn k s m) := rfl
    rw [st, ih]
    by_cases e : m = k + 1
    · subst e
      rw [if_neg (by omega), if_pos (by omega)]
      unfold btT btU
      by_cases h : c k (k + 1) < s.1
      · rw [if_pos ⟨Or.inr rfl, h⟩, if_pos h]
      · rw [if_neg (fun z => h z.2), if_neg h]
    · have e9 : ∀ z, btT c mn k m z = z := fun z => if_neg (fun y => y.1.elim h e)
      rw [e9]
      by_cases e2 : k + 1 < m
      · rw [if_pos e2, if_pos (by omega)]
      · rw [if_neg e2, if_neg (by omega)]
theorem okB_U {w : Vw} (ok : okW w) {k l : Nat} {s : BS} (hk : k < w.1.jn) (hl : l < w.1.jn) (h : okB w.1.jn s) : okB w.1.jn (btU (CM w) k l s) := by
  unfold btU
  split
  · exact ⟨CM_le ok hk hl, fun x hx => by cases hx; exact ⟨hk, hl⟩⟩
  · exact h
set_option maxHeartbeats 2000000 in
theorem b_try {d k l : Nat} {mn : Int32} {σ : mx_S} {w : Vw} (hw : vwM w σ) (hk : k < w.1.jn) (hl : l < w.1.jn) (s : BS) (ok : okB w.1.jn s) : ∃ σ', (∀ q, mx_run (d + 4) m_X7_betters 68 [some (.ref 88), some (.int mn), some (.int (iN s.1)), some (.int (bA s)), some (.int (bB s)), some (.int (nI k)), some (.int (nI l))] [] σ q ↔ mx_run (d + 4) m_X7_betters 96 [some (.ref 88), some (.int mn), some (.int (iN (btU (CM w) k l s).1)), some (.int (bA (btU (CM w) k l s))), some (.int (bB (btU (CM w) k l s))), some (.int (nI k)), some (.int (nI l))] [] σ' q) ∧ scM σ σ' := by
  obtain ⟨σ1, c1, sc1⟩ := m_wouldCost (d := d) hw hk hl
  obtain ⟨σ2, c2, sc2⟩ := m_wouldCost (d := d) (sc1.vw hw) hk hl
  have b1 := CM_le hw.1 hk hl
  have b2 := ok.1
  unfold btU
  by_cases e : CM w k l < s.1
  · rw [if_pos e]
    refine ⟨σ2, fun q => ?_, sc1.tr sc2⟩
    simp (disch := omega) only [true_and, and_true, and_self, exists_eq_left, Option.toList_some, Option.toList_none, List.cons_append, List.nil_append, List.append_nil, i2_i, i2_r, i2_n, nz0, nz1, true_or, or_true, Nat.reduceAdd, Nat.le_refl, Nat.reduceLT, Nat.reduceLeDiff, ↓E_X7_betters_0, ↓E_X7_betters_1, ↓E_X7_betters_4, ↓E_X7_betters_5, ↓E_X7_betters_6, ↓E_X7_betters_7, ↓E_X7_betters_8, ↓E_X7_betters_10, ↓E_X7_betters_11, ↓E_X7_betters_13, ↓E_X7_betters_15, ↓E_X7_betters_16, ↓E_X7_betters_19, ↓E_X7_betters_22, ↓E_X7_betters_23, ↓E_X7_betters_24, ↓E_X7_betters_27, ↓E_X7_betters_28, ↓E_X7_betters_31, ↓E_X7_betters_33, ↓E_X7_betters_34, ↓E_X7_betters_35, ↓E_X7_betters_37, ↓E_X7_betters_39, ↓E_X7_betters_40, ↓E_X7_betters_43, ↓E_X7_betters_46, ↓E_X7_betters_47, ↓E_X7_betters_48, ↓E_X7_betters_51, ↓E_X7_betters_53, ↓E_X7_betters_55, ↓E_X7_betters_56, ↓E_X7_betters_57, ↓E_X7_betters_60, ↓E_X7_betters_61, ↓E_X7_betters_64, ↓E_X7_betters_65, ↓E_X7_betters_68, ↓E_X7_betters_69, ↓E_X7_betters_71, ↓E_X7_betters_73, ↓E_X7_betters_76, ↓E_X7_betters_77, ↓E_X7_betters_80, ↓E_X7_betters_81, ↓E_X7_betters_83, ↓E_X7_betters_85, ↓E_X7_betters_88, ↓E_X7_betters_89, ↓E_X7_betters_91, ↓E_X7_betters_92, ↓E_X7_betters_94, ↓E_X7_betters_99, ↓E_X7_betters_102, ↓E_X7_betters_105, ↓E_X7_betters_108, ↓E_X7_betters_109, ↓E_X7_betters_112, ↓E_X7_betters_113, ↓E_X7_betters_116, ↓E_X7_betters_117, ↓E_X7_betters_119, ↓E_X7_betters_122, ↓E_X7_betters_123, ↓E_X7_betters_126, ↓E_X7_betters_127, ↓E_X7_betters_130, ↓E_X7_betters_131, c1, c2, iN_le, iN_lt, if_neg (show ¬ s.1 ≤ CM w k l by omega), if_pos e]
    rfl
  · rw [if_neg e]
    refine ⟨σ1, fun q => ?_, sc1⟩
    simp (disch := omega) only [true_and, and_true, and_self, exists_eq_left, Option.toList_some, Option.toList_none, List.cons_append, List.nil_append, List.append_nil, i2_i, i2_r, i2_n, nz0, nz1, true_or, or_true, Nat.reduceAdd, Nat.le_refl, Nat.reduceLT, Nat.reduceLeDiff, ↓E_X7_betters_0, ↓E_X7_betters_1, ↓E_X7_betters_4, ↓E_X7_betters_5, ↓E_X7_betters_6, ↓E_X7_betters_7, ↓E_X7_betters_8, ↓E_X7_betters_10, ↓E_X7_betters_11, ↓E_X7_betters_13, ↓E_X7_betters_15, ↓E_X7_betters_16, ↓E_X7_betters_19, ↓E_X7_betters_22, ↓E_X7_betters_23, ↓E_X7_betters_24, ↓E_X7_betters_27, ↓E_X7_betters_28, ↓E_X7_betters_31, ↓E_X7_betters_33, ↓E_X7_betters_34, ↓E_X7_betters_35, ↓E_X7_betters_37, ↓E_X7_betters_39, ↓E_X7_betters_40, ↓E_X7_betters_43, ↓E_X7_betters_46, ↓E_X7_betters_47, ↓E_X7_betters_48, ↓E_X7_betters_51, ↓E_X7_betters_53, ↓E_X7_betters_55, ↓E_X7_betters_56, ↓E_X7_betters_57, ↓E_X7_betters_60, ↓E_X7_betters_61, ↓E_X7_betters_64, ↓E_X7_betters_65, ↓E_X7_betters_68, ↓E_X7_betters_69, ↓E_X7_betters_71, ↓E_X7_betters_73, ↓E_X7_betters_76, ↓E_X7_betters_77, ↓E_X7_betters_81, ↓E_X7_betters_83, ↓E_X7_betters_85, ↓E_X7_betters_88, ↓E_X7_betters_89, ↓E_X7_betters_91, ↓E_X7_betters_92, ↓E_X7_betters_94, ↓E_X7_betters_99, ↓E_X7_betters_102, ↓E_X7_betters_105, ↓E_X7_betters_108, ↓E_X7_betters_109, ↓E_X7_betters_112, ↓E_X7_betters_113, ↓E_X7_betters_116, ↓E_X7_betters_117, ↓E_X7_betters_119, ↓E_X7_betters_122, ↓E_X7_betters_123, ↓E_X7_betters_126, ↓E_X7_betters_127, ↓E_X7_betters_130, ↓E_X7_betters_131, c1, iN_le, iN_lt, if_pos (show s.1 ≤ CM w k l by omega), if_neg e]
