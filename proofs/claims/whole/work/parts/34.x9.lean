/-! ===== the class: orders by a rule ===== -/
set_option maxHeartbeats 2000000 in
theorem l_orderBy {d : Nat} {n r : Nat} {V : Nat → Nat → Nat} (hn : n ≤ 6) (hr : r ≤ 3) (hV : okV n V) (σ0 : mx_S) (h0 : σ0.1 1 0 = nI n) (hR : ∀ j k, j < n → k < 6 → σ0.1 (1 + 2 + j) k = nI (V j k)) : ∀ m t (σ : mx_S), t + m = n → (∀ j, j < t → σ.1 46 (PB V r n j) = nI j) → (∀ i, i ≠ 46 → σ.1 i = σ0.1 i) → σ.2 = σ0.2 →
    ∃ σ', mx_run (d + 2) m_X3_orderBy 2 [some (.ref 1), some (.int (nI r)), some (.ref 46), some (.int (nI t))] [] σ (none, σ') ∧ (∀ j, j < n → σ'.1 46 (PB V r n j) = nI j) ∧ (∀ i, i ≠ 46 → σ'.1 i = σ0.1 i) ∧ σ'.2 = σ0.2 := by
  intro m
  induction m with
  | zero =>
    intro t σ ht h1 h2 h3
    have e : t = n := by omega
    subst e
    have h0' : σ.1 1 0 = nI t := by rw [h2 1 (by omega)]; exact h0
    simp only [E_X3_orderBy_2]
    simp (disch := omega) only [true_and, and_true, and_self, exists_eq_left, Option.toList_some, Option.toList_none, List.cons_append, List.nil_append, List.append_nil, i2_i, i2_r, i2_n, nz0, nz1, true_or, or_true, Nat.reduceAdd, Nat.le_refl, Nat.reduceLT, Nat.reduceLeDiff, ↓E_X3_orderBy_0, ↓E_X3_orderBy_1, ↓E_X3_orderBy_3, ↓E_X3_orderBy_4, ↓E_X3_orderBy_7, ↓E_X3_orderBy_10, ↓E_X3_orderBy_11, ↓E_X3_orderBy_12, ↓E_X3_orderBy_13, ↓E_X3_orderBy_14, ↓E_X3_orderBy_17, ↓E_X3_orderBy_18, ↓E_X3_orderBy_19, ↓E_X3_orderBy_22, ↓E_X3_orderBy_25, kd_3, h0', leN, if_true]
    exact ⟨σ, rfl, h1, h2, h3⟩
  | succ m ih =>
    intro t σ ht h1 h2 h3
    have h0' : σ.1 1 0 = nI n := by rw [h2 1 (by omega)]; exact h0
    have hp := PB_lt (V := V) (r := r) (show t < n by omega)
    simp only [E_X3_orderBy_2]
    simp (disch := omega) only [true_and, and_true, and_self, exists_eq_left, Option.toList_some, Option.toList_none, List.cons_append, List.nil_append, List.append_nil, i2_i, i2_r, i2_n, nz0, nz1, true_or, or_true, Nat.reduceAdd, Nat.le_refl, Nat.reduceLT, Nat.reduceLeDiff, ↓E_X3_orderBy_0, ↓E_X3_orderBy_1, ↓E_X3_orderBy_3, ↓E_X3_orderBy_4, ↓E_X3_orderBy_7, ↓E_X3_orderBy_10, ↓E_X3_orderBy_11, ↓E_X3_orderBy_12, ↓E_X3_orderBy_13, ↓E_X3_orderBy_14, ↓E_X3_orderBy_17, ↓E_X3_orderBy_18, ↓E_X3_orderBy_19, ↓E_X3_orderBy_22, ↓E_X3_orderBy_25, kd_3, kd_8, ln_6, h0', leN, s_placeBy (h := 1) (Or.inl rfl) hn (show t < n by omega) hr hV h0' (fun j k hj hk => by rw [h2 _ (by omega)]; exact hR j k hj hk), vin, clN, nI_1]
    simp only [if_neg (show ¬ n ≤ t by omega)]
    refine ih (t + 1) _ (by omega) (fun j hj => ?_) (fun i hi => by show mx_u _ _ _ _ i = _; rw [mx_u_ne hi]; exact h2 i hi) h3
    by_cases e : j = t
    · subst e; simp only [uu_same]
    · have : PB V r n j ≠ PB V r n t := fun z => e ((okO_PB (V := V) (r := r)).2 j t (by omega) (by omega) z)
      simp (disch := assumption) only [uu_col]
      exact h1 j (by omega)
set_option maxHeartbeats 2000000 in
theorem s_orderBy {d : Nat} {σ : mx_S} {w : Vw} {r : Nat} (hw : vwX w σ) (hr : r ≤ 3) : ∃ σ', mx_call (d + 3) m_X3_orderBy [.ref 1, .int (nI r), .ref 46] σ (none, σ') ∧ (∀ p, p < w.1.jn → σ'.1 46 p = nI (OR w.1.V r w.1.jn p)) ∧ (∀ i, i ≠ 46 → σ'.1 i = σ.1 i) ∧ σ'.2 = σ.2 := by
  obtain ⟨S1, S2, S3, S4, S5⟩ := vwX_now hw
  obtain ⟨σ', c, h1, h2, h3⟩ := l_orderBy (d := d) hw.1.1.1 hr (okV_of hw.1.1.2.2.2.1) σ S1 S4 w.1.jn 0 σ (by omega) (fun j hj => by omega) (fun _ _ => rfl) rfl
  refine ⟨σ', ?_, fun p hp => ?_, h2, h3⟩
  · simp (disch := omega) only [C_X3_orderBy, true_and, and_true, and_self, exists_eq_left, Option.toList_some, Option.toList_none, List.cons_append, List.nil_append, List.append_nil, i2_i, i2_r, i2_n, nz0, nz1, true_or, or_true, Nat.reduceAdd, Nat.le_refl, Nat.reduceLT, Nat.reduceLeDiff, ↓E_X3_orderBy_0, ↓E_X3_orderBy_1, ↓E_X3_orderBy_3, ↓E_X3_orderBy_4, ↓E_X3_orderBy_7, ↓E_X3_orderBy_10, ↓E_X3_orderBy_11, ↓E_X3_orderBy_12, ↓E_X3_orderBy_13, ↓E_X3_orderBy_14, ↓E_X3_orderBy_17, ↓E_X3_orderBy_18, ↓E_X3_orderBy_19, ↓E_X3_orderBy_22, ↓E_X3_orderBy_25]
    exact c
  · obtain ⟨g1, g2⟩ := OR_ok (V := w.1.V) (r := r) hp
    have := h1 _ g1
    rwa [g2] at this
theorem sc46 {σ σ' : mx_S} (h : ∀ i, i ≠ 46 → σ'.1 i = σ.1 i) (h2 : σ'.2 = σ.2) : scX σ σ' := ⟨fun i hi => h i (by omega), h2⟩
theorem ib_rule {x : Int32} (h : ibI x 4 = true) : x = nI (ixI x) ∧ ixI x ≤ 3 := by
  obtain ⟨a, b, c⟩ := ibI_of h
  exact ⟨a, by omega⟩
def F_ruled (w : Vw) (x p : Int32) : Int32 := if (ibI x 4 && ibI p w.1.jn) = false then -1 else nI (OR w.1.V (ixI x) w.1.jn (ixI p))
set_option maxHeartbeats 2000000 in
theorem X_ruled {d : Nat} {σ : mx_S} {w : Vw} {a b : Int32} (hw : vwX w σ) : ∃ σ', mx_call (d + 4) m_X6_ruled [.ref 0, .int a, .int b] σ (some (.int (F_ruled w a b)), σ') ∧ vwX w σ' ∧ hiS σ σ' := by
  obtain ⟨S1, S2, S3, S4, S5⟩ := vwX_now hw
  have hn := hw.1.1.1
  generalize hF : F_ruled w a b = R
  simp (disch := omega) only [C_X6_ruled, true_and, and_true, and_self, exists_eq_left, Option.toList_some, Option.toList_none, List.cons_append, List.nil_append, List.append_nil, i2_i, i2_r, i2_n, nz0, nz1, true_or, or_true, Nat.reduceAdd, Nat.le_refl, Nat.reduceLT, Nat.reduceLeDiff, ↓E_X6_ruled_0, ↓E_X6_ruled_1, ↓E_X6_ruled_2, ↓E_X6_ruled_5, ↓E_X6_ruled_8, ↓E_X6_ruled_9, ↓E_X6_ruled_10, ↓E_X6_ruled_13, ↓E_X6_ruled_16, ↓E_X6_ruled_19, ↓E_X6_ruled_22, ↓E_X6_ruled_23, ↓E_X6_ruled_24, ↓E_X6_ruled_25, ↓E_X6_ruled_28, ↓E_X6_ruled_29, ↓E_X6_ruled_30, ↓E_X6_ruled_33, ↓E_X6_ruled_36, ↓E_X6_ruled_37, ↓E_X6_ruled_40, ↓E_X6_ruled_41, ↓E_X6_ruled_42, s_isBelow, bz_0, kd_3, S1, ibx_N, ibx_4]
  unfold F_ruled at hF
  by_cases e0 : ibI a 4 = false
  · simp only [if_pos e0, e0, Bool.false_and, if_true] at hF ⊢
    subst hF
    exact ⟨σ, rfl, hw, hiS.rf⟩
  by_cases e1 : ibI b w.1.jn = false
  · simp only [if_neg e0, if_pos e1, e1, Bool.and_false, if_true] at hF ⊢
    subst hF
    exact ⟨σ, rfl, hw, hiS.rf⟩
  have e01 : ¬ (ibI a 4 && ibI b w.1.jn) = false := by rw [eq_true_of_ne_false e0, eq_true_of_ne_false e1]; decide
  simp only [if_neg e0, if_neg e1, if_neg e01] at hF ⊢
  obtain ⟨ha, ha2⟩ := ib_rule (eq_true_of_ne_false e0)
  obtain ⟨hb, hb2, hb3⟩ := ibI_of (eq_true_of_ne_false e1)
  generalize ixI a = r at *
  generalize ixI b = p at *
  subst ha
  subst hb
  obtain ⟨σ', c, h1, h2, h3⟩ := s_orderBy (d := d) hw ha2
  have sc := sc46 h2 h3
  simp (disch := omega) only [mx_one c, true_and, and_true, and_self, exists_eq_left, Option.toList_some, Option.toList_none, List.cons_append, List.nil_append, List.append_nil, i2_i, i2_r, i2_n, nz0, nz1, true_or, or_true, Nat.reduceAdd, Nat.le_refl, Nat.reduceLT, Nat.reduceLeDiff, ↓E_X6_ruled_0, ↓E_X6_ruled_1, ↓E_X6_ruled_2, ↓E_X6_ruled_5, ↓E_X6_ruled_8, ↓E_X6_ruled_9, ↓E_X6_ruled_10, ↓E_X6_ruled_13, ↓E_X6_ruled_16, ↓E_X6_ruled_19, ↓E_X6_ruled_22, ↓E_X6_ruled_23, ↓E_X6_ruled_24, ↓E_X6_ruled_25, ↓E_X6_ruled_28, ↓E_X6_ruled_29, ↓E_X6_ruled_30, ↓E_X6_ruled_33, ↓E_X6_ruled_36, ↓E_X6_ruled_37, ↓E_X6_ruled_40, ↓E_X6_ruled_41, ↓E_X6_ruled_42, kd_8, ln_6, vin, clN, h1 p hb2]
  subst hF
  exact ⟨σ', rfl, sc.vw hw, sc.hi⟩
theorem s_isGoal {d : Nat} {σ : mx_S} {q : mx_R} {a b : Int32} : mx_call (d + 2) m_X6_isGoal [.int a, .int b] σ q ↔ q = (some (.int (bz (ibI a 3 && ibI b 3))), σ) := by
  simp (disch := omega) only [C_X6_isGoal, true_and, and_true, and_self, exists_eq_left, Option.toList_some, Option.toList_none, List.cons_append, List.nil_append, List.append_nil, i2_i, i2_r, i2_n, nz0, nz1, true_or, or_true, Nat.reduceAdd, Nat.le_refl, Nat.reduceLT, Nat.reduceLeDiff, ↓E_X6_isGoal_0, ↓E_X6_isGoal_1, ↓E_X6_isGoal_2, ↓E_X6_isGoal_5, ↓E_X6_isGoal_8, ↓E_X6_isGoal_9, ↓E_X6_isGoal_10, ↓E_X6_isGoal_13, ↓E_X6_isGoal_16, ↓E_X6_isGoal_17, ↓E_X6_isGoal_20, ↓E_X6_isGoal_21, s_isBelow, bz_0, ibx_3]
  by_cases e0 : ibI a 3 = false
  · simp only [if_pos e0, e0, Bool.false_and]; rfl
  · by_cases e1 : ibI b 3 = false
    · simp only [if_neg e0, if_pos e1, e1, Bool.and_false]; rfl
    · simp only [if_neg e0, if_neg e1, eq_true_of_ne_false e0, eq_true_of_ne_false e1, Bool.and_self]; rfl
def F_cost (w : Vw) (x m a : Int32) : Int64 := if (ibI x 4 && (ibI m 3 && ibI a 3)) = false ∨ w.1.jn = 0 then NO else (iN (CST w.1.V (ixI m) (ixI a) (OR w.1.V (ixI x) w.1.jn) w.1.jn)).toInt64
theorem nI_eq0 {n : Nat} (h : n ≤ 6) : (nI n = 0) = (n = 0) := eqN (b := 0) (by omega) (by omega)
set_option maxHeartbeats 2000000 in
theorem X_cost {d : Nat} {σ : mx_S} {w : Vw} {x m a : Int32} (hw : vwX w σ) : ∃ σ', mx_call (d + 4) m_X6_cost [.ref 0, .int x, .int m, .int a] σ (some (.long (F_cost w x m a)), σ') ∧ vwX w σ' ∧ hiS σ σ' := by
  obtain ⟨S1, S2, S3, S4, S5⟩ := vwX_now hw
  have hn := hw.1.1.1
  generalize hF : F_cost w x m a = R
  simp (disch := omega) only [C_X6_cost, true_and, and_true, and_self, exists_eq_left, Option.toList_some, Option.toList_none, List.cons_append, List.nil_append, List.append_nil, i2_i, i2_r, i2_n, nz0, nz1, true_or, or_true, Nat.reduceAdd, Nat.le_refl, Nat.reduceLT, Nat.reduceLeDiff, ↓E_X6_cost_0, ↓E_X6_cost_1, ↓E_X6_cost_2, ↓E_X6_cost_5, ↓E_X6_cost_8, ↓E_X6_cost_9, ↓E_X6_cost_10, ↓E_X6_cost_13, ↓E_X6_cost_16, ↓E_X6_cost_17, ↓E_X6_cost_20, ↓E_X6_cost_23, ↓E_X6_cost_26, ↓E_X6_cost_29, ↓E_X6_cost_30, ↓E_X6_cost_31, ↓E_X6_cost_34, ↓E_X6_cost_35, ↓E_X6_cost_36, ↓E_X6_cost_39, ↓E_X6_cost_42, ↓E_X6_cost_43, ↓E_X6_cost_44, ↓E_X6_cost_47, ↓E_X6_cost_48, ↓E_X6_cost_51, ↓E_X6_cost_52, ↓E_X6_cost_53, ↓E_X6_cost_56, ↓E_X6_cost_57, s_isBelow, s_isGoal, bz_0, kd_3, S1, ibx_4, nI_eq0 hn]
  unfold F_cost NO at hF
  by_cases e0 : ibI x 4 = false
  · simp only [if_pos e0, e0, Bool.false_and, true_or, if_true] at hF ⊢
    subst hF
    exact ⟨σ, rfl, hw, hiS.rf⟩
  by_cases e1 : (ibI m 3 && ibI a 3) = false
  · simp only [if_neg e0, if_pos e1, e1, Bool.and_false, true_or, if_true] at hF ⊢
    subst hF
    exact ⟨σ, rfl, hw, hiS.rf⟩
  have e01 : ¬ (ibI x 4 && (ibI m 3 && ibI a 3)) = false := by rw [eq_true_of_ne_false e0, eq_true_of_ne_false e1]; decide
  by_cases e2 : w.1.jn = 0
  · rw [if_pos (Or.inr e2)] at hF
    simp only [if_neg e0, if_neg e1, if_pos e2]
    subst hF
    exact ⟨σ, rfl, hw, hiS.rf⟩
  have e012 : ¬ ((ibI x 4 && (ibI m 3 && ibI a 3)) = false ∨ w.1.jn = 0) := fun z => z.elim e01 e2
  simp only [if_neg e0, if_neg e1, if_neg e2, if_neg e012] at hF ⊢
  have e1t := eq_true_of_ne_false e1
  rw [Bool.and_eq_true] at e1t
  obtain ⟨hx, hx2⟩ := ib_rule (eq_true_of_ne_false e0)
  obtain ⟨hm, hm2, hm3⟩ := ibI_of e1t.1
  obtain ⟨ha, ha2, ha3⟩ := ibI_of e1t.2
  generalize ixI x = r at *
  generalize ixI m = md at *
  generalize ixI a = am at *
  subst hx
  subst hm
  subst ha
  obtain ⟨σ1, c1, h1, h2, h3⟩ := s_orderBy (d := d) hw hx2
  have sc1 := sc46 h2 h3
  obtain ⟨σ2, c2, g1, g2⟩ := s_cost1 (d := d + 1) (a := 46) (md := md) (am := am) (O := OR w.1.V r w.1.jn) (sc1.vw hw) (by omega) (by omega) (by omega) okO_OR.1 h1
  have sc2 := sc1.tr (sc47 g1 g2)
  simp (disch := omega) only [mx_one c1, mx_one c2, true_and, and_true, and_self, exists_eq_left, Option.toList_some, Option.toList_none, List.cons_append, List.nil_append, List.append_nil, i2_i, i2_r, i2_n, nz0, nz1, true_or, or_true, Nat.reduceAdd, Nat.le_refl, Nat.reduceLT, Nat.reduceLeDiff, ↓E_X6_cost_0, ↓E_X6_cost_1, ↓E_X6_cost_2, ↓E_X6_cost_5, ↓E_X6_cost_8, ↓E_X6_cost_9, ↓E_X6_cost_10, ↓E_X6_cost_13, ↓E_X6_cost_16, ↓E_X6_cost_17, ↓E_X6_cost_20, ↓E_X6_cost_23, ↓E_X6_cost_26, ↓E_X6_cost_29, ↓E_X6_cost_30, ↓E_X6_cost_31, ↓E_X6_cost_34, ↓E_X6_cost_35, ↓E_X6_cost_36, ↓E_X6_cost_39, ↓E_X6_cost_42, ↓E_X6_cost_43, ↓E_X6_cost_44, ↓E_X6_cost_47, ↓E_X6_cost_48, ↓E_X6_cost_51, ↓E_X6_cost_52, ↓E_X6_cost_53, ↓E_X6_cost_56, ↓E_X6_cost_57]
  subst hF
  exact ⟨σ2, rfl, sc2.vw hw, sc2.hi⟩
