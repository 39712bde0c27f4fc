/-! ===== the reference: least, best, fractions ===== -/
set_option maxHeartbeats 4000000 in
theorem M_least {d : Nat} {σ : mx_S} {w : Vw} {m a : Int32} (hw : vwM w σ) : ∃ σ', mx_call (d + 5) m_X7_least [.ref 88, .int m, .int a] σ (some (.long (F_least w m a)), σ') ∧ vwM w σ' ∧ loS σ σ' := by
  obtain ⟨S1, S2, S3, S4, S5⟩ := vwM_now hw
  have hn := hw.1.1.1
  generalize hF : F_least w m a = R
  unfold F_least NO at hF
  have hp : (nI w.1.jn ≤ (0 : Int32)) = (w.1.jn = 0) := by
    rw [show (0 : Int32) = nI 0 from rfl, leN (by omega) (by omega)]
    exact propext ⟨fun z => by omega, fun z => by omega⟩
  simp (disch := omega) only [C_X7_least, true_and, and_true, and_self, exists_eq_left, Option.toList_some, Option.toList_none, List.cons_append, List.nil_append, List.append_nil, i2_i, i2_r, i2_n, nz0, nz1, true_or, or_true, Nat.reduceAdd, Nat.le_refl, Nat.reduceLT, Nat.reduceLeDiff, ↓E_X7_least_0, ↓E_X7_least_1, ↓E_X7_least_2, ↓E_X7_least_3, ↓E_X7_least_6, ↓E_X7_least_9, ↓E_X7_least_12, ↓E_X7_least_13, ↓E_X7_least_14, ↓E_X7_least_15, ↓E_X7_least_18, ↓E_X7_least_21, ↓E_X7_least_24, ↓E_X7_least_25, ↓E_X7_least_28, ↓E_X7_least_32, ↓E_X7_least_33, ↓E_X7_least_34, ↓E_X7_least_37, ↓E_X7_least_38, ↓E_X7_least_41, ↓E_X7_least_44, s_in, inL_2, bz_0, S1, hp]
  by_cases e0 : ibI m 3 = false
  · rw [if_pos (Or.inl (by rw [e0]; rfl))] at hF
    simp only [if_pos e0]
    subst hF
    exact ⟨σ, rfl, hw, loS.rf⟩
  by_cases e1 : ibI a 3 = false
  · rw [if_pos (Or.inl (by rw [e1, Bool.and_false]))] at hF
    simp only [if_neg e0, if_pos e1]
    subst hF
    exact ⟨σ, rfl, hw, loS.rf⟩
  have e01 : ¬ (ibI m 3 && ibI a 3) = false := by rw [eq_true_of_ne_false e0, eq_true_of_ne_false e1]; decide
  simp only [if_neg e0, if_neg e1]
  by_cases e2 : w.1.jn = 0
  · rw [if_pos (Or.inr e2)] at hF
    simp only [if_pos e2]
    subst hF
    exact ⟨σ, rfl, hw, loS.rf⟩
  rw [if_neg (fun z => z.elim e01 e2)] at hF
  simp only [if_neg e2]
  obtain ⟨hm, ha, hm2, ha2⟩ := goal_of e01
  generalize ixI m = md at *
  generalize ixI a = am at *
  subst hm
  subst ha
  obtain ⟨σ1, c1, -, fr⟩ := m_finds (d := d) hn (show 0 < w.1.jn by omega) hm2 ha2 (okV_of hw.1.1.2.2.2.1) S1 S4
  simp (disch := omega) only [true_and, and_true, and_self, exists_eq_left, Option.toList_some, Option.toList_none, List.cons_append, List.nil_append, List.append_nil, i2_i, i2_r, i2_n, nz0, nz1, true_or, or_true, Nat.reduceAdd, Nat.le_refl, Nat.reduceLT, Nat.reduceLeDiff, ↓E_X7_least_0, ↓E_X7_least_1, ↓E_X7_least_2, ↓E_X7_least_3, ↓E_X7_least_6, ↓E_X7_least_9, ↓E_X7_least_12, ↓E_X7_least_13, ↓E_X7_least_14, ↓E_X7_least_15, ↓E_X7_least_18, ↓E_X7_least_21, ↓E_X7_least_24, ↓E_X7_least_25, ↓E_X7_least_28, ↓E_X7_least_31, ↓E_X7_least_32, ↓E_X7_least_33, ↓E_X7_least_34, ↓E_X7_least_37, ↓E_X7_least_38, ↓E_X7_least_41, ↓E_X7_least_44, c1]
  subst hF
  exact ⟨σ1, rfl, fr.M.vw hw, fr.M.lo⟩
set_option maxHeartbeats 4000000 in
theorem M_best {d : Nat} {σ : mx_S} {w : Vw} {m a p : Int32} (hw : vwM w σ) : ∃ σ', mx_call (d + 5) m_X7_best [.ref 88, .int m, .int a, .int p] σ (some (.int (F_best w m a p)), σ') ∧ vwM w σ' ∧ loS σ σ' := by
  obtain ⟨S1, S2, S3, S4, S5⟩ := vwM_now hw
  have hn := hw.1.1.1
  generalize hF : F_best w m a p = R
  unfold F_best at hF
  simp (disch := omega) only [C_X7_best, true_and, and_true, and_self, exists_eq_left, Option.toList_some, Option.toList_none, List.cons_append, List.nil_append, List.append_nil, i2_i, i2_r, i2_n, nz0, nz1, true_or, or_true, Nat.reduceAdd, Nat.le_refl, Nat.reduceLT, Nat.reduceLeDiff, ↓E_X7_best_0, ↓E_X7_best_1, ↓E_X7_best_2, ↓E_X7_best_3, ↓E_X7_best_6, ↓E_X7_best_9, ↓E_X7_best_12, ↓E_X7_best_13, ↓E_X7_best_14, ↓E_X7_best_15, ↓E_X7_best_18, ↓E_X7_best_21, ↓E_X7_best_24, ↓E_X7_best_26, ↓E_X7_best_27, ↓E_X7_best_28, ↓E_X7_best_29, ↓E_X7_best_32, ↓E_X7_best_35, ↓E_X7_best_36, ↓E_X7_best_38, ↓E_X7_best_39, ↓E_X7_best_40, ↓E_X7_best_43, ↓E_X7_best_44, ↓E_X7_best_45, ↓E_X7_best_48, ↓E_X7_best_49, ↓E_X7_best_50, s_in, inL_2, m_isJob hn S1, bz_0]
  by_cases e0 : ibI m 3 = false
  · rw [if_pos (by rw [e0]; rfl)] at hF
    simp only [if_pos e0]
    subst hF
    exact ⟨σ, rfl, hw, loS.rf⟩
  by_cases e1 : ibI a 3 = false
  · rw [if_pos (by rw [e1, Bool.and_false])] at hF
    simp only [if_neg e0, if_pos e1]
    subst hF
    exact ⟨σ, rfl, hw, loS.rf⟩
  have e01 : ¬ (ibI m 3 && ibI a 3) = false := by rw [eq_true_of_ne_false e0, eq_true_of_ne_false e1]; decide
  rw [if_neg e01] at hF
  simp only [if_neg e0, if_neg e1]
  by_cases e2 : ibI p w.1.jn = false
  · simp only [if_pos e2] at hF ⊢
    subst hF
    exact ⟨σ, rfl, hw, loS.rf⟩
  simp only [if_neg e2] at hF ⊢
  obtain ⟨hm, ha, hm2, ha2⟩ := goal_of e01
  obtain ⟨hp, hp2, hp3⟩ := ibI_of (eq_true_of_ne_false e2)
  generalize ixI m = md at *
  generalize ixI a = am at *
  generalize ixI p = k at *
  subst hm
  subst ha
  subst hp
  obtain ⟨σ1, c1, r1, fr⟩ := m_finds (d := d) hn (show 0 < w.1.jn by omega) hm2 ha2 (okV_of hw.1.1.2.2.2.1) S1 S4
  have cat : (Value.int (iN (bst (cst w.1.V md am) w.1.jn).1)).category = 1 := rfl
  simp (disch := first | omega | exact cat) only [true_and, and_true, and_self, exists_eq_left, Option.toList_some, Option.toList_none, List.cons_append, List.nil_append, List.append_nil, i2_i, i2_r, i2_n, nz0, nz1, true_or, or_true, Nat.reduceAdd, Nat.le_refl, Nat.reduceLT, Nat.reduceLeDiff, ↓E_X7_best_0, ↓E_X7_best_1, ↓E_X7_best_2, ↓E_X7_best_3, ↓E_X7_best_6, ↓E_X7_best_9, ↓E_X7_best_12, ↓E_X7_best_13, ↓E_X7_best_14, ↓E_X7_best_15, ↓E_X7_best_18, ↓E_X7_best_21, ↓E_X7_best_24, ↓E_X7_best_26, ↓E_X7_best_27, ↓E_X7_best_28, ↓E_X7_best_29, ↓E_X7_best_32, ↓E_X7_best_35, ↓E_X7_best_36, ↓E_X7_best_37, ↓E_X7_best_38, ↓E_X7_best_39, ↓E_X7_best_40, ↓E_X7_best_43, ↓E_X7_best_44, ↓E_X7_best_45, ↓E_X7_best_48, ↓E_X7_best_49, ↓E_X7_best_50, c1, kd_8, ln_6, vin, clN, r1, cat]
  subst hF
  exact ⟨σ1, rfl, fr.M.vw hw, fr.M.lo⟩
theorem lN0 {n : Nat} (h : n < 2147483648) : (lN n = 0) = (n = 0) := propext (lN_eq (a := n) (b := 0) h (by omega))
set_option maxHeartbeats 4000000 in
theorem m_lowest {d a b x : Nat} {σ : mx_S} {q : mx_R} (ha : a < 65536) (hb : b < 65536) (hb0 : 0 < b) (hx : x ≤ 1) : mx_call (d + 1) m_X7_lowest [.long (lN a), .long (lN b), .int (nI x)] σ q ↔ q = (some (.long (lN (frc a b x))), σ) := by
  have hx0 : (nI x = 0) = (x = 0) := nI_eq0 (by omega)
  have g0 : 0 < Nat.gcd a b := Nat.gcd_pos_of_pos_right a hb0
  have lp : ∀ (m Y X : Nat) (l9 l10 : Option Value), Y < m → X < 65536 → Y < 65536 → Nat.gcd X Y = Nat.gcd a b → (mx_run d m_X7_lowest 6 [some (.long (lN a)), none, some (.long (lN b)), none, some (.int (nI x)), some (.long (lN X)), none, some (.long (lN Y)), none, l9, l10] [] σ q ↔ q = (some (.long (lN (frc a b x))), σ)) := by
    intro m
    induction m with
    | zero => intro Y X l9 l10 h; omega
    | succ m ih =>
      intro Y X l9 l10 h1 h2 h3 h4
      rw [E_X7_lowest_6]
      by_cases e : Y = 0
      · subst e
        rw [Nat.gcd_zero_right] at h4
        have hX : ¬ X = 0 := by omega
        simp (disch := omega) only [true_and, and_true, and_self, exists_eq_left, Option.toList_some, Option.toList_none, List.cons_append, List.nil_append, List.append_nil, i2_i, i2_r, i2_n, nz0, nz1, true_or, or_true, Nat.reduceAdd, Nat.le_refl, Nat.reduceLT, Nat.reduceLeDiff, ↓E_X7_lowest_0, ↓E_X7_lowest_1, ↓E_X7_lowest_3, ↓E_X7_lowest_4, ↓E_X7_lowest_8, ↓E_X7_lowest_9, ↓E_X7_lowest_10, ↓E_X7_lowest_15, ↓E_X7_lowest_17, ↓E_X7_lowest_18, ↓E_X7_lowest_20, ↓E_X7_lowest_22, ↓E_X7_lowest_24, ↓E_X7_lowest_26, ↓E_X7_lowest_28, ↓E_X7_lowest_31, ↓E_X7_lowest_33, ↓E_X7_lowest_36, ↓E_X7_lowest_37, ↓E_X7_lowest_40, ↓E_X7_lowest_41, ↓E_X7_lowest_43, ↓E_X7_lowest_44, lgc0, lN0, if_true, hx0]
        unfold frc
        rw [Nat.gcd_comm b a, ← h4]
        by_cases e2 : x = 0
        · simp only [if_pos e2, hX, not_false_eq_true, true_and, pk_lDiv (show a < 2 ^ 63 by omega) (show 0 < X by omega) (show X < 2 ^ 63 by omega)]
        · simp only [if_neg e2, hX, not_false_eq_true, true_and, pk_lDiv (show b < 2 ^ 63 by omega) (show 0 < X by omega) (show X < 2 ^ 63 by omega)]
      · have hlt : X % Y < Y := Nat.mod_lt X (by omega)
        simp (disch := omega) only [true_and, and_true, and_self, exists_eq_left, Option.toList_some, Option.toList_none, List.cons_append, List.nil_append, List.append_nil, i2_i, i2_r, i2_n, nz0, nz1, true_or, or_true, Nat.reduceAdd, Nat.le_refl, Nat.reduceLT, Nat.reduceLeDiff, ↓E_X7_lowest_0, ↓E_X7_lowest_1, ↓E_X7_lowest_3, ↓E_X7_lowest_4, ↓E_X7_lowest_8, ↓E_X7_lowest_9, ↓E_X7_lowest_10, ↓E_X7_lowest_13, ↓E_X7_lowest_15, ↓E_X7_lowest_17, ↓E_X7_lowest_18, ↓E_X7_lowest_20, ↓E_X7_lowest_22, ↓E_X7_lowest_24, ↓E_X7_lowest_26, ↓E_X7_lowest_28, ↓E_X7_lowest_33, ↓E_X7_lowest_36, ↓E_X7_lowest_37, ↓E_X7_lowest_40, ↓E_X7_lowest_41, ↓E_X7_lowest_43, ↓E_X7_lowest_44, lgc0, lN0, if_neg e, e, not_false_eq_true, pk_lRem (show X < 2 ^ 63 by omega) (show 0 < Y by omega) (show Y < 2 ^ 63 by omega)]
        refine ih (X % Y) Y _ _ (by omega) h3 (by omega) ?_
        rw [← h4, Nat.gcd_comm X Y, Nat.gcd_rec Y X, Nat.gcd_comm]
  simp (disch := omega) only [C_X7_lowest, true_and, and_true, and_self, exists_eq_left, Option.toList_some, Option.toList_none, List.cons_append, List.nil_append, List.append_nil, i2_i, i2_r, i2_n, nz0, nz1, true_or, or_true, Nat.reduceAdd, Nat.le_refl, Nat.reduceLT, Nat.reduceLeDiff, ↓E_X7_lowest_0, ↓E_X7_lowest_1, ↓E_X7_lowest_3, ↓E_X7_lowest_4, ↓E_X7_lowest_8, ↓E_X7_lowest_9, ↓E_X7_lowest_10, ↓E_X7_lowest_13, ↓E_X7_lowest_15, ↓E_X7_lowest_17, ↓E_X7_lowest_18, ↓E_X7_lowest_20, ↓E_X7_lowest_22, ↓E_X7_lowest_24, ↓E_X7_lowest_26, ↓E_X7_lowest_28, ↓E_X7_lowest_31, ↓E_X7_lowest_33, ↓E_X7_lowest_36, ↓E_X7_lowest_37, ↓E_X7_lowest_40, ↓E_X7_lowest_41, ↓E_X7_lowest_43, ↓E_X7_lowest_44]
  exact lp (b + 1) b a none none (by omega) ha hb rfl
set_option maxHeartbeats 4000000 in
theorem M_mean {d : Nat} {σ : mx_S} {w : Vw} {a : Int32} (hw : vwM w σ) : ∃ σ', mx_call (d + 4) m_X7_mean [.ref 88, .int a] σ (some (.long (F_mean w a)), σ') ∧ vwM w σ' ∧ loS σ σ' := by
  obtain ⟨S1, S2, S3, S4, S5⟩ := vwM_now hw
  have ok := hw.1.1
  have hn := ok.1
  generalize hF : F_mean w a = R
  unfold F_mean NO at hF
  have hp : (nI w.1.jn ≤ (0 : Int32)) = (w.1.jn = 0) := by
    rw [show (0 : Int32) = nI 0 from rfl, leN (by omega) (by omega)]
    exact propext ⟨fun z => by omega, fun z => by omega⟩
  simp (disch := omega) only [C_X7_mean, true_and, and_true, and_self, exists_eq_left, Option.toList_some, Option.toList_none, List.cons_append, List.nil_append, List.append_nil, i2_i, i2_r, i2_n, nz0, nz1, true_or, or_true, Nat.reduceAdd, Nat.le_refl, Nat.reduceLT, Nat.reduceLeDiff, ↓E_X7_mean_0, ↓E_X7_mean_1, ↓E_X7_mean_4, ↓E_X7_mean_7, ↓E_X7_mean_8, ↓E_X7_mean_9, ↓E_X7_mean_10, ↓E_X7_mean_11, ↓E_X7_mean_14, ↓E_X7_mean_18, ↓E_X7_mean_19, ↓E_X7_mean_22, ↓E_X7_mean_23, ↓E_X7_mean_26, ↓E_X7_mean_27, ↓E_X7_mean_30, ↓E_X7_mean_31, ↓E_X7_mean_32, ↓E_X7_mean_35, ↓E_X7_mean_36, ↓E_X7_mean_37, ↓E_X7_mean_40, ↓E_X7_mean_43, ↓E_X7_mean_46, s_in, inL_1, bz_0, S1, hp]
  by_cases e0 : w.1.jn = 0
  · rw [if_pos (Or.inl e0)] at hF
    simp only [if_pos e0]
    subst hF
    exact ⟨σ, rfl, hw, loS.rf⟩
  simp only [if_neg e0]
  by_cases e1 : ibI a 2 = false
  · rw [if_pos (Or.inr e1)] at hF
    simp only [if_pos e1]
    subst hF
    exact ⟨σ, rfl, hw, loS.rf⟩
  rw [if_neg (fun z => z.elim e0 e1)] at hF
  simp only [if_neg e1]
  obtain ⟨ha, ha2, ha3⟩ := ibI_of (eq_true_of_ne_false e1)
  generalize ixI a = x at *
  subst ha
  obtain ⟨σ1, c1, sc, -⟩ := m_cost1 (d := d) (a := 90) (md := w.1.md) (am := 1) (O := w.1.O) hw e0 (Or.inl rfl) ok.2.1 (by omega) ok.2.2.2.2.1 S5
  have fl := FL_le (md := w.1.md) hn (okV_of ok.2.2.2.1) ok.2.2.2.2.1.1 w.1.jn (Nat.le_refl _)
  have c1' : ∀ q, mx_call (d + 3) m_X7_costOf [.ref 88, .ref 90, .int (nI w.1.md), .int 1] σ q ↔ q = (some (.int (nI (FL w.1.V w.1.md w.1.O w.1.jn))), σ1) := c1
  obtain ⟨T1, -⟩ := vwM_now (sc.vw hw)
  have gf : frc (FL w.1.V w.1.md w.1.O w.1.jn) w.1.jn x < 2147483648 := by
    unfold frc
    split
    · exact Nat.lt_of_le_of_lt (Nat.div_le_self _ _) (by omega)
    · exact Nat.lt_of_le_of_lt (Nat.div_le_self _ _) (by omega)
  simp (disch := omega) only [c1', true_and, and_true, and_self, exists_eq_left, Option.toList_some, Option.toList_none, List.cons_append, List.nil_append, List.append_nil, i2_i, i2_r, i2_n, nz0, nz1, true_or, or_true, Nat.reduceAdd, Nat.le_refl, Nat.reduceLT, Nat.reduceLeDiff, ↓E_X7_mean_0, ↓E_X7_mean_1, ↓E_X7_mean_4, ↓E_X7_mean_7, ↓E_X7_mean_8, ↓E_X7_mean_9, ↓E_X7_mean_10, ↓E_X7_mean_11, ↓E_X7_mean_14, ↓E_X7_mean_17, ↓E_X7_mean_18, ↓E_X7_mean_19, ↓E_X7_mean_22, ↓E_X7_mean_23, ↓E_X7_mean_26, ↓E_X7_mean_27, ↓E_X7_mean_30, ↓E_X7_mean_31, ↓E_X7_mean_32, ↓E_X7_mean_35, ↓E_X7_mean_36, ↓E_X7_mean_37, ↓E_X7_mean_40, ↓E_X7_mean_43, ↓E_X7_mean_46, S2, T1, nI_l, m_lowest]
  subst hF
  refine ⟨σ1, ?_, sc.vw hw, sc.lo⟩
  rw [nI_l gf]
