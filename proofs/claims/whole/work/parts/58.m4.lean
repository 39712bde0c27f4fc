/-! ===== the reference: moves, tapes ===== -/
set_option maxHeartbeats 2000000 in
theorem m_shifts {d : Nat} {σ : mx_S} {q : mx_R} {a k l : Nat} (ha : a = 90 ∨ a = 100) (hk : k < 6) (hl : l < 6) : mx_call (d + 1) m_X7_shifts [.ref a, .int (nI k), .int (nI l)] σ q ↔ q = (none, (mx_c σ.1 a (fun p => σ.1 a (mvI k l p)), σ.2)) := by
  have up : ∀ m t, k + t + m = l → (mx_run d m_X7_shifts 19 [some (.ref a), some (.int (nI k)), some (.int (nI l)), some (.int (σ.1 a k)), some (.int 1), some (.int (nI (k + t)))] [] (mx_c σ.1 a (mvUp (σ.1 a) k t), σ.2) q ↔ mx_run d m_X7_shifts 46 [some (.ref a), some (.int (nI k)), some (.int (nI l)), some (.int (σ.1 a k)), some (.int 1), some (.int (nI l))] [] (mx_c σ.1 a (mvUp (σ.1 a) k (l - k)), σ.2) q) := by
    intro m
    induction m with
    | zero =>
      intro t ht
      rw [E_X7_shifts_19]
      simp (disch := omega) only [true_and, and_true, and_self, exists_eq_left, Option.toList_some, Option.toList_none, List.cons_append, List.nil_append, List.append_nil, i2_i, i2_r, i2_n, nz0, nz1, true_or, or_true, Nat.reduceAdd, Nat.le_refl, Nat.reduceLT, Nat.reduceLeDiff, ↓E_X7_shifts_0, ↓E_X7_shifts_1, ↓E_X7_shifts_2, ↓E_X7_shifts_3, ↓E_X7_shifts_4, ↓E_X7_shifts_5, ↓E_X7_shifts_6, ↓E_X7_shifts_9, ↓E_X7_shifts_10, ↓E_X7_shifts_13, ↓E_X7_shifts_14, ↓E_X7_shifts_16, ↓E_X7_shifts_17, ↓E_X7_shifts_21, ↓E_X7_shifts_22, ↓E_X7_shifts_25, ↓E_X7_shifts_26, ↓E_X7_shifts_28, ↓E_X7_shifts_29, ↓E_X7_shifts_31, ↓E_X7_shifts_33, ↓E_X7_shifts_34, ↓E_X7_shifts_35, ↓E_X7_shifts_36, ↓E_X7_shifts_38, ↓E_X7_shifts_40, ↓E_X7_shifts_41, ↓E_X7_shifts_43, ↓E_X7_shifts_47, ↓E_X7_shifts_48, ↓E_X7_shifts_49, ↓E_X7_shifts_50, eqN]
      rw [if_pos (show k + t = l by omega), show l - k = t by omega, show k + t = l by omega]
    | succ m ih =>
      intro t ht
      rw [E_X7_shifts_19]
      simp (disch := omega) only [true_and, and_true, and_self, exists_eq_left, Option.toList_some, Option.toList_none, List.cons_append, List.nil_append, List.append_nil, i2_i, i2_r, i2_n, nz0, nz1, true_or, or_true, Nat.reduceAdd, Nat.le_refl, Nat.reduceLT, Nat.reduceLeDiff, ↓E_X7_shifts_0, ↓E_X7_shifts_1, ↓E_X7_shifts_2, ↓E_X7_shifts_3, ↓E_X7_shifts_4, ↓E_X7_shifts_5, ↓E_X7_shifts_6, ↓E_X7_shifts_9, ↓E_X7_shifts_10, ↓E_X7_shifts_13, ↓E_X7_shifts_14, ↓E_X7_shifts_16, ↓E_X7_shifts_17, ↓E_X7_shifts_21, ↓E_X7_shifts_22, ↓E_X7_shifts_25, ↓E_X7_shifts_26, ↓E_X7_shifts_28, ↓E_X7_shifts_29, ↓E_X7_shifts_31, ↓E_X7_shifts_33, ↓E_X7_shifts_34, ↓E_X7_shifts_35, ↓E_X7_shifts_36, ↓E_X7_shifts_38, ↓E_X7_shifts_40, ↓E_X7_shifts_41, ↓E_X7_shifts_43, ↓E_X7_shifts_47, ↓E_X7_shifts_48, ↓E_X7_shifts_49, ↓E_X7_shifts_50, eqN, nI_1, kd_8, ln_6, vin, clN]
      rw [if_neg (by omega), mx_uc, cc_same, mvUp_s]
      exact ih (t + 1) (by omega)
  have dn : l ≤ k → ∀ m t, l + m + t = k → (mx_run d m_X7_shifts 19 [some (.ref a), some (.int (nI k)), some (.int (nI l)), some (.int (σ.1 a k)), some (.int (-1)), some (.int (nI (k - t)))] [] (mx_c σ.1 a (mvDn (σ.1 a) k t), σ.2) q ↔ mx_run d m_X7_shifts 46 [some (.ref a), some (.int (nI k)), some (.int (nI l)), some (.int (σ.1 a k)), some (.int (-1)), some (.int (nI l))] [] (mx_c σ.1 a (mvDn (σ.1 a) k (k - l)), σ.2) q) := by
    intro hlk m
    induction m with
    | zero =>
      intro t ht
      rw [E_X7_shifts_19]
      simp (disch := omega) only [true_and, and_true, and_self, exists_eq_left, Option.toList_some, Option.toList_none, List.cons_append, List.nil_append, List.append_nil, i2_i, i2_r, i2_n, nz0, nz1, true_or, or_true, Nat.reduceAdd, Nat.le_refl, Nat.reduceLT, Nat.reduceLeDiff, ↓E_X7_shifts_0, ↓E_X7_shifts_1, ↓E_X7_shifts_2, ↓E_X7_shifts_3, ↓E_X7_shifts_4, ↓E_X7_shifts_5, ↓E_X7_shifts_6, ↓E_X7_shifts_9, ↓E_X7_shifts_10, ↓E_X7_shifts_13, ↓E_X7_shifts_14, ↓E_X7_shifts_16, ↓E_X7_shifts_17, ↓E_X7_shifts_21, ↓E_X7_shifts_22, ↓E_X7_shifts_25, ↓E_X7_shifts_26, ↓E_X7_shifts_28, ↓E_X7_shifts_29, ↓E_X7_shifts_31, ↓E_X7_shifts_33, ↓E_X7_shifts_34, ↓E_X7_shifts_35, ↓E_X7_shifts_36, ↓E_X7_shifts_38, ↓E_X7_shifts_40, ↓E_X7_shifts_41, ↓E_X7_shifts_43, ↓E_X7_shifts_47, ↓E_X7_shifts_48, ↓E_X7_shifts_49, ↓E_X7_shifts_50, eqN]
      rw [if_pos (show k - t = l by omega), show k - l = t by omega, show k - t = l by omega]
    | succ m ih =>
      intro t ht
      have e2 : nI (k - t) + -1 = nI (k - t - 1) := by rw [show k - t = (k - t - 1) + 1 by omega, pk_m1]; rfl
      rw [E_X7_shifts_19]
      simp (disch := omega) only [true_and, and_true, and_self, exists_eq_left, Option.toList_some, Option.toList_none, List.cons_append, List.nil_append, List.append_nil, i2_i, i2_r, i2_n, nz0, nz1, true_or, or_true, Nat.reduceAdd, Nat.le_refl, Nat.reduceLT, Nat.reduceLeDiff, ↓E_X7_shifts_0, ↓E_X7_shifts_1, ↓E_X7_shifts_2, ↓E_X7_shifts_3, ↓E_X7_shifts_4, ↓E_X7_shifts_5, ↓E_X7_shifts_6, ↓E_X7_shifts_9, ↓E_X7_shifts_10, ↓E_X7_shifts_13, ↓E_X7_shifts_14, ↓E_X7_shifts_16, ↓E_X7_shifts_17, ↓E_X7_shifts_21, ↓E_X7_shifts_22, ↓E_X7_shifts_25, ↓E_X7_shifts_26, ↓E_X7_shifts_28, ↓E_X7_shifts_29, ↓E_X7_shifts_31, ↓E_X7_shifts_33, ↓E_X7_shifts_34, ↓E_X7_shifts_35, ↓E_X7_shifts_36, ↓E_X7_shifts_38, ↓E_X7_shifts_40, ↓E_X7_shifts_41, ↓E_X7_shifts_43, ↓E_X7_shifts_47, ↓E_X7_shifts_48, ↓E_X7_shifts_49, ↓E_X7_shifts_50, eqN, e2, kd_8, ln_6, vin, clN]
      rw [if_neg (by omega), mx_uc, cc_same, mvDn_s (by omega), show k - t - 1 = k - (t + 1) by omega]
      exact ih (t + 1) (by omega)
  have z1 : mvUp (σ.1 a) k 0 = σ.1 a := by funext p; unfold mvUp; rw [if_neg (by omega)]
  have z2 : mvDn (σ.1 a) k 0 = σ.1 a := by funext p; unfold mvDn; rw [if_neg (by omega)]
  simp (disch := omega) only [C_X7_shifts, true_and, and_true, and_self, exists_eq_left, Option.toList_some, Option.toList_none, List.cons_append, List.nil_append, List.append_nil, i2_i, i2_r, i2_n, nz0, nz1, true_or, or_true, Nat.reduceAdd, Nat.le_refl, Nat.reduceLT, Nat.reduceLeDiff, ↓E_X7_shifts_0, ↓E_X7_shifts_1, ↓E_X7_shifts_2, ↓E_X7_shifts_3, ↓E_X7_shifts_4, ↓E_X7_shifts_5, ↓E_X7_shifts_6, ↓E_X7_shifts_9, ↓E_X7_shifts_10, ↓E_X7_shifts_13, ↓E_X7_shifts_14, ↓E_X7_shifts_16, ↓E_X7_shifts_17, ↓E_X7_shifts_21, ↓E_X7_shifts_22, ↓E_X7_shifts_25, ↓E_X7_shifts_26, ↓E_X7_shifts_28, ↓E_X7_shifts_29, ↓E_X7_shifts_31, ↓E_X7_shifts_33, ↓E_X7_shifts_34, ↓E_X7_shifts_35, ↓E_X7_shifts_36, ↓E_X7_shifts_38, ↓E_X7_shifts_40, ↓E_X7_shifts_41, ↓E_X7_shifts_43, ↓E_X7_shifts_47, ↓E_X7_shifts_48, ↓E_X7_shifts_49, ↓E_X7_shifts_50, kd_8, ln_6, vin, clN, ltN, leN]
  by_cases hkl : k < l
  · have e := up (l - k) 0 (by omega)
    rw [z1, mx_c_id] at e
    have e : _ ↔ _ := e
    simp only [if_pos hkl, if_neg (show ¬ l ≤ k by omega)]
    refine e.trans ?_
    simp (disch := omega) only [true_and, and_true, and_self, exists_eq_left, Option.toList_some, Option.toList_none, List.cons_append, List.nil_append, List.append_nil, i2_i, i2_r, i2_n, nz0, nz1, true_or, or_true, Nat.reduceAdd, Nat.le_refl, Nat.reduceLT, Nat.reduceLeDiff, ↓E_X7_shifts_0, ↓E_X7_shifts_1, ↓E_X7_shifts_2, ↓E_X7_shifts_3, ↓E_X7_shifts_4, ↓E_X7_shifts_5, ↓E_X7_shifts_6, ↓E_X7_shifts_9, ↓E_X7_shifts_10, ↓E_X7_shifts_13, ↓E_X7_shifts_14, ↓E_X7_shifts_16, ↓E_X7_shifts_17, ↓E_X7_shifts_21, ↓E_X7_shifts_22, ↓E_X7_shifts_25, ↓E_X7_shifts_26, ↓E_X7_shifts_28, ↓E_X7_shifts_29, ↓E_X7_shifts_31, ↓E_X7_shifts_33, ↓E_X7_shifts_34, ↓E_X7_shifts_35, ↓E_X7_shifts_36, ↓E_X7_shifts_38, ↓E_X7_shifts_40, ↓E_X7_shifts_41, ↓E_X7_shifts_43, ↓E_X7_shifts_46, ↓E_X7_shifts_47, ↓E_X7_shifts_48, ↓E_X7_shifts_49, ↓E_X7_shifts_50, kd_8, ln_6, vin, clN]
    rw [mx_uc]
    have e9 : upd (mvUp (σ.1 a) k (l - k)) l (σ.1 a k) = fun p => σ.1 a (mvI k l p) := by
      funext p
      unfold upd mvUp mvI
      by_cases e : p = l
      · rw [if_pos e, if_pos e]
      · rw [if_neg e, if_neg e]
        by_cases h2 : k ≤ p ∧ p < l
        · rw [if_pos h2, if_pos (by omega)]
        · rw [if_neg h2, if_neg (by omega), if_neg (by omega)]
    rw [e9]
  · have e := dn (by omega) (k - l) 0 (by omega)
    rw [z2, mx_c_id] at e
    have e : _ ↔ _ := e
    simp only [if_neg hkl, if_pos (show l ≤ k by omega)]
    refine e.trans ?_
    simp (disch := omega) only [true_and, and_true, and_self, exists_eq_left, Option.toList_some, Option.toList_none, List.cons_append, List.nil_append, List.append_nil, i2_i, i2_r, i2_n, nz0, nz1, true_or, or_true, Nat.reduceAdd, Nat.le_refl, Nat.reduceLT, Nat.reduceLeDiff, ↓E_X7_shifts_0, ↓E_X7_shifts_1, ↓E_X7_shifts_2, ↓E_X7_shifts_3, ↓E_X7_shifts_4, ↓E_X7_shifts_5, ↓E_X7_shifts_6, ↓E_X7_shifts_9, ↓E_X7_shifts_10, ↓E_X7_shifts_13, ↓E_X7_shifts_14, ↓E_X7_shifts_16, ↓E_X7_shifts_17, ↓E_X7_shifts_21, ↓E_X7_shifts_22, ↓E_X7_shifts_25, ↓E_X7_shifts_26, ↓E_X7_shifts_28, ↓E_X7_shifts_29, ↓E_X7_shifts_31, ↓E_X7_shifts_33, ↓E_X7_shifts_34, ↓E_X7_shifts_35, ↓E_X7_shifts_36, ↓E_X7_shifts_38, ↓E_X7_shifts_40, ↓E_X7_shifts_41, ↓E_X7_shifts_43, ↓E_X7_shifts_46, ↓E_X7_shifts_47, ↓E_X7_shifts_48, ↓E_X7_shifts_49, ↓E_X7_shifts_50, kd_8, ln_6, vin, clN]
    rw [mx_uc]
    have e9 : upd (mvDn (σ.1 a) k (k - l)) l (σ.1 a k) = fun p => σ.1 a (mvI k l p) := by
      funext p
      unfold upd mvDn mvI
      by_cases e : p = l
      · rw [if_pos e, if_pos e]
      · rw [if_neg e, if_neg e]
        by_cases h2 : l < p ∧ p ≤ k
        · rw [if_pos (by omega), if_neg (by omega), if_pos h2]
        · rw [if_neg (by omega), if_neg (by omega), if_neg h2]
    rw [e9]
theorem vwM_O {w : Vw} {σ : mx_S} {O : Nat → Nat} {g : Nat → Int32} (hw : vwM w σ) (ok : okO w.1.jn O) (hg : ∀ p, p < w.1.jn → g p = nI (O p)) : vwM (setShp w w.1.jn w.1.md w.1.am w.1.V O) (mx_c σ.1 90 g, σ.2) ∧ loS σ (mx_c σ.1 90 g, σ.2) := by
  obtain ⟨S1, S2, S3, S4, S5⟩ := vwM_now hw
  have H1 := hw.1
  refine ⟨vwM_shp hw (okC_shp H1.1 H1.1.2.1 H1.1.2.2.1 H1.1.2.2.2.1 ok) ?_ ?_ ?_ ?_ ?_ ?_ (fun i h1 h2 => mx_c_ne (by omega)) rfl, fun i hi => ⟨mx_c_ne (by omega), rfl⟩⟩
  · simp (disch := omega) only [cc_row]; exact S1
  · simp (disch := omega) only [cc_row]; exact S2
  · simp (disch := omega) only [cc_row]; exact S3
  · intro j k hj hk; simp (disch := omega) only [cc_row]; exact S4 j k hj hk
  · intro p hp; simp only [cc_same]; exact hg p hp
  · intro k hk hk2; simp (disch := omega) only [cc_row]
set_option maxHeartbeats 2000000 in
theorem M_move {d : Nat} {σ : mx_S} {w : Vw} {a b : Int32} (hw : vwM w σ) : ∃ σ', mx_call (d + 3) m_X7_move [.ref 88, .int a, .int b] σ (some (.int (F_move w a b).1), σ') ∧ vwM (F_move w a b).2 σ' ∧ loS σ σ' := by
  obtain ⟨S1, S2, S3, S4, S5⟩ := vwM_now hw
  have H1 := hw.1
  have hn := H1.1.1
  have hO := H1.1.2.2.2.2.1
  simp (disch := omega) only [C_X7_move, true_and, and_true, and_self, exists_eq_left, Option.toList_some, Option.toList_none, List.cons_append, List.nil_append, List.append_nil, i2_i, i2_r, i2_n, nz0, nz1, true_or, or_true, Nat.reduceAdd, Nat.le_refl, Nat.reduceLT, Nat.reduceLeDiff, ↓E_X7_move_0, ↓E_X7_move_1, ↓E_X7_move_2, ↓E_X7_move_5, ↓E_X7_move_8, ↓E_X7_move_9, ↓E_X7_move_10, ↓E_X7_move_11, ↓E_X7_move_12, ↓E_X7_move_15, ↓E_X7_move_18, ↓E_X7_move_20, ↓E_X7_move_22, ↓E_X7_move_23, ↓E_X7_move_26, ↓E_X7_move_27, ↓E_X7_move_30, ↓E_X7_move_31, ↓E_X7_move_32, ↓E_X7_move_35, ↓E_X7_move_36, ↓E_X7_move_37, ↓E_X7_move_40, ↓E_X7_move_41, m_isJob hn S1, bz_0]
  unfold F_move
  by_cases e0 : ibI a w.1.jn = false
  · simp only [if_pos e0]
    exact ⟨σ, rfl, hw, loS.rf⟩
  by_cases e1 : ibI b w.1.jn = false
  · simp only [if_neg e0, if_pos e1]
    exact ⟨σ, rfl, hw, loS.rf⟩
  obtain ⟨ha, ha2, ha3⟩ := ibI_of (eq_true_of_ne_false e0)
  obtain ⟨hb, hb2, hb3⟩ := ibI_of (eq_true_of_ne_false e1)
  simp only [if_neg e0, if_neg e1]
  generalize ixI a = j at *
  generalize ixI b = l at *
  subst ha
  subst hb
  obtain ⟨hp, hp2⟩ := plc_ok hO ha2
  have cs := fun q => m_shifts (d := d + 1) (σ := σ) (q := q) (a := 90) (k := plc w.1.O j w.1.jn) (l := l) (Or.inl rfl) (by omega) (by omega)
  simp (disch := omega) only [true_and, and_true, and_self, exists_eq_left, Option.toList_some, Option.toList_none, List.cons_append, List.nil_append, List.append_nil, i2_i, i2_r, i2_n, nz0, nz1, true_or, or_true, Nat.reduceAdd, Nat.le_refl, Nat.reduceLT, Nat.reduceLeDiff, ↓E_X7_move_0, ↓E_X7_move_1, ↓E_X7_move_2, ↓E_X7_move_5, ↓E_X7_move_8, ↓E_X7_move_9, ↓E_X7_move_10, ↓E_X7_move_11, ↓E_X7_move_12, ↓E_X7_move_15, ↓E_X7_move_18, ↓E_X7_move_20, ↓E_X7_move_21, ↓E_X7_move_22, ↓E_X7_move_23, ↓E_X7_move_26, ↓E_X7_move_27, ↓E_X7_move_30, ↓E_X7_move_31, ↓E_X7_move_32, ↓E_X7_move_35, ↓E_X7_move_36, ↓E_X7_move_37, ↓E_X7_move_40, ↓E_X7_move_41, m_placeOf hn ha2 S5 hO, cs]
  refine ⟨_, rfl, vwM_O hw (okO_mv hO hp hb2) (fun p hp9 => ?_)⟩
  exact S5 _ (mvI_lt hp hb2 hp9)
theorem m_isPair {d : Nat} {σ : mx_S} {q : mx_R} {n : Nat} {x : Int32} (hn : n ≤ 6) (h0 : σ.1 88 0 = nI n) : mx_call (d + 1) m_X7_isPair [.ref 88, .int x] σ q ↔ q = (some (.int (bz (ibI x (n - 1)))), σ) := by
  simp (disch := omega) only [C_X7_isPair, true_and, and_true, and_self, exists_eq_left, Option.toList_some, Option.toList_none, List.cons_append, List.nil_append, List.append_nil, i2_i, i2_r, i2_n, nz0, nz1, true_or, or_true, Nat.reduceAdd, Nat.le_refl, Nat.reduceLT, Nat.reduceLeDiff, ↓E_X7_isPair_0, ↓E_X7_isPair_1, ↓E_X7_isPair_4, ↓E_X7_isPair_5, ↓E_X7_isPair_6, ↓E_X7_isPair_9, ↓E_X7_isPair_10, ↓E_X7_isPair_11, ↓E_X7_isPair_14, ↓E_X7_isPair_15, ↓E_X7_isPair_18, ↓E_X7_isPair_19, h0]
  have e1 : (nI n - 1).toInt = (n : Int) - 1 := by
    have := pk_sub_toInt (a := n) (b := 1) (by omega) (by omega)
    exact this
  simp only [ibI, l32, le32, e1]
  have e0 : (0 : Int32).toInt = 0 := rfl
  rw [e0]
  by_cases h1 : x.toInt < 0
  · rw [if_pos h1, show decide (0 ≤ x.toInt) = false by simp; omega]
    rfl
  · rw [if_neg h1, show decide (0 ≤ x.toInt) = true by simp; omega]
    by_cases h2 : (n : Int) - 1 ≤ x.toInt
    · rw [if_pos h2, show decide (x.toInt < ((n - 1 : Nat) : Int)) = false by simp; omega]
      rfl
    · rw [if_neg h2, show decide (x.toInt < ((n - 1 : Nat) : Int)) = true by simp; omega]
      rfl
set_option maxHeartbeats 2000000 in
theorem M_swap {d : Nat} {σ : mx_S} {w : Vw} {a : Int32} (hw : vwM w σ) : ∃ σ', mx_call (d + 2) m_X7_swap [.ref 88, .int a] σ (some (.int (F_swap w a).1), σ') ∧ vwM (F_swap w a).2 σ' ∧ loS σ σ' := by
  obtain ⟨S1, S2, S3, S4, S5⟩ := vwM_now hw
  have H1 := hw.1
  have hn := H1.1.1
  have hO := H1.1.2.2.2.2.1
  simp (disch := omega) only [C_X7_swap, true_and, and_true, and_self, exists_eq_left, Option.toList_some, Option.toList_none, List.cons_append, List.nil_append, List.append_nil, i2_i, i2_r, i2_n, nz0, nz1, true_or, or_true, Nat.reduceAdd, Nat.le_refl, Nat.reduceLT, Nat.reduceLeDiff, ↓E_X7_swap_0, ↓E_X7_swap_1, ↓E_X7_swap_2, ↓E_X7_swap_5, ↓E_X7_swap_8, ↓E_X7_swap_9, ↓E_X7_swap_11, ↓E_X7_swap_14, ↓E_X7_swap_15, ↓E_X7_swap_16, ↓E_X7_swap_17, ↓E_X7_swap_18, ↓E_X7_swap_21, ↓E_X7_swap_22, ↓E_X7_swap_25, ↓E_X7_swap_26, ↓E_X7_swap_27, m_isPair hn S1, bz_0]
  unfold F_swap
  by_cases e0 : ibI a (w.1.jn - 1) = false
  · simp only [if_pos e0]
    exact ⟨σ, rfl, hw, loS.rf⟩
  obtain ⟨ha, ha2, ha3⟩ := ibI_of (eq_true_of_ne_false e0)
  simp only [if_neg e0]
  generalize ixI a = k at *
  subst ha
  have hk1 : k < w.1.jn := by omega
  have hk2 : k + 1 < w.1.jn := by omega
  have cs := fun q => m_shifts (d := d) (σ := σ) (q := q) (a := 90) (k := k) (l := k + 1) (Or.inl rfl) (by omega) (by omega)
  simp (disch := omega) only [nI_1, cs, true_and, and_true, and_self, exists_eq_left, Option.toList_some, Option.toList_none, List.cons_append, List.nil_append, List.append_nil, i2_i, i2_r, i2_n, nz0, nz1, true_or, or_true, Nat.reduceAdd, Nat.le_refl, Nat.reduceLT, Nat.reduceLeDiff, ↓E_X7_swap_0, ↓E_X7_swap_1, ↓E_X7_swap_2, ↓E_X7_swap_5, ↓E_X7_swap_8, ↓E_X7_swap_9, ↓E_X7_swap_10, ↓E_X7_swap_11, ↓E_X7_swap_14, ↓E_X7_swap_15, ↓E_X7_swap_16, ↓E_X7_swap_17, ↓E_X7_swap_18, ↓E_X7_swap_21, ↓E_X7_swap_22, ↓E_X7_swap_25, ↓E_X7_swap_26, ↓E_X7_swap_27, kd_8, ln_6, vin, clN, cc_same]
  have e9 : mvI k (k + 1) k = k + 1 := by unfold mvI; rw [if_neg (by omega), if_pos (by omega)]
  rw [e9, S5 _ hk2]
  refine ⟨_, rfl, vwM_O hw (okO_mv hO hk1 hk2) (fun p hp9 => ?_)⟩
  exact S5 _ (mvI_lt hk1 hk2 hp9)
/-! tapes -/
theorem vwM_tp {w : Vw} {σ σ' : mx_S} {t : Nat} {z : Int32 × Nat × (Nat → Int64)} (H : vwM w σ) (ok : okT z) (h1 : σ'.1 111 t = z.1) (h2 : σ'.1 112 t = nI z.2.1) (h3 : ∀ i, i < 60 → σ'.2 (105 + t) i = z.2.2 i) (g1 : ∀ u, u ≠ t → σ'.1 111 u = σ.1 111 u) (g2 : ∀ u, u ≠ t → σ'.1 112 u = σ.1 112 u) (g3 : ∀ i, i ≠ 111 → i ≠ 112 → σ'.1 i = σ.1 i) (g4 : ∀ i, i ≤ 110 → i ≠ 105 + t → σ'.2 i = σ.2 i) : vwM (setTp w t z) σ' := by
  obtain ⟨H1, H2, H3, H4, H5⟩ := H
  refine ⟨⟨H1.1, H1.2.1, H1.2.2.1, fun u hu => ?_⟩, cfgM_agr (fun k hk => by rw [g3 88 (by omega) (by omega)]) (fun i _ _ => g3 i (by omega) (by omega)) H2, imgM_agr (by rw [g3 88 (by omega) (by omega)]) (g3 98 (by omega) (by omega)) H3, txtM_agr (by rw [g3 88 (by omega) (by omega)]) (g3 97 (by omega) (by omega)) H4, fun u hu => ?_⟩
  · show okT (if u = t then z else w.2.2.2 u)
    by_cases e : u = t
    · rw [if_pos e]; exact ok
    · rw [if_neg e]; exact H1.2.2.2 u hu
  · show _ = (if u = t then z else w.2.2.2 u).1 ∧ _ = nI (if u = t then z else w.2.2.2 u).2.1 ∧ ∀ i, i < 60 → _ = (if u = t then z else w.2.2.2 u).2.2 i
    by_cases e : u = t
    · subst e
      simp only [if_pos]
      exact ⟨h1, h2, h3⟩
    · simp only [if_neg e]
      rw [g1 u e, g2 u e, g4 (105 + u) (by omega) (by omega)]
      exact H5 u hu
theorem tapM_at {w : Vw} {σ : mx_S} (hw : vwM w σ) {t : Nat} (ht : t < 6) : σ.1 111 t = (w.2.2.2 t).1 ∧ σ.1 112 t = nI (w.2.2.2 t).2.1 ∧ (∀ i, i < 60 → σ.2 (105 + t) i = (w.2.2.2 t).2.2 i) ∧ (w.2.2.2 t).2.1 ≤ 60 := by
  obtain ⟨a, b, c⟩ := hw.2.2.2.2 t ht
  refine ⟨a, b, c, ?_⟩
  rcases hw.1.2.2.2 t ht with h | h
  · rw [h.2]; omega
  · exact h.2
theorem okT_sg {z : Int32 × Nat × (Nat → Int64)} (h : okT z) : (z.1 < 0) = (z.1 = -1) ∧ (0 ≤ z.1) = ¬ z.1 = -1 := by
  rcases h with h | h
  · rw [h.1]
    exact ⟨propext ⟨fun _ => rfl, fun _ => by decide⟩, propext ⟨fun z => absurd z (by decide), fun z => absurd rfl z⟩⟩
  · obtain ⟨k, hk, e⟩ := h.1
    rw [e]
    have h1 : ¬ nI k = -1 := fun z => nI_m1 (n := k) (by omega) z.symm
    exact ⟨propext ⟨fun z => absurd z (nI_neg (by omega)), fun z => absurd z h1⟩, propext ⟨fun _ => h1, fun _ => nI_nonneg (by omega)⟩⟩
theorem m_isTape {d : Nat} {σ : mx_S} {q : mx_R} {x : Int32} : mx_call (d + 2) m_X7_isTape [.int x] σ q ↔ q = (some (.int (bz (ibI x 6))), σ) := by
  simp (disch := omega) only [C_X7_isTape, true_and, and_true, and_self, exists_eq_left, Option.toList_some, Option.toList_none, List.cons_append, List.nil_append, List.append_nil, i2_i, i2_r, i2_n, nz0, nz1, true_or, or_true, Nat.reduceAdd, Nat.le_refl, Nat.reduceLT, Nat.reduceLeDiff, ↓E_X7_isTape_0, ↓E_X7_isTape_1, ↓E_X7_isTape_2, ↓E_X7_isTape_3, ↓E_X7_isTape_6, ↓E_X7_isTape_9, s_in, inL_5, nzb]
theorem inL_m1 {x : Int32} : inL x.toInt64 (-1) 4 = (decide (x = -1) || ibI x 5) := by
  unfold inL ibI
  rw [Int32.toInt_toInt64]
  have e1 : (-1 : Int64).toInt = -1 := rfl
  have e2 : (4 : Int64).toInt = 4 := rfl
  have e3 : (x = -1) = (x.toInt = -1) := by rw [eq32]; rfl
  rw [e1, e2, Bool.eq_iff_iff]
  simp only [Bool.and_eq_true, Bool.or_eq_true, decide_eq_true_eq, e3]
  omega
theorem ptrM {t : Nat} : mx_ptr 104 t = 105 + t := by unfold mx_ptr; simp
set_option maxHeartbeats 2000000 in
theorem m_zero {d t : Nat} {f : Nat → Nat → Int32} {τ : Nat → Nat → Int64} {q : mx_R} {b n : Int32} (ht : t < 6) : ∀ m k, k + m = 60 → (mx_run d m_X7_tape 72 [some (.ref 88), some (.int (nI t)), some (.int b), some (.int n), some (.int (nI k))] [] (f, mx_c τ (105 + t) (flL (τ (105 + t)) 0 k)) q ↔ q = (some (.int 1), (f, mx_c τ (105 + t) (flL (τ (105 + t)) 0 60)))) := by
  intro m
  induction m with
  | zero =>
    intro k hk
    have e : k = 60 := by omega
    subst e
    rw [E_X7_tape_72]
    simp (disch := omega) only [true_and, and_true, and_self, exists_eq_left, Option.toList_some, Option.toList_none, List.cons_append, List.nil_append, List.append_nil, i2_i, i2_r, i2_n, nz0, nz1, true_or, or_true, Nat.reduceAdd, Nat.le_refl, Nat.reduceLT, Nat.reduceLeDiff, ↓E_X7_tape_0, ↓E_X7_tape_1, ↓E_X7_tape_4, ↓E_X7_tape_7, ↓E_X7_tape_8, ↓E_X7_tape_9, ↓E_X7_tape_10, ↓E_X7_tape_11, ↓E_X7_tape_14, ↓E_X7_tape_17, ↓E_X7_tape_20, ↓E_X7_tape_23, ↓E_X7_tape_24, ↓E_X7_tape_27, ↓E_X7_tape_28, ↓E_X7_tape_30, ↓E_X7_tape_33, ↓E_X7_tape_35, ↓E_X7_tape_36, ↓E_X7_tape_37, ↓E_X7_tape_40, ↓E_X7_tape_41, ↓E_X7_tape_44, ↓E_X7_tape_46, ↓E_X7_tape_47, ↓E_X7_tape_48, ↓E_X7_tape_51, ↓E_X7_tape_52, ↓E_X7_tape_53, ↓E_X7_tape_54, ↓E_X7_tape_55, ↓E_X7_tape_58, ↓E_X7_tape_59, ↓E_X7_tape_60, ↓E_X7_tape_63, ↓E_X7_tape_64, ↓E_X7_tape_67, ↓E_X7_tape_68, ↓E_X7_tape_69, ↓E_X7_tape_70, ↓E_X7_tape_74, ↓E_X7_tape_76, ↓E_X7_tape_79, ↓E_X7_tape_80, ↓E_X7_tape_83, ↓E_X7_tape_84, ↓E_X7_tape_85, ↓E_X7_tape_87, ↓E_X7_tape_88, ↓E_X7_tape_89, ↓E_X7_tape_92, ↓E_X7_tape_95, ↓E_X7_tape_96, if_pos (show (60 : Int32) ≤ nI 60 by decide)]
  | succ m ih =>
    intro k hk
    have h60 : ¬ (60 : Int32) ≤ nI k := fun z => absurd ((nI_leI (a := 60) (b := k) (by omega) (by omega)).mp z) (by omega)
    rw [E_X7_tape_72]
    simp (disch := omega) only [true_and, and_true, and_self, exists_eq_left, Option.toList_some, Option.toList_none, List.cons_append, List.nil_append, List.append_nil, i2_i, i2_r, i2_n, nz0, nz1, true_or, or_true, Nat.reduceAdd, Nat.le_refl, Nat.reduceLT, Nat.reduceLeDiff, ↓E_X7_tape_0, ↓E_X7_tape_1, ↓E_X7_tape_4, ↓E_X7_tape_7, ↓E_X7_tape_8, ↓E_X7_tape_9, ↓E_X7_tape_10, ↓E_X7_tape_11, ↓E_X7_tape_14, ↓E_X7_tape_17, ↓E_X7_tape_20, ↓E_X7_tape_23, ↓E_X7_tape_24, ↓E_X7_tape_27, ↓E_X7_tape_28, ↓E_X7_tape_30, ↓E_X7_tape_33, ↓E_X7_tape_35, ↓E_X7_tape_36, ↓E_X7_tape_37, ↓E_X7_tape_40, ↓E_X7_tape_41, ↓E_X7_tape_44, ↓E_X7_tape_46, ↓E_X7_tape_47, ↓E_X7_tape_48, ↓E_X7_tape_51, ↓E_X7_tape_52, ↓E_X7_tape_53, ↓E_X7_tape_54, ↓E_X7_tape_55, ↓E_X7_tape_58, ↓E_X7_tape_59, ↓E_X7_tape_60, ↓E_X7_tape_63, ↓E_X7_tape_64, ↓E_X7_tape_67, ↓E_X7_tape_68, ↓E_X7_tape_69, ↓E_X7_tape_70, ↓E_X7_tape_74, ↓E_X7_tape_76, ↓E_X7_tape_79, ↓E_X7_tape_80, ↓E_X7_tape_83, ↓E_X7_tape_84, ↓E_X7_tape_85, ↓E_X7_tape_87, ↓E_X7_tape_88, ↓E_X7_tape_89, ↓E_X7_tape_92, ↓E_X7_tape_95, ↓E_X7_tape_96, if_neg h60, kd_15, ln_6, kd_11, ln_60, vin, clN, ptrM, or_true, nI_1]
    rw [mx_ucl, flL_s]
    exact ih (k + 1) (by omega)
set_option maxHeartbeats 2000000 in
theorem M_tape {d : Nat} {σ : mx_S} {w : Vw} {a b n : Int32} (hw : vwM w σ) : ∃ σ', mx_call (d + 3) m_X7_tape [.ref 88, .int a, .int b, .int n] σ (some (.int (F_tape w a b n).1), σ') ∧ vwM (F_tape w a b n).2 σ' ∧ loS σ σ' := by
  generalize hF : F_tape w a b n = R
  unfold F_tape at hF
  simp (disch := omega) only [C_X7_tape, true_and, and_true, and_self, exists_eq_left, Option.toList_some, Option.toList_none, List.cons_append, List.nil_append, List.append_nil, i2_i, i2_r, i2_n, nz0, nz1, true_or, or_true, Nat.reduceAdd, Nat.le_refl, Nat.reduceLT, Nat.reduceLeDiff, ↓E_X7_tape_0, ↓E_X7_tape_1, ↓E_X7_tape_4, ↓E_X7_tape_7, ↓E_X7_tape_8, ↓E_X7_tape_9, ↓E_X7_tape_10, ↓E_X7_tape_11, ↓E_X7_tape_14, ↓E_X7_tape_17, ↓E_X7_tape_20, ↓E_X7_tape_23, ↓E_X7_tape_24, ↓E_X7_tape_27, ↓E_X7_tape_28, ↓E_X7_tape_30, ↓E_X7_tape_33, ↓E_X7_tape_35, ↓E_X7_tape_37, ↓E_X7_tape_40, ↓E_X7_tape_41, ↓E_X7_tape_44, ↓E_X7_tape_46, ↓E_X7_tape_48, ↓E_X7_tape_51, ↓E_X7_tape_52, ↓E_X7_tape_53, ↓E_X7_tape_54, ↓E_X7_tape_55, ↓E_X7_tape_58, ↓E_X7_tape_59, ↓E_X7_tape_60, ↓E_X7_tape_63, ↓E_X7_tape_64, ↓E_X7_tape_67, ↓E_X7_tape_68, ↓E_X7_tape_69, ↓E_X7_tape_70, ↓E_X7_tape_72, ↓E_X7_tape_74, ↓E_X7_tape_76, ↓E_X7_tape_79, ↓E_X7_tape_80, ↓E_X7_tape_83, ↓E_X7_tape_84, ↓E_X7_tape_85, ↓E_X7_tape_87, ↓E_X7_tape_88, ↓E_X7_tape_89, ↓E_X7_tape_92, ↓E_X7_tape_95, ↓E_X7_tape_96, m_isTape, s_in, inL_m1, bz_0, lt60, lt0, le60, le0]
  by_cases e0 : ibI a 6 = false
  · simp only [if_pos e0] at hF ⊢
    subst hF
    exact ⟨σ, rfl, hw, loS.rf⟩
  obtain ⟨ha, ha2, ha3⟩ := ibI_of (eq_true_of_ne_false e0)
  simp only [if_neg e0] at hF ⊢
  generalize ixI a = t at *
  subst ha
  have fin : ∀ (z : Int32) (k : Nat), okT (z, k, fun _ => 0) → (if 0 ≤ b.toInt then n else 0) = nI k → b = z → ∃ σ', mx_run (d + 2) m_X7_tape 47 [some (.ref 88), some (.int (nI t)), some (.int b), some (.int n), none] [] σ (some (.int 1), σ') ∧ vwM (setTp w t (z, k, fun _ => 0)) σ' ∧ loS σ σ' := by
    intro z k okz hk hz
    have z0 : flL (σ.2 (105 + t)) 0 0 = σ.2 (105 + t) := by funext p; unfold flL; rw [if_neg (by omega)]
    have r := m_zero (d := d + 2) (f := mx_u (mx_u σ.1 111 t b) 112 t (nI k)) (τ := σ.2) (q := (some (.int 1), (mx_u (mx_u σ.1 111 t b) 112 t (nI k), mx_c σ.2 (105 + t) (flL (σ.2 (105 + t)) 0 60)))) (b := b) (n := n) ha2 60 0 rfl
    rw [z0, mx_c_id] at r
    have r := r.mpr rfl
    refine ⟨_, ?_, vwM_tp (σ := σ) (σ' := (mx_u (mx_u σ.1 111 t b) 112 t (nI k), mx_c σ.2 (105 + t) (flL (σ.2 (105 + t)) 0 60))) hw okz ?_ ?_ ?_ ?_ ?_ ?_ ?_, fun i hi => ⟨?_, ?_⟩⟩
    · simp (disch := omega) only [true_and, and_true, and_self, exists_eq_left, Option.toList_some, Option.toList_none, List.cons_append, List.nil_append, List.append_nil, i2_i, i2_r, i2_n, nz0, nz1, true_or, or_true, Nat.reduceAdd, Nat.le_refl, Nat.reduceLT, Nat.reduceLeDiff, ↓E_X7_tape_0, ↓E_X7_tape_1, ↓E_X7_tape_4, ↓E_X7_tape_7, ↓E_X7_tape_8, ↓E_X7_tape_9, ↓E_X7_tape_10, ↓E_X7_tape_11, ↓E_X7_tape_14, ↓E_X7_tape_17, ↓E_X7_tape_20, ↓E_X7_tape_23, ↓E_X7_tape_24, ↓E_X7_tape_27, ↓E_X7_tape_28, ↓E_X7_tape_30, ↓E_X7_tape_33, ↓E_X7_tape_35, ↓E_X7_tape_36, ↓E_X7_tape_37, ↓E_X7_tape_40, ↓E_X7_tape_41, ↓E_X7_tape_44, ↓E_X7_tape_46, ↓E_X7_tape_47, ↓E_X7_tape_48, ↓E_X7_tape_51, ↓E_X7_tape_52, ↓E_X7_tape_53, ↓E_X7_tape_54, ↓E_X7_tape_55, ↓E_X7_tape_58, ↓E_X7_tape_59, ↓E_X7_tape_60, ↓E_X7_tape_63, ↓E_X7_tape_64, ↓E_X7_tape_67, ↓E_X7_tape_68, ↓E_X7_tape_69, ↓E_X7_tape_70, ↓E_X7_tape_74, ↓E_X7_tape_76, ↓E_X7_tape_79, ↓E_X7_tape_80, ↓E_X7_tape_83, ↓E_X7_tape_84, ↓E_X7_tape_85, ↓E_X7_tape_87, ↓E_X7_tape_88, ↓E_X7_tape_89, ↓E_X7_tape_92, ↓E_X7_tape_95, ↓E_X7_tape_96, kd_8, ln_6, vin, clN, lt0, le0]
      by_cases h0 : 0 ≤ b.toInt
      · rw [if_pos h0] at hk
        subst hk
        first | simp only [if_pos h0] | simp only [if_neg (show ¬ b.toInt < 0 by omega)]
        exact r
      · rw [if_neg h0] at hk
        first | simp only [if_neg h0] | simp only [if_pos (show b.toInt < 0 by omega)]
        rw [hk]
        rw [show nI 0 = nI k from hk] at r
        exact r
    · simp (disch := omega) only [uu_row, uu_same]; exact hz
    · simp only [uu_same]
    · intro i hi; simp only [cc_same, flL, if_pos hi]
    · intro u hu; simp (disch := omega) only [uu_row, uu_col]
    · intro u hu; simp (disch := omega) only [uu_row, uu_col]
    · intro i h1 h2; simp (disch := omega) only [mx_u_ne]
    · intro i h1 h2; exact mx_c_ne (by omega)
    · simp (disch := omega) only [mx_u_ne]
    · exact mx_c_ne (by omega)
  by_cases e1 : b = -1
  · simp only [if_pos e1] at hF
    have hb1 : b.toInt = -1 := by rw [e1]; rfl
    have eb : (decide (b = -1) || ibI b 5) = true := by rw [decide_eq_true e1]; rfl
    have eb' : ¬ (decide (b = -1) || ibI b 5) = false := by rw [eb]; decide
    simp (disch := omega) only [if_neg eb', if_pos (show b.toInt < 0 by omega), if_neg (show ¬ 0 ≤ b.toInt by omega), true_and, and_true, and_self, exists_eq_left, Option.toList_some, Option.toList_none, List.cons_append, List.nil_append, List.append_nil, i2_i, i2_r, i2_n, nz0, nz1, true_or, or_true, Nat.reduceAdd, Nat.le_refl, Nat.reduceLT, Nat.reduceLeDiff, ↓E_X7_tape_0, ↓E_X7_tape_1, ↓E_X7_tape_4, ↓E_X7_tape_7, ↓E_X7_tape_8, ↓E_X7_tape_9, ↓E_X7_tape_10, ↓E_X7_tape_11, ↓E_X7_tape_14, ↓E_X7_tape_17, ↓E_X7_tape_20, ↓E_X7_tape_23, ↓E_X7_tape_24, ↓E_X7_tape_27, ↓E_X7_tape_28, ↓E_X7_tape_30, ↓E_X7_tape_33, ↓E_X7_tape_35, ↓E_X7_tape_36, ↓E_X7_tape_37, ↓E_X7_tape_40, ↓E_X7_tape_41, ↓E_X7_tape_44, ↓E_X7_tape_46, ↓E_X7_tape_48, ↓E_X7_tape_51, ↓E_X7_tape_52, ↓E_X7_tape_53, ↓E_X7_tape_54, ↓E_X7_tape_55, ↓E_X7_tape_58, ↓E_X7_tape_59, ↓E_X7_tape_60, ↓E_X7_tape_63, ↓E_X7_tape_64, ↓E_X7_tape_67, ↓E_X7_tape_68, ↓E_X7_tape_69, ↓E_X7_tape_70, ↓E_X7_tape_72, ↓E_X7_tape_74, ↓E_X7_tape_76, ↓E_X7_tape_79, ↓E_X7_tape_80, ↓E_X7_tape_83, ↓E_X7_tape_84, ↓E_X7_tape_85, ↓E_X7_tape_87, ↓E_X7_tape_88, ↓E_X7_tape_89, ↓E_X7_tape_92, ↓E_X7_tape_95, ↓E_X7_tape_96, lt0, le0]
    obtain ⟨σ', r, g⟩ := fin (-1) 0 (Or.inl ⟨rfl, rfl⟩) (by rw [if_neg (by omega)]; rfl) e1
    subst hF
    exact ⟨σ', r, g⟩
  simp only [if_neg e1] at hF
  by_cases e2 : ibI b 5 = false
  · have eb : (decide (b = -1) || ibI b 5) = false := by rw [decide_eq_false e1, e2]; rfl
    rw [if_pos (Or.inl e2)] at hF
    simp only [if_pos eb]
    subst hF
    exact ⟨σ, rfl, hw, loS.rf⟩
  have eb' : ¬ (decide (b = -1) || ibI b 5) = false := by rw [decide_eq_false e1, eq_true_of_ne_false e2]; decide
  obtain ⟨hb, hb2, hb3⟩ := ibI_of (eq_true_of_ne_false e2)
  have hbt : b.toInt = (ixI b : Int) := by
    have := eq_true_of_ne_false e2
    simp only [ibI, Bool.and_eq_true, decide_eq_true_eq] at this
    unfold ixI
    omega
  simp only [if_neg eb', if_neg (show ¬ b.toInt < 0 by omega), if_pos (show 0 ≤ b.toInt by omega)]
  by_cases e3 : 60 < n.toInt
  · rw [if_pos (Or.inr e3)] at hF
    simp only [if_neg (show ¬ n.toInt ≤ 60 by omega), if_pos e3]
    subst hF
    exact ⟨σ, rfl, hw, loS.rf⟩
  rw [if_neg (fun z => z.elim e2 e3)] at hF
  simp only [if_pos (show n.toInt ≤ 60 by omega), if_neg e3]
  by_cases e4 : n.toInt < 0
  · simp only [if_pos e4] at hF
    subst hF
    simp (disch := omega) only [true_and, and_true, and_self, exists_eq_left, Option.toList_some, Option.toList_none, List.cons_append, List.nil_append, List.append_nil, i2_i, i2_r, i2_n, nz0, nz1, true_or, or_true, Nat.reduceAdd, Nat.le_refl, Nat.reduceLT, Nat.reduceLeDiff, ↓E_X7_tape_0, ↓E_X7_tape_1, ↓E_X7_tape_4, ↓E_X7_tape_7, ↓E_X7_tape_8, ↓E_X7_tape_9, ↓E_X7_tape_10, ↓E_X7_tape_11, ↓E_X7_tape_14, ↓E_X7_tape_17, ↓E_X7_tape_20, ↓E_X7_tape_23, ↓E_X7_tape_24, ↓E_X7_tape_27, ↓E_X7_tape_28, ↓E_X7_tape_30, ↓E_X7_tape_33, ↓E_X7_tape_35, ↓E_X7_tape_36, ↓E_X7_tape_37, ↓E_X7_tape_40, ↓E_X7_tape_41, ↓E_X7_tape_44, ↓E_X7_tape_46, ↓E_X7_tape_48, ↓E_X7_tape_51, ↓E_X7_tape_52, ↓E_X7_tape_53, ↓E_X7_tape_54, ↓E_X7_tape_55, ↓E_X7_tape_58, ↓E_X7_tape_59, ↓E_X7_tape_60, ↓E_X7_tape_63, ↓E_X7_tape_64, ↓E_X7_tape_67, ↓E_X7_tape_68, ↓E_X7_tape_69, ↓E_X7_tape_70, ↓E_X7_tape_72, ↓E_X7_tape_74, ↓E_X7_tape_76, ↓E_X7_tape_79, ↓E_X7_tape_80, ↓E_X7_tape_83, ↓E_X7_tape_84, ↓E_X7_tape_85, ↓E_X7_tape_87, ↓E_X7_tape_88, ↓E_X7_tape_89, ↓E_X7_tape_92, ↓E_X7_tape_95, ↓E_X7_tape_96, lt0, le0, if_neg (show ¬ b.toInt < 0 by omega), if_pos (show 0 ≤ b.toInt by omega), if_pos e4, if_neg (show ¬ 0 ≤ n.toInt by omega)]
    exact ⟨σ, rfl, hw, loS.rf⟩
  simp only [if_neg e4] at hF
  have hni : n = nI (ixI n) ∧ ixI n ≤ 60 := by
    have := inI_of (x := n) (m := 60) (by simp [inI]; omega)
    exact ⟨this.1, this.2.1⟩
  simp (disch := omega) only [true_and, and_true, and_self, exists_eq_left, Option.toList_some, Option.toList_none, List.cons_append, List.nil_append, List.append_nil, i2_i, i2_r, i2_n, nz0, nz1, true_or, or_true, Nat.reduceAdd, Nat.le_refl, Nat.reduceLT, Nat.reduceLeDiff, ↓E_X7_tape_0, ↓E_X7_tape_1, ↓E_X7_tape_4, ↓E_X7_tape_7, ↓E_X7_tape_8, ↓E_X7_tape_9, ↓E_X7_tape_10, ↓E_X7_tape_11, ↓E_X7_tape_14, ↓E_X7_tape_17, ↓E_X7_tape_20, ↓E_X7_tape_23, ↓E_X7_tape_24, ↓E_X7_tape_27, ↓E_X7_tape_28, ↓E_X7_tape_30, ↓E_X7_tape_33, ↓E_X7_tape_35, ↓E_X7_tape_36, ↓E_X7_tape_37, ↓E_X7_tape_40, ↓E_X7_tape_41, ↓E_X7_tape_44, ↓E_X7_tape_46, ↓E_X7_tape_48, ↓E_X7_tape_51, ↓E_X7_tape_52, ↓E_X7_tape_53, ↓E_X7_tape_54, ↓E_X7_tape_55, ↓E_X7_tape_58, ↓E_X7_tape_59, ↓E_X7_tape_60, ↓E_X7_tape_63, ↓E_X7_tape_64, ↓E_X7_tape_67, ↓E_X7_tape_68, ↓E_X7_tape_69, ↓E_X7_tape_70, ↓E_X7_tape_72, ↓E_X7_tape_74, ↓E_X7_tape_76, ↓E_X7_tape_79, ↓E_X7_tape_80, ↓E_X7_tape_83, ↓E_X7_tape_84, ↓E_X7_tape_85, ↓E_X7_tape_87, ↓E_X7_tape_88, ↓E_X7_tape_89, ↓E_X7_tape_92, ↓E_X7_tape_95, ↓E_X7_tape_96, lt0, le0, if_neg (show ¬ b.toInt < 0 by omega), if_pos (show 0 ≤ b.toInt by omega), if_neg e4, if_pos (show 0 ≤ n.toInt by omega)]
  obtain ⟨σ', r, g⟩ := fin b (ixI n) (Or.inr ⟨⟨ixI b, by omega, hb⟩, hni.2⟩) (by rw [if_pos (by omega)]; exact hni.1) rfl
  subst hF
  exact ⟨σ', r, g⟩
