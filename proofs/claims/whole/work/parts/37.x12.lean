/-! ===== the class: steps, times ===== -/
set_option maxHeartbeats 4000000 in
theorem X_step {d : Nat} {σ : mx_S} {w : Vw} {a b : Int32} (hw : vwX w σ) : ∃ σ', mx_call (d + 5) m_X6_step [.ref 0, .int a, .int b] σ (some (.int (F_step w a b).1), σ') ∧ vwX (F_step w a b).2 σ' ∧ hiS σ σ' := by
  obtain ⟨S1, S2, S3, S4, S5⟩ := vwX_now hw
  have hn := hw.1.1.1
  generalize hF : F_step w a b = R
  have e100 : (100 : Int32).toInt = 100 := rfl
  have e000 : (0 : Int32).toInt = 0 := rfl
  simp (disch := omega) only [C_X6_step, true_and, and_true, and_self, exists_eq_left, Option.toList_some, Option.toList_none, List.cons_append, List.nil_append, List.append_nil, i2_i, i2_r, i2_n, nz0, nz1, true_or, or_true, Nat.reduceAdd, Nat.le_refl, Nat.reduceLT, Nat.reduceLeDiff, ↓E_X6_step_0, ↓E_X6_step_1, ↓E_X6_step_2, ↓E_X6_step_5, ↓E_X6_step_8, ↓E_X6_step_9, ↓E_X6_step_12, ↓E_X6_step_13, ↓E_X6_step_15, ↓E_X6_step_18, ↓E_X6_step_20, ↓E_X6_step_21, ↓E_X6_step_22, ↓E_X6_step_25, ↓E_X6_step_28, ↓E_X6_step_31, ↓E_X6_step_33, ↓E_X6_step_34, ↓E_X6_step_35, ↓E_X6_step_37, ↓E_X6_step_38, ↓E_X6_step_41, ↓E_X6_step_42, ↓E_X6_step_43, ↓E_X6_step_46, ↓E_X6_step_49, ↓E_X6_step_52, ↓E_X6_step_55, ↓E_X6_step_56, s_isBelow, bz_0, kd_3, S1, ibx_3, nI_eq0 hn, le32, l32, e100, e000]
  unfold F_step at hF
  by_cases e0 : ibI a 3 = false
  · rw [if_pos (Or.inl e0)] at hF
    simp only [if_pos e0]
    subst hF
    exact ⟨σ, rfl, hw, hiS.rf⟩
  simp only [if_neg e0]
  by_cases e1 : inI b 100 = false
  · rw [if_pos (Or.inr e1)] at hF
    subst hF
    by_cases h1 : b.toInt < 0
    · simp only [if_pos h1]
      exact ⟨σ, rfl, hw, hiS.rf⟩
    · have h2 : ¬ b.toInt ≤ 100 := fun z => by
        have : inI b 100 = true := by simp [inI]; omega
        rw [this] at e1; cases e1
      simp only [if_neg h1, if_neg h2]
      exact ⟨σ, rfl, hw, hiS.rf⟩
  have e01 : ¬ (ibI a 3 = false ∨ inI b 100 = false) := fun z => z.elim e0 e1
  rw [if_neg e01] at hF
  have hb9 := eq_true_of_ne_false e1
  simp only [inI, Bool.and_eq_true, decide_eq_true_eq] at hb9
  simp only [if_neg (show ¬ b.toInt < 0 by omega), if_pos (show b.toInt ≤ 100 by omega)]
  by_cases e2 : w.1.jn = 0
  · rw [if_pos e2] at hF
    simp only [if_pos e2]
    subst hF
    exact ⟨σ, rfl, hw, hiS.rf⟩
  rw [if_neg e2] at hF
  simp only [if_neg e2]
  obtain ⟨ha, ha2, ha3⟩ := ibI_of (eq_true_of_ne_false e0)
  obtain ⟨hb, hb2, hb3⟩ := inI_of (eq_true_of_ne_false e1)
  generalize ixI a = mn at *
  generalize ixI b = n at *
  subst ha
  subst hb
  obtain ⟨σ', r, hw', hi'⟩ := l_step (d := d) (mn := mn) (n := n) (by omega) hb2 n 0 σ w (by omega) hw e2
  rw [Nat.zero_add] at r
  subst hF
  exact ⟨σ', r, hw', hi'⟩
set_option maxHeartbeats 4000000 in
theorem l_upTo {d : Nat} {w : Vw} {b : Nat} (σ0 : mx_S) (hw0 : vwX w σ0) (hb : b < w.1.jn) : ∀ m p (σ : mx_S), p + m = b → halX w.1.V w.1.md w.1.O 47 p σ.1 → (∀ i, i ≠ 47 → σ.1 i = σ0.1 i) → σ.2 = σ0.2 →
    ∃ σ', mx_run (d + 1) m_X6_pressPlanUpTo 9 [some (.ref 0), some (.int (nI b)), some (.int (nI p))] [] σ (none, σ') ∧ lstX w.1.V w.1.md (w.1.O b) (TS w.1.V w.1.md w.1.O b) 47 σ'.1 ∧ (∀ i, i ≠ 47 → σ'.1 i = σ0.1 i) ∧ σ'.2 = σ0.2 := by
  obtain ⟨Z1, Z2, Z3, Z4, Z5⟩ := vwX_now hw0
  have hn := hw0.1.1.1
  have hV := okV_of hw0.1.1.2.2.2.1
  have hO := hw0.1.1.2.2.2.2.1.1
  have hmd := hw0.1.1.2.1
  have one : ∀ p (σ : mx_S), p < w.1.jn → halX w.1.V w.1.md w.1.O 47 p σ.1 → (∀ i, i ≠ 47 → σ.1 i = σ0.1 i) → σ.2 = σ0.2 → ∃ σ1, mx_call (d + 1) m_X0_press [.ref 47, .ref (3 + w.1.O p), .int (nI w.1.md)] σ (none, σ1) ∧ halX w.1.V w.1.md w.1.O 47 (p + 1) σ1.1 ∧ lstX w.1.V w.1.md (w.1.O p) (TS w.1.V w.1.md w.1.O p) 47 σ1.1 ∧ (∀ i, i ≠ 47 → σ1.1 i = σ0.1 i) ∧ σ1.2 = σ0.2 := by
    intro p σ hp H g1 g2
    have hOp := hO p hp
    obtain ⟨σ1, c1, H1, L1, f1, f2⟩ := s_press (d := d) (σ := σ) (h := 47) (a := 3 + w.1.O p) (n := w.1.jn) (md := w.1.md) (p := p) (V := w.1.V) (O := w.1.O) (Or.inl rfl) (by omega) hn hV hO hp (fun k hk => by rw [g1 _ (by omega)]; exact Z4 _ k hOp hk) H hmd
    exact ⟨σ1, c1, H1, L1, fun i hi => by rw [f1 i hi, g1 i hi], by rw [f2, g2]⟩
  intro m
  induction m with
  | zero =>
    intro p σ hp H g1 g2
    have e : p = b := by omega
    subst e
    obtain ⟨σ1, c1, H1, L1, f1, f2⟩ := one p σ hb H g1 g2
    have h0' : σ.1 1 0 = nI w.1.jn := by rw [g1 1 (by omega)]; exact Z1
    have m0' : σ.1 1 1 = nI w.1.md := by rw [g1 1 (by omega)]; exact Z2
    have ro : σ.1 9 p = nI (w.1.O p) := by rw [g1 9 (by omega)]; exact Z5 p hb
    have hOp := hO p hb
    refine ⟨σ1, ?_, L1, f1, f2⟩
    rw [E_X6_pressPlanUpTo_9]
    simp (disch := omega) only [true_and, and_true, and_self, exists_eq_left, Option.toList_some, Option.toList_none, List.cons_append, List.nil_append, List.append_nil, i2_i, i2_r, i2_n, nz0, nz1, true_or, or_true, Nat.reduceAdd, Nat.le_refl, Nat.reduceLT, Nat.reduceLeDiff, ↓E_X6_pressPlanUpTo_0, ↓E_X6_pressPlanUpTo_1, ↓E_X6_pressPlanUpTo_4, ↓E_X6_pressPlanUpTo_7, ↓E_X6_pressPlanUpTo_8, ↓E_X6_pressPlanUpTo_10, ↓E_X6_pressPlanUpTo_11, ↓E_X6_pressPlanUpTo_14, ↓E_X6_pressPlanUpTo_15, ↓E_X6_pressPlanUpTo_16, ↓E_X6_pressPlanUpTo_19, ↓E_X6_pressPlanUpTo_22, ↓E_X6_pressPlanUpTo_25, ↓E_X6_pressPlanUpTo_26, ↓E_X6_pressPlanUpTo_29, ↓E_X6_pressPlanUpTo_30, ↓E_X6_pressPlanUpTo_33, ↓E_X6_pressPlanUpTo_36, ↓E_X6_pressPlanUpTo_37, ↓E_X6_pressPlanUpTo_40, ↓E_X6_pressPlanUpTo_43, ↓E_X6_pressPlanUpTo_44, ↓E_X6_pressPlanUpTo_45, ↓E_X6_pressPlanUpTo_46, ↓E_X6_pressPlanUpTo_47, ↓E_X6_pressPlanUpTo_50, ↓E_X6_pressPlanUpTo_53, ↓E_X6_pressPlanUpTo_56, ↓E_X6_pressPlanUpTo_59, ↓E_X6_pressPlanUpTo_62, kd_3, kd_0, kd_8, kd_12, ln_6, h0', m0', leN, ltN, vin, clN, ro, ptrG, mx_one c1, nI_1]
    first | rw [if_neg (Nat.lt_irrefl p)] | rw [if_pos (Nat.le_refl p)] | skip
    first | rw [if_neg (show ¬ w.1.jn ≤ p by omega)] | skip
    rw [E_X6_pressPlanUpTo_9]
    simp (disch := omega) only [true_and, and_true, and_self, exists_eq_left, Option.toList_some, Option.toList_none, List.cons_append, List.nil_append, List.append_nil, i2_i, i2_r, i2_n, nz0, nz1, true_or, or_true, Nat.reduceAdd, Nat.le_refl, Nat.reduceLT, Nat.reduceLeDiff, ↓E_X6_pressPlanUpTo_0, ↓E_X6_pressPlanUpTo_1, ↓E_X6_pressPlanUpTo_4, ↓E_X6_pressPlanUpTo_7, ↓E_X6_pressPlanUpTo_8, ↓E_X6_pressPlanUpTo_10, ↓E_X6_pressPlanUpTo_11, ↓E_X6_pressPlanUpTo_14, ↓E_X6_pressPlanUpTo_15, ↓E_X6_pressPlanUpTo_16, ↓E_X6_pressPlanUpTo_19, ↓E_X6_pressPlanUpTo_22, ↓E_X6_pressPlanUpTo_25, ↓E_X6_pressPlanUpTo_26, ↓E_X6_pressPlanUpTo_29, ↓E_X6_pressPlanUpTo_30, ↓E_X6_pressPlanUpTo_33, ↓E_X6_pressPlanUpTo_36, ↓E_X6_pressPlanUpTo_37, ↓E_X6_pressPlanUpTo_40, ↓E_X6_pressPlanUpTo_43, ↓E_X6_pressPlanUpTo_44, ↓E_X6_pressPlanUpTo_45, ↓E_X6_pressPlanUpTo_46, ↓E_X6_pressPlanUpTo_47, ↓E_X6_pressPlanUpTo_50, ↓E_X6_pressPlanUpTo_53, ↓E_X6_pressPlanUpTo_56, ↓E_X6_pressPlanUpTo_59, ↓E_X6_pressPlanUpTo_62, ltN, leN]
    first | rw [if_pos (Nat.lt_succ_self p)] | rw [if_neg (Nat.not_succ_le_self p)] | skip
    try trivial
  | succ m ih =>
    intro p σ hp H g1 g2
    obtain ⟨σ1, c1, H1, L1, f1, f2⟩ := one p σ (by omega) H g1 g2
    have h0' : σ.1 1 0 = nI w.1.jn := by rw [g1 1 (by omega)]; exact Z1
    have m0' : σ.1 1 1 = nI w.1.md := by rw [g1 1 (by omega)]; exact Z2
    have ro : σ.1 9 p = nI (w.1.O p) := by rw [g1 9 (by omega)]; exact Z5 p (by omega)
    have hOp := hO p (by omega)
    obtain ⟨σ2, r, L2, g⟩ := ih (p + 1) σ1 (by omega) H1 f1 f2
    refine ⟨σ2, ?_, L2, g⟩
    rw [E_X6_pressPlanUpTo_9]
    simp (disch := omega) only [true_and, and_true, and_self, exists_eq_left, Option.toList_some, Option.toList_none, List.cons_append, List.nil_append, List.append_nil, i2_i, i2_r, i2_n, nz0, nz1, true_or, or_true, Nat.reduceAdd, Nat.le_refl, Nat.reduceLT, Nat.reduceLeDiff, ↓E_X6_pressPlanUpTo_0, ↓E_X6_pressPlanUpTo_1, ↓E_X6_pressPlanUpTo_4, ↓E_X6_pressPlanUpTo_7, ↓E_X6_pressPlanUpTo_8, ↓E_X6_pressPlanUpTo_10, ↓E_X6_pressPlanUpTo_11, ↓E_X6_pressPlanUpTo_14, ↓E_X6_pressPlanUpTo_15, ↓E_X6_pressPlanUpTo_16, ↓E_X6_pressPlanUpTo_19, ↓E_X6_pressPlanUpTo_22, ↓E_X6_pressPlanUpTo_25, ↓E_X6_pressPlanUpTo_26, ↓E_X6_pressPlanUpTo_29, ↓E_X6_pressPlanUpTo_30, ↓E_X6_pressPlanUpTo_33, ↓E_X6_pressPlanUpTo_36, ↓E_X6_pressPlanUpTo_37, ↓E_X6_pressPlanUpTo_40, ↓E_X6_pressPlanUpTo_43, ↓E_X6_pressPlanUpTo_44, ↓E_X6_pressPlanUpTo_45, ↓E_X6_pressPlanUpTo_46, ↓E_X6_pressPlanUpTo_47, ↓E_X6_pressPlanUpTo_50, ↓E_X6_pressPlanUpTo_53, ↓E_X6_pressPlanUpTo_56, ↓E_X6_pressPlanUpTo_59, ↓E_X6_pressPlanUpTo_62, kd_3, kd_0, kd_8, kd_12, ln_6, h0', m0', leN, ltN, vin, clN, ro, ptrG, mx_one c1, nI_1]
    first | rw [if_neg (show ¬ b < p by omega)] | rw [if_pos (show p ≤ b by omega)]
    first | rw [if_neg (show ¬ w.1.jn ≤ p by omega)] | rw [if_pos (show p < w.1.jn by omega)]
    exact r
def tAt (w : Vw) (p x : Nat) : Nat := if x = 0 then (TS w.1.V w.1.md w.1.O p).1 else if x = 1 then tDn w.1.V (w.1.O p) (TS w.1.V w.1.md w.1.O p) else if x = 2 then tLv w.1.V w.1.md (w.1.O p) (TS w.1.V w.1.md w.1.O p) else if x = 3 then tAr w.1.V w.1.md (w.1.O p) (TS w.1.V w.1.md w.1.O p) else if x = 4 then tBa w.1.V w.1.md (w.1.O p) (TS w.1.V w.1.md w.1.O p) else tEn w.1.V w.1.md (w.1.O p) (TS w.1.V w.1.md w.1.O p)
def F_time (w : Vw) (j x : Int32) : Int64 := if (ibI j w.1.jn && ibI x 7) = false then NO else if x = 6 then (iN ((EN w.1.V w.1.md w.1.O (plc w.1.O (ixI j) w.1.jn) : Int) - (w.1.V (ixI j) 5 : Int))).toInt64 else (nI (tAt w (plc w.1.O (ixI j) w.1.jn) (ixI x))).toInt64
set_option maxHeartbeats 4000000 in
theorem X_time {d : Nat} {σ : mx_S} {w : Vw} {a b : Int32} (hw : vwX w σ) : ∃ σ', mx_call (d + 3) m_X6_time [.ref 0, .int a, .int b] σ (some (.long (F_time w a b)), σ') ∧ vwX w σ' ∧ hiS σ σ' := by
  obtain ⟨S1, S2, S3, S4, S5⟩ := vwX_now hw
  have hn := hw.1.1.1
  have hO := hw.1.1.2.2.2.2.1
  generalize hF : F_time w a b = R
  simp (disch := omega) only [C_X6_time, true_and, and_true, and_self, exists_eq_left, Option.toList_some, Option.toList_none, List.cons_append, List.nil_append, List.append_nil, i2_i, i2_r, i2_n, nz0, nz1, true_or, or_true, Nat.reduceAdd, Nat.le_refl, Nat.reduceLT, Nat.reduceLeDiff, ↓E_X6_time_0, ↓E_X6_time_1, ↓E_X6_time_4, ↓E_X6_time_5, ↓E_X6_time_8, ↓E_X6_time_11, ↓E_X6_time_12, ↓E_X6_time_14, ↓E_X6_time_17, ↓E_X6_time_20, ↓E_X6_time_23, ↓E_X6_time_24, ↓E_X6_time_25, ↓E_X6_time_26, ↓E_X6_time_29, ↓E_X6_time_30, ↓E_X6_time_33, ↓E_X6_time_36, ↓E_X6_time_37, ↓E_X6_time_39, ↓E_X6_time_42, ↓E_X6_time_43, ↓E_X6_time_46, ↓E_X6_time_49, ↓E_X6_time_50, ↓E_X6_time_53, ↓E_X6_time_56, ↓E_X6_time_57, ↓E_X6_time_58, ↓E_X6_time_59, ↓E_X6_time_60, ↓E_X6_time_61, ↓E_X6_time_62, ↓E_X6_time_65, ↓E_X6_time_66, ↓E_X6_time_69, ↓E_X6_time_70, ↓E_X6_time_73, ↓E_X6_time_74, s_isBelow, s_hasJob, bz_0, kd_3, S1, ibx_N, ibx_7]
  unfold F_time NO at hF
  by_cases e0 : ibI a w.1.jn = false
  · simp only [if_pos e0, e0, Bool.false_and, if_true] at hF ⊢
    subst hF
    exact ⟨σ, rfl, hw, hiS.rf⟩
  by_cases e1 : ibI b 7 = false
  · simp only [if_neg e0, if_pos e1, e1, Bool.and_false, if_true] at hF ⊢
    subst hF
    exact ⟨σ, rfl, hw, hiS.rf⟩
  have e01 : ¬ (ibI a w.1.jn && ibI b 7) = false := by rw [eq_true_of_ne_false e0, eq_true_of_ne_false e1]; decide
  simp only [if_neg e0, if_neg e1, if_neg e01] at hF ⊢
  obtain ⟨ha, ha2, ha3⟩ := ibI_of (eq_true_of_ne_false e0)
  obtain ⟨hb, hb2, hb3⟩ := ibI_of (eq_true_of_ne_false e1)
  generalize ixI a = j at *
  generalize ixI b = x at *
  subst ha
  subst hb
  obtain ⟨hp, hp2⟩ := plc_ok hO ha2
  obtain ⟨σ1, c1, H1, f1, f2⟩ := s_open (d := d) (σ := σ) (h := 47) (Or.inl rfl) w.1.V w.1.md w.1.O
  obtain ⟨σ2, r, L2, g1, g2⟩ := l_upTo (d := d) σ hw hp (plc w.1.O j w.1.jn) 0 σ1 (by omega) H1 f1 f2
  have c2 : ∀ q, mx_call (d + 2) m_X6_pressPlanUpTo [.ref 0, .int (nI (plc w.1.O j w.1.jn))] σ q ↔ q = (none, σ2) := by
    refine mx_one ?_
    simp (disch := omega) only [C_X6_pressPlanUpTo, true_and, and_true, and_self, exists_eq_left, Option.toList_some, Option.toList_none, List.cons_append, List.nil_append, List.append_nil, i2_i, i2_r, i2_n, nz0, nz1, true_or, or_true, Nat.reduceAdd, Nat.le_refl, Nat.reduceLT, Nat.reduceLeDiff, ↓E_X6_pressPlanUpTo_0, ↓E_X6_pressPlanUpTo_1, ↓E_X6_pressPlanUpTo_4, ↓E_X6_pressPlanUpTo_7, ↓E_X6_pressPlanUpTo_8, ↓E_X6_pressPlanUpTo_10, ↓E_X6_pressPlanUpTo_11, ↓E_X6_pressPlanUpTo_14, ↓E_X6_pressPlanUpTo_15, ↓E_X6_pressPlanUpTo_16, ↓E_X6_pressPlanUpTo_19, ↓E_X6_pressPlanUpTo_22, ↓E_X6_pressPlanUpTo_25, ↓E_X6_pressPlanUpTo_26, ↓E_X6_pressPlanUpTo_29, ↓E_X6_pressPlanUpTo_30, ↓E_X6_pressPlanUpTo_33, ↓E_X6_pressPlanUpTo_36, ↓E_X6_pressPlanUpTo_37, ↓E_X6_pressPlanUpTo_40, ↓E_X6_pressPlanUpTo_43, ↓E_X6_pressPlanUpTo_44, ↓E_X6_pressPlanUpTo_45, ↓E_X6_pressPlanUpTo_46, ↓E_X6_pressPlanUpTo_47, ↓E_X6_pressPlanUpTo_50, ↓E_X6_pressPlanUpTo_53, ↓E_X6_pressPlanUpTo_56, ↓E_X6_pressPlanUpTo_59, ↓E_X6_pressPlanUpTo_62, kd_0, mx_one c1]
    exact r
  have sc := sc47 g1 g2
  have S4' : σ2.1 (3 + j) 5 = nI (w.1.V j 5) := by rw [g1 _ (by omega)]; exact S4 j 5 ha2 (by omega)
  obtain ⟨l2, l3, l4, l5, l6, l7⟩ := L2
  rw [hp2] at l3 l4 l5 l6 l7
  simp (disch := omega) only [s_placeOf (h := 1) (Or.inl rfl) hn ha2 S1 S5 hO, c2, true_and, and_true, and_self, exists_eq_left, Option.toList_some, Option.toList_none, List.cons_append, List.nil_append, List.append_nil, i2_i, i2_r, i2_n, nz0, nz1, true_or, or_true, Nat.reduceAdd, Nat.le_refl, Nat.reduceLT, Nat.reduceLeDiff, ↓E_X6_time_0, ↓E_X6_time_1, ↓E_X6_time_4, ↓E_X6_time_5, ↓E_X6_time_8, ↓E_X6_time_11, ↓E_X6_time_12, ↓E_X6_time_14, ↓E_X6_time_17, ↓E_X6_time_20, ↓E_X6_time_23, ↓E_X6_time_24, ↓E_X6_time_25, ↓E_X6_time_26, ↓E_X6_time_29, ↓E_X6_time_30, ↓E_X6_time_33, ↓E_X6_time_36, ↓E_X6_time_37, ↓E_X6_time_39, ↓E_X6_time_42, ↓E_X6_time_43, ↓E_X6_time_46, ↓E_X6_time_49, ↓E_X6_time_50, ↓E_X6_time_53, ↓E_X6_time_56, ↓E_X6_time_57, ↓E_X6_time_58, ↓E_X6_time_59, ↓E_X6_time_60, ↓E_X6_time_61, ↓E_X6_time_62, ↓E_X6_time_65, ↓E_X6_time_66, ↓E_X6_time_69, ↓E_X6_time_70, ↓E_X6_time_73, ↓E_X6_time_74, kd_3, kd_0, kd_8, kd_12, ln_6, vin, clN, ptrG, vin_5, cl_5, S4', l7, iN_sub]
  by_cases e6 : nI x = 6
  · simp only [if_pos e6] at hF ⊢
    subst hF
    refine ⟨σ2, ?_, sc.vw hw, sc.hi⟩
    unfold EN
    rw [hp2]
  simp only [if_neg e6] at hF ⊢
  have hx6 : x ≠ 6 := fun z => e6 (by rw [z]; rfl)
  have tl : ∀ q, mx_call (d + 2) m_X0_timeOfLast [.ref 47, .int (nI x)] σ2 q ↔ q = (some (.int (nI (tAt w (plc w.1.O j w.1.jn) x))), σ2) := by
    intro q
    unfold tAt
    rw [hp2]
    rcases (show x = 0 ∨ x = 1 ∨ x = 2 ∨ x = 3 ∨ x = 4 ∨ x = 5 by omega) with rfl | rfl | rfl | rfl | rfl | rfl
    all_goals simp (disch := first | omega | decide) only [C_X0_timeOfLast, true_and, and_true, and_self, exists_eq_left, Option.toList_some, Option.toList_none, List.cons_append, List.nil_append, List.append_nil, i2_i, i2_r, i2_n, nz0, nz1, true_or, or_true, Nat.reduceAdd, Nat.le_refl, Nat.reduceLT, Nat.reduceLeDiff, ↓E_X0_timeOfLast_0, ↓E_X0_timeOfLast_1, ↓E_X0_timeOfLast_36, ↓E_X0_timeOfLast_37, ↓E_X0_timeOfLast_40, ↓E_X0_timeOfLast_41, ↓E_X0_timeOfLast_42, ↓E_X0_timeOfLast_45, ↓E_X0_timeOfLast_46, ↓E_X0_timeOfLast_47, ↓E_X0_timeOfLast_50, ↓E_X0_timeOfLast_51, ↓E_X0_timeOfLast_52, ↓E_X0_timeOfLast_55, ↓E_X0_timeOfLast_56, ↓E_X0_timeOfLast_57, ↓E_X0_timeOfLast_60, ↓E_X0_timeOfLast_61, ↓E_X0_timeOfLast_62, ↓E_X0_timeOfLast_65, kd_0, l2, l3, l4, l5, l6, l7, if_true, if_pos (show nI 0 = 0 by decide), if_pos (show nI 1 = 1 by decide), if_pos (show nI 2 = 2 by decide), if_pos (show nI 3 = 3 by decide), if_pos (show nI 4 = 4 by decide), if_neg (show ¬ nI 1 = 0 by decide), if_neg (show ¬ nI 2 = 0 by decide), if_neg (show ¬ nI 2 = 1 by decide), if_neg (show ¬ nI 3 = 0 by decide), if_neg (show ¬ nI 3 = 1 by decide), if_neg (show ¬ nI 3 = 2 by decide), if_neg (show ¬ nI 4 = 0 by decide), if_neg (show ¬ nI 4 = 1 by decide), if_neg (show ¬ nI 4 = 2 by decide), if_neg (show ¬ nI 4 = 3 by decide), if_neg (show ¬ nI 5 = 0 by decide), if_neg (show ¬ nI 5 = 1 by decide), if_neg (show ¬ nI 5 = 2 by decide), if_neg (show ¬ nI 5 = 3 by decide), if_neg (show ¬ nI 5 = 4 by decide), if_neg (show ¬ (1 : Nat) = 0 by decide), if_neg (show ¬ (2 : Nat) = 0 by decide), if_neg (show ¬ (2 : Nat) = 1 by decide), if_neg (show ¬ (3 : Nat) = 0 by decide), if_neg (show ¬ (3 : Nat) = 1 by decide), if_neg (show ¬ (3 : Nat) = 2 by decide), if_neg (show ¬ (4 : Nat) = 0 by decide), if_neg (show ¬ (4 : Nat) = 1 by decide), if_neg (show ¬ (4 : Nat) = 2 by decide), if_neg (show ¬ (4 : Nat) = 3 by decide), if_neg (show ¬ (5 : Nat) = 0 by decide), if_neg (show ¬ (5 : Nat) = 1 by decide), if_neg (show ¬ (5 : Nat) = 2 by decide), if_neg (show ¬ (5 : Nat) = 3 by decide), if_neg (show ¬ (5 : Nat) = 4 by decide)]
  simp (disch := omega) only [tl, true_and, and_true, and_self, exists_eq_left, Option.toList_some, Option.toList_none, List.cons_append, List.nil_append, List.append_nil, i2_i, i2_r, i2_n, nz0, nz1, true_or, or_true, Nat.reduceAdd, Nat.le_refl, Nat.reduceLT, Nat.reduceLeDiff, ↓E_X6_time_0, ↓E_X6_time_1, ↓E_X6_time_4, ↓E_X6_time_5, ↓E_X6_time_8, ↓E_X6_time_11, ↓E_X6_time_12, ↓E_X6_time_14, ↓E_X6_time_17, ↓E_X6_time_20, ↓E_X6_time_23, ↓E_X6_time_24, ↓E_X6_time_25, ↓E_X6_time_26, ↓E_X6_time_29, ↓E_X6_time_30, ↓E_X6_time_33, ↓E_X6_time_36, ↓E_X6_time_37, ↓E_X6_time_39, ↓E_X6_time_42, ↓E_X6_time_43, ↓E_X6_time_46, ↓E_X6_time_49, ↓E_X6_time_50, ↓E_X6_time_53, ↓E_X6_time_56, ↓E_X6_time_57, ↓E_X6_time_58, ↓E_X6_time_59, ↓E_X6_time_60, ↓E_X6_time_61, ↓E_X6_time_62, ↓E_X6_time_65, ↓E_X6_time_66, ↓E_X6_time_69, ↓E_X6_time_70, ↓E_X6_time_73, ↓E_X6_time_74]
  subst hF
  exact ⟨σ2, rfl, sc.vw hw, sc.hi⟩
