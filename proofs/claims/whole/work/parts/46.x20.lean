/-! ===== the class: were it otherwise ===== -/
theorem upV1_2 {V : Nat → Nat → Nat} {j k a b : Nat} : upV1 (upV1 V j k a) j k b = upV1 V j k b := by
  funext i l
  unfold upV1
  by_cases e : i = j ∧ l = k
  · rw [if_pos e, if_pos e]
  · rw [if_neg e, if_neg e, if_neg e]
theorem upV1_id {V : Nat → Nat → Nat} {j k : Nat} : upV1 V j k (V j k) = V := by
  funext i l
  unfold upV1
  by_cases e : i = j ∧ l = k
  · rw [if_pos e, e.1, e.2]
  · rw [if_neg e]
theorem okV_up {n j k a : Nat} {V : Nat → Nat → Nat} (h : okV n V) (ha : a ≤ 99) : okV n (upV1 V j k a) := by
  intro i l hi hl
  unfold upV1
  split
  · exact ha
  · exact h i l hi hl
/-- the shop that is tried on -/
def trX (n md am : Nat) (V : Nat → Nat → Nat) (O : Nat → Nat) (f : Nat → Nat → Int32) : Prop := f 37 0 = nI n ∧ f 37 1 = nI md ∧ f 37 2 = nI am ∧ (∀ j k, j < n → k < 6 → f (39 + j) k = nI (V j k)) ∧ ∀ p, p < n → f 45 p = nI (O p)
theorem trX_agr {n md am : Nat} {V : Nat → Nat → Nat} {O : Nat → Nat} {f f' : Nat → Nat → Int32} (hn : n ≤ 6) (h : ∀ i, 37 ≤ i → i ≤ 45 → f' i = f i) (H : trX n md am V O f) : trX n md am V O f' := shpX_agr (a := 37) hn (fun i h1 h2 => h i h1 (by omega)) H
set_option maxHeartbeats 2000000 in
theorem s_trial {d : Nat} {σ : mx_S} {w : Vw} (hw : vwX w σ) : ∃ σ', (∀ q, mx_call (d + 1) m_X3_copyFrom [.ref 37, .ref 1] σ q ↔ q = (none, σ')) ∧ trX w.1.jn w.1.md w.1.am w.1.V w.1.O σ'.1 ∧ scX σ σ' := by
  obtain ⟨σ', c, a0, a1, a2, a3, a4, a5, a6⟩ := s_copyFrom (d := d) (σ := σ) (h := 37) (g := 1) (by omega) (by omega) (by omega)
  exact ⟨σ', mx_one c, shpX_copy hw.1.1.1 hw.2.1.1 a0 a1 a2 a3 a4, fun i hi => a5 i (by omega), a6⟩
theorem trX_set {n md am j k a : Nat} {V : Nat → Nat → Nat} {O : Nat → Nat} {f : Nat → Nat → Int32} (hj : j < n) (hn : n ≤ 6) (H : trX n md am V O f) : trX n md am (upV1 V j k a) O (mx_u f (39 + j) k (nI a)) := by
  obtain ⟨a0, a1, a2, a3, a4⟩ := H
  refine ⟨?_, ?_, ?_, fun i l hi hl => ?_, fun p hp => ?_⟩
  · simp (disch := omega) only [uu_row]; exact a0
  · simp (disch := omega) only [uu_row]; exact a1
  · simp (disch := omega) only [uu_row]; exact a2
  · unfold upV1
    by_cases e : i = j ∧ l = k
    · rw [if_pos e, e.1, e.2]; simp only [uu_same]
    · rw [if_neg e]
      by_cases e1 : i = j
      · have e2 : l ≠ k := fun z => e ⟨e1, z⟩
        simp (disch := omega) only [uu_col]; exact a3 i l hi hl
      · simp (disch := omega) only [uu_row]; exact a3 i l hi hl
  · simp (disch := omega) only [uu_row]; exact a4 p hp
def alN (b : Nat → Bool) : Nat → Bool
  | 0 => true
  | n + 1 => alN b n && b n
theorem alN_f {b : Nat → Bool} {t : Nat} (h : b t = false) : ∀ n, t < n → alN b n = false
  | 0, ht => by omega
  | n + 1, ht => by
    unfold alN
    by_cases e : t = n
    · subst e; rw [h, Bool.and_false]
    · rw [alN_f h n (by omega), Bool.false_and]
def alk (V V' : Nat → Nat → Nat) (n : Nat) : Bool := alN (fun j => decide (PB V 1 n j = PB V' 1 n j)) n
set_option maxHeartbeats 4000000 in
theorem l_alike {d md am : Nat} {σ : mx_S} {q : mx_R} {w : Vw} {V' : Nat → Nat → Nat} {O' : Nat → Nat} (hw : vwX w σ) (hV' : okV w.1.jn V') (H : trX w.1.jn md am V' O' σ.1) : ∀ m t, t + m = w.1.jn → alN (fun j => decide (PB w.1.V 1 w.1.jn j = PB V' 1 w.1.jn j)) t = true → (mx_run (d + 2) m_X6_isListedAlike 2 [some (.ref 0), some (.int (nI t))] [] σ q ↔ q = (some (.int (bz (alk w.1.V V' w.1.jn))), σ)) := by
  obtain ⟨S1, S2, S3, S4, S5⟩ := vwX_now hw
  obtain ⟨a0, a1, a2, a3, a4⟩ := H
  have hn := hw.1.1.1
  have hV := okV_of hw.1.1.2.2.2.1
  intro m
  induction m with
  | zero =>
    intro t ht hp
    have e : t = w.1.jn := by omega
    subst e
    rw [E_X6_isListedAlike_2]
    simp (disch := omega) only [true_and, and_true, and_self, exists_eq_left, Option.toList_some, Option.toList_none, List.cons_append, List.nil_append, List.append_nil, i2_i, i2_r, i2_n, nz0, nz1, true_or, or_true, Nat.reduceAdd, Nat.le_refl, Nat.reduceLT, Nat.reduceLeDiff, ↓E_X6_isListedAlike_0, ↓E_X6_isListedAlike_1, ↓E_X6_isListedAlike_3, ↓E_X6_isListedAlike_4, ↓E_X6_isListedAlike_7, ↓E_X6_isListedAlike_10, ↓E_X6_isListedAlike_13, ↓E_X6_isListedAlike_14, ↓E_X6_isListedAlike_17, ↓E_X6_isListedAlike_18, ↓E_X6_isListedAlike_19, ↓E_X6_isListedAlike_22, ↓E_X6_isListedAlike_23, ↓E_X6_isListedAlike_26, ↓E_X6_isListedAlike_27, ↓E_X6_isListedAlike_28, ↓E_X6_isListedAlike_31, ↓E_X6_isListedAlike_34, ↓E_X6_isListedAlike_35, ↓E_X6_isListedAlike_36, ↓E_X6_isListedAlike_39, ↓E_X6_isListedAlike_42, ↓E_X6_isListedAlike_43, kd_3, S1, leN, if_true]
    unfold alk
    rw [hp]
    rfl
  | succ m ih =>
    intro t ht hp
    have b1 := PB_lt (V := w.1.V) (r := 1) (show t < w.1.jn by omega)
    have b2 := PB_lt (V := V') (r := 1) (show t < w.1.jn by omega)
    have c1 : ∀ q, mx_call (d + 2) m_X3_placeBy [.ref 1, .int 1, .int (nI t)] σ q ↔ q = (some (.int (nI (PB w.1.V 1 w.1.jn t))), σ) := fun q => s_placeBy (h := 1) (r := 1) (Or.inl rfl) hn (show t < w.1.jn by omega) (by omega) hV S1 S4
    have c2 : ∀ q, mx_call (d + 2) m_X3_placeBy [.ref 37, .int 1, .int (nI t)] σ q ↔ q = (some (.int (nI (PB V' 1 w.1.jn t))), σ) := fun q => s_placeBy (h := 37) (r := 1) (by omega) hn (show t < w.1.jn by omega) (by omega) hV' a0 a3
    rw [E_X6_isListedAlike_2]
    simp (disch := omega) only [true_and, and_true, and_self, exists_eq_left, Option.toList_some, Option.toList_none, List.cons_append, List.nil_append, List.append_nil, i2_i, i2_r, i2_n, nz0, nz1, true_or, or_true, Nat.reduceAdd, Nat.le_refl, Nat.reduceLT, Nat.reduceLeDiff, ↓E_X6_isListedAlike_0, ↓E_X6_isListedAlike_1, ↓E_X6_isListedAlike_3, ↓E_X6_isListedAlike_4, ↓E_X6_isListedAlike_7, ↓E_X6_isListedAlike_10, ↓E_X6_isListedAlike_13, ↓E_X6_isListedAlike_14, ↓E_X6_isListedAlike_17, ↓E_X6_isListedAlike_18, ↓E_X6_isListedAlike_19, ↓E_X6_isListedAlike_22, ↓E_X6_isListedAlike_23, ↓E_X6_isListedAlike_26, ↓E_X6_isListedAlike_27, ↓E_X6_isListedAlike_28, ↓E_X6_isListedAlike_31, ↓E_X6_isListedAlike_34, ↓E_X6_isListedAlike_35, ↓E_X6_isListedAlike_36, ↓E_X6_isListedAlike_39, ↓E_X6_isListedAlike_42, ↓E_X6_isListedAlike_43, kd_3, S1, leN, if_neg (show ¬ w.1.jn ≤ t by omega), c1, c2, eqN, nI_1]
    by_cases e : PB w.1.V 1 w.1.jn t = PB V' 1 w.1.jn t
    · first | rw [if_pos e] | rw [if_neg (fun z => z e)]
      exact ih (t + 1) (by omega) (by unfold alN; rw [hp, decide_eq_true e]; rfl)
    · first | rw [if_neg e] | rw [if_pos e]
      unfold alk
      rw [alN_f (t := t) (decide_eq_false e) _ (by omega)]
      rfl
theorem s_alike {d md am : Nat} {σ : mx_S} {q : mx_R} {w : Vw} {V' : Nat → Nat → Nat} {O' : Nat → Nat} (hw : vwX w σ) (hV' : okV w.1.jn V') (H : trX w.1.jn md am V' O' σ.1) : mx_call (d + 3) m_X6_isListedAlike [.ref 0] σ q ↔ q = (some (.int (bz (alk w.1.V V' w.1.jn))), σ) := by
  simp (disch := omega) only [C_X6_isListedAlike, true_and, and_true, and_self, exists_eq_left, Option.toList_some, Option.toList_none, List.cons_append, List.nil_append, List.append_nil, i2_i, i2_r, i2_n, nz0, nz1, true_or, or_true, Nat.reduceAdd, Nat.le_refl, Nat.reduceLT, Nat.reduceLeDiff, ↓E_X6_isListedAlike_0, ↓E_X6_isListedAlike_1, ↓E_X6_isListedAlike_3, ↓E_X6_isListedAlike_4, ↓E_X6_isListedAlike_7, ↓E_X6_isListedAlike_10, ↓E_X6_isListedAlike_13, ↓E_X6_isListedAlike_14, ↓E_X6_isListedAlike_17, ↓E_X6_isListedAlike_18, ↓E_X6_isListedAlike_19, ↓E_X6_isListedAlike_22, ↓E_X6_isListedAlike_23, ↓E_X6_isListedAlike_26, ↓E_X6_isListedAlike_27, ↓E_X6_isListedAlike_28, ↓E_X6_isListedAlike_31, ↓E_X6_isListedAlike_34, ↓E_X6_isListedAlike_35, ↓E_X6_isListedAlike_36, ↓E_X6_isListedAlike_39, ↓E_X6_isListedAlike_42, ↓E_X6_isListedAlike_43]
  exact l_alike hw hV' H w.1.jn 0 (by omega) rfl
/-- hours r + 1 more make the lists otherwise -/
def slB (w : Vw) (j r : Nat) : Bool := !(alk w.1.V (upV1 w.1.V j 0 (w.1.V j 0 + (r + 1))) w.1.jn)
def F_slack (w : Vw) (j : Int32) : Int32 := if ibI j w.1.jn = false then -1 else nI (fsP (slB w (ixI j)) 30)
set_option maxHeartbeats 4000000 in
theorem l_slack {d : Nat} {w : Vw} {j : Nat} (σ0 : mx_S) (hw0 : vwX w σ0) (hj : j < w.1.jn) : ∀ m t (σ : mx_S), t + m = 30 → fsP (slB w j) t = t → scX σ0 σ → trX w.1.jn w.1.md w.1.am (upV1 w.1.V j 0 (w.1.V j 0 + t)) w.1.O σ.1 →
    ∃ σ', mx_run (d + 3) m_X6_slack 26 [some (.ref 0), some (.int (nI j)), some (.int (nI (t + 1)))] [] σ (some (.int (nI (fsP (slB w j) 30))), σ') ∧ scX σ0 σ' := by
  have hn := hw0.1.1.1
  have hL := hw0.1.1.2.2.2.1
  intro m
  induction m with
  | zero =>
    intro t σ ht hf sc H
    have e : t = 30 := by omega
    subst e
    refine ⟨σ, ?_, sc⟩
    rw [E_X6_slack_26]
    simp (disch := omega) only [true_and, and_true, and_self, exists_eq_left, Option.toList_some, Option.toList_none, List.cons_append, List.nil_append, List.append_nil, i2_i, i2_r, i2_n, nz0, nz1, true_or, or_true, Nat.reduceAdd, Nat.le_refl, Nat.reduceLT, Nat.reduceLeDiff, ↓E_X6_slack_0, ↓E_X6_slack_1, ↓E_X6_slack_4, ↓E_X6_slack_5, ↓E_X6_slack_8, ↓E_X6_slack_11, ↓E_X6_slack_12, ↓E_X6_slack_13, ↓E_X6_slack_14, ↓E_X6_slack_17, ↓E_X6_slack_18, ↓E_X6_slack_21, ↓E_X6_slack_24, ↓E_X6_slack_25, ↓E_X6_slack_27, ↓E_X6_slack_29, ↓E_X6_slack_32, ↓E_X6_slack_33, ↓E_X6_slack_36, ↓E_X6_slack_39, ↓E_X6_slack_40, ↓E_X6_slack_41, ↓E_X6_slack_42, ↓E_X6_slack_43, ↓E_X6_slack_46, ↓E_X6_slack_49, ↓E_X6_slack_50, ↓E_X6_slack_51, ↓E_X6_slack_52, ↓E_X6_slack_53, ↓E_X6_slack_54, ↓E_X6_slack_55, ↓E_X6_slack_56, ↓E_X6_slack_57, ↓E_X6_slack_60, ↓E_X6_slack_63, ↓E_X6_slack_64, ↓E_X6_slack_65, ↓E_X6_slack_66, ↓E_X6_slack_67, ↓E_X6_slack_70, ↓E_X6_slack_73, ↓E_X6_slack_75, if_pos (show (30 : Int32) < nI 31 by decide), if_neg (show ¬ nI 31 ≤ (30 : Int32) by decide), if_true, if_false, hf]
    rfl
  | succ m ih =>
    intro t σ ht hf sc H
    have hw := sc.vw hw0
    obtain ⟨S1, S2, S3, S4, S5⟩ := vwX_now hw
    have v0 : w.1.V j 0 ≤ 30 := hL j 0 hj (by omega)
    have H1 := trX_set (k := 0) (a := w.1.V j 0 + (t + 1)) hj hn H
    rw [upV1_2] at H1
    have sc1 : scX σ0 (mx_u σ.1 (39 + j) 0 (nI (w.1.V j 0 + (t + 1))), σ.2) := sc.tr (scX.u (by omega) (by omega) (by omega))
    have l30 : ¬ (30 : Int32) < nI (t + 1) := fun z => absurd ((nI_ltI (a := 30) (b := t + 1) (by omega) (by omega)).mp z) (by omega)
    have g30 : nI (t + 1) ≤ (30 : Int32) := (nI_leI (a := t + 1) (b := 30) (by omega) (by omega)).mpr (by omega)
    have ca : ∀ q, mx_call (d + 3) m_X6_isListedAlike [.ref 0] (mx_u σ.1 (39 + j) 0 (nI (w.1.V j 0 + (t + 1))), σ.2) q ↔ _ := fun q => s_alike (sc1.vw hw0) (okV_up (okV_of hL) (by omega)) H1
    have e1 : nI (t + 1) - 1 = nI t := nI_pred t
    by_cases e : slB w j t = true
    · refine ⟨_, ?_, sc1⟩
      rw [E_X6_slack_26]
      have e2 : alk w.1.V (upV1 w.1.V j 0 (w.1.V j 0 + (t + 1))) w.1.jn = false := by
        unfold slB at e
        simpa using e
      simp (disch := omega) only [true_and, and_true, and_self, exists_eq_left, Option.toList_some, Option.toList_none, List.cons_append, List.nil_append, List.append_nil, i2_i, i2_r, i2_n, nz0, nz1, true_or, or_true, Nat.reduceAdd, Nat.le_refl, Nat.reduceLT, Nat.reduceLeDiff, ↓E_X6_slack_0, ↓E_X6_slack_1, ↓E_X6_slack_4, ↓E_X6_slack_5, ↓E_X6_slack_8, ↓E_X6_slack_11, ↓E_X6_slack_12, ↓E_X6_slack_13, ↓E_X6_slack_14, ↓E_X6_slack_17, ↓E_X6_slack_18, ↓E_X6_slack_21, ↓E_X6_slack_24, ↓E_X6_slack_25, ↓E_X6_slack_27, ↓E_X6_slack_29, ↓E_X6_slack_32, ↓E_X6_slack_33, ↓E_X6_slack_36, ↓E_X6_slack_39, ↓E_X6_slack_40, ↓E_X6_slack_41, ↓E_X6_slack_42, ↓E_X6_slack_43, ↓E_X6_slack_46, ↓E_X6_slack_49, ↓E_X6_slack_50, ↓E_X6_slack_51, ↓E_X6_slack_52, ↓E_X6_slack_53, ↓E_X6_slack_54, ↓E_X6_slack_55, ↓E_X6_slack_56, ↓E_X6_slack_57, ↓E_X6_slack_60, ↓E_X6_slack_63, ↓E_X6_slack_64, ↓E_X6_slack_65, ↓E_X6_slack_66, ↓E_X6_slack_67, ↓E_X6_slack_70, ↓E_X6_slack_73, ↓E_X6_slack_75, if_neg l30, if_pos g30, kd_3, kd_8, kd_12, ln_6, vin, clN, vin_0, cl_0, ptrG, S4 j 0 hj, nI_add, ca, e2, bz_0, if_true, e1, fsP_hit hf e]
    · have e2 : alk w.1.V (upV1 w.1.V j 0 (w.1.V j 0 + (t + 1))) w.1.jn = true := by
        unfold slB at e
        simpa using e
      obtain ⟨σ', r, sc'⟩ := ih (t + 1) _ (by omega) (fsP_miss hf e) sc1 H1
      refine ⟨σ', ?_, sc'⟩
      rw [E_X6_slack_26]
      simp (disch := omega) only [true_and, and_true, and_self, exists_eq_left, Option.toList_some, Option.toList_none, List.cons_append, List.nil_append, List.append_nil, i2_i, i2_r, i2_n, nz0, nz1, true_or, or_true, Nat.reduceAdd, Nat.le_refl, Nat.reduceLT, Nat.reduceLeDiff, ↓E_X6_slack_0, ↓E_X6_slack_1, ↓E_X6_slack_4, ↓E_X6_slack_5, ↓E_X6_slack_8, ↓E_X6_slack_11, ↓E_X6_slack_12, ↓E_X6_slack_13, ↓E_X6_slack_14, ↓E_X6_slack_17, ↓E_X6_slack_18, ↓E_X6_slack_21, ↓E_X6_slack_24, ↓E_X6_slack_25, ↓E_X6_slack_27, ↓E_X6_slack_29, ↓E_X6_slack_32, ↓E_X6_slack_33, ↓E_X6_slack_36, ↓E_X6_slack_39, ↓E_X6_slack_40, ↓E_X6_slack_41, ↓E_X6_slack_42, ↓E_X6_slack_43, ↓E_X6_slack_46, ↓E_X6_slack_49, ↓E_X6_slack_50, ↓E_X6_slack_51, ↓E_X6_slack_52, ↓E_X6_slack_53, ↓E_X6_slack_54, ↓E_X6_slack_55, ↓E_X6_slack_56, ↓E_X6_slack_57, ↓E_X6_slack_60, ↓E_X6_slack_63, ↓E_X6_slack_64, ↓E_X6_slack_65, ↓E_X6_slack_66, ↓E_X6_slack_67, ↓E_X6_slack_70, ↓E_X6_slack_73, ↓E_X6_slack_75, if_neg l30, if_pos g30, kd_3, kd_8, kd_12, ln_6, vin, clN, vin_0, cl_0, ptrG, S4 j 0 hj, nI_add, ca, e2, bz_0, if_neg (show ¬ true = false by decide), nI_1]
      exact r
set_option maxHeartbeats 4000000 in
theorem X_slack {d : Nat} {σ : mx_S} {w : Vw} {a : Int32} (hw : vwX w σ) : ∃ σ', mx_call (d + 4) m_X6_slack [.ref 0, .int a] σ (some (.int (F_slack w a)), σ') ∧ vwX w σ' ∧ hiS σ σ' := by
  obtain ⟨S1, S2, S3, S4, S5⟩ := vwX_now hw
  have hn := hw.1.1.1
  generalize hF : F_slack w a = R
  unfold F_slack at hF
  simp (disch := omega) only [C_X6_slack, true_and, and_true, and_self, exists_eq_left, Option.toList_some, Option.toList_none, List.cons_append, List.nil_append, List.append_nil, i2_i, i2_r, i2_n, nz0, nz1, true_or, or_true, Nat.reduceAdd, Nat.le_refl, Nat.reduceLT, Nat.reduceLeDiff, ↓E_X6_slack_0, ↓E_X6_slack_1, ↓E_X6_slack_4, ↓E_X6_slack_5, ↓E_X6_slack_8, ↓E_X6_slack_11, ↓E_X6_slack_12, ↓E_X6_slack_13, ↓E_X6_slack_14, ↓E_X6_slack_17, ↓E_X6_slack_18, ↓E_X6_slack_21, ↓E_X6_slack_24, ↓E_X6_slack_25, ↓E_X6_slack_27, ↓E_X6_slack_29, ↓E_X6_slack_32, ↓E_X6_slack_33, ↓E_X6_slack_36, ↓E_X6_slack_39, ↓E_X6_slack_40, ↓E_X6_slack_41, ↓E_X6_slack_42, ↓E_X6_slack_43, ↓E_X6_slack_46, ↓E_X6_slack_49, ↓E_X6_slack_50, ↓E_X6_slack_51, ↓E_X6_slack_52, ↓E_X6_slack_53, ↓E_X6_slack_54, ↓E_X6_slack_55, ↓E_X6_slack_56, ↓E_X6_slack_57, ↓E_X6_slack_60, ↓E_X6_slack_63, ↓E_X6_slack_64, ↓E_X6_slack_65, ↓E_X6_slack_66, ↓E_X6_slack_67, ↓E_X6_slack_70, ↓E_X6_slack_73, ↓E_X6_slack_75, s_hasJob, bz_0, kd_3, S1, ibx_N]
  by_cases e0 : ibI a w.1.jn = false
  · simp only [if_pos e0] at hF ⊢
    subst hF
    exact ⟨σ, rfl, hw, hiS.rf⟩
  simp only [if_neg e0] at hF ⊢
  obtain ⟨ha, ha2, ha3⟩ := ibI_of (eq_true_of_ne_false e0)
  generalize ixI a = j at *
  subst ha
  obtain ⟨σ1, c1, H1, sc1⟩ := s_trial (d := d + 2) hw
  obtain ⟨σ2, r, sc2⟩ := l_slack (d := d) (j := j) σ hw ha2 30 0 σ1 rfl rfl sc1 (by rw [Nat.add_zero, upV1_id]; exact H1)
  have r' : mx_run (d + 3) m_X6_slack 26 [some (.ref 0), some (.int (nI j)), some (.int 1)] [] σ1 (some (.int (nI (fsP (slB w j) 30))), σ2) := r
  simp (disch := omega) only [c1]
  simp (disch := omega) only [true_and, and_true, and_self, exists_eq_left, Option.toList_some, Option.toList_none, List.cons_append, List.nil_append, List.append_nil, i2_i, i2_r, i2_n, nz0, nz1, true_or, or_true, Nat.reduceAdd, Nat.le_refl, Nat.reduceLT, Nat.reduceLeDiff, ↓E_X6_slack_0, ↓E_X6_slack_1, ↓E_X6_slack_4, ↓E_X6_slack_5, ↓E_X6_slack_8, ↓E_X6_slack_11, ↓E_X6_slack_12, ↓E_X6_slack_13, ↓E_X6_slack_14, ↓E_X6_slack_17, ↓E_X6_slack_18, ↓E_X6_slack_21, ↓E_X6_slack_24, ↓E_X6_slack_25, ↓E_X6_slack_27, ↓E_X6_slack_29, ↓E_X6_slack_32, ↓E_X6_slack_33, ↓E_X6_slack_36, ↓E_X6_slack_39, ↓E_X6_slack_40, ↓E_X6_slack_41, ↓E_X6_slack_42, ↓E_X6_slack_43, ↓E_X6_slack_46, ↓E_X6_slack_49, ↓E_X6_slack_50, ↓E_X6_slack_51, ↓E_X6_slack_52, ↓E_X6_slack_53, ↓E_X6_slack_54, ↓E_X6_slack_55, ↓E_X6_slack_56, ↓E_X6_slack_57, ↓E_X6_slack_60, ↓E_X6_slack_63, ↓E_X6_slack_64, ↓E_X6_slack_65, ↓E_X6_slack_66, ↓E_X6_slack_67, ↓E_X6_slack_70, ↓E_X6_slack_73, ↓E_X6_slack_75]
  subst hF
  exact ⟨σ2, r', sc2.vw hw, sc2.hi⟩
