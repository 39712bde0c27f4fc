/-! ===== the class: costs ===== -/
theorem ptrS {h j : Nat} (hs : h = 1 ∨ h = 19 ∨ h = 37) : mx_ptr (h + 1) j = h + 2 + j := by unfold mx_ptr; rw [if_neg (by omega), if_neg (by omega)]
set_option maxHeartbeats 2000000 in
theorem l_costOf {d : Nat} {h a n md am : Nat} {V : Nat → Nat → Nat} {O : Nat → Nat} (hs : h = 1 ∨ h = 37) (ha : a = 9 ∨ a = 45 ∨ a = 46) (hn : n ≤ 6) (hmd : md ≤ 2) (hV : okV n V) (hO : ∀ p, p < n → O p < n) (σ0 : mx_S) (h0 : σ0.1 h 0 = nI n) (hr : ∀ j k, j < n → k < 6 → σ0.1 (h + 2 + j) k = nI (V j k)) (ho : ∀ p, p < n → σ0.1 a p = nI (O p)) : ∀ m p (σ : mx_S), p + m = n → halX V md O 47 p σ.1 → (∀ i, i ≠ 47 → σ.1 i = σ0.1 i) → σ.2 = σ0.2 →
    ∃ σ', (∀ q, mx_run (d + 1) m_X6_costOf 10 [some (.ref 0), some (.ref h), some (.ref a), some (.int (nI md)), some (.int (nI am)), some (.int (nI p))] [] σ q ↔ mx_run (d + 1) m_X6_costOf 42 [some (.ref 0), some (.ref h), some (.ref a), some (.int (nI md)), some (.int (nI am)), some (.int (nI n))] [] σ' q) ∧ halX V md O 47 n σ'.1 ∧ (∀ i, i ≠ 47 → σ'.1 i = σ0.1 i) ∧ σ'.2 = σ0.2 := by
  intro m
  induction m with
  | zero =>
    intro p σ hp H g1 g2
    have e : p = n := by omega
    subst e
    refine ⟨σ, fun q => ?_, H, g1, g2⟩
    have h0' : σ.1 h 0 = nI p := by rw [g1 h (by omega)]; exact h0
    rw [E_X6_costOf_10]
    simp (disch := omega) only [true_and, and_true, and_self, exists_eq_left, Option.toList_some, Option.toList_none, List.cons_append, List.nil_append, List.append_nil, i2_i, i2_r, i2_n, nz0, nz1, true_or, or_true, Nat.reduceAdd, Nat.le_refl, Nat.reduceLT, Nat.reduceLeDiff, ↓E_X6_costOf_0, ↓E_X6_costOf_1, ↓E_X6_costOf_4, ↓E_X6_costOf_7, ↓E_X6_costOf_8, ↓E_X6_costOf_12, ↓E_X6_costOf_13, ↓E_X6_costOf_16, ↓E_X6_costOf_19, ↓E_X6_costOf_20, ↓E_X6_costOf_23, ↓E_X6_costOf_24, ↓E_X6_costOf_27, ↓E_X6_costOf_28, ↓E_X6_costOf_30, ↓E_X6_costOf_31, ↓E_X6_costOf_32, ↓E_X6_costOf_33, ↓E_X6_costOf_36, ↓E_X6_costOf_39, ↓E_X6_costOf_43, ↓E_X6_costOf_46, ↓E_X6_costOf_48, ↓E_X6_costOf_51, kd_3, h0', leN, if_true]
  | succ m ih =>
    intro p σ hp H g1 g2
    have h0' : σ.1 h 0 = nI n := by rw [g1 h (by omega)]; exact h0
    have ro : σ.1 a p = nI (O p) := by rw [g1 a (by omega)]; exact ho p (by omega)
    have hOp := hO p (by omega)
    obtain ⟨σ1, c1, H1, -, f1, f2⟩ := s_press (d := d) (σ := σ) (h := 47) (a := h + 2 + O p) (n := n) (md := md) (p := p) (V := V) (O := O) (Or.inl rfl) (by omega) hn hV hO (by omega) (fun k hk => by rw [g1 _ (by omega)]; exact hr _ k hOp hk) H hmd
    obtain ⟨σ', R, H', g1', g2'⟩ := ih (p + 1) σ1 (by omega) H1 (fun i hi => by rw [f1 i hi, g1 i hi]) (by rw [f2, g2])
    refine ⟨σ', fun q => ?_, H', g1', g2'⟩
    rw [E_X6_costOf_10]
    simp (disch := omega) only [true_and, and_true, and_self, exists_eq_left, Option.toList_some, Option.toList_none, List.cons_append, List.nil_append, List.append_nil, i2_i, i2_r, i2_n, nz0, nz1, true_or, or_true, Nat.reduceAdd, Nat.le_refl, Nat.reduceLT, Nat.reduceLeDiff, ↓E_X6_costOf_0, ↓E_X6_costOf_1, ↓E_X6_costOf_4, ↓E_X6_costOf_7, ↓E_X6_costOf_8, ↓E_X6_costOf_12, ↓E_X6_costOf_13, ↓E_X6_costOf_16, ↓E_X6_costOf_19, ↓E_X6_costOf_20, ↓E_X6_costOf_23, ↓E_X6_costOf_24, ↓E_X6_costOf_27, ↓E_X6_costOf_28, ↓E_X6_costOf_30, ↓E_X6_costOf_31, ↓E_X6_costOf_32, ↓E_X6_costOf_33, ↓E_X6_costOf_36, ↓E_X6_costOf_39, ↓E_X6_costOf_43, ↓E_X6_costOf_46, ↓E_X6_costOf_48, ↓E_X6_costOf_51, kd_3, kd_0, kd_8, kd_12, ln_6, h0', leN, vin, clN, ro, ptrS, mx_one c1, nI_1]
    rw [if_neg (by omega)]
    exact R q
set_option maxHeartbeats 2000000 in
theorem s_costBy {d : Nat} {σ : mx_S} {h n md am : Nat} {V : Nat → Nat → Nat} {O : Nat → Nat} {q : mx_R} (hh : h = 47 ∨ (53 ≤ h ∧ h ≤ 59)) (ham : am ≤ 2) (H : halX V md O h n σ.1) : mx_call (d + 1) m_X0_costBy [.ref h, .int (nI am)] σ q ↔ q = (some (.int (iN (CST V md am O n))), σ) := by
  obtain ⟨H0, H1, H5, H7, H8, H9⟩ := H
  unfold CST
  rcases (show am = 0 ∨ am = 1 ∨ am = 2 by omega) with rfl | rfl | rfl
  · simp (disch := omega) only [C_X0_costBy, true_and, and_true, and_self, exists_eq_left, Option.toList_some, Option.toList_none, List.cons_append, List.nil_append, List.append_nil, i2_i, i2_r, i2_n, nz0, nz1, true_or, or_true, Nat.reduceAdd, Nat.le_refl, Nat.reduceLT, Nat.reduceLeDiff, ↓E_X0_costBy_0, ↓E_X0_costBy_1, ↓E_X0_costBy_4, ↓E_X0_costBy_5, ↓E_X0_costBy_8, ↓E_X0_costBy_9, ↓E_X0_costBy_10, ↓E_X0_costBy_11, ↓E_X0_costBy_14, ↓E_X0_costBy_15, ↓E_X0_costBy_18, ↓E_X0_costBy_21, ↓E_X0_costBy_22, ↓E_X0_costBy_25, kd_0, H7, if_true, show nI 0 = 0 from rfl]; rfl
  · simp (disch := omega) only [C_X0_costBy, true_and, and_true, and_self, exists_eq_left, Option.toList_some, Option.toList_none, List.cons_append, List.nil_append, List.append_nil, i2_i, i2_r, i2_n, nz0, nz1, true_or, or_true, Nat.reduceAdd, Nat.le_refl, Nat.reduceLT, Nat.reduceLeDiff, ↓E_X0_costBy_0, ↓E_X0_costBy_1, ↓E_X0_costBy_4, ↓E_X0_costBy_5, ↓E_X0_costBy_8, ↓E_X0_costBy_9, ↓E_X0_costBy_10, ↓E_X0_costBy_11, ↓E_X0_costBy_14, ↓E_X0_costBy_15, ↓E_X0_costBy_18, ↓E_X0_costBy_21, ↓E_X0_costBy_22, ↓E_X0_costBy_25, kd_0, H8, if_true, if_neg (show ¬ (1 : Nat) = 0 by decide), if_neg (show ¬ nI 1 = 0 by decide), if_pos (show nI 1 = 1 by decide)]; rfl
  · simp (disch := omega) only [C_X0_costBy, true_and, and_true, and_self, exists_eq_left, Option.toList_some, Option.toList_none, List.cons_append, List.nil_append, List.append_nil, i2_i, i2_r, i2_n, nz0, nz1, true_or, or_true, Nat.reduceAdd, Nat.le_refl, Nat.reduceLT, Nat.reduceLeDiff, ↓E_X0_costBy_0, ↓E_X0_costBy_1, ↓E_X0_costBy_4, ↓E_X0_costBy_5, ↓E_X0_costBy_8, ↓E_X0_costBy_9, ↓E_X0_costBy_10, ↓E_X0_costBy_11, ↓E_X0_costBy_14, ↓E_X0_costBy_15, ↓E_X0_costBy_18, ↓E_X0_costBy_21, ↓E_X0_costBy_22, ↓E_X0_costBy_25, kd_0, H9, if_neg (show ¬ (2 : Nat) = 0 by decide), if_neg (show ¬ (2 : Nat) = 1 by decide), if_neg (show ¬ nI 2 = 0 by decide), if_neg (show ¬ nI 2 = 1 by decide)]
set_option maxHeartbeats 2000000 in
theorem s_costOf {d : Nat} {σ : mx_S} {h a n md am : Nat} {V : Nat → Nat → Nat} {O : Nat → Nat} (hs : h = 1 ∨ h = 37) (ha : a = 9 ∨ a = 45 ∨ a = 46) (hn : n ≤ 6) (hmd : md ≤ 2) (ham : am ≤ 2) (hV : okV n V) (hO : ∀ p, p < n → O p < n) (h0 : σ.1 h 0 = nI n) (hr : ∀ j k, j < n → k < 6 → σ.1 (h + 2 + j) k = nI (V j k)) (ho : ∀ p, p < n → σ.1 a p = nI (O p)) :
    ∃ σ', mx_call (d + 2) m_X6_costOf [.ref 0, .ref h, .ref a, .int (nI md), .int (nI am)] σ (some (.int (iN (CST V md am O n))), σ') ∧ (∀ i, i ≠ 47 → σ'.1 i = σ.1 i) ∧ σ'.2 = σ.2 := by
  obtain ⟨σ1, c1, H1, f1, f2⟩ := s_open (d := d) (σ := σ) (h := 47) (Or.inl rfl) V md O
  obtain ⟨σ', R, H', g1, g2⟩ := l_costOf (d := d) (am := am) hs ha hn hmd hV hO σ h0 hr ho n 0 σ1 (by omega) H1 f1 f2
  refine ⟨σ', ?_, g1, g2⟩
  simp (disch := omega) only [C_X6_costOf, true_and, and_true, and_self, exists_eq_left, Option.toList_some, Option.toList_none, List.cons_append, List.nil_append, List.append_nil, i2_i, i2_r, i2_n, nz0, nz1, true_or, or_true, Nat.reduceAdd, Nat.le_refl, Nat.reduceLT, Nat.reduceLeDiff, ↓E_X6_costOf_0, ↓E_X6_costOf_1, ↓E_X6_costOf_4, ↓E_X6_costOf_7, ↓E_X6_costOf_8, ↓E_X6_costOf_12, ↓E_X6_costOf_13, ↓E_X6_costOf_16, ↓E_X6_costOf_19, ↓E_X6_costOf_20, ↓E_X6_costOf_23, ↓E_X6_costOf_24, ↓E_X6_costOf_27, ↓E_X6_costOf_28, ↓E_X6_costOf_30, ↓E_X6_costOf_31, ↓E_X6_costOf_32, ↓E_X6_costOf_33, ↓E_X6_costOf_36, ↓E_X6_costOf_39, ↓E_X6_costOf_42, ↓E_X6_costOf_43, ↓E_X6_costOf_46, ↓E_X6_costOf_48, ↓E_X6_costOf_51, kd_0, mx_one c1]
  refine (R _).mpr ?_
  simp (disch := omega) only [true_and, and_true, and_self, exists_eq_left, Option.toList_some, Option.toList_none, List.cons_append, List.nil_append, List.append_nil, i2_i, i2_r, i2_n, nz0, nz1, true_or, or_true, Nat.reduceAdd, Nat.le_refl, Nat.reduceLT, Nat.reduceLeDiff, ↓E_X6_costOf_0, ↓E_X6_costOf_1, ↓E_X6_costOf_4, ↓E_X6_costOf_7, ↓E_X6_costOf_8, ↓E_X6_costOf_12, ↓E_X6_costOf_13, ↓E_X6_costOf_16, ↓E_X6_costOf_19, ↓E_X6_costOf_20, ↓E_X6_costOf_23, ↓E_X6_costOf_24, ↓E_X6_costOf_27, ↓E_X6_costOf_28, ↓E_X6_costOf_30, ↓E_X6_costOf_31, ↓E_X6_costOf_32, ↓E_X6_costOf_33, ↓E_X6_costOf_36, ↓E_X6_costOf_39, ↓E_X6_costOf_42, ↓E_X6_costOf_43, ↓E_X6_costOf_46, ↓E_X6_costOf_48, ↓E_X6_costOf_51, kd_0, s_costBy (Or.inl rfl) ham H']
theorem okV_of {n : Nat} {V : Nat → Nat → Nat} (h : ∀ j k, j < n → k < 6 → V j k ≤ lim k) : okV n V := fun j k hj hk => Nat.le_trans (h j k hj hk) (lim_le k)
/-- the cost of an order of what is -/
theorem s_cost1 {d : Nat} {σ : mx_S} {w : Vw} {a md am : Nat} {O : Nat → Nat} (hw : vwX w σ) (ha : a = 9 ∨ a = 45 ∨ a = 46) (hmd : md ≤ 2) (ham : am ≤ 2) (hO : ∀ p, p < w.1.jn → O p < w.1.jn) (ho : ∀ p, p < w.1.jn → σ.1 a p = nI (O p)) :
    ∃ σ', mx_call (d + 2) m_X6_costOf [.ref 0, .ref 1, .ref a, .int (nI md), .int (nI am)] σ (some (.int (iN (CST w.1.V md am O w.1.jn))), σ') ∧ (∀ i, i ≠ 47 → σ'.1 i = σ.1 i) ∧ σ'.2 = σ.2 := by
  obtain ⟨S1, S2, S3, S4, S5⟩ := vwX_now hw
  exact s_costOf (Or.inl rfl) ha hw.1.1.1 hmd ham (okV_of hw.1.1.2.2.2.1) hO S1 S4 ho
theorem sc47 {σ σ' : mx_S} (h : ∀ i, i ≠ 47 → σ'.1 i = σ.1 i) (h2 : σ'.2 = σ.2) : scX σ σ' := ⟨fun i hi => h i (by omega), h2⟩
set_option maxHeartbeats 2000000 in
theorem s_planCost {d : Nat} {σ : mx_S} {w : Vw} (hw : vwX w σ) : ∃ σ', mx_call (d + 3) m_X6_planCost [.ref 0] σ (some (.int (iN (CST w.1.V w.1.md w.1.am w.1.O w.1.jn))), σ') ∧ (∀ i, i ≠ 47 → σ'.1 i = σ.1 i) ∧ σ'.2 = σ.2 := by
  obtain ⟨S1, S2, S3, S4, S5⟩ := vwX_now hw
  have ok := hw.1.1
  obtain ⟨σ', c, f, g⟩ := s_cost1 (d := d) (a := 9) hw (Or.inl rfl) ok.2.1 ok.2.2.1 ok.2.2.2.2.1.1 S5
  refine ⟨σ', ?_, f, g⟩
  simp (disch := omega) only [C_X6_planCost, true_and, and_true, and_self, exists_eq_left, Option.toList_some, Option.toList_none, List.cons_append, List.nil_append, List.append_nil, i2_i, i2_r, i2_n, nz0, nz1, true_or, or_true, Nat.reduceAdd, Nat.le_refl, Nat.reduceLT, Nat.reduceLeDiff, ↓E_X6_planCost_0, ↓E_X6_planCost_1, ↓E_X6_planCost_2, ↓E_X6_planCost_5, ↓E_X6_planCost_6, ↓E_X6_planCost_9, ↓E_X6_planCost_12, ↓E_X6_planCost_13, ↓E_X6_planCost_16, ↓E_X6_planCost_19, ↓E_X6_planCost_20, ↓E_X6_planCost_23, ↓E_X6_planCost_26, ↓E_X6_planCost_29, kd_3, S2, S3, mx_one c]
set_option maxHeartbeats 2000000 in
theorem s_movedCost {d : Nat} {σ : mx_S} {w : Vw} {k l : Nat} (hw : vwX w σ) (hk : k < w.1.jn) (hl : l < w.1.jn) : ∃ σ', mx_call (d + 3) m_X6_movedCost [.ref 0, .int (nI k), .int (nI l)] σ (some (.int (iN (CST w.1.V w.1.md w.1.am (mv w.1.O k l) w.1.jn))), σ') ∧ (∀ i, i ≠ 46 → i ≠ 47 → σ'.1 i = σ.1 i) ∧ σ'.2 = σ.2 := by
  obtain ⟨S1, S2, S3, S4, S5⟩ := vwX_now hw
  have ok := hw.1.1
  have hn := ok.1
  have hO := okO_mv ok.2.2.2.2.1 hk hl
  have hw1 : vwX w (mx_c (mx_c σ.1 46 (va_cpy (σ.1 9) (σ.1 46) 0 0 6)) 46 (fun p => mx_c σ.1 46 (va_cpy (σ.1 9) (σ.1 46) 0 0 6) 46 (mvI k l p)), σ.2) := by
    refine scX.vw (σ := σ) ⟨fun i hi => ?_, rfl⟩ hw
    simp (disch := omega) only [mx_c_ne]
  obtain ⟨σ', c, f, g⟩ := s_cost1 (d := d) (a := 46) (O := mv w.1.O k l) hw1 (by omega) ok.2.1 ok.2.2.1 hO.1 (fun p hp => by
    have := mvI_lt hk hl hp
    simp only [cc_same, cpy6 (show mvI k l p < 6 by omega)]
    exact S5 _ this)
  refine ⟨σ', ?_, fun i h1 h2 => ?_, g⟩
  · have h0' : (mx_c σ.1 46 (va_cpy (σ.1 9) (σ.1 46) 0 0 6)) 1 0 = nI w.1.jn := by rw [cc_row (by omega)]; exact S1
    have cs := fun q => s_shiftJob (d := d) (q := q) (σ := (mx_c σ.1 46 (va_cpy (σ.1 9) (σ.1 46) 0 0 6), σ.2)) (h := 1) (a := 46) (n := w.1.jn) (k := k) (l := l) (Or.inl rfl) (Or.inr rfl) hn h0' hk hl
    simp (disch := first | omega | (refine kd_8 ?_; omega)) only [C_X6_movedCost, true_and, and_true, and_self, exists_eq_left, Option.toList_some, Option.toList_none, List.cons_append, List.nil_append, List.append_nil, i2_i, i2_r, i2_n, nz0, nz1, true_or, or_true, Nat.reduceAdd, Nat.le_refl, Nat.reduceLT, Nat.reduceLeDiff, ↓E_X6_movedCost_0, ↓E_X6_movedCost_1, ↓E_X6_movedCost_4, ↓E_X6_movedCost_7, ↓E_X6_movedCost_8, ↓E_X6_movedCost_9, ↓E_X6_movedCost_12, ↓E_X6_movedCost_13, ↓E_X6_movedCost_15, ↓E_X6_movedCost_18, ↓E_X6_movedCost_19, ↓E_X6_movedCost_22, ↓E_X6_movedCost_23, ↓E_X6_movedCost_26, ↓E_X6_movedCost_27, ↓E_X6_movedCost_28, ↓E_X6_movedCost_31, ↓E_X6_movedCost_32, ↓E_X6_movedCost_33, ↓E_X6_movedCost_36, ↓E_X6_movedCost_37, ↓E_X6_movedCost_40, ↓E_X6_movedCost_41, ↓E_X6_movedCost_44, ↓E_X6_movedCost_47, ↓E_X6_movedCost_48, ↓E_X6_movedCost_51, ↓E_X6_movedCost_54, ↓E_X6_movedCost_57, kd_3, cp6, cl_0, cl_6, cs, cc_row, S2, S3, mx_one c]
  · rw [f i h2]
    simp (disch := omega) only [mx_c_ne]
/-! ===== the class: what costs are asked ===== -/
def NO : Int64 := -9223372036854775808
def F_would (w : Vw) (k : Int32) : Int64 := if ibI k (w.1.jn - 1) = false then NO else (iN (CST w.1.V w.1.md w.1.am (mv w.1.O (ixI k) (ixI k + 1)) w.1.jn)).toInt64
set_option maxHeartbeats 2000000 in
theorem X_would {d : Nat} {σ : mx_S} {w : Vw} {a : Int32} (hw : vwX w σ) : ∃ σ', mx_call (d + 4) m_X6_would [.ref 0, .int a] σ (some (.long (F_would w a)), σ') ∧ vwX w σ' ∧ hiS σ σ' := by
  obtain ⟨S1, S2, S3, S4, S5⟩ := vwX_now hw
  have hn := hw.1.1.1
  simp (disch := omega) only [C_X6_would, true_and, and_true, and_self, exists_eq_left, Option.toList_some, Option.toList_none, List.cons_append, List.nil_append, List.append_nil, i2_i, i2_r, i2_n, nz0, nz1, true_or, or_true, Nat.reduceAdd, Nat.le_refl, Nat.reduceLT, Nat.reduceLeDiff, ↓E_X6_would_0, ↓E_X6_would_1, ↓E_X6_would_2, ↓E_X6_would_5, ↓E_X6_would_8, ↓E_X6_would_9, ↓E_X6_would_10, ↓E_X6_would_11, ↓E_X6_would_12, ↓E_X6_would_13, ↓E_X6_would_16, ↓E_X6_would_17, ↓E_X6_would_20, ↓E_X6_would_23, s_isPair hn S1, bz_0]
  unfold F_would NO
  by_cases e0 : ibI a (w.1.jn - 1) = false
  · simp only [if_pos e0]
    exact ⟨σ, rfl, hw, hiS.rf⟩
  obtain ⟨ha, ha2, ha3⟩ := ibI_of (eq_true_of_ne_false e0)
  simp only [if_neg e0]
  generalize ixI a = k at *
  subst ha
  obtain ⟨σ', c, f, g⟩ := s_movedCost (d := d) (k := k) (l := k + 1) hw (by omega) (by omega)
  have sc : scX σ σ' := ⟨fun i hi => f i (by omega) (by omega), g⟩
  simp (disch := omega) only [nI_1, mx_one c, true_and, and_true, and_self, exists_eq_left, Option.toList_some, Option.toList_none, List.cons_append, List.nil_append, List.append_nil, i2_i, i2_r, i2_n, nz0, nz1, true_or, or_true, Nat.reduceAdd, Nat.le_refl, Nat.reduceLT, Nat.reduceLeDiff, ↓E_X6_would_0, ↓E_X6_would_1, ↓E_X6_would_2, ↓E_X6_would_5, ↓E_X6_would_8, ↓E_X6_would_9, ↓E_X6_would_10, ↓E_X6_would_11, ↓E_X6_would_12, ↓E_X6_would_13, ↓E_X6_would_16, ↓E_X6_would_17, ↓E_X6_would_20, ↓E_X6_would_23]
  exact ⟨σ', rfl, sc.vw hw, sc.hi⟩
