/-! ===== the reference: costs ===== -/
theorem EJ_le {n md : Nat} {V : Nat → Nat → Nat} {O : Nat → Nat} (hn : n ≤ 6) (hV : okV n V) (hO : okO n O) {j : Nat} (hj : j < n) : EJ V md n O j ≤ 2400 := by
  obtain ⟨hp, -⟩ := plc_ok hO hj
  have := EN_le (md := md) hV hO.1 hp
  unfold EJ
  omega
theorem iN_maxN {a : Int} {b : Nat} (h1 : -2147483648 ≤ a) (h2 : a < 2147483648) (h3 : b < 2147483648) : (if iN a < nI b then nI b else iN a) = iN (max a (b : Int)) := by
  rw [iN_nI b]
  exact iN_max h1 h2 (by omega) (by omega)
theorem whJ_end {V : Nat → Nat → Nat} {md n : Nat} {O : Nat → Nat} {f : Nat → Nat → Int32} (hO : okO n O) (h : ∀ p, p < n → whJ V md (O p) (TS V md O p) f) {j : Nat} (hj : j < n) : f 99 (6 * j + 5) = nI (EJ V md n O j) := by
  obtain ⟨hp, e⟩ := plc_ok hO hj
  obtain ⟨-, -, -, -, -, w5⟩ := h _ hp
  rw [e] at w5
  rw [w5]
  unfold EJ EN
  rw [e]
set_option maxHeartbeats 4000000 in
theorem m_costOf {d a n md am : Nat} {V : Nat → Nat → Nat} {O : Nat → Nat} {σ0 : mx_S} (ha : a = 90 ∨ a = 100 ∨ a = 101) (hn : n ≤ 6) (hn0 : 0 < n) (hmd : md ≤ 2) (ham : am ≤ 2) (hV : okV n V) (hO : okO n O) (h0 : σ0.1 88 0 = nI n) (ho : ∀ p, p < n → σ0.1 a p = nI (O p)) (hR : ∀ j k, j < n → k < 6 → σ0.1 89 (6 * j + k) = nI (V j k)) :
    ∃ σ', (∀ q, mx_call (d + 3) m_X7_costOf [.ref 88, .ref a, .int (nI md), .int (nI am)] σ0 q ↔ q = (some (.int (iN (CST V md am O n))), σ')) ∧ (∀ p, p < n → whJ V md (O p) (TS V md O p) σ'.1) ∧ (∀ i, i ≠ 99 → σ'.1 i = σ0.1 i) ∧ σ'.2 = σ0.2 := by
  obtain ⟨σ1, c1, hw, f1, g1⟩ := m_goes (d := d) ha hn hmd hV hO h0 ho hR
  refine ⟨σ1, fun q => ?_, hw, f1, g1⟩
  have h0' : σ1.1 88 0 = nI n := by rw [f1 88 (by omega)]; exact h0
  have hR' : ∀ j k, j < n → k < 6 → σ1.1 89 (6 * j + k) = nI (V j k) := fun j k hj hk => by rw [f1 89 (by omega)]; exact hR j k hj hk
  have bE := fun j (hj : j < n) => EJ_le (md := md) hn hV hO hj
  rcases (show am = 0 ∨ am = 1 ∨ am = 2 by omega) with rfl | rfl | rfl
  · have lp : ∀ m j, j + m = n → (mx_run (d + 2) m_X7_costOf 22 [some (.ref 88), some (.ref a), some (.int (nI md)), some (.int (nI 0)), some (.int (iN (mxI (fun j => (EJ V md n O j : Int)) j))), some (.int (nI j))] [] σ1 q ↔ q = (some (.int (iN (mxI (fun j => (EJ V md n O j : Int)) n))), σ1)) := by
      intro m
      induction m with
      | zero =>
        intro j hj
        have e : j = n := by omega
        subst e
        rw [E_X7_costOf_22]
        simp (disch := omega) only [true_and, and_true, and_self, exists_eq_left, Option.toList_some, Option.toList_none, List.cons_append, List.nil_append, List.append_nil, i2_i, i2_r, i2_n, nz0, nz1, true_or, or_true, Nat.reduceAdd, Nat.le_refl, Nat.reduceLT, Nat.reduceLeDiff, ↓E_X7_costOf_0, ↓E_X7_costOf_1, ↓E_X7_costOf_2, ↓E_X7_costOf_3, ↓E_X7_costOf_6, ↓E_X7_costOf_7, ↓E_X7_costOf_8, ↓E_X7_costOf_11, ↓E_X7_costOf_12, ↓E_X7_costOf_15, ↓E_X7_costOf_17, ↓E_X7_costOf_19, ↓E_X7_costOf_20, ↓E_X7_costOf_24, ↓E_X7_costOf_25, ↓E_X7_costOf_28, ↓E_X7_costOf_31, ↓E_X7_costOf_32, ↓E_X7_costOf_35, ↓E_X7_costOf_37, ↓E_X7_costOf_38, ↓E_X7_costOf_40, ↓E_X7_costOf_43, ↓E_X7_costOf_46, ↓E_X7_costOf_49, ↓E_X7_costOf_50, ↓E_X7_costOf_51, ↓E_X7_costOf_54, ↓E_X7_costOf_56, ↓E_X7_costOf_57, ↓E_X7_costOf_59, ↓E_X7_costOf_62, ↓E_X7_costOf_63, ↓E_X7_costOf_66, ↓E_X7_costOf_68, ↓E_X7_costOf_69, ↓E_X7_costOf_71, ↓E_X7_costOf_74, ↓E_X7_costOf_75, ↓E_X7_costOf_77, ↓E_X7_costOf_78, ↓E_X7_costOf_81, ↓E_X7_costOf_82, ↓E_X7_costOf_85, ↓E_X7_costOf_87, ↓E_X7_costOf_90, ↓E_X7_costOf_93, ↓E_X7_costOf_95, h0', leN, if_true]
      | succ m ih =>
        intro j hj
        have b1 := mxI_le (g := fun j => (EJ V md n O j : Int)) j (fun i hi => by have := bE i (by omega); show ((EJ V md n O i : Nat) : Int) ≤ 20000; omega)
        have b2 := bE j (by omega)
        rw [E_X7_costOf_22]
        simp (disch := omega) only [true_and, and_true, and_self, exists_eq_left, Option.toList_some, Option.toList_none, List.cons_append, List.nil_append, List.append_nil, i2_i, i2_r, i2_n, nz0, nz1, true_or, or_true, Nat.reduceAdd, Nat.le_refl, Nat.reduceLT, Nat.reduceLeDiff, ↓E_X7_costOf_0, ↓E_X7_costOf_1, ↓E_X7_costOf_2, ↓E_X7_costOf_3, ↓E_X7_costOf_6, ↓E_X7_costOf_7, ↓E_X7_costOf_8, ↓E_X7_costOf_11, ↓E_X7_costOf_12, ↓E_X7_costOf_15, ↓E_X7_costOf_17, ↓E_X7_costOf_19, ↓E_X7_costOf_20, ↓E_X7_costOf_24, ↓E_X7_costOf_25, ↓E_X7_costOf_28, ↓E_X7_costOf_31, ↓E_X7_costOf_32, ↓E_X7_costOf_35, ↓E_X7_costOf_37, ↓E_X7_costOf_38, ↓E_X7_costOf_40, ↓E_X7_costOf_43, ↓E_X7_costOf_46, ↓E_X7_costOf_50, ↓E_X7_costOf_51, ↓E_X7_costOf_54, ↓E_X7_costOf_56, ↓E_X7_costOf_57, ↓E_X7_costOf_59, ↓E_X7_costOf_62, ↓E_X7_costOf_63, ↓E_X7_costOf_66, ↓E_X7_costOf_68, ↓E_X7_costOf_69, ↓E_X7_costOf_71, ↓E_X7_costOf_74, ↓E_X7_costOf_75, ↓E_X7_costOf_77, ↓E_X7_costOf_78, ↓E_X7_costOf_81, ↓E_X7_costOf_82, ↓E_X7_costOf_85, ↓E_X7_costOf_87, ↓E_X7_costOf_90, ↓E_X7_costOf_93, ↓E_X7_costOf_95, h0', leN, if_neg (show ¬ n ≤ j by omega), if_pos (show nI 0 = 0 by decide), m_ends, whJ_end hO hw (show j < n by omega), iN_maxN, nI_1]
        exact ih (j + 1) (by omega)
    simp (disch := omega) only [C_X7_costOf, true_and, and_true, and_self, exists_eq_left, Option.toList_some, Option.toList_none, List.cons_append, List.nil_append, List.append_nil, i2_i, i2_r, i2_n, nz0, nz1, true_or, or_true, Nat.reduceAdd, Nat.le_refl, Nat.reduceLT, Nat.reduceLeDiff, ↓E_X7_costOf_0, ↓E_X7_costOf_1, ↓E_X7_costOf_2, ↓E_X7_costOf_3, ↓E_X7_costOf_6, ↓E_X7_costOf_7, ↓E_X7_costOf_8, ↓E_X7_costOf_11, ↓E_X7_costOf_12, ↓E_X7_costOf_15, ↓E_X7_costOf_17, ↓E_X7_costOf_19, ↓E_X7_costOf_20, ↓E_X7_costOf_24, ↓E_X7_costOf_25, ↓E_X7_costOf_28, ↓E_X7_costOf_31, ↓E_X7_costOf_32, ↓E_X7_costOf_35, ↓E_X7_costOf_37, ↓E_X7_costOf_38, ↓E_X7_costOf_40, ↓E_X7_costOf_43, ↓E_X7_costOf_46, ↓E_X7_costOf_49, ↓E_X7_costOf_50, ↓E_X7_costOf_51, ↓E_X7_costOf_54, ↓E_X7_costOf_56, ↓E_X7_costOf_57, ↓E_X7_costOf_59, ↓E_X7_costOf_62, ↓E_X7_costOf_63, ↓E_X7_costOf_66, ↓E_X7_costOf_68, ↓E_X7_costOf_69, ↓E_X7_costOf_71, ↓E_X7_costOf_74, ↓E_X7_costOf_75, ↓E_X7_costOf_77, ↓E_X7_costOf_78, ↓E_X7_costOf_81, ↓E_X7_costOf_82, ↓E_X7_costOf_85, ↓E_X7_costOf_87, ↓E_X7_costOf_90, ↓E_X7_costOf_93, ↓E_X7_costOf_95, c1, if_neg (show ¬ nI 0 = 1 by decide)]
    have := lp n 0 (by omega)
    rw [← EL_J hO hn0] at this
    exact this
  · have lp : ∀ m j, j + m = n → (mx_run (d + 2) m_X7_costOf 22 [some (.ref 88), some (.ref a), some (.int (nI md)), some (.int (nI 1)), some (.int (nI (smV (EJ V md n O) j))), some (.int (nI j))] [] σ1 q ↔ q = (some (.int (nI (smV (EJ V md n O) n))), σ1)) := by
      intro m
      induction m with
      | zero =>
        intro j hj
        have e : j = n := by omega
        subst e
        rw [E_X7_costOf_22]
        simp (disch := omega) only [true_and, and_true, and_self, exists_eq_left, Option.toList_some, Option.toList_none, List.cons_append, List.nil_append, List.append_nil, i2_i, i2_r, i2_n, nz0, nz1, true_or, or_true, Nat.reduceAdd, Nat.le_refl, Nat.reduceLT, Nat.reduceLeDiff, ↓E_X7_costOf_0, ↓E_X7_costOf_1, ↓E_X7_costOf_2, ↓E_X7_costOf_3, ↓E_X7_costOf_6, ↓E_X7_costOf_7, ↓E_X7_costOf_8, ↓E_X7_costOf_11, ↓E_X7_costOf_12, ↓E_X7_costOf_15, ↓E_X7_costOf_17, ↓E_X7_costOf_19, ↓E_X7_costOf_20, ↓E_X7_costOf_24, ↓E_X7_costOf_25, ↓E_X7_costOf_28, ↓E_X7_costOf_31, ↓E_X7_costOf_32, ↓E_X7_costOf_35, ↓E_X7_costOf_37, ↓E_X7_costOf_38, ↓E_X7_costOf_40, ↓E_X7_costOf_43, ↓E_X7_costOf_46, ↓E_X7_costOf_49, ↓E_X7_costOf_50, ↓E_X7_costOf_51, ↓E_X7_costOf_54, ↓E_X7_costOf_56, ↓E_X7_costOf_57, ↓E_X7_costOf_59, ↓E_X7_costOf_62, ↓E_X7_costOf_63, ↓E_X7_costOf_66, ↓E_X7_costOf_68, ↓E_X7_costOf_69, ↓E_X7_costOf_71, ↓E_X7_costOf_74, ↓E_X7_costOf_75, ↓E_X7_costOf_77, ↓E_X7_costOf_78, ↓E_X7_costOf_81, ↓E_X7_costOf_82, ↓E_X7_costOf_85, ↓E_X7_costOf_87, ↓E_X7_costOf_90, ↓E_X7_costOf_93, ↓E_X7_costOf_95, h0', leN, if_true]
      | succ m ih =>
        intro j hj
        rw [E_X7_costOf_22]
        simp (disch := omega) only [true_and, and_true, and_self, exists_eq_left, Option.toList_some, Option.toList_none, List.cons_append, List.nil_append, List.append_nil, i2_i, i2_r, i2_n, nz0, nz1, true_or, or_true, Nat.reduceAdd, Nat.le_refl, Nat.reduceLT, Nat.reduceLeDiff, ↓E_X7_costOf_0, ↓E_X7_costOf_1, ↓E_X7_costOf_2, ↓E_X7_costOf_3, ↓E_X7_costOf_6, ↓E_X7_costOf_7, ↓E_X7_costOf_8, ↓E_X7_costOf_11, ↓E_X7_costOf_12, ↓E_X7_costOf_15, ↓E_X7_costOf_17, ↓E_X7_costOf_19, ↓E_X7_costOf_20, ↓E_X7_costOf_24, ↓E_X7_costOf_25, ↓E_X7_costOf_28, ↓E_X7_costOf_31, ↓E_X7_costOf_32, ↓E_X7_costOf_35, ↓E_X7_costOf_37, ↓E_X7_costOf_38, ↓E_X7_costOf_40, ↓E_X7_costOf_43, ↓E_X7_costOf_46, ↓E_X7_costOf_49, ↓E_X7_costOf_50, ↓E_X7_costOf_51, ↓E_X7_costOf_54, ↓E_X7_costOf_56, ↓E_X7_costOf_57, ↓E_X7_costOf_59, ↓E_X7_costOf_62, ↓E_X7_costOf_63, ↓E_X7_costOf_68, ↓E_X7_costOf_69, ↓E_X7_costOf_71, ↓E_X7_costOf_74, ↓E_X7_costOf_75, ↓E_X7_costOf_77, ↓E_X7_costOf_78, ↓E_X7_costOf_81, ↓E_X7_costOf_82, ↓E_X7_costOf_85, ↓E_X7_costOf_87, ↓E_X7_costOf_90, ↓E_X7_costOf_93, ↓E_X7_costOf_95, h0', leN, if_neg (show ¬ n ≤ j by omega), if_neg (show ¬ nI 1 = 0 by decide), if_pos (show nI 1 = 1 by decide), m_ends, whJ_end hO hw (show j < n by omega), nI_add, nI_1]
        exact ih (j + 1) (by omega)
    simp (disch := omega) only [C_X7_costOf, true_and, and_true, and_self, exists_eq_left, Option.toList_some, Option.toList_none, List.cons_append, List.nil_append, List.append_nil, i2_i, i2_r, i2_n, nz0, nz1, true_or, or_true, Nat.reduceAdd, Nat.le_refl, Nat.reduceLT, Nat.reduceLeDiff, ↓E_X7_costOf_0, ↓E_X7_costOf_1, ↓E_X7_costOf_2, ↓E_X7_costOf_3, ↓E_X7_costOf_6, ↓E_X7_costOf_7, ↓E_X7_costOf_8, ↓E_X7_costOf_11, ↓E_X7_costOf_12, ↓E_X7_costOf_15, ↓E_X7_costOf_17, ↓E_X7_costOf_19, ↓E_X7_costOf_20, ↓E_X7_costOf_24, ↓E_X7_costOf_25, ↓E_X7_costOf_28, ↓E_X7_costOf_31, ↓E_X7_costOf_32, ↓E_X7_costOf_35, ↓E_X7_costOf_37, ↓E_X7_costOf_38, ↓E_X7_costOf_40, ↓E_X7_costOf_43, ↓E_X7_costOf_46, ↓E_X7_costOf_49, ↓E_X7_costOf_50, ↓E_X7_costOf_51, ↓E_X7_costOf_54, ↓E_X7_costOf_56, ↓E_X7_costOf_57, ↓E_X7_costOf_59, ↓E_X7_costOf_62, ↓E_X7_costOf_63, ↓E_X7_costOf_66, ↓E_X7_costOf_68, ↓E_X7_costOf_69, ↓E_X7_costOf_71, ↓E_X7_costOf_74, ↓E_X7_costOf_75, ↓E_X7_costOf_77, ↓E_X7_costOf_78, ↓E_X7_costOf_81, ↓E_X7_costOf_82, ↓E_X7_costOf_85, ↓E_X7_costOf_87, ↓E_X7_costOf_90, ↓E_X7_costOf_93, ↓E_X7_costOf_95, c1, if_pos (show nI 1 = 1 by decide)]
    have := lp n 0 (by omega)
    rw [← FL_J hO] at this
    exact this
  · have lp : ∀ m j, j + m = n → (mx_run (d + 2) m_X7_costOf 22 [some (.ref 88), some (.ref a), some (.int (nI md)), some (.int (nI 2)), some (.int (iN (mxI (fun j => (EJ V md n O j : Int) - (V j 5 : Int)) j))), some (.int (nI j))] [] σ1 q ↔ q = (some (.int (iN (mxI (fun j => (EJ V md n O j : Int) - (V j 5 : Int)) n))), σ1)) := by
      intro m
      induction m with
      | zero =>
        intro j hj
        have e : j = n := by omega
        subst e
        rw [E_X7_costOf_22]
        simp (disch := omega) only [true_and, and_true, and_self, exists_eq_left, Option.toList_some, Option.toList_none, List.cons_append, List.nil_append, List.append_nil, i2_i, i2_r, i2_n, nz0, nz1, true_or, or_true, Nat.reduceAdd, Nat.le_refl, Nat.reduceLT, Nat.reduceLeDiff, ↓E_X7_costOf_0, ↓E_X7_costOf_1, ↓E_X7_costOf_2, ↓E_X7_costOf_3, ↓E_X7_costOf_6, ↓E_X7_costOf_7, ↓E_X7_costOf_8, ↓E_X7_costOf_11, ↓E_X7_costOf_12, ↓E_X7_costOf_15, ↓E_X7_costOf_17, ↓E_X7_costOf_19, ↓E_X7_costOf_20, ↓E_X7_costOf_24, ↓E_X7_costOf_25, ↓E_X7_costOf_28, ↓E_X7_costOf_31, ↓E_X7_costOf_32, ↓E_X7_costOf_35, ↓E_X7_costOf_37, ↓E_X7_costOf_38, ↓E_X7_costOf_40, ↓E_X7_costOf_43, ↓E_X7_costOf_46, ↓E_X7_costOf_49, ↓E_X7_costOf_50, ↓E_X7_costOf_51, ↓E_X7_costOf_54, ↓E_X7_costOf_56, ↓E_X7_costOf_57, ↓E_X7_costOf_59, ↓E_X7_costOf_62, ↓E_X7_costOf_63, ↓E_X7_costOf_66, ↓E_X7_costOf_68, ↓E_X7_costOf_69, ↓E_X7_costOf_71, ↓E_X7_costOf_74, ↓E_X7_costOf_75, ↓E_X7_costOf_77, ↓E_X7_costOf_78, ↓E_X7_costOf_81, ↓E_X7_costOf_82, ↓E_X7_costOf_85, ↓E_X7_costOf_87, ↓E_X7_costOf_90, ↓E_X7_costOf_93, ↓E_X7_costOf_95, h0', leN, if_true]
      | succ m ih =>
        intro j hj
        have b1 := mxI_le (g := fun j => (EJ V md n O j : Int) - (V j 5 : Int)) j (fun i hi => by have := bE i (by omega); show ((EJ V md n O i : Nat) : Int) - (V i 5 : Int) ≤ 20000; omega)
        have b2 := bE j (by omega)
        have b3 := hV j 5 (by omega) (by omega)
        rw [E_X7_costOf_22]
        simp (disch := omega) only [true_and, and_true, and_self, exists_eq_left, Option.toList_some, Option.toList_none, List.cons_append, List.nil_append, List.append_nil, i2_i, i2_r, i2_n, nz0, nz1, true_or, or_true, Nat.reduceAdd, Nat.le_refl, Nat.reduceLT, Nat.reduceLeDiff, ↓E_X7_costOf_0, ↓E_X7_costOf_1, ↓E_X7_costOf_2, ↓E_X7_costOf_3, ↓E_X7_costOf_6, ↓E_X7_costOf_7, ↓E_X7_costOf_8, ↓E_X7_costOf_11, ↓E_X7_costOf_12, ↓E_X7_costOf_15, ↓E_X7_costOf_17, ↓E_X7_costOf_19, ↓E_X7_costOf_20, ↓E_X7_costOf_24, ↓E_X7_costOf_25, ↓E_X7_costOf_28, ↓E_X7_costOf_31, ↓E_X7_costOf_32, ↓E_X7_costOf_37, ↓E_X7_costOf_38, ↓E_X7_costOf_40, ↓E_X7_costOf_43, ↓E_X7_costOf_46, ↓E_X7_costOf_49, ↓E_X7_costOf_50, ↓E_X7_costOf_51, ↓E_X7_costOf_56, ↓E_X7_costOf_57, ↓E_X7_costOf_59, ↓E_X7_costOf_62, ↓E_X7_costOf_63, ↓E_X7_costOf_66, ↓E_X7_costOf_68, ↓E_X7_costOf_69, ↓E_X7_costOf_71, ↓E_X7_costOf_74, ↓E_X7_costOf_75, ↓E_X7_costOf_77, ↓E_X7_costOf_78, ↓E_X7_costOf_81, ↓E_X7_costOf_82, ↓E_X7_costOf_85, ↓E_X7_costOf_87, ↓E_X7_costOf_90, ↓E_X7_costOf_93, ↓E_X7_costOf_95, h0', leN, if_neg (show ¬ n ≤ j by omega), if_neg (show ¬ nI 2 = 0 by decide), if_neg (show ¬ nI 2 = 1 by decide), m_ends, whJ_end hO hw (show j < n by omega), m_g5, hR' j 5 (show j < n by omega) (by omega), iN_sub, iN_max, nI_1]
        exact ih (j + 1) (by omega)
    simp (disch := omega) only [C_X7_costOf, true_and, and_true, and_self, exists_eq_left, Option.toList_some, Option.toList_none, List.cons_append, List.nil_append, List.append_nil, i2_i, i2_r, i2_n, nz0, nz1, true_or, or_true, Nat.reduceAdd, Nat.le_refl, Nat.reduceLT, Nat.reduceLeDiff, ↓E_X7_costOf_0, ↓E_X7_costOf_1, ↓E_X7_costOf_2, ↓E_X7_costOf_3, ↓E_X7_costOf_6, ↓E_X7_costOf_7, ↓E_X7_costOf_8, ↓E_X7_costOf_11, ↓E_X7_costOf_12, ↓E_X7_costOf_15, ↓E_X7_costOf_17, ↓E_X7_costOf_19, ↓E_X7_costOf_20, ↓E_X7_costOf_24, ↓E_X7_costOf_25, ↓E_X7_costOf_28, ↓E_X7_costOf_31, ↓E_X7_costOf_32, ↓E_X7_costOf_35, ↓E_X7_costOf_37, ↓E_X7_costOf_38, ↓E_X7_costOf_40, ↓E_X7_costOf_43, ↓E_X7_costOf_46, ↓E_X7_costOf_49, ↓E_X7_costOf_50, ↓E_X7_costOf_51, ↓E_X7_costOf_54, ↓E_X7_costOf_56, ↓E_X7_costOf_57, ↓E_X7_costOf_59, ↓E_X7_costOf_62, ↓E_X7_costOf_63, ↓E_X7_costOf_66, ↓E_X7_costOf_68, ↓E_X7_costOf_69, ↓E_X7_costOf_71, ↓E_X7_costOf_74, ↓E_X7_costOf_75, ↓E_X7_costOf_77, ↓E_X7_costOf_78, ↓E_X7_costOf_81, ↓E_X7_costOf_82, ↓E_X7_costOf_85, ↓E_X7_costOf_87, ↓E_X7_costOf_90, ↓E_X7_costOf_93, ↓E_X7_costOf_95, c1, if_neg (show ¬ nI 2 = 1 by decide)]
    have := lp n 0 (by omega)
    rw [← LT_J hO hn0 hV] at this
    exact this
theorem scM99 {σ σ' : mx_S} (h : ∀ i, i ≠ 99 → σ'.1 i = σ.1 i) (h2 : σ'.2 = σ.2) : scM σ σ' := ⟨fun i hi => h i (by omega), fun k _ => by rw [h 88 (by omega)], fun i _ => by rw [h2]⟩
/-- the cost of an order of what is -/
theorem m_cost1 {d a md am : Nat} {σ : mx_S} {w : Vw} {O : Nat → Nat} (hw : vwM w σ) (hj : w.1.jn ≠ 0) (ha : a = 90 ∨ a = 100 ∨ a = 101) (hmd : md ≤ 2) (ham : am ≤ 2) (hO : okO w.1.jn O) (ho : ∀ p, p < w.1.jn → σ.1 a p = nI (O p)) :
    ∃ σ', (∀ q, mx_call (d + 3) m_X7_costOf [.ref 88, .ref a, .int (nI md), .int (nI am)] σ q ↔ q = (some (.int (iN (CST w.1.V md am O w.1.jn))), σ')) ∧ scM σ σ' ∧ (∀ i, i ≠ 99 → σ'.1 i = σ.1 i) := by
  obtain ⟨S1, S2, S3, S4, S5⟩ := vwM_now hw
  obtain ⟨σ', c, -, f, g⟩ := m_costOf (d := d) ha hw.1.1.1 (by omega) hmd ham (okV_of hw.1.1.2.2.2.1) hO S1 ho S4
  exact ⟨σ', c, scM99 f g, f⟩
theorem m_now {d : Nat} {σ : mx_S} {w : Vw} (hw : vwM w σ) (hj : w.1.jn ≠ 0) : ∃ σ', (∀ q, mx_call (d + 4) m_X7_now [.ref 88] σ q ↔ q = (some (.int (iN (C0 w))), σ')) ∧ scM σ σ' := by
  obtain ⟨S1, S2, S3, S4, S5⟩ := vwM_now hw
  have ok := hw.1.1
  obtain ⟨σ', c, sc, -⟩ := m_cost1 (d := d) (a := 90) hw hj (Or.inl rfl) ok.2.1 ok.2.2.1 ok.2.2.2.2.1 S5
  refine ⟨σ', fun q => ?_, sc⟩
  simp (disch := omega) only [C_X7_now, true_and, and_true, and_self, exists_eq_left, Option.toList_some, Option.toList_none, List.cons_append, List.nil_append, List.append_nil, i2_i, i2_r, i2_n, nz0, nz1, true_or, or_true, Nat.reduceAdd, Nat.le_refl, Nat.reduceLT, Nat.reduceLeDiff, ↓E_X7_now_0, ↓E_X7_now_1, ↓E_X7_now_2, ↓E_X7_now_5, ↓E_X7_now_6, ↓E_X7_now_9, ↓E_X7_now_10, ↓E_X7_now_13, ↓E_X7_now_16, S2, S3, c]
  rfl
def cpN (f g : Nat → Int32) (k : Nat) : Nat → Int32 := fun p => if p < k then f p else g p
theorem cpN_s {f g : Nat → Int32} {k : Nat} : upd (cpN f g k) k (f k) = cpN f g (k + 1) := by
  funext p
  unfold upd cpN
  by_cases e : p = k
  · subst e; rw [if_pos rfl, if_pos (by omega)]
  · rw [if_neg e]
    by_cases h : p < k
    · rw [if_pos h, if_pos (by omega)]
    · rw [if_neg h, if_neg (by omega)]
set_option maxHeartbeats 2000000 in
theorem m_copies {d a b n : Nat} {σ : mx_S} {q : mx_R} (ha : (89 ≤ a ∧ a ≤ 103)) (hb : (89 ≤ b ∧ b ≤ 103)) (hab : a ≠ b) (hn : n ≤ 36) (la : mx_ln a = n) (lb : mx_ln b = n) : mx_call (d + 1) m_X7_copies [.ref a, .ref b] σ q ↔ q = (none, (mx_c σ.1 b (cpN (σ.1 a) (σ.1 b) n), σ.2)) := by
  have k1 : mx_kd a = 8 := kd_8 (by omega)
  have k2 : mx_kd b = 8 := kd_8 (by omega)
  have lp : ∀ m k, k + m = n → (mx_run d m_X7_copies 2 [some (.ref a), some (.ref b), some (.int (nI k))] [] (mx_c σ.1 b (cpN (σ.1 a) (σ.1 b) k), σ.2) q ↔ q = (none, (mx_c σ.1 b (cpN (σ.1 a) (σ.1 b) n), σ.2))) := by
    intro m
    induction m with
    | zero =>
      intro k hk
      have e : k = n := by omega
      subst e
      rw [E_X7_copies_2]
      simp (disch := omega) only [true_and, and_true, and_self, exists_eq_left, Option.toList_some, Option.toList_none, List.cons_append, List.nil_append, List.append_nil, i2_i, i2_r, i2_n, nz0, nz1, true_or, or_true, Nat.reduceAdd, Nat.le_refl, Nat.reduceLT, Nat.reduceLeDiff, ↓E_X7_copies_0, ↓E_X7_copies_1, ↓E_X7_copies_3, ↓E_X7_copies_4, ↓E_X7_copies_5, ↓E_X7_copies_8, ↓E_X7_copies_9, ↓E_X7_copies_10, ↓E_X7_copies_11, ↓E_X7_copies_12, ↓E_X7_copies_13, ↓E_X7_copies_14, ↓E_X7_copies_17, ↓E_X7_copies_20, k1, la, leN, if_true]
    | succ m ih =>
      intro k hk
      rw [E_X7_copies_2]
      simp (disch := omega) only [true_and, and_true, and_self, exists_eq_left, Option.toList_some, Option.toList_none, List.cons_append, List.nil_append, List.append_nil, i2_i, i2_r, i2_n, nz0, nz1, true_or, or_true, Nat.reduceAdd, Nat.le_refl, Nat.reduceLT, Nat.reduceLeDiff, ↓E_X7_copies_0, ↓E_X7_copies_1, ↓E_X7_copies_3, ↓E_X7_copies_4, ↓E_X7_copies_5, ↓E_X7_copies_8, ↓E_X7_copies_9, ↓E_X7_copies_10, ↓E_X7_copies_11, ↓E_X7_copies_12, ↓E_X7_copies_13, ↓E_X7_copies_14, ↓E_X7_copies_17, ↓E_X7_copies_20, k1, k2, la, lb, leN, if_neg (show ¬ n ≤ k by omega), vin, clN, cc_row, nI_1]
      rw [mx_uc, cpN_s]
      exact ih (k + 1) (by omega)
  have z := lp n 0 (by omega)
  have z0 : cpN (σ.1 a) (σ.1 b) 0 = σ.1 b := by funext p; unfold cpN; rw [if_neg (by omega)]
  rw [z0, mx_c_id] at z
  simp (disch := omega) only [C_X7_copies, true_and, and_true, and_self, exists_eq_left, Option.toList_some, Option.toList_none, List.cons_append, List.nil_append, List.append_nil, i2_i, i2_r, i2_n, nz0, nz1, true_or, or_true, Nat.reduceAdd, Nat.le_refl, Nat.reduceLT, Nat.reduceLeDiff, ↓E_X7_copies_0, ↓E_X7_copies_1, ↓E_X7_copies_3, ↓E_X7_copies_4, ↓E_X7_copies_5, ↓E_X7_copies_8, ↓E_X7_copies_9, ↓E_X7_copies_10, ↓E_X7_copies_11, ↓E_X7_copies_12, ↓E_X7_copies_13, ↓E_X7_copies_14, ↓E_X7_copies_17, ↓E_X7_copies_20]
  exact z
theorem cpN_in {f g : Nat → Int32} {k p : Nat} (h : p < k) : cpN f g k p = f p := if_pos h
set_option maxHeartbeats 2000000 in
theorem m_wouldCost {d k l : Nat} {σ : mx_S} {w : Vw} (hw : vwM w σ) (hk : k < w.1.jn) (hl : l < w.1.jn) : ∃ σ', (∀ q, mx_call (d + 4) m_X7_wouldCost [.ref 88, .int (nI k), .int (nI l)] σ q ↔ q = (some (.int (iN (CM w k l))), σ')) ∧ scM σ σ' := by
  obtain ⟨S1, S2, S3, S4, S5⟩ := vwM_now hw
  have ok := hw.1.1
  have hn := ok.1
  have hO := okO_mv ok.2.2.2.2.1 hk hl
  have c1 := fun q => m_copies (d := d + 2) (σ := σ) (q := q) (a := 90) (b := 100) (n := 6) (by omega) (by omega) (by omega) (by omega) (ln_6 (by omega)) (ln_6 (by omega))
  have c2 := fun q => m_shifts (d := d + 2) (σ := (mx_c σ.1 100 (cpN (σ.1 90) (σ.1 100) 6), σ.2)) (q := q) (a := 100) (k := k) (l := l) (Or.inr rfl) (by omega) (by omega)
  have sc1 : scM σ (mx_c (mx_c σ.1 100 (cpN (σ.1 90) (σ.1 100) 6)) 100 (fun p => mx_c σ.1 100 (cpN (σ.1 90) (σ.1 100) 6) 100 (mvI k l p)), σ.2) := (scM.c (σ := σ) (g := cpN (σ.1 90) (σ.1 100) 6) (a := 100) (by omega)).tr (scM.c (σ := (mx_c σ.1 100 (cpN (σ.1 90) (σ.1 100) 6), σ.2)) (a := 100) (by omega))
  have hw1 := sc1.vw hw
  obtain ⟨T1, T2, T3, T4, T5⟩ := vwM_now hw1
  obtain ⟨σ', c, sc, -⟩ := m_cost1 (d := d) (a := 100) hw1 (by omega) (by omega) ok.2.1 ok.2.2.1 hO (fun p hp => by
    have := mvI_lt hk hl hp
    simp only [cc_same, cpN_in (show mvI k l p < 6 by omega)]
    exact S5 _ this)
  have T2' : (mx_c (mx_c σ.1 100 (cpN (σ.1 90) (σ.1 100) 6)) 100 (fun p => mx_c σ.1 100 (cpN (σ.1 90) (σ.1 100) 6) 100 (mvI k l p))) 88 1 = nI w.1.md := T2
  have T3' : (mx_c (mx_c σ.1 100 (cpN (σ.1 90) (σ.1 100) 6)) 100 (fun p => mx_c σ.1 100 (cpN (σ.1 90) (σ.1 100) 6) 100 (mvI k l p))) 88 2 = nI w.1.am := T3
  refine ⟨σ', fun q => ?_, sc1.tr sc⟩
  simp (disch := omega) only [C_X7_wouldCost, true_and, and_true, and_self, exists_eq_left, Option.toList_some, Option.toList_none, List.cons_append, List.nil_append, List.append_nil, i2_i, i2_r, i2_n, nz0, nz1, true_or, or_true, Nat.reduceAdd, Nat.le_refl, Nat.reduceLT, Nat.reduceLeDiff, ↓E_X7_wouldCost_0, ↓E_X7_wouldCost_1, ↓E_X7_wouldCost_4, ↓E_X7_wouldCost_5, ↓E_X7_wouldCost_8, ↓E_X7_wouldCost_11, ↓E_X7_wouldCost_12, ↓E_X7_wouldCost_15, ↓E_X7_wouldCost_16, ↓E_X7_wouldCost_17, ↓E_X7_wouldCost_20, ↓E_X7_wouldCost_21, ↓E_X7_wouldCost_22, ↓E_X7_wouldCost_25, ↓E_X7_wouldCost_26, ↓E_X7_wouldCost_29, ↓E_X7_wouldCost_30, ↓E_X7_wouldCost_33, ↓E_X7_wouldCost_36, c1, c2, T2', T3', c]
  rfl
set_option maxHeartbeats 2000000 in
theorem M_would {d : Nat} {σ : mx_S} {w : Vw} {a : Int32} (hw : vwM w σ) : ∃ σ', mx_call (d + 5) m_X7_would [.ref 88, .int a] σ (some (.long (F_would w a)), σ') ∧ vwM w σ' ∧ loS σ σ' := by
  obtain ⟨S1, S2, S3, S4, S5⟩ := vwM_now hw
  have hn := hw.1.1.1
  simp (disch := omega) only [C_X7_would, true_and, and_true, and_self, exists_eq_left, Option.toList_some, Option.toList_none, List.cons_append, List.nil_append, List.append_nil, i2_i, i2_r, i2_n, nz0, nz1, true_or, or_true, Nat.reduceAdd, Nat.le_refl, Nat.reduceLT, Nat.reduceLeDiff, ↓E_X7_would_0, ↓E_X7_would_1, ↓E_X7_would_2, ↓E_X7_would_5, ↓E_X7_would_8, ↓E_X7_would_9, ↓E_X7_would_10, ↓E_X7_would_11, ↓E_X7_would_12, ↓E_X7_would_13, ↓E_X7_would_16, ↓E_X7_would_17, ↓E_X7_would_20, ↓E_X7_would_23, m_isPair hn S1, bz_0]
  unfold F_would NO
  by_cases e0 : ibI a (w.1.jn - 1) = false
  · simp only [if_pos e0]
    exact ⟨σ, rfl, hw, loS.rf⟩
  obtain ⟨ha, ha2, ha3⟩ := ibI_of (eq_true_of_ne_false e0)
  simp only [if_neg e0]
  generalize ixI a = k at *
  subst ha
  obtain ⟨σ', c, sc⟩ := m_wouldCost (d := d) (k := k) (l := k + 1) hw (by omega) (by omega)
  simp (disch := omega) only [nI_1, c, true_and, and_true, and_self, exists_eq_left, Option.toList_some, Option.toList_none, List.cons_append, List.nil_append, List.append_nil, i2_i, i2_r, i2_n, nz0, nz1, true_or, or_true, Nat.reduceAdd, Nat.le_refl, Nat.reduceLT, Nat.reduceLeDiff, ↓E_X7_would_0, ↓E_X7_would_1, ↓E_X7_would_2, ↓E_X7_would_5, ↓E_X7_would_8, ↓E_X7_would_9, ↓E_X7_would_10, ↓E_X7_would_11, ↓E_X7_would_12, ↓E_X7_would_13, ↓E_X7_would_16, ↓E_X7_would_17, ↓E_X7_would_20, ↓E_X7_would_23]
  exact ⟨σ', rfl, sc.vw hw, sc.lo⟩
