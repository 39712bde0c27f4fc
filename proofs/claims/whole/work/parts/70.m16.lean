/-! ===== the reference: steps ===== -/
theorem bA_n {x : Int} : bA (x, none) = -1 := rfl
theorem bA_s {x : Int} {y : Nat × Nat} : bA (x, some y) = nI y.1 := rfl
set_option maxHeartbeats 4000000 in
theorem l_b2 {d k : Nat} {w : Vw} (σ0 : mx_S) (hw0 : vwM w σ0) (hk : k < w.1.jn) (s : BS) (okS : okB w.1.jn s) : ∀ m l (σ : mx_S), l + m = w.1.jn → scM σ0 σ →
    ∃ σ', (∀ q, mx_run (d + 4) m_X7_betters 37 [some (.ref 88), some (.int (nI 2)), some (.int (iN (btL (CM w) 2 k s l).1)), some (.int (bA (btL (CM w) 2 k s l))), some (.int (bB (btL (CM w) 2 k s l))), some (.int (nI k)), some (.int (nI l))] [] σ q ↔ mx_run (d + 4) m_X7_betters 102 [some (.ref 88), some (.int (nI 2)), some (.int (iN (btL (CM w) 2 k s w.1.jn).1)), some (.int (bA (btL (CM w) 2 k s w.1.jn))), some (.int (bB (btL (CM w) 2 k s w.1.jn))), some (.int (nI k)), some (.int (nI w.1.jn))] [] σ' q) ∧ scM σ0 σ' := by
  have hn := hw0.1.1.1
  intro m
  induction m with
  | zero =>
    intro l σ hl sc
    have e : l = w.1.jn := by omega
    subst e
    obtain ⟨S1, -⟩ := vwM_now (sc.vw hw0)
    refine ⟨σ, fun q => ?_, sc⟩
    conv => lhs; rw [E_X7_betters_37]
    simp (disch := omega) only [true_and, and_true, and_self, exists_eq_left, Option.toList_some, Option.toList_none, List.cons_append, List.nil_append, List.append_nil, i2_i, i2_r, i2_n, nz0, nz1, true_or, or_true, Nat.reduceAdd, Nat.le_refl, Nat.reduceLT, Nat.reduceLeDiff, ↓E_X7_betters_0, ↓E_X7_betters_1, ↓E_X7_betters_4, ↓E_X7_betters_5, ↓E_X7_betters_6, ↓E_X7_betters_7, ↓E_X7_betters_8, ↓E_X7_betters_10, ↓E_X7_betters_11, ↓E_X7_betters_13, ↓E_X7_betters_15, ↓E_X7_betters_16, ↓E_X7_betters_19, ↓E_X7_betters_22, ↓E_X7_betters_23, ↓E_X7_betters_24, ↓E_X7_betters_27, ↓E_X7_betters_28, ↓E_X7_betters_31, ↓E_X7_betters_33, ↓E_X7_betters_34, ↓E_X7_betters_35, ↓E_X7_betters_39, ↓E_X7_betters_40, ↓E_X7_betters_43, ↓E_X7_betters_46, ↓E_X7_betters_47, ↓E_X7_betters_48, ↓E_X7_betters_51, ↓E_X7_betters_53, ↓E_X7_betters_55, ↓E_X7_betters_56, ↓E_X7_betters_57, ↓E_X7_betters_60, ↓E_X7_betters_61, ↓E_X7_betters_64, ↓E_X7_betters_65, ↓E_X7_betters_68, ↓E_X7_betters_69, ↓E_X7_betters_71, ↓E_X7_betters_73, ↓E_X7_betters_76, ↓E_X7_betters_77, ↓E_X7_betters_80, ↓E_X7_betters_81, ↓E_X7_betters_83, ↓E_X7_betters_85, ↓E_X7_betters_88, ↓E_X7_betters_89, ↓E_X7_betters_91, ↓E_X7_betters_92, ↓E_X7_betters_94, ↓E_X7_betters_96, ↓E_X7_betters_99, ↓E_X7_betters_105, ↓E_X7_betters_108, ↓E_X7_betters_109, ↓E_X7_betters_112, ↓E_X7_betters_113, ↓E_X7_betters_116, ↓E_X7_betters_117, ↓E_X7_betters_119, ↓E_X7_betters_122, ↓E_X7_betters_123, ↓E_X7_betters_126, ↓E_X7_betters_127, ↓E_X7_betters_130, ↓E_X7_betters_131, S1, leN, if_true]
  | succ m ih =>
    intro l σ hl sc
    have hw := sc.vw hw0
    obtain ⟨S1, -⟩ := vwM_now hw
    have st : btL (CM w) 2 k s (l + 1) = btT (CM w) 2 k l (btL (CM w) 2 k s l) := rfl
    have okL := okB_L (mn := 2) hw.1 hk okS l (by omega)
    rw [btT_2] at st
    obtain ⟨σ1, r1, sc1⟩ := b_try (d := d) (mn := nI 2) hw hk (show l < w.1.jn by omega) _ okL
    obtain ⟨σ', r2, sc'⟩ := ih (l + 1) σ1 (by omega) (sc.tr sc1)
    refine ⟨σ', fun q => ?_, sc'⟩
    rw [← r2 q, st]
    conv => lhs; rw [E_X7_betters_37]
    simp (disch := omega) only [true_and, and_true, and_self, exists_eq_left, Option.toList_some, Option.toList_none, List.cons_append, List.nil_append, List.append_nil, i2_i, i2_r, i2_n, nz0, nz1, true_or, or_true, Nat.reduceAdd, Nat.le_refl, Nat.reduceLT, Nat.reduceLeDiff, ↓E_X7_betters_0, ↓E_X7_betters_1, ↓E_X7_betters_4, ↓E_X7_betters_5, ↓E_X7_betters_6, ↓E_X7_betters_7, ↓E_X7_betters_8, ↓E_X7_betters_10, ↓E_X7_betters_11, ↓E_X7_betters_13, ↓E_X7_betters_15, ↓E_X7_betters_16, ↓E_X7_betters_19, ↓E_X7_betters_22, ↓E_X7_betters_23, ↓E_X7_betters_24, ↓E_X7_betters_27, ↓E_X7_betters_28, ↓E_X7_betters_31, ↓E_X7_betters_33, ↓E_X7_betters_34, ↓E_X7_betters_35, ↓E_X7_betters_39, ↓E_X7_betters_40, ↓E_X7_betters_43, ↓E_X7_betters_46, ↓E_X7_betters_47, ↓E_X7_betters_48, ↓E_X7_betters_51, ↓E_X7_betters_53, ↓E_X7_betters_55, ↓E_X7_betters_56, ↓E_X7_betters_57, ↓E_X7_betters_60, ↓E_X7_betters_61, ↓E_X7_betters_64, ↓E_X7_betters_65, ↓E_X7_betters_69, ↓E_X7_betters_71, ↓E_X7_betters_73, ↓E_X7_betters_76, ↓E_X7_betters_77, ↓E_X7_betters_80, ↓E_X7_betters_81, ↓E_X7_betters_83, ↓E_X7_betters_85, ↓E_X7_betters_88, ↓E_X7_betters_89, ↓E_X7_betters_91, ↓E_X7_betters_92, ↓E_X7_betters_94, ↓E_X7_betters_99, ↓E_X7_betters_105, ↓E_X7_betters_108, ↓E_X7_betters_109, ↓E_X7_betters_112, ↓E_X7_betters_113, ↓E_X7_betters_116, ↓E_X7_betters_117, ↓E_X7_betters_119, ↓E_X7_betters_122, ↓E_X7_betters_123, ↓E_X7_betters_126, ↓E_X7_betters_127, ↓E_X7_betters_130, ↓E_X7_betters_131, S1, leN, if_neg (show ¬ w.1.jn ≤ l by omega), if_pos (show nI 2 = (2 : Int32) by decide), if_neg (show ¬ nI 2 ≤ (0 : Int32) by decide), ite_self, r1]
    simp (disch := omega) only [true_and, and_true, and_self, exists_eq_left, Option.toList_some, Option.toList_none, List.cons_append, List.nil_append, List.append_nil, i2_i, i2_r, i2_n, nz0, nz1, true_or, or_true, Nat.reduceAdd, Nat.le_refl, Nat.reduceLT, Nat.reduceLeDiff, ↓E_X7_betters_0, ↓E_X7_betters_1, ↓E_X7_betters_4, ↓E_X7_betters_5, ↓E_X7_betters_6, ↓E_X7_betters_7, ↓E_X7_betters_8, ↓E_X7_betters_10, ↓E_X7_betters_11, ↓E_X7_betters_13, ↓E_X7_betters_15, ↓E_X7_betters_16, ↓E_X7_betters_19, ↓E_X7_betters_22, ↓E_X7_betters_23, ↓E_X7_betters_24, ↓E_X7_betters_27, ↓E_X7_betters_28, ↓E_X7_betters_31, ↓E_X7_betters_33, ↓E_X7_betters_34, ↓E_X7_betters_35, ↓E_X7_betters_39, ↓E_X7_betters_40, ↓E_X7_betters_43, ↓E_X7_betters_46, ↓E_X7_betters_47, ↓E_X7_betters_48, ↓E_X7_betters_51, ↓E_X7_betters_53, ↓E_X7_betters_55, ↓E_X7_betters_56, ↓E_X7_betters_57, ↓E_X7_betters_60, ↓E_X7_betters_61, ↓E_X7_betters_64, ↓E_X7_betters_65, ↓E_X7_betters_69, ↓E_X7_betters_71, ↓E_X7_betters_73, ↓E_X7_betters_76, ↓E_X7_betters_77, ↓E_X7_betters_80, ↓E_X7_betters_81, ↓E_X7_betters_83, ↓E_X7_betters_85, ↓E_X7_betters_88, ↓E_X7_betters_89, ↓E_X7_betters_91, ↓E_X7_betters_92, ↓E_X7_betters_94, ↓E_X7_betters_96, ↓E_X7_betters_99, ↓E_X7_betters_105, ↓E_X7_betters_108, ↓E_X7_betters_109, ↓E_X7_betters_112, ↓E_X7_betters_113, ↓E_X7_betters_116, ↓E_X7_betters_117, ↓E_X7_betters_119, ↓E_X7_betters_122, ↓E_X7_betters_123, ↓E_X7_betters_126, ↓E_X7_betters_127, ↓E_X7_betters_130, ↓E_X7_betters_131, nI_1]
set_option maxHeartbeats 4000000 in
theorem l_b1 {d k mn : Nat} {w : Vw} {σ : mx_S} (hw : vwM w σ) (hmn : mn ≤ 1) (hk : k < w.1.jn) (s : BS) (okS : okB w.1.jn s) :
    ∃ (σ' : mx_S) (l6 : Int32), (∀ q, mx_run (d + 4) m_X7_betters 37 [some (.ref 88), some (.int (nI mn)), some (.int (iN s.1)), some (.int (bA s)), some (.int (bB s)), some (.int (nI k)), some (.int (nI (k + 1)))] [] σ q ↔ mx_run (d + 4) m_X7_betters 102 [some (.ref 88), some (.int (nI mn)), some (.int (iN (if mn = 0 ∧ s.2.isSome = true then s else btL (CM w) mn k s w.1.jn).1)), some (.int (bA (if mn = 0 ∧ s.2.isSome = true then s else btL (CM w) mn k s w.1.jn))), some (.int (bB (if mn = 0 ∧ s.2.isSome = true then s else btL (CM w) mn k s w.1.jn))), some (.int (nI k)), some (.int l6)] [] σ' q) ∧ scM σ σ' := by
  have hn := hw.1.1.1
  obtain ⟨S1, -⟩ := vwM_now hw
  have n2 : ¬ nI mn = (2 : Int32) := fun z => absurd ((nI_eq (a := mn) (b := 2) (by omega) (by omega)).mp z) (by omega)
  rw [btL_one (show mn ≠ 2 by omega)]
  by_cases h1 : k + 1 < w.1.jn
  · rw [if_pos h1]
    have stop : ∀ (z : BS) (σ1 : mx_S) (q : mx_R), σ1.1 88 0 = nI w.1.jn → (mx_run (d + 4) m_X7_betters 96 [some (.ref 88), some (.int (nI mn)), some (.int (iN z.1)), some (.int (bA z)), some (.int (bB z)), some (.int (nI k)), some (.int (nI (k + 1)))] [] σ1 q ↔ mx_run (d + 4) m_X7_betters 102 [some (.ref 88), some (.int (nI mn)), some (.int (iN z.1)), some (.int (bA z)), some (.int (bB z)), some (.int (nI k)), some (.int (nI (k + 1 + 1)))] [] σ1 q) := by
      intro z σ1 q S1
      simp (disch := omega) only [true_and, and_true, and_self, exists_eq_left, Option.toList_some, Option.toList_none, List.cons_append, List.nil_append, List.append_nil, i2_i, i2_r, i2_n, nz0, nz1, true_or, or_true, Nat.reduceAdd, Nat.le_refl, Nat.reduceLT, Nat.reduceLeDiff, ↓E_X7_betters_0, ↓E_X7_betters_1, ↓E_X7_betters_4, ↓E_X7_betters_5, ↓E_X7_betters_6, ↓E_X7_betters_7, ↓E_X7_betters_8, ↓E_X7_betters_10, ↓E_X7_betters_11, ↓E_X7_betters_13, ↓E_X7_betters_15, ↓E_X7_betters_16, ↓E_X7_betters_19, ↓E_X7_betters_22, ↓E_X7_betters_23, ↓E_X7_betters_24, ↓E_X7_betters_27, ↓E_X7_betters_28, ↓E_X7_betters_31, ↓E_X7_betters_33, ↓E_X7_betters_34, ↓E_X7_betters_35, ↓E_X7_betters_39, ↓E_X7_betters_40, ↓E_X7_betters_43, ↓E_X7_betters_46, ↓E_X7_betters_47, ↓E_X7_betters_48, ↓E_X7_betters_51, ↓E_X7_betters_53, ↓E_X7_betters_55, ↓E_X7_betters_56, ↓E_X7_betters_57, ↓E_X7_betters_60, ↓E_X7_betters_61, ↓E_X7_betters_64, ↓E_X7_betters_65, ↓E_X7_betters_68, ↓E_X7_betters_69, ↓E_X7_betters_71, ↓E_X7_betters_73, ↓E_X7_betters_76, ↓E_X7_betters_77, ↓E_X7_betters_80, ↓E_X7_betters_81, ↓E_X7_betters_83, ↓E_X7_betters_85, ↓E_X7_betters_88, ↓E_X7_betters_89, ↓E_X7_betters_91, ↓E_X7_betters_92, ↓E_X7_betters_94, ↓E_X7_betters_96, ↓E_X7_betters_99, ↓E_X7_betters_105, ↓E_X7_betters_108, ↓E_X7_betters_109, ↓E_X7_betters_112, ↓E_X7_betters_113, ↓E_X7_betters_116, ↓E_X7_betters_117, ↓E_X7_betters_119, ↓E_X7_betters_122, ↓E_X7_betters_123, ↓E_X7_betters_126, ↓E_X7_betters_127, ↓E_X7_betters_130, ↓E_X7_betters_131, nI_1]
      conv => lhs; rw [E_X7_betters_37]
      simp (disch := omega) only [true_and, and_true, and_self, exists_eq_left, Option.toList_some, Option.toList_none, List.cons_append, List.nil_append, List.append_nil, i2_i, i2_r, i2_n, nz0, nz1, true_or, or_true, Nat.reduceAdd, Nat.le_refl, Nat.reduceLT, Nat.reduceLeDiff, ↓E_X7_betters_0, ↓E_X7_betters_1, ↓E_X7_betters_4, ↓E_X7_betters_5, ↓E_X7_betters_6, ↓E_X7_betters_7, ↓E_X7_betters_8, ↓E_X7_betters_10, ↓E_X7_betters_11, ↓E_X7_betters_13, ↓E_X7_betters_15, ↓E_X7_betters_16, ↓E_X7_betters_19, ↓E_X7_betters_22, ↓E_X7_betters_23, ↓E_X7_betters_24, ↓E_X7_betters_27, ↓E_X7_betters_28, ↓E_X7_betters_31, ↓E_X7_betters_33, ↓E_X7_betters_34, ↓E_X7_betters_35, ↓E_X7_betters_39, ↓E_X7_betters_40, ↓E_X7_betters_43, ↓E_X7_betters_46, ↓E_X7_betters_47, ↓E_X7_betters_48, ↓E_X7_betters_51, ↓E_X7_betters_53, ↓E_X7_betters_55, ↓E_X7_betters_56, ↓E_X7_betters_57, ↓E_X7_betters_61, ↓E_X7_betters_64, ↓E_X7_betters_65, ↓E_X7_betters_68, ↓E_X7_betters_69, ↓E_X7_betters_71, ↓E_X7_betters_73, ↓E_X7_betters_76, ↓E_X7_betters_77, ↓E_X7_betters_80, ↓E_X7_betters_81, ↓E_X7_betters_83, ↓E_X7_betters_85, ↓E_X7_betters_88, ↓E_X7_betters_89, ↓E_X7_betters_91, ↓E_X7_betters_92, ↓E_X7_betters_94, ↓E_X7_betters_96, ↓E_X7_betters_99, ↓E_X7_betters_105, ↓E_X7_betters_108, ↓E_X7_betters_109, ↓E_X7_betters_112, ↓E_X7_betters_113, ↓E_X7_betters_116, ↓E_X7_betters_117, ↓E_X7_betters_119, ↓E_X7_betters_122, ↓E_X7_betters_123, ↓E_X7_betters_126, ↓E_X7_betters_127, ↓E_X7_betters_130, ↓E_X7_betters_131, S1, leN, if_neg n2, nI_1, eqN]
      by_cases h2 : w.1.jn ≤ k + 1 + 1
      · rw [if_pos h2]
      · rw [if_neg h2, if_neg (show ¬ k + 1 + 1 = k + 1 by omega)]
    by_cases h2 : mn = 0 ∧ s.2.isSome = true
    · rw [if_pos h2]
      refine ⟨σ, nI (k + 1 + 1), fun q => ?_, scM.rf⟩
      rw [← stop s σ q S1]
      conv => lhs; rw [E_X7_betters_37]
      have bn : ¬ bA s < 0 := by
        obtain ⟨x, y⟩ := s
        cases y with
        | none => exact absurd (show (none : Option (Nat × Nat)).isSome = true from h2.2) (by decide)
        | some y => exact nI_neg (by have := okS.2 y rfl; omega)
      have m0 : nI mn ≤ (0 : Int32) := by rw [h2.1]; decide
      simp (disch := omega) only [true_and, and_true, and_self, exists_eq_left, Option.toList_some, Option.toList_none, List.cons_append, List.nil_append, List.append_nil, i2_i, i2_r, i2_n, nz0, nz1, true_or, or_true, Nat.reduceAdd, Nat.le_refl, Nat.reduceLT, Nat.reduceLeDiff, ↓E_X7_betters_0, ↓E_X7_betters_1, ↓E_X7_betters_4, ↓E_X7_betters_5, ↓E_X7_betters_6, ↓E_X7_betters_7, ↓E_X7_betters_8, ↓E_X7_betters_10, ↓E_X7_betters_11, ↓E_X7_betters_13, ↓E_X7_betters_15, ↓E_X7_betters_16, ↓E_X7_betters_19, ↓E_X7_betters_22, ↓E_X7_betters_23, ↓E_X7_betters_24, ↓E_X7_betters_27, ↓E_X7_betters_28, ↓E_X7_betters_31, ↓E_X7_betters_33, ↓E_X7_betters_34, ↓E_X7_betters_35, ↓E_X7_betters_39, ↓E_X7_betters_40, ↓E_X7_betters_43, ↓E_X7_betters_46, ↓E_X7_betters_47, ↓E_X7_betters_48, ↓E_X7_betters_51, ↓E_X7_betters_53, ↓E_X7_betters_55, ↓E_X7_betters_56, ↓E_X7_betters_57, ↓E_X7_betters_60, ↓E_X7_betters_61, ↓E_X7_betters_64, ↓E_X7_betters_65, ↓E_X7_betters_69, ↓E_X7_betters_71, ↓E_X7_betters_73, ↓E_X7_betters_76, ↓E_X7_betters_77, ↓E_X7_betters_80, ↓E_X7_betters_81, ↓E_X7_betters_83, ↓E_X7_betters_85, ↓E_X7_betters_88, ↓E_X7_betters_89, ↓E_X7_betters_91, ↓E_X7_betters_92, ↓E_X7_betters_94, ↓E_X7_betters_99, ↓E_X7_betters_105, ↓E_X7_betters_108, ↓E_X7_betters_109, ↓E_X7_betters_112, ↓E_X7_betters_113, ↓E_X7_betters_116, ↓E_X7_betters_117, ↓E_X7_betters_119, ↓E_X7_betters_122, ↓E_X7_betters_123, ↓E_X7_betters_126, ↓E_X7_betters_127, ↓E_X7_betters_130, ↓E_X7_betters_131, S1, leN, if_neg (show ¬ w.1.jn ≤ k + 1 by omega), if_neg n2, nI_1, if_true, if_neg bn, if_pos m0]
    · rw [if_neg h2]
      obtain ⟨σ1, r1, sc1⟩ := b_try (d := d) (mn := nI mn) hw hk h1 s okS
      obtain ⟨T1, -⟩ := vwM_now (sc1.vw hw)
      refine ⟨σ1, nI (k + 1 + 1), fun q => ?_, sc1⟩
      rw [← stop _ σ1 q T1, ← r1 q]
      conv => lhs; rw [E_X7_betters_37]
      have go : ∀ {A B : Prop}, (if bA s < 0 then A else if nI mn ≤ 0 then B else A) = A := by
        intro A B
        by_cases e : bA s < 0
        · rw [if_pos e]
        · rw [if_neg e, if_neg]
          intro z
          have hm : mn = 0 := by
            have := (nI_leI (a := mn) (b := 0) (by omega) (by omega)).mp z
            omega
          refine h2 ⟨hm, ?_⟩
          obtain ⟨x, y⟩ := s
          cases y with
          | none => exact absurd (show bA (x, none) < 0 by rw [bA_n]; decide) e
          | some y => rfl
      simp (disch := omega) only [true_and, and_true, and_self, exists_eq_left, Option.toList_some, Option.toList_none, List.cons_append, List.nil_append, List.append_nil, i2_i, i2_r, i2_n, nz0, nz1, true_or, or_true, Nat.reduceAdd, Nat.le_refl, Nat.reduceLT, Nat.reduceLeDiff, ↓E_X7_betters_0, ↓E_X7_betters_1, ↓E_X7_betters_4, ↓E_X7_betters_5, ↓E_X7_betters_6, ↓E_X7_betters_7, ↓E_X7_betters_8, ↓E_X7_betters_10, ↓E_X7_betters_11, ↓E_X7_betters_13, ↓E_X7_betters_15, ↓E_X7_betters_16, ↓E_X7_betters_19, ↓E_X7_betters_22, ↓E_X7_betters_23, ↓E_X7_betters_24, ↓E_X7_betters_27, ↓E_X7_betters_28, ↓E_X7_betters_31, ↓E_X7_betters_33, ↓E_X7_betters_34, ↓E_X7_betters_35, ↓E_X7_betters_39, ↓E_X7_betters_40, ↓E_X7_betters_43, ↓E_X7_betters_46, ↓E_X7_betters_47, ↓E_X7_betters_48, ↓E_X7_betters_51, ↓E_X7_betters_53, ↓E_X7_betters_55, ↓E_X7_betters_56, ↓E_X7_betters_57, ↓E_X7_betters_60, ↓E_X7_betters_61, ↓E_X7_betters_64, ↓E_X7_betters_65, ↓E_X7_betters_69, ↓E_X7_betters_71, ↓E_X7_betters_73, ↓E_X7_betters_76, ↓E_X7_betters_77, ↓E_X7_betters_80, ↓E_X7_betters_81, ↓E_X7_betters_83, ↓E_X7_betters_85, ↓E_X7_betters_88, ↓E_X7_betters_89, ↓E_X7_betters_91, ↓E_X7_betters_92, ↓E_X7_betters_94, ↓E_X7_betters_99, ↓E_X7_betters_105, ↓E_X7_betters_108, ↓E_X7_betters_109, ↓E_X7_betters_112, ↓E_X7_betters_113, ↓E_X7_betters_116, ↓E_X7_betters_117, ↓E_X7_betters_119, ↓E_X7_betters_122, ↓E_X7_betters_123, ↓E_X7_betters_126, ↓E_X7_betters_127, ↓E_X7_betters_130, ↓E_X7_betters_131, S1, leN, if_neg (show ¬ w.1.jn ≤ k + 1 by omega), if_neg n2, nI_1, if_true, go]
  · rw [if_neg h1, ite_self]
    refine ⟨σ, nI (k + 1), fun q => ?_, scM.rf⟩
    conv => lhs; rw [E_X7_betters_37]
    simp (disch := omega) only [true_and, and_true, and_self, exists_eq_left, Option.toList_some, Option.toList_none, List.cons_append, List.nil_append, List.append_nil, i2_i, i2_r, i2_n, nz0, nz1, true_or, or_true, Nat.reduceAdd, Nat.le_refl, Nat.reduceLT, Nat.reduceLeDiff, ↓E_X7_betters_0, ↓E_X7_betters_1, ↓E_X7_betters_4, ↓E_X7_betters_5, ↓E_X7_betters_6, ↓E_X7_betters_7, ↓E_X7_betters_8, ↓E_X7_betters_10, ↓E_X7_betters_11, ↓E_X7_betters_13, ↓E_X7_betters_15, ↓E_X7_betters_16, ↓E_X7_betters_19, ↓E_X7_betters_22, ↓E_X7_betters_23, ↓E_X7_betters_24, ↓E_X7_betters_27, ↓E_X7_betters_28, ↓E_X7_betters_31, ↓E_X7_betters_33, ↓E_X7_betters_34, ↓E_X7_betters_35, ↓E_X7_betters_39, ↓E_X7_betters_40, ↓E_X7_betters_43, ↓E_X7_betters_46, ↓E_X7_betters_47, ↓E_X7_betters_48, ↓E_X7_betters_51, ↓E_X7_betters_53, ↓E_X7_betters_55, ↓E_X7_betters_56, ↓E_X7_betters_57, ↓E_X7_betters_60, ↓E_X7_betters_61, ↓E_X7_betters_64, ↓E_X7_betters_65, ↓E_X7_betters_68, ↓E_X7_betters_69, ↓E_X7_betters_71, ↓E_X7_betters_73, ↓E_X7_betters_76, ↓E_X7_betters_77, ↓E_X7_betters_80, ↓E_X7_betters_81, ↓E_X7_betters_83, ↓E_X7_betters_85, ↓E_X7_betters_88, ↓E_X7_betters_89, ↓E_X7_betters_91, ↓E_X7_betters_92, ↓E_X7_betters_94, ↓E_X7_betters_96, ↓E_X7_betters_99, ↓E_X7_betters_105, ↓E_X7_betters_108, ↓E_X7_betters_109, ↓E_X7_betters_112, ↓E_X7_betters_113, ↓E_X7_betters_116, ↓E_X7_betters_117, ↓E_X7_betters_119, ↓E_X7_betters_122, ↓E_X7_betters_123, ↓E_X7_betters_126, ↓E_X7_betters_127, ↓E_X7_betters_130, ↓E_X7_betters_131, S1, leN, if_pos (show w.1.jn ≤ k + 1 by omega)]
set_option maxHeartbeats 4000000 in
theorem l_bK {d mn : Nat} {w : Vw} (hmn : mn ≤ 2) (σ0 : mx_S) (hw0 : vwM w σ0) (s : BS) (okS : okB w.1.jn s) : ∀ m k (σ : mx_S) (l6 : Option Value), k + m = w.1.jn → scM σ0 σ →
    ∃ (σ' : mx_S) (l6' : Option Value), (∀ q, mx_run (d + 4) m_X7_betters 13 [some (.ref 88), some (.int (nI mn)), some (.int (iN (btK (CM w) mn w.1.jn s k).1)), some (.int (bA (btK (CM w) mn w.1.jn s k))), some (.int (bB (btK (CM w) mn w.1.jn s k))), some (.int (nI k)), l6] [] σ q ↔ mx_run (d + 4) m_X7_betters 108 [some (.ref 88), some (.int (nI mn)), some (.int (iN (btK (CM w) mn w.1.jn s w.1.jn).1)), some (.int (bA (btK (CM w) mn w.1.jn s w.1.jn))), some (.int (bB (btK (CM w) mn w.1.jn s w.1.jn))), some (.int (nI w.1.jn)), l6'] [] σ' q) ∧ scM σ0 σ' := by
  have hn := hw0.1.1.1
  intro m
  induction m with
  | zero =>
    intro k σ l6 hk sc
    have e : k = w.1.jn := by omega
    subst e
    obtain ⟨S1, -⟩ := vwM_now (sc.vw hw0)
    refine ⟨σ, l6, fun q => ?_, sc⟩
    conv => lhs; rw [E_X7_betters_13]
    simp (disch := omega) only [true_and, and_true, and_self, exists_eq_left, Option.toList_some, Option.toList_none, List.cons_append, List.nil_append, List.append_nil, i2_i, i2_r, i2_n, nz0, nz1, true_or, or_true, Nat.reduceAdd, Nat.le_refl, Nat.reduceLT, Nat.reduceLeDiff, ↓E_X7_betters_0, ↓E_X7_betters_1, ↓E_X7_betters_4, ↓E_X7_betters_5, ↓E_X7_betters_6, ↓E_X7_betters_7, ↓E_X7_betters_8, ↓E_X7_betters_10, ↓E_X7_betters_11, ↓E_X7_betters_15, ↓E_X7_betters_16, ↓E_X7_betters_19, ↓E_X7_betters_22, ↓E_X7_betters_23, ↓E_X7_betters_24, ↓E_X7_betters_27, ↓E_X7_betters_28, ↓E_X7_betters_31, ↓E_X7_betters_33, ↓E_X7_betters_34, ↓E_X7_betters_35, ↓E_X7_betters_39, ↓E_X7_betters_40, ↓E_X7_betters_43, ↓E_X7_betters_46, ↓E_X7_betters_47, ↓E_X7_betters_48, ↓E_X7_betters_51, ↓E_X7_betters_53, ↓E_X7_betters_55, ↓E_X7_betters_56, ↓E_X7_betters_57, ↓E_X7_betters_60, ↓E_X7_betters_61, ↓E_X7_betters_64, ↓E_X7_betters_65, ↓E_X7_betters_68, ↓E_X7_betters_69, ↓E_X7_betters_71, ↓E_X7_betters_73, ↓E_X7_betters_76, ↓E_X7_betters_77, ↓E_X7_betters_80, ↓E_X7_betters_81, ↓E_X7_betters_83, ↓E_X7_betters_85, ↓E_X7_betters_88, ↓E_X7_betters_89, ↓E_X7_betters_91, ↓E_X7_betters_92, ↓E_X7_betters_94, ↓E_X7_betters_96, ↓E_X7_betters_99, ↓E_X7_betters_102, ↓E_X7_betters_105, ↓E_X7_betters_109, ↓E_X7_betters_112, ↓E_X7_betters_113, ↓E_X7_betters_116, ↓E_X7_betters_117, ↓E_X7_betters_119, ↓E_X7_betters_122, ↓E_X7_betters_123, ↓E_X7_betters_126, ↓E_X7_betters_127, ↓E_X7_betters_130, ↓E_X7_betters_131, S1, leN, if_true]
  | succ m ih =>
    intro k σ l6 hk sc
    have hw := sc.vw hw0
    obtain ⟨S1, -⟩ := vwM_now hw
    have st : btK (CM w) mn w.1.jn s (k + 1) = if mn = 0 ∧ (btK (CM w) mn w.1.jn s k).2.isSome = true then btK (CM w) mn w.1.jn s k else btL (CM w) mn k (btK (CM w) mn w.1.jn s k) w.1.jn := rfl
    have okZ := okB_K (mn := mn) hw.1 okS k (by omega)
    generalize btK (CM w) mn w.1.jn s k = z at *
    by_cases h2 : mn = 2
    · subst h2
      obtain ⟨σ1, r1, sc1⟩ := l_b2 (d := d) σ0 hw0 (show k < w.1.jn by omega) z okZ w.1.jn 0 σ (by omega) sc
      obtain ⟨σ', l6', r2, sc'⟩ := ih (k + 1) σ1 (some (.int (nI w.1.jn))) (by omega) sc1
      refine ⟨σ', l6', fun q => ?_, sc'⟩
      rw [← r2 q, st, if_neg (fun y => absurd y.1 (by decide))]
      have r1' : ∀ q, mx_run (d + 4) m_X7_betters 37 [some (.ref 88), some (.int (nI 2)), some (.int (iN z.1)), some (.int (bA z)), some (.int (bB z)), some (.int (nI k)), some (.int 0)] [] σ q ↔ _ := r1
      conv => lhs; rw [E_X7_betters_13]
      simp (disch := omega) only [true_and, and_true, and_self, exists_eq_left, Option.toList_some, Option.toList_none, List.cons_append, List.nil_append, List.append_nil, i2_i, i2_r, i2_n, nz0, nz1, true_or, or_true, Nat.reduceAdd, Nat.le_refl, Nat.reduceLT, Nat.reduceLeDiff, ↓E_X7_betters_0, ↓E_X7_betters_1, ↓E_X7_betters_4, ↓E_X7_betters_5, ↓E_X7_betters_6, ↓E_X7_betters_7, ↓E_X7_betters_8, ↓E_X7_betters_10, ↓E_X7_betters_11, ↓E_X7_betters_15, ↓E_X7_betters_16, ↓E_X7_betters_19, ↓E_X7_betters_22, ↓E_X7_betters_23, ↓E_X7_betters_24, ↓E_X7_betters_27, ↓E_X7_betters_28, ↓E_X7_betters_31, ↓E_X7_betters_33, ↓E_X7_betters_34, ↓E_X7_betters_35, ↓E_X7_betters_39, ↓E_X7_betters_40, ↓E_X7_betters_43, ↓E_X7_betters_46, ↓E_X7_betters_47, ↓E_X7_betters_48, ↓E_X7_betters_51, ↓E_X7_betters_53, ↓E_X7_betters_55, ↓E_X7_betters_56, ↓E_X7_betters_57, ↓E_X7_betters_60, ↓E_X7_betters_61, ↓E_X7_betters_64, ↓E_X7_betters_65, ↓E_X7_betters_68, ↓E_X7_betters_69, ↓E_X7_betters_71, ↓E_X7_betters_73, ↓E_X7_betters_76, ↓E_X7_betters_77, ↓E_X7_betters_80, ↓E_X7_betters_81, ↓E_X7_betters_83, ↓E_X7_betters_85, ↓E_X7_betters_88, ↓E_X7_betters_89, ↓E_X7_betters_91, ↓E_X7_betters_92, ↓E_X7_betters_94, ↓E_X7_betters_96, ↓E_X7_betters_99, ↓E_X7_betters_105, ↓E_X7_betters_108, ↓E_X7_betters_109, ↓E_X7_betters_112, ↓E_X7_betters_113, ↓E_X7_betters_116, ↓E_X7_betters_117, ↓E_X7_betters_119, ↓E_X7_betters_122, ↓E_X7_betters_123, ↓E_X7_betters_126, ↓E_X7_betters_127, ↓E_X7_betters_130, ↓E_X7_betters_131, S1, leN, if_neg (show ¬ w.1.jn ≤ k by omega), if_pos (show nI 2 = (2 : Int32) by decide), r1']
      simp (disch := omega) only [true_and, and_true, and_self, exists_eq_left, Option.toList_some, Option.toList_none, List.cons_append, List.nil_append, List.append_nil, i2_i, i2_r, i2_n, nz0, nz1, true_or, or_true, Nat.reduceAdd, Nat.le_refl, Nat.reduceLT, Nat.reduceLeDiff, ↓E_X7_betters_0, ↓E_X7_betters_1, ↓E_X7_betters_4, ↓E_X7_betters_5, ↓E_X7_betters_6, ↓E_X7_betters_7, ↓E_X7_betters_8, ↓E_X7_betters_10, ↓E_X7_betters_11, ↓E_X7_betters_15, ↓E_X7_betters_16, ↓E_X7_betters_19, ↓E_X7_betters_22, ↓E_X7_betters_23, ↓E_X7_betters_24, ↓E_X7_betters_27, ↓E_X7_betters_28, ↓E_X7_betters_31, ↓E_X7_betters_33, ↓E_X7_betters_34, ↓E_X7_betters_35, ↓E_X7_betters_39, ↓E_X7_betters_40, ↓E_X7_betters_43, ↓E_X7_betters_46, ↓E_X7_betters_47, ↓E_X7_betters_48, ↓E_X7_betters_51, ↓E_X7_betters_53, ↓E_X7_betters_55, ↓E_X7_betters_56, ↓E_X7_betters_57, ↓E_X7_betters_60, ↓E_X7_betters_61, ↓E_X7_betters_64, ↓E_X7_betters_65, ↓E_X7_betters_68, ↓E_X7_betters_69, ↓E_X7_betters_71, ↓E_X7_betters_73, ↓E_X7_betters_76, ↓E_X7_betters_77, ↓E_X7_betters_80, ↓E_X7_betters_81, ↓E_X7_betters_83, ↓E_X7_betters_85, ↓E_X7_betters_88, ↓E_X7_betters_89, ↓E_X7_betters_91, ↓E_X7_betters_92, ↓E_X7_betters_94, ↓E_X7_betters_96, ↓E_X7_betters_99, ↓E_X7_betters_102, ↓E_X7_betters_105, ↓E_X7_betters_108, ↓E_X7_betters_109, ↓E_X7_betters_112, ↓E_X7_betters_113, ↓E_X7_betters_116, ↓E_X7_betters_117, ↓E_X7_betters_119, ↓E_X7_betters_122, ↓E_X7_betters_123, ↓E_X7_betters_126, ↓E_X7_betters_127, ↓E_X7_betters_130, ↓E_X7_betters_131, nI_1]
    · obtain ⟨σ1, l6a, r1, sc1⟩ := l_b1 (d := d) (mn := mn) hw (by omega) (show k < w.1.jn by omega) z okZ
      obtain ⟨σ', l6', r2, sc'⟩ := ih (k + 1) σ1 (some (.int l6a)) (by omega) (sc.tr sc1)
      refine ⟨σ', l6', fun q => ?_, sc'⟩
      have n2 : ¬ nI mn = (2 : Int32) := fun z => h2 ((nI_eq (a := mn) (b := 2) (by omega) (by omega)).mp z)
      rw [← r2 q, st]
      conv => lhs; rw [E_X7_betters_13]
      simp (disch := omega) only [true_and, and_true, and_self, exists_eq_left, Option.toList_some, Option.toList_none, List.cons_append, List.nil_append, List.append_nil, i2_i, i2_r, i2_n, nz0, nz1, true_or, or_true, Nat.reduceAdd, Nat.le_refl, Nat.reduceLT, Nat.reduceLeDiff, ↓E_X7_betters_0, ↓E_X7_betters_1, ↓E_X7_betters_4, ↓E_X7_betters_5, ↓E_X7_betters_6, ↓E_X7_betters_7, ↓E_X7_betters_8, ↓E_X7_betters_10, ↓E_X7_betters_11, ↓E_X7_betters_15, ↓E_X7_betters_16, ↓E_X7_betters_19, ↓E_X7_betters_22, ↓E_X7_betters_23, ↓E_X7_betters_24, ↓E_X7_betters_27, ↓E_X7_betters_28, ↓E_X7_betters_31, ↓E_X7_betters_33, ↓E_X7_betters_34, ↓E_X7_betters_35, ↓E_X7_betters_39, ↓E_X7_betters_40, ↓E_X7_betters_43, ↓E_X7_betters_46, ↓E_X7_betters_47, ↓E_X7_betters_48, ↓E_X7_betters_51, ↓E_X7_betters_53, ↓E_X7_betters_55, ↓E_X7_betters_56, ↓E_X7_betters_57, ↓E_X7_betters_60, ↓E_X7_betters_61, ↓E_X7_betters_64, ↓E_X7_betters_65, ↓E_X7_betters_68, ↓E_X7_betters_69, ↓E_X7_betters_71, ↓E_X7_betters_73, ↓E_X7_betters_76, ↓E_X7_betters_77, ↓E_X7_betters_80, ↓E_X7_betters_81, ↓E_X7_betters_83, ↓E_X7_betters_85, ↓E_X7_betters_88, ↓E_X7_betters_89, ↓E_X7_betters_91, ↓E_X7_betters_92, ↓E_X7_betters_94, ↓E_X7_betters_96, ↓E_X7_betters_99, ↓E_X7_betters_105, ↓E_X7_betters_108, ↓E_X7_betters_109, ↓E_X7_betters_112, ↓E_X7_betters_113, ↓E_X7_betters_116, ↓E_X7_betters_117, ↓E_X7_betters_119, ↓E_X7_betters_122, ↓E_X7_betters_123, ↓E_X7_betters_126, ↓E_X7_betters_127, ↓E_X7_betters_130, ↓E_X7_betters_131, S1, leN, if_neg (show ¬ w.1.jn ≤ k by omega), if_neg n2, nI_1, r1]
      simp (disch := omega) only [true_and, and_true, and_self, exists_eq_left, Option.toList_some, Option.toList_none, List.cons_append, List.nil_append, List.append_nil, i2_i, i2_r, i2_n, nz0, nz1, true_or, or_true, Nat.reduceAdd, Nat.le_refl, Nat.reduceLT, Nat.reduceLeDiff, ↓E_X7_betters_0, ↓E_X7_betters_1, ↓E_X7_betters_4, ↓E_X7_betters_5, ↓E_X7_betters_6, ↓E_X7_betters_7, ↓E_X7_betters_8, ↓E_X7_betters_10, ↓E_X7_betters_11, ↓E_X7_betters_15, ↓E_X7_betters_16, ↓E_X7_betters_19, ↓E_X7_betters_22, ↓E_X7_betters_23, ↓E_X7_betters_24, ↓E_X7_betters_27, ↓E_X7_betters_28, ↓E_X7_betters_31, ↓E_X7_betters_33, ↓E_X7_betters_34, ↓E_X7_betters_35, ↓E_X7_betters_39, ↓E_X7_betters_40, ↓E_X7_betters_43, ↓E_X7_betters_46, ↓E_X7_betters_47, ↓E_X7_betters_48, ↓E_X7_betters_51, ↓E_X7_betters_53, ↓E_X7_betters_55, ↓E_X7_betters_56, ↓E_X7_betters_57, ↓E_X7_betters_60, ↓E_X7_betters_61, ↓E_X7_betters_64, ↓E_X7_betters_65, ↓E_X7_betters_68, ↓E_X7_betters_69, ↓E_X7_betters_71, ↓E_X7_betters_73, ↓E_X7_betters_76, ↓E_X7_betters_77, ↓E_X7_betters_80, ↓E_X7_betters_81, ↓E_X7_betters_83, ↓E_X7_betters_85, ↓E_X7_betters_88, ↓E_X7_betters_89, ↓E_X7_betters_91, ↓E_X7_betters_92, ↓E_X7_betters_94, ↓E_X7_betters_96, ↓E_X7_betters_99, ↓E_X7_betters_102, ↓E_X7_betters_105, ↓E_X7_betters_108, ↓E_X7_betters_109, ↓E_X7_betters_112, ↓E_X7_betters_113, ↓E_X7_betters_116, ↓E_X7_betters_117, ↓E_X7_betters_119, ↓E_X7_betters_122, ↓E_X7_betters_123, ↓E_X7_betters_126, ↓E_X7_betters_127, ↓E_X7_betters_130, ↓E_X7_betters_131, nI_1]
set_option maxHeartbeats 4000000 in
theorem m_betters {d mn : Nat} {σ : mx_S} {w : Vw} (hw : vwM w σ) (hmn : mn ≤ 2) (hj : w.1.jn ≠ 0) : ∃ σ', (∀ q, mx_call (d + 5) m_X7_betters [.ref 88, .int (nI mn)] σ q ↔ q = (some (.int (bz (BT w mn).isSome)), σ')) ∧ loS σ σ' ∧ vwM (match BT w mn with | none => w | some x => setShp w w.1.jn w.1.md w.1.am w.1.V (mv w.1.O x.1 x.2)) σ' := by
  have hn := hw.1.1.1
  obtain ⟨σ1, c1, sc1⟩ := m_now (d := d) hw hj
  have ok0 : okB w.1.jn (C0 w, none) := ⟨C0_le hw.1, fun x hx => by cases hx⟩
  obtain ⟨σ2, l6, r, sc2⟩ := l_bK (d := d) hmn σ hw (C0 w, none) ok0 w.1.jn 0 σ1 none (by omega) sc1
  have okE := okB_K (mn := mn) hw.1 ok0 w.1.jn (Nat.le_refl _)
  have hw2 := sc2.vw hw
  obtain ⟨S1, S2, S3, S4, S5⟩ := vwM_now hw2
  have r0 : ∀ q, mx_run (d + 4) m_X7_betters 13 [some (.ref 88), some (.int (nI mn)), some (.int (iN (C0 w))), some (.int (-1)), some (.int (-1)), some (.int 0), none] [] σ1 q ↔ _ := fun q => r q
  have go : ∀ q, mx_call (d + 5) m_X7_betters [.ref 88, .int (nI mn)] σ q ↔ mx_run (d + 4) m_X7_betters 108 [some (.ref 88), some (.int (nI mn)), some (.int (iN (btK (CM w) mn w.1.jn (C0 w, none) w.1.jn).1)), some (.int (bA (btK (CM w) mn w.1.jn (C0 w, none) w.1.jn))), some (.int (bB (btK (CM w) mn w.1.jn (C0 w, none) w.1.jn))), some (.int (nI w.1.jn)), l6] [] σ2 q := by
    intro q
    rw [← r0 q]
    simp (disch := omega) only [C_X7_betters, true_and, and_true, and_self, exists_eq_left, Option.toList_some, Option.toList_none, List.cons_append, List.nil_append, List.append_nil, i2_i, i2_r, i2_n, nz0, nz1, true_or, or_true, Nat.reduceAdd, Nat.le_refl, Nat.reduceLT, Nat.reduceLeDiff, ↓E_X7_betters_0, ↓E_X7_betters_1, ↓E_X7_betters_4, ↓E_X7_betters_5, ↓E_X7_betters_6, ↓E_X7_betters_7, ↓E_X7_betters_8, ↓E_X7_betters_10, ↓E_X7_betters_11, ↓E_X7_betters_15, ↓E_X7_betters_16, ↓E_X7_betters_19, ↓E_X7_betters_22, ↓E_X7_betters_23, ↓E_X7_betters_24, ↓E_X7_betters_27, ↓E_X7_betters_28, ↓E_X7_betters_31, ↓E_X7_betters_33, ↓E_X7_betters_34, ↓E_X7_betters_35, ↓E_X7_betters_37, ↓E_X7_betters_39, ↓E_X7_betters_40, ↓E_X7_betters_43, ↓E_X7_betters_46, ↓E_X7_betters_47, ↓E_X7_betters_48, ↓E_X7_betters_51, ↓E_X7_betters_53, ↓E_X7_betters_55, ↓E_X7_betters_56, ↓E_X7_betters_57, ↓E_X7_betters_60, ↓E_X7_betters_61, ↓E_X7_betters_64, ↓E_X7_betters_65, ↓E_X7_betters_68, ↓E_X7_betters_69, ↓E_X7_betters_71, ↓E_X7_betters_73, ↓E_X7_betters_76, ↓E_X7_betters_77, ↓E_X7_betters_80, ↓E_X7_betters_81, ↓E_X7_betters_83, ↓E_X7_betters_85, ↓E_X7_betters_88, ↓E_X7_betters_89, ↓E_X7_betters_91, ↓E_X7_betters_92, ↓E_X7_betters_94, ↓E_X7_betters_96, ↓E_X7_betters_99, ↓E_X7_betters_102, ↓E_X7_betters_105, ↓E_X7_betters_108, ↓E_X7_betters_109, ↓E_X7_betters_112, ↓E_X7_betters_113, ↓E_X7_betters_116, ↓E_X7_betters_117, ↓E_X7_betters_119, ↓E_X7_betters_122, ↓E_X7_betters_123, ↓E_X7_betters_126, ↓E_X7_betters_127, ↓E_X7_betters_130, ↓E_X7_betters_131, c1]
  unfold BT
  generalize btK (CM w) mn w.1.jn (C0 w, none) w.1.jn = z at *
  obtain ⟨z1, z2⟩ := z
  cases z2 with
  | none =>
    refine ⟨σ2, fun q => ?_, sc2.lo, hw2⟩
    rw [go q, bA_n]
    simp (disch := omega) only [true_and, and_true, and_self, exists_eq_left, Option.toList_some, Option.toList_none, List.cons_append, List.nil_append, List.append_nil, i2_i, i2_r, i2_n, nz0, nz1, true_or, or_true, Nat.reduceAdd, Nat.le_refl, Nat.reduceLT, Nat.reduceLeDiff, ↓E_X7_betters_0, ↓E_X7_betters_1, ↓E_X7_betters_4, ↓E_X7_betters_5, ↓E_X7_betters_6, ↓E_X7_betters_7, ↓E_X7_betters_8, ↓E_X7_betters_10, ↓E_X7_betters_11, ↓E_X7_betters_13, ↓E_X7_betters_15, ↓E_X7_betters_16, ↓E_X7_betters_19, ↓E_X7_betters_22, ↓E_X7_betters_23, ↓E_X7_betters_24, ↓E_X7_betters_27, ↓E_X7_betters_28, ↓E_X7_betters_31, ↓E_X7_betters_33, ↓E_X7_betters_34, ↓E_X7_betters_35, ↓E_X7_betters_37, ↓E_X7_betters_39, ↓E_X7_betters_40, ↓E_X7_betters_43, ↓E_X7_betters_46, ↓E_X7_betters_47, ↓E_X7_betters_48, ↓E_X7_betters_51, ↓E_X7_betters_53, ↓E_X7_betters_55, ↓E_X7_betters_56, ↓E_X7_betters_57, ↓E_X7_betters_60, ↓E_X7_betters_61, ↓E_X7_betters_64, ↓E_X7_betters_65, ↓E_X7_betters_68, ↓E_X7_betters_69, ↓E_X7_betters_71, ↓E_X7_betters_73, ↓E_X7_betters_76, ↓E_X7_betters_77, ↓E_X7_betters_80, ↓E_X7_betters_81, ↓E_X7_betters_83, ↓E_X7_betters_85, ↓E_X7_betters_88, ↓E_X7_betters_89, ↓E_X7_betters_91, ↓E_X7_betters_92, ↓E_X7_betters_94, ↓E_X7_betters_96, ↓E_X7_betters_99, ↓E_X7_betters_102, ↓E_X7_betters_105, ↓E_X7_betters_108, ↓E_X7_betters_109, ↓E_X7_betters_113, ↓E_X7_betters_116, ↓E_X7_betters_117, ↓E_X7_betters_119, ↓E_X7_betters_122, ↓E_X7_betters_123, ↓E_X7_betters_127, ↓E_X7_betters_130, ↓E_X7_betters_131, if_pos (show (-1 : Int32) < 0 by decide), if_neg (show ¬ (0 : Int32) ≤ -1 by decide)]
    rfl
  | some x =>
    obtain ⟨k, l⟩ := x
    obtain ⟨hk, hl⟩ := okE.2 (k, l) rfl
    have eG : bB (z1, some (k, l)) = nI l := rfl
    have hO := hw.1.1.2.2.2.2.1
    have cs := fun q => m_shifts (d := d + 3) (σ := σ2) (q := q) (a := 90) (k := k) (l := l) (Or.inl rfl) (by omega) (by omega)
    have vO := vwM_O (O := mv w.1.O k l) (g := fun p => σ2.1 90 (mvI k l p)) hw2 (okO_mv hO hk hl) (fun p hp => S5 _ (mvI_lt hk hl hp))
    refine ⟨_, fun q => ?_, sc2.lo.tr vO.2, vO.1⟩
    rw [go q, bA_s, eG]
    simp (disch := omega) only [true_and, and_true, and_self, exists_eq_left, Option.toList_some, Option.toList_none, List.cons_append, List.nil_append, List.append_nil, i2_i, i2_r, i2_n, nz0, nz1, true_or, or_true, Nat.reduceAdd, Nat.le_refl, Nat.reduceLT, Nat.reduceLeDiff, ↓E_X7_betters_0, ↓E_X7_betters_1, ↓E_X7_betters_4, ↓E_X7_betters_5, ↓E_X7_betters_6, ↓E_X7_betters_7, ↓E_X7_betters_8, ↓E_X7_betters_10, ↓E_X7_betters_11, ↓E_X7_betters_13, ↓E_X7_betters_15, ↓E_X7_betters_16, ↓E_X7_betters_19, ↓E_X7_betters_22, ↓E_X7_betters_23, ↓E_X7_betters_24, ↓E_X7_betters_27, ↓E_X7_betters_28, ↓E_X7_betters_31, ↓E_X7_betters_33, ↓E_X7_betters_34, ↓E_X7_betters_35, ↓E_X7_betters_37, ↓E_X7_betters_39, ↓E_X7_betters_40, ↓E_X7_betters_43, ↓E_X7_betters_46, ↓E_X7_betters_47, ↓E_X7_betters_48, ↓E_X7_betters_51, ↓E_X7_betters_53, ↓E_X7_betters_55, ↓E_X7_betters_56, ↓E_X7_betters_57, ↓E_X7_betters_60, ↓E_X7_betters_61, ↓E_X7_betters_64, ↓E_X7_betters_65, ↓E_X7_betters_68, ↓E_X7_betters_69, ↓E_X7_betters_71, ↓E_X7_betters_73, ↓E_X7_betters_76, ↓E_X7_betters_77, ↓E_X7_betters_80, ↓E_X7_betters_81, ↓E_X7_betters_83, ↓E_X7_betters_85, ↓E_X7_betters_88, ↓E_X7_betters_89, ↓E_X7_betters_91, ↓E_X7_betters_92, ↓E_X7_betters_94, ↓E_X7_betters_96, ↓E_X7_betters_99, ↓E_X7_betters_102, ↓E_X7_betters_105, ↓E_X7_betters_108, ↓E_X7_betters_109, ↓E_X7_betters_112, ↓E_X7_betters_113, ↓E_X7_betters_116, ↓E_X7_betters_117, ↓E_X7_betters_119, ↓E_X7_betters_122, ↓E_X7_betters_123, ↓E_X7_betters_126, ↓E_X7_betters_127, ↓E_X7_betters_130, ↓E_X7_betters_131, if_neg (nI_neg (show k < 2147483648 by omega)), if_pos (nI_nonneg (show k < 2147483648 by omega)), cs]
    rfl
set_option maxHeartbeats 4000000 in
theorem M_step {d : Nat} {σ : mx_S} {w : Vw} {a b : Int32} (hw : vwM w σ) : ∃ σ', mx_call (d + 6) m_X7_step [.ref 88, .int a, .int b] σ (some (.int (F_step w a b).1), σ') ∧ vwM (F_step w a b).2 σ' ∧ loS σ σ' := by
  obtain ⟨S1, S2, S3, S4, S5⟩ := vwM_now hw
  have hn := hw.1.1.1
  generalize hF : F_step w a b = R
  simp (disch := omega) only [C_X7_step, true_and, and_true, and_self, exists_eq_left, Option.toList_some, Option.toList_none, List.cons_append, List.nil_append, List.append_nil, i2_i, i2_r, i2_n, nz0, nz1, true_or, or_true, Nat.reduceAdd, Nat.le_refl, Nat.reduceLT, Nat.reduceLeDiff, ↓E_X7_step_0, ↓E_X7_step_1, ↓E_X7_step_2, ↓E_X7_step_3, ↓E_X7_step_6, ↓E_X7_step_9, ↓E_X7_step_12, ↓E_X7_step_13, ↓E_X7_step_14, ↓E_X7_step_15, ↓E_X7_step_18, ↓E_X7_step_21, ↓E_X7_step_24, ↓E_X7_step_26, ↓E_X7_step_27, ↓E_X7_step_28, ↓E_X7_step_31, ↓E_X7_step_34, ↓E_X7_step_36, ↓E_X7_step_38, ↓E_X7_step_39, ↓E_X7_step_40, ↓E_X7_step_41, ↓E_X7_step_44, ↓E_X7_step_45, ↓E_X7_step_46, ↓E_X7_step_49, ↓E_X7_step_52, ↓E_X7_step_55, ↓E_X7_step_58, ↓E_X7_step_59, s_in, inL_2, inL_100, bz_0, S1, nI_eq0 hn]
  unfold F_step at hF
  by_cases e0 : ibI a 3 = false
  · rw [if_pos (Or.inl e0)] at hF
    simp only [if_pos e0]
    subst hF
    exact ⟨σ, rfl, hw, loS.rf⟩
  simp only [if_neg e0]
  by_cases e1 : inI b 100 = false
  · rw [if_pos (Or.inr e1)] at hF
    simp only [if_pos e1]
    subst hF
    exact ⟨σ, rfl, hw, loS.rf⟩
  rw [if_neg (fun z => z.elim e0 e1)] at hF
  simp only [if_neg e1]
  by_cases e2 : w.1.jn = 0
  · rw [if_pos e2] at hF
    simp only [if_pos e2]
    subst hF
    exact ⟨σ, rfl, hw, loS.rf⟩
  rw [if_neg e2] at hF
  simp only [if_neg e2]
  obtain ⟨ha, ha2, ha3⟩ := ibI_of (eq_true_of_ne_false e0)
  obtain ⟨hb, hb2, hb3⟩ := inI_of (eq_true_of_ne_false e1)
  generalize ixI a = mn at *
  generalize ixI b = n at *
  subst ha
  subst hb
  have lp : ∀ m t (σ : mx_S) (w : Vw), t + m = n → vwM w σ → w.1.jn ≠ 0 → ∃ σ', mx_run (d + 5) m_X7_step 39 [some (.ref 88), some (.int (nI mn)), some (.int (nI n)), some (.int (nI t))] [] σ (some (.int (nI (t + (stN mn m w).1))), σ') ∧ vwM (stN mn m w).2 σ' ∧ loS σ σ' := by
    intro m
    induction m with
    | zero =>
      intro t σ w ht hw hj
      have e : t = n := by omega
      subst e
      refine ⟨σ, ?_, hw, loS.rf⟩
      rw [E_X7_step_39]
      simp (disch := omega) only [true_and, and_true, and_self, exists_eq_left, Option.toList_some, Option.toList_none, List.cons_append, List.nil_append, List.append_nil, i2_i, i2_r, i2_n, nz0, nz1, true_or, or_true, Nat.reduceAdd, Nat.le_refl, Nat.reduceLT, Nat.reduceLeDiff, ↓E_X7_step_0, ↓E_X7_step_1, ↓E_X7_step_2, ↓E_X7_step_3, ↓E_X7_step_6, ↓E_X7_step_9, ↓E_X7_step_12, ↓E_X7_step_13, ↓E_X7_step_14, ↓E_X7_step_15, ↓E_X7_step_18, ↓E_X7_step_21, ↓E_X7_step_24, ↓E_X7_step_26, ↓E_X7_step_27, ↓E_X7_step_28, ↓E_X7_step_31, ↓E_X7_step_34, ↓E_X7_step_36, ↓E_X7_step_37, ↓E_X7_step_38, ↓E_X7_step_40, ↓E_X7_step_41, ↓E_X7_step_44, ↓E_X7_step_45, ↓E_X7_step_46, ↓E_X7_step_49, ↓E_X7_step_52, ↓E_X7_step_55, ↓E_X7_step_58, ↓E_X7_step_59, leN, if_true]
      rfl
    | succ m ih =>
      intro t σ w ht hw hj
      obtain ⟨σ1, c1, lo1, hw1⟩ := m_betters (d := d) (mn := mn) hw (by omega) hj
      unfold stN
      cases hB : BT w mn with
      | none =>
        rw [hB] at hw1 c1
        refine ⟨σ1, ?_, hw1, lo1⟩
        simp only [Option.isSome_none] at c1
        rw [E_X7_step_39]
        simp (disch := omega) only [true_and, and_true, and_self, exists_eq_left, Option.toList_some, Option.toList_none, List.cons_append, List.nil_append, List.append_nil, i2_i, i2_r, i2_n, nz0, nz1, true_or, or_true, Nat.reduceAdd, Nat.le_refl, Nat.reduceLT, Nat.reduceLeDiff, ↓E_X7_step_0, ↓E_X7_step_1, ↓E_X7_step_2, ↓E_X7_step_3, ↓E_X7_step_6, ↓E_X7_step_9, ↓E_X7_step_12, ↓E_X7_step_13, ↓E_X7_step_14, ↓E_X7_step_15, ↓E_X7_step_18, ↓E_X7_step_21, ↓E_X7_step_24, ↓E_X7_step_26, ↓E_X7_step_27, ↓E_X7_step_28, ↓E_X7_step_31, ↓E_X7_step_34, ↓E_X7_step_36, ↓E_X7_step_37, ↓E_X7_step_38, ↓E_X7_step_40, ↓E_X7_step_41, ↓E_X7_step_44, ↓E_X7_step_45, ↓E_X7_step_46, ↓E_X7_step_49, ↓E_X7_step_52, ↓E_X7_step_55, ↓E_X7_step_58, ↓E_X7_step_59, leN, if_neg (show ¬ n ≤ t by omega), c1, bzf, if_true]
        rfl
      | some x =>
        rw [hB] at hw1 c1
        simp only [Option.isSome_some] at c1
        obtain ⟨σ2, r, hw2, lo2⟩ := ih (t + 1) σ1 _ (by omega) hw1 hj
        refine ⟨σ2, ?_, hw2, lo1.tr lo2⟩
        rw [E_X7_step_39]
        simp (disch := omega) only [true_and, and_true, and_self, exists_eq_left, Option.toList_some, Option.toList_none, List.cons_append, List.nil_append, List.append_nil, i2_i, i2_r, i2_n, nz0, nz1, true_or, or_true, Nat.reduceAdd, Nat.le_refl, Nat.reduceLT, Nat.reduceLeDiff, ↓E_X7_step_0, ↓E_X7_step_1, ↓E_X7_step_2, ↓E_X7_step_3, ↓E_X7_step_6, ↓E_X7_step_9, ↓E_X7_step_12, ↓E_X7_step_13, ↓E_X7_step_14, ↓E_X7_step_15, ↓E_X7_step_18, ↓E_X7_step_21, ↓E_X7_step_24, ↓E_X7_step_26, ↓E_X7_step_27, ↓E_X7_step_28, ↓E_X7_step_31, ↓E_X7_step_34, ↓E_X7_step_36, ↓E_X7_step_37, ↓E_X7_step_38, ↓E_X7_step_40, ↓E_X7_step_41, ↓E_X7_step_44, ↓E_X7_step_45, ↓E_X7_step_46, ↓E_X7_step_49, ↓E_X7_step_52, ↓E_X7_step_55, ↓E_X7_step_58, ↓E_X7_step_59, leN, if_neg (show ¬ n ≤ t by omega), c1, bzt, if_false, nI_1]
        rw [show t + ((stN mn m (setShp w w.1.jn w.1.md w.1.am w.1.V (mv w.1.O x.1 x.2))).1 + 1) = t + 1 + (stN mn m (setShp w w.1.jn w.1.md w.1.am w.1.V (mv w.1.O x.1 x.2))).1 by omega]
        exact r
  obtain ⟨σ', r, hw', lo'⟩ := lp n 0 σ w (by omega) hw e2
  rw [Nat.zero_add] at r
  subst hF
  refine ⟨σ', ?_, hw', lo'⟩
  simp (disch := omega) only [true_and, and_true, and_self, exists_eq_left, Option.toList_some, Option.toList_none, List.cons_append, List.nil_append, List.append_nil, i2_i, i2_r, i2_n, nz0, nz1, true_or, or_true, Nat.reduceAdd, Nat.le_refl, Nat.reduceLT, Nat.reduceLeDiff, ↓E_X7_step_0, ↓E_X7_step_1, ↓E_X7_step_2, ↓E_X7_step_3, ↓E_X7_step_6, ↓E_X7_step_9, ↓E_X7_step_12, ↓E_X7_step_13, ↓E_X7_step_14, ↓E_X7_step_15, ↓E_X7_step_18, ↓E_X7_step_21, ↓E_X7_step_24, ↓E_X7_step_26, ↓E_X7_step_27, ↓E_X7_step_28, ↓E_X7_step_31, ↓E_X7_step_34, ↓E_X7_step_36, ↓E_X7_step_37, ↓E_X7_step_38, ↓E_X7_step_40, ↓E_X7_step_41, ↓E_X7_step_44, ↓E_X7_step_45, ↓E_X7_step_46, ↓E_X7_step_49, ↓E_X7_step_52, ↓E_X7_step_55, ↓E_X7_step_58, ↓E_X7_step_59]
  exact r
