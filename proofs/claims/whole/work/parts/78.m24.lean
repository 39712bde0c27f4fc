/-! ===== the reference: clauses ===== -/
def ocF (r : Option Cl × Nat) : Bool := r.1.isNone
set_option maxHeartbeats 4000000 in
theorem r_j {d i : Nat} {b : Int32} {σ : mx_S} {l : List Nat} (ok : okL l) (hT : txM2 l σ) (hi : i ≤ l.length) : ∃ v1 v2 v3 : Int32, (∀ q, mx_run (d + 4) m_X7_rest 0 [some (.ref 88), some (.int 106), some (.int b), none, none, none] [] (ps σ i false) q ↔ mx_run (d + 4) m_X7_rest 41 [some (.ref 88), some (.int 106), some (.int b), some (.int v1), some (.int v2), some (.int v3)] [] (ps σ (tkJ l i).2 (ocF (tkJ l i))) q) ∧ ∀ c, (tkJ l i).1 = some c → v1 = nI c.2.1 ∧ v2 = nI c.2.2.1 ∧ v3 = nI c.2.2.2 := by
  have cat : ∀ x : Int32, (Value.int x).category = 1 := fun _ => rfl
  have c1 := fun q => m_number (d := d) (F := false) (p := i) (q := q) ok hT hi
  have p1 : jp1 l i ≤ l.length := nmP_le hi
  simp only [if_neg (show ¬ false = true by decide), Bool.false_or] at c1
  have sg : ∀ (p : Nat) (F : Bool), p ≤ l.length → ∀ q, mx_call (d + 4) m_X7_takes [.ref 88, .int 44, .int 44] (ps σ p F) q ↔ q = (some (.int (nI (if (!F && sgB l 44 p) = true then l.getD p 0 - 44 else 0))), ps σ (if (!F && sgB l 44 p) = true then p + 1 else p) (F || !sgB l 44 p)) := fun p F hp q => m_sign (d := d + 2) (c := 44) ok hT hp (by omega)
  have nf : ∀ p, p ≤ l.length → ∀ q, mx_call (d + 4) m_X7_takesNumber [.ref 88] (ps σ p true) q ↔ q = (some (.int (nI 0)), ps σ p true) := fun p hp q => by
    have := m_number (d := d) (F := true) (p := p) (q := q) ok hT hp
    simp only [if_true, Bool.true_or] at this
    exact this
  have sf : ∀ p, p ≤ l.length → ∀ q, mx_call (d + 4) m_X7_takes [.ref 88, .int 44, .int 44] (ps σ p true) q ↔ q = (some (.int (nI 0)), ps σ p true) := fun p hp q => by
    have := sg p true hp q
    simp only [Bool.not_true, Bool.false_and, if_neg (show ¬ false = true by decide), Bool.true_or] at this
    exact this
  unfold tkJ
  by_cases e1 : dgB l i = false
  · rw [if_pos e1]
    rw [e1, nmP_f e1] at c1
    have f1 := nf i hi
    have f2 := sf i hi
    refine ⟨nI (nmV l 2 i), nI 0, nI 0, fun q => ?_, fun c hc => by cases hc⟩
    simp (disch := first | omega | exact cat _) only [true_and, and_true, and_self, exists_eq_left, Option.toList_some, Option.toList_none, List.cons_append, List.nil_append, List.append_nil, i2_i, i2_r, i2_n, nz0, nz1, true_or, or_true, Nat.reduceAdd, Nat.le_refl, Nat.reduceLT, Nat.reduceLeDiff, ↓E_X7_rest_0, ↓E_X7_rest_1, ↓E_X7_rest_3, ↓E_X7_rest_6, ↓E_X7_rest_7, ↓E_X7_rest_10, ↓E_X7_rest_11, ↓E_X7_rest_12, ↓E_X7_rest_14, ↓E_X7_rest_16, ↓E_X7_rest_19, ↓E_X7_rest_20, ↓E_X7_rest_21, ↓E_X7_rest_24, ↓E_X7_rest_26, ↓E_X7_rest_27, ↓E_X7_rest_29, ↓E_X7_rest_31, ↓E_X7_rest_34, ↓E_X7_rest_35, ↓E_X7_rest_36, ↓E_X7_rest_39, ↓E_X7_rest_42, ↓E_X7_rest_45, ↓E_X7_rest_46, ↓E_X7_rest_47, ↓E_X7_rest_49, ↓E_X7_rest_51, ↓E_X7_rest_54, ↓E_X7_rest_57, ↓E_X7_rest_58, ↓E_X7_rest_60, ↓E_X7_rest_63, ↓E_X7_rest_64, ↓E_X7_rest_65, ↓E_X7_rest_67, ↓E_X7_rest_70, ↓E_X7_rest_71, ↓E_X7_rest_73, ↓E_X7_rest_76, ↓E_X7_rest_77, ↓E_X7_rest_80, ↓E_X7_rest_81, ↓E_X7_rest_82, ↓E_X7_rest_84, ↓E_X7_rest_87, ↓E_X7_rest_88, ↓E_X7_rest_91, ↓E_X7_rest_92, ↓E_X7_rest_93, ↓E_X7_rest_96, ↓E_X7_rest_99, ↓E_X7_rest_100, ↓E_X7_rest_101, ↓E_X7_rest_102, ↓E_X7_rest_104, ↓E_X7_rest_107, ↓E_X7_rest_108, ↓E_X7_rest_111, ↓E_X7_rest_114, ↓E_X7_rest_115, ↓E_X7_rest_118, ↓E_X7_rest_120, ↓E_X7_rest_121, ↓E_X7_rest_123, ↓E_X7_rest_126, ↓E_X7_rest_127, ↓E_X7_rest_130, ↓E_X7_rest_131, ↓E_X7_rest_132, ↓E_X7_rest_133, ↓E_X7_rest_135, ↓E_X7_rest_138, ↓E_X7_rest_141, ↓E_X7_rest_142, ↓E_X7_rest_143, ↓E_X7_rest_144, ↓E_X7_rest_147, ↓E_X7_rest_149, ↓E_X7_rest_150, ↓E_X7_rest_153, ↓E_X7_rest_154, ↓E_X7_rest_155, ↓E_X7_rest_156, ↓E_X7_rest_158, ↓E_X7_rest_161, ↓E_X7_rest_162, ↓E_X7_rest_163, ↓E_X7_rest_164, ↓E_X7_rest_166, ↓E_X7_rest_169, ↓E_X7_rest_172, ↓E_X7_rest_175, ↓E_X7_rest_176, if_pos (show (106 : Int32) = 106 from rfl), c1, Bool.not_false, f1, f2, cat]
    rfl
  rw [if_neg e1]
  have e1t := eq_true_of_ne_false e1
  rw [e1t] at c1
  have c2 := sg (jp1 l i) false p1
  simp only [Bool.not_false, Bool.true_and, Bool.false_or] at c2
  have c1 : ∀ q, mx_call (d + 4) m_X7_takesNumber [.ref 88] (ps σ i false) q ↔ q = (some (.int (nI (nmV l 2 i))), ps σ (jp1 l i) false) := c1
  by_cases e2 : sgB l 44 (jp1 l i) = false
  · rw [if_pos e2]
    rw [e2] at c2
    simp only [if_neg (show ¬ false = true by decide), Bool.not_false] at c2
    have f1 := nf (jp1 l i) p1
    have f2 := sf (jp1 l i) p1
    refine ⟨nI (nmV l 2 i), nI 0, nI 0, fun q => ?_, fun c hc => by cases hc⟩
    simp (disch := first | omega | exact cat _) only [true_and, and_true, and_self, exists_eq_left, Option.toList_some, Option.toList_none, List.cons_append, List.nil_append, List.append_nil, i2_i, i2_r, i2_n, nz0, nz1, true_or, or_true, Nat.reduceAdd, Nat.le_refl, Nat.reduceLT, Nat.reduceLeDiff, ↓E_X7_rest_0, ↓E_X7_rest_1, ↓E_X7_rest_3, ↓E_X7_rest_6, ↓E_X7_rest_7, ↓E_X7_rest_10, ↓E_X7_rest_11, ↓E_X7_rest_12, ↓E_X7_rest_14, ↓E_X7_rest_16, ↓E_X7_rest_19, ↓E_X7_rest_20, ↓E_X7_rest_21, ↓E_X7_rest_24, ↓E_X7_rest_26, ↓E_X7_rest_27, ↓E_X7_rest_29, ↓E_X7_rest_31, ↓E_X7_rest_34, ↓E_X7_rest_35, ↓E_X7_rest_36, ↓E_X7_rest_39, ↓E_X7_rest_42, ↓E_X7_rest_45, ↓E_X7_rest_46, ↓E_X7_rest_47, ↓E_X7_rest_49, ↓E_X7_rest_51, ↓E_X7_rest_54, ↓E_X7_rest_57, ↓E_X7_rest_58, ↓E_X7_rest_60, ↓E_X7_rest_63, ↓E_X7_rest_64, ↓E_X7_rest_65, ↓E_X7_rest_67, ↓E_X7_rest_70, ↓E_X7_rest_71, ↓E_X7_rest_73, ↓E_X7_rest_76, ↓E_X7_rest_77, ↓E_X7_rest_80, ↓E_X7_rest_81, ↓E_X7_rest_82, ↓E_X7_rest_84, ↓E_X7_rest_87, ↓E_X7_rest_88, ↓E_X7_rest_91, ↓E_X7_rest_92, ↓E_X7_rest_93, ↓E_X7_rest_96, ↓E_X7_rest_99, ↓E_X7_rest_100, ↓E_X7_rest_101, ↓E_X7_rest_102, ↓E_X7_rest_104, ↓E_X7_rest_107, ↓E_X7_rest_108, ↓E_X7_rest_111, ↓E_X7_rest_114, ↓E_X7_rest_115, ↓E_X7_rest_118, ↓E_X7_rest_120, ↓E_X7_rest_121, ↓E_X7_rest_123, ↓E_X7_rest_126, ↓E_X7_rest_127, ↓E_X7_rest_130, ↓E_X7_rest_131, ↓E_X7_rest_132, ↓E_X7_rest_133, ↓E_X7_rest_135, ↓E_X7_rest_138, ↓E_X7_rest_141, ↓E_X7_rest_142, ↓E_X7_rest_143, ↓E_X7_rest_144, ↓E_X7_rest_147, ↓E_X7_rest_149, ↓E_X7_rest_150, ↓E_X7_rest_153, ↓E_X7_rest_154, ↓E_X7_rest_155, ↓E_X7_rest_156, ↓E_X7_rest_158, ↓E_X7_rest_161, ↓E_X7_rest_162, ↓E_X7_rest_163, ↓E_X7_rest_164, ↓E_X7_rest_166, ↓E_X7_rest_169, ↓E_X7_rest_172, ↓E_X7_rest_175, ↓E_X7_rest_176, if_pos (show (106 : Int32) = 106 from rfl), c1, c2, f1, f2, cat]
    rfl
  rw [if_neg e2]
  have e2t := eq_true_of_ne_false e2
  rw [e2t] at c2
  simp only [if_true, Bool.not_true] at c2
  have q1 := sgB_lt e2t
  have c3 := fun q => m_number (d := d) (F := false) (p := jp1 l i + 1) (q := q) ok hT q1
  simp only [if_neg (show ¬ false = true by decide), Bool.false_or] at c3
  have p2 : jp2 l i ≤ l.length := nmP_le q1
  by_cases e3 : dgB l (jp1 l i + 1) = false
  · rw [if_pos e3]
    rw [e3, nmP_f e3] at c3
    have f1 := nf (jp1 l i + 1) q1
    have f2 := sf (jp1 l i + 1) q1
    refine ⟨nI (nmV l 2 i), nI (nmV l 2 (jp1 l i + 1)), nI 0, fun q => ?_, fun c hc => by cases hc⟩
    simp (disch := first | omega | exact cat _) only [true_and, and_true, and_self, exists_eq_left, Option.toList_some, Option.toList_none, List.cons_append, List.nil_append, List.append_nil, i2_i, i2_r, i2_n, nz0, nz1, true_or, or_true, Nat.reduceAdd, Nat.le_refl, Nat.reduceLT, Nat.reduceLeDiff, ↓E_X7_rest_0, ↓E_X7_rest_1, ↓E_X7_rest_3, ↓E_X7_rest_6, ↓E_X7_rest_7, ↓E_X7_rest_10, ↓E_X7_rest_11, ↓E_X7_rest_12, ↓E_X7_rest_14, ↓E_X7_rest_16, ↓E_X7_rest_19, ↓E_X7_rest_20, ↓E_X7_rest_21, ↓E_X7_rest_24, ↓E_X7_rest_26, ↓E_X7_rest_27, ↓E_X7_rest_29, ↓E_X7_rest_31, ↓E_X7_rest_34, ↓E_X7_rest_35, ↓E_X7_rest_36, ↓E_X7_rest_39, ↓E_X7_rest_42, ↓E_X7_rest_45, ↓E_X7_rest_46, ↓E_X7_rest_47, ↓E_X7_rest_49, ↓E_X7_rest_51, ↓E_X7_rest_54, ↓E_X7_rest_57, ↓E_X7_rest_58, ↓E_X7_rest_60, ↓E_X7_rest_63, ↓E_X7_rest_64, ↓E_X7_rest_65, ↓E_X7_rest_67, ↓E_X7_rest_70, ↓E_X7_rest_71, ↓E_X7_rest_73, ↓E_X7_rest_76, ↓E_X7_rest_77, ↓E_X7_rest_80, ↓E_X7_rest_81, ↓E_X7_rest_82, ↓E_X7_rest_84, ↓E_X7_rest_87, ↓E_X7_rest_88, ↓E_X7_rest_91, ↓E_X7_rest_92, ↓E_X7_rest_93, ↓E_X7_rest_96, ↓E_X7_rest_99, ↓E_X7_rest_100, ↓E_X7_rest_101, ↓E_X7_rest_102, ↓E_X7_rest_104, ↓E_X7_rest_107, ↓E_X7_rest_108, ↓E_X7_rest_111, ↓E_X7_rest_114, ↓E_X7_rest_115, ↓E_X7_rest_118, ↓E_X7_rest_120, ↓E_X7_rest_121, ↓E_X7_rest_123, ↓E_X7_rest_126, ↓E_X7_rest_127, ↓E_X7_rest_130, ↓E_X7_rest_131, ↓E_X7_rest_132, ↓E_X7_rest_133, ↓E_X7_rest_135, ↓E_X7_rest_138, ↓E_X7_rest_141, ↓E_X7_rest_142, ↓E_X7_rest_143, ↓E_X7_rest_144, ↓E_X7_rest_147, ↓E_X7_rest_149, ↓E_X7_rest_150, ↓E_X7_rest_153, ↓E_X7_rest_154, ↓E_X7_rest_155, ↓E_X7_rest_156, ↓E_X7_rest_158, ↓E_X7_rest_161, ↓E_X7_rest_162, ↓E_X7_rest_163, ↓E_X7_rest_164, ↓E_X7_rest_166, ↓E_X7_rest_169, ↓E_X7_rest_172, ↓E_X7_rest_175, ↓E_X7_rest_176, if_pos (show (106 : Int32) = 106 from rfl), c1, c2, c3, Bool.not_false, f1, f2, cat]
    rfl
  rw [if_neg e3]
  have e3t := eq_true_of_ne_false e3
  rw [e3t] at c3
  have c3 : ∀ q, mx_call (d + 4) m_X7_takesNumber [.ref 88] (ps σ (jp1 l i + 1) false) q ↔ q = (some (.int (nI (nmV l 2 (jp1 l i + 1)))), ps σ (jp2 l i) false) := c3
  have c4 := sg (jp2 l i) false p2
  simp only [Bool.not_false, Bool.true_and, Bool.false_or] at c4
  by_cases e4 : sgB l 44 (jp2 l i) = false
  · rw [if_pos e4]
    rw [e4] at c4
    simp only [if_neg (show ¬ false = true by decide), Bool.not_false] at c4
    have f1 := nf (jp2 l i) p2
    refine ⟨nI (nmV l 2 i), nI (nmV l 2 (jp1 l i + 1)), nI 0, fun q => ?_, fun c hc => by cases hc⟩
    simp (disch := first | omega | exact cat _) only [true_and, and_true, and_self, exists_eq_left, Option.toList_some, Option.toList_none, List.cons_append, List.nil_append, List.append_nil, i2_i, i2_r, i2_n, nz0, nz1, true_or, or_true, Nat.reduceAdd, Nat.le_refl, Nat.reduceLT, Nat.reduceLeDiff, ↓E_X7_rest_0, ↓E_X7_rest_1, ↓E_X7_rest_3, ↓E_X7_rest_6, ↓E_X7_rest_7, ↓E_X7_rest_10, ↓E_X7_rest_11, ↓E_X7_rest_12, ↓E_X7_rest_14, ↓E_X7_rest_16, ↓E_X7_rest_19, ↓E_X7_rest_20, ↓E_X7_rest_21, ↓E_X7_rest_24, ↓E_X7_rest_26, ↓E_X7_rest_27, ↓E_X7_rest_29, ↓E_X7_rest_31, ↓E_X7_rest_34, ↓E_X7_rest_35, ↓E_X7_rest_36, ↓E_X7_rest_39, ↓E_X7_rest_42, ↓E_X7_rest_45, ↓E_X7_rest_46, ↓E_X7_rest_47, ↓E_X7_rest_49, ↓E_X7_rest_51, ↓E_X7_rest_54, ↓E_X7_rest_57, ↓E_X7_rest_58, ↓E_X7_rest_60, ↓E_X7_rest_63, ↓E_X7_rest_64, ↓E_X7_rest_65, ↓E_X7_rest_67, ↓E_X7_rest_70, ↓E_X7_rest_71, ↓E_X7_rest_73, ↓E_X7_rest_76, ↓E_X7_rest_77, ↓E_X7_rest_80, ↓E_X7_rest_81, ↓E_X7_rest_82, ↓E_X7_rest_84, ↓E_X7_rest_87, ↓E_X7_rest_88, ↓E_X7_rest_91, ↓E_X7_rest_92, ↓E_X7_rest_93, ↓E_X7_rest_96, ↓E_X7_rest_99, ↓E_X7_rest_100, ↓E_X7_rest_101, ↓E_X7_rest_102, ↓E_X7_rest_104, ↓E_X7_rest_107, ↓E_X7_rest_108, ↓E_X7_rest_111, ↓E_X7_rest_114, ↓E_X7_rest_115, ↓E_X7_rest_118, ↓E_X7_rest_120, ↓E_X7_rest_121, ↓E_X7_rest_123, ↓E_X7_rest_126, ↓E_X7_rest_127, ↓E_X7_rest_130, ↓E_X7_rest_131, ↓E_X7_rest_132, ↓E_X7_rest_133, ↓E_X7_rest_135, ↓E_X7_rest_138, ↓E_X7_rest_141, ↓E_X7_rest_142, ↓E_X7_rest_143, ↓E_X7_rest_144, ↓E_X7_rest_147, ↓E_X7_rest_149, ↓E_X7_rest_150, ↓E_X7_rest_153, ↓E_X7_rest_154, ↓E_X7_rest_155, ↓E_X7_rest_156, ↓E_X7_rest_158, ↓E_X7_rest_161, ↓E_X7_rest_162, ↓E_X7_rest_163, ↓E_X7_rest_164, ↓E_X7_rest_166, ↓E_X7_rest_169, ↓E_X7_rest_172, ↓E_X7_rest_175, ↓E_X7_rest_176, if_pos (show (106 : Int32) = 106 from rfl), c1, c2, c3, c4, f1, cat]
    rfl
  rw [if_neg e4]
  have e4t := eq_true_of_ne_false e4
  rw [e4t] at c4
  simp only [if_true, Bool.not_true] at c4
  have q2 := sgB_lt e4t
  have c5 := fun q => m_number (d := d) (F := false) (p := jp2 l i + 1) (q := q) ok hT q2
  simp only [if_neg (show ¬ false = true by decide), Bool.false_or] at c5
  by_cases e5 : dgB l (jp2 l i + 1) = false
  · rw [if_pos e5]
    rw [e5, nmP_f e5] at c5
    refine ⟨nI (nmV l 2 i), nI (nmV l 2 (jp1 l i + 1)), nI (nmV l 2 (jp2 l i + 1)), fun q => ?_, fun c hc => by cases hc⟩
    simp (disch := first | omega | exact cat _) only [true_and, and_true, and_self, exists_eq_left, Option.toList_some, Option.toList_none, List.cons_append, List.nil_append, List.append_nil, i2_i, i2_r, i2_n, nz0, nz1, true_or, or_true, Nat.reduceAdd, Nat.le_refl, Nat.reduceLT, Nat.reduceLeDiff, ↓E_X7_rest_0, ↓E_X7_rest_1, ↓E_X7_rest_3, ↓E_X7_rest_6, ↓E_X7_rest_7, ↓E_X7_rest_10, ↓E_X7_rest_11, ↓E_X7_rest_12, ↓E_X7_rest_14, ↓E_X7_rest_16, ↓E_X7_rest_19, ↓E_X7_rest_20, ↓E_X7_rest_21, ↓E_X7_rest_24, ↓E_X7_rest_26, ↓E_X7_rest_27, ↓E_X7_rest_29, ↓E_X7_rest_31, ↓E_X7_rest_34, ↓E_X7_rest_35, ↓E_X7_rest_36, ↓E_X7_rest_39, ↓E_X7_rest_42, ↓E_X7_rest_45, ↓E_X7_rest_46, ↓E_X7_rest_47, ↓E_X7_rest_49, ↓E_X7_rest_51, ↓E_X7_rest_54, ↓E_X7_rest_57, ↓E_X7_rest_58, ↓E_X7_rest_60, ↓E_X7_rest_63, ↓E_X7_rest_64, ↓E_X7_rest_65, ↓E_X7_rest_67, ↓E_X7_rest_70, ↓E_X7_rest_71, ↓E_X7_rest_73, ↓E_X7_rest_76, ↓E_X7_rest_77, ↓E_X7_rest_80, ↓E_X7_rest_81, ↓E_X7_rest_82, ↓E_X7_rest_84, ↓E_X7_rest_87, ↓E_X7_rest_88, ↓E_X7_rest_91, ↓E_X7_rest_92, ↓E_X7_rest_93, ↓E_X7_rest_96, ↓E_X7_rest_99, ↓E_X7_rest_100, ↓E_X7_rest_101, ↓E_X7_rest_102, ↓E_X7_rest_104, ↓E_X7_rest_107, ↓E_X7_rest_108, ↓E_X7_rest_111, ↓E_X7_rest_114, ↓E_X7_rest_115, ↓E_X7_rest_118, ↓E_X7_rest_120, ↓E_X7_rest_121, ↓E_X7_rest_123, ↓E_X7_rest_126, ↓E_X7_rest_127, ↓E_X7_rest_130, ↓E_X7_rest_131, ↓E_X7_rest_132, ↓E_X7_rest_133, ↓E_X7_rest_135, ↓E_X7_rest_138, ↓E_X7_rest_141, ↓E_X7_rest_142, ↓E_X7_rest_143, ↓E_X7_rest_144, ↓E_X7_rest_147, ↓E_X7_rest_149, ↓E_X7_rest_150, ↓E_X7_rest_153, ↓E_X7_rest_154, ↓E_X7_rest_155, ↓E_X7_rest_156, ↓E_X7_rest_158, ↓E_X7_rest_161, ↓E_X7_rest_162, ↓E_X7_rest_163, ↓E_X7_rest_164, ↓E_X7_rest_166, ↓E_X7_rest_169, ↓E_X7_rest_172, ↓E_X7_rest_175, ↓E_X7_rest_176, if_pos (show (106 : Int32) = 106 from rfl), c1, c2, c3, c4, c5, Bool.not_false, cat]
    rfl
  rw [if_neg e5]
  have e5t := eq_true_of_ne_false e5
  rw [e5t] at c5
  have c5 : ∀ q, mx_call (d + 4) m_X7_takesNumber [.ref 88] (ps σ (jp2 l i + 1) false) q ↔ q = (some (.int (nI (nmV l 2 (jp2 l i + 1)))), ps σ (jp3 l i) false) := c5
  refine ⟨nI (nmV l 2 i), nI (nmV l 2 (jp1 l i + 1)), nI (nmV l 2 (jp2 l i + 1)), fun q => ?_, fun c hc => by cases hc; exact ⟨rfl, rfl, rfl⟩⟩
  simp (disch := first | omega | exact cat _) only [true_and, and_true, and_self, exists_eq_left, Option.toList_some, Option.toList_none, List.cons_append, List.nil_append, List.append_nil, i2_i, i2_r, i2_n, nz0, nz1, true_or, or_true, Nat.reduceAdd, Nat.le_refl, Nat.reduceLT, Nat.reduceLeDiff, ↓E_X7_rest_0, ↓E_X7_rest_1, ↓E_X7_rest_3, ↓E_X7_rest_6, ↓E_X7_rest_7, ↓E_X7_rest_10, ↓E_X7_rest_11, ↓E_X7_rest_12, ↓E_X7_rest_14, ↓E_X7_rest_16, ↓E_X7_rest_19, ↓E_X7_rest_20, ↓E_X7_rest_21, ↓E_X7_rest_24, ↓E_X7_rest_26, ↓E_X7_rest_27, ↓E_X7_rest_29, ↓E_X7_rest_31, ↓E_X7_rest_34, ↓E_X7_rest_35, ↓E_X7_rest_36, ↓E_X7_rest_39, ↓E_X7_rest_42, ↓E_X7_rest_45, ↓E_X7_rest_46, ↓E_X7_rest_47, ↓E_X7_rest_49, ↓E_X7_rest_51, ↓E_X7_rest_54, ↓E_X7_rest_57, ↓E_X7_rest_58, ↓E_X7_rest_60, ↓E_X7_rest_63, ↓E_X7_rest_64, ↓E_X7_rest_65, ↓E_X7_rest_67, ↓E_X7_rest_70, ↓E_X7_rest_71, ↓E_X7_rest_73, ↓E_X7_rest_76, ↓E_X7_rest_77, ↓E_X7_rest_80, ↓E_X7_rest_81, ↓E_X7_rest_82, ↓E_X7_rest_84, ↓E_X7_rest_87, ↓E_X7_rest_88, ↓E_X7_rest_91, ↓E_X7_rest_92, ↓E_X7_rest_93, ↓E_X7_rest_96, ↓E_X7_rest_99, ↓E_X7_rest_100, ↓E_X7_rest_101, ↓E_X7_rest_102, ↓E_X7_rest_104, ↓E_X7_rest_107, ↓E_X7_rest_108, ↓E_X7_rest_111, ↓E_X7_rest_114, ↓E_X7_rest_115, ↓E_X7_rest_118, ↓E_X7_rest_120, ↓E_X7_rest_121, ↓E_X7_rest_123, ↓E_X7_rest_126, ↓E_X7_rest_127, ↓E_X7_rest_130, ↓E_X7_rest_131, ↓E_X7_rest_132, ↓E_X7_rest_133, ↓E_X7_rest_135, ↓E_X7_rest_138, ↓E_X7_rest_141, ↓E_X7_rest_142, ↓E_X7_rest_143, ↓E_X7_rest_144, ↓E_X7_rest_147, ↓E_X7_rest_149, ↓E_X7_rest_150, ↓E_X7_rest_153, ↓E_X7_rest_154, ↓E_X7_rest_155, ↓E_X7_rest_156, ↓E_X7_rest_158, ↓E_X7_rest_161, ↓E_X7_rest_162, ↓E_X7_rest_163, ↓E_X7_rest_164, ↓E_X7_rest_166, ↓E_X7_rest_169, ↓E_X7_rest_172, ↓E_X7_rest_175, ↓E_X7_rest_176, if_pos (show (106 : Int32) = 106 from rfl), c1, c2, c3, c4, c5, cat]
  rfl
theorem nm1V {l : List Nat} {i : Nat} (h : ¬ dgB l i = false) : nmV l 1 i = l.getD i 0 - 48 := by
  unfold nmV
  rw [if_neg h, if_neg (fun z => absurd z.1 (by decide))]
set_option maxHeartbeats 4000000 in
theorem r_q {d i : Nat} {b : Int32} {σ : mx_S} {l : List Nat} (ok : okL l) (hT : txM2 l σ) (hi : i ≤ l.length) : ∃ v1 v2 v3 : Int32, (∀ q, mx_run (d + 4) m_X7_rest 0 [some (.ref 88), some (.int 99), some (.int b), none, none, none] [] (ps σ i false) q ↔ mx_run (d + 4) m_X7_rest 149 [some (.ref 88), some (.int 99), some (.int b), some (.int v1), some (.int v2), some (.int v3)] [] (ps σ (tkQ l i).2 (ocF (tkQ l i))) q) ∧ ∀ c, (tkQ l i).1 = some c → v1 = nI c.2.1 ∧ v2 = nI c.2.2.1 ∧ v3 = nI c.2.2.2 := by
  have n1 : ¬ (99 : Int32) = 106 := by decide
  have n2 : ¬ (99 : Int32) = 109 := by decide
  have n3 : ¬ (99 : Int32) = 97 := by decide
  have n4 : ¬ (99 : Int32) = 100 := by decide
  have dg : ∀ p, p ≤ l.length → ∀ q, mx_call (d + 4) m_X7_takesDigit [.ref 88] (ps σ p false) q ↔ q = (some (.int (nI (if dgB l p = true then l.getD p 0 - 48 else 0))), ps σ (if dgB l p = true then p + 1 else p) (!dgB l p)) := fun p hp q => by
    have := m_digit (d := d + 1) (F := false) (p := p) (q := q) ok hT hp
    simp only [Bool.not_false, Bool.true_and, Bool.false_or] at this
    exact this
  have df : ∀ p, p ≤ l.length → ∀ q, mx_call (d + 4) m_X7_takesDigit [.ref 88] (ps σ p true) q ↔ q = (some (.int (nI 0)), ps σ p true) := fun p hp q => by
    have := m_digit (d := d + 1) (F := true) (p := p) (q := q) ok hT hp
    simp only [Bool.not_true, Bool.false_and, if_neg (show ¬ false = true by decide), Bool.true_or] at this
    exact this
  have c1 := dg i hi
  unfold tkQ
  by_cases e1 : dgB l i = false
  · rw [if_pos e1]
    rw [e1] at c1
    simp only [if_neg (show ¬ false = true by decide), Bool.not_false] at c1
    have f1 := df i hi
    refine ⟨nI 0, nI 0, nI 0, fun q => ?_, fun c hc => by cases hc⟩
    simp (disch := omega) only [true_and, and_true, and_self, exists_eq_left, Option.toList_some, Option.toList_none, List.cons_append, List.nil_append, List.append_nil, i2_i, i2_r, i2_n, nz0, nz1, true_or, or_true, Nat.reduceAdd, Nat.le_refl, Nat.reduceLT, Nat.reduceLeDiff, ↓E_X7_rest_0, ↓E_X7_rest_1, ↓E_X7_rest_3, ↓E_X7_rest_7, ↓E_X7_rest_10, ↓E_X7_rest_11, ↓E_X7_rest_12, ↓E_X7_rest_14, ↓E_X7_rest_16, ↓E_X7_rest_19, ↓E_X7_rest_20, ↓E_X7_rest_21, ↓E_X7_rest_24, ↓E_X7_rest_26, ↓E_X7_rest_27, ↓E_X7_rest_29, ↓E_X7_rest_31, ↓E_X7_rest_34, ↓E_X7_rest_35, ↓E_X7_rest_36, ↓E_X7_rest_39, ↓E_X7_rest_41, ↓E_X7_rest_42, ↓E_X7_rest_45, ↓E_X7_rest_46, ↓E_X7_rest_47, ↓E_X7_rest_49, ↓E_X7_rest_51, ↓E_X7_rest_54, ↓E_X7_rest_57, ↓E_X7_rest_58, ↓E_X7_rest_59, ↓E_X7_rest_60, ↓E_X7_rest_63, ↓E_X7_rest_64, ↓E_X7_rest_65, ↓E_X7_rest_67, ↓E_X7_rest_70, ↓E_X7_rest_71, ↓E_X7_rest_73, ↓E_X7_rest_77, ↓E_X7_rest_80, ↓E_X7_rest_81, ↓E_X7_rest_82, ↓E_X7_rest_84, ↓E_X7_rest_87, ↓E_X7_rest_88, ↓E_X7_rest_91, ↓E_X7_rest_92, ↓E_X7_rest_93, ↓E_X7_rest_96, ↓E_X7_rest_99, ↓E_X7_rest_100, ↓E_X7_rest_101, ↓E_X7_rest_102, ↓E_X7_rest_104, ↓E_X7_rest_108, ↓E_X7_rest_111, ↓E_X7_rest_114, ↓E_X7_rest_115, ↓E_X7_rest_118, ↓E_X7_rest_120, ↓E_X7_rest_121, ↓E_X7_rest_123, ↓E_X7_rest_127, ↓E_X7_rest_130, ↓E_X7_rest_131, ↓E_X7_rest_132, ↓E_X7_rest_133, ↓E_X7_rest_135, ↓E_X7_rest_138, ↓E_X7_rest_141, ↓E_X7_rest_142, ↓E_X7_rest_143, ↓E_X7_rest_144, ↓E_X7_rest_147, ↓E_X7_rest_150, ↓E_X7_rest_153, ↓E_X7_rest_154, ↓E_X7_rest_155, ↓E_X7_rest_156, ↓E_X7_rest_158, ↓E_X7_rest_161, ↓E_X7_rest_162, ↓E_X7_rest_163, ↓E_X7_rest_164, ↓E_X7_rest_166, ↓E_X7_rest_169, ↓E_X7_rest_172, ↓E_X7_rest_175, ↓E_X7_rest_176, if_neg n1, if_neg n2, if_neg n3, if_neg n4, c1, f1]
    rfl
  rw [if_neg e1]
  have e1t := eq_true_of_ne_false e1
  have l1 := dgB_lt e1
  rw [e1t] at c1
  simp only [if_true, Bool.not_true] at c1
  have c2 := dg (i + 1) l1
  by_cases e2 : dgB l (i + 1) = false
  · rw [if_pos e2]
    rw [e2] at c2
    simp only [if_neg (show ¬ false = true by decide), Bool.not_false] at c2
    have f1 := df (i + 1) l1
    refine ⟨nI (l.getD i 0 - 48), nI 0, nI 0, fun q => ?_, fun c hc => by cases hc⟩
    simp (disch := omega) only [true_and, and_true, and_self, exists_eq_left, Option.toList_some, Option.toList_none, List.cons_append, List.nil_append, List.append_nil, i2_i, i2_r, i2_n, nz0, nz1, true_or, or_true, Nat.reduceAdd, Nat.le_refl, Nat.reduceLT, Nat.reduceLeDiff, ↓E_X7_rest_0, ↓E_X7_rest_1, ↓E_X7_rest_3, ↓E_X7_rest_7, ↓E_X7_rest_10, ↓E_X7_rest_11, ↓E_X7_rest_12, ↓E_X7_rest_14, ↓E_X7_rest_16, ↓E_X7_rest_19, ↓E_X7_rest_20, ↓E_X7_rest_21, ↓E_X7_rest_24, ↓E_X7_rest_26, ↓E_X7_rest_27, ↓E_X7_rest_29, ↓E_X7_rest_31, ↓E_X7_rest_34, ↓E_X7_rest_35, ↓E_X7_rest_36, ↓E_X7_rest_39, ↓E_X7_rest_41, ↓E_X7_rest_42, ↓E_X7_rest_45, ↓E_X7_rest_46, ↓E_X7_rest_47, ↓E_X7_rest_49, ↓E_X7_rest_51, ↓E_X7_rest_54, ↓E_X7_rest_57, ↓E_X7_rest_58, ↓E_X7_rest_59, ↓E_X7_rest_60, ↓E_X7_rest_63, ↓E_X7_rest_64, ↓E_X7_rest_65, ↓E_X7_rest_67, ↓E_X7_rest_70, ↓E_X7_rest_71, ↓E_X7_rest_73, ↓E_X7_rest_77, ↓E_X7_rest_80, ↓E_X7_rest_81, ↓E_X7_rest_82, ↓E_X7_rest_84, ↓E_X7_rest_87, ↓E_X7_rest_88, ↓E_X7_rest_91, ↓E_X7_rest_92, ↓E_X7_rest_93, ↓E_X7_rest_96, ↓E_X7_rest_99, ↓E_X7_rest_100, ↓E_X7_rest_101, ↓E_X7_rest_102, ↓E_X7_rest_104, ↓E_X7_rest_108, ↓E_X7_rest_111, ↓E_X7_rest_114, ↓E_X7_rest_115, ↓E_X7_rest_118, ↓E_X7_rest_120, ↓E_X7_rest_121, ↓E_X7_rest_123, ↓E_X7_rest_127, ↓E_X7_rest_130, ↓E_X7_rest_131, ↓E_X7_rest_132, ↓E_X7_rest_133, ↓E_X7_rest_135, ↓E_X7_rest_138, ↓E_X7_rest_141, ↓E_X7_rest_142, ↓E_X7_rest_143, ↓E_X7_rest_144, ↓E_X7_rest_147, ↓E_X7_rest_150, ↓E_X7_rest_153, ↓E_X7_rest_154, ↓E_X7_rest_155, ↓E_X7_rest_156, ↓E_X7_rest_158, ↓E_X7_rest_161, ↓E_X7_rest_162, ↓E_X7_rest_163, ↓E_X7_rest_164, ↓E_X7_rest_166, ↓E_X7_rest_169, ↓E_X7_rest_172, ↓E_X7_rest_175, ↓E_X7_rest_176, if_neg n1, if_neg n2, if_neg n3, if_neg n4, c1, c2, f1]
    rfl
  rw [if_neg e2]
  have e2t := eq_true_of_ne_false e2
  have l2 := dgB_lt e2
  rw [e2t] at c2
  simp only [if_true, Bool.not_true] at c2
  have c3 := dg (i + 2) l2
  have c2 : ∀ q, mx_call (d + 4) m_X7_takesDigit [.ref 88] (ps σ (i + 1) false) q ↔ q = (some (.int (nI (l.getD (i + 1) 0 - 48))), ps σ (i + 2) false) := c2
  by_cases e3 : dgB l (i + 2) = false
  · rw [if_pos e3]
    rw [e3] at c3
    simp only [if_neg (show ¬ false = true by decide), Bool.not_false] at c3
    refine ⟨nI (l.getD i 0 - 48), nI (l.getD (i + 1) 0 - 48), nI 0, fun q => ?_, fun c hc => by cases hc⟩
    simp (disch := omega) only [true_and, and_true, and_self, exists_eq_left, Option.toList_some, Option.toList_none, List.cons_append, List.nil_append, List.append_nil, i2_i, i2_r, i2_n, nz0, nz1, true_or, or_true, Nat.reduceAdd, Nat.le_refl, Nat.reduceLT, Nat.reduceLeDiff, ↓E_X7_rest_0, ↓E_X7_rest_1, ↓E_X7_rest_3, ↓E_X7_rest_7, ↓E_X7_rest_10, ↓E_X7_rest_11, ↓E_X7_rest_12, ↓E_X7_rest_14, ↓E_X7_rest_16, ↓E_X7_rest_19, ↓E_X7_rest_20, ↓E_X7_rest_21, ↓E_X7_rest_24, ↓E_X7_rest_26, ↓E_X7_rest_27, ↓E_X7_rest_29, ↓E_X7_rest_31, ↓E_X7_rest_34, ↓E_X7_rest_35, ↓E_X7_rest_36, ↓E_X7_rest_39, ↓E_X7_rest_41, ↓E_X7_rest_42, ↓E_X7_rest_45, ↓E_X7_rest_46, ↓E_X7_rest_47, ↓E_X7_rest_49, ↓E_X7_rest_51, ↓E_X7_rest_54, ↓E_X7_rest_57, ↓E_X7_rest_58, ↓E_X7_rest_59, ↓E_X7_rest_60, ↓E_X7_rest_63, ↓E_X7_rest_64, ↓E_X7_rest_65, ↓E_X7_rest_67, ↓E_X7_rest_70, ↓E_X7_rest_71, ↓E_X7_rest_73, ↓E_X7_rest_77, ↓E_X7_rest_80, ↓E_X7_rest_81, ↓E_X7_rest_82, ↓E_X7_rest_84, ↓E_X7_rest_87, ↓E_X7_rest_88, ↓E_X7_rest_91, ↓E_X7_rest_92, ↓E_X7_rest_93, ↓E_X7_rest_96, ↓E_X7_rest_99, ↓E_X7_rest_100, ↓E_X7_rest_101, ↓E_X7_rest_102, ↓E_X7_rest_104, ↓E_X7_rest_108, ↓E_X7_rest_111, ↓E_X7_rest_114, ↓E_X7_rest_115, ↓E_X7_rest_118, ↓E_X7_rest_120, ↓E_X7_rest_121, ↓E_X7_rest_123, ↓E_X7_rest_127, ↓E_X7_rest_130, ↓E_X7_rest_131, ↓E_X7_rest_132, ↓E_X7_rest_133, ↓E_X7_rest_135, ↓E_X7_rest_138, ↓E_X7_rest_141, ↓E_X7_rest_142, ↓E_X7_rest_143, ↓E_X7_rest_144, ↓E_X7_rest_147, ↓E_X7_rest_150, ↓E_X7_rest_153, ↓E_X7_rest_154, ↓E_X7_rest_155, ↓E_X7_rest_156, ↓E_X7_rest_158, ↓E_X7_rest_161, ↓E_X7_rest_162, ↓E_X7_rest_163, ↓E_X7_rest_164, ↓E_X7_rest_166, ↓E_X7_rest_169, ↓E_X7_rest_172, ↓E_X7_rest_175, ↓E_X7_rest_176, if_neg n1, if_neg n2, if_neg n3, if_neg n4, c1, c2, c3]
    rfl
  rw [if_neg e3]
  have e3t := eq_true_of_ne_false e3
  rw [e3t] at c3
  simp only [if_true, Bool.not_true] at c3
  refine ⟨nI (l.getD i 0 - 48), nI (l.getD (i + 1) 0 - 48), nI (l.getD (i + 2) 0 - 48), fun q => ?_, fun c hc => ?_⟩
  · simp (disch := omega) only [true_and, and_true, and_self, exists_eq_left, Option.toList_some, Option.toList_none, List.cons_append, List.nil_append, List.append_nil, i2_i, i2_r, i2_n, nz0, nz1, true_or, or_true, Nat.reduceAdd, Nat.le_refl, Nat.reduceLT, Nat.reduceLeDiff, ↓E_X7_rest_0, ↓E_X7_rest_1, ↓E_X7_rest_3, ↓E_X7_rest_7, ↓E_X7_rest_10, ↓E_X7_rest_11, ↓E_X7_rest_12, ↓E_X7_rest_14, ↓E_X7_rest_16, ↓E_X7_rest_19, ↓E_X7_rest_20, ↓E_X7_rest_21, ↓E_X7_rest_24, ↓E_X7_rest_26, ↓E_X7_rest_27, ↓E_X7_rest_29, ↓E_X7_rest_31, ↓E_X7_rest_34, ↓E_X7_rest_35, ↓E_X7_rest_36, ↓E_X7_rest_39, ↓E_X7_rest_41, ↓E_X7_rest_42, ↓E_X7_rest_45, ↓E_X7_rest_46, ↓E_X7_rest_47, ↓E_X7_rest_49, ↓E_X7_rest_51, ↓E_X7_rest_54, ↓E_X7_rest_57, ↓E_X7_rest_58, ↓E_X7_rest_59, ↓E_X7_rest_60, ↓E_X7_rest_63, ↓E_X7_rest_64, ↓E_X7_rest_65, ↓E_X7_rest_67, ↓E_X7_rest_70, ↓E_X7_rest_71, ↓E_X7_rest_73, ↓E_X7_rest_77, ↓E_X7_rest_80, ↓E_X7_rest_81, ↓E_X7_rest_82, ↓E_X7_rest_84, ↓E_X7_rest_87, ↓E_X7_rest_88, ↓E_X7_rest_91, ↓E_X7_rest_92, ↓E_X7_rest_93, ↓E_X7_rest_96, ↓E_X7_rest_99, ↓E_X7_rest_100, ↓E_X7_rest_101, ↓E_X7_rest_102, ↓E_X7_rest_104, ↓E_X7_rest_108, ↓E_X7_rest_111, ↓E_X7_rest_114, ↓E_X7_rest_115, ↓E_X7_rest_118, ↓E_X7_rest_120, ↓E_X7_rest_121, ↓E_X7_rest_123, ↓E_X7_rest_127, ↓E_X7_rest_130, ↓E_X7_rest_131, ↓E_X7_rest_132, ↓E_X7_rest_133, ↓E_X7_rest_135, ↓E_X7_rest_138, ↓E_X7_rest_141, ↓E_X7_rest_142, ↓E_X7_rest_143, ↓E_X7_rest_144, ↓E_X7_rest_147, ↓E_X7_rest_150, ↓E_X7_rest_153, ↓E_X7_rest_154, ↓E_X7_rest_155, ↓E_X7_rest_156, ↓E_X7_rest_158, ↓E_X7_rest_161, ↓E_X7_rest_162, ↓E_X7_rest_163, ↓E_X7_rest_164, ↓E_X7_rest_166, ↓E_X7_rest_169, ↓E_X7_rest_172, ↓E_X7_rest_175, ↓E_X7_rest_176, if_neg n1, if_neg n2, if_neg n3, if_neg n4, c1, c2, c3]
    rfl
  · cases hc
    rw [nm1V e1, nm1V e2, nm1V e3]
    exact ⟨rfl, rfl, rfl⟩
set_option maxHeartbeats 4000000 in
theorem r_d {d i : Nat} {b : Int32} {σ : mx_S} {l : List Nat} (ok : okL l) (hT : txM2 l σ) (hi : i ≤ l.length) : ∃ v1 v2 : Int32, (∀ q, mx_run (d + 4) m_X7_rest 0 [some (.ref 88), some (.int 100), some (.int b), none, none, none] [] (ps σ i false) q ↔ mx_run (d + 4) m_X7_rest 126 [some (.ref 88), some (.int 100), some (.int b), some (.int v1), some (.int v2), none] [] (ps σ (tkD l i).2 (ocF (tkD l i))) q) ∧ ∀ c, (tkD l i).1 = some c → v1 = nI c.2.1 ∧ v2 = nI c.2.2.1 := by
  have n1 : ¬ (100 : Int32) = 106 := by decide
  have n2 : ¬ (100 : Int32) = 109 := by decide
  have n3 : ¬ (100 : Int32) = 97 := by decide
  have n4 : (100 : Int32) = 100 := rfl
  have c1 := fun q => m_digit (d := d + 1) (F := false) (p := i) (q := q) ok hT hi
  simp only [Bool.not_false, Bool.true_and, Bool.false_or] at c1
  have nf : ∀ p, p ≤ l.length → ∀ q, mx_call (d + 4) m_X7_takesNumber [.ref 88] (ps σ p true) q ↔ q = (some (.int (nI 0)), ps σ p true) := fun p hp q => by
    have := m_number (d := d) (F := true) (p := p) (q := q) ok hT hp
    simp only [if_true, Bool.true_or] at this
    exact this
  unfold tkD
  by_cases e1 : dgB l i = false
  · rw [if_pos e1]
    rw [e1] at c1
    simp only [if_neg (show ¬ false = true by decide), Bool.not_false] at c1
    have f1 := nf i hi
    refine ⟨nI 0, nI 0, fun q => ?_, fun c hc => by cases hc⟩
    simp (disch := omega) only [true_and, and_true, and_self, exists_eq_left, Option.toList_some, Option.toList_none, List.cons_append, List.nil_append, List.append_nil, i2_i, i2_r, i2_n, nz0, nz1, true_or, or_true, Nat.reduceAdd, Nat.le_refl, Nat.reduceLT, Nat.reduceLeDiff, ↓E_X7_rest_0, ↓E_X7_rest_1, ↓E_X7_rest_3, ↓E_X7_rest_7, ↓E_X7_rest_10, ↓E_X7_rest_11, ↓E_X7_rest_12, ↓E_X7_rest_14, ↓E_X7_rest_16, ↓E_X7_rest_19, ↓E_X7_rest_20, ↓E_X7_rest_21, ↓E_X7_rest_24, ↓E_X7_rest_26, ↓E_X7_rest_27, ↓E_X7_rest_29, ↓E_X7_rest_31, ↓E_X7_rest_34, ↓E_X7_rest_35, ↓E_X7_rest_36, ↓E_X7_rest_39, ↓E_X7_rest_41, ↓E_X7_rest_42, ↓E_X7_rest_45, ↓E_X7_rest_46, ↓E_X7_rest_47, ↓E_X7_rest_49, ↓E_X7_rest_51, ↓E_X7_rest_54, ↓E_X7_rest_57, ↓E_X7_rest_58, ↓E_X7_rest_59, ↓E_X7_rest_60, ↓E_X7_rest_63, ↓E_X7_rest_64, ↓E_X7_rest_65, ↓E_X7_rest_67, ↓E_X7_rest_70, ↓E_X7_rest_71, ↓E_X7_rest_73, ↓E_X7_rest_77, ↓E_X7_rest_80, ↓E_X7_rest_81, ↓E_X7_rest_82, ↓E_X7_rest_84, ↓E_X7_rest_87, ↓E_X7_rest_88, ↓E_X7_rest_91, ↓E_X7_rest_92, ↓E_X7_rest_93, ↓E_X7_rest_96, ↓E_X7_rest_99, ↓E_X7_rest_100, ↓E_X7_rest_101, ↓E_X7_rest_102, ↓E_X7_rest_104, ↓E_X7_rest_107, ↓E_X7_rest_108, ↓E_X7_rest_111, ↓E_X7_rest_115, ↓E_X7_rest_118, ↓E_X7_rest_120, ↓E_X7_rest_121, ↓E_X7_rest_123, ↓E_X7_rest_127, ↓E_X7_rest_130, ↓E_X7_rest_131, ↓E_X7_rest_132, ↓E_X7_rest_133, ↓E_X7_rest_135, ↓E_X7_rest_138, ↓E_X7_rest_141, ↓E_X7_rest_142, ↓E_X7_rest_144, ↓E_X7_rest_147, ↓E_X7_rest_149, ↓E_X7_rest_150, ↓E_X7_rest_153, ↓E_X7_rest_154, ↓E_X7_rest_155, ↓E_X7_rest_156, ↓E_X7_rest_158, ↓E_X7_rest_161, ↓E_X7_rest_162, ↓E_X7_rest_163, ↓E_X7_rest_164, ↓E_X7_rest_166, ↓E_X7_rest_169, ↓E_X7_rest_172, ↓E_X7_rest_175, ↓E_X7_rest_176, if_neg n1, if_neg n2, if_neg n3, if_pos n4, c1, f1]
    rfl
  rw [if_neg e1]
  have e1t := eq_true_of_ne_false e1
  have l1 := dgB_lt e1
  rw [e1t] at c1
  simp only [if_true, Bool.not_true] at c1
  have c2 := fun q => m_number (d := d) (F := false) (p := i + 1) (q := q) ok hT l1
  simp only [if_neg (show ¬ false = true by decide), Bool.false_or] at c2
  by_cases e2 : dgB l (i + 1) = false
  · rw [if_pos e2]
    rw [e2, nmP_f e2] at c2
    refine ⟨nI (l.getD i 0 - 48), nI (nmV l 2 (i + 1)), fun q => ?_, fun c hc => by cases hc⟩
    simp (disch := omega) only [true_and, and_true, and_self, exists_eq_left, Option.toList_some, Option.toList_none, List.cons_append, List.nil_append, List.append_nil, i2_i, i2_r, i2_n, nz0, nz1, true_or, or_true, Nat.reduceAdd, Nat.le_refl, Nat.reduceLT, Nat.reduceLeDiff, ↓E_X7_rest_0, ↓E_X7_rest_1, ↓E_X7_rest_3, ↓E_X7_rest_7, ↓E_X7_rest_10, ↓E_X7_rest_11, ↓E_X7_rest_12, ↓E_X7_rest_14, ↓E_X7_rest_16, ↓E_X7_rest_19, ↓E_X7_rest_20, ↓E_X7_rest_21, ↓E_X7_rest_24, ↓E_X7_rest_26, ↓E_X7_rest_27, ↓E_X7_rest_29, ↓E_X7_rest_31, ↓E_X7_rest_34, ↓E_X7_rest_35, ↓E_X7_rest_36, ↓E_X7_rest_39, ↓E_X7_rest_41, ↓E_X7_rest_42, ↓E_X7_rest_45, ↓E_X7_rest_46, ↓E_X7_rest_47, ↓E_X7_rest_49, ↓E_X7_rest_51, ↓E_X7_rest_54, ↓E_X7_rest_57, ↓E_X7_rest_58, ↓E_X7_rest_59, ↓E_X7_rest_60, ↓E_X7_rest_63, ↓E_X7_rest_64, ↓E_X7_rest_65, ↓E_X7_rest_67, ↓E_X7_rest_70, ↓E_X7_rest_71, ↓E_X7_rest_73, ↓E_X7_rest_77, ↓E_X7_rest_80, ↓E_X7_rest_81, ↓E_X7_rest_82, ↓E_X7_rest_84, ↓E_X7_rest_87, ↓E_X7_rest_88, ↓E_X7_rest_91, ↓E_X7_rest_92, ↓E_X7_rest_93, ↓E_X7_rest_96, ↓E_X7_rest_99, ↓E_X7_rest_100, ↓E_X7_rest_101, ↓E_X7_rest_102, ↓E_X7_rest_104, ↓E_X7_rest_107, ↓E_X7_rest_108, ↓E_X7_rest_111, ↓E_X7_rest_115, ↓E_X7_rest_118, ↓E_X7_rest_120, ↓E_X7_rest_121, ↓E_X7_rest_123, ↓E_X7_rest_127, ↓E_X7_rest_130, ↓E_X7_rest_131, ↓E_X7_rest_132, ↓E_X7_rest_133, ↓E_X7_rest_135, ↓E_X7_rest_138, ↓E_X7_rest_141, ↓E_X7_rest_142, ↓E_X7_rest_144, ↓E_X7_rest_147, ↓E_X7_rest_149, ↓E_X7_rest_150, ↓E_X7_rest_153, ↓E_X7_rest_154, ↓E_X7_rest_155, ↓E_X7_rest_156, ↓E_X7_rest_158, ↓E_X7_rest_161, ↓E_X7_rest_162, ↓E_X7_rest_163, ↓E_X7_rest_164, ↓E_X7_rest_166, ↓E_X7_rest_169, ↓E_X7_rest_172, ↓E_X7_rest_175, ↓E_X7_rest_176, if_neg n1, if_neg n2, if_neg n3, if_pos n4, c1, c2]
    rfl
  rw [if_neg e2]
  have e2t := eq_true_of_ne_false e2
  rw [e2t] at c2
  refine ⟨nI (l.getD i 0 - 48), nI (nmV l 2 (i + 1)), fun q => ?_, fun c hc => ?_⟩
  · simp (disch := omega) only [true_and, and_true, and_self, exists_eq_left, Option.toList_some, Option.toList_none, List.cons_append, List.nil_append, List.append_nil, i2_i, i2_r, i2_n, nz0, nz1, true_or, or_true, Nat.reduceAdd, Nat.le_refl, Nat.reduceLT, Nat.reduceLeDiff, ↓E_X7_rest_0, ↓E_X7_rest_1, ↓E_X7_rest_3, ↓E_X7_rest_7, ↓E_X7_rest_10, ↓E_X7_rest_11, ↓E_X7_rest_12, ↓E_X7_rest_14, ↓E_X7_rest_16, ↓E_X7_rest_19, ↓E_X7_rest_20, ↓E_X7_rest_21, ↓E_X7_rest_24, ↓E_X7_rest_26, ↓E_X7_rest_27, ↓E_X7_rest_29, ↓E_X7_rest_31, ↓E_X7_rest_34, ↓E_X7_rest_35, ↓E_X7_rest_36, ↓E_X7_rest_39, ↓E_X7_rest_41, ↓E_X7_rest_42, ↓E_X7_rest_45, ↓E_X7_rest_46, ↓E_X7_rest_47, ↓E_X7_rest_49, ↓E_X7_rest_51, ↓E_X7_rest_54, ↓E_X7_rest_57, ↓E_X7_rest_58, ↓E_X7_rest_59, ↓E_X7_rest_60, ↓E_X7_rest_63, ↓E_X7_rest_64, ↓E_X7_rest_65, ↓E_X7_rest_67, ↓E_X7_rest_70, ↓E_X7_rest_71, ↓E_X7_rest_73, ↓E_X7_rest_77, ↓E_X7_rest_80, ↓E_X7_rest_81, ↓E_X7_rest_82, ↓E_X7_rest_84, ↓E_X7_rest_87, ↓E_X7_rest_88, ↓E_X7_rest_91, ↓E_X7_rest_92, ↓E_X7_rest_93, ↓E_X7_rest_96, ↓E_X7_rest_99, ↓E_X7_rest_100, ↓E_X7_rest_101, ↓E_X7_rest_102, ↓E_X7_rest_104, ↓E_X7_rest_107, ↓E_X7_rest_108, ↓E_X7_rest_111, ↓E_X7_rest_115, ↓E_X7_rest_118, ↓E_X7_rest_120, ↓E_X7_rest_121, ↓E_X7_rest_123, ↓E_X7_rest_127, ↓E_X7_rest_130, ↓E_X7_rest_131, ↓E_X7_rest_132, ↓E_X7_rest_133, ↓E_X7_rest_135, ↓E_X7_rest_138, ↓E_X7_rest_141, ↓E_X7_rest_142, ↓E_X7_rest_144, ↓E_X7_rest_147, ↓E_X7_rest_149, ↓E_X7_rest_150, ↓E_X7_rest_153, ↓E_X7_rest_154, ↓E_X7_rest_155, ↓E_X7_rest_156, ↓E_X7_rest_158, ↓E_X7_rest_161, ↓E_X7_rest_162, ↓E_X7_rest_163, ↓E_X7_rest_164, ↓E_X7_rest_166, ↓E_X7_rest_169, ↓E_X7_rest_172, ↓E_X7_rest_175, ↓E_X7_rest_176, if_neg n1, if_neg n2, if_neg n3, if_pos n4, c1, c2]
    rfl
  · cases hc
    rw [nm1V e1]
    exact ⟨rfl, rfl⟩
set_option maxHeartbeats 4000000 in
theorem r_m {d i c9 : Nat} {b : Int32} {σ : mx_S} {l : List Nat} (hc9 : c9 = 109 ∨ c9 = 97) (ok : okL l) (hT : txM2 l σ) (hi : i ≤ l.length) : ∃ v1 : Int32, (∀ q, mx_run (d + 4) m_X7_rest 0 [some (.ref 88), some (.int (nI c9)), some (.int b), none, none, none] [] (ps σ i false) q ↔ mx_run (d + 4) m_X7_rest 76 [some (.ref 88), some (.int (nI c9)), some (.int b), some (.int v1), none, none] [] (ps σ (tkM l c9 i).2 (ocF (tkM l c9 i))) q) ∧ ∀ c, (tkM l c9 i).1 = some c → v1 = nI c.2.1 := by
  have n1 : ¬ nI c9 = (106 : Int32) := by rcases hc9 with rfl | rfl <;> decide
  have go : ∀ {A B : Prop}, (if nI c9 = (109 : Int32) then A else if nI c9 = (97 : Int32) then A else B) = A := by
    intro A B
    rcases hc9 with rfl | rfl
    · rw [if_pos (by decide)]
    · rw [if_neg (by decide), if_pos (by decide)]
  have c1 := fun q => m_digit (d := d + 1) (F := false) (p := i) (q := q) ok hT hi
  simp only [Bool.not_false, Bool.true_and, Bool.false_or] at c1
  unfold tkM
  by_cases e1 : dgB l i = false
  · rw [if_pos e1]
    rw [e1] at c1
    simp only [if_neg (show ¬ false = true by decide), Bool.not_false] at c1
    refine ⟨nI 0, fun q => ?_, fun c hc => by cases hc⟩
    simp (disch := omega) only [true_and, and_true, and_self, exists_eq_left, Option.toList_some, Option.toList_none, List.cons_append, List.nil_append, List.append_nil, i2_i, i2_r, i2_n, nz0, nz1, true_or, or_true, Nat.reduceAdd, Nat.le_refl, Nat.reduceLT, Nat.reduceLeDiff, ↓E_X7_rest_0, ↓E_X7_rest_1, ↓E_X7_rest_3, ↓E_X7_rest_7, ↓E_X7_rest_10, ↓E_X7_rest_11, ↓E_X7_rest_12, ↓E_X7_rest_14, ↓E_X7_rest_16, ↓E_X7_rest_19, ↓E_X7_rest_20, ↓E_X7_rest_21, ↓E_X7_rest_24, ↓E_X7_rest_26, ↓E_X7_rest_27, ↓E_X7_rest_29, ↓E_X7_rest_31, ↓E_X7_rest_34, ↓E_X7_rest_35, ↓E_X7_rest_36, ↓E_X7_rest_39, ↓E_X7_rest_41, ↓E_X7_rest_42, ↓E_X7_rest_45, ↓E_X7_rest_46, ↓E_X7_rest_47, ↓E_X7_rest_49, ↓E_X7_rest_51, ↓E_X7_rest_54, ↓E_X7_rest_57, ↓E_X7_rest_58, ↓E_X7_rest_59, ↓E_X7_rest_60, ↓E_X7_rest_63, ↓E_X7_rest_64, ↓E_X7_rest_65, ↓E_X7_rest_67, ↓E_X7_rest_70, ↓E_X7_rest_71, ↓E_X7_rest_73, ↓E_X7_rest_77, ↓E_X7_rest_80, ↓E_X7_rest_81, ↓E_X7_rest_82, ↓E_X7_rest_84, ↓E_X7_rest_87, ↓E_X7_rest_88, ↓E_X7_rest_91, ↓E_X7_rest_92, ↓E_X7_rest_93, ↓E_X7_rest_96, ↓E_X7_rest_99, ↓E_X7_rest_100, ↓E_X7_rest_102, ↓E_X7_rest_104, ↓E_X7_rest_107, ↓E_X7_rest_108, ↓E_X7_rest_111, ↓E_X7_rest_114, ↓E_X7_rest_115, ↓E_X7_rest_118, ↓E_X7_rest_120, ↓E_X7_rest_121, ↓E_X7_rest_123, ↓E_X7_rest_126, ↓E_X7_rest_127, ↓E_X7_rest_130, ↓E_X7_rest_131, ↓E_X7_rest_132, ↓E_X7_rest_133, ↓E_X7_rest_135, ↓E_X7_rest_138, ↓E_X7_rest_141, ↓E_X7_rest_142, ↓E_X7_rest_143, ↓E_X7_rest_144, ↓E_X7_rest_147, ↓E_X7_rest_149, ↓E_X7_rest_150, ↓E_X7_rest_153, ↓E_X7_rest_154, ↓E_X7_rest_155, ↓E_X7_rest_156, ↓E_X7_rest_158, ↓E_X7_rest_161, ↓E_X7_rest_162, ↓E_X7_rest_163, ↓E_X7_rest_164, ↓E_X7_rest_166, ↓E_X7_rest_169, ↓E_X7_rest_172, ↓E_X7_rest_175, ↓E_X7_rest_176, if_neg n1, go, c1]
    rfl
  rw [if_neg e1]
  have e1t := eq_true_of_ne_false e1
  rw [e1t] at c1
  simp only [if_true, Bool.not_true] at c1
  refine ⟨nI (l.getD i 0 - 48), fun q => ?_, fun c hc => ?_⟩
  · simp (disch := omega) only [true_and, and_true, and_self, exists_eq_left, Option.toList_some, Option.toList_none, List.cons_append, List.nil_append, List.append_nil, i2_i, i2_r, i2_n, nz0, nz1, true_or, or_true, Nat.reduceAdd, Nat.le_refl, Nat.reduceLT, Nat.reduceLeDiff, ↓E_X7_rest_0, ↓E_X7_rest_1, ↓E_X7_rest_3, ↓E_X7_rest_7, ↓E_X7_rest_10, ↓E_X7_rest_11, ↓E_X7_rest_12, ↓E_X7_rest_14, ↓E_X7_rest_16, ↓E_X7_rest_19, ↓E_X7_rest_20, ↓E_X7_rest_21, ↓E_X7_rest_24, ↓E_X7_rest_26, ↓E_X7_rest_27, ↓E_X7_rest_29, ↓E_X7_rest_31, ↓E_X7_rest_34, ↓E_X7_rest_35, ↓E_X7_rest_36, ↓E_X7_rest_39, ↓E_X7_rest_41, ↓E_X7_rest_42, ↓E_X7_rest_45, ↓E_X7_rest_46, ↓E_X7_rest_47, ↓E_X7_rest_49, ↓E_X7_rest_51, ↓E_X7_rest_54, ↓E_X7_rest_57, ↓E_X7_rest_58, ↓E_X7_rest_59, ↓E_X7_rest_60, ↓E_X7_rest_63, ↓E_X7_rest_64, ↓E_X7_rest_65, ↓E_X7_rest_67, ↓E_X7_rest_70, ↓E_X7_rest_71, ↓E_X7_rest_73, ↓E_X7_rest_77, ↓E_X7_rest_80, ↓E_X7_rest_81, ↓E_X7_rest_82, ↓E_X7_rest_84, ↓E_X7_rest_87, ↓E_X7_rest_88, ↓E_X7_rest_91, ↓E_X7_rest_92, ↓E_X7_rest_93, ↓E_X7_rest_96, ↓E_X7_rest_99, ↓E_X7_rest_100, ↓E_X7_rest_102, ↓E_X7_rest_104, ↓E_X7_rest_107, ↓E_X7_rest_108, ↓E_X7_rest_111, ↓E_X7_rest_114, ↓E_X7_rest_115, ↓E_X7_rest_118, ↓E_X7_rest_120, ↓E_X7_rest_121, ↓E_X7_rest_123, ↓E_X7_rest_126, ↓E_X7_rest_127, ↓E_X7_rest_130, ↓E_X7_rest_131, ↓E_X7_rest_132, ↓E_X7_rest_133, ↓E_X7_rest_135, ↓E_X7_rest_138, ↓E_X7_rest_141, ↓E_X7_rest_142, ↓E_X7_rest_143, ↓E_X7_rest_144, ↓E_X7_rest_147, ↓E_X7_rest_149, ↓E_X7_rest_150, ↓E_X7_rest_153, ↓E_X7_rest_154, ↓E_X7_rest_155, ↓E_X7_rest_156, ↓E_X7_rest_158, ↓E_X7_rest_161, ↓E_X7_rest_162, ↓E_X7_rest_163, ↓E_X7_rest_164, ↓E_X7_rest_166, ↓E_X7_rest_169, ↓E_X7_rest_172, ↓E_X7_rest_175, ↓E_X7_rest_176, if_neg n1, go, c1]
    rfl
  · cases hc
    rw [nm1V e1]
