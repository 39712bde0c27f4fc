/-! ===== the reference: told ===== -/
set_option maxHeartbeats 4000000 in
theorem m_toldJ {d : Nat} {σ : mx_S} {w : Vw} {x : Int32} (hw : vwM w σ) (hj : w.1.jn ≠ 0) (h0 : ¬ x = 0) (h1 : ¬ x = 1) (h2 : ¬ x = 2) (hx : ibI x 13 = true) : ∃ σ', mx_run (d + 5) m_X7_told 29 [some (.ref 88), some (.int x)] [.int x] σ (some (.long (F_told w x)), σ') ∧ scM σ σ' := by
  obtain ⟨S1, S2, S3, S4, S5⟩ := vwM_now hw
  have ok := hw.1.1
  have hn := ok.1
  have hV := okV_of ok.2.2.2.1
  generalize hF : F_told w x = R
  unfold F_told NO at hF
  simp only [if_neg h0, if_neg h1, if_neg h2, if_neg hj] at hF
  simp only [E_X7_told_29, if_neg h0, if_neg h1, if_neg h2]
  by_cases h3 : x = 3
  · simp only [if_pos h3] at hF ⊢
    obtain ⟨σ1, c1, sc⟩ := m_now (d := d + 1) hw hj
    simp (disch := omega) only [true_and, and_true, and_self, exists_eq_left, Option.toList_some, Option.toList_none, List.cons_append, List.nil_append, List.append_nil, i2_i, i2_r, i2_n, nz0, nz1, true_or, or_true, Nat.reduceAdd, Nat.le_refl, Nat.reduceLT, Nat.reduceLeDiff, ↓E_X7_told_0, ↓E_X7_told_1, ↓E_X7_told_2, ↓E_X7_told_3, ↓E_X7_told_6, ↓E_X7_told_9, ↓E_X7_told_12, ↓E_X7_told_13, ↓E_X7_told_14, ↓E_X7_told_17, ↓E_X7_told_18, ↓E_X7_told_21, ↓E_X7_told_24, ↓E_X7_told_27, ↓E_X7_told_28, ↓E_X7_told_29, ↓E_X7_told_92, ↓E_X7_told_93, ↓E_X7_told_96, ↓E_X7_told_97, ↓E_X7_told_98, ↓E_X7_told_99, ↓E_X7_told_102, ↓E_X7_told_103, ↓E_X7_told_104, ↓E_X7_told_105, ↓E_X7_told_108, ↓E_X7_told_109, ↓E_X7_told_110, ↓E_X7_told_111, ↓E_X7_told_114, ↓E_X7_told_115, ↓E_X7_told_116, ↓E_X7_told_117, ↓E_X7_told_118, ↓E_X7_told_121, ↓E_X7_told_122, ↓E_X7_told_125, ↓E_X7_told_126, ↓E_X7_told_129, ↓E_X7_told_130, ↓E_X7_told_131, ↓E_X7_told_132, ↓E_X7_told_133, ↓E_X7_told_136, ↓E_X7_told_137, ↓E_X7_told_138, ↓E_X7_told_139, ↓E_X7_told_142, ↓E_X7_told_143, ↓E_X7_told_144, ↓E_X7_told_145, ↓E_X7_told_148, ↓E_X7_told_149, ↓E_X7_told_150, ↓E_X7_told_151, ↓E_X7_told_154, ↓E_X7_told_155, ↓E_X7_told_158, ↓E_X7_told_159, ↓E_X7_told_160, ↓E_X7_told_161, ↓E_X7_told_164, ↓E_X7_told_165, ↓E_X7_told_166, ↓E_X7_told_167, ↓E_X7_told_170, ↓E_X7_told_171, ↓E_X7_told_172, ↓E_X7_told_173, ↓E_X7_told_174, ↓E_X7_told_177, ↓E_X7_told_178, ↓E_X7_told_179, ↓E_X7_told_180, ↓E_X7_told_181, ↓E_X7_told_184, ↓E_X7_told_185, ↓E_X7_told_186, ↓E_X7_told_187, ↓E_X7_told_188, ↓E_X7_told_191, ↓E_X7_told_194, ↓E_X7_told_195, ↓E_X7_told_198, ↓E_X7_told_199, ↓E_X7_told_200, ↓E_X7_told_201, ↓E_X7_told_204, ↓E_X7_told_205, ↓E_X7_told_206, ↓E_X7_told_207, ↓E_X7_told_210, ↓E_X7_told_211, c1]
    subst hF
    exact ⟨σ1, rfl, sc⟩
  by_cases h4 : x = 4
  · simp only [if_neg h3, if_pos h4] at hF ⊢
    obtain ⟨σ1, c1, sc, -⟩ := m_cost1 (d := d + 2) (a := 90) (md := w.1.md) (am := 0) (O := w.1.O) hw hj (Or.inl rfl) ok.2.1 (by omega) ok.2.2.2.2.1 S5
    have c1' : ∀ q, mx_call (d + 5) m_X7_costOf [.ref 88, .ref 90, .int (nI w.1.md), .int 0] σ q ↔ q = (some (.int (iN (CST w.1.V w.1.md 0 w.1.O w.1.jn))), σ1) := c1
    simp (disch := omega) only [true_and, and_true, and_self, exists_eq_left, Option.toList_some, Option.toList_none, List.cons_append, List.nil_append, List.append_nil, i2_i, i2_r, i2_n, nz0, nz1, true_or, or_true, Nat.reduceAdd, Nat.le_refl, Nat.reduceLT, Nat.reduceLeDiff, ↓E_X7_told_0, ↓E_X7_told_1, ↓E_X7_told_2, ↓E_X7_told_3, ↓E_X7_told_6, ↓E_X7_told_9, ↓E_X7_told_12, ↓E_X7_told_13, ↓E_X7_told_14, ↓E_X7_told_17, ↓E_X7_told_18, ↓E_X7_told_21, ↓E_X7_told_24, ↓E_X7_told_27, ↓E_X7_told_28, ↓E_X7_told_29, ↓E_X7_told_92, ↓E_X7_told_93, ↓E_X7_told_96, ↓E_X7_told_97, ↓E_X7_told_98, ↓E_X7_told_99, ↓E_X7_told_102, ↓E_X7_told_103, ↓E_X7_told_104, ↓E_X7_told_105, ↓E_X7_told_108, ↓E_X7_told_109, ↓E_X7_told_110, ↓E_X7_told_111, ↓E_X7_told_114, ↓E_X7_told_115, ↓E_X7_told_116, ↓E_X7_told_117, ↓E_X7_told_118, ↓E_X7_told_121, ↓E_X7_told_122, ↓E_X7_told_125, ↓E_X7_told_126, ↓E_X7_told_129, ↓E_X7_told_130, ↓E_X7_told_131, ↓E_X7_told_132, ↓E_X7_told_133, ↓E_X7_told_136, ↓E_X7_told_137, ↓E_X7_told_138, ↓E_X7_told_139, ↓E_X7_told_142, ↓E_X7_told_143, ↓E_X7_told_144, ↓E_X7_told_145, ↓E_X7_told_148, ↓E_X7_told_149, ↓E_X7_told_150, ↓E_X7_told_151, ↓E_X7_told_154, ↓E_X7_told_155, ↓E_X7_told_158, ↓E_X7_told_159, ↓E_X7_told_160, ↓E_X7_told_161, ↓E_X7_told_164, ↓E_X7_told_165, ↓E_X7_told_166, ↓E_X7_told_167, ↓E_X7_told_170, ↓E_X7_told_171, ↓E_X7_told_172, ↓E_X7_told_173, ↓E_X7_told_174, ↓E_X7_told_177, ↓E_X7_told_178, ↓E_X7_told_179, ↓E_X7_told_180, ↓E_X7_told_181, ↓E_X7_told_184, ↓E_X7_told_185, ↓E_X7_told_186, ↓E_X7_told_187, ↓E_X7_told_188, ↓E_X7_told_191, ↓E_X7_told_194, ↓E_X7_told_195, ↓E_X7_told_198, ↓E_X7_told_199, ↓E_X7_told_200, ↓E_X7_told_201, ↓E_X7_told_204, ↓E_X7_told_205, ↓E_X7_told_206, ↓E_X7_told_207, ↓E_X7_told_210, ↓E_X7_told_211, S2, c1']
    subst hF
    exact ⟨σ1, rfl, sc⟩
  by_cases h5 : x = 5
  · simp only [if_neg h3, if_neg h4, if_pos h5] at hF ⊢
    have c0 : ∀ q, mx_call (d + 5) m_X7_together [.ref 88, .int 0] σ q ↔ q = (some (.int (nI (smV (fun j => w.1.V j 0) w.1.jn))), σ) := fun q => m_together (k := 0) hn (by omega) S1 S4
    have c2 : ∀ q, mx_call (d + 5) m_X7_together [.ref 88, .int 2] σ q ↔ q = (some (.int (nI (smV (fun j => w.1.V j 2) w.1.jn))), σ) := fun q => m_together (k := 2) hn (by omega) S1 S4
    have c12 : ∀ q, mx_call (d + 5) m_X7_lowestOf [.ref 88, .int 1, .int 2] σ q ↔ q = (some (.int (nI (mnV (fun j => w.1.V j 1 + w.1.V j 2) w.1.jn))), σ) := fun q => m_lowest2 (k := 1) (l := 2) hn (by omega) (by omega) hV S1 S4
    have c01 : ∀ q, mx_call (d + 5) m_X7_lowestOf [.ref 88, .int 0, .int 1] σ q ↔ q = (some (.int (nI (mnV (fun j => w.1.V j 0 + w.1.V j 1) w.1.jn))), σ) := fun q => m_lowest2 (k := 0) (l := 1) hn (by omega) (by omega) hV S1 S4
    have b1 := smV_le (g := fun j => w.1.V j 0) (B := 99) w.1.jn (fun j hj => hV j 0 hj (by omega))
    have b2 := smV_le (g := fun j => w.1.V j 2) (B := 99) w.1.jn (fun j hj => hV j 2 hj (by omega))
    have b3 := mnV_le (g := fun j => w.1.V j 1 + w.1.V j 2) w.1.jn
    have b4 := mnV_le (g := fun j => w.1.V j 0 + w.1.V j 1) w.1.jn
    simp (disch := omega) only [true_and, and_true, and_self, exists_eq_left, Option.toList_some, Option.toList_none, List.cons_append, List.nil_append, List.append_nil, i2_i, i2_r, i2_n, nz0, nz1, true_or, or_true, Nat.reduceAdd, Nat.le_refl, Nat.reduceLT, Nat.reduceLeDiff, ↓E_X7_told_0, ↓E_X7_told_1, ↓E_X7_told_2, ↓E_X7_told_3, ↓E_X7_told_6, ↓E_X7_told_9, ↓E_X7_told_12, ↓E_X7_told_13, ↓E_X7_told_14, ↓E_X7_told_17, ↓E_X7_told_18, ↓E_X7_told_21, ↓E_X7_told_24, ↓E_X7_told_27, ↓E_X7_told_28, ↓E_X7_told_29, ↓E_X7_told_92, ↓E_X7_told_93, ↓E_X7_told_96, ↓E_X7_told_97, ↓E_X7_told_98, ↓E_X7_told_99, ↓E_X7_told_102, ↓E_X7_told_103, ↓E_X7_told_104, ↓E_X7_told_105, ↓E_X7_told_108, ↓E_X7_told_109, ↓E_X7_told_110, ↓E_X7_told_111, ↓E_X7_told_114, ↓E_X7_told_115, ↓E_X7_told_116, ↓E_X7_told_117, ↓E_X7_told_118, ↓E_X7_told_121, ↓E_X7_told_122, ↓E_X7_told_125, ↓E_X7_told_126, ↓E_X7_told_129, ↓E_X7_told_130, ↓E_X7_told_131, ↓E_X7_told_132, ↓E_X7_told_133, ↓E_X7_told_136, ↓E_X7_told_137, ↓E_X7_told_138, ↓E_X7_told_139, ↓E_X7_told_142, ↓E_X7_told_143, ↓E_X7_told_144, ↓E_X7_told_145, ↓E_X7_told_148, ↓E_X7_told_149, ↓E_X7_told_150, ↓E_X7_told_151, ↓E_X7_told_154, ↓E_X7_told_155, ↓E_X7_told_158, ↓E_X7_told_159, ↓E_X7_told_160, ↓E_X7_told_161, ↓E_X7_told_164, ↓E_X7_told_165, ↓E_X7_told_166, ↓E_X7_told_167, ↓E_X7_told_170, ↓E_X7_told_171, ↓E_X7_told_172, ↓E_X7_told_173, ↓E_X7_told_174, ↓E_X7_told_177, ↓E_X7_told_178, ↓E_X7_told_179, ↓E_X7_told_180, ↓E_X7_told_181, ↓E_X7_told_184, ↓E_X7_told_185, ↓E_X7_told_186, ↓E_X7_told_187, ↓E_X7_told_188, ↓E_X7_told_191, ↓E_X7_told_194, ↓E_X7_told_195, ↓E_X7_told_198, ↓E_X7_told_199, ↓E_X7_told_200, ↓E_X7_told_201, ↓E_X7_told_204, ↓E_X7_told_205, ↓E_X7_told_206, ↓E_X7_told_207, ↓E_X7_told_210, ↓E_X7_told_211, c0, c2, c12, c01, nI_add, nI_max]
    subst hF
    exact ⟨σ, rfl, scM.rf⟩
  by_cases h6 : x = 6
  · simp only [if_neg h3, if_neg h4, if_neg h5, if_pos h6] at hF ⊢
    obtain ⟨σ1, c1, sc⟩ := m_waited (d := d + 1) hw hj
    simp (disch := omega) only [true_and, and_true, and_self, exists_eq_left, Option.toList_some, Option.toList_none, List.cons_append, List.nil_append, List.append_nil, i2_i, i2_r, i2_n, nz0, nz1, true_or, or_true, Nat.reduceAdd, Nat.le_refl, Nat.reduceLT, Nat.reduceLeDiff, ↓E_X7_told_0, ↓E_X7_told_1, ↓E_X7_told_2, ↓E_X7_told_3, ↓E_X7_told_6, ↓E_X7_told_9, ↓E_X7_told_12, ↓E_X7_told_13, ↓E_X7_told_14, ↓E_X7_told_17, ↓E_X7_told_18, ↓E_X7_told_21, ↓E_X7_told_24, ↓E_X7_told_27, ↓E_X7_told_28, ↓E_X7_told_29, ↓E_X7_told_92, ↓E_X7_told_93, ↓E_X7_told_96, ↓E_X7_told_97, ↓E_X7_told_98, ↓E_X7_told_99, ↓E_X7_told_102, ↓E_X7_told_103, ↓E_X7_told_104, ↓E_X7_told_105, ↓E_X7_told_108, ↓E_X7_told_109, ↓E_X7_told_110, ↓E_X7_told_111, ↓E_X7_told_114, ↓E_X7_told_115, ↓E_X7_told_116, ↓E_X7_told_117, ↓E_X7_told_118, ↓E_X7_told_121, ↓E_X7_told_122, ↓E_X7_told_125, ↓E_X7_told_126, ↓E_X7_told_129, ↓E_X7_told_130, ↓E_X7_told_131, ↓E_X7_told_132, ↓E_X7_told_133, ↓E_X7_told_136, ↓E_X7_told_137, ↓E_X7_told_138, ↓E_X7_told_139, ↓E_X7_told_142, ↓E_X7_told_143, ↓E_X7_told_144, ↓E_X7_told_145, ↓E_X7_told_148, ↓E_X7_told_149, ↓E_X7_told_150, ↓E_X7_told_151, ↓E_X7_told_154, ↓E_X7_told_155, ↓E_X7_told_158, ↓E_X7_told_159, ↓E_X7_told_160, ↓E_X7_told_161, ↓E_X7_told_164, ↓E_X7_told_165, ↓E_X7_told_166, ↓E_X7_told_167, ↓E_X7_told_170, ↓E_X7_told_171, ↓E_X7_told_172, ↓E_X7_told_173, ↓E_X7_told_174, ↓E_X7_told_177, ↓E_X7_told_178, ↓E_X7_told_179, ↓E_X7_told_180, ↓E_X7_told_181, ↓E_X7_told_184, ↓E_X7_told_185, ↓E_X7_told_186, ↓E_X7_told_187, ↓E_X7_told_188, ↓E_X7_told_191, ↓E_X7_told_194, ↓E_X7_told_195, ↓E_X7_told_198, ↓E_X7_told_199, ↓E_X7_told_200, ↓E_X7_told_201, ↓E_X7_told_204, ↓E_X7_told_205, ↓E_X7_told_206, ↓E_X7_told_207, ↓E_X7_told_210, ↓E_X7_told_211, c1]
    subst hF
    exact ⟨σ1, rfl, sc⟩
  by_cases h7 : x = 7
  · simp only [if_neg h3, if_neg h4, if_neg h5, if_neg h6, if_pos h7] at hF ⊢
    obtain ⟨σ1, c1, sc⟩ := m_turn (d := d + 2) hw hj
    simp (disch := omega) only [true_and, and_true, and_self, exists_eq_left, Option.toList_some, Option.toList_none, List.cons_append, List.nil_append, List.append_nil, i2_i, i2_r, i2_n, nz0, nz1, true_or, or_true, Nat.reduceAdd, Nat.le_refl, Nat.reduceLT, Nat.reduceLeDiff, ↓E_X7_told_0, ↓E_X7_told_1, ↓E_X7_told_2, ↓E_X7_told_3, ↓E_X7_told_6, ↓E_X7_told_9, ↓E_X7_told_12, ↓E_X7_told_13, ↓E_X7_told_14, ↓E_X7_told_17, ↓E_X7_told_18, ↓E_X7_told_21, ↓E_X7_told_24, ↓E_X7_told_27, ↓E_X7_told_28, ↓E_X7_told_29, ↓E_X7_told_92, ↓E_X7_told_93, ↓E_X7_told_96, ↓E_X7_told_97, ↓E_X7_told_98, ↓E_X7_told_99, ↓E_X7_told_102, ↓E_X7_told_103, ↓E_X7_told_104, ↓E_X7_told_105, ↓E_X7_told_108, ↓E_X7_told_109, ↓E_X7_told_110, ↓E_X7_told_111, ↓E_X7_told_114, ↓E_X7_told_115, ↓E_X7_told_116, ↓E_X7_told_117, ↓E_X7_told_118, ↓E_X7_told_121, ↓E_X7_told_122, ↓E_X7_told_125, ↓E_X7_told_126, ↓E_X7_told_129, ↓E_X7_told_130, ↓E_X7_told_131, ↓E_X7_told_132, ↓E_X7_told_133, ↓E_X7_told_136, ↓E_X7_told_137, ↓E_X7_told_138, ↓E_X7_told_139, ↓E_X7_told_142, ↓E_X7_told_143, ↓E_X7_told_144, ↓E_X7_told_145, ↓E_X7_told_148, ↓E_X7_told_149, ↓E_X7_told_150, ↓E_X7_told_151, ↓E_X7_told_154, ↓E_X7_told_155, ↓E_X7_told_158, ↓E_X7_told_159, ↓E_X7_told_160, ↓E_X7_told_161, ↓E_X7_told_164, ↓E_X7_told_165, ↓E_X7_told_166, ↓E_X7_told_167, ↓E_X7_told_170, ↓E_X7_told_171, ↓E_X7_told_172, ↓E_X7_told_173, ↓E_X7_told_174, ↓E_X7_told_177, ↓E_X7_told_178, ↓E_X7_told_179, ↓E_X7_told_180, ↓E_X7_told_181, ↓E_X7_told_184, ↓E_X7_told_185, ↓E_X7_told_186, ↓E_X7_told_187, ↓E_X7_told_188, ↓E_X7_told_191, ↓E_X7_told_194, ↓E_X7_told_195, ↓E_X7_told_198, ↓E_X7_told_199, ↓E_X7_told_200, ↓E_X7_told_201, ↓E_X7_told_204, ↓E_X7_told_205, ↓E_X7_told_206, ↓E_X7_told_207, ↓E_X7_told_210, ↓E_X7_told_211, c1]
    subst hF
    exact ⟨σ1, rfl, sc⟩
  by_cases h8 : x = 8
  · simp only [if_neg h3, if_neg h4, if_neg h5, if_neg h6, if_neg h7, if_pos h8] at hF ⊢
    obtain ⟨σ1, c1, sc⟩ := m_exch (d := d) (ls := true) hw hj
    have c1' : ∀ q, mx_call (d + 5) m_X7_exchanges [.ref 88, .int (-1)] σ q ↔ q = (some (.int (nI (cnt (XB w true) (w.1.jn - 1)))), σ1) := c1
    simp (disch := omega) only [true_and, and_true, and_self, exists_eq_left, Option.toList_some, Option.toList_none, List.cons_append, List.nil_append, List.append_nil, i2_i, i2_r, i2_n, nz0, nz1, true_or, or_true, Nat.reduceAdd, Nat.le_refl, Nat.reduceLT, Nat.reduceLeDiff, ↓E_X7_told_0, ↓E_X7_told_1, ↓E_X7_told_2, ↓E_X7_told_3, ↓E_X7_told_6, ↓E_X7_told_9, ↓E_X7_told_12, ↓E_X7_told_13, ↓E_X7_told_14, ↓E_X7_told_17, ↓E_X7_told_18, ↓E_X7_told_21, ↓E_X7_told_24, ↓E_X7_told_27, ↓E_X7_told_28, ↓E_X7_told_29, ↓E_X7_told_92, ↓E_X7_told_93, ↓E_X7_told_96, ↓E_X7_told_97, ↓E_X7_told_98, ↓E_X7_told_99, ↓E_X7_told_102, ↓E_X7_told_103, ↓E_X7_told_104, ↓E_X7_told_105, ↓E_X7_told_108, ↓E_X7_told_109, ↓E_X7_told_110, ↓E_X7_told_111, ↓E_X7_told_114, ↓E_X7_told_115, ↓E_X7_told_116, ↓E_X7_told_117, ↓E_X7_told_118, ↓E_X7_told_121, ↓E_X7_told_122, ↓E_X7_told_125, ↓E_X7_told_126, ↓E_X7_told_129, ↓E_X7_told_130, ↓E_X7_told_131, ↓E_X7_told_132, ↓E_X7_told_133, ↓E_X7_told_136, ↓E_X7_told_137, ↓E_X7_told_138, ↓E_X7_told_139, ↓E_X7_told_142, ↓E_X7_told_143, ↓E_X7_told_144, ↓E_X7_told_145, ↓E_X7_told_148, ↓E_X7_told_149, ↓E_X7_told_150, ↓E_X7_told_151, ↓E_X7_told_154, ↓E_X7_told_155, ↓E_X7_told_158, ↓E_X7_told_159, ↓E_X7_told_160, ↓E_X7_told_161, ↓E_X7_told_164, ↓E_X7_told_165, ↓E_X7_told_166, ↓E_X7_told_167, ↓E_X7_told_170, ↓E_X7_told_171, ↓E_X7_told_172, ↓E_X7_told_173, ↓E_X7_told_174, ↓E_X7_told_177, ↓E_X7_told_178, ↓E_X7_told_179, ↓E_X7_told_180, ↓E_X7_told_181, ↓E_X7_told_184, ↓E_X7_told_185, ↓E_X7_told_186, ↓E_X7_told_187, ↓E_X7_told_188, ↓E_X7_told_191, ↓E_X7_told_194, ↓E_X7_told_195, ↓E_X7_told_198, ↓E_X7_told_199, ↓E_X7_told_200, ↓E_X7_told_201, ↓E_X7_told_204, ↓E_X7_told_205, ↓E_X7_told_206, ↓E_X7_told_207, ↓E_X7_told_210, ↓E_X7_told_211, c1']
    subst hF
    exact ⟨σ1, rfl, sc⟩
  by_cases h9 : x = 9
  · simp only [if_neg h3, if_neg h4, if_neg h5, if_neg h6, if_neg h7, if_neg h8, if_pos h9] at hF ⊢
    obtain ⟨σ1, c1, sc⟩ := m_exch (d := d) (ls := false) hw hj
    have c1' : ∀ q, mx_call (d + 5) m_X7_exchanges [.ref 88, .int 0] σ q ↔ q = (some (.int (nI (cnt (XB w false) (w.1.jn - 1)))), σ1) := c1
    simp (disch := omega) only [true_and, and_true, and_self, exists_eq_left, Option.toList_some, Option.toList_none, List.cons_append, List.nil_append, List.append_nil, i2_i, i2_r, i2_n, nz0, nz1, true_or, or_true, Nat.reduceAdd, Nat.le_refl, Nat.reduceLT, Nat.reduceLeDiff, ↓E_X7_told_0, ↓E_X7_told_1, ↓E_X7_told_2, ↓E_X7_told_3, ↓E_X7_told_6, ↓E_X7_told_9, ↓E_X7_told_12, ↓E_X7_told_13, ↓E_X7_told_14, ↓E_X7_told_17, ↓E_X7_told_18, ↓E_X7_told_21, ↓E_X7_told_24, ↓E_X7_told_27, ↓E_X7_told_28, ↓E_X7_told_29, ↓E_X7_told_92, ↓E_X7_told_93, ↓E_X7_told_96, ↓E_X7_told_97, ↓E_X7_told_98, ↓E_X7_told_99, ↓E_X7_told_102, ↓E_X7_told_103, ↓E_X7_told_104, ↓E_X7_told_105, ↓E_X7_told_108, ↓E_X7_told_109, ↓E_X7_told_110, ↓E_X7_told_111, ↓E_X7_told_114, ↓E_X7_told_115, ↓E_X7_told_116, ↓E_X7_told_117, ↓E_X7_told_118, ↓E_X7_told_121, ↓E_X7_told_122, ↓E_X7_told_125, ↓E_X7_told_126, ↓E_X7_told_129, ↓E_X7_told_130, ↓E_X7_told_131, ↓E_X7_told_132, ↓E_X7_told_133, ↓E_X7_told_136, ↓E_X7_told_137, ↓E_X7_told_138, ↓E_X7_told_139, ↓E_X7_told_142, ↓E_X7_told_143, ↓E_X7_told_144, ↓E_X7_told_145, ↓E_X7_told_148, ↓E_X7_told_149, ↓E_X7_told_150, ↓E_X7_told_151, ↓E_X7_told_154, ↓E_X7_told_155, ↓E_X7_told_158, ↓E_X7_told_159, ↓E_X7_told_160, ↓E_X7_told_161, ↓E_X7_told_164, ↓E_X7_told_165, ↓E_X7_told_166, ↓E_X7_told_167, ↓E_X7_told_170, ↓E_X7_told_171, ↓E_X7_told_172, ↓E_X7_told_173, ↓E_X7_told_174, ↓E_X7_told_177, ↓E_X7_told_178, ↓E_X7_told_179, ↓E_X7_told_180, ↓E_X7_told_181, ↓E_X7_told_184, ↓E_X7_told_185, ↓E_X7_told_186, ↓E_X7_told_187, ↓E_X7_told_188, ↓E_X7_told_191, ↓E_X7_told_194, ↓E_X7_told_195, ↓E_X7_told_198, ↓E_X7_told_199, ↓E_X7_told_200, ↓E_X7_told_201, ↓E_X7_told_204, ↓E_X7_told_205, ↓E_X7_told_206, ↓E_X7_told_207, ↓E_X7_told_210, ↓E_X7_told_211, c1']
    subst hF
    exact ⟨σ1, rfl, sc⟩
  by_cases h10 : x = 10
  · simp only [if_neg h3, if_neg h4, if_neg h5, if_neg h6, if_neg h7, if_neg h8, if_neg h9, if_pos h10] at hF ⊢
    obtain ⟨σ1, c1, sc⟩ := m_exch (d := d) (ls := true) hw hj
    have c1' : ∀ q, mx_call (d + 5) m_X7_exchanges [.ref 88, .int (-1)] σ q ↔ q = (some (.int (nI (cnt (XB w true) (w.1.jn - 1)))), σ1) := c1
    have hc := cnt_le (XB w true) (w.1.jn - 1)
    simp (disch := omega) only [true_and, and_true, and_self, exists_eq_left, Option.toList_some, Option.toList_none, List.cons_append, List.nil_append, List.append_nil, i2_i, i2_r, i2_n, nz0, nz1, true_or, or_true, Nat.reduceAdd, Nat.le_refl, Nat.reduceLT, Nat.reduceLeDiff, ↓E_X7_told_0, ↓E_X7_told_1, ↓E_X7_told_2, ↓E_X7_told_3, ↓E_X7_told_6, ↓E_X7_told_9, ↓E_X7_told_12, ↓E_X7_told_13, ↓E_X7_told_14, ↓E_X7_told_17, ↓E_X7_told_18, ↓E_X7_told_21, ↓E_X7_told_24, ↓E_X7_told_27, ↓E_X7_told_28, ↓E_X7_told_29, ↓E_X7_told_92, ↓E_X7_told_93, ↓E_X7_told_96, ↓E_X7_told_97, ↓E_X7_told_98, ↓E_X7_told_99, ↓E_X7_told_102, ↓E_X7_told_103, ↓E_X7_told_104, ↓E_X7_told_105, ↓E_X7_told_108, ↓E_X7_told_109, ↓E_X7_told_110, ↓E_X7_told_111, ↓E_X7_told_114, ↓E_X7_told_115, ↓E_X7_told_116, ↓E_X7_told_117, ↓E_X7_told_118, ↓E_X7_told_121, ↓E_X7_told_122, ↓E_X7_told_125, ↓E_X7_told_126, ↓E_X7_told_129, ↓E_X7_told_130, ↓E_X7_told_131, ↓E_X7_told_132, ↓E_X7_told_133, ↓E_X7_told_136, ↓E_X7_told_137, ↓E_X7_told_138, ↓E_X7_told_139, ↓E_X7_told_142, ↓E_X7_told_143, ↓E_X7_told_144, ↓E_X7_told_145, ↓E_X7_told_148, ↓E_X7_told_149, ↓E_X7_told_150, ↓E_X7_told_151, ↓E_X7_told_154, ↓E_X7_told_155, ↓E_X7_told_158, ↓E_X7_told_159, ↓E_X7_told_160, ↓E_X7_told_161, ↓E_X7_told_164, ↓E_X7_told_165, ↓E_X7_told_166, ↓E_X7_told_167, ↓E_X7_told_170, ↓E_X7_told_171, ↓E_X7_told_172, ↓E_X7_told_173, ↓E_X7_told_174, ↓E_X7_told_177, ↓E_X7_told_178, ↓E_X7_told_179, ↓E_X7_told_180, ↓E_X7_told_181, ↓E_X7_told_184, ↓E_X7_told_185, ↓E_X7_told_186, ↓E_X7_told_187, ↓E_X7_told_188, ↓E_X7_told_191, ↓E_X7_told_194, ↓E_X7_told_195, ↓E_X7_told_198, ↓E_X7_told_199, ↓E_X7_told_200, ↓E_X7_told_201, ↓E_X7_told_204, ↓E_X7_told_205, ↓E_X7_told_206, ↓E_X7_told_207, ↓E_X7_told_210, ↓E_X7_told_211, c1', nI_eq0 (show cnt (XB w true) (w.1.jn - 1) ≤ 6 by omega)]
    subst hF
    by_cases e : cnt (XB w true) (w.1.jn - 1) = 0
    · simp only [if_pos e]
      exact ⟨σ1, rfl, sc⟩
    · simp only [if_neg e]
      exact ⟨σ1, rfl, sc⟩
  by_cases h11 : x = 11
  · simp only [if_neg h3, if_neg h4, if_neg h5, if_neg h6, if_neg h7, if_neg h8, if_neg h9, if_neg h10, if_pos h11] at hF ⊢
    simp (disch := omega) only [true_and, and_true, and_self, exists_eq_left, Option.toList_some, Option.toList_none, List.cons_append, List.nil_append, List.append_nil, i2_i, i2_r, i2_n, nz0, nz1, true_or, or_true, Nat.reduceAdd, Nat.le_refl, Nat.reduceLT, Nat.reduceLeDiff, ↓E_X7_told_0, ↓E_X7_told_1, ↓E_X7_told_2, ↓E_X7_told_3, ↓E_X7_told_6, ↓E_X7_told_9, ↓E_X7_told_12, ↓E_X7_told_13, ↓E_X7_told_14, ↓E_X7_told_17, ↓E_X7_told_18, ↓E_X7_told_21, ↓E_X7_told_24, ↓E_X7_told_27, ↓E_X7_told_28, ↓E_X7_told_29, ↓E_X7_told_92, ↓E_X7_told_93, ↓E_X7_told_96, ↓E_X7_told_97, ↓E_X7_told_98, ↓E_X7_told_99, ↓E_X7_told_102, ↓E_X7_told_103, ↓E_X7_told_104, ↓E_X7_told_105, ↓E_X7_told_108, ↓E_X7_told_109, ↓E_X7_told_110, ↓E_X7_told_111, ↓E_X7_told_114, ↓E_X7_told_115, ↓E_X7_told_116, ↓E_X7_told_117, ↓E_X7_told_118, ↓E_X7_told_121, ↓E_X7_told_122, ↓E_X7_told_125, ↓E_X7_told_126, ↓E_X7_told_129, ↓E_X7_told_130, ↓E_X7_told_131, ↓E_X7_told_132, ↓E_X7_told_133, ↓E_X7_told_136, ↓E_X7_told_137, ↓E_X7_told_138, ↓E_X7_told_139, ↓E_X7_told_142, ↓E_X7_told_143, ↓E_X7_told_144, ↓E_X7_told_145, ↓E_X7_told_148, ↓E_X7_told_149, ↓E_X7_told_150, ↓E_X7_told_151, ↓E_X7_told_154, ↓E_X7_told_155, ↓E_X7_told_158, ↓E_X7_told_159, ↓E_X7_told_160, ↓E_X7_told_161, ↓E_X7_told_164, ↓E_X7_told_165, ↓E_X7_told_166, ↓E_X7_told_167, ↓E_X7_told_170, ↓E_X7_told_171, ↓E_X7_told_172, ↓E_X7_told_173, ↓E_X7_told_174, ↓E_X7_told_177, ↓E_X7_told_178, ↓E_X7_told_179, ↓E_X7_told_180, ↓E_X7_told_181, ↓E_X7_told_184, ↓E_X7_told_185, ↓E_X7_told_186, ↓E_X7_told_187, ↓E_X7_told_188, ↓E_X7_told_191, ↓E_X7_told_194, ↓E_X7_told_195, ↓E_X7_told_198, ↓E_X7_told_199, ↓E_X7_told_200, ↓E_X7_told_201, ↓E_X7_told_204, ↓E_X7_told_205, ↓E_X7_told_206, ↓E_X7_told_207, ↓E_X7_told_210, ↓E_X7_told_211, m_easy hw]
    subst hF
    exact ⟨σ, rfl, scM.rf⟩
  have h12 : x = 12 := by
    obtain ⟨hx1, hx2, hx3⟩ := ibI_of hx
    rcases (show ixI x = 0 ∨ ixI x = 1 ∨ ixI x = 2 ∨ ixI x = 3 ∨ ixI x = 4 ∨ ixI x = 5 ∨ ixI x = 6 ∨ ixI x = 7 ∨ ixI x = 8 ∨ ixI x = 9 ∨ ixI x = 10 ∨ ixI x = 11 ∨ ixI x = 12 by omega) with e | e | e | e | e | e | e | e | e | e | e | e | e
    · rw [e] at hx1; exact absurd hx1 h0
    · rw [e] at hx1; exact absurd hx1 h1
    · rw [e] at hx1; exact absurd hx1 h2
    · rw [e] at hx1; exact absurd hx1 h3
    · rw [e] at hx1; exact absurd hx1 h4
    · rw [e] at hx1; exact absurd hx1 h5
    · rw [e] at hx1; exact absurd hx1 h6
    · rw [e] at hx1; exact absurd hx1 h7
    · rw [e] at hx1; exact absurd hx1 h8
    · rw [e] at hx1; exact absurd hx1 h9
    · rw [e] at hx1; exact absurd hx1 h10
    · rw [e] at hx1; exact absurd hx1 h11
    · rw [e] at hx1; exact hx1
  simp only [if_neg h3, if_neg h4, if_neg h5, if_neg h6, if_neg h7, if_neg h8, if_neg h9, if_neg h10, if_neg h11, if_pos h12] at hF ⊢
  simp (disch := omega) only [true_and, and_true, and_self, exists_eq_left, Option.toList_some, Option.toList_none, List.cons_append, List.nil_append, List.append_nil, i2_i, i2_r, i2_n, nz0, nz1, true_or, or_true, Nat.reduceAdd, Nat.le_refl, Nat.reduceLT, Nat.reduceLeDiff, ↓E_X7_told_0, ↓E_X7_told_1, ↓E_X7_told_2, ↓E_X7_told_3, ↓E_X7_told_6, ↓E_X7_told_9, ↓E_X7_told_12, ↓E_X7_told_13, ↓E_X7_told_14, ↓E_X7_told_17, ↓E_X7_told_18, ↓E_X7_told_21, ↓E_X7_told_24, ↓E_X7_told_27, ↓E_X7_told_28, ↓E_X7_told_29, ↓E_X7_told_92, ↓E_X7_told_93, ↓E_X7_told_96, ↓E_X7_told_97, ↓E_X7_told_98, ↓E_X7_told_99, ↓E_X7_told_102, ↓E_X7_told_103, ↓E_X7_told_104, ↓E_X7_told_105, ↓E_X7_told_108, ↓E_X7_told_109, ↓E_X7_told_110, ↓E_X7_told_111, ↓E_X7_told_114, ↓E_X7_told_115, ↓E_X7_told_116, ↓E_X7_told_117, ↓E_X7_told_118, ↓E_X7_told_121, ↓E_X7_told_122, ↓E_X7_told_125, ↓E_X7_told_126, ↓E_X7_told_129, ↓E_X7_told_130, ↓E_X7_told_131, ↓E_X7_told_132, ↓E_X7_told_133, ↓E_X7_told_136, ↓E_X7_told_137, ↓E_X7_told_138, ↓E_X7_told_139, ↓E_X7_told_142, ↓E_X7_told_143, ↓E_X7_told_144, ↓E_X7_told_145, ↓E_X7_told_148, ↓E_X7_told_149, ↓E_X7_told_150, ↓E_X7_told_151, ↓E_X7_told_154, ↓E_X7_told_155, ↓E_X7_told_158, ↓E_X7_told_159, ↓E_X7_told_160, ↓E_X7_told_161, ↓E_X7_told_164, ↓E_X7_told_165, ↓E_X7_told_166, ↓E_X7_told_167, ↓E_X7_told_170, ↓E_X7_told_171, ↓E_X7_told_172, ↓E_X7_told_173, ↓E_X7_told_174, ↓E_X7_told_177, ↓E_X7_told_178, ↓E_X7_told_179, ↓E_X7_told_180, ↓E_X7_told_181, ↓E_X7_told_184, ↓E_X7_told_185, ↓E_X7_told_186, ↓E_X7_told_187, ↓E_X7_told_188, ↓E_X7_told_191, ↓E_X7_told_194, ↓E_X7_told_195, ↓E_X7_told_198, ↓E_X7_told_199, ↓E_X7_told_200, ↓E_X7_told_201, ↓E_X7_told_204, ↓E_X7_told_205, ↓E_X7_told_206, ↓E_X7_told_207, ↓E_X7_told_210, ↓E_X7_told_211, m_firsts hw]
  subst hF
  exact ⟨σ, rfl, scM.rf⟩
theorem ib_lit {x : Int32} {m k : Nat} (e : x = nI k) (hk : k < 2147483648) (h : k < m) : ibI x m = true := by
  rw [e, ibI_nI hk]
  exact decide_eq_true h
set_option maxHeartbeats 4000000 in
theorem M_told {d : Nat} {σ : mx_S} {w : Vw} {x : Int32} (hw : vwM w σ) : ∃ σ', mx_call (d + 6) m_X7_told [.ref 88, .int x] σ (some (.long (F_told w x)), σ') ∧ vwM w σ' ∧ loS σ σ' := by
  obtain ⟨S1, S2, S3, S4, S5⟩ := vwM_now hw
  have hn := hw.1.1.1
  generalize hF : F_told w x = R
  simp (disch := omega) only [C_X7_told, true_and, and_true, and_self, exists_eq_left, Option.toList_some, Option.toList_none, List.cons_append, List.nil_append, List.append_nil, i2_i, i2_r, i2_n, nz0, nz1, true_or, or_true, Nat.reduceAdd, Nat.le_refl, Nat.reduceLT, Nat.reduceLeDiff, ↓E_X7_told_0, ↓E_X7_told_1, ↓E_X7_told_2, ↓E_X7_told_3, ↓E_X7_told_6, ↓E_X7_told_9, ↓E_X7_told_12, ↓E_X7_told_13, ↓E_X7_told_14, ↓E_X7_told_17, ↓E_X7_told_18, ↓E_X7_told_21, ↓E_X7_told_24, ↓E_X7_told_27, ↓E_X7_told_28, ↓E_X7_told_92, ↓E_X7_told_93, ↓E_X7_told_96, ↓E_X7_told_97, ↓E_X7_told_98, ↓E_X7_told_99, ↓E_X7_told_102, ↓E_X7_told_103, ↓E_X7_told_104, ↓E_X7_told_105, ↓E_X7_told_108, ↓E_X7_told_109, ↓E_X7_told_110, ↓E_X7_told_111, ↓E_X7_told_114, ↓E_X7_told_115, ↓E_X7_told_116, ↓E_X7_told_117, ↓E_X7_told_118, ↓E_X7_told_121, ↓E_X7_told_122, ↓E_X7_told_125, ↓E_X7_told_126, ↓E_X7_told_129, ↓E_X7_told_130, ↓E_X7_told_131, ↓E_X7_told_132, ↓E_X7_told_133, ↓E_X7_told_136, ↓E_X7_told_137, ↓E_X7_told_138, ↓E_X7_told_139, ↓E_X7_told_142, ↓E_X7_told_143, ↓E_X7_told_144, ↓E_X7_told_145, ↓E_X7_told_148, ↓E_X7_told_149, ↓E_X7_told_150, ↓E_X7_told_151, ↓E_X7_told_154, ↓E_X7_told_155, ↓E_X7_told_158, ↓E_X7_told_159, ↓E_X7_told_160, ↓E_X7_told_161, ↓E_X7_told_164, ↓E_X7_told_165, ↓E_X7_told_166, ↓E_X7_told_167, ↓E_X7_told_170, ↓E_X7_told_171, ↓E_X7_told_172, ↓E_X7_told_173, ↓E_X7_told_174, ↓E_X7_told_177, ↓E_X7_told_178, ↓E_X7_told_179, ↓E_X7_told_180, ↓E_X7_told_181, ↓E_X7_told_184, ↓E_X7_told_185, ↓E_X7_told_186, ↓E_X7_told_187, ↓E_X7_told_188, ↓E_X7_told_191, ↓E_X7_told_194, ↓E_X7_told_195, ↓E_X7_told_198, ↓E_X7_told_199, ↓E_X7_told_200, ↓E_X7_told_201, ↓E_X7_told_204, ↓E_X7_told_205, ↓E_X7_told_206, ↓E_X7_told_207, ↓E_X7_told_210, ↓E_X7_told_211, s_in, inL_12, bz_0, S1, nI_eq0 hn]
  have l2 : ∀ k, k ≤ 2 → x = nI k → ¬ (2 : Int32) < x ∧ x ≤ 2 := fun k hk e => by
    rcases (show k = 0 ∨ k = 1 ∨ k = 2 by omega) with rfl | rfl | rfl <;> (subst e; decide)
  by_cases h0 : x = 0
  · have hx : ¬ ibI x 13 = false := by rw [ib_lit (k := 0) h0 (by omega) (by omega)]; decide
    obtain ⟨g1, g2⟩ := l2 0 (by omega) h0
    unfold F_told at hF
    simp only [if_pos h0] at hF
    simp only [if_neg hx, if_neg g1, if_pos g2, E_X7_told_29, if_pos h0, true_and, and_true, and_self, exists_eq_left, Option.toList_some, Option.toList_none, List.cons_append, List.nil_append, List.append_nil, i2_i, i2_r, i2_n, nz0, nz1, true_or, or_true, Nat.reduceAdd, Nat.le_refl, Nat.reduceLT, Nat.reduceLeDiff, ↓E_X7_told_0, ↓E_X7_told_1, ↓E_X7_told_2, ↓E_X7_told_3, ↓E_X7_told_6, ↓E_X7_told_9, ↓E_X7_told_12, ↓E_X7_told_13, ↓E_X7_told_14, ↓E_X7_told_17, ↓E_X7_told_18, ↓E_X7_told_21, ↓E_X7_told_24, ↓E_X7_told_27, ↓E_X7_told_28, ↓E_X7_told_92, ↓E_X7_told_93, ↓E_X7_told_96, ↓E_X7_told_97, ↓E_X7_told_98, ↓E_X7_told_99, ↓E_X7_told_102, ↓E_X7_told_103, ↓E_X7_told_104, ↓E_X7_told_105, ↓E_X7_told_108, ↓E_X7_told_109, ↓E_X7_told_110, ↓E_X7_told_111, ↓E_X7_told_114, ↓E_X7_told_115, ↓E_X7_told_116, ↓E_X7_told_117, ↓E_X7_told_118, ↓E_X7_told_121, ↓E_X7_told_122, ↓E_X7_told_125, ↓E_X7_told_126, ↓E_X7_told_129, ↓E_X7_told_130, ↓E_X7_told_131, ↓E_X7_told_132, ↓E_X7_told_133, ↓E_X7_told_136, ↓E_X7_told_137, ↓E_X7_told_138, ↓E_X7_told_139, ↓E_X7_told_142, ↓E_X7_told_143, ↓E_X7_told_144, ↓E_X7_told_145, ↓E_X7_told_148, ↓E_X7_told_149, ↓E_X7_told_150, ↓E_X7_told_151, ↓E_X7_told_154, ↓E_X7_told_155, ↓E_X7_told_158, ↓E_X7_told_159, ↓E_X7_told_160, ↓E_X7_told_161, ↓E_X7_told_164, ↓E_X7_told_165, ↓E_X7_told_166, ↓E_X7_told_167, ↓E_X7_told_170, ↓E_X7_told_171, ↓E_X7_told_172, ↓E_X7_told_173, ↓E_X7_told_174, ↓E_X7_told_177, ↓E_X7_told_178, ↓E_X7_told_179, ↓E_X7_told_180, ↓E_X7_told_181, ↓E_X7_told_184, ↓E_X7_told_185, ↓E_X7_told_186, ↓E_X7_told_187, ↓E_X7_told_188, ↓E_X7_told_191, ↓E_X7_told_194, ↓E_X7_told_195, ↓E_X7_told_198, ↓E_X7_told_199, ↓E_X7_told_200, ↓E_X7_told_201, ↓E_X7_told_204, ↓E_X7_told_205, ↓E_X7_told_206, ↓E_X7_told_207, ↓E_X7_told_210, ↓E_X7_told_211, S1]
    subst hF
    exact ⟨σ, rfl, hw, loS.rf⟩
  by_cases h1 : x = 1
  · have hx : ¬ ibI x 13 = false := by rw [ib_lit (k := 1) h1 (by omega) (by omega)]; decide
    obtain ⟨g1, g2⟩ := l2 1 (by omega) h1
    unfold F_told at hF
    simp only [if_neg h0, if_pos h1] at hF
    simp only [if_neg hx, if_neg g1, if_pos g2, E_X7_told_29, if_neg h0, if_pos h1, true_and, and_true, and_self, exists_eq_left, Option.toList_some, Option.toList_none, List.cons_append, List.nil_append, List.append_nil, i2_i, i2_r, i2_n, nz0, nz1, true_or, or_true, Nat.reduceAdd, Nat.le_refl, Nat.reduceLT, Nat.reduceLeDiff, ↓E_X7_told_0, ↓E_X7_told_1, ↓E_X7_told_2, ↓E_X7_told_3, ↓E_X7_told_6, ↓E_X7_told_9, ↓E_X7_told_12, ↓E_X7_told_13, ↓E_X7_told_14, ↓E_X7_told_17, ↓E_X7_told_18, ↓E_X7_told_21, ↓E_X7_told_24, ↓E_X7_told_27, ↓E_X7_told_28, ↓E_X7_told_92, ↓E_X7_told_93, ↓E_X7_told_96, ↓E_X7_told_97, ↓E_X7_told_98, ↓E_X7_told_99, ↓E_X7_told_102, ↓E_X7_told_103, ↓E_X7_told_104, ↓E_X7_told_105, ↓E_X7_told_108, ↓E_X7_told_109, ↓E_X7_told_110, ↓E_X7_told_111, ↓E_X7_told_114, ↓E_X7_told_115, ↓E_X7_told_116, ↓E_X7_told_117, ↓E_X7_told_118, ↓E_X7_told_121, ↓E_X7_told_122, ↓E_X7_told_125, ↓E_X7_told_126, ↓E_X7_told_129, ↓E_X7_told_130, ↓E_X7_told_131, ↓E_X7_told_132, ↓E_X7_told_133, ↓E_X7_told_136, ↓E_X7_told_137, ↓E_X7_told_138, ↓E_X7_told_139, ↓E_X7_told_142, ↓E_X7_told_143, ↓E_X7_told_144, ↓E_X7_told_145, ↓E_X7_told_148, ↓E_X7_told_149, ↓E_X7_told_150, ↓E_X7_told_151, ↓E_X7_told_154, ↓E_X7_told_155, ↓E_X7_told_158, ↓E_X7_told_159, ↓E_X7_told_160, ↓E_X7_told_161, ↓E_X7_told_164, ↓E_X7_told_165, ↓E_X7_told_166, ↓E_X7_told_167, ↓E_X7_told_170, ↓E_X7_told_171, ↓E_X7_told_172, ↓E_X7_told_173, ↓E_X7_told_174, ↓E_X7_told_177, ↓E_X7_told_178, ↓E_X7_told_179, ↓E_X7_told_180, ↓E_X7_told_181, ↓E_X7_told_184, ↓E_X7_told_185, ↓E_X7_told_186, ↓E_X7_told_187, ↓E_X7_told_188, ↓E_X7_told_191, ↓E_X7_told_194, ↓E_X7_told_195, ↓E_X7_told_198, ↓E_X7_told_199, ↓E_X7_told_200, ↓E_X7_told_201, ↓E_X7_told_204, ↓E_X7_told_205, ↓E_X7_told_206, ↓E_X7_told_207, ↓E_X7_told_210, ↓E_X7_told_211, S2]
    subst hF
    exact ⟨σ, rfl, hw, loS.rf⟩
  by_cases h2 : x = 2
  · have hx : ¬ ibI x 13 = false := by rw [ib_lit (k := 2) h2 (by omega) (by omega)]; decide
    obtain ⟨g1, g2⟩ := l2 2 (by omega) h2
    unfold F_told at hF
    simp only [if_neg h0, if_neg h1, if_pos h2] at hF
    simp only [if_neg hx, if_neg g1, if_pos g2, E_X7_told_29, if_neg h0, if_neg h1, if_pos h2, true_and, and_true, and_self, exists_eq_left, Option.toList_some, Option.toList_none, List.cons_append, List.nil_append, List.append_nil, i2_i, i2_r, i2_n, nz0, nz1, true_or, or_true, Nat.reduceAdd, Nat.le_refl, Nat.reduceLT, Nat.reduceLeDiff, ↓E_X7_told_0, ↓E_X7_told_1, ↓E_X7_told_2, ↓E_X7_told_3, ↓E_X7_told_6, ↓E_X7_told_9, ↓E_X7_told_12, ↓E_X7_told_13, ↓E_X7_told_14, ↓E_X7_told_17, ↓E_X7_told_18, ↓E_X7_told_21, ↓E_X7_told_24, ↓E_X7_told_27, ↓E_X7_told_28, ↓E_X7_told_92, ↓E_X7_told_93, ↓E_X7_told_96, ↓E_X7_told_97, ↓E_X7_told_98, ↓E_X7_told_99, ↓E_X7_told_102, ↓E_X7_told_103, ↓E_X7_told_104, ↓E_X7_told_105, ↓E_X7_told_108, ↓E_X7_told_109, ↓E_X7_told_110, ↓E_X7_told_111, ↓E_X7_told_114, ↓E_X7_told_115, ↓E_X7_told_116, ↓E_X7_told_117, ↓E_X7_told_118, ↓E_X7_told_121, ↓E_X7_told_122, ↓E_X7_told_125, ↓E_X7_told_126, ↓E_X7_told_129, ↓E_X7_told_130, ↓E_X7_told_131, ↓E_X7_told_132, ↓E_X7_told_133, ↓E_X7_told_136, ↓E_X7_told_137, ↓E_X7_told_138, ↓E_X7_told_139, ↓E_X7_told_142, ↓E_X7_told_143, ↓E_X7_told_144, ↓E_X7_told_145, ↓E_X7_told_148, ↓E_X7_told_149, ↓E_X7_told_150, ↓E_X7_told_151, ↓E_X7_told_154, ↓E_X7_told_155, ↓E_X7_told_158, ↓E_X7_told_159, ↓E_X7_told_160, ↓E_X7_told_161, ↓E_X7_told_164, ↓E_X7_told_165, ↓E_X7_told_166, ↓E_X7_told_167, ↓E_X7_told_170, ↓E_X7_told_171, ↓E_X7_told_172, ↓E_X7_told_173, ↓E_X7_told_174, ↓E_X7_told_177, ↓E_X7_told_178, ↓E_X7_told_179, ↓E_X7_told_180, ↓E_X7_told_181, ↓E_X7_told_184, ↓E_X7_told_185, ↓E_X7_told_186, ↓E_X7_told_187, ↓E_X7_told_188, ↓E_X7_told_191, ↓E_X7_told_194, ↓E_X7_told_195, ↓E_X7_told_198, ↓E_X7_told_199, ↓E_X7_told_200, ↓E_X7_told_201, ↓E_X7_told_204, ↓E_X7_told_205, ↓E_X7_told_206, ↓E_X7_told_207, ↓E_X7_told_210, ↓E_X7_told_211, S3]
    subst hF
    exact ⟨σ, rfl, hw, loS.rf⟩
  by_cases hx : ibI x 13 = false
  · have no : F_told w x = NO := by
      have nx : ∀ k, k < 13 → ¬ x = nI k := fun k hk e => by rw [ib_lit e (by omega) hk] at hx; cases hx
      unfold F_told
      by_cases hj : w.1.jn = 0
      · rw [if_neg h0, if_neg h1, if_neg h2, if_pos hj]
      · rw [if_neg h0, if_neg h1, if_neg h2, if_neg hj, if_neg (show ¬ x = 3 from nx 3 (by omega)), if_neg (show ¬ x = 4 from nx 4 (by omega)), if_neg (show ¬ x = 5 from nx 5 (by omega)), if_neg (show ¬ x = 6 from nx 6 (by omega)), if_neg (show ¬ x = 7 from nx 7 (by omega)), if_neg (show ¬ x = 8 from nx 8 (by omega)), if_neg (show ¬ x = 9 from nx 9 (by omega)), if_neg (show ¬ x = 10 from nx 10 (by omega)), if_neg (show ¬ x = 11 from nx 11 (by omega)), if_neg (show ¬ x = 12 from nx 12 (by omega))]
    rw [no] at hF
    unfold NO at hF
    simp only [if_pos hx]
    subst hF
    exact ⟨σ, rfl, hw, loS.rf⟩
  have g2 : (2 : Int32) < x := by
    obtain ⟨hx1, hx2, hx3⟩ := ibI_of (eq_true_of_ne_false hx)
    have n0 : ixI x ≠ 0 := fun z => by rw [z] at hx1; exact h0 hx1
    have n1 : ixI x ≠ 1 := fun z => by rw [z] at hx1; exact h1 hx1
    have n2 : ixI x ≠ 2 := fun z => by rw [z] at hx1; exact h2 hx1
    rw [hx1]
    exact (nI_ltI (a := 2) (b := ixI x) (by omega) (by omega)).mpr (by omega)
  have g3 : ¬ x ≤ 2 := fun z => by
    rw [le32] at z
    rw [l32] at g2
    omega
  simp only [if_neg hx, if_pos g2, if_neg g3]
  by_cases hj : w.1.jn = 0
  · unfold F_told NO at hF
    simp only [if_neg h0, if_neg h1, if_neg h2, if_pos hj] at hF ⊢
    subst hF
    exact ⟨σ, rfl, hw, loS.rf⟩
  simp only [if_neg hj]
  obtain ⟨σ1, c1, sc⟩ := m_toldJ (d := d) hw hj h0 h1 h2 (eq_true_of_ne_false hx)
  rw [hF] at c1
  exact ⟨σ1, c1, sc.vw hw, sc.lo⟩
