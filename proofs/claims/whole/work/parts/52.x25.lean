/-! ===== the class: clauses ===== -/
set_option maxHeartbeats 4000000 in
theorem c_q {d a nx : Nat} {σ : mx_S} {l : List Nat} (ok : okL l) (hx : nx < l.length) (ha : 63 ≤ a ∧ a ≤ 74) (H : txI l nx σ.1) : ∃ σ', (∀ q, mx_run (d + 1) m_X5_takeClause 160 [some (.ref 60), some (.ref a)] [] σ q ↔ q = (some (.int (bz (tkQ l (nx + 1)).1.isSome)), σ')) ∧ clE (tkQ l (nx + 1)) l a σ σ' := by
  have f0 : frT a σ (mx_u σ.1 60 4 (nI (nx + 1)), σ.2) := ⟨fun i h1 h2 => mx_u_ne h1, fun k hk => uu_col hk, rfl⟩
  have z0 : (mx_u σ.1 60 4 (nI (nx + 1))) a = σ.1 a := mx_u_ne (by omega)
  obtain ⟨σ1, c1, H1, r1, f1⟩ := s_num (d := d) (a := a) (part := 1) (nx := nx + 1) (most := 1) (σ := (mx_u σ.1 60 4 (nI (nx + 1)), σ.2)) ok (by omega) ha (by omega) (Or.inl rfl) (txI_u H)
  have c1' : ∀ q, mx_call (d + 1) m_X5_takeNumber [.ref 60, .ref a, .int 1, .int 1] (mx_u σ.1 60 4 (nI (nx + 1)), σ.2) q ↔ q = (some (.int (bz (dgB l (nx + 1)))), σ1) := c1
  have r1 : σ1.1 a = upd (σ.1 a) 1 (nI (nmV l 1 (nx + 1))) := by rw [r1, ← z0]
  have F1 := f0.tr f1
  have hT : σ.1 60 4 = nI nx := H.2.2
  unfold tkQ
  by_cases e1 : dgB l (nx + 1) = false
  · rw [if_pos e1]
    refine ⟨σ1, fun q => ?_, by rw [nmP_f e1] at H1; exact H1, fun c hc => by (cases hc), by rw [r1]; exact pk_un (by omega), F1⟩
    simp (disch := omega) only [true_and, and_true, and_self, exists_eq_left, Option.toList_some, Option.toList_none, List.cons_append, List.nil_append, List.append_nil, i2_i, i2_r, i2_n, nz0, nz1, true_or, or_true, Nat.reduceAdd, Nat.le_refl, Nat.reduceLT, Nat.reduceLeDiff, ↓E_X5_takeClause_0, ↓E_X5_takeClause_1, ↓E_X5_takeClause_4, ↓E_X5_takeClause_5, ↓E_X5_takeClause_8, ↓E_X5_takeClause_11, ↓E_X5_takeClause_12, ↓E_X5_takeClause_13, ↓E_X5_takeClause_14, ↓E_X5_takeClause_15, ↓E_X5_takeClause_16, ↓E_X5_takeClause_19, ↓E_X5_takeClause_20, ↓E_X5_takeClause_23, ↓E_X5_takeClause_24, ↓E_X5_takeClause_25, ↓E_X5_takeClause_26, ↓E_X5_takeClause_27, ↓E_X5_takeClause_28, ↓E_X5_takeClause_96, ↓E_X5_takeClause_97, ↓E_X5_takeClause_98, ↓E_X5_takeClause_101, ↓E_X5_takeClause_102, ↓E_X5_takeClause_103, ↓E_X5_takeClause_106, ↓E_X5_takeClause_107, ↓E_X5_takeClause_108, ↓E_X5_takeClause_109, ↓E_X5_takeClause_110, ↓E_X5_takeClause_113, ↓E_X5_takeClause_116, ↓E_X5_takeClause_117, ↓E_X5_takeClause_119, ↓E_X5_takeClause_122, ↓E_X5_takeClause_125, ↓E_X5_takeClause_126, ↓E_X5_takeClause_127, ↓E_X5_takeClause_128, ↓E_X5_takeClause_129, ↓E_X5_takeClause_132, ↓E_X5_takeClause_135, ↓E_X5_takeClause_136, ↓E_X5_takeClause_138, ↓E_X5_takeClause_141, ↓E_X5_takeClause_144, ↓E_X5_takeClause_145, ↓E_X5_takeClause_146, ↓E_X5_takeClause_147, ↓E_X5_takeClause_148, ↓E_X5_takeClause_151, ↓E_X5_takeClause_154, ↓E_X5_takeClause_155, ↓E_X5_takeClause_158, ↓E_X5_takeClause_159, ↓E_X5_takeClause_160, ↓E_X5_takeClause_161, ↓E_X5_takeClause_162, ↓E_X5_takeClause_165, ↓E_X5_takeClause_166, ↓E_X5_takeClause_167, ↓E_X5_takeClause_170, ↓E_X5_takeClause_171, ↓E_X5_takeClause_172, ↓E_X5_takeClause_173, ↓E_X5_takeClause_174, ↓E_X5_takeClause_177, ↓E_X5_takeClause_180, ↓E_X5_takeClause_181, ↓E_X5_takeClause_182, ↓E_X5_takeClause_183, ↓E_X5_takeClause_184, ↓E_X5_takeClause_187, ↓E_X5_takeClause_190, ↓E_X5_takeClause_191, ↓E_X5_takeClause_192, ↓E_X5_takeClause_193, ↓E_X5_takeClause_194, ↓E_X5_takeClause_197, ↓E_X5_takeClause_200, ↓E_X5_takeClause_201, ↓E_X5_takeClause_204, ↓E_X5_takeClause_205, ↓E_X5_takeClause_206, ↓E_X5_takeClause_207, ↓E_X5_takeClause_208, ↓E_X5_takeClause_211, ↓E_X5_takeClause_212, ↓E_X5_takeClause_213, ↓E_X5_takeClause_216, ↓E_X5_takeClause_217, ↓E_X5_takeClause_218, ↓E_X5_takeClause_219, ↓E_X5_takeClause_220, ↓E_X5_takeClause_223, ↓E_X5_takeClause_226, ↓E_X5_takeClause_227, ↓E_X5_takeClause_228, ↓E_X5_takeClause_229, ↓E_X5_takeClause_230, ↓E_X5_takeClause_233, ↓E_X5_takeClause_236, ↓E_X5_takeClause_237, ↓E_X5_takeClause_240, ↓E_X5_takeClause_241, ↓E_X5_takeClause_242, ↓E_X5_takeClause_243, ↓E_X5_takeClause_244, ↓E_X5_takeClause_247, ↓E_X5_takeClause_248, ↓E_X5_takeClause_249, ↓E_X5_takeClause_252, ↓E_X5_takeClause_253, ↓E_X5_takeClause_254, ↓E_X5_takeClause_255, ↓E_X5_takeClause_256, ↓E_X5_takeClause_259, ↓E_X5_takeClause_260, ↓E_X5_takeClause_261, kd_5, hT, nI_1, c1', e1, bz_0, if_true]
    rfl
  rw [if_neg e1]
  have e1t := eq_true_of_ne_false e1
  rw [nm1P e1] at H1
  obtain ⟨σ2, c2, H2, r2, f2⟩ := s_num (d := d) (a := a) (part := 2) (nx := nx + 1 + 1) (most := 1) ok (dgB_lt e1) ha (by omega) (Or.inl rfl) H1
  have c2' : ∀ q, mx_call (d + 1) m_X5_takeNumber [.ref 60, .ref a, .int 2, .int 1] σ1 q ↔ q = (some (.int (bz (dgB l (nx + 1 + 1)))), σ2) := c2
  have F2 := F1.tr f2
  rw [r1] at r2
  by_cases e2 : dgB l (nx + 1 + 1) = false
  · rw [if_pos e2]
    refine ⟨σ2, fun q => ?_, by rw [nmP_f e2] at H2; exact H2, fun c hc => by (cases hc), by rw [r2, pk_un (by omega), pk_un (by omega)], F2⟩
    simp (disch := omega) only [true_and, and_true, and_self, exists_eq_left, Option.toList_some, Option.toList_none, List.cons_append, List.nil_append, List.append_nil, i2_i, i2_r, i2_n, nz0, nz1, true_or, or_true, Nat.reduceAdd, Nat.le_refl, Nat.reduceLT, Nat.reduceLeDiff, ↓E_X5_takeClause_0, ↓E_X5_takeClause_1, ↓E_X5_takeClause_4, ↓E_X5_takeClause_5, ↓E_X5_takeClause_8, ↓E_X5_takeClause_11, ↓E_X5_takeClause_12, ↓E_X5_takeClause_13, ↓E_X5_takeClause_14, ↓E_X5_takeClause_15, ↓E_X5_takeClause_16, ↓E_X5_takeClause_19, ↓E_X5_takeClause_20, ↓E_X5_takeClause_23, ↓E_X5_takeClause_24, ↓E_X5_takeClause_25, ↓E_X5_takeClause_26, ↓E_X5_takeClause_27, ↓E_X5_takeClause_28, ↓E_X5_takeClause_96, ↓E_X5_takeClause_97, ↓E_X5_takeClause_98, ↓E_X5_takeClause_101, ↓E_X5_takeClause_102, ↓E_X5_takeClause_103, ↓E_X5_takeClause_106, ↓E_X5_takeClause_107, ↓E_X5_takeClause_108, ↓E_X5_takeClause_109, ↓E_X5_takeClause_110, ↓E_X5_takeClause_113, ↓E_X5_takeClause_116, ↓E_X5_takeClause_117, ↓E_X5_takeClause_119, ↓E_X5_takeClause_122, ↓E_X5_takeClause_125, ↓E_X5_takeClause_126, ↓E_X5_takeClause_127, ↓E_X5_takeClause_128, ↓E_X5_takeClause_129, ↓E_X5_takeClause_132, ↓E_X5_takeClause_135, ↓E_X5_takeClause_136, ↓E_X5_takeClause_138, ↓E_X5_takeClause_141, ↓E_X5_takeClause_144, ↓E_X5_takeClause_145, ↓E_X5_takeClause_146, ↓E_X5_takeClause_147, ↓E_X5_takeClause_148, ↓E_X5_takeClause_151, ↓E_X5_takeClause_154, ↓E_X5_takeClause_155, ↓E_X5_takeClause_158, ↓E_X5_takeClause_159, ↓E_X5_takeClause_160, ↓E_X5_takeClause_161, ↓E_X5_takeClause_162, ↓E_X5_takeClause_165, ↓E_X5_takeClause_166, ↓E_X5_takeClause_167, ↓E_X5_takeClause_170, ↓E_X5_takeClause_171, ↓E_X5_takeClause_172, ↓E_X5_takeClause_173, ↓E_X5_takeClause_174, ↓E_X5_takeClause_177, ↓E_X5_takeClause_180, ↓E_X5_takeClause_181, ↓E_X5_takeClause_182, ↓E_X5_takeClause_183, ↓E_X5_takeClause_184, ↓E_X5_takeClause_187, ↓E_X5_takeClause_190, ↓E_X5_takeClause_191, ↓E_X5_takeClause_192, ↓E_X5_takeClause_193, ↓E_X5_takeClause_194, ↓E_X5_takeClause_197, ↓E_X5_takeClause_200, ↓E_X5_takeClause_201, ↓E_X5_takeClause_204, ↓E_X5_takeClause_205, ↓E_X5_takeClause_206, ↓E_X5_takeClause_207, ↓E_X5_takeClause_208, ↓E_X5_takeClause_211, ↓E_X5_takeClause_212, ↓E_X5_takeClause_213, ↓E_X5_takeClause_216, ↓E_X5_takeClause_217, ↓E_X5_takeClause_218, ↓E_X5_takeClause_219, ↓E_X5_takeClause_220, ↓E_X5_takeClause_223, ↓E_X5_takeClause_226, ↓E_X5_takeClause_227, ↓E_X5_takeClause_228, ↓E_X5_takeClause_229, ↓E_X5_takeClause_230, ↓E_X5_takeClause_233, ↓E_X5_takeClause_236, ↓E_X5_takeClause_237, ↓E_X5_takeClause_240, ↓E_X5_takeClause_241, ↓E_X5_takeClause_242, ↓E_X5_takeClause_243, ↓E_X5_takeClause_244, ↓E_X5_takeClause_247, ↓E_X5_takeClause_248, ↓E_X5_takeClause_249, ↓E_X5_takeClause_252, ↓E_X5_takeClause_253, ↓E_X5_takeClause_254, ↓E_X5_takeClause_255, ↓E_X5_takeClause_256, ↓E_X5_takeClause_259, ↓E_X5_takeClause_260, ↓E_X5_takeClause_261, kd_5, hT, nI_1, c1', e1t, c2', e2, bz_0, if_true, if_neg (show ¬ true = false by decide)]
    rfl
  rw [if_neg e2]
  have e2t := eq_true_of_ne_false e2
  rw [nm1P e2] at H2
  obtain ⟨σ3, c3, H3, r3, f3⟩ := s_num (d := d) (a := a) (part := 3) (nx := nx + 1 + 1 + 1) (most := 1) ok (dgB_lt e2) ha (by omega) (Or.inl rfl) H2
  have c3' : ∀ q, mx_call (d + 1) m_X5_takeNumber [.ref 60, .ref a, .int 3, .int 1] σ2 q ↔ q = (some (.int (bz (dgB l (nx + 1 + 2)))), σ3) := c3
  have F3 := F2.tr f3
  rw [r2] at r3
  by_cases e3 : dgB l (nx + 1 + 2) = false
  · rw [if_pos e3]
    refine ⟨σ3, fun q => ?_, by rw [nmP_f e3] at H3; exact H3, fun c hc => by (cases hc), by rw [r3, pk_un (by omega), pk_un (by omega), pk_un (by omega)], F3⟩
    simp (disch := omega) only [true_and, and_true, and_self, exists_eq_left, Option.toList_some, Option.toList_none, List.cons_append, List.nil_append, List.append_nil, i2_i, i2_r, i2_n, nz0, nz1, true_or, or_true, Nat.reduceAdd, Nat.le_refl, Nat.reduceLT, Nat.reduceLeDiff, ↓E_X5_takeClause_0, ↓E_X5_takeClause_1, ↓E_X5_takeClause_4, ↓E_X5_takeClause_5, ↓E_X5_takeClause_8, ↓E_X5_takeClause_11, ↓E_X5_takeClause_12, ↓E_X5_takeClause_13, ↓E_X5_takeClause_14, ↓E_X5_takeClause_15, ↓E_X5_takeClause_16, ↓E_X5_takeClause_19, ↓E_X5_takeClause_20, ↓E_X5_takeClause_23, ↓E_X5_takeClause_24, ↓E_X5_takeClause_25, ↓E_X5_takeClause_26, ↓E_X5_takeClause_27, ↓E_X5_takeClause_28, ↓E_X5_takeClause_96, ↓E_X5_takeClause_97, ↓E_X5_takeClause_98, ↓E_X5_takeClause_101, ↓E_X5_takeClause_102, ↓E_X5_takeClause_103, ↓E_X5_takeClause_106, ↓E_X5_takeClause_107, ↓E_X5_takeClause_108, ↓E_X5_takeClause_109, ↓E_X5_takeClause_110, ↓E_X5_takeClause_113, ↓E_X5_takeClause_116, ↓E_X5_takeClause_117, ↓E_X5_takeClause_119, ↓E_X5_takeClause_122, ↓E_X5_takeClause_125, ↓E_X5_takeClause_126, ↓E_X5_takeClause_127, ↓E_X5_takeClause_128, ↓E_X5_takeClause_129, ↓E_X5_takeClause_132, ↓E_X5_takeClause_135, ↓E_X5_takeClause_136, ↓E_X5_takeClause_138, ↓E_X5_takeClause_141, ↓E_X5_takeClause_144, ↓E_X5_takeClause_145, ↓E_X5_takeClause_146, ↓E_X5_takeClause_147, ↓E_X5_takeClause_148, ↓E_X5_takeClause_151, ↓E_X5_takeClause_154, ↓E_X5_takeClause_155, ↓E_X5_takeClause_158, ↓E_X5_takeClause_159, ↓E_X5_takeClause_160, ↓E_X5_takeClause_161, ↓E_X5_takeClause_162, ↓E_X5_takeClause_165, ↓E_X5_takeClause_166, ↓E_X5_takeClause_167, ↓E_X5_takeClause_170, ↓E_X5_takeClause_171, ↓E_X5_takeClause_172, ↓E_X5_takeClause_173, ↓E_X5_takeClause_174, ↓E_X5_takeClause_177, ↓E_X5_takeClause_180, ↓E_X5_takeClause_181, ↓E_X5_takeClause_182, ↓E_X5_takeClause_183, ↓E_X5_takeClause_184, ↓E_X5_takeClause_187, ↓E_X5_takeClause_190, ↓E_X5_takeClause_191, ↓E_X5_takeClause_192, ↓E_X5_takeClause_193, ↓E_X5_takeClause_194, ↓E_X5_takeClause_197, ↓E_X5_takeClause_200, ↓E_X5_takeClause_201, ↓E_X5_takeClause_204, ↓E_X5_takeClause_205, ↓E_X5_takeClause_206, ↓E_X5_takeClause_207, ↓E_X5_takeClause_208, ↓E_X5_takeClause_211, ↓E_X5_takeClause_212, ↓E_X5_takeClause_213, ↓E_X5_takeClause_216, ↓E_X5_takeClause_217, ↓E_X5_takeClause_218, ↓E_X5_takeClause_219, ↓E_X5_takeClause_220, ↓E_X5_takeClause_223, ↓E_X5_takeClause_226, ↓E_X5_takeClause_227, ↓E_X5_takeClause_228, ↓E_X5_takeClause_229, ↓E_X5_takeClause_230, ↓E_X5_takeClause_233, ↓E_X5_takeClause_236, ↓E_X5_takeClause_237, ↓E_X5_takeClause_240, ↓E_X5_takeClause_241, ↓E_X5_takeClause_242, ↓E_X5_takeClause_243, ↓E_X5_takeClause_244, ↓E_X5_takeClause_247, ↓E_X5_takeClause_248, ↓E_X5_takeClause_249, ↓E_X5_takeClause_252, ↓E_X5_takeClause_253, ↓E_X5_takeClause_254, ↓E_X5_takeClause_255, ↓E_X5_takeClause_256, ↓E_X5_takeClause_259, ↓E_X5_takeClause_260, ↓E_X5_takeClause_261, kd_5, hT, nI_1, c1', e1t, c2', e2t, c3', e3, bz_0, if_true, if_neg (show ¬ true = false by decide)]
    rfl
  rw [if_neg e3]
  have e3t := eq_true_of_ne_false e3
  rw [nm1P (i := nx + 1 + 1 + 1) e3] at H3
  refine ⟨σ3, fun q => ?_, H3, fun c hc => ?_, by rw [r3, pk_un (by omega), pk_un (by omega), pk_un (by omega)], F3⟩
  · simp (disch := omega) only [true_and, and_true, and_self, exists_eq_left, Option.toList_some, Option.toList_none, List.cons_append, List.nil_append, List.append_nil, i2_i, i2_r, i2_n, nz0, nz1, true_or, or_true, Nat.reduceAdd, Nat.le_refl, Nat.reduceLT, Nat.reduceLeDiff, ↓E_X5_takeClause_0, ↓E_X5_takeClause_1, ↓E_X5_takeClause_4, ↓E_X5_takeClause_5, ↓E_X5_takeClause_8, ↓E_X5_takeClause_11, ↓E_X5_takeClause_12, ↓E_X5_takeClause_13, ↓E_X5_takeClause_14, ↓E_X5_takeClause_15, ↓E_X5_takeClause_16, ↓E_X5_takeClause_19, ↓E_X5_takeClause_20, ↓E_X5_takeClause_23, ↓E_X5_takeClause_24, ↓E_X5_takeClause_25, ↓E_X5_takeClause_26, ↓E_X5_takeClause_27, ↓E_X5_takeClause_28, ↓E_X5_takeClause_96, ↓E_X5_takeClause_97, ↓E_X5_takeClause_98, ↓E_X5_takeClause_101, ↓E_X5_takeClause_102, ↓E_X5_takeClause_103, ↓E_X5_takeClause_106, ↓E_X5_takeClause_107, ↓E_X5_takeClause_108, ↓E_X5_takeClause_109, ↓E_X5_takeClause_110, ↓E_X5_takeClause_113, ↓E_X5_takeClause_116, ↓E_X5_takeClause_117, ↓E_X5_takeClause_119, ↓E_X5_takeClause_122, ↓E_X5_takeClause_125, ↓E_X5_takeClause_126, ↓E_X5_takeClause_127, ↓E_X5_takeClause_128, ↓E_X5_takeClause_129, ↓E_X5_takeClause_132, ↓E_X5_takeClause_135, ↓E_X5_takeClause_136, ↓E_X5_takeClause_138, ↓E_X5_takeClause_141, ↓E_X5_takeClause_144, ↓E_X5_takeClause_145, ↓E_X5_takeClause_146, ↓E_X5_takeClause_147, ↓E_X5_takeClause_148, ↓E_X5_takeClause_151, ↓E_X5_takeClause_154, ↓E_X5_takeClause_155, ↓E_X5_takeClause_158, ↓E_X5_takeClause_159, ↓E_X5_takeClause_160, ↓E_X5_takeClause_161, ↓E_X5_takeClause_162, ↓E_X5_takeClause_165, ↓E_X5_takeClause_166, ↓E_X5_takeClause_167, ↓E_X5_takeClause_170, ↓E_X5_takeClause_171, ↓E_X5_takeClause_172, ↓E_X5_takeClause_173, ↓E_X5_takeClause_174, ↓E_X5_takeClause_177, ↓E_X5_takeClause_180, ↓E_X5_takeClause_181, ↓E_X5_takeClause_182, ↓E_X5_takeClause_183, ↓E_X5_takeClause_184, ↓E_X5_takeClause_187, ↓E_X5_takeClause_190, ↓E_X5_takeClause_191, ↓E_X5_takeClause_192, ↓E_X5_takeClause_193, ↓E_X5_takeClause_194, ↓E_X5_takeClause_197, ↓E_X5_takeClause_200, ↓E_X5_takeClause_201, ↓E_X5_takeClause_204, ↓E_X5_takeClause_205, ↓E_X5_takeClause_206, ↓E_X5_takeClause_207, ↓E_X5_takeClause_208, ↓E_X5_takeClause_211, ↓E_X5_takeClause_212, ↓E_X5_takeClause_213, ↓E_X5_takeClause_216, ↓E_X5_takeClause_217, ↓E_X5_takeClause_218, ↓E_X5_takeClause_219, ↓E_X5_takeClause_220, ↓E_X5_takeClause_223, ↓E_X5_takeClause_226, ↓E_X5_takeClause_227, ↓E_X5_takeClause_228, ↓E_X5_takeClause_229, ↓E_X5_takeClause_230, ↓E_X5_takeClause_233, ↓E_X5_takeClause_236, ↓E_X5_takeClause_237, ↓E_X5_takeClause_240, ↓E_X5_takeClause_241, ↓E_X5_takeClause_242, ↓E_X5_takeClause_243, ↓E_X5_takeClause_244, ↓E_X5_takeClause_247, ↓E_X5_takeClause_248, ↓E_X5_takeClause_249, ↓E_X5_takeClause_252, ↓E_X5_takeClause_253, ↓E_X5_takeClause_254, ↓E_X5_takeClause_255, ↓E_X5_takeClause_256, ↓E_X5_takeClause_259, ↓E_X5_takeClause_260, ↓E_X5_takeClause_261, kd_5, hT, nI_1, c1', e1t, c2', e2t, c3', e3t, bz_0, if_true, if_neg (show ¬ true = false by decide)]
    rfl
  · cases hc
    refine ⟨?_, fun _ => ?_, fun _ => ?_⟩
    · rw [r3, pk_un (by omega), pk_un (by omega), pk_us]
    · rw [r3, pk_un (by omega), pk_us]
    · rw [r3, pk_us]
set_option maxHeartbeats 4000000 in
theorem c_d {d a nx : Nat} {σ : mx_S} {l : List Nat} (ok : okL l) (hx : nx < l.length) (ha : 63 ≤ a ∧ a ≤ 74) (H : txI l nx σ.1) : ∃ σ', (∀ q, mx_run (d + 1) m_X5_takeClause 206 [some (.ref 60), some (.ref a)] [] σ q ↔ q = (some (.int (bz (tkD l (nx + 1)).1.isSome)), σ')) ∧ clE (tkD l (nx + 1)) l a σ σ' := by
  have f0 : frT a σ (mx_u σ.1 60 4 (nI (nx + 1)), σ.2) := ⟨fun i h1 h2 => mx_u_ne h1, fun k hk => uu_col hk, rfl⟩
  have z0 : (mx_u σ.1 60 4 (nI (nx + 1))) a = σ.1 a := mx_u_ne (by omega)
  obtain ⟨σ1, c1, H1, r1, f1⟩ := s_num (d := d) (a := a) (part := 1) (nx := nx + 1) (most := 1) (σ := (mx_u σ.1 60 4 (nI (nx + 1)), σ.2)) ok (by omega) ha (by omega) (Or.inl rfl) (txI_u H)
  have c1' : ∀ q, mx_call (d + 1) m_X5_takeNumber [.ref 60, .ref a, .int 1, .int 1] (mx_u σ.1 60 4 (nI (nx + 1)), σ.2) q ↔ q = (some (.int (bz (dgB l (nx + 1)))), σ1) := c1
  have r1 : σ1.1 a = upd (σ.1 a) 1 (nI (nmV l 1 (nx + 1))) := by rw [r1, ← z0]
  have F1 := f0.tr f1
  have hT : σ.1 60 4 = nI nx := H.2.2
  unfold tkD
  by_cases e1 : dgB l (nx + 1) = false
  · rw [if_pos e1]
    refine ⟨σ1, fun q => ?_, by rw [nmP_f e1] at H1; exact H1, fun c hc => by (cases hc), by rw [r1]; exact pk_un (by omega), F1⟩
    simp (disch := omega) only [true_and, and_true, and_self, exists_eq_left, Option.toList_some, Option.toList_none, List.cons_append, List.nil_append, List.append_nil, i2_i, i2_r, i2_n, nz0, nz1, true_or, or_true, Nat.reduceAdd, Nat.le_refl, Nat.reduceLT, Nat.reduceLeDiff, ↓E_X5_takeClause_0, ↓E_X5_takeClause_1, ↓E_X5_takeClause_4, ↓E_X5_takeClause_5, ↓E_X5_takeClause_8, ↓E_X5_takeClause_11, ↓E_X5_takeClause_12, ↓E_X5_takeClause_13, ↓E_X5_takeClause_14, ↓E_X5_takeClause_15, ↓E_X5_takeClause_16, ↓E_X5_takeClause_19, ↓E_X5_takeClause_20, ↓E_X5_takeClause_23, ↓E_X5_takeClause_24, ↓E_X5_takeClause_25, ↓E_X5_takeClause_26, ↓E_X5_takeClause_27, ↓E_X5_takeClause_28, ↓E_X5_takeClause_96, ↓E_X5_takeClause_97, ↓E_X5_takeClause_98, ↓E_X5_takeClause_101, ↓E_X5_takeClause_102, ↓E_X5_takeClause_103, ↓E_X5_takeClause_106, ↓E_X5_takeClause_107, ↓E_X5_takeClause_108, ↓E_X5_takeClause_109, ↓E_X5_takeClause_110, ↓E_X5_takeClause_113, ↓E_X5_takeClause_116, ↓E_X5_takeClause_117, ↓E_X5_takeClause_119, ↓E_X5_takeClause_122, ↓E_X5_takeClause_125, ↓E_X5_takeClause_126, ↓E_X5_takeClause_127, ↓E_X5_takeClause_128, ↓E_X5_takeClause_129, ↓E_X5_takeClause_132, ↓E_X5_takeClause_135, ↓E_X5_takeClause_136, ↓E_X5_takeClause_138, ↓E_X5_takeClause_141, ↓E_X5_takeClause_144, ↓E_X5_takeClause_145, ↓E_X5_takeClause_146, ↓E_X5_takeClause_147, ↓E_X5_takeClause_148, ↓E_X5_takeClause_151, ↓E_X5_takeClause_154, ↓E_X5_takeClause_155, ↓E_X5_takeClause_158, ↓E_X5_takeClause_159, ↓E_X5_takeClause_160, ↓E_X5_takeClause_161, ↓E_X5_takeClause_162, ↓E_X5_takeClause_165, ↓E_X5_takeClause_166, ↓E_X5_takeClause_167, ↓E_X5_takeClause_170, ↓E_X5_takeClause_171, ↓E_X5_takeClause_172, ↓E_X5_takeClause_173, ↓E_X5_takeClause_174, ↓E_X5_takeClause_177, ↓E_X5_takeClause_180, ↓E_X5_takeClause_181, ↓E_X5_takeClause_182, ↓E_X5_takeClause_183, ↓E_X5_takeClause_184, ↓E_X5_takeClause_187, ↓E_X5_takeClause_190, ↓E_X5_takeClause_191, ↓E_X5_takeClause_192, ↓E_X5_takeClause_193, ↓E_X5_takeClause_194, ↓E_X5_takeClause_197, ↓E_X5_takeClause_200, ↓E_X5_takeClause_201, ↓E_X5_takeClause_204, ↓E_X5_takeClause_205, ↓E_X5_takeClause_206, ↓E_X5_takeClause_207, ↓E_X5_takeClause_208, ↓E_X5_takeClause_211, ↓E_X5_takeClause_212, ↓E_X5_takeClause_213, ↓E_X5_takeClause_216, ↓E_X5_takeClause_217, ↓E_X5_takeClause_218, ↓E_X5_takeClause_219, ↓E_X5_takeClause_220, ↓E_X5_takeClause_223, ↓E_X5_takeClause_226, ↓E_X5_takeClause_227, ↓E_X5_takeClause_228, ↓E_X5_takeClause_229, ↓E_X5_takeClause_230, ↓E_X5_takeClause_233, ↓E_X5_takeClause_236, ↓E_X5_takeClause_237, ↓E_X5_takeClause_240, ↓E_X5_takeClause_241, ↓E_X5_takeClause_242, ↓E_X5_takeClause_243, ↓E_X5_takeClause_244, ↓E_X5_takeClause_247, ↓E_X5_takeClause_248, ↓E_X5_takeClause_249, ↓E_X5_takeClause_252, ↓E_X5_takeClause_253, ↓E_X5_takeClause_254, ↓E_X5_takeClause_255, ↓E_X5_takeClause_256, ↓E_X5_takeClause_259, ↓E_X5_takeClause_260, ↓E_X5_takeClause_261, kd_5, hT, nI_1, c1', e1, bz_0, if_true]
    rfl
  rw [if_neg e1]
  have e1t := eq_true_of_ne_false e1
  rw [nm1P e1] at H1
  obtain ⟨σ2, c2, H2, r2, f2⟩ := s_num (d := d) (a := a) (part := 2) (nx := nx + 1 + 1) (most := 2) ok (dgB_lt e1) ha (by omega) (Or.inr rfl) H1
  have c2' : ∀ q, mx_call (d + 1) m_X5_takeNumber [.ref 60, .ref a, .int 2, .int 2] σ1 q ↔ q = (some (.int (bz (dgB l (nx + 1 + 1)))), σ2) := c2
  have F2 := F1.tr f2
  rw [r1] at r2
  by_cases e2 : dgB l (nx + 1 + 1) = false
  · rw [if_pos e2]
    refine ⟨σ2, fun q => ?_, by rw [nmP_f e2] at H2; exact H2, fun c hc => by (cases hc), by rw [r2, pk_un (by omega), pk_un (by omega)], F2⟩
    simp (disch := omega) only [true_and, and_true, and_self, exists_eq_left, Option.toList_some, Option.toList_none, List.cons_append, List.nil_append, List.append_nil, i2_i, i2_r, i2_n, nz0, nz1, true_or, or_true, Nat.reduceAdd, Nat.le_refl, Nat.reduceLT, Nat.reduceLeDiff, ↓E_X5_takeClause_0, ↓E_X5_takeClause_1, ↓E_X5_takeClause_4, ↓E_X5_takeClause_5, ↓E_X5_takeClause_8, ↓E_X5_takeClause_11, ↓E_X5_takeClause_12, ↓E_X5_takeClause_13, ↓E_X5_takeClause_14, ↓E_X5_takeClause_15, ↓E_X5_takeClause_16, ↓E_X5_takeClause_19, ↓E_X5_takeClause_20, ↓E_X5_takeClause_23, ↓E_X5_takeClause_24, ↓E_X5_takeClause_25, ↓E_X5_takeClause_26, ↓E_X5_takeClause_27, ↓E_X5_takeClause_28, ↓E_X5_takeClause_96, ↓E_X5_takeClause_97, ↓E_X5_takeClause_98, ↓E_X5_takeClause_101, ↓E_X5_takeClause_102, ↓E_X5_takeClause_103, ↓E_X5_takeClause_106, ↓E_X5_takeClause_107, ↓E_X5_takeClause_108, ↓E_X5_takeClause_109, ↓E_X5_takeClause_110, ↓E_X5_takeClause_113, ↓E_X5_takeClause_116, ↓E_X5_takeClause_117, ↓E_X5_takeClause_119, ↓E_X5_takeClause_122, ↓E_X5_takeClause_125, ↓E_X5_takeClause_126, ↓E_X5_takeClause_127, ↓E_X5_takeClause_128, ↓E_X5_takeClause_129, ↓E_X5_takeClause_132, ↓E_X5_takeClause_135, ↓E_X5_takeClause_136, ↓E_X5_takeClause_138, ↓E_X5_takeClause_141, ↓E_X5_takeClause_144, ↓E_X5_takeClause_145, ↓E_X5_takeClause_146, ↓E_X5_takeClause_147, ↓E_X5_takeClause_148, ↓E_X5_takeClause_151, ↓E_X5_takeClause_154, ↓E_X5_takeClause_155, ↓E_X5_takeClause_158, ↓E_X5_takeClause_159, ↓E_X5_takeClause_160, ↓E_X5_takeClause_161, ↓E_X5_takeClause_162, ↓E_X5_takeClause_165, ↓E_X5_takeClause_166, ↓E_X5_takeClause_167, ↓E_X5_takeClause_170, ↓E_X5_takeClause_171, ↓E_X5_takeClause_172, ↓E_X5_takeClause_173, ↓E_X5_takeClause_174, ↓E_X5_takeClause_177, ↓E_X5_takeClause_180, ↓E_X5_takeClause_181, ↓E_X5_takeClause_182, ↓E_X5_takeClause_183, ↓E_X5_takeClause_184, ↓E_X5_takeClause_187, ↓E_X5_takeClause_190, ↓E_X5_takeClause_191, ↓E_X5_takeClause_192, ↓E_X5_takeClause_193, ↓E_X5_takeClause_194, ↓E_X5_takeClause_197, ↓E_X5_takeClause_200, ↓E_X5_takeClause_201, ↓E_X5_takeClause_204, ↓E_X5_takeClause_205, ↓E_X5_takeClause_206, ↓E_X5_takeClause_207, ↓E_X5_takeClause_208, ↓E_X5_takeClause_211, ↓E_X5_takeClause_212, ↓E_X5_takeClause_213, ↓E_X5_takeClause_216, ↓E_X5_takeClause_217, ↓E_X5_takeClause_218, ↓E_X5_takeClause_219, ↓E_X5_takeClause_220, ↓E_X5_takeClause_223, ↓E_X5_takeClause_226, ↓E_X5_takeClause_227, ↓E_X5_takeClause_228, ↓E_X5_takeClause_229, ↓E_X5_takeClause_230, ↓E_X5_takeClause_233, ↓E_X5_takeClause_236, ↓E_X5_takeClause_237, ↓E_X5_takeClause_240, ↓E_X5_takeClause_241, ↓E_X5_takeClause_242, ↓E_X5_takeClause_243, ↓E_X5_takeClause_244, ↓E_X5_takeClause_247, ↓E_X5_takeClause_248, ↓E_X5_takeClause_249, ↓E_X5_takeClause_252, ↓E_X5_takeClause_253, ↓E_X5_takeClause_254, ↓E_X5_takeClause_255, ↓E_X5_takeClause_256, ↓E_X5_takeClause_259, ↓E_X5_takeClause_260, ↓E_X5_takeClause_261, kd_5, hT, nI_1, c1', e1t, c2', e2, bz_0, if_true, if_neg (show ¬ true = false by decide)]
    rfl
  rw [if_neg e2]
  have e2t := eq_true_of_ne_false e2
  refine ⟨σ2, fun q => ?_, H2, fun c hc => ?_, by rw [r2, pk_un (by omega), pk_un (by omega)], F2⟩
  · simp (disch := omega) only [true_and, and_true, and_self, exists_eq_left, Option.toList_some, Option.toList_none, List.cons_append, List.nil_append, List.append_nil, i2_i, i2_r, i2_n, nz0, nz1, true_or, or_true, Nat.reduceAdd, Nat.le_refl, Nat.reduceLT, Nat.reduceLeDiff, ↓E_X5_takeClause_0, ↓E_X5_takeClause_1, ↓E_X5_takeClause_4, ↓E_X5_takeClause_5, ↓E_X5_takeClause_8, ↓E_X5_takeClause_11, ↓E_X5_takeClause_12, ↓E_X5_takeClause_13, ↓E_X5_takeClause_14, ↓E_X5_takeClause_15, ↓E_X5_takeClause_16, ↓E_X5_takeClause_19, ↓E_X5_takeClause_20, ↓E_X5_takeClause_23, ↓E_X5_takeClause_24, ↓E_X5_takeClause_25, ↓E_X5_takeClause_26, ↓E_X5_takeClause_27, ↓E_X5_takeClause_28, ↓E_X5_takeClause_96, ↓E_X5_takeClause_97, ↓E_X5_takeClause_98, ↓E_X5_takeClause_101, ↓E_X5_takeClause_102, ↓E_X5_takeClause_103, ↓E_X5_takeClause_106, ↓E_X5_takeClause_107, ↓E_X5_takeClause_108, ↓E_X5_takeClause_109, ↓E_X5_takeClause_110, ↓E_X5_takeClause_113, ↓E_X5_takeClause_116, ↓E_X5_takeClause_117, ↓E_X5_takeClause_119, ↓E_X5_takeClause_122, ↓E_X5_takeClause_125, ↓E_X5_takeClause_126, ↓E_X5_takeClause_127, ↓E_X5_takeClause_128, ↓E_X5_takeClause_129, ↓E_X5_takeClause_132, ↓E_X5_takeClause_135, ↓E_X5_takeClause_136, ↓E_X5_takeClause_138, ↓E_X5_takeClause_141, ↓E_X5_takeClause_144, ↓E_X5_takeClause_145, ↓E_X5_takeClause_146, ↓E_X5_takeClause_147, ↓E_X5_takeClause_148, ↓E_X5_takeClause_151, ↓E_X5_takeClause_154, ↓E_X5_takeClause_155, ↓E_X5_takeClause_158, ↓E_X5_takeClause_159, ↓E_X5_takeClause_160, ↓E_X5_takeClause_161, ↓E_X5_takeClause_162, ↓E_X5_takeClause_165, ↓E_X5_takeClause_166, ↓E_X5_takeClause_167, ↓E_X5_takeClause_170, ↓E_X5_takeClause_171, ↓E_X5_takeClause_172, ↓E_X5_takeClause_173, ↓E_X5_takeClause_174, ↓E_X5_takeClause_177, ↓E_X5_takeClause_180, ↓E_X5_takeClause_181, ↓E_X5_takeClause_182, ↓E_X5_takeClause_183, ↓E_X5_takeClause_184, ↓E_X5_takeClause_187, ↓E_X5_takeClause_190, ↓E_X5_takeClause_191, ↓E_X5_takeClause_192, ↓E_X5_takeClause_193, ↓E_X5_takeClause_194, ↓E_X5_takeClause_197, ↓E_X5_takeClause_200, ↓E_X5_takeClause_201, ↓E_X5_takeClause_204, ↓E_X5_takeClause_205, ↓E_X5_takeClause_206, ↓E_X5_takeClause_207, ↓E_X5_takeClause_208, ↓E_X5_takeClause_211, ↓E_X5_takeClause_212, ↓E_X5_takeClause_213, ↓E_X5_takeClause_216, ↓E_X5_takeClause_217, ↓E_X5_takeClause_218, ↓E_X5_takeClause_219, ↓E_X5_takeClause_220, ↓E_X5_takeClause_223, ↓E_X5_takeClause_226, ↓E_X5_takeClause_227, ↓E_X5_takeClause_228, ↓E_X5_takeClause_229, ↓E_X5_takeClause_230, ↓E_X5_takeClause_233, ↓E_X5_takeClause_236, ↓E_X5_takeClause_237, ↓E_X5_takeClause_240, ↓E_X5_takeClause_241, ↓E_X5_takeClause_242, ↓E_X5_takeClause_243, ↓E_X5_takeClause_244, ↓E_X5_takeClause_247, ↓E_X5_takeClause_248, ↓E_X5_takeClause_249, ↓E_X5_takeClause_252, ↓E_X5_takeClause_253, ↓E_X5_takeClause_254, ↓E_X5_takeClause_255, ↓E_X5_takeClause_256, ↓E_X5_takeClause_259, ↓E_X5_takeClause_260, ↓E_X5_takeClause_261, kd_5, hT, nI_1, c1', e1t, c2', e2t, bz_0, if_true, if_neg (show ¬ true = false by decide)]
    rfl
  · cases hc
    refine ⟨?_, fun _ => ?_, fun z => by simp at z⟩
    · rw [r2, pk_un (by omega), pk_us]
    · rw [r2, pk_us]
set_option maxHeartbeats 4000000 in
theorem c_m {d a nx c : Nat} {σ : mx_S} {l : List Nat} (hc9 : c = 109 ∨ c = 97) (ok : okL l) (hx : nx < l.length) (ha : 63 ≤ a ∧ a ≤ 74) (H : txI l nx σ.1) : ∃ σ', (∀ q, mx_run (d + 1) m_X5_takeClause 242 [some (.ref 60), some (.ref a)] [] σ q ↔ q = (some (.int (bz (tkM l c (nx + 1)).1.isSome)), σ')) ∧ clE (tkM l c (nx + 1)) l a σ σ' := by
  have f0 : frT a σ (mx_u σ.1 60 4 (nI (nx + 1)), σ.2) := ⟨fun i h1 h2 => mx_u_ne h1, fun k hk => uu_col hk, rfl⟩
  have z0 : (mx_u σ.1 60 4 (nI (nx + 1))) a = σ.1 a := mx_u_ne (by omega)
  obtain ⟨σ1, c1, H1, r1, f1⟩ := s_num (d := d) (a := a) (part := 1) (nx := nx + 1) (most := 1) (σ := (mx_u σ.1 60 4 (nI (nx + 1)), σ.2)) ok (by omega) ha (by omega) (Or.inl rfl) (txI_u H)
  have c1' : ∀ q, mx_call (d + 1) m_X5_takeNumber [.ref 60, .ref a, .int 1, .int 1] (mx_u σ.1 60 4 (nI (nx + 1)), σ.2) q ↔ q = (some (.int (bz (dgB l (nx + 1)))), σ1) := c1
  have r1 : σ1.1 a = upd (σ.1 a) 1 (nI (nmV l 1 (nx + 1))) := by rw [r1, ← z0]
  have F1 := f0.tr f1
  have hT : σ.1 60 4 = nI nx := H.2.2
  unfold tkM
  by_cases e1 : dgB l (nx + 1) = false
  · rw [if_pos e1]
    refine ⟨σ1, fun q => ?_, by rw [nmP_f e1] at H1; exact H1, fun c hc => by (cases hc), by rw [r1]; exact pk_un (by omega), F1⟩
    simp (disch := omega) only [true_and, and_true, and_self, exists_eq_left, Option.toList_some, Option.toList_none, List.cons_append, List.nil_append, List.append_nil, i2_i, i2_r, i2_n, nz0, nz1, true_or, or_true, Nat.reduceAdd, Nat.le_refl, Nat.reduceLT, Nat.reduceLeDiff, ↓E_X5_takeClause_0, ↓E_X5_takeClause_1, ↓E_X5_takeClause_4, ↓E_X5_takeClause_5, ↓E_X5_takeClause_8, ↓E_X5_takeClause_11, ↓E_X5_takeClause_12, ↓E_X5_takeClause_13, ↓E_X5_takeClause_14, ↓E_X5_takeClause_15, ↓E_X5_takeClause_16, ↓E_X5_takeClause_19, ↓E_X5_takeClause_20, ↓E_X5_takeClause_23, ↓E_X5_takeClause_24, ↓E_X5_takeClause_25, ↓E_X5_takeClause_26, ↓E_X5_takeClause_27, ↓E_X5_takeClause_28, ↓E_X5_takeClause_96, ↓E_X5_takeClause_97, ↓E_X5_takeClause_98, ↓E_X5_takeClause_101, ↓E_X5_takeClause_102, ↓E_X5_takeClause_103, ↓E_X5_takeClause_106, ↓E_X5_takeClause_107, ↓E_X5_takeClause_108, ↓E_X5_takeClause_109, ↓E_X5_takeClause_110, ↓E_X5_takeClause_113, ↓E_X5_takeClause_116, ↓E_X5_takeClause_117, ↓E_X5_takeClause_119, ↓E_X5_takeClause_122, ↓E_X5_takeClause_125, ↓E_X5_takeClause_126, ↓E_X5_takeClause_127, ↓E_X5_takeClause_128, ↓E_X5_takeClause_129, ↓E_X5_takeClause_132, ↓E_X5_takeClause_135, ↓E_X5_takeClause_136, ↓E_X5_takeClause_138, ↓E_X5_takeClause_141, ↓E_X5_takeClause_144, ↓E_X5_takeClause_145, ↓E_X5_takeClause_146, ↓E_X5_takeClause_147, ↓E_X5_takeClause_148, ↓E_X5_takeClause_151, ↓E_X5_takeClause_154, ↓E_X5_takeClause_155, ↓E_X5_takeClause_158, ↓E_X5_takeClause_159, ↓E_X5_takeClause_160, ↓E_X5_takeClause_161, ↓E_X5_takeClause_162, ↓E_X5_takeClause_165, ↓E_X5_takeClause_166, ↓E_X5_takeClause_167, ↓E_X5_takeClause_170, ↓E_X5_takeClause_171, ↓E_X5_takeClause_172, ↓E_X5_takeClause_173, ↓E_X5_takeClause_174, ↓E_X5_takeClause_177, ↓E_X5_takeClause_180, ↓E_X5_takeClause_181, ↓E_X5_takeClause_182, ↓E_X5_takeClause_183, ↓E_X5_takeClause_184, ↓E_X5_takeClause_187, ↓E_X5_takeClause_190, ↓E_X5_takeClause_191, ↓E_X5_takeClause_192, ↓E_X5_takeClause_193, ↓E_X5_takeClause_194, ↓E_X5_takeClause_197, ↓E_X5_takeClause_200, ↓E_X5_takeClause_201, ↓E_X5_takeClause_204, ↓E_X5_takeClause_205, ↓E_X5_takeClause_206, ↓E_X5_takeClause_207, ↓E_X5_takeClause_208, ↓E_X5_takeClause_211, ↓E_X5_takeClause_212, ↓E_X5_takeClause_213, ↓E_X5_takeClause_216, ↓E_X5_takeClause_217, ↓E_X5_takeClause_218, ↓E_X5_takeClause_219, ↓E_X5_takeClause_220, ↓E_X5_takeClause_223, ↓E_X5_takeClause_226, ↓E_X5_takeClause_227, ↓E_X5_takeClause_228, ↓E_X5_takeClause_229, ↓E_X5_takeClause_230, ↓E_X5_takeClause_233, ↓E_X5_takeClause_236, ↓E_X5_takeClause_237, ↓E_X5_takeClause_240, ↓E_X5_takeClause_241, ↓E_X5_takeClause_242, ↓E_X5_takeClause_243, ↓E_X5_takeClause_244, ↓E_X5_takeClause_247, ↓E_X5_takeClause_248, ↓E_X5_takeClause_249, ↓E_X5_takeClause_252, ↓E_X5_takeClause_253, ↓E_X5_takeClause_254, ↓E_X5_takeClause_255, ↓E_X5_takeClause_256, ↓E_X5_takeClause_259, ↓E_X5_takeClause_260, ↓E_X5_takeClause_261, kd_5, hT, nI_1, c1', e1, nzb]
    rfl
  rw [if_neg e1]
  have e1t := eq_true_of_ne_false e1
  rw [nm1P e1] at H1
  refine ⟨σ1, fun q => ?_, H1, fun c9 hc => ?_, by rw [r1, pk_un (by omega)], F1⟩
  · simp (disch := omega) only [true_and, and_true, and_self, exists_eq_left, Option.toList_some, Option.toList_none, List.cons_append, List.nil_append, List.append_nil, i2_i, i2_r, i2_n, nz0, nz1, true_or, or_true, Nat.reduceAdd, Nat.le_refl, Nat.reduceLT, Nat.reduceLeDiff, ↓E_X5_takeClause_0, ↓E_X5_takeClause_1, ↓E_X5_takeClause_4, ↓E_X5_takeClause_5, ↓E_X5_takeClause_8, ↓E_X5_takeClause_11, ↓E_X5_takeClause_12, ↓E_X5_takeClause_13, ↓E_X5_takeClause_14, ↓E_X5_takeClause_15, ↓E_X5_takeClause_16, ↓E_X5_takeClause_19, ↓E_X5_takeClause_20, ↓E_X5_takeClause_23, ↓E_X5_takeClause_24, ↓E_X5_takeClause_25, ↓E_X5_takeClause_26, ↓E_X5_takeClause_27, ↓E_X5_takeClause_28, ↓E_X5_takeClause_96, ↓E_X5_takeClause_97, ↓E_X5_takeClause_98, ↓E_X5_takeClause_101, ↓E_X5_takeClause_102, ↓E_X5_takeClause_103, ↓E_X5_takeClause_106, ↓E_X5_takeClause_107, ↓E_X5_takeClause_108, ↓E_X5_takeClause_109, ↓E_X5_takeClause_110, ↓E_X5_takeClause_113, ↓E_X5_takeClause_116, ↓E_X5_takeClause_117, ↓E_X5_takeClause_119, ↓E_X5_takeClause_122, ↓E_X5_takeClause_125, ↓E_X5_takeClause_126, ↓E_X5_takeClause_127, ↓E_X5_takeClause_128, ↓E_X5_takeClause_129, ↓E_X5_takeClause_132, ↓E_X5_takeClause_135, ↓E_X5_takeClause_136, ↓E_X5_takeClause_138, ↓E_X5_takeClause_141, ↓E_X5_takeClause_144, ↓E_X5_takeClause_145, ↓E_X5_takeClause_146, ↓E_X5_takeClause_147, ↓E_X5_takeClause_148, ↓E_X5_takeClause_151, ↓E_X5_takeClause_154, ↓E_X5_takeClause_155, ↓E_X5_takeClause_158, ↓E_X5_takeClause_159, ↓E_X5_takeClause_160, ↓E_X5_takeClause_161, ↓E_X5_takeClause_162, ↓E_X5_takeClause_165, ↓E_X5_takeClause_166, ↓E_X5_takeClause_167, ↓E_X5_takeClause_170, ↓E_X5_takeClause_171, ↓E_X5_takeClause_172, ↓E_X5_takeClause_173, ↓E_X5_takeClause_174, ↓E_X5_takeClause_177, ↓E_X5_takeClause_180, ↓E_X5_takeClause_181, ↓E_X5_takeClause_182, ↓E_X5_takeClause_183, ↓E_X5_takeClause_184, ↓E_X5_takeClause_187, ↓E_X5_takeClause_190, ↓E_X5_takeClause_191, ↓E_X5_takeClause_192, ↓E_X5_takeClause_193, ↓E_X5_takeClause_194, ↓E_X5_takeClause_197, ↓E_X5_takeClause_200, ↓E_X5_takeClause_201, ↓E_X5_takeClause_204, ↓E_X5_takeClause_205, ↓E_X5_takeClause_206, ↓E_X5_takeClause_207, ↓E_X5_takeClause_208, ↓E_X5_takeClause_211, ↓E_X5_takeClause_212, ↓E_X5_takeClause_213, ↓E_X5_takeClause_216, ↓E_X5_takeClause_217, ↓E_X5_takeClause_218, ↓E_X5_takeClause_219, ↓E_X5_takeClause_220, ↓E_X5_takeClause_223, ↓E_X5_takeClause_226, ↓E_X5_takeClause_227, ↓E_X5_takeClause_228, ↓E_X5_takeClause_229, ↓E_X5_takeClause_230, ↓E_X5_takeClause_233, ↓E_X5_takeClause_236, ↓E_X5_takeClause_237, ↓E_X5_takeClause_240, ↓E_X5_takeClause_241, ↓E_X5_takeClause_242, ↓E_X5_takeClause_243, ↓E_X5_takeClause_244, ↓E_X5_takeClause_247, ↓E_X5_takeClause_248, ↓E_X5_takeClause_249, ↓E_X5_takeClause_252, ↓E_X5_takeClause_253, ↓E_X5_takeClause_254, ↓E_X5_takeClause_255, ↓E_X5_takeClause_256, ↓E_X5_takeClause_259, ↓E_X5_takeClause_260, ↓E_X5_takeClause_261, kd_5, hT, nI_1, c1', e1t, nzb]
    rfl
  · cases hc
    refine ⟨?_, fun z => by (exfalso; simp only at z; omega), fun z => by (exfalso; simp only at z; omega)⟩
    rw [r1, pk_us]
theorem cE_97 {n : Nat} (h : n < 128) : (nI n = (97 : Int32)) = (n = 97) := eqN (b := 97) (by omega) (by omega)
theorem cE_98 {n : Nat} (h : n < 128) : (nI n = (98 : Int32)) = (n = 98) := eqN (b := 98) (by omega) (by omega)
theorem cE_99 {n : Nat} (h : n < 128) : (nI n = (99 : Int32)) = (n = 99) := eqN (b := 99) (by omega) (by omega)
theorem cE_100 {n : Nat} (h : n < 128) : (nI n = (100 : Int32)) = (n = 100) := eqN (b := 100) (by omega) (by omega)
theorem cE_101 {n : Nat} (h : n < 128) : (nI n = (101 : Int32)) = (n = 101) := eqN (b := 101) (by omega) (by omega)
theorem cE_102 {n : Nat} (h : n < 128) : (nI n = (102 : Int32)) = (n = 102) := eqN (b := 102) (by omega) (by omega)
theorem cE_103 {n : Nat} (h : n < 128) : (nI n = (103 : Int32)) = (n = 103) := eqN (b := 103) (by omega) (by omega)
theorem cE_104 {n : Nat} (h : n < 128) : (nI n = (104 : Int32)) = (n = 104) := eqN (b := 104) (by omega) (by omega)
theorem cE_105 {n : Nat} (h : n < 128) : (nI n = (105 : Int32)) = (n = 105) := eqN (b := 105) (by omega) (by omega)
theorem cE_106 {n : Nat} (h : n < 128) : (nI n = (106 : Int32)) = (n = 106) := eqN (b := 106) (by omega) (by omega)
theorem cE_107 {n : Nat} (h : n < 128) : (nI n = (107 : Int32)) = (n = 107) := eqN (b := 107) (by omega) (by omega)
theorem cE_108 {n : Nat} (h : n < 128) : (nI n = (108 : Int32)) = (n = 108) := eqN (b := 108) (by omega) (by omega)
theorem cE_109 {n : Nat} (h : n < 128) : (nI n = (109 : Int32)) = (n = 109) := eqN (b := 109) (by omega) (by omega)
def rowD (c : Cl) (a : Nat) (f : Nat → Nat → Int32) : Prop := c.1 < 128 ∧ rowC c a f
theorem tkJ_1 {l : List Nat} {i : Nat} {c : Cl} (h : (tkJ l i).1 = some c) : c.1 = 106 := by
  unfold tkJ at h
  by_cases e1 : dgB l i = false
  · rw [if_pos e1] at h; cases h
  rw [if_neg e1] at h
  by_cases e2 : sgB l 44 (jp1 l i) = false
  · rw [if_pos e2] at h; cases h
  rw [if_neg e2] at h
  by_cases e3 : dgB l (jp1 l i + 1) = false
  · rw [if_pos e3] at h; cases h
  rw [if_neg e3] at h
  by_cases e4 : sgB l 44 (jp2 l i) = false
  · rw [if_pos e4] at h; cases h
  rw [if_neg e4] at h
  by_cases e5 : dgB l (jp2 l i + 1) = false
  · rw [if_pos e5] at h; cases h
  rw [if_neg e5] at h
  cases h
  rfl
theorem tkQ_1 {l : List Nat} {i : Nat} {c : Cl} (h : (tkQ l i).1 = some c) : c.1 = 99 := by
  unfold tkQ at h
  by_cases e1 : dgB l i = false
  · rw [if_pos e1] at h; cases h
  rw [if_neg e1] at h
  by_cases e2 : dgB l (i + 1) = false
  · rw [if_pos e2] at h; cases h
  rw [if_neg e2] at h
  by_cases e3 : dgB l (i + 2) = false
  · rw [if_pos e3] at h; cases h
  rw [if_neg e3] at h
  cases h
  rfl
theorem tkD_1 {l : List Nat} {i : Nat} {c : Cl} (h : (tkD l i).1 = some c) : c.1 = 100 := by
  unfold tkD at h
  by_cases e1 : dgB l i = false
  · rw [if_pos e1] at h; cases h
  rw [if_neg e1] at h
  by_cases e2 : dgB l (i + 1) = false
  · rw [if_pos e2] at h; cases h
  rw [if_neg e2] at h
  cases h
  rfl
theorem tkM_1 {l : List Nat} {c9 i : Nat} {c : Cl} (h : (tkM l c9 i).1 = some c) : c.1 = c9 := by
  unfold tkM at h
  by_cases e1 : dgB l i = false
  · rw [if_pos e1] at h; cases h
  rw [if_neg e1] at h
  cases h
  rfl
set_option maxHeartbeats 4000000 in
theorem s_clause {d a nx : Nat} {σ : mx_S} {l : List Nat} (ok : okL l) (hx : nx ≤ l.length) (ha : 63 ≤ a ∧ a ≤ 74) (H : txI l nx σ.1) : ∃ σ', (∀ q, mx_call (d + 2) m_X5_takeClause [.ref 60, .ref a] σ q ↔ q = (some (.int (bz (tkC l nx).1.isSome)), σ')) ∧ txI l (tkC l nx).2 σ'.1 ∧ (∀ c, (tkC l nx).1 = some c → rowD c a σ'.1) ∧ frT a σ σ' := by
  have hl := ok.1
  obtain ⟨T1, T2, T3⟩ := id H
  unfold tkC
  by_cases e0 : l.length ≤ nx
  · rw [if_pos e0]
    refine ⟨σ, fun q => ?_, H, fun c hc => by (cases hc), frT.rf⟩
    simp (disch := omega) only [C_X5_takeClause, true_and, and_true, and_self, exists_eq_left, Option.toList_some, Option.toList_none, List.cons_append, List.nil_append, List.append_nil, i2_i, i2_r, i2_n, nz0, nz1, true_or, or_true, Nat.reduceAdd, Nat.le_refl, Nat.reduceLT, Nat.reduceLeDiff, ↓E_X5_takeClause_0, ↓E_X5_takeClause_1, ↓E_X5_takeClause_4, ↓E_X5_takeClause_5, ↓E_X5_takeClause_8, ↓E_X5_takeClause_11, ↓E_X5_takeClause_12, ↓E_X5_takeClause_14, ↓E_X5_takeClause_15, ↓E_X5_takeClause_16, ↓E_X5_takeClause_19, ↓E_X5_takeClause_20, ↓E_X5_takeClause_23, ↓E_X5_takeClause_24, ↓E_X5_takeClause_25, ↓E_X5_takeClause_26, ↓E_X5_takeClause_27, ↓E_X5_takeClause_96, ↓E_X5_takeClause_97, ↓E_X5_takeClause_98, ↓E_X5_takeClause_101, ↓E_X5_takeClause_102, ↓E_X5_takeClause_103, ↓E_X5_takeClause_106, ↓E_X5_takeClause_107, ↓E_X5_takeClause_108, ↓E_X5_takeClause_109, ↓E_X5_takeClause_110, ↓E_X5_takeClause_113, ↓E_X5_takeClause_116, ↓E_X5_takeClause_117, ↓E_X5_takeClause_119, ↓E_X5_takeClause_122, ↓E_X5_takeClause_125, ↓E_X5_takeClause_126, ↓E_X5_takeClause_127, ↓E_X5_takeClause_128, ↓E_X5_takeClause_129, ↓E_X5_takeClause_132, ↓E_X5_takeClause_135, ↓E_X5_takeClause_136, ↓E_X5_takeClause_138, ↓E_X5_takeClause_141, ↓E_X5_takeClause_144, ↓E_X5_takeClause_145, ↓E_X5_takeClause_146, ↓E_X5_takeClause_147, ↓E_X5_takeClause_148, ↓E_X5_takeClause_151, ↓E_X5_takeClause_154, ↓E_X5_takeClause_155, ↓E_X5_takeClause_158, ↓E_X5_takeClause_159, ↓E_X5_takeClause_160, ↓E_X5_takeClause_161, ↓E_X5_takeClause_162, ↓E_X5_takeClause_165, ↓E_X5_takeClause_166, ↓E_X5_takeClause_167, ↓E_X5_takeClause_170, ↓E_X5_takeClause_171, ↓E_X5_takeClause_172, ↓E_X5_takeClause_173, ↓E_X5_takeClause_174, ↓E_X5_takeClause_177, ↓E_X5_takeClause_180, ↓E_X5_takeClause_181, ↓E_X5_takeClause_182, ↓E_X5_takeClause_183, ↓E_X5_takeClause_184, ↓E_X5_takeClause_187, ↓E_X5_takeClause_190, ↓E_X5_takeClause_191, ↓E_X5_takeClause_192, ↓E_X5_takeClause_193, ↓E_X5_takeClause_194, ↓E_X5_takeClause_197, ↓E_X5_takeClause_200, ↓E_X5_takeClause_201, ↓E_X5_takeClause_204, ↓E_X5_takeClause_205, ↓E_X5_takeClause_206, ↓E_X5_takeClause_207, ↓E_X5_takeClause_208, ↓E_X5_takeClause_211, ↓E_X5_takeClause_212, ↓E_X5_takeClause_213, ↓E_X5_takeClause_216, ↓E_X5_takeClause_217, ↓E_X5_takeClause_218, ↓E_X5_takeClause_219, ↓E_X5_takeClause_220, ↓E_X5_takeClause_223, ↓E_X5_takeClause_226, ↓E_X5_takeClause_227, ↓E_X5_takeClause_228, ↓E_X5_takeClause_229, ↓E_X5_takeClause_230, ↓E_X5_takeClause_233, ↓E_X5_takeClause_236, ↓E_X5_takeClause_237, ↓E_X5_takeClause_240, ↓E_X5_takeClause_241, ↓E_X5_takeClause_242, ↓E_X5_takeClause_243, ↓E_X5_takeClause_244, ↓E_X5_takeClause_247, ↓E_X5_takeClause_248, ↓E_X5_takeClause_249, ↓E_X5_takeClause_252, ↓E_X5_takeClause_253, ↓E_X5_takeClause_254, ↓E_X5_takeClause_255, ↓E_X5_takeClause_256, ↓E_X5_takeClause_259, ↓E_X5_takeClause_260, ↓E_X5_takeClause_261, kd_5, T1, T3, leN, ltN, if_pos e0, if_neg (show ¬ nx < l.length by omega)]
    rfl
  rw [if_neg e0]
  have gx : nx < l.length := by omega
  have r := T2 nx gx
  have gb := okL_get ok nx
  generalize l.getD nx 0 = x at *
  have H1 : txI l nx (mx_u σ.1 a 0 (nI x)) := by
    refine ⟨?_, fun i hi => ?_, ?_⟩
    · simp (disch := omega) only [uu_row]; exact T1
    · simp (disch := omega) only [uu_row]; exact T2 i hi
    · simp (disch := omega) only [uu_row]; exact T3
  have f1 : frT a σ (mx_u σ.1 a 0 (nI x), σ.2) := ⟨fun i h1 h2 => mx_u_ne h2, fun k hk => by show mx_u _ _ _ _ _ _ = _; rw [mx_u_ne (by omega)], rfl⟩
  have z1 : mx_u σ.1 a 0 (nI x) a 0 = nI x := uu_same
  have start : ∀ q, mx_call (d + 2) m_X5_takeClause [.ref 60, .ref a] σ q ↔ mx_run (d + 1) m_X5_takeClause 28 [some (.ref 60), some (.ref a)] [.int (nI x)] (mx_u σ.1 a 0 (nI x), σ.2) q := by
    intro q
    simp (disch := omega) only [C_X5_takeClause, true_and, and_true, and_self, exists_eq_left, Option.toList_some, Option.toList_none, List.cons_append, List.nil_append, List.append_nil, i2_i, i2_r, i2_n, nz0, nz1, true_or, or_true, Nat.reduceAdd, Nat.le_refl, Nat.reduceLT, Nat.reduceLeDiff, ↓E_X5_takeClause_0, ↓E_X5_takeClause_1, ↓E_X5_takeClause_4, ↓E_X5_takeClause_5, ↓E_X5_takeClause_8, ↓E_X5_takeClause_11, ↓E_X5_takeClause_12, ↓E_X5_takeClause_13, ↓E_X5_takeClause_14, ↓E_X5_takeClause_15, ↓E_X5_takeClause_16, ↓E_X5_takeClause_19, ↓E_X5_takeClause_20, ↓E_X5_takeClause_23, ↓E_X5_takeClause_24, ↓E_X5_takeClause_25, ↓E_X5_takeClause_26, ↓E_X5_takeClause_27, ↓E_X5_takeClause_96, ↓E_X5_takeClause_97, ↓E_X5_takeClause_98, ↓E_X5_takeClause_101, ↓E_X5_takeClause_102, ↓E_X5_takeClause_103, ↓E_X5_takeClause_106, ↓E_X5_takeClause_107, ↓E_X5_takeClause_108, ↓E_X5_takeClause_109, ↓E_X5_takeClause_110, ↓E_X5_takeClause_113, ↓E_X5_takeClause_116, ↓E_X5_takeClause_117, ↓E_X5_takeClause_119, ↓E_X5_takeClause_122, ↓E_X5_takeClause_125, ↓E_X5_takeClause_126, ↓E_X5_takeClause_127, ↓E_X5_takeClause_128, ↓E_X5_takeClause_129, ↓E_X5_takeClause_132, ↓E_X5_takeClause_135, ↓E_X5_takeClause_136, ↓E_X5_takeClause_138, ↓E_X5_takeClause_141, ↓E_X5_takeClause_144, ↓E_X5_takeClause_145, ↓E_X5_takeClause_146, ↓E_X5_takeClause_147, ↓E_X5_takeClause_148, ↓E_X5_takeClause_151, ↓E_X5_takeClause_154, ↓E_X5_takeClause_155, ↓E_X5_takeClause_158, ↓E_X5_takeClause_159, ↓E_X5_takeClause_160, ↓E_X5_takeClause_161, ↓E_X5_takeClause_162, ↓E_X5_takeClause_165, ↓E_X5_takeClause_166, ↓E_X5_takeClause_167, ↓E_X5_takeClause_170, ↓E_X5_takeClause_171, ↓E_X5_takeClause_172, ↓E_X5_takeClause_173, ↓E_X5_takeClause_174, ↓E_X5_takeClause_177, ↓E_X5_takeClause_180, ↓E_X5_takeClause_181, ↓E_X5_takeClause_182, ↓E_X5_takeClause_183, ↓E_X5_takeClause_184, ↓E_X5_takeClause_187, ↓E_X5_takeClause_190, ↓E_X5_takeClause_191, ↓E_X5_takeClause_192, ↓E_X5_takeClause_193, ↓E_X5_takeClause_194, ↓E_X5_takeClause_197, ↓E_X5_takeClause_200, ↓E_X5_takeClause_201, ↓E_X5_takeClause_204, ↓E_X5_takeClause_205, ↓E_X5_takeClause_206, ↓E_X5_takeClause_207, ↓E_X5_takeClause_208, ↓E_X5_takeClause_211, ↓E_X5_takeClause_212, ↓E_X5_takeClause_213, ↓E_X5_takeClause_216, ↓E_X5_takeClause_217, ↓E_X5_takeClause_218, ↓E_X5_takeClause_219, ↓E_X5_takeClause_220, ↓E_X5_takeClause_223, ↓E_X5_takeClause_226, ↓E_X5_takeClause_227, ↓E_X5_takeClause_228, ↓E_X5_takeClause_229, ↓E_X5_takeClause_230, ↓E_X5_takeClause_233, ↓E_X5_takeClause_236, ↓E_X5_takeClause_237, ↓E_X5_takeClause_240, ↓E_X5_takeClause_241, ↓E_X5_takeClause_242, ↓E_X5_takeClause_243, ↓E_X5_takeClause_244, ↓E_X5_takeClause_247, ↓E_X5_takeClause_248, ↓E_X5_takeClause_249, ↓E_X5_takeClause_252, ↓E_X5_takeClause_253, ↓E_X5_takeClause_254, ↓E_X5_takeClause_255, ↓E_X5_takeClause_256, ↓E_X5_takeClause_259, ↓E_X5_takeClause_260, ↓E_X5_takeClause_261, kd_5, kd_9, kd_8, ln_100, ln_4, T1, T3, leN, ltN, if_neg e0, if_pos gx, vin, clN, vin_0, cl_0, r, uu_same]
  have fin : ∀ (res : Option Cl × Nat) (σ' : mx_S) (y : Nat), x = y → (∀ c, res.1 = some c → c.1 = y) → clE res l a (mx_u σ.1 a 0 (nI x), σ.2) σ' → txI l res.2 σ'.1 ∧ (∀ c, res.1 = some c → rowD c a σ'.1) ∧ frT a σ σ' := by
    intro res σ' y hy hc h
    obtain ⟨h1, h2, h3, h4⟩ := h
    refine ⟨h1, fun c hr => ?_, f1.tr h4⟩
    obtain ⟨k1, k2, k3⟩ := h2 c hr
    have := hc c hr
    refine ⟨by omega, ?_, k1, k2, k3⟩
    rw [h3]
    show mx_u σ.1 a 0 (nI x) a 0 = _
    rw [z1, this, hy]
  by_cases h1 : x = 106
  · rw [if_pos h1]
    obtain ⟨σ', c, h⟩ := c_j (d := d) (σ := (mx_u σ.1 a 0 (nI x), σ.2)) ok gx ha H1
    refine ⟨σ', fun q => ?_, fin _ σ' 106 h1 (fun c hc => tkJ_1 hc) h⟩
    rw [start, E_X5_takeClause_28]
    simp (disch := omega) only [cE_97, cE_98, cE_99, cE_100, cE_101, cE_102, cE_103, cE_104, cE_105, cE_106, if_neg (show ¬ x = 97 by omega), if_neg (show ¬ x = 98 by omega), if_neg (show ¬ x = 99 by omega), if_neg (show ¬ x = 100 by omega), if_neg (show ¬ x = 101 by omega), if_neg (show ¬ x = 102 by omega), if_neg (show ¬ x = 103 by omega), if_neg (show ¬ x = 104 by omega), if_neg (show ¬ x = 105 by omega), if_pos h1]
    exact c q
  rw [if_neg h1]
  by_cases h2 : x = 99
  · rw [if_pos h2]
    obtain ⟨σ', c, h⟩ := c_q (d := d) (σ := (mx_u σ.1 a 0 (nI x), σ.2)) ok gx ha H1
    refine ⟨σ', fun q => ?_, fin _ σ' 99 h2 (fun c hc => tkQ_1 hc) h⟩
    rw [start, E_X5_takeClause_28]
    simp (disch := omega) only [cE_97, cE_98, cE_99, if_neg (show ¬ x = 97 by omega), if_neg (show ¬ x = 98 by omega), if_pos h2]
    exact c q
  rw [if_neg h2]
  by_cases h3 : x = 100
  · rw [if_pos h3]
    obtain ⟨σ', c, h⟩ := c_d (d := d) (σ := (mx_u σ.1 a 0 (nI x), σ.2)) ok gx ha H1
    refine ⟨σ', fun q => ?_, fin _ σ' 100 h3 (fun c hc => tkD_1 hc) h⟩
    rw [start, E_X5_takeClause_28]
    simp (disch := omega) only [cE_97, cE_98, cE_99, cE_100, if_neg (show ¬ x = 97 by omega), if_neg (show ¬ x = 98 by omega), if_neg h2, if_pos h3]
    exact c q
  rw [if_neg h3]
  by_cases h4 : x = 109
  · rw [if_pos h4]
    obtain ⟨σ', c, h⟩ := c_m (d := d) (c := 109) (Or.inl rfl) (σ := (mx_u σ.1 a 0 (nI x), σ.2)) ok gx ha H1
    refine ⟨σ', fun q => ?_, fin _ σ' 109 h4 (fun c hc => tkM_1 hc) h⟩
    rw [start, E_X5_takeClause_28]
    simp (disch := omega) only [cE_97, cE_98, cE_99, cE_100, cE_101, cE_102, cE_103, cE_104, cE_105, cE_106, cE_107, cE_108, cE_109, if_neg (show ¬ x = 97 by omega), if_neg (show ¬ x = 98 by omega), if_neg (show ¬ x = 99 by omega), if_neg (show ¬ x = 100 by omega), if_neg (show ¬ x = 101 by omega), if_neg (show ¬ x = 102 by omega), if_neg (show ¬ x = 103 by omega), if_neg (show ¬ x = 104 by omega), if_neg (show ¬ x = 105 by omega), if_neg (show ¬ x = 106 by omega), if_neg (show ¬ x = 107 by omega), if_neg (show ¬ x = 108 by omega), if_pos h4]
    exact c q
  rw [if_neg h4]
  by_cases h5 : x = 97
  · rw [if_pos h5]
    obtain ⟨σ', c, h⟩ := c_m (d := d) (c := 97) (Or.inr rfl) (σ := (mx_u σ.1 a 0 (nI x), σ.2)) ok gx ha H1
    refine ⟨σ', fun q => ?_, fin _ σ' 97 h5 (fun c hc => tkM_1 hc) h⟩
    rw [start, E_X5_takeClause_28, if_pos (show nI x = (97 : Int32) by rw [h5]; rfl)]
    exact c q
  rw [if_neg h5]
  refine ⟨(mx_u σ.1 a 0 (nI x), σ.2), fun q => ?_, H1, fun c hc => by (cases hc), f1⟩
  have sm : ∀ {P Q : Prop} {B : Prop} [Decidable B], ((if B then P else P) = Q) = (P = Q) := by
    intro P Q B _
    by_cases hB : B
    · rw [if_pos hB]
    · rw [if_neg hB]
  rw [start, E_X5_takeClause_28]
  simp (disch := omega) only [cE_97, cE_99, cE_100, cE_106, cE_109, if_neg h1, if_neg h2, if_neg h3, if_neg h4, if_neg h5, ite_self, true_and, and_true, and_self, exists_eq_left, Option.toList_some, Option.toList_none, List.cons_append, List.nil_append, List.append_nil, i2_i, i2_r, i2_n, nz0, nz1, true_or, or_true, Nat.reduceAdd, Nat.le_refl, Nat.reduceLT, Nat.reduceLeDiff, ↓E_X5_takeClause_0, ↓E_X5_takeClause_1, ↓E_X5_takeClause_4, ↓E_X5_takeClause_5, ↓E_X5_takeClause_8, ↓E_X5_takeClause_11, ↓E_X5_takeClause_12, ↓E_X5_takeClause_13, ↓E_X5_takeClause_14, ↓E_X5_takeClause_15, ↓E_X5_takeClause_16, ↓E_X5_takeClause_19, ↓E_X5_takeClause_20, ↓E_X5_takeClause_23, ↓E_X5_takeClause_24, ↓E_X5_takeClause_25, ↓E_X5_takeClause_26, ↓E_X5_takeClause_27, ↓E_X5_takeClause_96, ↓E_X5_takeClause_97, ↓E_X5_takeClause_98, ↓E_X5_takeClause_101, ↓E_X5_takeClause_102, ↓E_X5_takeClause_103, ↓E_X5_takeClause_106, ↓E_X5_takeClause_107, ↓E_X5_takeClause_108, ↓E_X5_takeClause_109, ↓E_X5_takeClause_110, ↓E_X5_takeClause_113, ↓E_X5_takeClause_116, ↓E_X5_takeClause_117, ↓E_X5_takeClause_119, ↓E_X5_takeClause_122, ↓E_X5_takeClause_125, ↓E_X5_takeClause_126, ↓E_X5_takeClause_127, ↓E_X5_takeClause_128, ↓E_X5_takeClause_129, ↓E_X5_takeClause_132, ↓E_X5_takeClause_135, ↓E_X5_takeClause_136, ↓E_X5_takeClause_138, ↓E_X5_takeClause_141, ↓E_X5_takeClause_144, ↓E_X5_takeClause_145, ↓E_X5_takeClause_146, ↓E_X5_takeClause_147, ↓E_X5_takeClause_148, ↓E_X5_takeClause_151, ↓E_X5_takeClause_154, ↓E_X5_takeClause_155, ↓E_X5_takeClause_158, ↓E_X5_takeClause_159, ↓E_X5_takeClause_160, ↓E_X5_takeClause_161, ↓E_X5_takeClause_162, ↓E_X5_takeClause_165, ↓E_X5_takeClause_166, ↓E_X5_takeClause_167, ↓E_X5_takeClause_170, ↓E_X5_takeClause_171, ↓E_X5_takeClause_172, ↓E_X5_takeClause_173, ↓E_X5_takeClause_174, ↓E_X5_takeClause_177, ↓E_X5_takeClause_180, ↓E_X5_takeClause_181, ↓E_X5_takeClause_182, ↓E_X5_takeClause_183, ↓E_X5_takeClause_184, ↓E_X5_takeClause_187, ↓E_X5_takeClause_190, ↓E_X5_takeClause_191, ↓E_X5_takeClause_192, ↓E_X5_takeClause_193, ↓E_X5_takeClause_194, ↓E_X5_takeClause_197, ↓E_X5_takeClause_200, ↓E_X5_takeClause_201, ↓E_X5_takeClause_204, ↓E_X5_takeClause_205, ↓E_X5_takeClause_206, ↓E_X5_takeClause_207, ↓E_X5_takeClause_208, ↓E_X5_takeClause_211, ↓E_X5_takeClause_212, ↓E_X5_takeClause_213, ↓E_X5_takeClause_216, ↓E_X5_takeClause_217, ↓E_X5_takeClause_218, ↓E_X5_takeClause_219, ↓E_X5_takeClause_220, ↓E_X5_takeClause_223, ↓E_X5_takeClause_226, ↓E_X5_takeClause_227, ↓E_X5_takeClause_228, ↓E_X5_takeClause_229, ↓E_X5_takeClause_230, ↓E_X5_takeClause_233, ↓E_X5_takeClause_236, ↓E_X5_takeClause_237, ↓E_X5_takeClause_240, ↓E_X5_takeClause_241, ↓E_X5_takeClause_242, ↓E_X5_takeClause_243, ↓E_X5_takeClause_244, ↓E_X5_takeClause_247, ↓E_X5_takeClause_248, ↓E_X5_takeClause_249, ↓E_X5_takeClause_252, ↓E_X5_takeClause_253, ↓E_X5_takeClause_254, ↓E_X5_takeClause_255, ↓E_X5_takeClause_256, ↓E_X5_takeClause_259, ↓E_X5_takeClause_260, ↓E_X5_takeClause_261]
  rfl
