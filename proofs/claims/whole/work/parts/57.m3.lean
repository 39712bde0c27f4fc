/-! ===== the reference: rows told by hand, moves ===== -/
theorem rowM_add {l : List (Nat × Nat)} {k a b x y : Nat} {f : Nat → Nat → Int32} (h1 : a ≠ b) (h2 : a ≠ 88) (h3 : b ≠ 88) (H : rowM l k a b f) : rowM (l ++ [(x, y)]) k a b (mx_u (mx_u (mx_u f a l.length (nI x)) b l.length (nI y)) 88 k (nI (l.length + 1))) := by
  refine ⟨?_, fun i hi => ?_⟩
  · simp only [uu_same, List.length_append, List.length_cons, List.length_nil]
  · rw [List.length_append, List.length_singleton] at hi
    by_cases e : i = l.length
    · subst e
      simp (disch := omega) only [uu_row, uu_same, getD_end, and_self]
    · simp (disch := omega) only [uu_row, uu_col, getD_app]
      exact H.2 i (by omega)
theorem rowM_nil {k a b : Nat} {f : Nat → Nat → Int32} : rowM [] k a b (mx_u f 88 k 0) := ⟨by simp only [uu_same]; rfl, fun i hi => by simp at hi⟩
set_option maxHeartbeats 2000000 in
theorem M_see {d : Nat} {σ : mx_S} {w : Vw} {a b : Int32} (hw : vwM w σ) : ∃ σ', mx_call (d + 3) m_X7_see [.ref 88, .int a, .int b] σ (some (.int (F_see w a b).1), σ') ∧ vwM (F_see w a b).2 σ' ∧ loS σ σ' := by
  obtain ⟨H1, ⟨⟨S1, -⟩, R1, R2, R3⟩, H3, H4, H5⟩ := id hw
  have hn := H1.1.1
  have hl := H1.1.2.2.2.2.2.1
  have e9 : (nI w.1.se.length = (5 : Int32)) = (w.1.se.length = 5) := eqN (b := 5) (by omega) (by omega)
  simp (disch := omega) only [C_X7_see, true_and, and_true, and_self, exists_eq_left, Option.toList_some, Option.toList_none, List.cons_append, List.nil_append, List.append_nil, i2_i, i2_r, i2_n, nz0, nz1, true_or, or_true, Nat.reduceAdd, Nat.le_refl, Nat.reduceLT, Nat.reduceLeDiff, ↓E_X7_see_0, ↓E_X7_see_1, ↓E_X7_see_2, ↓E_X7_see_5, ↓E_X7_see_6, ↓E_X7_see_7, ↓E_X7_see_10, ↓E_X7_see_11, ↓E_X7_see_12, ↓E_X7_see_13, ↓E_X7_see_14, ↓E_X7_see_17, ↓E_X7_see_20, ↓E_X7_see_21, ↓E_X7_see_22, ↓E_X7_see_23, ↓E_X7_see_24, ↓E_X7_see_25, ↓E_X7_see_28, ↓E_X7_see_31, ↓E_X7_see_34, ↓E_X7_see_36, ↓E_X7_see_37, ↓E_X7_see_38, ↓E_X7_see_41, ↓E_X7_see_42, ↓E_X7_see_45, ↓E_X7_see_47, ↓E_X7_see_49, ↓E_X7_see_52, ↓E_X7_see_53, ↓E_X7_see_56, ↓E_X7_see_57, ↓E_X7_see_58, ↓E_X7_see_59, ↓E_X7_see_62, ↓E_X7_see_63, ↓E_X7_see_66, ↓E_X7_see_67, ↓E_X7_see_68, ↓E_X7_see_69, ↓E_X7_see_70, ↓E_X7_see_73, ↓E_X7_see_74, ↓E_X7_see_75, ↓E_X7_see_78, ↓E_X7_see_79, ↓E_X7_see_82, m_isJob hn S1, s_in, inL_5, bz_0, R1.1, e9]
  unfold F_see
  by_cases e0 : a = -1
  · simp only [if_pos e0]
    exact ⟨_, rfl, vwM_se hw ⟨Nat.zero_le _, fun x hx => by simp at hx⟩ rowM_nil (fun k h1 h2 => uu_col h2) (fun i h1 h2 h3 h4 => mx_u_ne (by omega)) rfl, fun i hi => ⟨mx_u_ne (by omega), rfl⟩⟩
  simp only [if_neg e0]
  by_cases e1 : ibI a w.1.jn = false
  · simp only [if_pos e1]
    exact ⟨σ, rfl, hw, loS.rf⟩
  simp only [if_neg e1]
  by_cases e2 : ibI b 6 = false
  · simp only [if_pos e2]
    exact ⟨σ, rfl, hw, loS.rf⟩
  simp only [if_neg e2]
  by_cases e3 : w.1.se.length = 5
  · simp only [if_pos e3]
    exact ⟨σ, rfl, hw, loS.rf⟩
  simp only [if_neg e3]
  obtain ⟨ha, ha2, ha3⟩ := ibI_of (eq_true_of_ne_false e1)
  obtain ⟨hb, hb2, hb3⟩ := ibI_of (eq_true_of_ne_false e2)
  generalize ixI a = j at *
  generalize ixI b = p at *
  subst ha
  subst hb
  simp (disch := omega) only [true_and, and_true, and_self, exists_eq_left, Option.toList_some, Option.toList_none, List.cons_append, List.nil_append, List.append_nil, i2_i, i2_r, i2_n, nz0, nz1, true_or, or_true, Nat.reduceAdd, Nat.le_refl, Nat.reduceLT, Nat.reduceLeDiff, ↓E_X7_see_0, ↓E_X7_see_1, ↓E_X7_see_2, ↓E_X7_see_5, ↓E_X7_see_6, ↓E_X7_see_7, ↓E_X7_see_10, ↓E_X7_see_11, ↓E_X7_see_12, ↓E_X7_see_13, ↓E_X7_see_14, ↓E_X7_see_17, ↓E_X7_see_20, ↓E_X7_see_21, ↓E_X7_see_22, ↓E_X7_see_23, ↓E_X7_see_24, ↓E_X7_see_25, ↓E_X7_see_28, ↓E_X7_see_31, ↓E_X7_see_34, ↓E_X7_see_36, ↓E_X7_see_37, ↓E_X7_see_38, ↓E_X7_see_41, ↓E_X7_see_42, ↓E_X7_see_45, ↓E_X7_see_47, ↓E_X7_see_48, ↓E_X7_see_49, ↓E_X7_see_52, ↓E_X7_see_53, ↓E_X7_see_56, ↓E_X7_see_57, ↓E_X7_see_58, ↓E_X7_see_59, ↓E_X7_see_62, ↓E_X7_see_63, ↓E_X7_see_66, ↓E_X7_see_67, ↓E_X7_see_68, ↓E_X7_see_69, ↓E_X7_see_70, ↓E_X7_see_73, ↓E_X7_see_74, ↓E_X7_see_75, ↓E_X7_see_78, ↓E_X7_see_79, ↓E_X7_see_82, kd_8, ln_5, R1.1, vin, clN, uu_row, uu_same, nI_1]
  refine ⟨_, rfl, vwM_se hw ⟨by rw [List.length_append, List.length_singleton]; omega, fun x hx => ?_⟩ (rowM_add (by omega) (by omega) (by omega) R1) (fun k h1 h2 => by simp (disch := omega) only [uu_col, uu_row]) (fun i h1 h2 h3 h4 => by simp (disch := omega) only [mx_u_ne]) rfl, fun i hi => ⟨by simp (disch := omega) only [mx_u_ne], rfl⟩⟩
  rcases List.mem_append.mp hx with h1 | h1
  · exact hl.2 x h1
  · rw [List.mem_singleton.mp h1]; exact ⟨ha2, hb2⟩
set_option maxHeartbeats 2000000 in
theorem M_book {d : Nat} {σ : mx_S} {w : Vw} {a b : Int32} (hw : vwM w σ) : ∃ σ', mx_call (d + 3) m_X7_book [.ref 88, .int a, .int b] σ (some (.int (F_book w a b).1), σ') ∧ vwM (F_book w a b).2 σ' ∧ loS σ σ' := by
  obtain ⟨H1, ⟨⟨S1, -⟩, R1, R2, R3⟩, H3, H4, H5⟩ := id hw
  have hn := H1.1.1
  have hl := H1.1.2.2.2.2.2.2.2
  have e9 : (nI w.1.bk.length = (8 : Int32)) = (w.1.bk.length = 8) := eqN (b := 8) (by omega) (by omega)
  simp (disch := omega) only [C_X7_book, true_and, and_true, and_self, exists_eq_left, Option.toList_some, Option.toList_none, List.cons_append, List.nil_append, List.append_nil, i2_i, i2_r, i2_n, nz0, nz1, true_or, or_true, Nat.reduceAdd, Nat.le_refl, Nat.reduceLT, Nat.reduceLeDiff, ↓E_X7_book_0, ↓E_X7_book_1, ↓E_X7_book_2, ↓E_X7_book_5, ↓E_X7_book_6, ↓E_X7_book_7, ↓E_X7_book_10, ↓E_X7_book_11, ↓E_X7_book_12, ↓E_X7_book_13, ↓E_X7_book_14, ↓E_X7_book_17, ↓E_X7_book_20, ↓E_X7_book_21, ↓E_X7_book_22, ↓E_X7_book_23, ↓E_X7_book_24, ↓E_X7_book_25, ↓E_X7_book_28, ↓E_X7_book_31, ↓E_X7_book_34, ↓E_X7_book_36, ↓E_X7_book_37, ↓E_X7_book_38, ↓E_X7_book_41, ↓E_X7_book_43, ↓E_X7_book_46, ↓E_X7_book_48, ↓E_X7_book_50, ↓E_X7_book_53, ↓E_X7_book_54, ↓E_X7_book_57, ↓E_X7_book_58, ↓E_X7_book_59, ↓E_X7_book_60, ↓E_X7_book_63, ↓E_X7_book_64, ↓E_X7_book_67, ↓E_X7_book_68, ↓E_X7_book_69, ↓E_X7_book_70, ↓E_X7_book_71, ↓E_X7_book_74, ↓E_X7_book_75, ↓E_X7_book_76, ↓E_X7_book_79, ↓E_X7_book_80, ↓E_X7_book_83, m_isJob hn S1, s_in, inL_5, bz_0, R3.1, e9]
  unfold F_book
  by_cases e0 : a = -1
  · simp only [if_pos e0]
    exact ⟨_, rfl, vwM_bk hw ⟨Nat.zero_le _, fun x hx => by simp at hx⟩ rowM_nil (fun k h1 h2 => uu_col h2) (fun i h1 h2 h3 h4 => mx_u_ne (by omega)) rfl, fun i hi => ⟨mx_u_ne (by omega), rfl⟩⟩
  simp only [if_neg e0]
  by_cases e1 : ibI a w.1.jn = false
  · simp only [if_pos e1]
    exact ⟨σ, rfl, hw, loS.rf⟩
  simp only [if_neg e1]
  by_cases e2 : ibI b 6 = false
  · simp only [if_pos e2]
    exact ⟨σ, rfl, hw, loS.rf⟩
  simp only [if_neg e2]
  by_cases e3 : w.1.bk.length = 8
  · simp only [if_pos e3]
    exact ⟨σ, rfl, hw, loS.rf⟩
  simp only [if_neg e3]
  obtain ⟨ha, ha2, ha3⟩ := ibI_of (eq_true_of_ne_false e1)
  obtain ⟨hb, hb2, hb3⟩ := ibI_of (eq_true_of_ne_false e2)
  generalize ixI a = j at *
  generalize ixI b = p at *
  subst ha
  subst hb
  simp (disch := omega) only [true_and, and_true, and_self, exists_eq_left, Option.toList_some, Option.toList_none, List.cons_append, List.nil_append, List.append_nil, i2_i, i2_r, i2_n, nz0, nz1, true_or, or_true, Nat.reduceAdd, Nat.le_refl, Nat.reduceLT, Nat.reduceLeDiff, ↓E_X7_book_0, ↓E_X7_book_1, ↓E_X7_book_2, ↓E_X7_book_5, ↓E_X7_book_6, ↓E_X7_book_7, ↓E_X7_book_10, ↓E_X7_book_11, ↓E_X7_book_12, ↓E_X7_book_13, ↓E_X7_book_14, ↓E_X7_book_17, ↓E_X7_book_20, ↓E_X7_book_21, ↓E_X7_book_22, ↓E_X7_book_23, ↓E_X7_book_24, ↓E_X7_book_25, ↓E_X7_book_28, ↓E_X7_book_31, ↓E_X7_book_34, ↓E_X7_book_36, ↓E_X7_book_37, ↓E_X7_book_38, ↓E_X7_book_41, ↓E_X7_book_43, ↓E_X7_book_46, ↓E_X7_book_48, ↓E_X7_book_49, ↓E_X7_book_50, ↓E_X7_book_53, ↓E_X7_book_54, ↓E_X7_book_57, ↓E_X7_book_58, ↓E_X7_book_59, ↓E_X7_book_60, ↓E_X7_book_63, ↓E_X7_book_64, ↓E_X7_book_67, ↓E_X7_book_68, ↓E_X7_book_69, ↓E_X7_book_70, ↓E_X7_book_71, ↓E_X7_book_74, ↓E_X7_book_75, ↓E_X7_book_76, ↓E_X7_book_79, ↓E_X7_book_80, ↓E_X7_book_83, kd_8, ln_8, R3.1, vin, clN, uu_row, uu_same, nI_1]
  refine ⟨_, rfl, vwM_bk hw ⟨by rw [List.length_append, List.length_singleton]; omega, fun x hx => ?_⟩ (rowM_add (by omega) (by omega) (by omega) R3) (fun k h1 h2 => by simp (disch := omega) only [uu_col, uu_row]) (fun i h1 h2 h3 h4 => by simp (disch := omega) only [mx_u_ne]) rfl, fun i hi => ⟨by simp (disch := omega) only [mx_u_ne], rfl⟩⟩
  rcases List.mem_append.mp hx with h1 | h1
  · exact hl.2 x h1
  · rw [List.mem_singleton.mp h1]; exact ⟨ha2, hb2⟩
set_option maxHeartbeats 2000000 in
theorem M_event {d : Nat} {σ : mx_S} {w : Vw} {a b : Int32} (hw : vwM w σ) : ∃ σ', mx_call (d + 3) m_X7_event [.ref 88, .int a, .int b] σ (some (.int (F_event w a b).1), σ') ∧ vwM (F_event w a b).2 σ' ∧ loS σ σ' := by
  obtain ⟨H1, ⟨⟨S1, -⟩, R1, R2, R3⟩, H3, H4, H5⟩ := id hw
  have hn := H1.1.1
  have hl := H1.1.2.2.2.2.2.2.1
  have e9 : (nI w.1.ev.length = (8 : Int32)) = (w.1.ev.length = 8) := eqN (b := 8) (by omega) (by omega)
  generalize hF : F_event w a b = R
  unfold F_event at hF
  simp (disch := omega) only [C_X7_event, true_and, and_true, and_self, exists_eq_left, Option.toList_some, Option.toList_none, List.cons_append, List.nil_append, List.append_nil, i2_i, i2_r, i2_n, nz0, nz1, true_or, or_true, Nat.reduceAdd, Nat.le_refl, Nat.reduceLT, Nat.reduceLeDiff, ↓E_X7_event_0, ↓E_X7_event_1, ↓E_X7_event_2, ↓E_X7_event_5, ↓E_X7_event_6, ↓E_X7_event_7, ↓E_X7_event_10, ↓E_X7_event_11, ↓E_X7_event_12, ↓E_X7_event_13, ↓E_X7_event_14, ↓E_X7_event_15, ↓E_X7_event_18, ↓E_X7_event_21, ↓E_X7_event_24, ↓E_X7_event_25, ↓E_X7_event_26, ↓E_X7_event_29, ↓E_X7_event_30, ↓E_X7_event_31, ↓E_X7_event_34, ↓E_X7_event_37, ↓E_X7_event_38, ↓E_X7_event_40, ↓E_X7_event_41, ↓E_X7_event_44, ↓E_X7_event_45, ↓E_X7_event_46, ↓E_X7_event_47, ↓E_X7_event_50, ↓E_X7_event_53, ↓E_X7_event_56, ↓E_X7_event_58, ↓E_X7_event_59, ↓E_X7_event_60, ↓E_X7_event_63, ↓E_X7_event_65, ↓E_X7_event_68, ↓E_X7_event_70, ↓E_X7_event_71, ↓E_X7_event_72, ↓E_X7_event_75, ↓E_X7_event_76, ↓E_X7_event_79, ↓E_X7_event_80, ↓E_X7_event_81, ↓E_X7_event_82, ↓E_X7_event_85, ↓E_X7_event_86, ↓E_X7_event_89, ↓E_X7_event_90, ↓E_X7_event_91, ↓E_X7_event_92, ↓E_X7_event_93, ↓E_X7_event_96, ↓E_X7_event_97, ↓E_X7_event_98, ↓E_X7_event_101, ↓E_X7_event_102, ↓E_X7_event_105, s_in, inL_3, bz_0]
  by_cases e0 : a = -1
  · simp only [if_pos e0] at hF ⊢
    subst hF
    exact ⟨_, rfl, vwM_ev hw ⟨Nat.zero_le _, fun x hx => by simp at hx⟩ rowM_nil (fun k h1 h2 => uu_col h2) (fun i h1 h2 h3 h4 => mx_u_ne (by omega)) rfl, fun i hi => ⟨mx_u_ne (by omega), rfl⟩⟩
  simp only [if_neg e0] at hF ⊢
  by_cases e1 : ibI a 4 = false
  · simp only [if_pos e1] at hF ⊢
    subst hF
    exact ⟨σ, rfl, hw, loS.rf⟩
  simp only [if_neg e1] at hF ⊢
  obtain ⟨ha, ha2, ha3⟩ := ibI_of (eq_true_of_ne_false e1)
  have tail : ∀ R' : Int32 × Vw, (ibI b 2147483647 = true) → (¬ a = 2 → ibI b w.1.jn = true) → (a = 2 → ibI b 3 = true) → (if w.1.ev.length = 8 then (-4, w) else (nI (w.1.ev.length + 1), setEv w (w.1.ev ++ [(ixI a, ixI b)]))) = R' → ∃ σ', mx_run (d + 2) m_X7_event 59 [some (.ref 88), some (.int a), some (.int b)] [] σ (some (.int R'.1), σ') ∧ vwM R'.2 σ' ∧ loS σ σ' := by
    clear hF
    intro R' hb9 hb1 hb2 hF
    obtain ⟨hb, -, hb3⟩ := ibI_of hb9
    simp (disch := omega) only [true_and, and_true, and_self, exists_eq_left, Option.toList_some, Option.toList_none, List.cons_append, List.nil_append, List.append_nil, i2_i, i2_r, i2_n, nz0, nz1, true_or, or_true, Nat.reduceAdd, Nat.le_refl, Nat.reduceLT, Nat.reduceLeDiff, ↓E_X7_event_0, ↓E_X7_event_1, ↓E_X7_event_2, ↓E_X7_event_5, ↓E_X7_event_6, ↓E_X7_event_7, ↓E_X7_event_10, ↓E_X7_event_11, ↓E_X7_event_12, ↓E_X7_event_13, ↓E_X7_event_14, ↓E_X7_event_15, ↓E_X7_event_18, ↓E_X7_event_21, ↓E_X7_event_24, ↓E_X7_event_25, ↓E_X7_event_26, ↓E_X7_event_29, ↓E_X7_event_30, ↓E_X7_event_31, ↓E_X7_event_34, ↓E_X7_event_37, ↓E_X7_event_38, ↓E_X7_event_39, ↓E_X7_event_40, ↓E_X7_event_41, ↓E_X7_event_44, ↓E_X7_event_45, ↓E_X7_event_46, ↓E_X7_event_47, ↓E_X7_event_50, ↓E_X7_event_53, ↓E_X7_event_56, ↓E_X7_event_58, ↓E_X7_event_59, ↓E_X7_event_60, ↓E_X7_event_63, ↓E_X7_event_65, ↓E_X7_event_68, ↓E_X7_event_70, ↓E_X7_event_72, ↓E_X7_event_75, ↓E_X7_event_76, ↓E_X7_event_79, ↓E_X7_event_80, ↓E_X7_event_81, ↓E_X7_event_82, ↓E_X7_event_85, ↓E_X7_event_86, ↓E_X7_event_89, ↓E_X7_event_90, ↓E_X7_event_91, ↓E_X7_event_92, ↓E_X7_event_93, ↓E_X7_event_96, ↓E_X7_event_97, ↓E_X7_event_98, ↓E_X7_event_101, ↓E_X7_event_102, ↓E_X7_event_105, R2.1, e9]
    by_cases e4 : w.1.ev.length = 8
    · simp only [if_pos e4] at hF ⊢
      subst hF
      exact ⟨σ, rfl, hw, loS.rf⟩
    simp only [if_neg e4] at hF ⊢
    have k1 : ixI a ≠ 2 → ixI b < w.1.jn := fun z => (ibI_of (hb1 (fun y => z (by rw [y]; rfl)))).2.1
    have k2 : ixI a = 2 → ixI b ≤ 2 := fun z => by
      have := (ibI_of (hb2 (by rw [ha, z]; rfl))).2.1
      omega
    generalize ixI a = x at *
    generalize ixI b = n at *
    subst ha
    subst hb
    simp (disch := omega) only [true_and, and_true, and_self, exists_eq_left, Option.toList_some, Option.toList_none, List.cons_append, List.nil_append, List.append_nil, i2_i, i2_r, i2_n, nz0, nz1, true_or, or_true, Nat.reduceAdd, Nat.le_refl, Nat.reduceLT, Nat.reduceLeDiff, ↓E_X7_event_0, ↓E_X7_event_1, ↓E_X7_event_2, ↓E_X7_event_5, ↓E_X7_event_6, ↓E_X7_event_7, ↓E_X7_event_10, ↓E_X7_event_11, ↓E_X7_event_12, ↓E_X7_event_13, ↓E_X7_event_14, ↓E_X7_event_15, ↓E_X7_event_18, ↓E_X7_event_21, ↓E_X7_event_24, ↓E_X7_event_25, ↓E_X7_event_26, ↓E_X7_event_29, ↓E_X7_event_30, ↓E_X7_event_31, ↓E_X7_event_34, ↓E_X7_event_37, ↓E_X7_event_38, ↓E_X7_event_39, ↓E_X7_event_40, ↓E_X7_event_41, ↓E_X7_event_44, ↓E_X7_event_45, ↓E_X7_event_46, ↓E_X7_event_47, ↓E_X7_event_50, ↓E_X7_event_53, ↓E_X7_event_56, ↓E_X7_event_58, ↓E_X7_event_59, ↓E_X7_event_60, ↓E_X7_event_63, ↓E_X7_event_65, ↓E_X7_event_68, ↓E_X7_event_70, ↓E_X7_event_71, ↓E_X7_event_72, ↓E_X7_event_75, ↓E_X7_event_76, ↓E_X7_event_79, ↓E_X7_event_80, ↓E_X7_event_81, ↓E_X7_event_82, ↓E_X7_event_85, ↓E_X7_event_86, ↓E_X7_event_89, ↓E_X7_event_90, ↓E_X7_event_91, ↓E_X7_event_92, ↓E_X7_event_93, ↓E_X7_event_96, ↓E_X7_event_97, ↓E_X7_event_98, ↓E_X7_event_101, ↓E_X7_event_102, ↓E_X7_event_105, kd_8, ln_8, R2.1, vin, clN, uu_row, uu_same, nI_1]
    subst hF
    refine ⟨_, rfl, vwM_ev hw ⟨by rw [List.length_append, List.length_singleton]; omega, fun x hx => ?_⟩ (rowM_add (by omega) (by omega) (by omega) R2) (fun k h1 h2 => by simp (disch := omega) only [uu_col, uu_row]) (fun i h1 h2 h3 h4 => by simp (disch := omega) only [mx_u_ne]) rfl, fun i hi => ⟨by simp (disch := omega) only [mx_u_ne], rfl⟩⟩
    rcases List.mem_append.mp hx with h1 | h1
    · exact hl.2 x h1
    · rw [List.mem_singleton.mp h1]; exact ⟨by show _ ≤ 3; omega, k1, k2⟩
  have up : ∀ {m : Nat}, m ≤ 6 → ibI b m = true → ibI b 2147483647 = true := fun {m} hm h => by
    cases e : ibI b 2147483647 with
    | true => rfl
    | false => rw [ibI_mono (m := m) (by omega) e] at h; cases h
  by_cases e2 : a = 2
  · have n3 : ¬ (¬ a = 2 ∧ ibI b w.1.jn = false) := fun z => z.1 e2
    simp only [if_neg n3] at hF
    by_cases e3 : ibI b 3 = false
    · simp only [if_pos (And.intro e2 e3)] at hF
      simp (disch := omega) only [true_and, and_true, and_self, exists_eq_left, Option.toList_some, Option.toList_none, List.cons_append, List.nil_append, List.append_nil, i2_i, i2_r, i2_n, nz0, nz1, true_or, or_true, Nat.reduceAdd, Nat.le_refl, Nat.reduceLT, Nat.reduceLeDiff, ↓E_X7_event_0, ↓E_X7_event_1, ↓E_X7_event_2, ↓E_X7_event_5, ↓E_X7_event_6, ↓E_X7_event_7, ↓E_X7_event_10, ↓E_X7_event_11, ↓E_X7_event_12, ↓E_X7_event_13, ↓E_X7_event_14, ↓E_X7_event_15, ↓E_X7_event_18, ↓E_X7_event_21, ↓E_X7_event_24, ↓E_X7_event_25, ↓E_X7_event_26, ↓E_X7_event_29, ↓E_X7_event_30, ↓E_X7_event_31, ↓E_X7_event_34, ↓E_X7_event_37, ↓E_X7_event_38, ↓E_X7_event_39, ↓E_X7_event_40, ↓E_X7_event_41, ↓E_X7_event_44, ↓E_X7_event_45, ↓E_X7_event_46, ↓E_X7_event_47, ↓E_X7_event_50, ↓E_X7_event_53, ↓E_X7_event_56, ↓E_X7_event_58, ↓E_X7_event_60, ↓E_X7_event_63, ↓E_X7_event_65, ↓E_X7_event_68, ↓E_X7_event_70, ↓E_X7_event_71, ↓E_X7_event_72, ↓E_X7_event_75, ↓E_X7_event_76, ↓E_X7_event_79, ↓E_X7_event_80, ↓E_X7_event_81, ↓E_X7_event_82, ↓E_X7_event_85, ↓E_X7_event_86, ↓E_X7_event_89, ↓E_X7_event_90, ↓E_X7_event_91, ↓E_X7_event_92, ↓E_X7_event_93, ↓E_X7_event_96, ↓E_X7_event_97, ↓E_X7_event_98, ↓E_X7_event_101, ↓E_X7_event_102, ↓E_X7_event_105, if_pos e2, s_in, inL_2, bz_0, if_pos e3]
      subst hF
      exact ⟨σ, rfl, hw, loS.rf⟩
    · simp only [if_neg (fun z : a = 2 ∧ ibI b 3 = false => e3 z.2)] at hF
      simp (disch := omega) only [true_and, and_true, and_self, exists_eq_left, Option.toList_some, Option.toList_none, List.cons_append, List.nil_append, List.append_nil, i2_i, i2_r, i2_n, nz0, nz1, true_or, or_true, Nat.reduceAdd, Nat.le_refl, Nat.reduceLT, Nat.reduceLeDiff, ↓E_X7_event_0, ↓E_X7_event_1, ↓E_X7_event_2, ↓E_X7_event_5, ↓E_X7_event_6, ↓E_X7_event_7, ↓E_X7_event_10, ↓E_X7_event_11, ↓E_X7_event_12, ↓E_X7_event_13, ↓E_X7_event_14, ↓E_X7_event_15, ↓E_X7_event_18, ↓E_X7_event_21, ↓E_X7_event_24, ↓E_X7_event_25, ↓E_X7_event_26, ↓E_X7_event_29, ↓E_X7_event_30, ↓E_X7_event_31, ↓E_X7_event_34, ↓E_X7_event_37, ↓E_X7_event_38, ↓E_X7_event_39, ↓E_X7_event_40, ↓E_X7_event_41, ↓E_X7_event_44, ↓E_X7_event_45, ↓E_X7_event_46, ↓E_X7_event_47, ↓E_X7_event_50, ↓E_X7_event_53, ↓E_X7_event_56, ↓E_X7_event_58, ↓E_X7_event_60, ↓E_X7_event_63, ↓E_X7_event_65, ↓E_X7_event_68, ↓E_X7_event_70, ↓E_X7_event_71, ↓E_X7_event_72, ↓E_X7_event_75, ↓E_X7_event_76, ↓E_X7_event_79, ↓E_X7_event_80, ↓E_X7_event_81, ↓E_X7_event_82, ↓E_X7_event_85, ↓E_X7_event_86, ↓E_X7_event_89, ↓E_X7_event_90, ↓E_X7_event_91, ↓E_X7_event_92, ↓E_X7_event_93, ↓E_X7_event_96, ↓E_X7_event_97, ↓E_X7_event_98, ↓E_X7_event_101, ↓E_X7_event_102, ↓E_X7_event_105, if_pos e2, s_in, inL_2, bz_0, if_neg e3]
      exact tail R (up (by omega) (eq_true_of_ne_false e3)) (fun z => absurd e2 z) (fun _ => eq_true_of_ne_false e3) hF
  · by_cases e3 : ibI b w.1.jn = false
    · simp only [if_pos (And.intro e2 e3)] at hF
      simp (disch := omega) only [true_and, and_true, and_self, exists_eq_left, Option.toList_some, Option.toList_none, List.cons_append, List.nil_append, List.append_nil, i2_i, i2_r, i2_n, nz0, nz1, true_or, or_true, Nat.reduceAdd, Nat.le_refl, Nat.reduceLT, Nat.reduceLeDiff, ↓E_X7_event_0, ↓E_X7_event_1, ↓E_X7_event_2, ↓E_X7_event_5, ↓E_X7_event_6, ↓E_X7_event_7, ↓E_X7_event_10, ↓E_X7_event_11, ↓E_X7_event_12, ↓E_X7_event_13, ↓E_X7_event_14, ↓E_X7_event_15, ↓E_X7_event_18, ↓E_X7_event_21, ↓E_X7_event_24, ↓E_X7_event_25, ↓E_X7_event_26, ↓E_X7_event_29, ↓E_X7_event_30, ↓E_X7_event_31, ↓E_X7_event_34, ↓E_X7_event_37, ↓E_X7_event_38, ↓E_X7_event_40, ↓E_X7_event_41, ↓E_X7_event_44, ↓E_X7_event_45, ↓E_X7_event_46, ↓E_X7_event_47, ↓E_X7_event_50, ↓E_X7_event_53, ↓E_X7_event_56, ↓E_X7_event_58, ↓E_X7_event_59, ↓E_X7_event_60, ↓E_X7_event_63, ↓E_X7_event_65, ↓E_X7_event_68, ↓E_X7_event_70, ↓E_X7_event_71, ↓E_X7_event_72, ↓E_X7_event_75, ↓E_X7_event_76, ↓E_X7_event_79, ↓E_X7_event_80, ↓E_X7_event_81, ↓E_X7_event_82, ↓E_X7_event_85, ↓E_X7_event_86, ↓E_X7_event_89, ↓E_X7_event_90, ↓E_X7_event_91, ↓E_X7_event_92, ↓E_X7_event_93, ↓E_X7_event_96, ↓E_X7_event_97, ↓E_X7_event_98, ↓E_X7_event_101, ↓E_X7_event_102, ↓E_X7_event_105, if_neg e2, m_isJob hn S1, bz_0, if_pos e3]
      subst hF
      exact ⟨σ, rfl, hw, loS.rf⟩
    · simp only [if_neg (fun z : ¬ a = 2 ∧ ibI b w.1.jn = false => e3 z.2), if_neg (fun z : a = 2 ∧ ibI b 3 = false => e2 z.1)] at hF
      simp (disch := omega) only [true_and, and_true, and_self, exists_eq_left, Option.toList_some, Option.toList_none, List.cons_append, List.nil_append, List.append_nil, i2_i, i2_r, i2_n, nz0, nz1, true_or, or_true, Nat.reduceAdd, Nat.le_refl, Nat.reduceLT, Nat.reduceLeDiff, ↓E_X7_event_0, ↓E_X7_event_1, ↓E_X7_event_2, ↓E_X7_event_5, ↓E_X7_event_6, ↓E_X7_event_7, ↓E_X7_event_10, ↓E_X7_event_11, ↓E_X7_event_12, ↓E_X7_event_13, ↓E_X7_event_14, ↓E_X7_event_15, ↓E_X7_event_18, ↓E_X7_event_21, ↓E_X7_event_24, ↓E_X7_event_25, ↓E_X7_event_26, ↓E_X7_event_29, ↓E_X7_event_30, ↓E_X7_event_31, ↓E_X7_event_34, ↓E_X7_event_37, ↓E_X7_event_38, ↓E_X7_event_39, ↓E_X7_event_40, ↓E_X7_event_41, ↓E_X7_event_44, ↓E_X7_event_45, ↓E_X7_event_46, ↓E_X7_event_47, ↓E_X7_event_50, ↓E_X7_event_53, ↓E_X7_event_56, ↓E_X7_event_58, ↓E_X7_event_60, ↓E_X7_event_63, ↓E_X7_event_65, ↓E_X7_event_68, ↓E_X7_event_70, ↓E_X7_event_71, ↓E_X7_event_72, ↓E_X7_event_75, ↓E_X7_event_76, ↓E_X7_event_79, ↓E_X7_event_80, ↓E_X7_event_81, ↓E_X7_event_82, ↓E_X7_event_85, ↓E_X7_event_86, ↓E_X7_event_89, ↓E_X7_event_90, ↓E_X7_event_91, ↓E_X7_event_92, ↓E_X7_event_93, ↓E_X7_event_96, ↓E_X7_event_97, ↓E_X7_event_98, ↓E_X7_event_101, ↓E_X7_event_102, ↓E_X7_event_105, if_neg e2, m_isJob hn S1, bz_0, if_neg e3]
      exact tail R (up hn (eq_true_of_ne_false e3)) (fun _ => eq_true_of_ne_false e3) (fun z => absurd z e2) hF
set_option maxHeartbeats 2000000 in
theorem m_stands {d n j p : Nat} {σ : mx_S} {q : mx_R} {a : Nat} {O : Nat → Nat} (ha : a = 90 ∨ a = 100) (hn : n ≤ 6) (h0 : σ.1 88 0 = nI n) (hO : ∀ p, p < n → O p < n ∧ σ.1 a p = nI (O p)) (hj : j < n) (hp : p < 6) : mx_call (d + 1) m_X7_stands [.ref 88, .ref a, .int (nI j), .int (nI p)] σ q ↔ q = (some (.int (bz (decide (p < n) && decide (O p = j)))), σ) := by
  simp (disch := omega) only [C_X7_stands, true_and, and_true, and_self, exists_eq_left, Option.toList_some, Option.toList_none, List.cons_append, List.nil_append, List.append_nil, i2_i, i2_r, i2_n, nz0, nz1, true_or, or_true, Nat.reduceAdd, Nat.le_refl, Nat.reduceLT, Nat.reduceLeDiff, ↓E_X7_stands_0, ↓E_X7_stands_1, ↓E_X7_stands_2, ↓E_X7_stands_5, ↓E_X7_stands_9, ↓E_X7_stands_10, ↓E_X7_stands_11, ↓E_X7_stands_12, ↓E_X7_stands_15, ↓E_X7_stands_16, ↓E_X7_stands_19, ↓E_X7_stands_20, h0, leN, ltN]
  by_cases e1 : p < n
  · obtain ⟨o1, o2⟩ := hO p e1
    simp (disch := omega) only [if_neg (show ¬ n ≤ p by omega), if_pos e1, true_and, and_true, and_self, exists_eq_left, Option.toList_some, Option.toList_none, List.cons_append, List.nil_append, List.append_nil, i2_i, i2_r, i2_n, nz0, nz1, true_or, or_true, Nat.reduceAdd, Nat.le_refl, Nat.reduceLT, Nat.reduceLeDiff, ↓E_X7_stands_0, ↓E_X7_stands_1, ↓E_X7_stands_2, ↓E_X7_stands_5, ↓E_X7_stands_8, ↓E_X7_stands_9, ↓E_X7_stands_10, ↓E_X7_stands_11, ↓E_X7_stands_12, ↓E_X7_stands_15, ↓E_X7_stands_16, ↓E_X7_stands_19, ↓E_X7_stands_20, kd_8, ln_6, vin, clN, o2, eqN]
    by_cases e2 : O p = j
    · simp only [if_pos e2, decide_eq_true e1, decide_eq_true e2]; rfl
    · simp only [if_neg e2, if_pos e2, decide_eq_true e1, decide_eq_false e2]; rfl
  · simp only [if_pos (show n ≤ p by omega), if_neg e1, decide_eq_false e1, Bool.false_and]
    rfl
set_option maxHeartbeats 4000000 in
theorem M_looked {d : Nat} {σ : mx_S} {w : Vw} (hw : vwM w σ) : mx_call (d + 2) m_X7_looked [.ref 88] σ (some (.int (F_looked w)), σ) := by
  obtain ⟨H1, ⟨⟨S1, S2, S3, S4, S5⟩, R1, R2, R3⟩, H3, H4, H5⟩ := id hw
  have hl := H1.1.2.2.2.2.2.2.2
  have hn := H1.1.1
  have hO := H1.1.2.2.2.2.1.1
  have lp : ∀ m t, t + m = w.1.bk.length → fsP (bkB w) t = t → mx_run (d + 1) m_X7_looked 2 [some (.ref 88), some (.int (nI t))] [] σ (some (.int (F_looked w)), σ) := by
    intro m
    induction m with
    | zero =>
      intro t ht hf
      have e : t = w.1.bk.length := by omega
      subst e
      rw [E_X7_looked_2]
      simp (disch := omega) only [true_and, and_true, and_self, exists_eq_left, Option.toList_some, Option.toList_none, List.cons_append, List.nil_append, List.append_nil, i2_i, i2_r, i2_n, nz0, nz1, true_or, or_true, Nat.reduceAdd, Nat.le_refl, Nat.reduceLT, Nat.reduceLeDiff, ↓E_X7_looked_0, ↓E_X7_looked_1, ↓E_X7_looked_3, ↓E_X7_looked_4, ↓E_X7_looked_7, ↓E_X7_looked_10, ↓E_X7_looked_11, ↓E_X7_looked_12, ↓E_X7_looked_15, ↓E_X7_looked_16, ↓E_X7_looked_19, ↓E_X7_looked_20, ↓E_X7_looked_21, ↓E_X7_looked_22, ↓E_X7_looked_25, ↓E_X7_looked_26, ↓E_X7_looked_27, ↓E_X7_looked_30, ↓E_X7_looked_33, ↓E_X7_looked_34, ↓E_X7_looked_35, ↓E_X7_looked_38, ↓E_X7_looked_41, ↓E_X7_looked_43, R3.1, leN, if_true]
      unfold F_looked
      rw [hf, if_neg (by omega)]
    | succ m ih =>
      intro t ht hf
      obtain ⟨b1, b2⟩ := R3.2 t (by omega)
      obtain ⟨k1, k2⟩ := hl.2 _ (getD_mem (y := (0, 0)) (show t < w.1.bk.length by omega))
      have cs := fun q => m_stands (d := d) (q := q) (a := 90) (O := w.1.O) (Or.inl rfl) hn S1 (fun p hp => ⟨hO p hp, S5 p hp⟩) k1 k2
      rw [E_X7_looked_2]
      have eb : bkB w t = !(decide ((w.1.bk.getD t (0, 0)).2 < w.1.jn) && decide (w.1.O (w.1.bk.getD t (0, 0)).2 = (w.1.bk.getD t (0, 0)).1)) := rfl
      generalize hz : (decide ((w.1.bk.getD t (0, 0)).2 < w.1.jn) && decide (w.1.O (w.1.bk.getD t (0, 0)).2 = (w.1.bk.getD t (0, 0)).1)) = z at *
      simp (disch := omega) only [true_and, and_true, and_self, exists_eq_left, Option.toList_some, Option.toList_none, List.cons_append, List.nil_append, List.append_nil, i2_i, i2_r, i2_n, nz0, nz1, true_or, or_true, Nat.reduceAdd, Nat.le_refl, Nat.reduceLT, Nat.reduceLeDiff, ↓E_X7_looked_0, ↓E_X7_looked_1, ↓E_X7_looked_3, ↓E_X7_looked_4, ↓E_X7_looked_7, ↓E_X7_looked_10, ↓E_X7_looked_11, ↓E_X7_looked_12, ↓E_X7_looked_15, ↓E_X7_looked_16, ↓E_X7_looked_19, ↓E_X7_looked_20, ↓E_X7_looked_21, ↓E_X7_looked_22, ↓E_X7_looked_25, ↓E_X7_looked_26, ↓E_X7_looked_27, ↓E_X7_looked_30, ↓E_X7_looked_33, ↓E_X7_looked_34, ↓E_X7_looked_35, ↓E_X7_looked_38, ↓E_X7_looked_41, ↓E_X7_looked_43, kd_8, ln_8, R3.1, leN, if_neg (show ¬ w.1.bk.length ≤ t by omega), vin, clN, b1, b2, cs, bz_0, nI_1]
      cases z with
      | true =>
        simp only [if_neg (show ¬ true = false by decide)]
        exact ih (t + 1) (by omega) (fsP_miss hf (by rw [eb]; decide))
      | false =>
        simp only [if_true]
        unfold F_looked
        rw [fsP_hit hf (by rw [eb]; rfl) _ (by omega), if_pos (by omega)]
  simp (disch := omega) only [C_X7_looked, true_and, and_true, and_self, exists_eq_left, Option.toList_some, Option.toList_none, List.cons_append, List.nil_append, List.append_nil, i2_i, i2_r, i2_n, nz0, nz1, true_or, or_true, Nat.reduceAdd, Nat.le_refl, Nat.reduceLT, Nat.reduceLeDiff, ↓E_X7_looked_0, ↓E_X7_looked_1, ↓E_X7_looked_3, ↓E_X7_looked_4, ↓E_X7_looked_7, ↓E_X7_looked_10, ↓E_X7_looked_11, ↓E_X7_looked_12, ↓E_X7_looked_15, ↓E_X7_looked_16, ↓E_X7_looked_19, ↓E_X7_looked_20, ↓E_X7_looked_21, ↓E_X7_looked_22, ↓E_X7_looked_25, ↓E_X7_looked_26, ↓E_X7_looked_27, ↓E_X7_looked_30, ↓E_X7_looked_33, ↓E_X7_looked_34, ↓E_X7_looked_35, ↓E_X7_looked_38, ↓E_X7_looked_41, ↓E_X7_looked_43]
  exact lp w.1.bk.length 0 (by omega) rfl
