/-! ===== the class: rows, text, moves ===== -/
theorem mem_add {l : List (Nat × Nat)} {x : Nat × Nat} {P : Nat × Nat → Prop} (h : ∀ y ∈ l, P y) (hx : P x) : ∀ y ∈ l ++ [x], P y := by
  intro y hy
  rcases List.mem_append.mp hy with h1 | h1
  · exact h y h1
  · rw [List.mem_singleton.mp h1]; exact hx
set_option maxHeartbeats 2000000 in
theorem X_see {d : Nat} {σ : mx_S} {w : Vw} {a b : Int32} (hw : vwX w σ) : ∃ σ', mx_call (d + 3) m_X6_see [.ref 0, .int a, .int b] σ (some (.int (F_see w a b).1), σ') ∧ vwX (F_see w a b).2 σ' ∧ hiS σ σ' := by
  obtain ⟨H1, ⟨-, R1, R2, R3⟩, H3, H4, H5, H6⟩ := id hw
  have hl := H1.1.2.2.2.2.2.1
  simp (disch := omega) only [C_X6_see, true_and, and_true, and_self, exists_eq_left, Option.toList_some, Option.toList_none, List.cons_append, List.nil_append, List.append_nil, i2_i, i2_r, i2_n, nz0, nz1, true_or, or_true, Nat.reduceAdd, Nat.le_refl, Nat.reduceLT, Nat.reduceLeDiff, ↓E_X6_see_0, ↓E_X6_see_1, ↓E_X6_see_2, ↓E_X6_see_5, ↓E_X6_see_6, ↓E_X6_see_7, ↓E_X6_see_10, s_noteIn (h := 10) (c := 5) (Or.inl ⟨rfl, rfl⟩) hl.1 R1.1 hw]
  unfold F_see
  by_cases e0 : a = -1
  · simp only [if_pos e0, true_and, and_true, and_self, exists_eq_left, Option.toList_some, Option.toList_none, List.cons_append, List.nil_append, List.append_nil, i2_i, i2_r, i2_n, nz0, nz1, true_or, or_true, Nat.reduceAdd, Nat.le_refl, Nat.reduceLT, Nat.reduceLeDiff, ↓E_X6_see_0, ↓E_X6_see_1, ↓E_X6_see_2, ↓E_X6_see_5, ↓E_X6_see_6, ↓E_X6_see_7, ↓E_X6_see_10]
    refine ⟨_, rfl, vwX_se hw ⟨Nat.zero_le _, fun x hx => by simp at hx⟩ rowX_nil (fun i hi => mx_u_ne (by omega)) rfl, hiS.u (by omega)⟩
  by_cases e1 : ibI a w.1.jn = false
  · simp only [if_neg e0, if_pos e1, true_and, and_true, and_self, exists_eq_left, Option.toList_some, Option.toList_none, List.cons_append, List.nil_append, List.append_nil, i2_i, i2_r, i2_n, nz0, nz1, true_or, or_true, Nat.reduceAdd, Nat.le_refl, Nat.reduceLT, Nat.reduceLeDiff, ↓E_X6_see_0, ↓E_X6_see_1, ↓E_X6_see_2, ↓E_X6_see_5, ↓E_X6_see_6, ↓E_X6_see_7, ↓E_X6_see_10]
    exact ⟨σ, rfl, hw, hiS.rf⟩
  by_cases e2 : ibI b 6 = false
  · simp only [if_neg e0, if_neg e1, if_pos e2, true_and, and_true, and_self, exists_eq_left, Option.toList_some, Option.toList_none, List.cons_append, List.nil_append, List.append_nil, i2_i, i2_r, i2_n, nz0, nz1, true_or, or_true, Nat.reduceAdd, Nat.le_refl, Nat.reduceLT, Nat.reduceLeDiff, ↓E_X6_see_0, ↓E_X6_see_1, ↓E_X6_see_2, ↓E_X6_see_5, ↓E_X6_see_6, ↓E_X6_see_7, ↓E_X6_see_10]
    exact ⟨σ, rfl, hw, hiS.rf⟩
  by_cases e3 : w.1.se.length = 5
  · simp only [if_neg e0, if_neg e1, if_neg e2, if_pos e3, true_and, and_true, and_self, exists_eq_left, Option.toList_some, Option.toList_none, List.cons_append, List.nil_append, List.append_nil, i2_i, i2_r, i2_n, nz0, nz1, true_or, or_true, Nat.reduceAdd, Nat.le_refl, Nat.reduceLT, Nat.reduceLeDiff, ↓E_X6_see_0, ↓E_X6_see_1, ↓E_X6_see_2, ↓E_X6_see_5, ↓E_X6_see_6, ↓E_X6_see_7, ↓E_X6_see_10]
    exact ⟨σ, rfl, hw, hiS.rf⟩
  simp only [if_neg e0, if_neg e1, if_neg e2, if_neg e3, true_and, and_true, and_self, exists_eq_left, Option.toList_some, Option.toList_none, List.cons_append, List.nil_append, List.append_nil, i2_i, i2_r, i2_n, nz0, nz1, true_or, or_true, Nat.reduceAdd, Nat.le_refl, Nat.reduceLT, Nat.reduceLeDiff, ↓E_X6_see_0, ↓E_X6_see_1, ↓E_X6_see_2, ↓E_X6_see_5, ↓E_X6_see_6, ↓E_X6_see_7, ↓E_X6_see_10]
  obtain ⟨ha, ha2, ha3⟩ := ibI_of (eq_true_of_ne_false e1)
  obtain ⟨hb, hb2, hb3⟩ := ibI_of (eq_true_of_ne_false e2)
  generalize ixI a = j at *
  generalize ixI b = k at *
  subst ha
  subst hb
  refine ⟨_, rfl, vwX_se hw ⟨by rw [List.length_append, List.length_singleton]; omega, mem_add hl.2 ⟨ha2, hb2⟩⟩ (rowX_add R1) (fun i hi => by simp (disch := omega) only [mx_u_ne]) rfl, fun i hi => ⟨by simp (disch := omega) only [mx_u_ne], rfl⟩⟩
set_option maxHeartbeats 2000000 in
theorem X_book {d : Nat} {σ : mx_S} {w : Vw} {a b : Int32} (hw : vwX w σ) : ∃ σ', mx_call (d + 3) m_X6_book [.ref 0, .int a, .int b] σ (some (.int (F_book w a b).1), σ') ∧ vwX (F_book w a b).2 σ' ∧ hiS σ σ' := by
  obtain ⟨H1, ⟨-, R1, R2, R3⟩, H3, H4, H5, H6⟩ := id hw
  have hl := H1.1.2.2.2.2.2.2.2
  simp (disch := omega) only [C_X6_book, true_and, and_true, and_self, exists_eq_left, Option.toList_some, Option.toList_none, List.cons_append, List.nil_append, List.append_nil, i2_i, i2_r, i2_n, nz0, nz1, true_or, or_true, Nat.reduceAdd, Nat.le_refl, Nat.reduceLT, Nat.reduceLeDiff, ↓E_X6_book_0, ↓E_X6_book_1, ↓E_X6_book_2, ↓E_X6_book_5, ↓E_X6_book_6, ↓E_X6_book_7, ↓E_X6_book_10, s_noteIn (h := 16) (c := 8) (Or.inr ⟨Or.inr rfl, rfl⟩) hl.1 R3.1 hw]
  unfold F_book
  by_cases e0 : a = -1
  · simp only [if_pos e0, true_and, and_true, and_self, exists_eq_left, Option.toList_some, Option.toList_none, List.cons_append, List.nil_append, List.append_nil, i2_i, i2_r, i2_n, nz0, nz1, true_or, or_true, Nat.reduceAdd, Nat.le_refl, Nat.reduceLT, Nat.reduceLeDiff, ↓E_X6_book_0, ↓E_X6_book_1, ↓E_X6_book_2, ↓E_X6_book_5, ↓E_X6_book_6, ↓E_X6_book_7, ↓E_X6_book_10]
    refine ⟨_, rfl, vwX_bk hw ⟨Nat.zero_le _, fun x hx => by simp at hx⟩ rowX_nil (fun i hi => mx_u_ne (by omega)) rfl, hiS.u (by omega)⟩
  by_cases e1 : ibI a w.1.jn = false
  · simp only [if_neg e0, if_pos e1, true_and, and_true, and_self, exists_eq_left, Option.toList_some, Option.toList_none, List.cons_append, List.nil_append, List.append_nil, i2_i, i2_r, i2_n, nz0, nz1, true_or, or_true, Nat.reduceAdd, Nat.le_refl, Nat.reduceLT, Nat.reduceLeDiff, ↓E_X6_book_0, ↓E_X6_book_1, ↓E_X6_book_2, ↓E_X6_book_5, ↓E_X6_book_6, ↓E_X6_book_7, ↓E_X6_book_10]
    exact ⟨σ, rfl, hw, hiS.rf⟩
  by_cases e2 : ibI b 6 = false
  · simp only [if_neg e0, if_neg e1, if_pos e2, true_and, and_true, and_self, exists_eq_left, Option.toList_some, Option.toList_none, List.cons_append, List.nil_append, List.append_nil, i2_i, i2_r, i2_n, nz0, nz1, true_or, or_true, Nat.reduceAdd, Nat.le_refl, Nat.reduceLT, Nat.reduceLeDiff, ↓E_X6_book_0, ↓E_X6_book_1, ↓E_X6_book_2, ↓E_X6_book_5, ↓E_X6_book_6, ↓E_X6_book_7, ↓E_X6_book_10]
    exact ⟨σ, rfl, hw, hiS.rf⟩
  by_cases e3 : w.1.bk.length = 8
  · simp only [if_neg e0, if_neg e1, if_neg e2, if_pos e3, true_and, and_true, and_self, exists_eq_left, Option.toList_some, Option.toList_none, List.cons_append, List.nil_append, List.append_nil, i2_i, i2_r, i2_n, nz0, nz1, true_or, or_true, Nat.reduceAdd, Nat.le_refl, Nat.reduceLT, Nat.reduceLeDiff, ↓E_X6_book_0, ↓E_X6_book_1, ↓E_X6_book_2, ↓E_X6_book_5, ↓E_X6_book_6, ↓E_X6_book_7, ↓E_X6_book_10]
    exact ⟨σ, rfl, hw, hiS.rf⟩
  simp only [if_neg e0, if_neg e1, if_neg e2, if_neg e3, true_and, and_true, and_self, exists_eq_left, Option.toList_some, Option.toList_none, List.cons_append, List.nil_append, List.append_nil, i2_i, i2_r, i2_n, nz0, nz1, true_or, or_true, Nat.reduceAdd, Nat.le_refl, Nat.reduceLT, Nat.reduceLeDiff, ↓E_X6_book_0, ↓E_X6_book_1, ↓E_X6_book_2, ↓E_X6_book_5, ↓E_X6_book_6, ↓E_X6_book_7, ↓E_X6_book_10]
  obtain ⟨ha, ha2, ha3⟩ := ibI_of (eq_true_of_ne_false e1)
  obtain ⟨hb, hb2, hb3⟩ := ibI_of (eq_true_of_ne_false e2)
  generalize ixI a = j at *
  generalize ixI b = k at *
  subst ha
  subst hb
  refine ⟨_, rfl, vwX_bk hw ⟨by rw [List.length_append, List.length_singleton]; omega, mem_add hl.2 ⟨ha2, hb2⟩⟩ (rowX_add R3) (fun i hi => by simp (disch := omega) only [mx_u_ne]) rfl, fun i hi => ⟨by simp (disch := omega) only [mx_u_ne], rfl⟩⟩
theorem ib4_cases {x : Int32} : (ibI x 4 = false ↔ x < 0 ∨ 3 < x) := by
  simp only [ibI, l32]
  have e0 : (0 : Int32).toInt = 0 := rfl
  have e3 : (3 : Int32).toInt = 3 := rfl
  rw [e0, e3, Bool.and_eq_false_iff, decide_eq_false_iff_not, decide_eq_false_iff_not]
  omega
set_option maxHeartbeats 4000000 in
theorem X_event {d : Nat} {σ : mx_S} {w : Vw} {a b : Int32} (hw : vwX w σ) : ∃ σ', mx_call (d + 2) m_X6_event [.ref 0, .int a, .int b] σ (some (.int (F_event w a b).1), σ') ∧ vwX (F_event w a b).2 σ' ∧ hiS σ σ' := by
  obtain ⟨H1, ⟨-, R1, R2, R3⟩, H3, H4, H5, H6⟩ := id hw
  obtain ⟨S1, S2, S3, S4, S5⟩ := vwX_now hw
  have hjn := H1.1.1
  have hl := H1.1.2.2.2.2.2.2.1
  simp (disch := omega) only [C_X6_event, true_and, and_true, and_self, exists_eq_left, Option.toList_some, Option.toList_none, List.cons_append, List.nil_append, List.append_nil, i2_i, i2_r, i2_n, nz0, nz1, true_or, or_true, Nat.reduceAdd, Nat.le_refl, Nat.reduceLT, Nat.reduceLeDiff, ↓E_X6_event_0, ↓E_X6_event_1, ↓E_X6_event_2, ↓E_X6_event_5, ↓E_X6_event_6, ↓E_X6_event_9, ↓E_X6_event_10, ↓E_X6_event_13, ↓E_X6_event_14, ↓E_X6_event_15, ↓E_X6_event_16, ↓E_X6_event_19, ↓E_X6_event_20, ↓E_X6_event_21, ↓E_X6_event_24, ↓E_X6_event_25, ↓E_X6_event_26, ↓E_X6_event_27, ↓E_X6_event_28, ↓E_X6_event_31, ↓E_X6_event_32, ↓E_X6_event_35, ↓E_X6_event_36, ↓E_X6_event_39, ↓E_X6_event_42, ↓E_X6_event_43, ↓E_X6_event_44, ↓E_X6_event_45, ↓E_X6_event_46, ↓E_X6_event_49, ↓E_X6_event_50, ↓E_X6_event_51, ↓E_X6_event_54, ↓E_X6_event_57, ↓E_X6_event_59, ↓E_X6_event_60, ↓E_X6_event_61, ↓E_X6_event_64, ↓E_X6_event_65, ↓E_X6_event_66, ↓E_X6_event_69, ↓E_X6_event_72, ↓E_X6_event_73, ↓E_X6_event_76, ↓E_X6_event_79, ↓E_X6_event_82, ↓E_X6_event_84, s_isBelow, s_hasJob, bz_0, kd_3, kd_1, S1, ibx_N, ibx_3, s_add (h := 13) (c := 8) (Or.inr ⟨Or.inl rfl, rfl⟩) hl.1 R2.1]
  unfold F_event
  by_cases e0 : a = -1
  · simp only [if_pos e0, true_and, and_true, and_self, exists_eq_left, Option.toList_some, Option.toList_none, List.cons_append, List.nil_append, List.append_nil, i2_i, i2_r, i2_n, nz0, nz1, true_or, or_true, Nat.reduceAdd, Nat.le_refl, Nat.reduceLT, Nat.reduceLeDiff, ↓E_X6_event_0, ↓E_X6_event_1, ↓E_X6_event_2, ↓E_X6_event_5, ↓E_X6_event_6, ↓E_X6_event_9, ↓E_X6_event_10, ↓E_X6_event_13, ↓E_X6_event_14, ↓E_X6_event_15, ↓E_X6_event_16, ↓E_X6_event_19, ↓E_X6_event_20, ↓E_X6_event_21, ↓E_X6_event_24, ↓E_X6_event_25, ↓E_X6_event_26, ↓E_X6_event_27, ↓E_X6_event_28, ↓E_X6_event_31, ↓E_X6_event_32, ↓E_X6_event_35, ↓E_X6_event_36, ↓E_X6_event_39, ↓E_X6_event_42, ↓E_X6_event_43, ↓E_X6_event_44, ↓E_X6_event_45, ↓E_X6_event_46, ↓E_X6_event_49, ↓E_X6_event_50, ↓E_X6_event_51, ↓E_X6_event_54, ↓E_X6_event_57, ↓E_X6_event_59, ↓E_X6_event_60, ↓E_X6_event_61, ↓E_X6_event_64, ↓E_X6_event_65, ↓E_X6_event_66, ↓E_X6_event_69, ↓E_X6_event_72, ↓E_X6_event_73, ↓E_X6_event_76, ↓E_X6_event_79, ↓E_X6_event_82, ↓E_X6_event_84]
    refine ⟨_, rfl, vwX_ev hw ⟨Nat.zero_le _, fun x hx => by simp at hx⟩ rowX_nil (fun i hi => mx_u_ne (by omega)) rfl, hiS.u (by omega)⟩
  by_cases e1 : ibI a 4 = false
  · simp only [if_neg e0, if_pos e1]
    rcases ib4_cases.mp e1 with h | h
    · simp only [if_pos h]; exact ⟨σ, rfl, hw, hiS.rf⟩
    · by_cases h9 : a < 0
      · simp only [if_pos h9]; exact ⟨σ, rfl, hw, hiS.rf⟩
      · simp only [if_neg h9, if_neg (show ¬ a ≤ 3 by rw [le32]; rw [l32] at h; omega)]; exact ⟨σ, rfl, hw, hiS.rf⟩
  have n1 : ¬ a < 0 := fun z => e1 (ib4_cases.mpr (Or.inl z))
  have n2 : a ≤ 3 := by
    have : ¬ 3 < a := fun z => e1 (ib4_cases.mpr (Or.inr z))
    rw [l32] at this; rw [le32]; omega
  simp only [if_neg e0, if_neg e1, if_neg n1, if_pos n2]
  obtain ⟨ha, ha2, ha3⟩ := ibI_of (eq_true_of_ne_false e1)
  have hx : ∀ {j k : Nat}, a = nI j → j < 4 → b = nI k → (j ≠ 2 → k < w.1.jn) → (j = 2 → k ≤ 2) → ¬ w.1.ev.length = 8 → vwX (setEv w (w.1.ev ++ [(j, k)])) (mx_u (mx_u (mx_u σ.1 14 w.1.ev.length a) 15 w.1.ev.length b) 13 2 (nI (w.1.ev.length + 1)), σ.2) := by
    intro j k hj hj4 hk h1 h2 h8
    subst hj
    subst hk
    exact vwX_ev hw ⟨by rw [List.length_append, List.length_singleton]; omega, mem_add hl.2 ⟨by show j ≤ 3; omega, h1, h2⟩⟩ (rowX_add R2) (fun i hi => by simp (disch := omega) only [mx_u_ne]) rfl
  by_cases e2 : a = 2
  · have n3 : ¬ (¬ a = 2 ∧ ibI b w.1.jn = false) := fun z => z.1 e2
    by_cases e3 : ibI b 3 = false
    · simp only [if_pos e2, if_neg n3, if_pos (And.intro e2 e3), if_pos e3]
      exact ⟨σ, rfl, hw, hiS.rf⟩
    · have n4 : ¬ (a = 2 ∧ ibI b 3 = false) := fun z => e3 z.2
      obtain ⟨hb, hb2, hb3⟩ := ibI_of (eq_true_of_ne_false e3)
      by_cases e4 : w.1.ev.length = 8
      · simp only [if_pos e2, if_neg n3, if_neg n4, if_neg e3, if_pos e4, true_and, and_true, and_self, exists_eq_left, Option.toList_some, Option.toList_none, List.cons_append, List.nil_append, List.append_nil, i2_i, i2_r, i2_n, nz0, nz1, true_or, or_true, Nat.reduceAdd, Nat.le_refl, Nat.reduceLT, Nat.reduceLeDiff, ↓E_X6_event_0, ↓E_X6_event_1, ↓E_X6_event_2, ↓E_X6_event_5, ↓E_X6_event_6, ↓E_X6_event_9, ↓E_X6_event_10, ↓E_X6_event_13, ↓E_X6_event_14, ↓E_X6_event_15, ↓E_X6_event_16, ↓E_X6_event_19, ↓E_X6_event_20, ↓E_X6_event_21, ↓E_X6_event_24, ↓E_X6_event_25, ↓E_X6_event_26, ↓E_X6_event_27, ↓E_X6_event_28, ↓E_X6_event_31, ↓E_X6_event_32, ↓E_X6_event_35, ↓E_X6_event_36, ↓E_X6_event_39, ↓E_X6_event_42, ↓E_X6_event_43, ↓E_X6_event_44, ↓E_X6_event_45, ↓E_X6_event_46, ↓E_X6_event_49, ↓E_X6_event_50, ↓E_X6_event_51, ↓E_X6_event_54, ↓E_X6_event_57, ↓E_X6_event_59, ↓E_X6_event_60, ↓E_X6_event_61, ↓E_X6_event_64, ↓E_X6_event_65, ↓E_X6_event_66, ↓E_X6_event_69, ↓E_X6_event_72, ↓E_X6_event_73, ↓E_X6_event_76, ↓E_X6_event_79, ↓E_X6_event_82, ↓E_X6_event_84, if_true]
        exact ⟨σ, rfl, hw, hiS.rf⟩
      · simp (disch := omega) only [if_pos e2, if_neg n3, if_neg n4, if_neg e3, if_neg e4, true_and, and_true, and_self, exists_eq_left, Option.toList_some, Option.toList_none, List.cons_append, List.nil_append, List.append_nil, i2_i, i2_r, i2_n, nz0, nz1, true_or, or_true, Nat.reduceAdd, Nat.le_refl, Nat.reduceLT, Nat.reduceLeDiff, ↓E_X6_event_0, ↓E_X6_event_1, ↓E_X6_event_2, ↓E_X6_event_5, ↓E_X6_event_6, ↓E_X6_event_9, ↓E_X6_event_10, ↓E_X6_event_13, ↓E_X6_event_14, ↓E_X6_event_15, ↓E_X6_event_16, ↓E_X6_event_19, ↓E_X6_event_20, ↓E_X6_event_21, ↓E_X6_event_24, ↓E_X6_event_25, ↓E_X6_event_26, ↓E_X6_event_27, ↓E_X6_event_28, ↓E_X6_event_31, ↓E_X6_event_32, ↓E_X6_event_35, ↓E_X6_event_36, ↓E_X6_event_39, ↓E_X6_event_42, ↓E_X6_event_43, ↓E_X6_event_44, ↓E_X6_event_45, ↓E_X6_event_46, ↓E_X6_event_49, ↓E_X6_event_50, ↓E_X6_event_51, ↓E_X6_event_54, ↓E_X6_event_57, ↓E_X6_event_59, ↓E_X6_event_60, ↓E_X6_event_61, ↓E_X6_event_64, ↓E_X6_event_65, ↓E_X6_event_66, ↓E_X6_event_69, ↓E_X6_event_72, ↓E_X6_event_73, ↓E_X6_event_76, ↓E_X6_event_79, ↓E_X6_event_82, ↓E_X6_event_84, kd_1, uu_same, if_neg (show ¬ (1 : Int32) = 0 by decide)]
        have hj2 : ixI a = 2 := by rw [e2]; rfl
        exact ⟨_, rfl, hx ha ha2 hb (fun z => absurd hj2 z) (fun _ => by omega) e4, fun i hi => ⟨by simp (disch := omega) only [mx_u_ne], rfl⟩⟩
  · have n4 : ¬ (a = 2 ∧ ibI b 3 = false) := fun z => e2 z.1
    by_cases e3 : ibI b w.1.jn = false
    · simp only [if_neg e2, if_pos (And.intro e2 e3), if_pos e3]
      exact ⟨σ, rfl, hw, hiS.rf⟩
    · have n3 : ¬ (¬ a = 2 ∧ ibI b w.1.jn = false) := fun z => e3 z.2
      obtain ⟨hb, hb2, hb3⟩ := ibI_of (eq_true_of_ne_false e3)
      by_cases e4 : w.1.ev.length = 8
      · simp only [if_neg e2, if_neg n3, if_neg n4, if_neg e3, if_pos e4, true_and, and_true, and_self, exists_eq_left, Option.toList_some, Option.toList_none, List.cons_append, List.nil_append, List.append_nil, i2_i, i2_r, i2_n, nz0, nz1, true_or, or_true, Nat.reduceAdd, Nat.le_refl, Nat.reduceLT, Nat.reduceLeDiff, ↓E_X6_event_0, ↓E_X6_event_1, ↓E_X6_event_2, ↓E_X6_event_5, ↓E_X6_event_6, ↓E_X6_event_9, ↓E_X6_event_10, ↓E_X6_event_13, ↓E_X6_event_14, ↓E_X6_event_15, ↓E_X6_event_16, ↓E_X6_event_19, ↓E_X6_event_20, ↓E_X6_event_21, ↓E_X6_event_24, ↓E_X6_event_25, ↓E_X6_event_26, ↓E_X6_event_27, ↓E_X6_event_28, ↓E_X6_event_31, ↓E_X6_event_32, ↓E_X6_event_35, ↓E_X6_event_36, ↓E_X6_event_39, ↓E_X6_event_42, ↓E_X6_event_43, ↓E_X6_event_44, ↓E_X6_event_45, ↓E_X6_event_46, ↓E_X6_event_49, ↓E_X6_event_50, ↓E_X6_event_51, ↓E_X6_event_54, ↓E_X6_event_57, ↓E_X6_event_59, ↓E_X6_event_60, ↓E_X6_event_61, ↓E_X6_event_64, ↓E_X6_event_65, ↓E_X6_event_66, ↓E_X6_event_69, ↓E_X6_event_72, ↓E_X6_event_73, ↓E_X6_event_76, ↓E_X6_event_79, ↓E_X6_event_82, ↓E_X6_event_84, if_true]
        exact ⟨σ, rfl, hw, hiS.rf⟩
      · simp (disch := omega) only [if_neg e2, if_neg n3, if_neg n4, if_neg e3, if_neg e4, true_and, and_true, and_self, exists_eq_left, Option.toList_some, Option.toList_none, List.cons_append, List.nil_append, List.append_nil, i2_i, i2_r, i2_n, nz0, nz1, true_or, or_true, Nat.reduceAdd, Nat.le_refl, Nat.reduceLT, Nat.reduceLeDiff, ↓E_X6_event_0, ↓E_X6_event_1, ↓E_X6_event_2, ↓E_X6_event_5, ↓E_X6_event_6, ↓E_X6_event_9, ↓E_X6_event_10, ↓E_X6_event_13, ↓E_X6_event_14, ↓E_X6_event_15, ↓E_X6_event_16, ↓E_X6_event_19, ↓E_X6_event_20, ↓E_X6_event_21, ↓E_X6_event_24, ↓E_X6_event_25, ↓E_X6_event_26, ↓E_X6_event_27, ↓E_X6_event_28, ↓E_X6_event_31, ↓E_X6_event_32, ↓E_X6_event_35, ↓E_X6_event_36, ↓E_X6_event_39, ↓E_X6_event_42, ↓E_X6_event_43, ↓E_X6_event_44, ↓E_X6_event_45, ↓E_X6_event_46, ↓E_X6_event_49, ↓E_X6_event_50, ↓E_X6_event_51, ↓E_X6_event_54, ↓E_X6_event_57, ↓E_X6_event_59, ↓E_X6_event_60, ↓E_X6_event_61, ↓E_X6_event_64, ↓E_X6_event_65, ↓E_X6_event_66, ↓E_X6_event_69, ↓E_X6_event_72, ↓E_X6_event_73, ↓E_X6_event_76, ↓E_X6_event_79, ↓E_X6_event_82, ↓E_X6_event_84, kd_1, uu_same, if_neg (show ¬ (1 : Int32) = 0 by decide)]
        have hj2 : ixI a ≠ 2 := fun z => e2 (by rw [ha, z]; rfl)
        exact ⟨_, rfl, hx ha ha2 hb (fun _ => hb2) (fun z => absurd z hj2) e4, fun i hi => ⟨by simp (disch := omega) only [mx_u_ne], rfl⟩⟩
/-! a sign comes -/
set_option maxHeartbeats 2000000 in
theorem s_append {d : Nat} {σ : mx_S} {q : mx_R} {n : Nat} {x : Int32} (hn : n ≤ 100) (h0 : σ.1 60 2 = nI n) : mx_call (d + 1) m_X5_append [.ref 60, .int x] σ q ↔ q = if n = 100 then (some (.int 0), σ) else (some (.int 1), (mx_u (mx_u σ.1 61 n x.toInt8.toInt32.toInt8.toInt32) 60 2 (nI (n + 1)), σ.2)) := by
  simp (disch := omega) only [C_X5_append, true_and, and_true, and_self, exists_eq_left, Option.toList_some, Option.toList_none, List.cons_append, List.nil_append, List.append_nil, i2_i, i2_r, i2_n, nz0, nz1, true_or, or_true, Nat.reduceAdd, Nat.le_refl, Nat.reduceLT, Nat.reduceLeDiff, ↓E_X5_append_0, ↓E_X5_append_1, ↓E_X5_append_4, ↓E_X5_append_6, ↓E_X5_append_9, ↓E_X5_append_10, ↓E_X5_append_11, ↓E_X5_append_12, ↓E_X5_append_15, ↓E_X5_append_16, ↓E_X5_append_19, ↓E_X5_append_20, ↓E_X5_append_21, ↓E_X5_append_22, ↓E_X5_append_23, ↓E_X5_append_24, ↓E_X5_append_27, ↓E_X5_append_28, ↓E_X5_append_29, ↓E_X5_append_32, ↓E_X5_append_33, kd_5, kd_9, h0, ln_100]
  by_cases e : n = 100
  · have h9 : ¬ nI n < 100 := by rw [e]; decide
    simp only [if_pos e, if_neg h9]
  · have h9 : nI n < 100 := nI_lt (b := 100) (by omega) (by omega)
    simp (disch := omega) only [if_neg e, if_pos h9, true_and, and_true, and_self, exists_eq_left, Option.toList_some, Option.toList_none, List.cons_append, List.nil_append, List.append_nil, i2_i, i2_r, i2_n, nz0, nz1, true_or, or_true, Nat.reduceAdd, Nat.le_refl, Nat.reduceLT, Nat.reduceLeDiff, ↓E_X5_append_0, ↓E_X5_append_1, ↓E_X5_append_4, ↓E_X5_append_6, ↓E_X5_append_9, ↓E_X5_append_10, ↓E_X5_append_11, ↓E_X5_append_12, ↓E_X5_append_15, ↓E_X5_append_16, ↓E_X5_append_19, ↓E_X5_append_20, ↓E_X5_append_22, ↓E_X5_append_23, ↓E_X5_append_24, ↓E_X5_append_27, ↓E_X5_append_28, ↓E_X5_append_29, ↓E_X5_append_32, ↓E_X5_append_33, E_X5_append_21 (a := 61) rfl, kd_5, kd_9, h0, ln_100, vin, clN, uu_row, nI_1]
