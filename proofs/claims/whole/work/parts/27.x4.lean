/-! ===== the class: tapes ===== -/
theorem ptrT {j : Nat} : mx_ptr 75 j = 76 + 2 * j := by unfold mx_ptr; simp
theorem kdT {t : Nat} (h : t < 6) : mx_kd (76 + 2 * t) = 4 := kd_4 (by omega)
theorem kdTi {t : Nat} (h : t < 6) : mx_kd (76 + 2 * t + 1) = 11 := kd_11 (by omega)
theorem mx_ucl {f : Nat → Nat → Int64} {a k : Nat} {x : Int64} {g : Nat → Int64} : mx_u (mx_c f a g) a k x = mx_c f a (vp_updL g k x) := by
  funext i j
  simp only [mx_c, mx_u, vp_updL]
  by_cases h : i = a <;> by_cases h2 : j = k <;> simp [h, h2]
def flL (g : Nat → Int64) (v : Int64) (k : Nat) : Nat → Int64 := fun p => if p < k then v else g p
theorem flL_s {g : Nat → Int64} {v : Int64} {k : Nat} : vp_updL (flL g v k) k v = flL g v (k + 1) := by
  funext p
  unfold vp_updL flL
  by_cases e : p = k
  · subst e; rw [if_pos rfl, if_pos (by omega)]
  · rw [if_neg e]
    by_cases h : p < k
    · rw [if_pos h, if_pos (by omega)]
    · rw [if_neg h, if_neg (by omega)]
set_option maxHeartbeats 2000000 in
theorem l_fill {d : Nat} {f : Nat → Nat → Int32} {τ : Nat → Nat → Int64} {q : mx_R} {a : Nat} {v : Int64} (ha : mx_kd a = 11) (hl : mx_ln a = 60) : ∀ m k, k + m = 60 → (mx_run d m_J7_fill_d0a16 6 [some (.ref a), some (.long v), none, some (.int (nI k)), some (.int (nI 60))] [] (f, mx_c τ a (flL (τ a) v k)) q ↔ q = (none, (f, mx_c τ a (flL (τ a) v 60)))) := by
  intro m
  induction m with
  | zero =>
    intro k hk
    rw [E_J7_fill_d0a16_6]
    simp (disch := omega) only [true_and, and_true, and_self, exists_eq_left, Option.toList_some, Option.toList_none, List.cons_append, List.nil_append, List.append_nil, i2_i, i2_r, i2_n, nz0, nz1, true_or, or_true, Nat.reduceAdd, Nat.le_refl, Nat.reduceLT, Nat.reduceLeDiff, ↓E_J7_fill_d0a16_0, ↓E_J7_fill_d0a16_1, ↓E_J7_fill_d0a16_2, ↓E_J7_fill_d0a16_3, ↓E_J7_fill_d0a16_4, ↓E_J7_fill_d0a16_7, ↓E_J7_fill_d0a16_9, ↓E_J7_fill_d0a16_12, ↓E_J7_fill_d0a16_13, ↓E_J7_fill_d0a16_14, ↓E_J7_fill_d0a16_15, ↓E_J7_fill_d0a16_16, ↓E_J7_fill_d0a16_19, ↓E_J7_fill_d0a16_22, leN]
    rw [if_pos (by omega), show k = 60 by omega]
  | succ m ih =>
    intro k hk
    rw [E_J7_fill_d0a16_6]
    simp (disch := omega) only [true_and, and_true, and_self, exists_eq_left, Option.toList_some, Option.toList_none, List.cons_append, List.nil_append, List.append_nil, i2_i, i2_r, i2_n, nz0, nz1, true_or, or_true, Nat.reduceAdd, Nat.le_refl, Nat.reduceLT, Nat.reduceLeDiff, ↓E_J7_fill_d0a16_0, ↓E_J7_fill_d0a16_1, ↓E_J7_fill_d0a16_2, ↓E_J7_fill_d0a16_3, ↓E_J7_fill_d0a16_4, ↓E_J7_fill_d0a16_7, ↓E_J7_fill_d0a16_9, ↓E_J7_fill_d0a16_12, ↓E_J7_fill_d0a16_13, ↓E_J7_fill_d0a16_14, ↓E_J7_fill_d0a16_15, ↓E_J7_fill_d0a16_16, ↓E_J7_fill_d0a16_19, ↓E_J7_fill_d0a16_22, leN, ha, hl, vin, clN, nI_1]
    rw [if_neg (by omega), mx_ucl, flL_s]
    exact ih (k + 1) (by omega)
theorem s_fill {d : Nat} {σ : mx_S} {q : mx_R} {a : Nat} {v : Int64} (ha : mx_kd a = 11) (hl : mx_ln a = 60) : mx_call (d + 1) m_J7_fill_d0a16 [.ref a, .long v] σ q ↔ q = (none, (σ.1, mx_c σ.2 a (flL (σ.2 a) v 60))) := by
  simp (disch := omega) only [C_J7_fill_d0a16, true_and, and_true, and_self, exists_eq_left, Option.toList_some, Option.toList_none, List.cons_append, List.nil_append, List.append_nil, i2_i, i2_r, i2_n, nz0, nz1, true_or, or_true, Nat.reduceAdd, Nat.le_refl, Nat.reduceLT, Nat.reduceLeDiff, ↓E_J7_fill_d0a16_0, ↓E_J7_fill_d0a16_1, ↓E_J7_fill_d0a16_2, ↓E_J7_fill_d0a16_3, ↓E_J7_fill_d0a16_4, ↓E_J7_fill_d0a16_7, ↓E_J7_fill_d0a16_9, ↓E_J7_fill_d0a16_12, ↓E_J7_fill_d0a16_13, ↓E_J7_fill_d0a16_14, ↓E_J7_fill_d0a16_15, ↓E_J7_fill_d0a16_16, ↓E_J7_fill_d0a16_19, ↓E_J7_fill_d0a16_22, ha, hl]
  have e := l_fill (d := d) (f := σ.1) (τ := σ.2) (q := q) (v := v) ha hl 60 0 rfl
  have z : flL (σ.2 a) v 0 = σ.2 a := by funext p; unfold flL; rw [if_neg (by omega)]
  rw [z, mx_c_id] at e
  exact e
set_option maxHeartbeats 2000000 in
theorem s_become {d : Nat} {σ : mx_S} {q : mx_R} {t : Nat} {x y : Int32} (ht : t < 6) : mx_call (d + 2) m_X4_become [.ref (76 + 2 * t), .int x, .int y] σ q ↔ q = (none, (mx_u (mx_u σ.1 (76 + 2 * t) 1 x) (76 + 2 * t) 2 y, mx_c σ.2 (76 + 2 * t + 1) (flL (σ.2 (76 + 2 * t + 1)) 0 60))) := by
  simp (disch := omega) only [C_X4_become, true_and, and_true, and_self, exists_eq_left, Option.toList_some, Option.toList_none, List.cons_append, List.nil_append, List.append_nil, i2_i, i2_r, i2_n, nz0, nz1, true_or, or_true, Nat.reduceAdd, Nat.le_refl, Nat.reduceLT, Nat.reduceLeDiff, ↓E_X4_become_0, ↓E_X4_become_1, ↓E_X4_become_2, ↓E_X4_become_5, ↓E_X4_become_6, ↓E_X4_become_7, ↓E_X4_become_10, ↓E_X4_become_11, ↓E_X4_become_14, ↓E_X4_become_15, ↓E_X4_become_18, kdT, s_fill (kdTi ht) (ln_60 (by omega))]
theorem s_hasItem {d : Nat} {σ : mx_S} {q : mx_R} {t : Nat} {x : Int32} (ht : t < 6) : mx_call (d + 1) m_X4_hasItem [.ref (76 + 2 * t), .int x] σ q ↔ q = (some (.int (bz (ibx x (σ.1 (76 + 2 * t) 2)))), σ) := by
  simp (disch := omega) only [C_X4_hasItem, true_and, and_true, and_self, exists_eq_left, Option.toList_some, Option.toList_none, List.cons_append, List.nil_append, List.append_nil, i2_i, i2_r, i2_n, nz0, nz1, true_or, or_true, Nat.reduceAdd, Nat.le_refl, Nat.reduceLT, Nat.reduceLeDiff, ↓E_X4_hasItem_0, ↓E_X4_hasItem_1, ↓E_X4_hasItem_4, ↓E_X4_hasItem_5, ↓E_X4_hasItem_6, ↓E_X4_hasItem_9, ↓E_X4_hasItem_12, ↓E_X4_hasItem_13, ↓E_X4_hasItem_16, ↓E_X4_hasItem_17, kdT]
  simp only [ibx, l32, le32]
  have e0 : (0 : Int32).toInt = 0 := rfl
  rw [e0]
  by_cases h1 : x.toInt < 0
  · rw [if_pos h1, show decide (0 ≤ x.toInt) = false by simp; omega]
    rfl
  · rw [if_neg h1, show decide (0 ≤ x.toInt) = true by simp; omega]
    by_cases h2 : (σ.1 (76 + 2 * t) 2).toInt ≤ x.toInt
    · rw [if_pos h2, show decide (x.toInt < (σ.1 (76 + 2 * t) 2).toInt) = false by simp; omega]
      rfl
    · rw [if_neg h2, show decide (x.toInt < (σ.1 (76 + 2 * t) 2).toInt) = true by simp; omega]
      rfl
theorem tapX_at {w : Vw} {σ : mx_S} (hw : vwX w σ) {t : Nat} (ht : t < 6) : σ.1 (76 + 2 * t) 1 = (w.2.2.2 t).1 ∧ σ.1 (76 + 2 * t) 2 = nI (w.2.2.2 t).2.1 ∧ (∀ i, i < 60 → σ.2 (76 + 2 * t + 1) i = (w.2.2.2 t).2.2 i) ∧ (w.2.2.2 t).2.1 ≤ 60 := by
  obtain ⟨a, b, c⟩ := hw.2.2.2.2.1 t ht
  refine ⟨a, b, fun i hi => ?_, ?_⟩
  · rw [show 76 + 2 * t + 1 = 77 + 2 * t by omega]; exact c i hi
  · rcases hw.1.2.2.2 t ht with h | h
    · rw [h.2]; omega
    · exact h.2
theorem lt60 {n : Int32} : (60 < n) = (60 < n.toInt) := by rw [l32]; rfl
theorem lt0 {n : Int32} : (n < 0) = (n.toInt < 0) := by rw [l32]; rfl
theorem le60 {n : Int32} : (n ≤ 60) = (n.toInt ≤ 60) := by rw [le32]; rfl
theorem le0 {n : Int32} : (0 ≤ n) = (0 ≤ n.toInt) := by rw [le32]; rfl
set_option maxHeartbeats 2000000 in
theorem X_tape {d : Nat} {σ : mx_S} {w : Vw} {a b n : Int32} (hw : vwX w σ) : ∃ σ', mx_call (d + 3) m_X6_tape [.ref 0, .int a, .int b, .int n] σ (some (.int (F_tape w a b n).1), σ') ∧ vwX (F_tape w a b n).2 σ' ∧ hiS σ σ' := by
  simp (disch := omega) only [C_X6_tape, true_and, and_true, and_self, exists_eq_left, Option.toList_some, Option.toList_none, List.cons_append, List.nil_append, List.append_nil, i2_i, i2_r, i2_n, nz0, nz1, true_or, or_true, Nat.reduceAdd, Nat.le_refl, Nat.reduceLT, Nat.reduceLeDiff, ↓E_X6_tape_0, ↓E_X6_tape_1, ↓E_X6_tape_3, ↓E_X6_tape_6, ↓E_X6_tape_9, ↓E_X6_tape_10, ↓E_X6_tape_11, ↓E_X6_tape_12, ↓E_X6_tape_13, ↓E_X6_tape_16, ↓E_X6_tape_17, ↓E_X6_tape_20, ↓E_X6_tape_21, ↓E_X6_tape_22, ↓E_X6_tape_23, ↓E_X6_tape_24, ↓E_X6_tape_27, ↓E_X6_tape_28, ↓E_X6_tape_29, ↓E_X6_tape_30, ↓E_X6_tape_31, ↓E_X6_tape_34, ↓E_X6_tape_37, ↓E_X6_tape_38, ↓E_X6_tape_40, ↓E_X6_tape_43, ↓E_X6_tape_45, ↓E_X6_tape_46, ↓E_X6_tape_47, ↓E_X6_tape_50, ↓E_X6_tape_52, ↓E_X6_tape_53, ↓E_X6_tape_54, ↓E_X6_tape_57, ↓E_X6_tape_58, ↓E_X6_tape_59, ↓E_X6_tape_60, ↓E_X6_tape_61, ↓E_X6_tape_64, ↓E_X6_tape_65, s_isBelow, bz_0, ibx_6, ibx_5, lt60, lt0, le60, le0]
  unfold F_tape
  by_cases e0 : ibI a 6 = false
  · simp only [if_pos e0]
    exact ⟨σ, rfl, hw, hiS.rf⟩
  obtain ⟨ha, ha2, ha3⟩ := ibI_of (eq_true_of_ne_false e0)
  simp only [if_neg e0]
  generalize ixI a = t at *
  subst ha
  by_cases e1 : b = -1
  · simp (disch := omega) only [if_pos e1, true_and, and_true, and_self, exists_eq_left, Option.toList_some, Option.toList_none, List.cons_append, List.nil_append, List.append_nil, i2_i, i2_r, i2_n, nz0, nz1, true_or, or_true, Nat.reduceAdd, Nat.le_refl, Nat.reduceLT, Nat.reduceLeDiff, ↓E_X6_tape_0, ↓E_X6_tape_1, ↓E_X6_tape_3, ↓E_X6_tape_6, ↓E_X6_tape_9, ↓E_X6_tape_10, ↓E_X6_tape_11, ↓E_X6_tape_12, ↓E_X6_tape_13, ↓E_X6_tape_16, ↓E_X6_tape_17, ↓E_X6_tape_20, ↓E_X6_tape_21, ↓E_X6_tape_22, ↓E_X6_tape_23, ↓E_X6_tape_24, ↓E_X6_tape_27, ↓E_X6_tape_28, ↓E_X6_tape_29, ↓E_X6_tape_30, ↓E_X6_tape_31, ↓E_X6_tape_34, ↓E_X6_tape_37, ↓E_X6_tape_38, ↓E_X6_tape_40, ↓E_X6_tape_43, ↓E_X6_tape_45, ↓E_X6_tape_46, ↓E_X6_tape_47, ↓E_X6_tape_50, ↓E_X6_tape_52, ↓E_X6_tape_53, ↓E_X6_tape_54, ↓E_X6_tape_57, ↓E_X6_tape_58, ↓E_X6_tape_59, ↓E_X6_tape_60, ↓E_X6_tape_61, ↓E_X6_tape_64, ↓E_X6_tape_65, kd_14, ln_6, vin, clN, ptrT, kdT, s_become]
    refine ⟨_, rfl, vwX_tp hw ha2 (Or.inl ⟨rfl, rfl⟩) ⟨?_, ?_, ?_⟩ (fun i hi => by simp (disch := omega) only [mx_u_ne]) (fun i hi => mx_c_ne (by omega)), fun i hi => ⟨by simp (disch := omega) only [mx_u_ne], mx_c_ne (by omega)⟩⟩
    · simp (disch := omega) only [uu_col, uu_same]
    · simp only [uu_same]; rfl
    · intro i hi
      rw [show 77 + 2 * t = 76 + 2 * t + 1 by omega]
      simp only [cc_same, flL, if_pos hi]
  simp only [if_neg e1]
  by_cases e2 : ibI b 5 = false
  · simp only [if_pos e2, if_pos (Or.inl e2 : ibI b 5 = false ∨ 60 < n.toInt)]
    exact ⟨σ, rfl, hw, hiS.rf⟩
  simp only [if_neg e2]
  obtain ⟨hb, hb2, hb3⟩ := ibI_of (eq_true_of_ne_false e2)
  by_cases e3 : 60 < n.toInt
  · simp only [if_pos (Or.inr e3 : ibI b 5 = false ∨ 60 < n.toInt), if_neg (show ¬ n.toInt ≤ 60 by omega), if_pos e3]
    exact ⟨σ, rfl, hw, hiS.rf⟩
  have n3 : ¬ (ibI b 5 = false ∨ 60 < n.toInt) := fun z => z.elim e2 e3
  simp only [if_neg n3, if_pos (show n.toInt ≤ 60 by omega), if_neg e3]
  by_cases e4 : n.toInt < 0
  · simp only [if_pos e4, if_neg (show ¬ 0 ≤ n.toInt by omega)]
    exact ⟨σ, rfl, hw, hiS.rf⟩
  simp only [if_neg e4, if_pos (show 0 ≤ n.toInt by omega)]
  have hni : n = nI (ixI n) ∧ ixI n ≤ 60 := by
    have := inI_of (x := n) (m := 60) (by simp [inI]; omega)
    exact ⟨this.1, this.2.1⟩
  simp (disch := omega) only [true_and, and_true, and_self, exists_eq_left, Option.toList_some, Option.toList_none, List.cons_append, List.nil_append, List.append_nil, i2_i, i2_r, i2_n, nz0, nz1, true_or, or_true, Nat.reduceAdd, Nat.le_refl, Nat.reduceLT, Nat.reduceLeDiff, ↓E_X6_tape_0, ↓E_X6_tape_1, ↓E_X6_tape_3, ↓E_X6_tape_6, ↓E_X6_tape_9, ↓E_X6_tape_10, ↓E_X6_tape_11, ↓E_X6_tape_12, ↓E_X6_tape_13, ↓E_X6_tape_16, ↓E_X6_tape_17, ↓E_X6_tape_20, ↓E_X6_tape_21, ↓E_X6_tape_22, ↓E_X6_tape_23, ↓E_X6_tape_24, ↓E_X6_tape_27, ↓E_X6_tape_28, ↓E_X6_tape_29, ↓E_X6_tape_30, ↓E_X6_tape_31, ↓E_X6_tape_34, ↓E_X6_tape_37, ↓E_X6_tape_38, ↓E_X6_tape_40, ↓E_X6_tape_43, ↓E_X6_tape_45, ↓E_X6_tape_46, ↓E_X6_tape_47, ↓E_X6_tape_50, ↓E_X6_tape_52, ↓E_X6_tape_53, ↓E_X6_tape_54, ↓E_X6_tape_57, ↓E_X6_tape_58, ↓E_X6_tape_59, ↓E_X6_tape_60, ↓E_X6_tape_61, ↓E_X6_tape_64, ↓E_X6_tape_65, kd_14, ln_6, vin, clN, ptrT, kdT, s_become]
  refine ⟨_, rfl, vwX_tp hw ha2 (Or.inr ⟨⟨ixI b, by omega, hb⟩, hni.2⟩) ⟨?_, ?_, ?_⟩ (fun i hi => by simp (disch := omega) only [mx_u_ne]) (fun i hi => mx_c_ne (by omega)), fun i hi => ⟨by simp (disch := omega) only [mx_u_ne], mx_c_ne (by omega)⟩⟩
  · simp (disch := omega) only [uu_col, uu_same]
  · simp only [uu_same]; exact hni.1
  · intro i hi
    rw [show 77 + 2 * t = 76 + 2 * t + 1 by omega]
    simp only [cc_same, flL, if_pos hi]
set_option maxHeartbeats 2000000 in
theorem X_peek {d : Nat} {σ : mx_S} {w : Vw} {a b : Int32} (hw : vwX w σ) : mx_call (d + 2) m_X6_peek [.ref 0, .int a, .int b] σ (some (.long (F_peek w a b)), σ) := by
  simp (disch := omega) only [C_X6_peek, true_and, and_true, and_self, exists_eq_left, Option.toList_some, Option.toList_none, List.cons_append, List.nil_append, List.append_nil, i2_i, i2_r, i2_n, nz0, nz1, true_or, or_true, Nat.reduceAdd, Nat.le_refl, Nat.reduceLT, Nat.reduceLeDiff, ↓E_X6_peek_0, ↓E_X6_peek_1, ↓E_X6_peek_3, ↓E_X6_peek_6, ↓E_X6_peek_9, ↓E_X6_peek_10, ↓E_X6_peek_13, ↓E_X6_peek_14, ↓E_X6_peek_15, ↓E_X6_peek_16, ↓E_X6_peek_19, ↓E_X6_peek_22, ↓E_X6_peek_25, ↓E_X6_peek_26, ↓E_X6_peek_27, ↓E_X6_peek_30, ↓E_X6_peek_31, ↓E_X6_peek_32, ↓E_X6_peek_35, ↓E_X6_peek_36, ↓E_X6_peek_37, s_isBelow, bz_0, ibx_6]
  unfold F_peek
  by_cases e0 : ibI a 6 = false
  · simp only [if_pos e0]
  obtain ⟨ha, ha2, ha3⟩ := ibI_of (eq_true_of_ne_false e0)
  simp only [if_neg e0]
  generalize ixI a = t at *
  subst ha
  obtain ⟨T1, T2, T3, T4⟩ := tapX_at hw ha2
  simp (disch := omega) only [true_and, and_true, and_self, exists_eq_left, Option.toList_some, Option.toList_none, List.cons_append, List.nil_append, List.append_nil, i2_i, i2_r, i2_n, nz0, nz1, true_or, or_true, Nat.reduceAdd, Nat.le_refl, Nat.reduceLT, Nat.reduceLeDiff, ↓E_X6_peek_0, ↓E_X6_peek_1, ↓E_X6_peek_3, ↓E_X6_peek_6, ↓E_X6_peek_9, ↓E_X6_peek_10, ↓E_X6_peek_13, ↓E_X6_peek_14, ↓E_X6_peek_15, ↓E_X6_peek_16, ↓E_X6_peek_19, ↓E_X6_peek_22, ↓E_X6_peek_25, ↓E_X6_peek_26, ↓E_X6_peek_27, ↓E_X6_peek_30, ↓E_X6_peek_31, ↓E_X6_peek_32, ↓E_X6_peek_35, ↓E_X6_peek_36, ↓E_X6_peek_37, kd_14, ln_6, vin, clN, ptrT, kdT, s_hasItem, T2, ibx_N, bz_0]
  by_cases e1 : ibI b (w.2.2.2 t).2.1 = false
  · simp only [if_pos e1]
  obtain ⟨hb, hb2, hb3⟩ := ibI_of (eq_true_of_ne_false e1)
  simp only [if_neg e1]
  generalize ixI b = i at *
  subst hb
  simp (disch := omega) only [true_and, and_true, and_self, exists_eq_left, Option.toList_some, Option.toList_none, List.cons_append, List.nil_append, List.append_nil, i2_i, i2_r, i2_n, nz0, nz1, true_or, or_true, Nat.reduceAdd, Nat.le_refl, Nat.reduceLT, Nat.reduceLeDiff, kd_11, ln_60, vin, clN, T3]
