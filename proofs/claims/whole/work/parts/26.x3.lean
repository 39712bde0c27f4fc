theorem nb {k : Nat} (h : k < 128) : (nI k).toInt8.toInt32 = nI k := by
  have h9 : ∀ k, k < 128 → (nI k).toInt8.toInt32 = nI k := by decide +kernel
  exact h9 k h
set_option maxHeartbeats 2000000 in
theorem X_feed {d : Nat} {σ : mx_S} {w : Vw} {a : Int32} (hw : vwX w σ) : ∃ σ', mx_call (d + 2) m_X6_feed [.ref 0, .int a] σ (some (.int (F_feed w a).1), σ') ∧ vwX (F_feed w a).2 σ' ∧ hiS σ σ' := by
  obtain ⟨H1, ⟨-, R1, R2, R3⟩, H3, H4, H5, H6⟩ := id hw
  have hl := H1.2.2.1
  simp (disch := omega) only [C_X6_feed, true_and, and_true, and_self, exists_eq_left, Option.toList_some, Option.toList_none, List.cons_append, List.nil_append, List.append_nil, i2_i, i2_r, i2_n, nz0, nz1, true_or, or_true, Nat.reduceAdd, Nat.le_refl, Nat.reduceLT, Nat.reduceLeDiff, ↓E_X6_feed_0, ↓E_X6_feed_1, ↓E_X6_feed_4, ↓E_X6_feed_7, ↓E_X6_feed_10, ↓E_X6_feed_12, ↓E_X6_feed_13, ↓E_X6_feed_14, ↓E_X6_feed_17, ↓E_X6_feed_18, ↓E_X6_feed_21, ↓E_X6_feed_24, ↓E_X6_feed_25, ↓E_X6_feed_28, ↓E_X6_feed_31, ↓E_X6_feed_34, ↓E_X6_feed_36, s_isBelow, bz_0, ibx_128, kd_5, s_append hl.1 H4.1]
  unfold F_feed
  by_cases e0 : ibI a 128 = false
  · simp only [if_pos e0]
    exact ⟨σ, rfl, hw, hiS.rf⟩
  obtain ⟨ha, ha2, ha3⟩ := ibI_of (eq_true_of_ne_false e0)
  simp only [if_neg e0]
  generalize ixI a = k at *
  subst ha
  by_cases e1 : w.2.2.1.length = 100
  · simp only [if_pos e1, true_and, and_true, and_self, exists_eq_left, Option.toList_some, Option.toList_none, List.cons_append, List.nil_append, List.append_nil, i2_i, i2_r, i2_n, nz0, nz1, true_or, or_true, Nat.reduceAdd, Nat.le_refl, Nat.reduceLT, Nat.reduceLeDiff, ↓E_X6_feed_0, ↓E_X6_feed_1, ↓E_X6_feed_4, ↓E_X6_feed_7, ↓E_X6_feed_10, ↓E_X6_feed_12, ↓E_X6_feed_13, ↓E_X6_feed_14, ↓E_X6_feed_17, ↓E_X6_feed_18, ↓E_X6_feed_21, ↓E_X6_feed_24, ↓E_X6_feed_25, ↓E_X6_feed_28, ↓E_X6_feed_31, ↓E_X6_feed_34, ↓E_X6_feed_36, if_true]
    exact ⟨σ, rfl, hw, hiS.rf⟩
  · simp (disch := omega) only [if_neg e1, true_and, and_true, and_self, exists_eq_left, Option.toList_some, Option.toList_none, List.cons_append, List.nil_append, List.append_nil, i2_i, i2_r, i2_n, nz0, nz1, true_or, or_true, Nat.reduceAdd, Nat.le_refl, Nat.reduceLT, Nat.reduceLeDiff, ↓E_X6_feed_0, ↓E_X6_feed_1, ↓E_X6_feed_4, ↓E_X6_feed_7, ↓E_X6_feed_10, ↓E_X6_feed_12, ↓E_X6_feed_13, ↓E_X6_feed_14, ↓E_X6_feed_17, ↓E_X6_feed_18, ↓E_X6_feed_21, ↓E_X6_feed_24, ↓E_X6_feed_25, ↓E_X6_feed_28, ↓E_X6_feed_31, ↓E_X6_feed_34, ↓E_X6_feed_36, kd_5, uu_same, if_neg (show ¬ (1 : Int32) = 0 by decide), nb]
    refine ⟨_, rfl, vwX_tx hw ⟨by rw [List.length_append, List.length_singleton]; omega, fun x hx => ?_⟩ ⟨?_, fun i hi => ?_⟩ (fun i hi => by simp (disch := omega) only [mx_u_ne]) rfl, fun i hi => ⟨by simp (disch := omega) only [mx_u_ne], rfl⟩⟩
    · rcases List.mem_append.mp hx with h1 | h1
      · exact hl.2 x h1
      · rw [List.mem_singleton.mp h1]; exact ha2
    · simp only [uu_same, List.length_append, List.length_cons, List.length_nil]
    · rw [List.length_append, List.length_singleton] at hi
      by_cases e : i = w.2.2.1.length
      · subst e
        simp (disch := omega) only [uu_row, uu_same, getD_end]
      · simp (disch := omega) only [uu_row, uu_col, getD_app]
        exact H4.2 i (by omega)
/-! the job at a place comes to another one -/
def mvUp (f : Nat → Int32) (k t : Nat) : Nat → Int32 := fun p => if k ≤ p ∧ p < k + t then f (p + 1) else f p
def mvDn (f : Nat → Int32) (k t : Nat) : Nat → Int32 := fun p => if k < p + t ∧ p ≤ k then f (p - 1) else f p
theorem mx_cc {α : Type} {f : Nat → Nat → α} {a : Nat} {g g' : Nat → α} : mx_c (mx_c f a g) a g' = mx_c f a g' := by
  funext i j
  simp only [mx_c]
  by_cases h : i = a <;> simp [h]
theorem mx_uc {f : Nat → Nat → Int32} {a k : Nat} {x : Int32} {g : Nat → Int32} : mx_u (mx_c f a g) a k x = mx_c f a (upd g k x) := by
  funext i j
  simp only [mx_c, mx_u, upd]
  by_cases h : i = a <;> by_cases h2 : j = k <;> simp [h, h2]
theorem mx_c_id {α : Type} {f : Nat → Nat → α} {a : Nat} : mx_c f a (f a) = f := by
  funext i j
  simp only [mx_c]
  by_cases h : i = a
  · subst h; simp
  · simp [h]
theorem mvUp_s {f : Nat → Int32} {k t : Nat} : upd (mvUp f k t) (k + t) (mvUp f k t (k + t + 1)) = mvUp f k (t + 1) := by
  funext p
  unfold upd mvUp
  by_cases e : p = k + t
  · subst e
    rw [if_pos rfl, if_neg (by omega), if_pos (by omega)]
  · rw [if_neg e]
    by_cases h : k ≤ p ∧ p < k + t
    · rw [if_pos h, if_pos (by omega)]
    · rw [if_neg h, if_neg (by omega)]
theorem mvDn_s {f : Nat → Int32} {k t : Nat} (h : t < k) : upd (mvDn f k t) (k - t) (mvDn f k t (k - t - 1)) = mvDn f k (t + 1) := by
  funext p
  unfold upd mvDn
  by_cases e : p = k - t
  · subst e
    rw [if_pos rfl, if_neg (by omega), if_pos (by omega)]
  · rw [if_neg e]
    by_cases h2 : k < p + t ∧ p ≤ k
    · rw [if_pos h2, if_pos (by omega)]
    · rw [if_neg h2, if_neg (by omega)]
set_option maxHeartbeats 2000000 in
theorem l_shiftUp {d : Nat} {f : Nat → Nat → Int32} {τ : Nat → Nat → Int64} {q : mx_R} {h a k l : Nat} {v : Int32} (hs : h = 1 ∨ h = 19 ∨ h = 37) (ha : a = 9 ∨ a = 46) (hl : l < 6) : ∀ m t, k + t + m = l → (mx_run d m_X3_shiftJob 25 [some (.ref h), some (.ref a), some (.int (nI k)), some (.int (nI l)), some (.int v), some (.int (nI (k + t)))] [] (mx_c f a (mvUp (f a) k t), τ) q ↔ mx_run d m_X3_shiftJob 47 [some (.ref h), some (.ref a), some (.int (nI k)), some (.int (nI l)), some (.int v), some (.int (nI l))] [] (mx_c f a (mvUp (f a) k (l - k)), τ) q) := by
  intro m
  induction m with
  | zero =>
    intro t ht
    rw [E_X3_shiftJob_25]
    simp (disch := omega) only [true_and, and_true, and_self, exists_eq_left, Option.toList_some, Option.toList_none, List.cons_append, List.nil_append, List.append_nil, i2_i, i2_r, i2_n, nz0, nz1, true_or, or_true, Nat.reduceAdd, Nat.le_refl, Nat.reduceLT, Nat.reduceLeDiff, ↓E_X3_shiftJob_0, ↓E_X3_shiftJob_1, ↓E_X3_shiftJob_2, ↓E_X3_shiftJob_5, ↓E_X3_shiftJob_8, ↓E_X3_shiftJob_9, ↓E_X3_shiftJob_10, ↓E_X3_shiftJob_13, ↓E_X3_shiftJob_16, ↓E_X3_shiftJob_17, ↓E_X3_shiftJob_18, ↓E_X3_shiftJob_19, ↓E_X3_shiftJob_20, ↓E_X3_shiftJob_22, ↓E_X3_shiftJob_23, ↓E_X3_shiftJob_27, ↓E_X3_shiftJob_28, ↓E_X3_shiftJob_31, ↓E_X3_shiftJob_32, ↓E_X3_shiftJob_34, ↓E_X3_shiftJob_35, ↓E_X3_shiftJob_37, ↓E_X3_shiftJob_38, ↓E_X3_shiftJob_39, ↓E_X3_shiftJob_40, ↓E_X3_shiftJob_41, ↓E_X3_shiftJob_44, ↓E_X3_shiftJob_48, ↓E_X3_shiftJob_52, ↓E_X3_shiftJob_53, ↓E_X3_shiftJob_56, ↓E_X3_shiftJob_57, ↓E_X3_shiftJob_59, ↓E_X3_shiftJob_60, ↓E_X3_shiftJob_62, ↓E_X3_shiftJob_63, ↓E_X3_shiftJob_64, ↓E_X3_shiftJob_65, ↓E_X3_shiftJob_66, ↓E_X3_shiftJob_69, ↓E_X3_shiftJob_72, ↓E_X3_shiftJob_73, ↓E_X3_shiftJob_74, ↓E_X3_shiftJob_76, ↓E_X3_shiftJob_77, leN]
    rw [if_pos (by omega), show l - k = t by omega, show k + t = l by omega]
  | succ m ih =>
    intro t ht
    rw [E_X3_shiftJob_25]
    simp (disch := omega) only [true_and, and_true, and_self, exists_eq_left, Option.toList_some, Option.toList_none, List.cons_append, List.nil_append, List.append_nil, i2_i, i2_r, i2_n, nz0, nz1, true_or, or_true, Nat.reduceAdd, Nat.le_refl, Nat.reduceLT, Nat.reduceLeDiff, ↓E_X3_shiftJob_0, ↓E_X3_shiftJob_1, ↓E_X3_shiftJob_2, ↓E_X3_shiftJob_5, ↓E_X3_shiftJob_8, ↓E_X3_shiftJob_9, ↓E_X3_shiftJob_10, ↓E_X3_shiftJob_13, ↓E_X3_shiftJob_16, ↓E_X3_shiftJob_17, ↓E_X3_shiftJob_18, ↓E_X3_shiftJob_19, ↓E_X3_shiftJob_20, ↓E_X3_shiftJob_22, ↓E_X3_shiftJob_23, ↓E_X3_shiftJob_27, ↓E_X3_shiftJob_28, ↓E_X3_shiftJob_31, ↓E_X3_shiftJob_32, ↓E_X3_shiftJob_34, ↓E_X3_shiftJob_35, ↓E_X3_shiftJob_37, ↓E_X3_shiftJob_38, ↓E_X3_shiftJob_39, ↓E_X3_shiftJob_40, ↓E_X3_shiftJob_41, ↓E_X3_shiftJob_44, ↓E_X3_shiftJob_48, ↓E_X3_shiftJob_52, ↓E_X3_shiftJob_53, ↓E_X3_shiftJob_56, ↓E_X3_shiftJob_57, ↓E_X3_shiftJob_59, ↓E_X3_shiftJob_60, ↓E_X3_shiftJob_62, ↓E_X3_shiftJob_63, ↓E_X3_shiftJob_64, ↓E_X3_shiftJob_65, ↓E_X3_shiftJob_66, ↓E_X3_shiftJob_69, ↓E_X3_shiftJob_72, ↓E_X3_shiftJob_73, ↓E_X3_shiftJob_74, ↓E_X3_shiftJob_76, ↓E_X3_shiftJob_77, leN, nI_1, kd_8, ln_6, vin, clN]
    rw [if_neg (by omega), mx_uc, cc_same, mvUp_s]
    exact ih (t + 1) (by omega)
set_option maxHeartbeats 2000000 in
theorem l_shiftDn {d : Nat} {f : Nat → Nat → Int32} {τ : Nat → Nat → Int64} {q : mx_R} {h a k l : Nat} {v : Int32} (hs : h = 1 ∨ h = 19 ∨ h = 37) (ha : a = 9 ∨ a = 46) (hk : k < 6) (hlk : l < k) : ∀ m t, l + m + t = k → (mx_run d m_X3_shiftJob 50 [some (.ref h), some (.ref a), some (.int (nI k)), some (.int (nI l)), some (.int v), some (.int (nI (k - t)))] [] (mx_c f a (mvDn (f a) k t), τ) q ↔ mx_run d m_X3_shiftJob 72 [some (.ref h), some (.ref a), some (.int (nI k)), some (.int (nI l)), some (.int v), some (.int (nI l))] [] (mx_c f a (mvDn (f a) k (k - l)), τ) q) := by
  intro m
  induction m with
  | zero =>
    intro t ht
    rw [E_X3_shiftJob_50]
    simp (disch := omega) only [true_and, and_true, and_self, exists_eq_left, Option.toList_some, Option.toList_none, List.cons_append, List.nil_append, List.append_nil, i2_i, i2_r, i2_n, nz0, nz1, true_or, or_true, Nat.reduceAdd, Nat.le_refl, Nat.reduceLT, Nat.reduceLeDiff, ↓E_X3_shiftJob_0, ↓E_X3_shiftJob_1, ↓E_X3_shiftJob_2, ↓E_X3_shiftJob_5, ↓E_X3_shiftJob_8, ↓E_X3_shiftJob_9, ↓E_X3_shiftJob_10, ↓E_X3_shiftJob_13, ↓E_X3_shiftJob_16, ↓E_X3_shiftJob_17, ↓E_X3_shiftJob_18, ↓E_X3_shiftJob_19, ↓E_X3_shiftJob_20, ↓E_X3_shiftJob_22, ↓E_X3_shiftJob_23, ↓E_X3_shiftJob_27, ↓E_X3_shiftJob_28, ↓E_X3_shiftJob_31, ↓E_X3_shiftJob_32, ↓E_X3_shiftJob_34, ↓E_X3_shiftJob_35, ↓E_X3_shiftJob_37, ↓E_X3_shiftJob_38, ↓E_X3_shiftJob_39, ↓E_X3_shiftJob_40, ↓E_X3_shiftJob_41, ↓E_X3_shiftJob_44, ↓E_X3_shiftJob_48, ↓E_X3_shiftJob_52, ↓E_X3_shiftJob_53, ↓E_X3_shiftJob_56, ↓E_X3_shiftJob_57, ↓E_X3_shiftJob_59, ↓E_X3_shiftJob_60, ↓E_X3_shiftJob_62, ↓E_X3_shiftJob_63, ↓E_X3_shiftJob_64, ↓E_X3_shiftJob_65, ↓E_X3_shiftJob_66, ↓E_X3_shiftJob_69, ↓E_X3_shiftJob_73, ↓E_X3_shiftJob_74, ↓E_X3_shiftJob_76, ↓E_X3_shiftJob_77, leN]
    rw [if_pos (by omega), show k - l = t by omega, show k - t = l by omega]
  | succ m ih =>
    intro t ht
    have e1 : nI (k - t) - 1 = nI (k - t - 1) := by rw [show k - t = (k - t - 1) + 1 by omega, nI_pred]; rfl
    have e2 : nI (k - t) + -1 = nI (k - t - 1) := by rw [show k - t = (k - t - 1) + 1 by omega, pk_m1]; rfl
    rw [E_X3_shiftJob_50]
    simp (disch := omega) only [true_and, and_true, and_self, exists_eq_left, Option.toList_some, Option.toList_none, List.cons_append, List.nil_append, List.append_nil, i2_i, i2_r, i2_n, nz0, nz1, true_or, or_true, Nat.reduceAdd, Nat.le_refl, Nat.reduceLT, Nat.reduceLeDiff, ↓E_X3_shiftJob_0, ↓E_X3_shiftJob_1, ↓E_X3_shiftJob_2, ↓E_X3_shiftJob_5, ↓E_X3_shiftJob_8, ↓E_X3_shiftJob_9, ↓E_X3_shiftJob_10, ↓E_X3_shiftJob_13, ↓E_X3_shiftJob_16, ↓E_X3_shiftJob_17, ↓E_X3_shiftJob_18, ↓E_X3_shiftJob_19, ↓E_X3_shiftJob_20, ↓E_X3_shiftJob_22, ↓E_X3_shiftJob_23, ↓E_X3_shiftJob_27, ↓E_X3_shiftJob_28, ↓E_X3_shiftJob_31, ↓E_X3_shiftJob_32, ↓E_X3_shiftJob_34, ↓E_X3_shiftJob_35, ↓E_X3_shiftJob_37, ↓E_X3_shiftJob_38, ↓E_X3_shiftJob_39, ↓E_X3_shiftJob_40, ↓E_X3_shiftJob_41, ↓E_X3_shiftJob_44, ↓E_X3_shiftJob_48, ↓E_X3_shiftJob_52, ↓E_X3_shiftJob_53, ↓E_X3_shiftJob_56, ↓E_X3_shiftJob_57, ↓E_X3_shiftJob_59, ↓E_X3_shiftJob_60, ↓E_X3_shiftJob_62, ↓E_X3_shiftJob_63, ↓E_X3_shiftJob_64, ↓E_X3_shiftJob_65, ↓E_X3_shiftJob_66, ↓E_X3_shiftJob_69, ↓E_X3_shiftJob_73, ↓E_X3_shiftJob_74, ↓E_X3_shiftJob_76, ↓E_X3_shiftJob_77, leN, e1, e2, kd_8, ln_6, vin, clN]
    rw [if_neg (by omega), mx_uc, cc_same, mvDn_s (by omega), show k - t - 1 = k - (t + 1) by omega]
    exact ih (t + 1) (by omega)
set_option maxHeartbeats 2000000 in
theorem s_shiftJob {d : Nat} {σ : mx_S} {q : mx_R} {h a n k l : Nat} (hs : h = 1 ∨ h = 19 ∨ h = 37) (ha : a = 9 ∨ a = 46) (hn : n ≤ 6) (h0 : σ.1 h 0 = nI n) (hk : k < n) (hl : l < n) : mx_call (d + 2) m_X3_shiftJob [.ref h, .ref a, .int (nI k), .int (nI l)] σ q ↔ q = (none, (mx_c σ.1 a (fun p => σ.1 a (mvI k l p)), σ.2)) := by
  have b1 : ibI (nI k) n = true := by rw [ibI_nI (by omega)]; simp [hk]
  have b2 : ibI (nI l) n = true := by rw [ibI_nI (by omega)]; simp [hl]
  simp (disch := omega) only [C_X3_shiftJob, true_and, and_true, and_self, exists_eq_left, Option.toList_some, Option.toList_none, List.cons_append, List.nil_append, List.append_nil, i2_i, i2_r, i2_n, nz0, nz1, true_or, or_true, Nat.reduceAdd, Nat.le_refl, Nat.reduceLT, Nat.reduceLeDiff, ↓E_X3_shiftJob_0, ↓E_X3_shiftJob_1, ↓E_X3_shiftJob_2, ↓E_X3_shiftJob_5, ↓E_X3_shiftJob_8, ↓E_X3_shiftJob_9, ↓E_X3_shiftJob_10, ↓E_X3_shiftJob_13, ↓E_X3_shiftJob_16, ↓E_X3_shiftJob_17, ↓E_X3_shiftJob_18, ↓E_X3_shiftJob_19, ↓E_X3_shiftJob_20, ↓E_X3_shiftJob_22, ↓E_X3_shiftJob_23, ↓E_X3_shiftJob_27, ↓E_X3_shiftJob_28, ↓E_X3_shiftJob_31, ↓E_X3_shiftJob_32, ↓E_X3_shiftJob_34, ↓E_X3_shiftJob_35, ↓E_X3_shiftJob_37, ↓E_X3_shiftJob_38, ↓E_X3_shiftJob_39, ↓E_X3_shiftJob_40, ↓E_X3_shiftJob_41, ↓E_X3_shiftJob_44, ↓E_X3_shiftJob_48, ↓E_X3_shiftJob_52, ↓E_X3_shiftJob_53, ↓E_X3_shiftJob_56, ↓E_X3_shiftJob_57, ↓E_X3_shiftJob_59, ↓E_X3_shiftJob_60, ↓E_X3_shiftJob_62, ↓E_X3_shiftJob_63, ↓E_X3_shiftJob_64, ↓E_X3_shiftJob_65, ↓E_X3_shiftJob_66, ↓E_X3_shiftJob_69, ↓E_X3_shiftJob_73, ↓E_X3_shiftJob_74, ↓E_X3_shiftJob_76, ↓E_X3_shiftJob_77, s_hasJob, bz_0, kd_3, kd_8, h0, ibx_N, b1, b2, if_neg (show ¬ true = false by decide), vin, clN, ln_6]
  have z1 : mvUp (σ.1 a) k 0 = σ.1 a := by funext p; unfold mvUp; rw [if_neg (by omega)]
  have z2 : mvDn (σ.1 a) k 0 = σ.1 a := by funext p; unfold mvDn; rw [if_neg (by omega)]
  by_cases hkl : k ≤ l
  · have e := l_shiftUp (d := d + 1) (f := σ.1) (τ := σ.2) (q := q) (h := h) (a := a) (k := k) (l := l) (v := σ.1 a k) hs ha (by omega) (l - k) 0 (by omega)
    rw [z1, mx_c_id] at e
    refine e.trans ?_
    simp (disch := omega) only [true_and, and_true, and_self, exists_eq_left, Option.toList_some, Option.toList_none, List.cons_append, List.nil_append, List.append_nil, i2_i, i2_r, i2_n, nz0, nz1, true_or, or_true, Nat.reduceAdd, Nat.le_refl, Nat.reduceLT, Nat.reduceLeDiff, ↓E_X3_shiftJob_0, ↓E_X3_shiftJob_1, ↓E_X3_shiftJob_2, ↓E_X3_shiftJob_5, ↓E_X3_shiftJob_8, ↓E_X3_shiftJob_9, ↓E_X3_shiftJob_10, ↓E_X3_shiftJob_13, ↓E_X3_shiftJob_16, ↓E_X3_shiftJob_17, ↓E_X3_shiftJob_18, ↓E_X3_shiftJob_19, ↓E_X3_shiftJob_20, ↓E_X3_shiftJob_22, ↓E_X3_shiftJob_23, ↓E_X3_shiftJob_27, ↓E_X3_shiftJob_28, ↓E_X3_shiftJob_31, ↓E_X3_shiftJob_32, ↓E_X3_shiftJob_34, ↓E_X3_shiftJob_35, ↓E_X3_shiftJob_37, ↓E_X3_shiftJob_38, ↓E_X3_shiftJob_39, ↓E_X3_shiftJob_40, ↓E_X3_shiftJob_41, ↓E_X3_shiftJob_44, ↓E_X3_shiftJob_47, ↓E_X3_shiftJob_48, ↓E_X3_shiftJob_52, ↓E_X3_shiftJob_53, ↓E_X3_shiftJob_56, ↓E_X3_shiftJob_57, ↓E_X3_shiftJob_59, ↓E_X3_shiftJob_60, ↓E_X3_shiftJob_62, ↓E_X3_shiftJob_63, ↓E_X3_shiftJob_64, ↓E_X3_shiftJob_65, ↓E_X3_shiftJob_66, ↓E_X3_shiftJob_69, ↓E_X3_shiftJob_72, ↓E_X3_shiftJob_73, ↓E_X3_shiftJob_74, ↓E_X3_shiftJob_76, ↓E_X3_shiftJob_77]
    rw [E_X3_shiftJob_50]
    simp (disch := omega) only [true_and, and_true, and_self, exists_eq_left, Option.toList_some, Option.toList_none, List.cons_append, List.nil_append, List.append_nil, i2_i, i2_r, i2_n, nz0, nz1, true_or, or_true, Nat.reduceAdd, Nat.le_refl, Nat.reduceLT, Nat.reduceLeDiff, ↓E_X3_shiftJob_0, ↓E_X3_shiftJob_1, ↓E_X3_shiftJob_2, ↓E_X3_shiftJob_5, ↓E_X3_shiftJob_8, ↓E_X3_shiftJob_9, ↓E_X3_shiftJob_10, ↓E_X3_shiftJob_13, ↓E_X3_shiftJob_16, ↓E_X3_shiftJob_17, ↓E_X3_shiftJob_18, ↓E_X3_shiftJob_19, ↓E_X3_shiftJob_20, ↓E_X3_shiftJob_22, ↓E_X3_shiftJob_23, ↓E_X3_shiftJob_27, ↓E_X3_shiftJob_28, ↓E_X3_shiftJob_31, ↓E_X3_shiftJob_32, ↓E_X3_shiftJob_34, ↓E_X3_shiftJob_35, ↓E_X3_shiftJob_37, ↓E_X3_shiftJob_38, ↓E_X3_shiftJob_39, ↓E_X3_shiftJob_40, ↓E_X3_shiftJob_41, ↓E_X3_shiftJob_44, ↓E_X3_shiftJob_47, ↓E_X3_shiftJob_48, ↓E_X3_shiftJob_52, ↓E_X3_shiftJob_53, ↓E_X3_shiftJob_56, ↓E_X3_shiftJob_57, ↓E_X3_shiftJob_59, ↓E_X3_shiftJob_60, ↓E_X3_shiftJob_62, ↓E_X3_shiftJob_63, ↓E_X3_shiftJob_64, ↓E_X3_shiftJob_65, ↓E_X3_shiftJob_66, ↓E_X3_shiftJob_69, ↓E_X3_shiftJob_72, ↓E_X3_shiftJob_73, ↓E_X3_shiftJob_74, ↓E_X3_shiftJob_76, ↓E_X3_shiftJob_77, leN, kd_8, ln_6, vin, clN]
    rw [if_pos hkl, mx_uc]
    have e9 : upd (mvUp (σ.1 a) k (l - k)) l (σ.1 a k) = fun p => σ.1 a (mvI k l p) := by
      funext p
      unfold upd mvUp mvI
      by_cases e : p = l
      · rw [if_pos e, if_pos e]
      · rw [if_neg e, if_neg e]
        by_cases h2 : k ≤ p ∧ p < l
        · rw [if_pos h2, if_pos (by omega)]
        · rw [if_neg h2, if_neg (by omega), if_neg (by omega)]
    rw [e9]
  · have hkl : l < k := by omega
    have e := l_shiftDn (d := d + 1) (f := σ.1) (τ := σ.2) (q := q) (h := h) (a := a) (k := k) (l := l) (v := σ.1 a k) hs ha (by omega) hkl (k - l) 0 (by omega)
    rw [z2, mx_c_id] at e
    rw [E_X3_shiftJob_25]
    simp (disch := omega) only [true_and, and_true, and_self, exists_eq_left, Option.toList_some, Option.toList_none, List.cons_append, List.nil_append, List.append_nil, i2_i, i2_r, i2_n, nz0, nz1, true_or, or_true, Nat.reduceAdd, Nat.le_refl, Nat.reduceLT, Nat.reduceLeDiff, ↓E_X3_shiftJob_0, ↓E_X3_shiftJob_1, ↓E_X3_shiftJob_2, ↓E_X3_shiftJob_5, ↓E_X3_shiftJob_8, ↓E_X3_shiftJob_9, ↓E_X3_shiftJob_10, ↓E_X3_shiftJob_13, ↓E_X3_shiftJob_16, ↓E_X3_shiftJob_17, ↓E_X3_shiftJob_18, ↓E_X3_shiftJob_19, ↓E_X3_shiftJob_20, ↓E_X3_shiftJob_22, ↓E_X3_shiftJob_23, ↓E_X3_shiftJob_27, ↓E_X3_shiftJob_28, ↓E_X3_shiftJob_31, ↓E_X3_shiftJob_32, ↓E_X3_shiftJob_34, ↓E_X3_shiftJob_35, ↓E_X3_shiftJob_37, ↓E_X3_shiftJob_38, ↓E_X3_shiftJob_39, ↓E_X3_shiftJob_40, ↓E_X3_shiftJob_41, ↓E_X3_shiftJob_44, ↓E_X3_shiftJob_47, ↓E_X3_shiftJob_48, ↓E_X3_shiftJob_52, ↓E_X3_shiftJob_53, ↓E_X3_shiftJob_56, ↓E_X3_shiftJob_57, ↓E_X3_shiftJob_59, ↓E_X3_shiftJob_60, ↓E_X3_shiftJob_62, ↓E_X3_shiftJob_63, ↓E_X3_shiftJob_64, ↓E_X3_shiftJob_65, ↓E_X3_shiftJob_66, ↓E_X3_shiftJob_69, ↓E_X3_shiftJob_72, ↓E_X3_shiftJob_73, ↓E_X3_shiftJob_74, ↓E_X3_shiftJob_76, ↓E_X3_shiftJob_77, leN]
    rw [if_pos (by omega)]
    refine e.trans ?_
    simp (disch := omega) only [true_and, and_true, and_self, exists_eq_left, Option.toList_some, Option.toList_none, List.cons_append, List.nil_append, List.append_nil, i2_i, i2_r, i2_n, nz0, nz1, true_or, or_true, Nat.reduceAdd, Nat.le_refl, Nat.reduceLT, Nat.reduceLeDiff, ↓E_X3_shiftJob_0, ↓E_X3_shiftJob_1, ↓E_X3_shiftJob_2, ↓E_X3_shiftJob_5, ↓E_X3_shiftJob_8, ↓E_X3_shiftJob_9, ↓E_X3_shiftJob_10, ↓E_X3_shiftJob_13, ↓E_X3_shiftJob_16, ↓E_X3_shiftJob_17, ↓E_X3_shiftJob_18, ↓E_X3_shiftJob_19, ↓E_X3_shiftJob_20, ↓E_X3_shiftJob_22, ↓E_X3_shiftJob_23, ↓E_X3_shiftJob_27, ↓E_X3_shiftJob_28, ↓E_X3_shiftJob_31, ↓E_X3_shiftJob_32, ↓E_X3_shiftJob_34, ↓E_X3_shiftJob_35, ↓E_X3_shiftJob_37, ↓E_X3_shiftJob_38, ↓E_X3_shiftJob_39, ↓E_X3_shiftJob_40, ↓E_X3_shiftJob_41, ↓E_X3_shiftJob_44, ↓E_X3_shiftJob_47, ↓E_X3_shiftJob_48, ↓E_X3_shiftJob_50, ↓E_X3_shiftJob_52, ↓E_X3_shiftJob_53, ↓E_X3_shiftJob_56, ↓E_X3_shiftJob_57, ↓E_X3_shiftJob_59, ↓E_X3_shiftJob_60, ↓E_X3_shiftJob_62, ↓E_X3_shiftJob_63, ↓E_X3_shiftJob_64, ↓E_X3_shiftJob_65, ↓E_X3_shiftJob_66, ↓E_X3_shiftJob_69, ↓E_X3_shiftJob_72, ↓E_X3_shiftJob_73, ↓E_X3_shiftJob_74, ↓E_X3_shiftJob_76, ↓E_X3_shiftJob_77, kd_8, ln_6, vin, clN]
    rw [mx_uc]
    have e9 : upd (mvDn (σ.1 a) k (k - l)) l (σ.1 a k) = fun p => σ.1 a (mvI k l p) := by
      funext p
      unfold upd mvDn mvI
      by_cases e : p = l
      · rw [if_pos e, if_pos e]
      · rw [if_neg e, if_neg e]
        by_cases h2 : l < p ∧ p ≤ k
        · rw [if_pos (by omega), if_neg (by omega), if_pos h2]
        · rw [if_neg (by omega), if_neg (by omega), if_neg h2]
    rw [e9]
theorem vwX_O {w : Vw} {σ : mx_S} {O : Nat → Nat} {g : Nat → Int32} (hw : vwX w σ) (ok : okO w.1.jn O) (hg : ∀ p, p < w.1.jn → g p = nI (O p)) : vwX (setShp w w.1.jn w.1.md w.1.am w.1.V O) (mx_c σ.1 9 g, σ.2) ∧ hiS σ (mx_c σ.1 9 g, σ.2) := by
  obtain ⟨S1, S2, S3, S4, S5⟩ := vwX_now hw
  have H1 := hw.1
  have hn := H1.1.1
  refine ⟨vwX_shp hw (okC_shp H1.1 H1.1.2.1 H1.1.2.2.1 H1.1.2.2.2.1 ok) (shpX_now ⟨?_, ?_, ?_, ?_, ?_⟩) (fun i hi => mx_c_ne (by omega)) rfl, fun i hi => ⟨mx_c_ne (by omega), rfl⟩⟩
  · simp (disch := omega) only [cc_row]; exact S1
  · simp (disch := omega) only [cc_row]; exact S2
  · simp (disch := omega) only [cc_row]; exact S3
  · intro j k hj hk; simp (disch := omega) only [cc_row]; exact S4 j k hj hk
  · intro p hp; simp only [cc_same]; exact hg p hp
set_option maxHeartbeats 2000000 in
theorem X_move {d : Nat} {σ : mx_S} {w : Vw} {a b : Int32} (hw : vwX w σ) : ∃ σ', mx_call (d + 3) m_X6_move [.ref 0, .int a, .int b] σ (some (.int (F_move w a b).1), σ') ∧ vwX (F_move w a b).2 σ' ∧ hiS σ σ' := by
  obtain ⟨H1, ⟨-, R1, R2, R3⟩, H3, H4, H5, H6⟩ := id hw
  obtain ⟨S1, S2, S3, S4, S5⟩ := vwX_now hw
  have hn := H1.1.1
  have hO := H1.1.2.2.2.2.1
  simp (disch := omega) only [C_X6_move, true_and, and_true, and_self, exists_eq_left, Option.toList_some, Option.toList_none, List.cons_append, List.nil_append, List.append_nil, i2_i, i2_r, i2_n, nz0, nz1, true_or, or_true, Nat.reduceAdd, Nat.le_refl, Nat.reduceLT, Nat.reduceLeDiff, ↓E_X6_move_0, ↓E_X6_move_1, ↓E_X6_move_4, ↓E_X6_move_5, ↓E_X6_move_8, ↓E_X6_move_11, ↓E_X6_move_12, ↓E_X6_move_13, ↓E_X6_move_14, ↓E_X6_move_15, ↓E_X6_move_18, ↓E_X6_move_21, ↓E_X6_move_24, ↓E_X6_move_27, ↓E_X6_move_29, ↓E_X6_move_30, ↓E_X6_move_31, ↓E_X6_move_34, ↓E_X6_move_35, ↓E_X6_move_38, ↓E_X6_move_39, ↓E_X6_move_40, ↓E_X6_move_43, ↓E_X6_move_44, ↓E_X6_move_47, ↓E_X6_move_50, ↓E_X6_move_51, ↓E_X6_move_52, ↓E_X6_move_55, ↓E_X6_move_56, s_isBelow, s_hasJob, bz_0, kd_3, S1, ibx_N]
  unfold F_move
  by_cases e0 : ibI a w.1.jn = false
  · simp only [if_pos e0]
    exact ⟨σ, rfl, hw, hiS.rf⟩
  by_cases e1 : ibI b w.1.jn = false
  · simp only [if_neg e0, if_pos e1]
    exact ⟨σ, rfl, hw, hiS.rf⟩
  obtain ⟨ha, ha2, ha3⟩ := ibI_of (eq_true_of_ne_false e0)
  obtain ⟨hb, hb2, hb3⟩ := ibI_of (eq_true_of_ne_false e1)
  simp only [if_neg e0, if_neg e1]
  generalize ixI a = j at *
  generalize ixI b = l at *
  subst ha
  subst hb
  obtain ⟨hp, hp2⟩ := plc_ok hO ha2
  simp (disch := omega) only [true_and, and_true, and_self, exists_eq_left, Option.toList_some, Option.toList_none, List.cons_append, List.nil_append, List.append_nil, i2_i, i2_r, i2_n, nz0, nz1, true_or, or_true, Nat.reduceAdd, Nat.le_refl, Nat.reduceLT, Nat.reduceLeDiff, ↓E_X6_move_0, ↓E_X6_move_1, ↓E_X6_move_4, ↓E_X6_move_5, ↓E_X6_move_8, ↓E_X6_move_11, ↓E_X6_move_12, ↓E_X6_move_13, ↓E_X6_move_14, ↓E_X6_move_15, ↓E_X6_move_18, ↓E_X6_move_21, ↓E_X6_move_24, ↓E_X6_move_27, ↓E_X6_move_29, ↓E_X6_move_30, ↓E_X6_move_31, ↓E_X6_move_34, ↓E_X6_move_35, ↓E_X6_move_38, ↓E_X6_move_39, ↓E_X6_move_40, ↓E_X6_move_43, ↓E_X6_move_44, ↓E_X6_move_47, ↓E_X6_move_50, ↓E_X6_move_51, ↓E_X6_move_52, ↓E_X6_move_55, ↓E_X6_move_56, s_placeOf (h := 1) (Or.inl rfl) hn ha2 S1 S5 hO, kd_3, s_shiftJob (h := 1) (a := 9) (Or.inl rfl) (Or.inl rfl) hn S1 hp hb2]
  refine ⟨_, rfl, vwX_O hw (okO_mv hO hp hb2) (fun p hp9 => ?_)⟩
  exact S5 _ (mvI_lt hp hb2 hp9)
theorem s_isPair {d : Nat} {σ : mx_S} {q : mx_R} {n : Nat} {x : Int32} (hn : n ≤ 6) (h0 : σ.1 1 0 = nI n) : mx_call (d + 1) m_X6_isPair [.ref 0, .int x] σ q ↔ q = (some (.int (bz (ibI x (n - 1)))), σ) := by
  simp (disch := omega) only [C_X6_isPair, true_and, and_true, and_self, exists_eq_left, Option.toList_some, Option.toList_none, List.cons_append, List.nil_append, List.append_nil, i2_i, i2_r, i2_n, nz0, nz1, true_or, or_true, Nat.reduceAdd, Nat.le_refl, Nat.reduceLT, Nat.reduceLeDiff, ↓E_X6_isPair_0, ↓E_X6_isPair_1, ↓E_X6_isPair_4, ↓E_X6_isPair_5, ↓E_X6_isPair_6, ↓E_X6_isPair_9, ↓E_X6_isPair_12, ↓E_X6_isPair_13, ↓E_X6_isPair_14, ↓E_X6_isPair_17, ↓E_X6_isPair_18, ↓E_X6_isPair_21, ↓E_X6_isPair_22, kd_3, h0]
  have e1 : (nI n - 1).toInt = (n : Int) - 1 := by
    have := pk_sub_toInt (a := n) (b := 1) (by omega) (by omega)
    exact this
  simp only [ibI, l32, le32, e1]
  have e0 : (0 : Int32).toInt = 0 := rfl
  rw [e0]
  by_cases h1 : x.toInt < 0
  · rw [if_pos h1, show decide (0 ≤ x.toInt) = false by simp; omega]
    rfl
  · rw [if_neg h1, show decide (0 ≤ x.toInt) = true by simp; omega]
    by_cases h2 : (n : Int) - 1 ≤ x.toInt
    · rw [if_pos h2, show decide (x.toInt < ((n - 1 : Nat) : Int)) = false by simp; omega]
      rfl
    · rw [if_neg h2, show decide (x.toInt < ((n - 1 : Nat) : Int)) = true by simp; omega]
      rfl
set_option maxHeartbeats 2000000 in
theorem X_swap {d : Nat} {σ : mx_S} {w : Vw} {a : Int32} (hw : vwX w σ) : ∃ σ', mx_call (d + 3) m_X6_swap [.ref 0, .int a] σ (some (.int (F_swap w a).1), σ') ∧ vwX (F_swap w a).2 σ' ∧ hiS σ σ' := by
  obtain ⟨H1, ⟨-, R1, R2, R3⟩, H3, H4, H5, H6⟩ := id hw
  obtain ⟨S1, S2, S3, S4, S5⟩ := vwX_now hw
  have hn := H1.1.1
  have hO := H1.1.2.2.2.2.1
  simp (disch := omega) only [C_X6_swap, true_and, and_true, and_self, exists_eq_left, Option.toList_some, Option.toList_none, List.cons_append, List.nil_append, List.append_nil, i2_i, i2_r, i2_n, nz0, nz1, true_or, or_true, Nat.reduceAdd, Nat.le_refl, Nat.reduceLT, Nat.reduceLeDiff, ↓E_X6_swap_0, ↓E_X6_swap_1, ↓E_X6_swap_2, ↓E_X6_swap_5, ↓E_X6_swap_8, ↓E_X6_swap_9, ↓E_X6_swap_10, ↓E_X6_swap_11, ↓E_X6_swap_14, ↓E_X6_swap_15, ↓E_X6_swap_18, ↓E_X6_swap_21, ↓E_X6_swap_22, ↓E_X6_swap_23, ↓E_X6_swap_24, ↓E_X6_swap_25, ↓E_X6_swap_28, ↓E_X6_swap_29, ↓E_X6_swap_32, ↓E_X6_swap_35, ↓E_X6_swap_36, ↓E_X6_swap_37, s_isPair hn S1, bz_0, kd_3, S1]
  unfold F_swap
  by_cases e0 : ibI a (w.1.jn - 1) = false
  · simp only [if_pos e0]
    exact ⟨σ, rfl, hw, hiS.rf⟩
  obtain ⟨ha, ha2, ha3⟩ := ibI_of (eq_true_of_ne_false e0)
  simp only [if_neg e0]
  generalize ixI a = k at *
  subst ha
  have hk1 : k < w.1.jn := by omega
  have hk2 : k + 1 < w.1.jn := by omega
  simp (disch := omega) only [nI_1, s_shiftJob (h := 1) (a := 9) (Or.inl rfl) (Or.inl rfl) hn S1 hk1 hk2, true_and, and_true, and_self, exists_eq_left, Option.toList_some, Option.toList_none, List.cons_append, List.nil_append, List.append_nil, i2_i, i2_r, i2_n, nz0, nz1, true_or, or_true, Nat.reduceAdd, Nat.le_refl, Nat.reduceLT, Nat.reduceLeDiff, ↓E_X6_swap_0, ↓E_X6_swap_1, ↓E_X6_swap_2, ↓E_X6_swap_5, ↓E_X6_swap_8, ↓E_X6_swap_9, ↓E_X6_swap_10, ↓E_X6_swap_11, ↓E_X6_swap_14, ↓E_X6_swap_15, ↓E_X6_swap_18, ↓E_X6_swap_21, ↓E_X6_swap_22, ↓E_X6_swap_23, ↓E_X6_swap_24, ↓E_X6_swap_25, ↓E_X6_swap_28, ↓E_X6_swap_29, ↓E_X6_swap_32, ↓E_X6_swap_35, ↓E_X6_swap_36, ↓E_X6_swap_37, kd_3, kd_8, ln_6, vin, clN, cc_same]
  have e9 : mvI k (k + 1) k = k + 1 := by unfold mvI; rw [if_neg (by omega), if_pos (by omega)]
  rw [e9, S5 _ hk2]
  refine ⟨_, rfl, vwX_O hw (okO_mv hO hk1 hk2) (fun p hp9 => ?_)⟩
  exact S5 _ (mvI_lt hk1 hk2 hp9)
