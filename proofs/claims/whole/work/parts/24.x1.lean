/-! ===== the class: short calls ===== -/
/-- only what is now has changed -/
def nwS (σ σ' : mx_S) : Prop := ∀ i, 9 < i → σ'.1 i = σ.1 i ∧ σ'.2 i = σ.2 i
theorem nwS.rf {σ : mx_S} : nwS σ σ := fun _ _ => ⟨rfl, rfl⟩
theorem nwS.u {σ : mx_S} {a k : Nat} {x : Int32} (h : a < 10) : nwS σ (mx_u σ.1 a k x, σ.2) := fun i hi => ⟨mx_u_ne (by omega), rfl⟩
theorem nwS.hi {σ σ' : mx_S} (h : nwS σ σ') : hiS σ σ' := fun i hi => h i (by omega)
set_option maxHeartbeats 1000000 in
theorem X_setF {d : Nat} {σ : mx_S} {w : Vw} {x v : Int32} (hw : vwX w σ) : ∃ σ', mx_call (d + 2) m_X6_set [.ref 0, .int x, .int v] σ (some (.int (F_set w x v).1), σ') ∧ vwX (F_set w x v).2 σ' ∧ nwS σ σ' := by
  obtain ⟨H1, ⟨-, R1, R2, R3⟩, H3, H4, H5, H6⟩ := id hw
  obtain ⟨S1, S2, S3, S4, S5⟩ := vwX_now hw
  simp (disch := omega) only [C_X6_set, true_and, and_true, and_self, exists_eq_left, Option.toList_some, Option.toList_none, List.cons_append, List.nil_append, List.append_nil, i2_i, i2_r, i2_n, nz0, nz1, true_or, or_true, Nat.reduceAdd, Nat.le_refl, Nat.reduceLT, Nat.reduceLeDiff, ↓E_X6_set_0, ↓E_X6_set_1, ↓E_X6_set_2, ↓E_X6_set_5, ↓E_X6_set_8, ↓E_X6_set_9, ↓E_X6_set_10, ↓E_X6_set_11, ↓E_X6_set_12, ↓E_X6_set_15, ↓E_X6_set_16, ↓E_X6_set_19, ↓E_X6_set_20, ↓E_X6_set_23, ↓E_X6_set_26, ↓E_X6_set_28, ↓E_X6_set_29, ↓E_X6_set_30, ↓E_X6_set_33, ↓E_X6_set_34, ↓E_X6_set_37, ↓E_X6_set_40, ↓E_X6_set_43, ↓E_X6_set_44, ↓E_X6_set_47, ↓E_X6_set_50, ↓E_X6_set_51, ↓E_X6_set_52, ↓E_X6_set_55, ↓E_X6_set_56, ↓E_X6_set_59, ↓E_X6_set_60, ↓E_X6_set_63, ↓E_X6_set_66, ↓E_X6_set_67, ↓E_X6_set_70, ↓E_X6_set_71, ↓E_X6_set_74, ↓E_X6_set_75, s_isBelow, bz_0, ibx_2, ibx_3, kd_3]
  unfold F_set
  by_cases h1 : ibI x 2 = false
  · simp only [if_pos h1]
    exact ⟨σ, rfl, hw, nwS.rf⟩
  · by_cases h2 : ibI v 3 = false
    · simp only [if_neg h1, if_pos h2]
      by_cases h3 : x = 0 <;> simp only [h3, if_true, if_false] <;> exact ⟨σ, rfl, hw, nwS.rf⟩
    · simp only [if_neg h1, if_neg h2]
      obtain ⟨hv, hv2, hv3⟩ := ibI_of (eq_true_of_ne_false h2)
      by_cases h3 : x = 0
      · simp only [h3, if_true, S2]
        refine ⟨_, rfl, vwX_shp hw (okC_shp H1.1 (by omega) H1.1.2.2.1 H1.1.2.2.2.1 H1.1.2.2.2.2.1) (shpX_now ⟨?_, ?_, ?_, ?_, ?_⟩) (fun i hi => mx_u_ne (by omega)) rfl, nwS.u (by omega)⟩
        · simp (disch := omega) only [uu_col]; exact S1
        · simp only [uu_same]; exact hv
        · simp (disch := omega) only [uu_col]; exact S3
        · intro j k hj hk; simp (disch := omega) only [uu_row]; exact S4 j k hj hk
        · intro p hp; simp (disch := omega) only [uu_row]; exact S5 p hp
      · simp only [h3, if_false, S3]
        refine ⟨_, rfl, vwX_shp hw (okC_shp H1.1 H1.1.2.1 (by omega) H1.1.2.2.2.1 H1.1.2.2.2.2.1) (shpX_now ⟨?_, ?_, ?_, ?_, ?_⟩) (fun i hi => mx_u_ne (by omega)) rfl, nwS.u (by omega)⟩
        · simp (disch := omega) only [uu_col]; exact S1
        · simp (disch := omega) only [uu_col]; exact S2
        · simp only [uu_same]; exact hv
        · intro j k hj hk; simp (disch := omega) only [uu_row]; exact S4 j k hj hk
        · intro p hp; simp (disch := omega) only [uu_row]; exact S5 p hp
theorem X_set {d : Nat} {σ : mx_S} {w : Vw} {x v : Int32} (hw : vwX w σ) : ∃ σ', mx_call (d + 2) m_X6_set [.ref 0, .int x, .int v] σ (some (.int (F_set w x v).1), σ') ∧ vwX (F_set w x v).2 σ' ∧ hiS σ σ' := by
  obtain ⟨σ', h1, h2, h3⟩ := X_setF (d := d) (x := x) (v := v) hw
  exact ⟨σ', h1, h2, h3.hi⟩
set_option maxHeartbeats 1000000 in
theorem X_count {d : Nat} {σ : mx_S} {w : Vw} {x : Int32} (hw : vwX w σ) : mx_call (d + 1) m_X6_count [.ref 0, .int x] σ (some (.int (F_count w x)), σ) := by
  obtain ⟨H1, ⟨-, R1, R2, R3⟩, H3, H4, H5, H6⟩ := id hw
  obtain ⟨S1, S2, S3, S4, S5⟩ := vwX_now hw
  simp (disch := omega) only [C_X6_count, true_and, and_true, and_self, exists_eq_left, Option.toList_some, Option.toList_none, List.cons_append, List.nil_append, List.append_nil, i2_i, i2_r, i2_n, nz0, nz1, true_or, or_true, Nat.reduceAdd, Nat.le_refl, Nat.reduceLT, Nat.reduceLeDiff, ↓E_X6_count_0, ↓E_X6_count_1, ↓E_X6_count_36, ↓E_X6_count_37, ↓E_X6_count_40, ↓E_X6_count_43, ↓E_X6_count_44, ↓E_X6_count_45, ↓E_X6_count_48, ↓E_X6_count_51, ↓E_X6_count_52, ↓E_X6_count_53, ↓E_X6_count_56, ↓E_X6_count_59, ↓E_X6_count_60, ↓E_X6_count_61, ↓E_X6_count_64, ↓E_X6_count_67, ↓E_X6_count_68, ↓E_X6_count_69, ↓E_X6_count_72, ↓E_X6_count_75, ↓E_X6_count_76, ↓E_X6_count_78, kd_3, kd_1, kd_5, S1, R1.1, R2.1, R3.1, H4.1]
  unfold F_count
  by_cases h0 : x = 0
  · simp only [if_pos h0]
  · by_cases h1 : x = 1
    · simp only [if_neg h0, if_pos h1]
    · by_cases h2 : x = 2
      · simp only [if_neg h0, if_neg h1, if_pos h2]
      · by_cases h3 : x = 3
        · simp only [if_neg h0, if_neg h1, if_neg h2, if_pos h3]
        · by_cases h4 : x = 4
          · simp only [if_neg h0, if_neg h1, if_neg h2, if_neg h3, if_pos h4]
          · simp only [if_neg h0, if_neg h1, if_neg h2, if_neg h3, if_neg h4]
set_option maxHeartbeats 1000000 in
theorem X_at {d : Nat} {σ : mx_S} {w : Vw} {x : Int32} (hw : vwX w σ) : mx_call (d + 2) m_X6_at [.ref 0, .int x] σ (some (.int (F_at w x)), σ) := by
  obtain ⟨H1, ⟨-, R1, R2, R3⟩, H3, H4, H5, H6⟩ := id hw
  obtain ⟨S1, S2, S3, S4, S5⟩ := vwX_now hw
  have hn := H1.1.1
  simp (disch := omega) only [C_X6_at, true_and, and_true, and_self, exists_eq_left, Option.toList_some, Option.toList_none, List.cons_append, List.nil_append, List.append_nil, i2_i, i2_r, i2_n, nz0, nz1, true_or, or_true, Nat.reduceAdd, Nat.le_refl, Nat.reduceLT, Nat.reduceLeDiff, ↓E_X6_at_0, ↓E_X6_at_1, ↓E_X6_at_2, ↓E_X6_at_5, ↓E_X6_at_8, ↓E_X6_at_11, ↓E_X6_at_14, ↓E_X6_at_15, ↓E_X6_at_18, ↓E_X6_at_21, ↓E_X6_at_22, ↓E_X6_at_23, ↓E_X6_at_26, ↓E_X6_at_27, s_isBelow, bz_0, kd_3, S1, ibx_N]
  unfold F_at
  by_cases h1 : ibI x w.1.jn = false
  · simp only [if_pos h1]
  · simp only [if_neg h1]
    obtain ⟨hv, hv2, hv3⟩ := ibI_of (eq_true_of_ne_false h1)
    generalize ixI x = k at *
    subst hv
    simp (disch := omega) only [vin, clN, kd_8, ln_6, true_and, S5 k hv2]
theorem tab5 : mx_tab 5 = 99 := rfl
set_option maxHeartbeats 1000000 in
theorem s_addJob {d : Nat} {σ : mx_S} {q : mx_R} {n : Nat} {a m b : Int32} (hn : n < 6) (hs : σ.1 1 0 = nI n) : mx_call (d + 1) m_X3_addJob [.ref 1, .int a, .int m, .int b] σ q ↔ q = (some (.int (nI n)), (mx_u (mx_u (mx_u (mx_u (mx_u (mx_u (mx_u (mx_u σ.1 (3 + n) 0 a) (3 + n) 1 m) (3 + n) 2 b) (3 + n) 3 0) (3 + n) 4 0) (3 + n) 5 99) 9 n (nI n)) 1 0 (nI (n + 1)), σ.2)) := by
  simp (disch := omega) only [C_X3_addJob, true_and, and_true, and_self, exists_eq_left, Option.toList_some, Option.toList_none, List.cons_append, List.nil_append, List.append_nil, i2_i, i2_r, i2_n, nz0, nz1, true_or, or_true, Nat.reduceAdd, Nat.le_refl, Nat.reduceLT, Nat.reduceLeDiff, ↓E_X3_addJob_0, ↓E_X3_addJob_1, ↓E_X3_addJob_4, ↓E_X3_addJob_5, ↓E_X3_addJob_8, ↓E_X3_addJob_9, ↓E_X3_addJob_11, ↓E_X3_addJob_13, ↓E_X3_addJob_14, ↓E_X3_addJob_15, ↓E_X3_addJob_16, ↓E_X3_addJob_18, ↓E_X3_addJob_19, ↓E_X3_addJob_20, ↓E_X3_addJob_21, ↓E_X3_addJob_23, ↓E_X3_addJob_24, ↓E_X3_addJob_25, ↓E_X3_addJob_26, ↓E_X3_addJob_28, ↓E_X3_addJob_29, ↓E_X3_addJob_30, ↓E_X3_addJob_31, ↓E_X3_addJob_33, ↓E_X3_addJob_34, ↓E_X3_addJob_35, ↓E_X3_addJob_36, ↓E_X3_addJob_38, ↓E_X3_addJob_39, ↓E_X3_addJob_42, ↓E_X3_addJob_43, ↓E_X3_addJob_44, ↓E_X3_addJob_45, ↓E_X3_addJob_46, ↓E_X3_addJob_49, ↓E_X3_addJob_50, ↓E_X3_addJob_53, ↓E_X3_addJob_54, ↓E_X3_addJob_57, ↓E_X3_addJob_58, ↓E_X3_addJob_59, ↓E_X3_addJob_60, ↓E_X3_addJob_63, ↓E_X3_addJob_64, ↓E_X3_addJob_65, ↓E_X3_addJob_68, ↓E_X3_addJob_69, ↓E_X3_addJob_72, ↓E_X3_addJob_73, ↓E_X3_addJob_74, kd_3, kd_8, kd_12, hs, vin, clN, ln_6, ptrG, vin_0, vin_1, vin_2, vin_3, vin_4, vin_5, cl_0, cl_1, cl_2, cl_3, cl_4, cl_5, uu_row, uu_same, nI_1, nI_pred, tab5]
theorem upV_ok {n : Nat} {V : Nat → Nat → Nat} {g : Nat → Nat} (h : ∀ j k, j < n → k < 6 → V j k ≤ lim k) (hg : ∀ k, k < 6 → g k ≤ lim k) : ∀ j k, j < n + 1 → k < 6 → upV V n g j k ≤ lim k := by
  intro j k hj hk
  unfold upV
  by_cases e : j = n
  · rw [if_pos e]; exact hg k hk
  · rw [if_neg e]; exact h j k (by omega) hk
theorem upV1_ok {n a b x : Nat} {V : Nat → Nat → Nat} (h : ∀ j k, j < n → k < 6 → V j k ≤ lim k) (hx : x ≤ lim b) : ∀ j k, j < n → k < 6 → upV1 V a b x j k ≤ lim k := by
  intro j k hj hk
  unfold upV1
  by_cases e : j = a ∧ k = b
  · rw [if_pos e, e.2]; exact hx
  · rw [if_neg e]; exact h j k hj hk
theorem six {P : Nat → Prop} (h0 : P 0) (h1 : P 1) (h2 : P 2) (h3 : P 3) (h4 : P 4) (h5 : P 5) : ∀ k, k < 6 → P k := by
  intro k hk
  rcases (show k = 0 ∨ k = 1 ∨ k = 2 ∨ k = 3 ∨ k = 4 ∨ k = 5 by omega) with rfl | rfl | rfl | rfl | rfl | rfl <;> assumption
theorem nR_ok {a m b : Nat} (ha : a ≤ 30) (hm : m ≤ 30) (hb : b ≤ 30) : ∀ k, k < 6 → newRow a m b k ≤ lim k := six ha hm hb (Nat.zero_le _) (Nat.zero_le _) (Nat.le_refl _)
set_option maxHeartbeats 2000000 in
theorem X_jobF {d : Nat} {σ : mx_S} {w : Vw} {a m b : Int32} (hw : vwX w σ) : ∃ σ', mx_call (d + 2) m_X6_job [.ref 0, .int a, .int m, .int b] σ (some (.int (F_job w a m b).1), σ') ∧ vwX (F_job w a m b).2 σ' ∧ nwS σ σ' := by
  obtain ⟨H1, ⟨-, R1, R2, R3⟩, H3, H4, H5, H6⟩ := id hw
  obtain ⟨S1, S2, S3, S4, S5⟩ := vwX_now hw
  have hn := H1.1.1
  have e0 : ∀ q, mx_call (d + 1) m_X6_isWithin [.int a, .int 0] σ q ↔ q = (some (.int (bz (inI a 30))), σ) := fun q => s_isWithin (k := 0) (by omega)
  have e1 : ∀ q, mx_call (d + 1) m_X6_isWithin [.int m, .int 1] σ q ↔ q = (some (.int (bz (inI m 30))), σ) := fun q => s_isWithin (k := 1) (by omega)
  have e2 : ∀ q, mx_call (d + 1) m_X6_isWithin [.int b, .int 2] σ q ↔ q = (some (.int (bz (inI b 30))), σ) := fun q => s_isWithin (k := 2) (by omega)
  simp (disch := omega) only [C_X6_job, true_and, and_true, and_self, exists_eq_left, Option.toList_some, Option.toList_none, List.cons_append, List.nil_append, List.append_nil, i2_i, i2_r, i2_n, nz0, nz1, true_or, or_true, Nat.reduceAdd, Nat.le_refl, Nat.reduceLT, Nat.reduceLeDiff, ↓E_X6_job_0, ↓E_X6_job_1, ↓E_X6_job_2, ↓E_X6_job_5, ↓E_X6_job_8, ↓E_X6_job_9, ↓E_X6_job_10, ↓E_X6_job_13, ↓E_X6_job_16, ↓E_X6_job_17, ↓E_X6_job_18, ↓E_X6_job_21, ↓E_X6_job_24, ↓E_X6_job_26, ↓E_X6_job_27, ↓E_X6_job_28, ↓E_X6_job_31, ↓E_X6_job_34, ↓E_X6_job_36, ↓E_X6_job_39, ↓E_X6_job_41, ↓E_X6_job_44, ↓E_X6_job_45, ↓E_X6_job_48, ↓E_X6_job_49, ↓E_X6_job_50, ↓E_X6_job_51, ↓E_X6_job_54, e0, e1, e2, bz_0, kd_3, S1]
  unfold F_job
  by_cases h0 : inI a 30 = false
  · simp only [if_pos h0, h0, Bool.false_and, if_true]
    exact ⟨σ, rfl, hw, nwS.rf⟩
  by_cases h1 : inI m 30 = false
  · simp only [if_neg h0, if_pos h1, h1, Bool.false_and, Bool.and_false, if_true]
    exact ⟨σ, rfl, hw, nwS.rf⟩
  by_cases h2 : inI b 30 = false
  · simp only [if_neg h0, if_neg h1, if_pos h2, h2, Bool.and_false, if_true]
    exact ⟨σ, rfl, hw, nwS.rf⟩
  have h012 : ¬ (inI a 30 && inI m 30 && inI b 30) = false := by
    rw [eq_true_of_ne_false h0, eq_true_of_ne_false h1, eq_true_of_ne_false h2]; decide
  simp only [if_neg h0, if_neg h1, if_neg h2, if_neg h012]
  obtain ⟨ha, ha2, ha3⟩ := inI_of (eq_true_of_ne_false h0)
  obtain ⟨hm, hm2, hm3⟩ := inI_of (eq_true_of_ne_false h1)
  obtain ⟨hb, hb2, hb3⟩ := inI_of (eq_true_of_ne_false h2)
  by_cases h6 : w.1.jn = 6
  · have h7 : ¬ nI w.1.jn < 6 := by rw [h6]; decide
    simp only [if_neg h7, if_pos h6]
    exact ⟨σ, rfl, hw, nwS.rf⟩
  · have h8 : w.1.jn < 6 := by omega
    have h7 : nI w.1.jn < 6 := nI_lt (b := 6) h8 (by omega)
    simp only [if_pos h7, if_neg h6, s_addJob h8 S1, exists_eq_left, Option.toList_some, List.cons_append, List.nil_append]
    simp only [E_X6_job_54]
    refine ⟨_, rfl, vwX_shp hw (okC_grow H1.1 h8 (upV_ok H1.1.2.2.2.1 (nR_ok ha2 hm2 hb2)) (okO_grow H1.1.2.2.2.2.1)) (shpX_now ⟨?_, ?_, ?_, ?_, ?_⟩) (fun i hi => by simp (disch := omega) only [mx_u_ne]) rfl, fun i hi => ⟨by simp (disch := omega) only [mx_u_ne], rfl⟩⟩
    · simp only [uu_same]
    · simp (disch := omega) only [uu_col, uu_row]; exact S2
    · simp (disch := omega) only [uu_col, uu_row]; exact S3
    · intro j k hj hk
      by_cases e : j = w.1.jn
      · subst e
        revert k
        refine six ?_ ?_ ?_ ?_ ?_ ?_ <;> simp (disch := omega) only [uu_col, uu_row, uu_same, upV, if_true, newRow]
        · exact ha
        · exact hm
        · exact hb
        · rfl
        · rfl
        · rfl
      · simp (disch := omega) only [uu_row, upV, if_neg e]
        exact S4 j k (by omega) hk
    · intro p hp
      by_cases e : p = w.1.jn
      · subst e
        simp (disch := omega) only [uu_row, uu_same, upO, if_true]
      · simp (disch := omega) only [uu_row, uu_col, upO, if_neg e]
        exact S5 p (by omega)
theorem X_job {d : Nat} {σ : mx_S} {w : Vw} {a m b : Int32} (hw : vwX w σ) : ∃ σ', mx_call (d + 2) m_X6_job [.ref 0, .int a, .int m, .int b] σ (some (.int (F_job w a m b).1), σ') ∧ vwX (F_job w a m b).2 σ' ∧ hiS σ σ' := by
  obtain ⟨σ', h1, h2, h3⟩ := X_jobF (d := d) (a := a) (m := m) (b := b) hw
  exact ⟨σ', h1, h2, h3.hi⟩
set_option maxHeartbeats 2000000 in
theorem X_renewF {d : Nat} {σ : mx_S} {w : Vw} {a b v : Int32} (hw : vwX w σ) : ∃ σ', mx_call (d + 2) m_X6_renew [.ref 0, .int a, .int b, .int v] σ (some (.int (F_renew w a b v).1), σ') ∧ vwX (F_renew w a b v).2 σ' ∧ nwS σ σ' := by
  obtain ⟨H1, ⟨-, R1, R2, R3⟩, H3, H4, H5, H6⟩ := id hw
  obtain ⟨S1, S2, S3, S4, S5⟩ := vwX_now hw
  have hn := H1.1.1
  simp (disch := omega) only [C_X6_renew, true_and, and_true, and_self, exists_eq_left, Option.toList_some, Option.toList_none, List.cons_append, List.nil_append, List.append_nil, i2_i, i2_r, i2_n, nz0, nz1, true_or, or_true, Nat.reduceAdd, Nat.le_refl, Nat.reduceLT, Nat.reduceLeDiff, ↓E_X6_renew_0, ↓E_X6_renew_1, ↓E_X6_renew_4, ↓E_X6_renew_5, ↓E_X6_renew_8, ↓E_X6_renew_11, ↓E_X6_renew_12, ↓E_X6_renew_14, ↓E_X6_renew_17, ↓E_X6_renew_20, ↓E_X6_renew_21, ↓E_X6_renew_22, ↓E_X6_renew_23, ↓E_X6_renew_24, ↓E_X6_renew_27, ↓E_X6_renew_30, ↓E_X6_renew_32, ↓E_X6_renew_33, ↓E_X6_renew_34, ↓E_X6_renew_37, ↓E_X6_renew_40, ↓E_X6_renew_41, ↓E_X6_renew_42, ↓E_X6_renew_43, ↓E_X6_renew_44, ↓E_X6_renew_46, ↓E_X6_renew_47, ↓E_X6_renew_50, ↓E_X6_renew_53, ↓E_X6_renew_54, ↓E_X6_renew_55, ↓E_X6_renew_56, ↓E_X6_renew_57, ↓E_X6_renew_58, ↓E_X6_renew_60, s_isBelow, s_hasJob, bz_0, kd_3, S1, ibx_N, ibx_6]
  unfold F_renew
  by_cases h0 : ibI a w.1.jn = false
  · simp only [if_pos h0, h0, Bool.false_and, if_true]
    exact ⟨σ, rfl, hw, nwS.rf⟩
  by_cases h1 : ibI b 6 = false
  · simp only [if_neg h0, if_pos h1, h1, Bool.and_false, if_true]
    exact ⟨σ, rfl, hw, nwS.rf⟩
  have h01 : ¬ (ibI a w.1.jn && ibI b 6) = false := by rw [eq_true_of_ne_false h0, eq_true_of_ne_false h1]; decide
  simp only [if_neg h0, if_neg h1, if_neg h01]
  obtain ⟨ha, ha2, ha3⟩ := ibI_of (eq_true_of_ne_false h0)
  obtain ⟨hb, hb2, hb3⟩ := ibI_of (eq_true_of_ne_false h1)
  generalize ixI a = j at *
  generalize ixI b = k at *
  subst ha
  subst hb
  simp (disch := omega) only [s_isWithin, true_and, and_true, and_self, exists_eq_left, Option.toList_some, Option.toList_none, List.cons_append, List.nil_append, List.append_nil, i2_i, i2_r, i2_n, nz0, nz1, true_or, or_true, Nat.reduceAdd, Nat.le_refl, Nat.reduceLT, Nat.reduceLeDiff, ↓E_X6_renew_0, ↓E_X6_renew_1, ↓E_X6_renew_4, ↓E_X6_renew_5, ↓E_X6_renew_8, ↓E_X6_renew_11, ↓E_X6_renew_12, ↓E_X6_renew_14, ↓E_X6_renew_17, ↓E_X6_renew_20, ↓E_X6_renew_21, ↓E_X6_renew_22, ↓E_X6_renew_23, ↓E_X6_renew_24, ↓E_X6_renew_27, ↓E_X6_renew_30, ↓E_X6_renew_32, ↓E_X6_renew_33, ↓E_X6_renew_34, ↓E_X6_renew_37, ↓E_X6_renew_40, ↓E_X6_renew_41, ↓E_X6_renew_42, ↓E_X6_renew_43, ↓E_X6_renew_44, ↓E_X6_renew_46, ↓E_X6_renew_47, ↓E_X6_renew_50, ↓E_X6_renew_53, ↓E_X6_renew_54, ↓E_X6_renew_55, ↓E_X6_renew_56, ↓E_X6_renew_57, ↓E_X6_renew_58, ↓E_X6_renew_60, bz_0]
  by_cases h2 : inI v (lim k) = false
  · simp only [if_pos h2]
    exact ⟨σ, rfl, hw, nwS.rf⟩
  obtain ⟨hv, hv2, hv3⟩ := inI_of (eq_true_of_ne_false h2)
  simp (disch := omega) only [if_neg h2, true_and, and_true, and_self, exists_eq_left, Option.toList_some, Option.toList_none, List.cons_append, List.nil_append, List.append_nil, i2_i, i2_r, i2_n, nz0, nz1, true_or, or_true, Nat.reduceAdd, Nat.le_refl, Nat.reduceLT, Nat.reduceLeDiff, ↓E_X6_renew_0, ↓E_X6_renew_1, ↓E_X6_renew_4, ↓E_X6_renew_5, ↓E_X6_renew_8, ↓E_X6_renew_11, ↓E_X6_renew_12, ↓E_X6_renew_14, ↓E_X6_renew_17, ↓E_X6_renew_20, ↓E_X6_renew_21, ↓E_X6_renew_22, ↓E_X6_renew_23, ↓E_X6_renew_24, ↓E_X6_renew_27, ↓E_X6_renew_30, ↓E_X6_renew_32, ↓E_X6_renew_33, ↓E_X6_renew_34, ↓E_X6_renew_37, ↓E_X6_renew_40, ↓E_X6_renew_41, ↓E_X6_renew_42, ↓E_X6_renew_43, ↓E_X6_renew_44, ↓E_X6_renew_46, ↓E_X6_renew_47, ↓E_X6_renew_50, ↓E_X6_renew_53, ↓E_X6_renew_54, ↓E_X6_renew_55, ↓E_X6_renew_56, ↓E_X6_renew_57, ↓E_X6_renew_58, ↓E_X6_renew_60, kd_3, kd_8, kd_12, vin, clN, ln_6, ptrG, S4]
  refine ⟨_, rfl, vwX_shp hw (okC_shp H1.1 H1.1.2.1 H1.1.2.2.1 (upV1_ok H1.1.2.2.2.1 hv2) H1.1.2.2.2.2.1) (shpX_now ⟨?_, ?_, ?_, ?_, ?_⟩) (fun i hi => by simp (disch := omega) only [mx_u_ne]) rfl, fun i hi => ⟨by simp (disch := omega) only [mx_u_ne], rfl⟩⟩
  · simp (disch := omega) only [uu_row]; exact S1
  · simp (disch := omega) only [uu_row]; exact S2
  · simp (disch := omega) only [uu_row]; exact S3
  · intro i l hi hl
    unfold upV1
    by_cases e : i = j ∧ l = k
    · obtain ⟨rfl, rfl⟩ := e
      simp only [uu_same, and_self, if_true]
      exact hv
    · rw [if_neg e]
      by_cases e1 : i = j
      · have e2 : l ≠ k := fun z => e ⟨e1, z⟩
        simp (disch := omega) only [uu_col]; exact S4 i l hi hl
      · simp (disch := omega) only [uu_row]; exact S4 i l hi hl
  · intro p hp; simp (disch := omega) only [uu_row]; exact S5 p hp
theorem X_renew {d : Nat} {σ : mx_S} {w : Vw} {a b v : Int32} (hw : vwX w σ) : ∃ σ', mx_call (d + 2) m_X6_renew [.ref 0, .int a, .int b, .int v] σ (some (.int (F_renew w a b v).1), σ') ∧ vwX (F_renew w a b v).2 σ' ∧ hiS σ σ' := by
  obtain ⟨σ', h1, h2, h3⟩ := X_renewF (d := d) (a := a) (b := b) (v := v) hw
  exact ⟨σ', h1, h2, h3.hi⟩
set_option maxHeartbeats 2000000 in
theorem l_placeOf {d : Nat} {σ : mx_S} {q : mx_R} {h n j : Nat} {O : Nat → Nat} (hs : h = 1 ∨ h = 19 ∨ h = 37) (hn : n ≤ 6) (hj : j < n) (h0 : σ.1 h 0 = nI n) (hO : ∀ p, p < n → σ.1 (h + 8) p = nI (O p)) (ok : okO n O) : ∀ m k, k + m = n → plc O j k = k → (mx_run d m_X3_placeOf 2 [some (.ref h), some (.int (nI j)), some (.int (nI k))] [] σ q ↔ q = (some (.int (nI (plc O j n))), σ)) := by
  intro m
  induction m with
  | zero =>
    intro k hk hp
    have := plc_ok ok hj
    rw [show k = n by omega] at hp
    omega
  | succ m ih =>
    intro k hk hp
    have hok := ok.1 k (by omega)
    rw [E_X3_placeOf_2]
    simp (disch := omega) only [true_and, and_true, and_self, exists_eq_left, Option.toList_some, Option.toList_none, List.cons_append, List.nil_append, List.append_nil, i2_i, i2_r, i2_n, nz0, nz1, true_or, or_true, Nat.reduceAdd, Nat.le_refl, Nat.reduceLT, Nat.reduceLeDiff, ↓E_X3_placeOf_0, ↓E_X3_placeOf_1, ↓E_X3_placeOf_3, ↓E_X3_placeOf_4, ↓E_X3_placeOf_7, ↓E_X3_placeOf_10, ↓E_X3_placeOf_11, ↓E_X3_placeOf_14, ↓E_X3_placeOf_15, ↓E_X3_placeOf_16, ↓E_X3_placeOf_17, ↓E_X3_placeOf_20, ↓E_X3_placeOf_21, ↓E_X3_placeOf_22, ↓E_X3_placeOf_25, ↓E_X3_placeOf_28, ↓E_X3_placeOf_29, kd_3, kd_8, h0, leN, vin, clN, ln_6, hO, eqN, nI_1]
    have hle : ¬ n ≤ k := by omega
    simp only [if_neg hle]
    by_cases e : O k = j
    · have hst : ∀ t, k < t → plc O j t = k := by
        intro t ht
        induction t with
        | zero => omega
        | succ t iht =>
          unfold plc
          by_cases hkt : k < t
          · rw [iht hkt, if_pos hkt]
          · have : t = k := by omega
            subst this
            rw [hp, if_neg (by omega), if_pos e]
      rw [if_pos e, hst n (by omega)]
    · rw [if_neg e, ih (k + 1) (by omega)]
      unfold plc
      rw [hp, if_neg (by omega), if_neg e]
theorem s_placeOf {d : Nat} {σ : mx_S} {q : mx_R} {h n j : Nat} {O : Nat → Nat} (hs : h = 1 ∨ h = 19 ∨ h = 37) (hn : n ≤ 6) (hj : j < n) (h0 : σ.1 h 0 = nI n) (hO : ∀ p, p < n → σ.1 (h + 8) p = nI (O p)) (ok : okO n O) : mx_call (d + 1) m_X3_placeOf [.ref h, .int (nI j)] σ q ↔ q = (some (.int (nI (plc O j n))), σ) := by
  simp only [C_X3_placeOf, true_and, and_true, and_self, exists_eq_left, Option.toList_some, Option.toList_none, List.cons_append, List.nil_append, List.append_nil, i2_i, i2_r, i2_n, nz0, nz1, true_or, or_true, Nat.reduceAdd, Nat.le_refl, Nat.reduceLT, Nat.reduceLeDiff, ↓E_X3_placeOf_0, ↓E_X3_placeOf_1, ↓E_X3_placeOf_3, ↓E_X3_placeOf_4, ↓E_X3_placeOf_7, ↓E_X3_placeOf_10, ↓E_X3_placeOf_11, ↓E_X3_placeOf_14, ↓E_X3_placeOf_15, ↓E_X3_placeOf_16, ↓E_X3_placeOf_17, ↓E_X3_placeOf_20, ↓E_X3_placeOf_21, ↓E_X3_placeOf_22, ↓E_X3_placeOf_25, ↓E_X3_placeOf_28, ↓E_X3_placeOf_29]
  exact l_placeOf hs hn hj h0 hO ok n 0 (by omega) rfl
set_option maxHeartbeats 2000000 in
theorem X_of {d : Nat} {σ : mx_S} {w : Vw} {a b : Int32} (hw : vwX w σ) : mx_call (d + 2) m_X6_of [.ref 0, .int a, .int b] σ (some (.int (F_of w a b)), σ) := by
  obtain ⟨H1, ⟨-, R1, R2, R3⟩, H3, H4, H5, H6⟩ := id hw
  obtain ⟨S1, S2, S3, S4, S5⟩ := vwX_now hw
  have hn := H1.1.1
  simp (disch := omega) only [C_X6_of, true_and, and_true, and_self, exists_eq_left, Option.toList_some, Option.toList_none, List.cons_append, List.nil_append, List.append_nil, i2_i, i2_r, i2_n, nz0, nz1, true_or, or_true, Nat.reduceAdd, Nat.le_refl, Nat.reduceLT, Nat.reduceLeDiff, ↓E_X6_of_0, ↓E_X6_of_1, ↓E_X6_of_4, ↓E_X6_of_5, ↓E_X6_of_8, ↓E_X6_of_11, ↓E_X6_of_12, ↓E_X6_of_13, ↓E_X6_of_14, ↓E_X6_of_16, ↓E_X6_of_19, ↓E_X6_of_20, ↓E_X6_of_23, ↓E_X6_of_24, ↓E_X6_of_27, ↓E_X6_of_28, ↓E_X6_of_29, ↓E_X6_of_31, ↓E_X6_of_34, ↓E_X6_of_37, ↓E_X6_of_38, ↓E_X6_of_41, ↓E_X6_of_44, ↓E_X6_of_45, ↓E_X6_of_46, ↓E_X6_of_47, ↓E_X6_of_48, ↓E_X6_of_51, ↓E_X6_of_52, s_isBelow, s_hasJob, bz_0, kd_3, S1, ibx_N, ibx_6]
  unfold F_of
  by_cases h0 : ibI a w.1.jn = false
  · simp only [if_pos h0]
  obtain ⟨ha, ha2, ha3⟩ := ibI_of (eq_true_of_ne_false h0)
  simp only [if_neg h0]
  generalize ixI a = j at *
  subst ha
  by_cases h1 : b = 6
  · simp (disch := omega) only [if_pos h1, s_placeOf (h := 1) (Or.inl rfl) hn ha2 S1 S5 H1.1.2.2.2.2.1, true_and, and_true, and_self, exists_eq_left, Option.toList_some, Option.toList_none, List.cons_append, List.nil_append, List.append_nil, i2_i, i2_r, i2_n, nz0, nz1, true_or, or_true, Nat.reduceAdd, Nat.le_refl, Nat.reduceLT, Nat.reduceLeDiff, ↓E_X6_of_0, ↓E_X6_of_1, ↓E_X6_of_4, ↓E_X6_of_5, ↓E_X6_of_8, ↓E_X6_of_11, ↓E_X6_of_12, ↓E_X6_of_13, ↓E_X6_of_14, ↓E_X6_of_16, ↓E_X6_of_19, ↓E_X6_of_20, ↓E_X6_of_23, ↓E_X6_of_24, ↓E_X6_of_27, ↓E_X6_of_28, ↓E_X6_of_29, ↓E_X6_of_31, ↓E_X6_of_34, ↓E_X6_of_37, ↓E_X6_of_38, ↓E_X6_of_41, ↓E_X6_of_44, ↓E_X6_of_45, ↓E_X6_of_46, ↓E_X6_of_47, ↓E_X6_of_48, ↓E_X6_of_51, ↓E_X6_of_52]
  simp only [if_neg h1]
  by_cases h2 : ibI b 6 = false
  · simp only [if_pos h2]
  obtain ⟨hb, hb2, hb3⟩ := ibI_of (eq_true_of_ne_false h2)
  simp only [if_neg h2]
  generalize ixI b = k at *
  subst hb
  simp (disch := omega) only [true_and, and_true, and_self, exists_eq_left, Option.toList_some, Option.toList_none, List.cons_append, List.nil_append, List.append_nil, i2_i, i2_r, i2_n, nz0, nz1, true_or, or_true, Nat.reduceAdd, Nat.le_refl, Nat.reduceLT, Nat.reduceLeDiff, ↓E_X6_of_0, ↓E_X6_of_1, ↓E_X6_of_4, ↓E_X6_of_5, ↓E_X6_of_8, ↓E_X6_of_11, ↓E_X6_of_12, ↓E_X6_of_13, ↓E_X6_of_14, ↓E_X6_of_16, ↓E_X6_of_19, ↓E_X6_of_20, ↓E_X6_of_23, ↓E_X6_of_24, ↓E_X6_of_27, ↓E_X6_of_28, ↓E_X6_of_29, ↓E_X6_of_31, ↓E_X6_of_34, ↓E_X6_of_37, ↓E_X6_of_38, ↓E_X6_of_41, ↓E_X6_of_44, ↓E_X6_of_45, ↓E_X6_of_46, ↓E_X6_of_47, ↓E_X6_of_48, ↓E_X6_of_51, ↓E_X6_of_52, kd_3, kd_8, kd_12, vin, clN, ln_6, ptrG, S4]
theorem getD_app {α : Type} {l : List α} {x y : α} {i : Nat} (h : i < l.length) : (l ++ [x]).getD i y = l.getD i y := by
  rw [List.getD_eq_getElem?_getD, List.getD_eq_getElem?_getD, List.getElem?_append_left h]
theorem getD_end {α : Type} {l : List α} {x y : α} : (l ++ [x]).getD l.length y = x := by
  rw [List.getD_eq_getElem?_getD, List.getElem?_append_right (Nat.le_refl _), Nat.sub_self]
  rfl
/-- a row of two numbers comes -/
theorem rowX_add {l : List (Nat × Nat)} {a x y : Nat} {f : Nat → Nat → Int32} (H : rowX l a f) : rowX (l ++ [(x, y)]) a (mx_u (mx_u (mx_u f (a + 1) l.length (nI x)) (a + 2) l.length (nI y)) a 2 (nI (l.length + 1))) := by
  refine ⟨?_, fun i hi => ?_⟩
  · simp only [uu_same, List.length_append, List.length_cons, List.length_nil]
  · rw [List.length_append, List.length_singleton] at hi
    by_cases e : i = l.length
    · subst e
      simp (disch := omega) only [uu_row, uu_same, getD_end, and_self]
    · simp (disch := omega) only [uu_row, uu_col, getD_app]
      exact H.2 i (by omega)
theorem rowX_nil {a : Nat} {f : Nat → Nat → Int32} : rowX [] a (mx_u f a 2 0) := ⟨by simp only [uu_same]; rfl, fun i hi => by simp at hi⟩
set_option maxHeartbeats 2000000 in
theorem s_add {d : Nat} {σ : mx_S} {q : mx_R} {h c n : Nat} {x y : Int32} (hs : (h = 10 ∧ c = 5) ∨ ((h = 13 ∨ h = 16) ∧ c = 8)) (hn : n ≤ c) (h0 : σ.1 h 2 = nI n) : mx_call (d + 1) m_X1_add [.ref h, .int x, .int y] σ q ↔ q = if n = c then (some (.int 0), σ) else (some (.int 1), (mx_u (mx_u (mx_u σ.1 (h + 1) n x) (h + 2) n y) h 2 (nI (n + 1)), σ.2)) := by
  have hl : mx_ln (h + 1) = c ∧ mx_ln (h + 2) = c := by
    rcases hs with ⟨rfl, rfl⟩ | ⟨rfl | rfl, rfl⟩ <;> exact ⟨rfl, rfl⟩
  simp (disch := omega) only [C_X1_add, true_and, and_true, and_self, exists_eq_left, Option.toList_some, Option.toList_none, List.cons_append, List.nil_append, List.append_nil, i2_i, i2_r, i2_n, nz0, nz1, true_or, or_true, Nat.reduceAdd, Nat.le_refl, Nat.reduceLT, Nat.reduceLeDiff, ↓E_X1_add_0, ↓E_X1_add_1, ↓E_X1_add_4, ↓E_X1_add_5, ↓E_X1_add_8, ↓E_X1_add_9, ↓E_X1_add_12, ↓E_X1_add_13, ↓E_X1_add_14, ↓E_X1_add_15, ↓E_X1_add_18, ↓E_X1_add_19, ↓E_X1_add_22, ↓E_X1_add_23, ↓E_X1_add_24, ↓E_X1_add_25, ↓E_X1_add_28, ↓E_X1_add_29, ↓E_X1_add_32, ↓E_X1_add_33, ↓E_X1_add_34, ↓E_X1_add_35, ↓E_X1_add_36, ↓E_X1_add_39, ↓E_X1_add_40, ↓E_X1_add_41, ↓E_X1_add_44, ↓E_X1_add_45, kd_1, kd_8, h0, hl.1, hl.2, ltN, leN]
  by_cases e : n = c
  · simp (disch := omega) only [if_pos e, if_neg (show ¬ n < c by omega)]
  · simp (disch := omega) only [if_neg e, if_pos (show n < c by omega), true_and, and_true, and_self, exists_eq_left, Option.toList_some, Option.toList_none, List.cons_append, List.nil_append, List.append_nil, i2_i, i2_r, i2_n, nz0, nz1, true_or, or_true, Nat.reduceAdd, Nat.le_refl, Nat.reduceLT, Nat.reduceLeDiff, vin, clN, uu_row, h0, nI_1]
set_option maxHeartbeats 2000000 in
theorem s_noteIn {d : Nat} {σ : mx_S} {q : mx_R} {w : Vw} {h c n : Nat} {a b : Int32} (hs : (h = 10 ∧ c = 5) ∨ ((h = 13 ∨ h = 16) ∧ c = 8)) (hn : n ≤ c) (h0 : σ.1 h 2 = nI n) (hw : vwX w σ) : mx_call (d + 2) m_X6_noteIn [.ref 0, .ref h, .int a, .int b] σ q ↔ q = if a = -1 then (some (.int 0), (mx_u σ.1 h 2 0, σ.2)) else if ibI a w.1.jn = false then (some (.int (-1)), σ) else if ibI b 6 = false then (some (.int (-2)), σ) else if n = c then (some (.int (-4)), σ) else (some (.int (nI (n + 1))), (mx_u (mx_u (mx_u σ.1 (h + 1) n a) (h + 2) n b) h 2 (nI (n + 1)), σ.2)) := by
  obtain ⟨H1, ⟨-, R1, R2, R3⟩, H3, H4, H5, H6⟩ := id hw
  obtain ⟨S1, S2, S3, S4, S5⟩ := vwX_now hw
  have hjn := H1.1.1
  simp (disch := omega) only [C_X6_noteIn, true_and, and_true, and_self, exists_eq_left, Option.toList_some, Option.toList_none, List.cons_append, List.nil_append, List.append_nil, i2_i, i2_r, i2_n, nz0, nz1, true_or, or_true, Nat.reduceAdd, Nat.le_refl, Nat.reduceLT, Nat.reduceLeDiff, ↓E_X6_noteIn_0, ↓E_X6_noteIn_1, ↓E_X6_noteIn_2, ↓E_X6_noteIn_5, ↓E_X6_noteIn_6, ↓E_X6_noteIn_7, ↓E_X6_noteIn_10, ↓E_X6_noteIn_11, ↓E_X6_noteIn_12, ↓E_X6_noteIn_13, ↓E_X6_noteIn_16, ↓E_X6_noteIn_17, ↓E_X6_noteIn_20, ↓E_X6_noteIn_23, ↓E_X6_noteIn_24, ↓E_X6_noteIn_25, ↓E_X6_noteIn_26, ↓E_X6_noteIn_28, ↓E_X6_noteIn_31, ↓E_X6_noteIn_34, ↓E_X6_noteIn_36, ↓E_X6_noteIn_37, ↓E_X6_noteIn_38, ↓E_X6_noteIn_39, ↓E_X6_noteIn_40, ↓E_X6_noteIn_43, ↓E_X6_noteIn_46, ↓E_X6_noteIn_47, ↓E_X6_noteIn_50, ↓E_X6_noteIn_53, ↓E_X6_noteIn_55, s_isBelow, s_hasJob, s_add hs hn h0, bz_0, kd_3, kd_1, S1, ibx_N, ibx_6]
  by_cases e0 : a = -1
  · simp only [if_pos e0]
  by_cases e1 : ibI a w.1.jn = false
  · simp only [if_neg e0, if_pos e1]
  by_cases e2 : ibI b 6 = false
  · simp only [if_neg e0, if_neg e1, if_pos e2]
  by_cases e3 : n = c
  · simp only [if_neg e0, if_neg e1, if_neg e2, if_pos e3, true_and, and_true, and_self, exists_eq_left, Option.toList_some, Option.toList_none, List.cons_append, List.nil_append, List.append_nil, i2_i, i2_r, i2_n, nz0, nz1, true_or, or_true, Nat.reduceAdd, Nat.le_refl, Nat.reduceLT, Nat.reduceLeDiff, ↓E_X6_noteIn_0, ↓E_X6_noteIn_1, ↓E_X6_noteIn_2, ↓E_X6_noteIn_5, ↓E_X6_noteIn_6, ↓E_X6_noteIn_7, ↓E_X6_noteIn_10, ↓E_X6_noteIn_11, ↓E_X6_noteIn_12, ↓E_X6_noteIn_13, ↓E_X6_noteIn_16, ↓E_X6_noteIn_17, ↓E_X6_noteIn_20, ↓E_X6_noteIn_23, ↓E_X6_noteIn_24, ↓E_X6_noteIn_25, ↓E_X6_noteIn_26, ↓E_X6_noteIn_28, ↓E_X6_noteIn_31, ↓E_X6_noteIn_34, ↓E_X6_noteIn_36, ↓E_X6_noteIn_37, ↓E_X6_noteIn_38, ↓E_X6_noteIn_39, ↓E_X6_noteIn_40, ↓E_X6_noteIn_43, ↓E_X6_noteIn_46, ↓E_X6_noteIn_47, ↓E_X6_noteIn_50, ↓E_X6_noteIn_53, ↓E_X6_noteIn_55, if_true]
  · simp (disch := omega) only [if_neg e0, if_neg e1, if_neg e2, if_neg e3, true_and, and_true, and_self, exists_eq_left, Option.toList_some, Option.toList_none, List.cons_append, List.nil_append, List.append_nil, i2_i, i2_r, i2_n, nz0, nz1, true_or, or_true, Nat.reduceAdd, Nat.le_refl, Nat.reduceLT, Nat.reduceLeDiff, ↓E_X6_noteIn_0, ↓E_X6_noteIn_1, ↓E_X6_noteIn_2, ↓E_X6_noteIn_5, ↓E_X6_noteIn_6, ↓E_X6_noteIn_7, ↓E_X6_noteIn_10, ↓E_X6_noteIn_11, ↓E_X6_noteIn_12, ↓E_X6_noteIn_13, ↓E_X6_noteIn_16, ↓E_X6_noteIn_17, ↓E_X6_noteIn_20, ↓E_X6_noteIn_23, ↓E_X6_noteIn_24, ↓E_X6_noteIn_25, ↓E_X6_noteIn_26, ↓E_X6_noteIn_28, ↓E_X6_noteIn_31, ↓E_X6_noteIn_34, ↓E_X6_noteIn_36, ↓E_X6_noteIn_37, ↓E_X6_noteIn_38, ↓E_X6_noteIn_39, ↓E_X6_noteIn_40, ↓E_X6_noteIn_43, ↓E_X6_noteIn_46, ↓E_X6_noteIn_47, ↓E_X6_noteIn_50, ↓E_X6_noteIn_53, ↓E_X6_noteIn_55, kd_1, uu_same, if_neg (show ¬ (1 : Int32) = 0 by decide)]
