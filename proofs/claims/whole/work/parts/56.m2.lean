/-! ===== the reference: short calls ===== -/
theorem vwM_se {w : Vw} {σ σ' : mx_S} {l : List (Nat × Nat)} (H : vwM w σ) (ok : l.length ≤ 5 ∧ ∀ x ∈ l, x.1 < w.1.jn ∧ x.2 < 6) (hS : rowM l 11 91 92 σ'.1) (h : ∀ k, k < 18 → k ≠ 11 → σ'.1 88 k = σ.1 88 k) (g : ∀ i, 89 ≤ i → i ≤ 112 → i ≠ 91 → i ≠ 92 → σ'.1 i = σ.1 i) (g2 : σ'.2 = σ.2) : vwM (setSe w l) σ' := by
  obtain ⟨⟨⟨o1, o2, o3, o4, o5, -, o7, o8⟩, o9⟩, ⟨⟨a0, a1, a2, a3, a4⟩, r1, r2, r3⟩, -, -, -⟩ := id H
  refine vwM_cfg H ⟨o1, o2, o3, o4, o5, ok, o7, o8⟩ ⟨⟨(h 0 (by omega) (by omega)).trans a0, (h 1 (by omega) (by omega)).trans a1, (h 2 (by omega) (by omega)).trans a2, fun j k hj hk => by rw [g 89 (by omega) (by omega) (by omega) (by omega)]; exact a3 j k hj hk, fun p hp => by rw [g 90 (by omega) (by omega) (by omega) (by omega)]; exact a4 p hp⟩, hS, rowM_agr (h 12 (by omega) (by omega)) (g 93 (by omega) (by omega) (by omega) (by omega)) (g 94 (by omega) (by omega) (by omega) (by omega)) r2, rowM_agr (h 13 (by omega) (by omega)) (g 95 (by omega) (by omega) (by omega) (by omega)) (g 96 (by omega) (by omega) (by omega) (by omega)) r3⟩ (fun k h1 h2 => h k (by omega) (by omega)) (fun i hi => g i (by omega) (by omega) (by omega) (by omega)) (fun i _ _ => by rw [g2])
theorem vwM_ev {w : Vw} {σ σ' : mx_S} {l : List (Nat × Nat)} (H : vwM w σ) (ok : l.length ≤ 8 ∧ ∀ x ∈ l, x.1 ≤ 3 ∧ (x.1 ≠ 2 → x.2 < w.1.jn) ∧ (x.1 = 2 → x.2 ≤ 2)) (hS : rowM l 12 93 94 σ'.1) (h : ∀ k, k < 18 → k ≠ 12 → σ'.1 88 k = σ.1 88 k) (g : ∀ i, 89 ≤ i → i ≤ 112 → i ≠ 93 → i ≠ 94 → σ'.1 i = σ.1 i) (g2 : σ'.2 = σ.2) : vwM (setEv w l) σ' := by
  obtain ⟨⟨⟨o1, o2, o3, o4, o5, o6, -, o8⟩, o9⟩, ⟨⟨a0, a1, a2, a3, a4⟩, r1, r2, r3⟩, -, -, -⟩ := id H
  refine vwM_cfg H ⟨o1, o2, o3, o4, o5, o6, ok, o8⟩ ⟨⟨(h 0 (by omega) (by omega)).trans a0, (h 1 (by omega) (by omega)).trans a1, (h 2 (by omega) (by omega)).trans a2, fun j k hj hk => by rw [g 89 (by omega) (by omega) (by omega) (by omega)]; exact a3 j k hj hk, fun p hp => by rw [g 90 (by omega) (by omega) (by omega) (by omega)]; exact a4 p hp⟩, rowM_agr (h 11 (by omega) (by omega)) (g 91 (by omega) (by omega) (by omega) (by omega)) (g 92 (by omega) (by omega) (by omega) (by omega)) r1, hS, rowM_agr (h 13 (by omega) (by omega)) (g 95 (by omega) (by omega) (by omega) (by omega)) (g 96 (by omega) (by omega) (by omega) (by omega)) r3⟩ (fun k h1 h2 => h k (by omega) (by omega)) (fun i hi => g i (by omega) (by omega) (by omega) (by omega)) (fun i _ _ => by rw [g2])
theorem vwM_bk {w : Vw} {σ σ' : mx_S} {l : List (Nat × Nat)} (H : vwM w σ) (ok : l.length ≤ 8 ∧ ∀ x ∈ l, x.1 < w.1.jn ∧ x.2 < 6) (hS : rowM l 13 95 96 σ'.1) (h : ∀ k, k < 18 → k ≠ 13 → σ'.1 88 k = σ.1 88 k) (g : ∀ i, 89 ≤ i → i ≤ 112 → i ≠ 95 → i ≠ 96 → σ'.1 i = σ.1 i) (g2 : σ'.2 = σ.2) : vwM (setBk w l) σ' := by
  obtain ⟨⟨⟨o1, o2, o3, o4, o5, o6, o7, -⟩, o9⟩, ⟨⟨a0, a1, a2, a3, a4⟩, r1, r2, r3⟩, -, -, -⟩ := id H
  refine vwM_cfg H ⟨o1, o2, o3, o4, o5, o6, o7, ok⟩ ⟨⟨(h 0 (by omega) (by omega)).trans a0, (h 1 (by omega) (by omega)).trans a1, (h 2 (by omega) (by omega)).trans a2, fun j k hj hk => by rw [g 89 (by omega) (by omega) (by omega) (by omega)]; exact a3 j k hj hk, fun p hp => by rw [g 90 (by omega) (by omega) (by omega) (by omega)]; exact a4 p hp⟩, rowM_agr (h 11 (by omega) (by omega)) (g 91 (by omega) (by omega) (by omega) (by omega)) (g 92 (by omega) (by omega) (by omega) (by omega)) r1, rowM_agr (h 12 (by omega) (by omega)) (g 93 (by omega) (by omega) (by omega) (by omega)) (g 94 (by omega) (by omega) (by omega) (by omega)) r2, hS⟩ (fun k h1 h2 => h k (by omega) (by omega)) (fun i hi => g i (by omega) (by omega) (by omega) (by omega)) (fun i _ _ => by rw [g2])
theorem vwM_tx {w : Vw} {σ σ' : mx_S} {l : List Nat} (H : vwM w σ) (ok : l.length ≤ 100 ∧ ∀ x ∈ l, x < 128) (hS : txtM l σ'.1) (h : ∀ k, k < 18 → k ≠ 15 → σ'.1 88 k = σ.1 88 k) (g : ∀ i, 89 ≤ i → i ≤ 112 → i ≠ 97 → i < 99 ∨ 104 ≤ i → σ'.1 i = σ.1 i) (g2 : σ'.2 = σ.2) : vwM (setTx w l) σ' := by
  obtain ⟨H1, H2, H3, H4, H5⟩ := H
  exact ⟨⟨H1.1, H1.2.1, ok, H1.2.2.2⟩, cfgM_agr (fun k hk => h k (by omega) (by omega)) (fun i h1 h2 => g i (by omega) (by omega) (by omega) (by omega)) H2, imgM_agr (h 17 (by omega) (by omega)) (g 98 (by omega) (by omega) (by omega) (by omega)) H3, hS, tapM_agr (g 111 (by omega) (by omega) (by omega) (by omega)) (g 112 (by omega) (by omega) (by omega) (by omega)) (fun i _ _ => by rw [g2]) H5⟩
theorem m_most {d k : Nat} {σ : mx_S} {q : mx_R} (hk : k < 6) : mx_call (d + 1) m_X7_most [.int (nI k)] σ q ↔ q = (some (.int (nI (lim k))), σ) := by
  rcases (show k = 0 ∨ k = 1 ∨ k = 2 ∨ k = 3 ∨ k = 4 ∨ k = 5 by omega) with rfl | rfl | rfl | rfl | rfl | rfl
  · simp only [C_X7_most, true_and, and_true, and_self, exists_eq_left, Option.toList_some, Option.toList_none, List.cons_append, List.nil_append, List.append_nil, i2_i, i2_r, i2_n, nz0, nz1, true_or, or_true, Nat.reduceAdd, Nat.le_refl, Nat.reduceLT, Nat.reduceLeDiff, ↓E_X7_most_0, ↓E_X7_most_1, ↓E_X7_most_2, ↓E_X7_most_5, ↓E_X7_most_7, ↓E_X7_most_10, ↓E_X7_most_11, ↓E_X7_most_12, ↓E_X7_most_15, ↓E_X7_most_17, ↓E_X7_most_20, ↓E_X7_most_22, if_neg (show ¬ (3 : Int32) ≤ nI 0 by decide)]; rfl
  · simp only [C_X7_most, true_and, and_true, and_self, exists_eq_left, Option.toList_some, Option.toList_none, List.cons_append, List.nil_append, List.append_nil, i2_i, i2_r, i2_n, nz0, nz1, true_or, or_true, Nat.reduceAdd, Nat.le_refl, Nat.reduceLT, Nat.reduceLeDiff, ↓E_X7_most_0, ↓E_X7_most_1, ↓E_X7_most_2, ↓E_X7_most_5, ↓E_X7_most_7, ↓E_X7_most_10, ↓E_X7_most_11, ↓E_X7_most_12, ↓E_X7_most_15, ↓E_X7_most_17, ↓E_X7_most_20, ↓E_X7_most_22, if_neg (show ¬ (3 : Int32) ≤ nI 1 by decide)]; rfl
  · simp only [C_X7_most, true_and, and_true, and_self, exists_eq_left, Option.toList_some, Option.toList_none, List.cons_append, List.nil_append, List.append_nil, i2_i, i2_r, i2_n, nz0, nz1, true_or, or_true, Nat.reduceAdd, Nat.le_refl, Nat.reduceLT, Nat.reduceLeDiff, ↓E_X7_most_0, ↓E_X7_most_1, ↓E_X7_most_2, ↓E_X7_most_5, ↓E_X7_most_7, ↓E_X7_most_10, ↓E_X7_most_11, ↓E_X7_most_12, ↓E_X7_most_15, ↓E_X7_most_17, ↓E_X7_most_20, ↓E_X7_most_22, if_neg (show ¬ (3 : Int32) ≤ nI 2 by decide)]; rfl
  · simp only [C_X7_most, true_and, and_true, and_self, exists_eq_left, Option.toList_some, Option.toList_none, List.cons_append, List.nil_append, List.append_nil, i2_i, i2_r, i2_n, nz0, nz1, true_or, or_true, Nat.reduceAdd, Nat.le_refl, Nat.reduceLT, Nat.reduceLeDiff, ↓E_X7_most_0, ↓E_X7_most_1, ↓E_X7_most_2, ↓E_X7_most_5, ↓E_X7_most_7, ↓E_X7_most_10, ↓E_X7_most_11, ↓E_X7_most_12, ↓E_X7_most_15, ↓E_X7_most_17, ↓E_X7_most_20, ↓E_X7_most_22, if_pos (show (3 : Int32) ≤ nI 3 by decide), if_neg (show ¬ (5 : Int32) ≤ nI 3 by decide)]; rfl
  · simp only [C_X7_most, true_and, and_true, and_self, exists_eq_left, Option.toList_some, Option.toList_none, List.cons_append, List.nil_append, List.append_nil, i2_i, i2_r, i2_n, nz0, nz1, true_or, or_true, Nat.reduceAdd, Nat.le_refl, Nat.reduceLT, Nat.reduceLeDiff, ↓E_X7_most_0, ↓E_X7_most_1, ↓E_X7_most_2, ↓E_X7_most_5, ↓E_X7_most_7, ↓E_X7_most_10, ↓E_X7_most_11, ↓E_X7_most_12, ↓E_X7_most_15, ↓E_X7_most_17, ↓E_X7_most_20, ↓E_X7_most_22, if_pos (show (3 : Int32) ≤ nI 4 by decide), if_neg (show ¬ (5 : Int32) ≤ nI 4 by decide)]; rfl
  · simp only [C_X7_most, true_and, and_true, and_self, exists_eq_left, Option.toList_some, Option.toList_none, List.cons_append, List.nil_append, List.append_nil, i2_i, i2_r, i2_n, nz0, nz1, true_or, or_true, Nat.reduceAdd, Nat.le_refl, Nat.reduceLT, Nat.reduceLeDiff, ↓E_X7_most_0, ↓E_X7_most_1, ↓E_X7_most_2, ↓E_X7_most_5, ↓E_X7_most_7, ↓E_X7_most_10, ↓E_X7_most_11, ↓E_X7_most_12, ↓E_X7_most_15, ↓E_X7_most_17, ↓E_X7_most_20, ↓E_X7_most_22, if_pos (show (3 : Int32) ≤ nI 5 by decide), if_pos (show (5 : Int32) ≤ nI 5 by decide)]; rfl
set_option maxHeartbeats 2000000 in
theorem M_renewF {d : Nat} {σ : mx_S} {w : Vw} {a b v : Int32} (hw : vwM w σ) : ∃ σ', mx_call (d + 3) m_X7_renew [.ref 88, .int a, .int b, .int v] σ (some (.int (F_renew w a b v).1), σ') ∧ vwM (F_renew w a b v).2 σ' ∧ nwM σ σ' := by
  obtain ⟨S1, S2, S3, S4, S5⟩ := vwM_now hw
  have H1 := hw.1
  have hn := H1.1.1
  simp (disch := omega) only [C_X7_renew, true_and, and_true, and_self, exists_eq_left, Option.toList_some, Option.toList_none, List.cons_append, List.nil_append, List.append_nil, i2_i, i2_r, i2_n, nz0, nz1, true_or, or_true, Nat.reduceAdd, Nat.le_refl, Nat.reduceLT, Nat.reduceLeDiff, ↓E_X7_renew_0, ↓E_X7_renew_1, ↓E_X7_renew_2, ↓E_X7_renew_5, ↓E_X7_renew_8, ↓E_X7_renew_9, ↓E_X7_renew_10, ↓E_X7_renew_11, ↓E_X7_renew_14, ↓E_X7_renew_17, ↓E_X7_renew_20, ↓E_X7_renew_21, ↓E_X7_renew_23, ↓E_X7_renew_24, ↓E_X7_renew_25, ↓E_X7_renew_26, ↓E_X7_renew_29, ↓E_X7_renew_30, ↓E_X7_renew_33, ↓E_X7_renew_36, ↓E_X7_renew_38, ↓E_X7_renew_39, ↓E_X7_renew_40, ↓E_X7_renew_41, ↓E_X7_renew_42, ↓E_X7_renew_45, ↓E_X7_renew_47, ↓E_X7_renew_48, ↓E_X7_renew_51, ↓E_X7_renew_53, ↓E_X7_renew_54, ↓E_X7_renew_55, ↓E_X7_renew_56, ↓E_X7_renew_57, ↓E_X7_renew_58, ↓E_X7_renew_59, ↓E_X7_renew_61, m_isJob hn S1, s_in, inL_5, bz_0]
  unfold F_renew
  by_cases h0 : ibI a w.1.jn = false
  · simp only [if_pos h0, h0, Bool.false_and, if_true]
    exact ⟨σ, rfl, hw, nwM.rf⟩
  by_cases h1 : ibI b 6 = false
  · simp only [if_neg h0, if_pos h1, h1, Bool.and_false, if_true]
    exact ⟨σ, rfl, hw, nwM.rf⟩
  have h01 : ¬ (ibI a w.1.jn && ibI b 6) = false := by rw [eq_true_of_ne_false h0, eq_true_of_ne_false h1]; decide
  simp only [if_neg h0, if_neg h1, if_neg h01]
  obtain ⟨ha, ha2, ha3⟩ := ibI_of (eq_true_of_ne_false h0)
  obtain ⟨hb, hb2, hb3⟩ := ibI_of (eq_true_of_ne_false h1)
  generalize ixI a = j at *
  generalize ixI b = k at *
  subst ha
  subst hb
  have hlk := lim_le k
  simp (disch := omega) only [true_and, and_true, and_self, exists_eq_left, Option.toList_some, Option.toList_none, List.cons_append, List.nil_append, List.append_nil, i2_i, i2_r, i2_n, nz0, nz1, true_or, or_true, Nat.reduceAdd, Nat.le_refl, Nat.reduceLT, Nat.reduceLeDiff, ↓E_X7_renew_0, ↓E_X7_renew_1, ↓E_X7_renew_2, ↓E_X7_renew_5, ↓E_X7_renew_8, ↓E_X7_renew_9, ↓E_X7_renew_10, ↓E_X7_renew_11, ↓E_X7_renew_14, ↓E_X7_renew_17, ↓E_X7_renew_20, ↓E_X7_renew_21, ↓E_X7_renew_22, ↓E_X7_renew_23, ↓E_X7_renew_24, ↓E_X7_renew_25, ↓E_X7_renew_26, ↓E_X7_renew_29, ↓E_X7_renew_30, ↓E_X7_renew_33, ↓E_X7_renew_36, ↓E_X7_renew_38, ↓E_X7_renew_40, ↓E_X7_renew_41, ↓E_X7_renew_42, ↓E_X7_renew_45, ↓E_X7_renew_47, ↓E_X7_renew_48, ↓E_X7_renew_51, ↓E_X7_renew_53, ↓E_X7_renew_54, ↓E_X7_renew_55, ↓E_X7_renew_56, ↓E_X7_renew_57, ↓E_X7_renew_58, ↓E_X7_renew_59, ↓E_X7_renew_61, m_most hb2, s_in, inL_N, bz_0]
  by_cases h2 : inI v (lim k) = false
  · simp only [if_pos h2]
    exact ⟨σ, rfl, hw, nwM.rf⟩
  obtain ⟨hv, hv2, hv3⟩ := inI_of (eq_true_of_ne_false h2)
  simp (disch := omega) only [if_neg h2, true_and, and_true, and_self, exists_eq_left, Option.toList_some, Option.toList_none, List.cons_append, List.nil_append, List.append_nil, i2_i, i2_r, i2_n, nz0, nz1, true_or, or_true, Nat.reduceAdd, Nat.le_refl, Nat.reduceLT, Nat.reduceLeDiff, ↓E_X7_renew_0, ↓E_X7_renew_1, ↓E_X7_renew_2, ↓E_X7_renew_5, ↓E_X7_renew_8, ↓E_X7_renew_9, ↓E_X7_renew_10, ↓E_X7_renew_11, ↓E_X7_renew_14, ↓E_X7_renew_17, ↓E_X7_renew_20, ↓E_X7_renew_21, ↓E_X7_renew_22, ↓E_X7_renew_23, ↓E_X7_renew_24, ↓E_X7_renew_25, ↓E_X7_renew_26, ↓E_X7_renew_29, ↓E_X7_renew_30, ↓E_X7_renew_33, ↓E_X7_renew_36, ↓E_X7_renew_38, ↓E_X7_renew_39, ↓E_X7_renew_40, ↓E_X7_renew_41, ↓E_X7_renew_42, ↓E_X7_renew_45, ↓E_X7_renew_47, ↓E_X7_renew_48, ↓E_X7_renew_51, ↓E_X7_renew_53, ↓E_X7_renew_54, ↓E_X7_renew_55, ↓E_X7_renew_56, ↓E_X7_renew_57, ↓E_X7_renew_58, ↓E_X7_renew_59, ↓E_X7_renew_61, m_get hn S4 ha2 hb2, kd_8, m6, nI_add, vin, clN, ln_36]
  refine ⟨_, rfl, vwM_shp hw (okC_shp H1.1 H1.1.2.1 H1.1.2.2.1 (upV1_ok H1.1.2.2.2.1 hv2) H1.1.2.2.2.2.1) ?_ ?_ ?_ ?_ ?_ ?_ (fun i h1 h2 => by simp (disch := omega) only [mx_u_ne]) rfl, ⟨fun k hk => by simp (disch := omega) only [uu_row, uu_col], fun i h1 h2 h3 => by simp (disch := omega) only [mx_u_ne], rfl⟩⟩
  · simp (disch := omega) only [uu_row]; exact S1
  · simp (disch := omega) only [uu_row]; exact S2
  · simp (disch := omega) only [uu_row]; exact S3
  · intro i l hi hl
    unfold upV1
    by_cases e : i = j ∧ l = k
    · obtain ⟨rfl, rfl⟩ := e
      simp only [uu_same, and_self, if_true]
      exact hv
    · rw [if_neg e]
      simp (disch := omega) only [uu_col]
      exact S4 i l hi hl
  · intro p hp; simp (disch := omega) only [uu_row]; exact S5 p hp
  · intro k hk hk2; simp (disch := omega) only [uu_row]
theorem M_renew {d : Nat} {σ : mx_S} {w : Vw} {a b v : Int32} (hw : vwM w σ) : ∃ σ', mx_call (d + 3) m_X7_renew [.ref 88, .int a, .int b, .int v] σ (some (.int (F_renew w a b v).1), σ') ∧ vwM (F_renew w a b v).2 σ' ∧ loS σ σ' := by
  obtain ⟨σ', h1, h2, h3⟩ := M_renewF (d := d) (a := a) (b := b) (v := v) hw
  exact ⟨σ', h1, h2, h3.lo⟩
set_option maxHeartbeats 2000000 in
theorem m_placeOf {d n j : Nat} {σ : mx_S} {q : mx_R} {O : Nat → Nat} (hn : n ≤ 6) (hj : j < n) (hO : ∀ p, p < n → σ.1 90 p = nI (O p)) (ok : okO n O) : mx_call (d + 1) m_X7_placeOf [.ref 88, .ref 90, .int (nI j)] σ q ↔ q = (some (.int (nI (plc O j n))), σ) := by
  have lp : ∀ m k, k + m = n → plc O j k = k → (mx_run d m_X7_placeOf 2 [some (.ref 88), some (.ref 90), some (.int (nI j)), some (.int (nI k))] [] σ q ↔ q = (some (.int (nI (plc O j n))), σ)) := by
    intro m
    induction m with
    | zero =>
      intro k hk hp
      have := plc_ok ok hj
      rw [show k = n by omega] at hp
      omega
    | succ m ih =>
      intro k hk hp
      have hok := ok.1 k (by omega)
      rw [E_X7_placeOf_2]
      simp (disch := omega) only [true_and, and_true, and_self, exists_eq_left, Option.toList_some, Option.toList_none, List.cons_append, List.nil_append, List.append_nil, i2_i, i2_r, i2_n, nz0, nz1, true_or, or_true, Nat.reduceAdd, Nat.le_refl, Nat.reduceLT, Nat.reduceLeDiff, ↓E_X7_placeOf_0, ↓E_X7_placeOf_1, ↓E_X7_placeOf_3, ↓E_X7_placeOf_4, ↓E_X7_placeOf_5, ↓E_X7_placeOf_6, ↓E_X7_placeOf_9, ↓E_X7_placeOf_12, ↓E_X7_placeOf_15, ↓E_X7_placeOf_16, kd_8, vin, clN, ln_6, hO, eqN, nI_1]
      by_cases e : O k = j
      · have hst : ∀ t, k < t → plc O j t = k := by
          intro t ht
          induction t with
          | zero => omega
          | succ t iht =>
            unfold plc
            by_cases hkt : k < t
            · rw [iht hkt, if_pos hkt]
            · have : t = k := by omega
              subst this
              rw [hp, if_neg (by omega), if_pos e]
        rw [if_pos e, hst n (by omega)]
      · rw [if_neg e, ih (k + 1) (by omega)]
        unfold plc
        rw [hp, if_neg (by omega), if_neg e]
  simp only [C_X7_placeOf, true_and, and_true, and_self, exists_eq_left, Option.toList_some, Option.toList_none, List.cons_append, List.nil_append, List.append_nil, i2_i, i2_r, i2_n, nz0, nz1, true_or, or_true, Nat.reduceAdd, Nat.le_refl, Nat.reduceLT, Nat.reduceLeDiff, ↓E_X7_placeOf_0, ↓E_X7_placeOf_1, ↓E_X7_placeOf_3, ↓E_X7_placeOf_4, ↓E_X7_placeOf_5, ↓E_X7_placeOf_6, ↓E_X7_placeOf_9, ↓E_X7_placeOf_12, ↓E_X7_placeOf_15, ↓E_X7_placeOf_16]
  exact lp n 0 (by omega) rfl
theorem ibI_6or {b : Int32} (h : ibI b 7 = true) : b = 6 ∨ ibI b 6 = true := by
  obtain ⟨h1, h2, h3⟩ := ibI_of h
  by_cases e : ixI b = 6
  · rw [e] at h1; exact Or.inl h1
  · refine Or.inr ?_
    rw [h1, ibI_nI h3]
    simp
    omega
theorem ibI_mono {b : Int32} {m n : Nat} (h : m ≤ n) (hb : ibI b n = false) : ibI b m = false := by
  cases e : ibI b m with
  | false => rfl
  | true =>
    obtain ⟨h1, h2, h3⟩ := ibI_of e
    rw [h1, ibI_nI h3] at hb
    simp at hb
    omega
set_option maxHeartbeats 2000000 in
theorem M_of {d : Nat} {σ : mx_S} {w : Vw} {a b : Int32} (hw : vwM w σ) : mx_call (d + 3) m_X7_of [.ref 88, .int a, .int b] σ (some (.int (F_of w a b)), σ) := by
  obtain ⟨S1, S2, S3, S4, S5⟩ := vwM_now hw
  have H1 := hw.1
  have hn := H1.1.1
  simp (disch := omega) only [C_X7_of, true_and, and_true, and_self, exists_eq_left, Option.toList_some, Option.toList_none, List.cons_append, List.nil_append, List.append_nil, i2_i, i2_r, i2_n, nz0, nz1, true_or, or_true, Nat.reduceAdd, Nat.le_refl, Nat.reduceLT, Nat.reduceLeDiff, ↓E_X7_of_0, ↓E_X7_of_1, ↓E_X7_of_2, ↓E_X7_of_5, ↓E_X7_of_8, ↓E_X7_of_9, ↓E_X7_of_10, ↓E_X7_of_11, ↓E_X7_of_14, ↓E_X7_of_17, ↓E_X7_of_20, ↓E_X7_of_21, ↓E_X7_of_23, ↓E_X7_of_24, ↓E_X7_of_27, ↓E_X7_of_28, ↓E_X7_of_29, ↓E_X7_of_30, ↓E_X7_of_33, ↓E_X7_of_36, ↓E_X7_of_37, ↓E_X7_of_38, ↓E_X7_of_41, ↓E_X7_of_42, ↓E_X7_of_45, m_isJob hn S1, s_in, inL_6, bz_0]
  unfold F_of
  by_cases h0 : ibI a w.1.jn = false
  · simp only [if_pos h0]
  simp only [if_neg h0]
  obtain ⟨ha, ha2, ha3⟩ := ibI_of (eq_true_of_ne_false h0)
  generalize ixI a = j at *
  subst ha
  by_cases h1 : ibI b 7 = false
  · have h2 : ibI b 6 = false := ibI_mono (by omega) h1
    have h3 : ¬ b = 6 := fun z => by rw [z] at h1; exact absurd h1 (by decide)
    simp only [if_pos h1, if_neg h3, if_pos h2]
  simp only [if_neg h1]
  by_cases h3 : b = 6
  · subst h3
    simp (disch := omega) only [true_and, and_true, and_self, exists_eq_left, Option.toList_some, Option.toList_none, List.cons_append, List.nil_append, List.append_nil, i2_i, i2_r, i2_n, nz0, nz1, true_or, or_true, Nat.reduceAdd, Nat.le_refl, Nat.reduceLT, Nat.reduceLeDiff, ↓E_X7_of_0, ↓E_X7_of_1, ↓E_X7_of_2, ↓E_X7_of_5, ↓E_X7_of_8, ↓E_X7_of_9, ↓E_X7_of_10, ↓E_X7_of_11, ↓E_X7_of_14, ↓E_X7_of_17, ↓E_X7_of_20, ↓E_X7_of_21, ↓E_X7_of_22, ↓E_X7_of_23, ↓E_X7_of_24, ↓E_X7_of_27, ↓E_X7_of_28, ↓E_X7_of_29, ↓E_X7_of_30, ↓E_X7_of_33, ↓E_X7_of_36, ↓E_X7_of_37, ↓E_X7_of_38, ↓E_X7_of_41, ↓E_X7_of_42, ↓E_X7_of_45, if_pos (show (5 : Int32) < 6 by decide), if_neg (show ¬ (6 : Int32) ≤ 5 by decide), m_placeOf hn ha2 S5 H1.1.2.2.2.2.1, if_true]
  · have h2 : ¬ ibI b 6 = false := fun z => by
      have := (ibI_6or (eq_true_of_ne_false h1)).resolve_left h3
      rw [this] at z
      cases z
    simp only [if_neg h3, if_neg h2]
    obtain ⟨hb, hb2, hb3⟩ := ibI_of (eq_true_of_ne_false h2)
    generalize ixI b = k at *
    subst hb
    have l5 : ¬ (5 : Int32) < nI k := fun z => absurd ((nI_ltI (a := 5) (b := k) (by omega) (by omega)).mp z) (by omega)
    have g5 : nI k ≤ (5 : Int32) := (nI_leI (a := k) (b := 5) (by omega) (by omega)).mpr (by omega)
    simp (disch := omega) only [true_and, and_true, and_self, exists_eq_left, Option.toList_some, Option.toList_none, List.cons_append, List.nil_append, List.append_nil, i2_i, i2_r, i2_n, nz0, nz1, true_or, or_true, Nat.reduceAdd, Nat.le_refl, Nat.reduceLT, Nat.reduceLeDiff, ↓E_X7_of_0, ↓E_X7_of_1, ↓E_X7_of_2, ↓E_X7_of_5, ↓E_X7_of_8, ↓E_X7_of_9, ↓E_X7_of_10, ↓E_X7_of_11, ↓E_X7_of_14, ↓E_X7_of_17, ↓E_X7_of_20, ↓E_X7_of_21, ↓E_X7_of_22, ↓E_X7_of_23, ↓E_X7_of_24, ↓E_X7_of_27, ↓E_X7_of_28, ↓E_X7_of_29, ↓E_X7_of_30, ↓E_X7_of_33, ↓E_X7_of_36, ↓E_X7_of_37, ↓E_X7_of_38, ↓E_X7_of_41, ↓E_X7_of_42, ↓E_X7_of_45, if_neg l5, if_pos g5, m_get hn S4 ha2 hb2]
set_option maxHeartbeats 2000000 in
theorem M_setF {d : Nat} {σ : mx_S} {w : Vw} {x v : Int32} (hw : vwM w σ) : ∃ σ', mx_call (d + 2) m_X7_set [.ref 88, .int x, .int v] σ (some (.int (F_set w x v).1), σ') ∧ vwM (F_set w x v).2 σ' ∧ nwM σ σ' := by
  obtain ⟨S1, S2, S3, S4, S5⟩ := vwM_now hw
  have H1 := hw.1
  simp (disch := omega) only [C_X7_set, true_and, and_true, and_self, exists_eq_left, Option.toList_some, Option.toList_none, List.cons_append, List.nil_append, List.append_nil, i2_i, i2_r, i2_n, nz0, nz1, true_or, or_true, Nat.reduceAdd, Nat.le_refl, Nat.reduceLT, Nat.reduceLeDiff, ↓E_X7_set_0, ↓E_X7_set_1, ↓E_X7_set_2, ↓E_X7_set_3, ↓E_X7_set_4, ↓E_X7_set_7, ↓E_X7_set_10, ↓E_X7_set_11, ↓E_X7_set_12, ↓E_X7_set_13, ↓E_X7_set_14, ↓E_X7_set_15, ↓E_X7_set_18, ↓E_X7_set_21, ↓E_X7_set_24, ↓E_X7_set_26, ↓E_X7_set_28, ↓E_X7_set_31, ↓E_X7_set_32, ↓E_X7_set_35, ↓E_X7_set_38, ↓E_X7_set_39, ↓E_X7_set_42, ↓E_X7_set_43, ↓E_X7_set_44, ↓E_X7_set_45, ↓E_X7_set_48, ↓E_X7_set_49, ↓E_X7_set_52, ↓E_X7_set_53, ↓E_X7_set_56, ↓E_X7_set_59, ↓E_X7_set_60, ↓E_X7_set_61, ↓E_X7_set_62, ↓E_X7_set_65, ↓E_X7_set_66, ↓E_X7_set_69, ↓E_X7_set_70, ↓E_X7_set_73, ↓E_X7_set_76, ↓E_X7_set_77, s_in, inL_1, inL_2, bz_0]
  unfold F_set
  by_cases h1 : ibI x 2 = false
  · simp only [if_pos h1]
    exact ⟨σ, rfl, hw, nwM.rf⟩
  by_cases h2 : ibI v 3 = false
  · simp only [if_neg h1, if_pos h2]
    exact ⟨σ, rfl, hw, nwM.rf⟩
  simp only [if_neg h1, if_neg h2]
  obtain ⟨hv, hv2, hv3⟩ := ibI_of (eq_true_of_ne_false h2)
  obtain ⟨hx, hx2, hx3⟩ := ibI_of (eq_true_of_ne_false h1)
  have hx01 : x = 0 ∨ x = 1 := by
    rcases (show ixI x = 0 ∨ ixI x = 1 by omega) with e | e
    · rw [e] at hx; exact Or.inl hx
    · rw [e] at hx; exact Or.inr hx
  rcases hx01 with rfl | rfl
  · simp (disch := omega) only [true_and, and_true, and_self, exists_eq_left, Option.toList_some, Option.toList_none, List.cons_append, List.nil_append, List.append_nil, i2_i, i2_r, i2_n, nz0, nz1, true_or, or_true, Nat.reduceAdd, Nat.le_refl, Nat.reduceLT, Nat.reduceLeDiff, ↓E_X7_set_0, ↓E_X7_set_1, ↓E_X7_set_2, ↓E_X7_set_3, ↓E_X7_set_4, ↓E_X7_set_7, ↓E_X7_set_10, ↓E_X7_set_11, ↓E_X7_set_12, ↓E_X7_set_13, ↓E_X7_set_14, ↓E_X7_set_15, ↓E_X7_set_18, ↓E_X7_set_21, ↓E_X7_set_24, ↓E_X7_set_26, ↓E_X7_set_27, ↓E_X7_set_28, ↓E_X7_set_31, ↓E_X7_set_32, ↓E_X7_set_35, ↓E_X7_set_38, ↓E_X7_set_39, ↓E_X7_set_42, ↓E_X7_set_43, ↓E_X7_set_44, ↓E_X7_set_45, ↓E_X7_set_48, ↓E_X7_set_49, ↓E_X7_set_52, ↓E_X7_set_53, ↓E_X7_set_56, ↓E_X7_set_59, ↓E_X7_set_60, ↓E_X7_set_61, ↓E_X7_set_62, ↓E_X7_set_65, ↓E_X7_set_66, ↓E_X7_set_69, ↓E_X7_set_70, ↓E_X7_set_73, ↓E_X7_set_76, ↓E_X7_set_77, if_true, if_neg (show ¬ (0 : Int32) = 1 by decide), S2, uu_col]
    refine ⟨_, rfl, vwM_shp hw (okC_shp H1.1 (by omega) H1.1.2.2.1 H1.1.2.2.2.1 H1.1.2.2.2.2.1) ?_ ?_ ?_ ?_ ?_ ?_ (fun i h1 h2 => by simp (disch := omega) only [mx_u_ne]) rfl, ⟨fun k hk => by simp (disch := omega) only [uu_row, uu_col], fun i h1 h2 h3 => by simp (disch := omega) only [mx_u_ne], rfl⟩⟩
    · simp (disch := omega) only [uu_col]; exact S1
    · simp (disch := omega) only [uu_col, uu_same]; exact hv
    · simp only [uu_same]; exact S3
    · intro j k hj hk; simp (disch := omega) only [uu_row]; exact S4 j k hj hk
    · intro p hp; simp (disch := omega) only [uu_row]; exact S5 p hp
    · intro k hk hk2; simp (disch := omega) only [uu_col]
  · simp (disch := omega) only [true_and, and_true, and_self, exists_eq_left, Option.toList_some, Option.toList_none, List.cons_append, List.nil_append, List.append_nil, i2_i, i2_r, i2_n, nz0, nz1, true_or, or_true, Nat.reduceAdd, Nat.le_refl, Nat.reduceLT, Nat.reduceLeDiff, ↓E_X7_set_0, ↓E_X7_set_1, ↓E_X7_set_2, ↓E_X7_set_3, ↓E_X7_set_4, ↓E_X7_set_7, ↓E_X7_set_10, ↓E_X7_set_11, ↓E_X7_set_12, ↓E_X7_set_13, ↓E_X7_set_14, ↓E_X7_set_15, ↓E_X7_set_18, ↓E_X7_set_21, ↓E_X7_set_24, ↓E_X7_set_26, ↓E_X7_set_27, ↓E_X7_set_28, ↓E_X7_set_31, ↓E_X7_set_32, ↓E_X7_set_35, ↓E_X7_set_38, ↓E_X7_set_39, ↓E_X7_set_42, ↓E_X7_set_43, ↓E_X7_set_44, ↓E_X7_set_45, ↓E_X7_set_48, ↓E_X7_set_49, ↓E_X7_set_52, ↓E_X7_set_53, ↓E_X7_set_56, ↓E_X7_set_59, ↓E_X7_set_60, ↓E_X7_set_61, ↓E_X7_set_62, ↓E_X7_set_65, ↓E_X7_set_66, ↓E_X7_set_69, ↓E_X7_set_70, ↓E_X7_set_73, ↓E_X7_set_76, ↓E_X7_set_77, if_true, if_neg (show ¬ (1 : Int32) = 0 by decide), S2, S3, uu_col]
    refine ⟨_, rfl, vwM_shp hw (okC_shp H1.1 H1.1.2.1 (by omega) H1.1.2.2.2.1 H1.1.2.2.2.2.1) ?_ ?_ ?_ ?_ ?_ ?_ (fun i h1 h2 => by simp (disch := omega) only [mx_u_ne]) rfl, ⟨fun k hk => by simp (disch := omega) only [uu_row, uu_col], fun i h1 h2 h3 => by simp (disch := omega) only [mx_u_ne], rfl⟩⟩
    · simp (disch := omega) only [uu_col]; exact S1
    · simp (disch := omega) only [uu_col, uu_same]
    · simp only [uu_same]; exact hv
    · intro j k hj hk; simp (disch := omega) only [uu_row]; exact S4 j k hj hk
    · intro p hp; simp (disch := omega) only [uu_row]; exact S5 p hp
    · intro k hk hk2; simp (disch := omega) only [uu_col]
theorem M_set {d : Nat} {σ : mx_S} {w : Vw} {x v : Int32} (hw : vwM w σ) : ∃ σ', mx_call (d + 2) m_X7_set [.ref 88, .int x, .int v] σ (some (.int (F_set w x v).1), σ') ∧ vwM (F_set w x v).2 σ' ∧ loS σ σ' := by
  obtain ⟨σ', h1, h2, h3⟩ := M_setF (d := d) (x := x) (v := v) hw
  exact ⟨σ', h1, h2, h3.lo⟩
set_option maxHeartbeats 2000000 in
theorem M_feed {d : Nat} {σ : mx_S} {w : Vw} {a : Int32} (hw : vwM w σ) : ∃ σ', mx_call (d + 2) m_X7_feed [.ref 88, .int a] σ (some (.int (F_feed w a).1), σ') ∧ vwM (F_feed w a).2 σ' ∧ loS σ σ' := by
  obtain ⟨H1, H2, H3, H4, H5⟩ := id hw
  have hl := H1.2.2.1
  have e9 : (nI w.2.2.1.length = (100 : Int32)) = (w.2.2.1.length = 100) := eqN (b := 100) (by omega) (by omega)
  simp (disch := omega) only [C_X7_feed, true_and, and_true, and_self, exists_eq_left, Option.toList_some, Option.toList_none, List.cons_append, List.nil_append, List.append_nil, i2_i, i2_r, i2_n, nz0, nz1, true_or, or_true, Nat.reduceAdd, Nat.le_refl, Nat.reduceLT, Nat.reduceLeDiff, ↓E_X7_feed_0, ↓E_X7_feed_1, ↓E_X7_feed_2, ↓E_X7_feed_3, ↓E_X7_feed_6, ↓E_X7_feed_9, ↓E_X7_feed_12, ↓E_X7_feed_14, ↓E_X7_feed_15, ↓E_X7_feed_16, ↓E_X7_feed_19, ↓E_X7_feed_21, ↓E_X7_feed_24, ↓E_X7_feed_26, ↓E_X7_feed_28, ↓E_X7_feed_31, ↓E_X7_feed_32, ↓E_X7_feed_35, ↓E_X7_feed_36, ↓E_X7_feed_37, ↓E_X7_feed_38, ↓E_X7_feed_39, ↓E_X7_feed_42, ↓E_X7_feed_43, ↓E_X7_feed_44, ↓E_X7_feed_47, ↓E_X7_feed_48, ↓E_X7_feed_51, s_in, inL_127, bz_0, H4.1, e9]
  unfold F_feed
  by_cases e0 : ibI a 128 = false
  · simp only [if_pos e0]
    exact ⟨σ, rfl, hw, loS.rf⟩
  obtain ⟨ha, ha2, ha3⟩ := ibI_of (eq_true_of_ne_false e0)
  simp only [if_neg e0]
  generalize ixI a = k at *
  subst ha
  by_cases e1 : w.2.2.1.length = 100
  · simp only [if_pos e1]
    exact ⟨σ, rfl, hw, loS.rf⟩
  · simp (disch := omega) only [if_neg e1, true_and, and_true, and_self, exists_eq_left, Option.toList_some, Option.toList_none, List.cons_append, List.nil_append, List.append_nil, i2_i, i2_r, i2_n, nz0, nz1, true_or, or_true, Nat.reduceAdd, Nat.le_refl, Nat.reduceLT, Nat.reduceLeDiff, ↓E_X7_feed_0, ↓E_X7_feed_1, ↓E_X7_feed_2, ↓E_X7_feed_3, ↓E_X7_feed_6, ↓E_X7_feed_9, ↓E_X7_feed_12, ↓E_X7_feed_14, ↓E_X7_feed_15, ↓E_X7_feed_16, ↓E_X7_feed_19, ↓E_X7_feed_21, ↓E_X7_feed_24, ↓E_X7_feed_26, ↓E_X7_feed_27, ↓E_X7_feed_28, ↓E_X7_feed_31, ↓E_X7_feed_32, ↓E_X7_feed_35, ↓E_X7_feed_36, ↓E_X7_feed_37, ↓E_X7_feed_38, ↓E_X7_feed_39, ↓E_X7_feed_42, ↓E_X7_feed_43, ↓E_X7_feed_44, ↓E_X7_feed_47, ↓E_X7_feed_48, ↓E_X7_feed_51, kd_8, ln_100, H4.1, vin, clN, uu_row, uu_same, nI_1]
    refine ⟨_, rfl, vwM_tx hw ⟨by rw [List.length_append, List.length_singleton]; omega, fun x hx => ?_⟩ ⟨?_, fun i hi => ?_⟩ (fun k h1 h2 => by simp (disch := omega) only [uu_row, uu_col]) (fun i h1 h2 h3 h4 => by simp (disch := omega) only [mx_u_ne]) rfl, fun i hi => ⟨by simp (disch := omega) only [mx_u_ne], rfl⟩⟩
    · rcases List.mem_append.mp hx with h1 | h1
      · exact hl.2 x h1
      · rw [List.mem_singleton.mp h1]; exact ha2
    · simp only [uu_same, List.length_append, List.length_cons, List.length_nil]
    · rw [List.length_append, List.length_singleton] at hi
      by_cases e : i = w.2.2.1.length
      · subst e
        simp (disch := omega) only [uu_row, uu_same, getD_end]
      · simp (disch := omega) only [uu_row, uu_col, getD_app]
        exact H4.2 i (by omega)
set_option maxHeartbeats 1000000 in
theorem M_at {d : Nat} {σ : mx_S} {w : Vw} {x : Int32} (hw : vwM w σ) : mx_call (d + 3) m_X7_at [.ref 88, .int x] σ (some (.int (F_at w x)), σ) := by
  obtain ⟨S1, S2, S3, S4, S5⟩ := vwM_now hw
  have hn := hw.1.1.1
  simp (disch := omega) only [C_X7_at, true_and, and_true, and_self, exists_eq_left, Option.toList_some, Option.toList_none, List.cons_append, List.nil_append, List.append_nil, i2_i, i2_r, i2_n, nz0, nz1, true_or, or_true, Nat.reduceAdd, Nat.le_refl, Nat.reduceLT, Nat.reduceLeDiff, ↓E_X7_at_0, ↓E_X7_at_1, ↓E_X7_at_2, ↓E_X7_at_5, ↓E_X7_at_9, ↓E_X7_at_12, ↓E_X7_at_13, ↓E_X7_at_14, ↓E_X7_at_17, ↓E_X7_at_18, m_isJob hn S1, bz_0]
  unfold F_at
  by_cases h1 : ibI x w.1.jn = false
  · simp only [if_pos h1]
  · simp only [if_neg h1]
    obtain ⟨hv, hv2, hv3⟩ := ibI_of (eq_true_of_ne_false h1)
    generalize ixI x = k at *
    subst hv
    simp (disch := omega) only [true_and, and_true, and_self, exists_eq_left, Option.toList_some, Option.toList_none, List.cons_append, List.nil_append, List.append_nil, i2_i, i2_r, i2_n, nz0, nz1, true_or, or_true, Nat.reduceAdd, Nat.le_refl, Nat.reduceLT, Nat.reduceLeDiff, ↓E_X7_at_0, ↓E_X7_at_1, ↓E_X7_at_2, ↓E_X7_at_5, ↓E_X7_at_8, ↓E_X7_at_9, ↓E_X7_at_12, ↓E_X7_at_13, ↓E_X7_at_14, ↓E_X7_at_17, ↓E_X7_at_18, vin, clN, kd_8, ln_6, S5 k hv2]
set_option maxHeartbeats 1000000 in
theorem M_count {d : Nat} {σ : mx_S} {w : Vw} {x : Int32} (hw : vwM w σ) : mx_call (d + 1) m_X7_count [.ref 88, .int x] σ (some (.int (F_count w x)), σ) := by
  obtain ⟨H1, ⟨⟨S1, -⟩, R1, R2, R3⟩, H3, H4, H5⟩ := id hw
  simp (disch := omega) only [C_X7_count, true_and, and_true, and_self, exists_eq_left, Option.toList_some, Option.toList_none, List.cons_append, List.nil_append, List.append_nil, i2_i, i2_r, i2_n, nz0, nz1, true_or, or_true, Nat.reduceAdd, Nat.le_refl, Nat.reduceLT, Nat.reduceLeDiff, ↓E_X7_count_0, ↓E_X7_count_1, ↓E_X7_count_36, ↓E_X7_count_37, ↓E_X7_count_40, ↓E_X7_count_41, ↓E_X7_count_42, ↓E_X7_count_45, ↓E_X7_count_46, ↓E_X7_count_47, ↓E_X7_count_50, ↓E_X7_count_51, ↓E_X7_count_52, ↓E_X7_count_55, ↓E_X7_count_56, ↓E_X7_count_57, ↓E_X7_count_60, ↓E_X7_count_61, ↓E_X7_count_63, S1, R1.1, R2.1, R3.1, H4.1]
  unfold F_count
  by_cases h0 : x = 0
  · simp only [if_pos h0]
  · by_cases h1 : x = 1
    · simp only [if_neg h0, if_pos h1]
    · by_cases h2 : x = 2
      · simp only [if_neg h0, if_neg h1, if_pos h2]
      · by_cases h3 : x = 3
        · simp only [if_neg h0, if_neg h1, if_neg h2, if_pos h3]
        · by_cases h4 : x = 4
          · simp only [if_neg h0, if_neg h1, if_neg h2, if_neg h3, if_pos h4]
          · simp only [if_neg h0, if_neg h1, if_neg h2, if_neg h3, if_neg h4]
