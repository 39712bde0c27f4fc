/-! ===== the class: copies, the image ===== -/
theorem cp6 {a b : Nat} (hb : (3 ≤ b ∧ b ≤ 9) ∨ (21 ≤ b ∧ b ≤ 27) ∨ (39 ≤ b ∧ b ≤ 46) ∨ b = 50 ∨ b = 51) (ha : (3 ≤ a ∧ a ≤ 9) ∨ (21 ≤ a ∧ a ≤ 27) ∨ (39 ≤ a ∧ a ≤ 46) ∨ a = 50 ∨ a = 51) : mx_cpOK 0 0 6 b a 8 = True := by
  have h1 : mx_ln b = 6 := ln_6 (by omega)
  have h2 : mx_ln a = 6 := ln_6 (by omega)
  have h3 : mx_kd b = 8 := kd_8 (by omega)
  have h4 : mx_kd a = 8 := kd_8 (by omega)
  refine eq_true ?_
  unfold mx_cpOK
  rw [h1, h2, h3, h4]
  decide
theorem cpy6 {α : Type} {f g : Nat → α} {k : Nat} (h : k < 6) : va_cpy f g 0 0 6 k = f k := by
  unfold va_cpy
  rw [if_pos (by omega)]
  congr 1
  omega
set_option maxHeartbeats 4000000 in
theorem l_copyFrom {d : Nat} {h g : Nat} (hs : h = 1 ∨ h = 19 ∨ h = 37) (gs : g = 1 ∨ g = 19 ∨ g = 37) (hg : h ≠ g) (σ0 : mx_S) : ∀ m t (σ : mx_S), t + m = 6 → (∀ j k, j < t → k < 6 → σ.1 (h + 2 + j) k = σ0.1 (g + 2 + j) k) → (∀ i, (i < h + 2 ∨ h + 2 + t ≤ i) → σ.1 i = σ0.1 i) → σ.2 = σ0.2 →
    ∃ σ', mx_run d m_X3_copyFrom 41 [some (.ref h), some (.ref g), some (.int (nI t))] [] σ (none, σ') ∧ (∀ j k, j < 6 → k < 6 → σ'.1 (h + 2 + j) k = σ0.1 (g + 2 + j) k) ∧ (∀ i, (i < h + 2 ∨ h + 8 ≤ i) → σ'.1 i = σ0.1 i) ∧ σ'.2 = σ0.2 := by
  intro m
  induction m with
  | zero =>
    intro t σ ht h1 h2 h3
    have e : t = 6 := by omega
    subst e
    simp only [E_X3_copyFrom_41]
    simp (disch := omega) only [true_and, and_true, and_self, exists_eq_left, Option.toList_some, Option.toList_none, List.cons_append, List.nil_append, List.append_nil, i2_i, i2_r, i2_n, nz0, nz1, true_or, or_true, Nat.reduceAdd, Nat.le_refl, Nat.reduceLT, Nat.reduceLeDiff, ↓E_X3_copyFrom_0, ↓E_X3_copyFrom_1, ↓E_X3_copyFrom_2, ↓E_X3_copyFrom_5, ↓E_X3_copyFrom_8, ↓E_X3_copyFrom_9, ↓E_X3_copyFrom_10, ↓E_X3_copyFrom_13, ↓E_X3_copyFrom_16, ↓E_X3_copyFrom_17, ↓E_X3_copyFrom_18, ↓E_X3_copyFrom_21, ↓E_X3_copyFrom_24, ↓E_X3_copyFrom_25, ↓E_X3_copyFrom_28, ↓E_X3_copyFrom_29, ↓E_X3_copyFrom_30, ↓E_X3_copyFrom_33, ↓E_X3_copyFrom_34, ↓E_X3_copyFrom_36, ↓E_X3_copyFrom_39, ↓E_X3_copyFrom_40, ↓E_X3_copyFrom_42, ↓E_X3_copyFrom_44, ↓E_X3_copyFrom_47, ↓E_X3_copyFrom_48, ↓E_X3_copyFrom_51, ↓E_X3_copyFrom_52, ↓E_X3_copyFrom_53, ↓E_X3_copyFrom_54, ↓E_X3_copyFrom_55, ↓E_X3_copyFrom_58, ↓E_X3_copyFrom_59, ↓E_X3_copyFrom_60, ↓E_X3_copyFrom_61, ↓E_X3_copyFrom_63, ↓E_X3_copyFrom_66, ↓E_X3_copyFrom_69, ↓E_X3_copyFrom_72, if_pos (show (6 : Int32) ≤ nI 6 by decide)]
    exact ⟨σ, rfl, h1, fun i hi => h2 i (by omega), h3⟩
  | succ m ih =>
    intro t σ ht h1 h2 h3
    simp only [E_X3_copyFrom_41]
    have hlt : ¬ (6 : Int32) ≤ nI t := fun z => absurd ((nI_leI (a := 6) (b := t) (by omega) (by omega)).mp z) (by omega)
    simp (disch := first | omega | (refine kd_8 ?_; omega)) only [true_and, and_true, and_self, exists_eq_left, Option.toList_some, Option.toList_none, List.cons_append, List.nil_append, List.append_nil, i2_i, i2_r, i2_n, nz0, nz1, true_or, or_true, Nat.reduceAdd, Nat.le_refl, Nat.reduceLT, Nat.reduceLeDiff, ↓E_X3_copyFrom_0, ↓E_X3_copyFrom_1, ↓E_X3_copyFrom_2, ↓E_X3_copyFrom_5, ↓E_X3_copyFrom_8, ↓E_X3_copyFrom_9, ↓E_X3_copyFrom_10, ↓E_X3_copyFrom_13, ↓E_X3_copyFrom_16, ↓E_X3_copyFrom_17, ↓E_X3_copyFrom_18, ↓E_X3_copyFrom_21, ↓E_X3_copyFrom_24, ↓E_X3_copyFrom_25, ↓E_X3_copyFrom_28, ↓E_X3_copyFrom_29, ↓E_X3_copyFrom_30, ↓E_X3_copyFrom_33, ↓E_X3_copyFrom_34, ↓E_X3_copyFrom_36, ↓E_X3_copyFrom_39, ↓E_X3_copyFrom_40, ↓E_X3_copyFrom_42, ↓E_X3_copyFrom_44, ↓E_X3_copyFrom_47, ↓E_X3_copyFrom_48, ↓E_X3_copyFrom_51, ↓E_X3_copyFrom_52, ↓E_X3_copyFrom_53, ↓E_X3_copyFrom_54, ↓E_X3_copyFrom_55, ↓E_X3_copyFrom_58, ↓E_X3_copyFrom_59, ↓E_X3_copyFrom_60, ↓E_X3_copyFrom_61, ↓E_X3_copyFrom_63, ↓E_X3_copyFrom_66, ↓E_X3_copyFrom_69, ↓E_X3_copyFrom_72, if_neg hlt, kd_3, kd_12, ln_6, vin, clN, ptrG, cp6, cl_0, cl_6, nI_1]
    refine ih (t + 1) _ (by omega) ?_ ?_ ?_
    · intro j k hj hk
      by_cases e : j = t
      · subst e
        rw [show h + 2 + j = h + 1 + 1 + j by omega, show g + 2 + j = g + 1 + 1 + j by omega]
        simp only [cc_same, cpy6 hk]
        rw [h2 (g + 1 + 1 + j) (by omega)]
      · simp (disch := omega) only [cc_row]
        exact h1 j k (by omega) hk
    · intro i hi
      show mx_c _ _ _ i = _
      rw [mx_c_ne (by omega)]
      exact h2 i (by omega)
    · exact h3
set_option maxHeartbeats 4000000 in
theorem s_copyFrom {d : Nat} {σ : mx_S} {h g : Nat} (hs : h = 1 ∨ h = 19 ∨ h = 37) (gs : g = 1 ∨ g = 19 ∨ g = 37) (hg : h ≠ g) : ∃ σ', mx_call (d + 1) m_X3_copyFrom [.ref h, .ref g] σ (none, σ') ∧ σ'.1 h 0 = σ.1 g 0 ∧ σ'.1 h 1 = σ.1 g 1 ∧ σ'.1 h 2 = σ.1 g 2 ∧ (∀ j k, j < 6 → k < 6 → σ'.1 (h + 2 + j) k = σ.1 (g + 2 + j) k) ∧ (∀ p, p < 6 → σ'.1 (h + 8) p = σ.1 (g + 8) p) ∧ (∀ i, (i < h ∨ h + 8 < i) → σ'.1 i = σ.1 i) ∧ σ'.2 = σ.2 := by
  simp (disch := first | omega | (refine kd_8 ?_; omega)) only [C_X3_copyFrom, true_and, and_true, and_self, exists_eq_left, Option.toList_some, Option.toList_none, List.cons_append, List.nil_append, List.append_nil, i2_i, i2_r, i2_n, nz0, nz1, true_or, or_true, Nat.reduceAdd, Nat.le_refl, Nat.reduceLT, Nat.reduceLeDiff, ↓E_X3_copyFrom_0, ↓E_X3_copyFrom_1, ↓E_X3_copyFrom_2, ↓E_X3_copyFrom_5, ↓E_X3_copyFrom_8, ↓E_X3_copyFrom_9, ↓E_X3_copyFrom_10, ↓E_X3_copyFrom_13, ↓E_X3_copyFrom_16, ↓E_X3_copyFrom_17, ↓E_X3_copyFrom_18, ↓E_X3_copyFrom_21, ↓E_X3_copyFrom_24, ↓E_X3_copyFrom_25, ↓E_X3_copyFrom_28, ↓E_X3_copyFrom_29, ↓E_X3_copyFrom_30, ↓E_X3_copyFrom_33, ↓E_X3_copyFrom_34, ↓E_X3_copyFrom_36, ↓E_X3_copyFrom_39, ↓E_X3_copyFrom_40, ↓E_X3_copyFrom_42, ↓E_X3_copyFrom_44, ↓E_X3_copyFrom_47, ↓E_X3_copyFrom_48, ↓E_X3_copyFrom_51, ↓E_X3_copyFrom_52, ↓E_X3_copyFrom_53, ↓E_X3_copyFrom_54, ↓E_X3_copyFrom_55, ↓E_X3_copyFrom_58, ↓E_X3_copyFrom_59, ↓E_X3_copyFrom_60, ↓E_X3_copyFrom_61, ↓E_X3_copyFrom_63, ↓E_X3_copyFrom_66, ↓E_X3_copyFrom_69, ↓E_X3_copyFrom_72, kd_3, uu_row, uu_col, cp6, cl_0, cl_6]
  obtain ⟨σ', h1, h2, h3, h4⟩ := l_copyFrom (d := d) hs gs hg (mx_c (mx_u (mx_u (mx_u σ.1 h 0 (σ.1 g 0)) h 1 (σ.1 g 1)) h 2 (σ.1 g 2)) (h + 8) (va_cpy (mx_u (mx_u (mx_u σ.1 h 0 (σ.1 g 0)) h 1 (σ.1 g 1)) h 2 (σ.1 g 2) (g + 8)) (mx_u (mx_u (mx_u σ.1 h 0 (σ.1 g 0)) h 1 (σ.1 g 1)) h 2 (σ.1 g 2) (h + 8)) 0 0 6), σ.2) 6 0 _ rfl (fun j k hj => by omega) (fun i _ => rfl) rfl
  refine ⟨σ', h1, ?_, ?_, ?_, ?_, ?_, ?_, h4⟩
  · rw [h3 h (by omega)]; simp (disch := omega) only [cc_row, uu_col, uu_same]
  · rw [h3 h (by omega)]; simp (disch := omega) only [cc_row, uu_col, uu_same]
  · rw [h3 h (by omega)]; simp (disch := omega) only [cc_row, uu_col, uu_same]
  · intro j k hj hk
    rw [h2 j k hj hk]; simp (disch := omega) only [cc_row, uu_row]
  · intro p hp
    rw [h3 (h + 8) (by omega)]; simp (disch := omega) only [cc_same, cpy6 hp, uu_row]
  · intro i hi
    rw [h3 i (by omega)]
    show mx_c _ _ _ i = _
    simp (disch := omega) only [mx_c_ne, mx_u_ne]
theorem shpX_copy {n md am : Nat} {V : Nat → Nat → Nat} {O : Nat → Nat} {h g : Nat} {f f' : Nat → Nat → Int32} (hn : n ≤ 6) (H : shpX n md am V O g f) (h0 : f' h 0 = f g 0) (h1 : f' h 1 = f g 1) (h2 : f' h 2 = f g 2) (h3 : ∀ j k, j < 6 → k < 6 → f' (h + 2 + j) k = f (g + 2 + j) k) (h4 : ∀ p, p < 6 → f' (h + 8) p = f (g + 8) p) : shpX n md am V O h f' := by
  obtain ⟨a, b, c, e, g5⟩ := H
  refine ⟨h0.trans a, h1.trans b, h2.trans c, fun j k hj hk => ?_, fun p hp => ?_⟩
  · rw [h3 j k (by omega) hk]; exact e j k hj hk
  · rw [h4 p (by omega)]; exact g5 p hp
theorem cpyn {α : Type} {f g : Nat → α} {n k : Nat} (h : k < n) : va_cpy f g 0 0 n k = f k := by
  unfold va_cpy
  rw [if_pos (by omega)]
  congr 1
  omega
set_option maxHeartbeats 4000000 in
theorem s_rcopy {d : Nat} {σ : mx_S} {h g c : Nat} {l : List (Nat × Nat)} (hs : ((h = 10 ∧ g = 28 ∨ h = 28 ∧ g = 10) ∧ c = 5) ∨ ((h = 13 ∧ g = 31 ∨ h = 31 ∧ g = 13 ∨ h = 16 ∧ g = 34 ∨ h = 34 ∧ g = 16) ∧ c = 8)) (hl : l.length ≤ c) (H : rowX l g σ.1) : ∃ σ', mx_call (d + 1) m_X1_copyFrom [.ref h, .ref g] σ (none, σ') ∧ rowX l h σ'.1 ∧ (∀ i, (i < h ∨ h + 2 < i) → σ'.1 i = σ.1 i) ∧ σ'.2 = σ.2 := by
  have k1 : mx_kd h = 1 := kd_1 (by omega)
  have k2 : mx_kd g = 1 := kd_1 (by omega)
  have k3 : mx_kd (h + 1) = 8 := kd_8 (by omega)
  have k4 : mx_kd (h + 2) = 8 := kd_8 (by omega)
  have k5 : mx_kd (g + 1) = 8 := kd_8 (by omega)
  have k6 : mx_kd (g + 2) = 8 := kd_8 (by omega)
  have hc : c ≤ 8 := by omega
  have hll : mx_ln (h + 1) = c ∧ mx_ln (h + 2) = c ∧ mx_ln (g + 1) = c ∧ mx_ln (g + 2) = c := by
    rcases hs with ⟨⟨rfl, rfl⟩ | ⟨rfl, rfl⟩, rfl⟩ | ⟨⟨rfl, rfl⟩ | ⟨rfl, rfl⟩ | ⟨rfl, rfl⟩ | ⟨rfl, rfl⟩, rfl⟩ <;> exact ⟨rfl, rfl, rfl, rfl⟩
  have e1 : (if nI c < nI l.length then nI c else nI l.length) = nI l.length := if_neg (nI_nlt hl (by omega))
  have c1 : mx_cpOK 0 0 (nI l.length) (g + 1) (h + 1) 8 := by
    unfold mx_cpOK
    rw [hll.1, hll.2.2.1, clN (by omega), cl_0]
    exact ⟨by decide, by decide, nI_pos (by omega), by omega, by omega, k3, k5⟩
  have c2 : mx_cpOK 0 0 (nI l.length) (g + 2) (h + 2) 8 := by
    unfold mx_cpOK
    rw [hll.2.1, hll.2.2.2, clN (by omega), cl_0]
    exact ⟨by decide, by decide, nI_pos (by omega), by omega, by omega, k4, k6⟩
  simp (disch := first | omega | assumption) only [C_X1_copyFrom, true_and, and_true, and_self, exists_eq_left, Option.toList_some, Option.toList_none, List.cons_append, List.nil_append, List.append_nil, i2_i, i2_r, i2_n, nz0, nz1, true_or, or_true, Nat.reduceAdd, Nat.le_refl, Nat.reduceLT, Nat.reduceLeDiff, ↓E_X1_copyFrom_0, ↓E_X1_copyFrom_1, ↓E_X1_copyFrom_2, ↓E_X1_copyFrom_5, ↓E_X1_copyFrom_6, ↓E_X1_copyFrom_9, ↓E_X1_copyFrom_10, ↓E_X1_copyFrom_13, ↓E_X1_copyFrom_16, ↓E_X1_copyFrom_17, ↓E_X1_copyFrom_20, ↓E_X1_copyFrom_21, ↓E_X1_copyFrom_22, ↓E_X1_copyFrom_25, ↓E_X1_copyFrom_26, ↓E_X1_copyFrom_27, ↓E_X1_copyFrom_30, ↓E_X1_copyFrom_33, ↓E_X1_copyFrom_34, ↓E_X1_copyFrom_37, ↓E_X1_copyFrom_38, ↓E_X1_copyFrom_39, ↓E_X1_copyFrom_42, ↓E_X1_copyFrom_43, ↓E_X1_copyFrom_44, ↓E_X1_copyFrom_47, ↓E_X1_copyFrom_50, k1, k2, k3, H.1, hll.1, e1, uu_same, uu_row, c1, c2, clN, cl_0, cc_row]
  refine ⟨_, rfl, ⟨?_, fun i hi => ?_⟩, fun i hi => ?_, rfl⟩
  · simp (disch := omega) only [cc_row, uu_same]
  · simp (disch := omega) only [cc_row, cc_same, uu_row, cpyn hi]
    exact H.2 i hi
  · simp (disch := omega) only [mx_c_ne, mx_u_ne]
set_option maxHeartbeats 4000000 in
theorem X_image {d : Nat} {σ : mx_S} {w : Vw} (hw : vwX w σ) : ∃ σ', mx_call (d + 2) m_X6_image [.ref 0] σ (some (.int (F_image w).1), σ') ∧ vwX (F_image w).2 σ' ∧ hiS σ σ' := by
  obtain ⟨H1, ⟨R0, R1, R2, R3⟩, H3, H4, H5, H6⟩ := id hw
  have hn := H1.1.1
  obtain ⟨σ1, c1, a0, a1, a2, a3, a4, a5, a6⟩ := s_copyFrom (d := d) (σ := σ) (h := 19) (g := 1) (by omega) (by omega) (by omega)
  have I1 := shpX_copy (h := 19) hn R0 a0 a1 a2 a3 a4
  obtain ⟨σ2, c2, b0, b1, b2⟩ := s_rcopy (d := d) (σ := σ1) (h := 28) (g := 10) (c := 5) (l := w.1.se) (by omega) H1.1.2.2.2.2.2.1.1 (rowX_agr (fun i _ _ => a5 i (by omega)) R1)
  obtain ⟨σ3, c3, e0, e1, e2⟩ := s_rcopy (d := d) (σ := σ2) (h := 31) (g := 13) (c := 8) (l := w.1.ev) (by omega) H1.1.2.2.2.2.2.2.1.1 (rowX_agr (fun i _ _ => b1 i (by omega)) (rowX_agr (fun i _ _ => a5 i (by omega)) R2))
  obtain ⟨σ4, c4, f0, f1, f2⟩ := s_rcopy (d := d) (σ := σ3) (h := 34) (g := 16) (c := 8) (l := w.1.bk) (by omega) H1.1.2.2.2.2.2.2.2.1 (rowX_agr (fun i _ _ => e1 i (by omega)) (rowX_agr (fun i _ _ => b1 i (by omega)) (rowX_agr (fun i _ _ => a5 i (by omega)) R3)))
  have ag : ∀ i, (i < 19 ∨ 36 < i) → σ4.1 i = σ.1 i := fun i hi => by rw [f1 i (by omega), e1 i (by omega), b1 i (by omega), a5 i (by omega)]
  have ag2 : σ4.2 = σ.2 := by rw [f2, e2, b2, a6]
  have S1 : σ4.1 1 0 = nI w.1.jn := by rw [ag 1 (by omega)]; exact R0.1
  simp (disch := omega) only [C_X6_image, true_and, and_true, and_self, exists_eq_left, Option.toList_some, Option.toList_none, List.cons_append, List.nil_append, List.append_nil, i2_i, i2_r, i2_n, nz0, nz1, true_or, or_true, Nat.reduceAdd, Nat.le_refl, Nat.reduceLT, Nat.reduceLeDiff, ↓E_X6_image_0, ↓E_X6_image_1, ↓E_X6_image_4, ↓E_X6_image_5, ↓E_X6_image_8, ↓E_X6_image_11, ↓E_X6_image_12, ↓E_X6_image_15, ↓E_X6_image_16, ↓E_X6_image_19, ↓E_X6_image_22, ↓E_X6_image_23, ↓E_X6_image_26, ↓E_X6_image_27, ↓E_X6_image_30, ↓E_X6_image_33, ↓E_X6_image_34, ↓E_X6_image_37, ↓E_X6_image_38, ↓E_X6_image_41, ↓E_X6_image_44, ↓E_X6_image_45, ↓E_X6_image_46, ↓E_X6_image_49, ↓E_X6_image_50, ↓E_X6_image_53, ↓E_X6_image_56, kd_3, kd_1, mx_one c1, mx_one c2, mx_one c3, mx_one c4, uu_row, S1]
  refine ⟨_, rfl, ?_, fun i hi => ⟨(mx_u_ne (by omega)).trans (ag i (by omega)), by rw [ag2]⟩⟩
  have ag3 : ∀ i, i ≠ 0 → (i < 19 ∨ 36 < i) → mx_u σ4.1 0 8 1 i = σ.1 i := fun i h0 hi => (mx_u_ne h0).trans (ag i hi)
  refine ⟨⟨H1.1, fun c hc => by cases hc; exact H1.1, H1.2.2⟩, cfgX_agr hn (fun i _ _ => ag3 i (by omega) (by omega)) (fun i _ _ => ag3 i (by omega) (by omega)) (fun i _ _ => ag3 i (by omega) (by omega)) (fun i _ _ => ag3 i (by omega) (by omega)) ⟨R0, R1, R2, R3⟩, ⟨by simp only [uu_same], ?_, ?_, ?_, ?_⟩, txtX_agr (congrFun (ag3 60 (by omega) (by omega)) 2) (ag3 61 (by omega) (by omega)) H4, tapX_agr (fun i _ _ => ag3 i (by omega) (by omega)) (fun i _ _ => by rw [ag2]) H5, fun j hj => (congrFun (ag3 52 (by omega) (by omega)) j).trans (H6 j hj)⟩
  · exact shpX_agr hn (fun i _ _ => by show mx_u σ4.1 0 8 1 i = _; rw [mx_u_ne (by omega), f1 i (by omega), e1 i (by omega), b1 i (by omega)]) I1
  · exact rowX_agr (fun i _ _ => by show mx_u σ4.1 0 8 1 i = _; rw [mx_u_ne (by omega), f1 i (by omega), e1 i (by omega)]) b0
  · exact rowX_agr (fun i _ _ => by show mx_u σ4.1 0 8 1 i = _; rw [mx_u_ne (by omega), f1 i (by omega)]) e0
  · exact rowX_agr (fun i _ _ => by show mx_u σ4.1 0 8 1 i = _; rw [mx_u_ne (by omega)]) f0
set_option maxHeartbeats 4000000 in
theorem X_undo {d : Nat} {σ : mx_S} {w : Vw} (hw : vwX w σ) : ∃ σ', mx_call (d + 2) m_X6_undo [.ref 0] σ (some (.int (F_undo w).1), σ') ∧ vwX (F_undo w).2 σ' ∧ hiS σ σ' := by
  obtain ⟨H1, ⟨R0, R1, R2, R3⟩, H3, H4, H5, H6⟩ := id hw
  obtain ⟨wc, wi, wt⟩ := w
  cases wi with
  | none =>
    have h0 : σ.1 0 8 = 0 := H3
    simp (disch := omega) only [C_X6_undo, true_and, and_true, and_self, exists_eq_left, Option.toList_some, Option.toList_none, List.cons_append, List.nil_append, List.append_nil, i2_i, i2_r, i2_n, nz0, nz1, true_or, or_true, Nat.reduceAdd, Nat.le_refl, Nat.reduceLT, Nat.reduceLeDiff, ↓E_X6_undo_0, ↓E_X6_undo_1, ↓E_X6_undo_4, ↓E_X6_undo_7, ↓E_X6_undo_9, ↓E_X6_undo_10, ↓E_X6_undo_11, ↓E_X6_undo_14, ↓E_X6_undo_15, ↓E_X6_undo_18, ↓E_X6_undo_21, ↓E_X6_undo_22, ↓E_X6_undo_25, ↓E_X6_undo_26, ↓E_X6_undo_29, ↓E_X6_undo_32, ↓E_X6_undo_33, ↓E_X6_undo_36, ↓E_X6_undo_37, ↓E_X6_undo_40, ↓E_X6_undo_43, ↓E_X6_undo_44, ↓E_X6_undo_47, ↓E_X6_undo_48, ↓E_X6_undo_51, ↓E_X6_undo_54, ↓E_X6_undo_55, ↓E_X6_undo_58, ↓E_X6_undo_61, h0, if_true]
    exact ⟨σ, rfl, hw, hiS.rf⟩
  | some c =>
    obtain ⟨h0, Q0, Q1, Q2, Q3⟩ := H3
    have okc : okC c := H1.2.1 c rfl
    have hn := okc.1
    obtain ⟨σ1, c1, a0, a1, a2, a3, a4, a5, a6⟩ := s_copyFrom (d := d) (σ := σ) (h := 1) (g := 19) (by omega) (by omega) (by omega)
    have I1 := shpX_copy (h := 1) hn Q0 a0 a1 a2 a3 a4
    obtain ⟨σ2, c2, b0, b1, b2⟩ := s_rcopy (d := d) (σ := σ1) (h := 10) (g := 28) (c := 5) (l := c.se) (by omega) okc.2.2.2.2.2.1.1 (rowX_agr (fun i _ _ => a5 i (by omega)) Q1)
    obtain ⟨σ3, c3, e0, e1, e2⟩ := s_rcopy (d := d) (σ := σ2) (h := 13) (g := 31) (c := 8) (l := c.ev) (by omega) okc.2.2.2.2.2.2.1.1 (rowX_agr (fun i _ _ => b1 i (by omega)) (rowX_agr (fun i _ _ => a5 i (by omega)) Q2))
    obtain ⟨σ4, c4, f0, f1, f2⟩ := s_rcopy (d := d) (σ := σ3) (h := 16) (g := 34) (c := 8) (l := c.bk) (by omega) okc.2.2.2.2.2.2.2.1 (rowX_agr (fun i _ _ => e1 i (by omega)) (rowX_agr (fun i _ _ => b1 i (by omega)) (rowX_agr (fun i _ _ => a5 i (by omega)) Q3)))
    have ag : ∀ i, (i = 0 ∨ 18 < i) → σ4.1 i = σ.1 i := fun i hi => by rw [f1 i (by omega), e1 i (by omega), b1 i (by omega), a5 i (by omega)]
    have ag2 : σ4.2 = σ.2 := by rw [f2, e2, b2, a6]
    have J1 : shpX c.jn c.md c.am c.V c.O 1 σ4.1 := shpX_agr hn (fun i _ _ => by rw [f1 i (by omega), e1 i (by omega), b1 i (by omega)]) I1
    have S1 : σ4.1 1 0 = nI c.jn := J1.1
    simp (disch := omega) only [C_X6_undo, true_and, and_true, and_self, exists_eq_left, Option.toList_some, Option.toList_none, List.cons_append, List.nil_append, List.append_nil, i2_i, i2_r, i2_n, nz0, nz1, true_or, or_true, Nat.reduceAdd, Nat.le_refl, Nat.reduceLT, Nat.reduceLeDiff, ↓E_X6_undo_0, ↓E_X6_undo_1, ↓E_X6_undo_4, ↓E_X6_undo_7, ↓E_X6_undo_9, ↓E_X6_undo_10, ↓E_X6_undo_11, ↓E_X6_undo_14, ↓E_X6_undo_15, ↓E_X6_undo_18, ↓E_X6_undo_21, ↓E_X6_undo_22, ↓E_X6_undo_25, ↓E_X6_undo_26, ↓E_X6_undo_29, ↓E_X6_undo_32, ↓E_X6_undo_33, ↓E_X6_undo_36, ↓E_X6_undo_37, ↓E_X6_undo_40, ↓E_X6_undo_43, ↓E_X6_undo_44, ↓E_X6_undo_47, ↓E_X6_undo_48, ↓E_X6_undo_51, ↓E_X6_undo_54, ↓E_X6_undo_55, ↓E_X6_undo_58, ↓E_X6_undo_61, h0, if_neg (show ¬ (1 : Int32) = 0 by decide), kd_3, kd_1, mx_one c1, mx_one c2, mx_one c3, mx_one c4, S1]
    refine ⟨σ4, rfl, ⟨⟨okc, fun z hz => by cases hz; exact okc, H1.2.2⟩, ⟨J1, ?_, ?_, f0⟩, ⟨by rw [ag 0 (by omega)]; exact h0, ?_⟩, txtX_agr (by rw [ag 60 (by omega)]) (ag 61 (by omega)) H4, tapX_agr (fun i _ _ => ag i (by omega)) (fun i _ _ => by rw [ag2]) H5, fun j hj => by rw [ag 52 (by omega)]; exact H6 j hj⟩, fun i hi => ⟨ag i (by omega), by rw [ag2]⟩⟩
    · exact rowX_agr (fun i _ _ => by rw [f1 i (by omega), e1 i (by omega)]) b0
    · exact rowX_agr (fun i _ _ => f1 i (by omega)) e0
    · exact cfgX_agr hn (fun i _ _ => ag i (by omega)) (fun i _ _ => ag i (by omega)) (fun i _ _ => ag i (by omega)) (fun i _ _ => ag i (by omega)) ⟨Q0, Q1, Q2, Q3⟩
