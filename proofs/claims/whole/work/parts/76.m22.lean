/-! ===== the reference: behind all events, judging ===== -/
theorem min30b {b : Nat} (hb : b < 2147483648) : (if nI b < (30 : Int32) then nI b else 30) = nI (min b 30) := by
  have := nI_min (a := 30) (b := b) (by omega) hb
  rw [Nat.min_comm]
  exact this
theorem hR_u {n j k a : Nat} {V : Nat → Nat → Nat} {f : Nat → Nat → Int32} (hn : n ≤ 6) (hj : j < n) (hk : k < 6) (hR : ∀ j k, j < n → k < 6 → f 89 (6 * j + k) = nI (V j k)) : ∀ i l, i < n → l < 6 → mx_u f 89 (6 * j + k) (nI a) 89 (6 * i + l) = nI (upV1 V j k a i l) := by
  intro i l hi hl
  unfold upV1
  by_cases e : i = j ∧ l = k
  · obtain ⟨rfl, rfl⟩ := e
    rw [if_pos ⟨rfl, rfl⟩, uu_same]
  · rw [if_neg e, uu_col (by omega)]
    exact hR i l hi hl
def frE (σ0 σ : mx_S) : Prop := (∀ i, (i < 88 ∨ (90 ≤ i ∧ i ≤ 98) ∨ (104 ≤ i ∧ i ≤ 112)) → σ.1 i = σ0.1 i) ∧ (∀ k, k < 18 → k ≠ 1 → σ.1 88 k = σ0.1 88 k) ∧ (∀ i, i ≤ 112 → σ.2 i = σ0.2 i) ∧ (∀ i, 36 ≤ i → σ.1 89 i = σ0.1 89 i) ∧ ∀ i, i < 36 → σ.1 103 i = σ0.1 89 i
theorem frE.u {j : Nat} {x : Int32} {σ0 σ : mx_S} (h : frE σ0 σ) (hj : j < 36) : frE σ0 (mx_u σ.1 89 j x, σ.2) := by
  refine ⟨fun i hi => ?_, fun k hk hk2 => ?_, h.2.2.1, fun i hi => ?_, fun i hi => ?_⟩
  · show mx_u _ 89 _ _ i = _
    rw [mx_u_ne (by omega)]; exact h.1 i hi
  · show mx_u σ.1 89 j x 88 k = _
    rw [uu_row (by omega)]; exact h.2.1 k hk hk2
  · show mx_u σ.1 89 j x 89 i = _
    rw [uu_col (by omega)]; exact h.2.2.2.1 i hi
  · show mx_u σ.1 89 j x 103 i = _
    rw [uu_row (by omega)]; exact h.2.2.2.2 i hi
theorem frE.m {x : Int32} {σ0 σ : mx_S} (h : frE σ0 σ) : frE σ0 (mx_u σ.1 88 1 x, σ.2) := by
  refine ⟨fun i hi => ?_, fun k hk hk2 => ?_, h.2.2.1, fun i hi => ?_, fun i hi => ?_⟩
  · show mx_u _ 88 _ _ i = _
    rw [mx_u_ne (by omega)]; exact h.1 i hi
  · show mx_u σ.1 88 1 x 88 k = _
    rw [uu_col (by omega)]; exact h.2.1 k hk hk2
  · show mx_u σ.1 88 1 x 89 i = _
    rw [uu_row (by omega)]; exact h.2.2.2.1 i hi
  · show mx_u σ.1 88 1 x 103 i = _
    rw [uu_row (by omega)]; exact h.2.2.2.2 i hi
set_option maxHeartbeats 4000000 in
theorem m_happens {d n x j : Nat} {σ0 σ : mx_S} {s : Nat × (Nat → Nat → Nat)} (hn : n ≤ 6) (hV : okV n s.2) (hx : x ≤ 3) (hj : x ≠ 2 → j < n) (fr : frE σ0 σ) (h1 : σ.1 88 1 = nI s.1) (hR : ∀ j k, j < n → k < 6 → σ.1 89 (6 * j + k) = nI (s.2 j k)) : ∃ σ', (∀ q, mx_call (d + 2) m_X7_happens [.ref 88, .int (nI x), .int (nI j)] σ q ↔ q = (none, σ')) ∧ frE σ0 σ' ∧ σ'.1 88 1 = nI (evS s (x, j)).1 ∧ ∀ i k, i < n → k < 6 → σ'.1 89 (6 * i + k) = nI ((evS s (x, j)).2 i k) := by
  unfold evS
  by_cases e2 : x = 2
  · subst e2
    simp only [if_true]
    refine ⟨(mx_u σ.1 88 1 (nI j), σ.2), fun q => ?_, fr.m, ?_, fun i k hi hk => ?_⟩
    · simp (disch := omega) only [C_X7_happens, true_and, and_true, and_self, exists_eq_left, Option.toList_some, Option.toList_none, List.cons_append, List.nil_append, List.append_nil, i2_i, i2_r, i2_n, nz0, nz1, true_or, or_true, Nat.reduceAdd, Nat.le_refl, Nat.reduceLT, Nat.reduceLeDiff, ↓E_X7_happens_0, ↓E_X7_happens_1, ↓E_X7_happens_2, ↓E_X7_happens_5, ↓E_X7_happens_6, ↓E_X7_happens_7, ↓E_X7_happens_10, ↓E_X7_happens_14, ↓E_X7_happens_15, ↓E_X7_happens_18, ↓E_X7_happens_19, ↓E_X7_happens_22, ↓E_X7_happens_24, ↓E_X7_happens_25, ↓E_X7_happens_26, ↓E_X7_happens_27, ↓E_X7_happens_28, ↓E_X7_happens_29, ↓E_X7_happens_30, ↓E_X7_happens_33, ↓E_X7_happens_34, ↓E_X7_happens_37, ↓E_X7_happens_38, ↓E_X7_happens_41, ↓E_X7_happens_42, ↓E_X7_happens_43, ↓E_X7_happens_44, ↓E_X7_happens_47, ↓E_X7_happens_49, ↓E_X7_happens_50, ↓E_X7_happens_51, ↓E_X7_happens_52, ↓E_X7_happens_53, ↓E_X7_happens_55, ↓E_X7_happens_56, ↓E_X7_happens_57, ↓E_X7_happens_58, ↓E_X7_happens_61, ↓E_X7_happens_62, ↓E_X7_happens_63, ↓E_X7_happens_66, ↓E_X7_happens_67, if_pos (show nI 2 = (2 : Int32) by decide)]
    · simp only [uu_same]
    · simp (disch := omega) only [uu_row]; exact hR i k hi hk
  · have hjn := hj e2
    have n2 : ¬ nI x = (2 : Int32) := fun z => e2 ((nI_eq (a := x) (b := 2) (by omega) (by omega)).mp z)
    have v0 := hV j 0 hjn (by omega)
    have v2 := hV j 2 hjn (by omega)
    have r0 : σ.1 89 (6 * j) = nI (s.2 j 0) := hR j 0 hjn (by omega)
    have r2 := hR j 2 hjn (by omega)
    simp only [if_neg e2]
    by_cases e0 : x = 0
    · subst e0
      simp only [if_true]
      refine ⟨(mx_u σ.1 89 (6 * j) (nI (min (s.2 j 0 + 1) 30)), σ.2), fun q => ?_, fr.u (by omega), ?_, hR_u (k := 0) hn hjn (by omega) hR⟩
      · simp (disch := omega) only [C_X7_happens, true_and, and_true, and_self, exists_eq_left, Option.toList_some, Option.toList_none, List.cons_append, List.nil_append, List.append_nil, i2_i, i2_r, i2_n, nz0, nz1, true_or, or_true, Nat.reduceAdd, Nat.le_refl, Nat.reduceLT, Nat.reduceLeDiff, ↓E_X7_happens_0, ↓E_X7_happens_1, ↓E_X7_happens_2, ↓E_X7_happens_6, ↓E_X7_happens_7, ↓E_X7_happens_10, ↓E_X7_happens_13, ↓E_X7_happens_14, ↓E_X7_happens_15, ↓E_X7_happens_19, ↓E_X7_happens_22, ↓E_X7_happens_24, ↓E_X7_happens_25, ↓E_X7_happens_26, ↓E_X7_happens_27, ↓E_X7_happens_28, ↓E_X7_happens_29, ↓E_X7_happens_30, ↓E_X7_happens_33, ↓E_X7_happens_34, ↓E_X7_happens_37, ↓E_X7_happens_38, ↓E_X7_happens_41, ↓E_X7_happens_42, ↓E_X7_happens_43, ↓E_X7_happens_44, ↓E_X7_happens_47, ↓E_X7_happens_49, ↓E_X7_happens_50, ↓E_X7_happens_51, ↓E_X7_happens_52, ↓E_X7_happens_53, ↓E_X7_happens_55, ↓E_X7_happens_56, ↓E_X7_happens_57, ↓E_X7_happens_58, ↓E_X7_happens_61, ↓E_X7_happens_62, ↓E_X7_happens_63, ↓E_X7_happens_66, ↓E_X7_happens_67, if_neg n2, if_neg (show ¬ nI 0 = (3 : Int32) by decide), if_pos (show nI 0 = (0 : Int32) by decide), kd_8, ln_36, m6, nI_p0, m_g0, r0, nI_1, min30b, vin, clN]
      · simp (disch := omega) only [uu_row]; exact h1
    · have n0 : ¬ nI x = (0 : Int32) := fun z => e0 ((nI_eq (a := x) (b := 0) (by omega) (by omega)).mp z)
      simp only [if_neg e0]
      by_cases e1 : x = 1
      · subst e1
        simp only [if_true]
        refine ⟨(mx_u σ.1 89 (6 * j + 2) (nI (min (s.2 j 2 + 1) 30)), σ.2), fun q => ?_, fr.u (by omega), ?_, hR_u (k := 2) hn hjn (by omega) hR⟩
        · simp (disch := omega) only [C_X7_happens, true_and, and_true, and_self, exists_eq_left, Option.toList_some, Option.toList_none, List.cons_append, List.nil_append, List.append_nil, i2_i, i2_r, i2_n, nz0, nz1, true_or, or_true, Nat.reduceAdd, Nat.le_refl, Nat.reduceLT, Nat.reduceLeDiff, ↓E_X7_happens_0, ↓E_X7_happens_1, ↓E_X7_happens_2, ↓E_X7_happens_6, ↓E_X7_happens_7, ↓E_X7_happens_10, ↓E_X7_happens_13, ↓E_X7_happens_14, ↓E_X7_happens_15, ↓E_X7_happens_19, ↓E_X7_happens_22, ↓E_X7_happens_24, ↓E_X7_happens_25, ↓E_X7_happens_26, ↓E_X7_happens_27, ↓E_X7_happens_28, ↓E_X7_happens_29, ↓E_X7_happens_30, ↓E_X7_happens_33, ↓E_X7_happens_34, ↓E_X7_happens_37, ↓E_X7_happens_38, ↓E_X7_happens_41, ↓E_X7_happens_42, ↓E_X7_happens_43, ↓E_X7_happens_44, ↓E_X7_happens_47, ↓E_X7_happens_49, ↓E_X7_happens_50, ↓E_X7_happens_51, ↓E_X7_happens_52, ↓E_X7_happens_53, ↓E_X7_happens_55, ↓E_X7_happens_56, ↓E_X7_happens_57, ↓E_X7_happens_58, ↓E_X7_happens_61, ↓E_X7_happens_62, ↓E_X7_happens_63, ↓E_X7_happens_66, ↓E_X7_happens_67, if_neg n2, if_neg (show ¬ nI 1 = (3 : Int32) by decide), if_neg n0, kd_8, ln_36, m6, nI_p2, m_g2, r2, nI_1, min30b, vin, clN]
        · simp (disch := omega) only [uu_row]; exact h1
      · have e3 : x = 3 := by omega
        subst e3
        simp only [if_neg e1]
        refine ⟨(mx_u σ.1 89 (6 * j + 1) (nI 0), σ.2), fun q => ?_, fr.u (by omega), ?_, hR_u (k := 1) hn hjn (by omega) hR⟩
        · simp (disch := omega) only [C_X7_happens, true_and, and_true, and_self, exists_eq_left, Option.toList_some, Option.toList_none, List.cons_append, List.nil_append, List.append_nil, i2_i, i2_r, i2_n, nz0, nz1, true_or, or_true, Nat.reduceAdd, Nat.le_refl, Nat.reduceLT, Nat.reduceLeDiff, ↓E_X7_happens_0, ↓E_X7_happens_1, ↓E_X7_happens_2, ↓E_X7_happens_6, ↓E_X7_happens_7, ↓E_X7_happens_10, ↓E_X7_happens_13, ↓E_X7_happens_14, ↓E_X7_happens_15, ↓E_X7_happens_18, ↓E_X7_happens_19, ↓E_X7_happens_22, ↓E_X7_happens_24, ↓E_X7_happens_25, ↓E_X7_happens_26, ↓E_X7_happens_27, ↓E_X7_happens_28, ↓E_X7_happens_29, ↓E_X7_happens_30, ↓E_X7_happens_34, ↓E_X7_happens_37, ↓E_X7_happens_38, ↓E_X7_happens_41, ↓E_X7_happens_42, ↓E_X7_happens_43, ↓E_X7_happens_44, ↓E_X7_happens_47, ↓E_X7_happens_49, ↓E_X7_happens_50, ↓E_X7_happens_51, ↓E_X7_happens_52, ↓E_X7_happens_53, ↓E_X7_happens_55, ↓E_X7_happens_56, ↓E_X7_happens_57, ↓E_X7_happens_58, ↓E_X7_happens_61, ↓E_X7_happens_62, ↓E_X7_happens_63, ↓E_X7_happens_66, ↓E_X7_happens_67, if_neg n2, if_pos (show nI 3 = (3 : Int32) by decide), kd_8, ln_36, m6, nI_1, vin, clN]
          rfl
        · simp (disch := omega) only [uu_row]; exact h1
set_option maxHeartbeats 4000000 in
theorem M_after {d : Nat} {σ : mx_S} {w : Vw} {a : Int32} (hw : vwM w σ) : ∃ σ', mx_call (d + 5) m_X7_after [.ref 88, .int a] σ (some (.long (F_after w a)), σ') ∧ vwM w σ' ∧ loS σ σ' := by
  obtain ⟨S1, S2, S3, S4, S5⟩ := vwM_now hw
  have R2 := hw.2.1.2.2.1
  have hn := hw.1.1.1
  have hl := hw.1.1.2.2.2.2.2.2.1
  generalize hF : F_after w a = R
  unfold F_after NO at hF
  simp (disch := omega) only [C_X7_after, true_and, and_true, and_self, exists_eq_left, Option.toList_some, Option.toList_none, List.cons_append, List.nil_append, List.append_nil, i2_i, i2_r, i2_n, nz0, nz1, true_or, or_true, Nat.reduceAdd, Nat.le_refl, Nat.reduceLT, Nat.reduceLeDiff, ↓E_X7_after_0, ↓E_X7_after_1, ↓E_X7_after_2, ↓E_X7_after_3, ↓E_X7_after_4, ↓E_X7_after_7, ↓E_X7_after_10, ↓E_X7_after_11, ↓E_X7_after_14, ↓E_X7_after_17, ↓E_X7_after_20, ↓E_X7_after_22, ↓E_X7_after_25, ↓E_X7_after_26, ↓E_X7_after_29, ↓E_X7_after_32, ↓E_X7_after_33, ↓E_X7_after_36, ↓E_X7_after_37, ↓E_X7_after_38, ↓E_X7_after_39, ↓E_X7_after_40, ↓E_X7_after_41, ↓E_X7_after_44, ↓E_X7_after_47, ↓E_X7_after_48, ↓E_X7_after_49, ↓E_X7_after_52, ↓E_X7_after_53, ↓E_X7_after_54, ↓E_X7_after_55, ↓E_X7_after_58, ↓E_X7_after_59, ↓E_X7_after_60, ↓E_X7_after_63, ↓E_X7_after_66, ↓E_X7_after_69, ↓E_X7_after_70, ↓E_X7_after_73, ↓E_X7_after_74, ↓E_X7_after_77, ↓E_X7_after_80, ↓E_X7_after_81, ↓E_X7_after_82, ↓E_X7_after_85, ↓E_X7_after_86, ↓E_X7_after_89, ↓E_X7_after_92, ↓E_X7_after_93, ↓E_X7_after_94, ↓E_X7_after_97, ↓E_X7_after_98, ↓E_X7_after_101, ↓E_X7_after_104, ↓E_X7_after_105, ↓E_X7_after_106, ↓E_X7_after_109, ↓E_X7_after_110, ↓E_X7_after_111, s_in, inL_1, bz_0, S1, nI_eq0 hn]
  by_cases e0 : ibI a 2 = false
  · rw [if_pos (Or.inl e0)] at hF
    simp only [if_pos e0]
    subst hF
    exact ⟨σ, rfl, hw, loS.rf⟩
  simp only [if_neg e0]
  by_cases e1 : w.1.jn = 0
  · rw [if_pos (Or.inr e1)] at hF
    simp only [if_pos e1]
    subst hF
    exact ⟨σ, rfl, hw, loS.rf⟩
  rw [if_neg (fun z => z.elim e0 e1)] at hF
  simp only [if_neg e1]
  have cc1 := fun q => m_copies (d := d + 3) (σ := σ) (q := q) (a := 89) (b := 103) (n := 36) (by omega) (by omega) (by omega) (by omega) (ln_36 (by omega)) (ln_36 (by omega))
  have fr1 : frE σ (mx_c σ.1 103 (cpN (σ.1 89) (σ.1 103) 36), σ.2) := by
    refine ⟨fun i hi => mx_c_ne (by omega), fun k hk hk2 => ?_, fun _ _ => rfl, fun i hi => ?_, fun i hi => ?_⟩
    · simp (disch := omega) only [cc_row]
    · simp (disch := omega) only [cc_row]
    · simp only [cc_same]; exact cpN_in hi
  have lp : ∀ m t (σ2 : mx_S), t + m = w.1.ev.length → frE σ σ2 → σ2.1 88 1 = nI (evF w t).1 → (∀ i k, i < w.1.jn → k < 6 → σ2.1 89 (6 * i + k) = nI ((evF w t).2 i k)) → ∃ σ3, (∀ q, mx_run (d + 4) m_X7_after 39 [some (.ref 88), some (.int a), some (.int (nI w.1.md)), some (.int (nI t))] [] σ2 q ↔ mx_run (d + 4) m_X7_after 69 [some (.ref 88), some (.int a), some (.int (nI w.1.md)), some (.int (nI w.1.ev.length))] [] σ3 q) ∧ frE σ σ3 ∧ σ3.1 88 1 = nI (evA w).1 ∧ ∀ i k, i < w.1.jn → k < 6 → σ3.1 89 (6 * i + k) = nI ((evA w).2 i k) := by
    intro m
    induction m with
    | zero =>
      intro t σ2 ht fr h1 hR
      have e : t = w.1.ev.length := by omega
      subst e
      have s12 : σ2.1 88 12 = nI w.1.ev.length := (fr.2.1 12 (by omega) (by omega)).trans R2.1
      refine ⟨σ2, fun q => ?_, fr, h1, hR⟩
      conv => lhs; rw [E_X7_after_39]
      simp (disch := omega) only [true_and, and_true, and_self, exists_eq_left, Option.toList_some, Option.toList_none, List.cons_append, List.nil_append, List.append_nil, i2_i, i2_r, i2_n, nz0, nz1, true_or, or_true, Nat.reduceAdd, Nat.le_refl, Nat.reduceLT, Nat.reduceLeDiff, ↓E_X7_after_0, ↓E_X7_after_1, ↓E_X7_after_2, ↓E_X7_after_3, ↓E_X7_after_4, ↓E_X7_after_7, ↓E_X7_after_10, ↓E_X7_after_11, ↓E_X7_after_14, ↓E_X7_after_17, ↓E_X7_after_20, ↓E_X7_after_21, ↓E_X7_after_22, ↓E_X7_after_25, ↓E_X7_after_26, ↓E_X7_after_29, ↓E_X7_after_32, ↓E_X7_after_33, ↓E_X7_after_36, ↓E_X7_after_37, ↓E_X7_after_38, ↓E_X7_after_40, ↓E_X7_after_41, ↓E_X7_after_44, ↓E_X7_after_47, ↓E_X7_after_48, ↓E_X7_after_49, ↓E_X7_after_52, ↓E_X7_after_53, ↓E_X7_after_54, ↓E_X7_after_55, ↓E_X7_after_58, ↓E_X7_after_59, ↓E_X7_after_60, ↓E_X7_after_63, ↓E_X7_after_66, ↓E_X7_after_70, ↓E_X7_after_73, ↓E_X7_after_74, ↓E_X7_after_77, ↓E_X7_after_80, ↓E_X7_after_81, ↓E_X7_after_82, ↓E_X7_after_85, ↓E_X7_after_86, ↓E_X7_after_89, ↓E_X7_after_92, ↓E_X7_after_93, ↓E_X7_after_94, ↓E_X7_after_97, ↓E_X7_after_98, ↓E_X7_after_101, ↓E_X7_after_104, ↓E_X7_after_105, ↓E_X7_after_106, ↓E_X7_after_109, ↓E_X7_after_110, ↓E_X7_after_111, s12, leN, if_true]
    | succ m ih =>
      intro t σ2 ht fr h1 hR
      have s12 : σ2.1 88 12 = nI w.1.ev.length := (fr.2.1 12 (by omega) (by omega)).trans R2.1
      obtain ⟨b1, b2⟩ := R2.2 t (by omega)
      have b1' : σ2.1 93 t = nI (w.1.ev.getD t (0, 0)).1 := by rw [fr.1 93 (by omega)]; exact b1
      have b2' : σ2.1 94 t = nI (w.1.ev.getD t (0, 0)).2 := by rw [fr.1 94 (by omega)]; exact b2
      obtain ⟨k1, k2, k3⟩ := hl.2 _ (getD_mem (y := (0, 0)) (show t < w.1.ev.length by omega))
      obtain ⟨o1, o2⟩ := evF_ok hw.1 t (by omega)
      obtain ⟨σ3, c3, fr3, h3, hR3⟩ := m_happens (d := d + 2) hn o2 k1 k2 fr h1 hR
      have st := evF_s (w := w) (t := t) (by omega)
      obtain ⟨σ', r, g⟩ := ih (t + 1) σ3 (by omega) fr3 (by rw [st]; exact h3) (by rw [st]; exact hR3)
      refine ⟨σ', fun q => ?_, g⟩
      rw [← r q]
      conv => lhs; rw [E_X7_after_39]
      simp (disch := omega) only [true_and, and_true, and_self, exists_eq_left, Option.toList_some, Option.toList_none, List.cons_append, List.nil_append, List.append_nil, i2_i, i2_r, i2_n, nz0, nz1, true_or, or_true, Nat.reduceAdd, Nat.le_refl, Nat.reduceLT, Nat.reduceLeDiff, ↓E_X7_after_0, ↓E_X7_after_1, ↓E_X7_after_2, ↓E_X7_after_3, ↓E_X7_after_4, ↓E_X7_after_7, ↓E_X7_after_10, ↓E_X7_after_11, ↓E_X7_after_14, ↓E_X7_after_17, ↓E_X7_after_20, ↓E_X7_after_21, ↓E_X7_after_22, ↓E_X7_after_25, ↓E_X7_after_26, ↓E_X7_after_29, ↓E_X7_after_32, ↓E_X7_after_33, ↓E_X7_after_36, ↓E_X7_after_37, ↓E_X7_after_38, ↓E_X7_after_40, ↓E_X7_after_41, ↓E_X7_after_44, ↓E_X7_after_47, ↓E_X7_after_48, ↓E_X7_after_49, ↓E_X7_after_52, ↓E_X7_after_53, ↓E_X7_after_54, ↓E_X7_after_55, ↓E_X7_after_58, ↓E_X7_after_59, ↓E_X7_after_60, ↓E_X7_after_63, ↓E_X7_after_66, ↓E_X7_after_70, ↓E_X7_after_73, ↓E_X7_after_74, ↓E_X7_after_77, ↓E_X7_after_80, ↓E_X7_after_81, ↓E_X7_after_82, ↓E_X7_after_85, ↓E_X7_after_86, ↓E_X7_after_89, ↓E_X7_after_92, ↓E_X7_after_93, ↓E_X7_after_94, ↓E_X7_after_97, ↓E_X7_after_98, ↓E_X7_after_101, ↓E_X7_after_104, ↓E_X7_after_105, ↓E_X7_after_106, ↓E_X7_after_109, ↓E_X7_after_110, ↓E_X7_after_111, kd_8, ln_8, s12, leN, if_neg (show ¬ w.1.ev.length ≤ t by omega), vin, clN, b1', b2', c3, nI_1]
  obtain ⟨σ3, r, fr3, h3, hR3⟩ := lp w.1.ev.length 0 (mx_c σ.1 103 (cpN (σ.1 89) (σ.1 103) 36), σ.2) (by omega) fr1 (by simp (disch := omega) only [cc_row]; exact S2) (fun i k hi hk => by simp (disch := omega) only [cc_row]; exact S4 i k hi hk)
  obtain ⟨o1, o2⟩ := evF_ok hw.1 w.1.ev.length (Nat.le_refl _)
  have fin : ∀ (z : Int32) (σ4 : mx_S), (∀ i, i ≠ 99 → i ≠ 101 → i ≠ 102 → σ4.1 i = σ3.1 i) → σ4.2 = σ3.2 → ∃ σ', (∀ q, mx_run (d + 4) m_X7_after 92 [some (.ref 88), some (.int a), some (.int (nI w.1.md)), some (.int (nI w.1.ev.length))] [.int z] σ4 q ↔ q = (some (.long z.toInt64), σ')) ∧ scM σ σ' := by
    intro z σ4 f4 g4
    have cc2 := fun q => m_copies (d := d + 3) (σ := σ4) (q := q) (a := 103) (b := 89) (n := 36) (by omega) (by omega) (by omega) (by omega) (ln_36 (by omega)) (ln_36 (by omega))
    refine ⟨(mx_u (mx_c σ4.1 89 (cpN (σ4.1 103) (σ4.1 89) 36)) 88 1 (nI w.1.md), σ4.2), fun q => ?_, fun i hi => ?_, fun k hk => ?_, fun i hi => by show σ4.2 i = _; rw [g4]; exact fr3.2.2.1 i hi⟩
    · simp (disch := omega) only [true_and, and_true, and_self, exists_eq_left, Option.toList_some, Option.toList_none, List.cons_append, List.nil_append, List.append_nil, i2_i, i2_r, i2_n, nz0, nz1, true_or, or_true, Nat.reduceAdd, Nat.le_refl, Nat.reduceLT, Nat.reduceLeDiff, ↓E_X7_after_0, ↓E_X7_after_1, ↓E_X7_after_2, ↓E_X7_after_3, ↓E_X7_after_4, ↓E_X7_after_7, ↓E_X7_after_10, ↓E_X7_after_11, ↓E_X7_after_14, ↓E_X7_after_17, ↓E_X7_after_20, ↓E_X7_after_21, ↓E_X7_after_22, ↓E_X7_after_25, ↓E_X7_after_26, ↓E_X7_after_29, ↓E_X7_after_32, ↓E_X7_after_33, ↓E_X7_after_36, ↓E_X7_after_37, ↓E_X7_after_38, ↓E_X7_after_40, ↓E_X7_after_41, ↓E_X7_after_44, ↓E_X7_after_47, ↓E_X7_after_48, ↓E_X7_after_49, ↓E_X7_after_52, ↓E_X7_after_53, ↓E_X7_after_54, ↓E_X7_after_55, ↓E_X7_after_58, ↓E_X7_after_59, ↓E_X7_after_60, ↓E_X7_after_63, ↓E_X7_after_66, ↓E_X7_after_70, ↓E_X7_after_73, ↓E_X7_after_74, ↓E_X7_after_77, ↓E_X7_after_80, ↓E_X7_after_81, ↓E_X7_after_82, ↓E_X7_after_85, ↓E_X7_after_86, ↓E_X7_after_89, ↓E_X7_after_92, ↓E_X7_after_93, ↓E_X7_after_94, ↓E_X7_after_97, ↓E_X7_after_98, ↓E_X7_after_101, ↓E_X7_after_104, ↓E_X7_after_105, ↓E_X7_after_106, ↓E_X7_after_109, ↓E_X7_after_110, ↓E_X7_after_111, cc2]
    · show mx_u _ 88 _ _ i = _
      rw [mx_u_ne (by omega)]
      by_cases e : i = 89
      · subst e
        funext p
        rw [cc_same]
        unfold cpN
        by_cases e2 : p < 36
        · rw [if_pos e2, f4 103 (by omega) (by omega) (by omega)]; exact fr3.2.2.2.2 p e2
        · rw [if_neg e2, f4 89 (by omega) (by omega) (by omega)]; exact fr3.2.2.2.1 p (by omega)
      · rw [mx_c_ne e, f4 i (by omega) (by omega) (by omega)]; exact fr3.1 i (by omega)
    · show mx_u (mx_c σ4.1 89 (cpN (σ4.1 103) (σ4.1 89) 36)) 88 1 (nI w.1.md) 88 k = _
      by_cases e : k = 1
      · subst e; rw [uu_same]; exact S2.symm
      · rw [uu_col e, cc_row (by omega), f4 88 (by omega) (by omega) (by omega)]; exact fr3.2.1 k hk e
  have r' : ∀ q, mx_run (d + 4) m_X7_after 39 [some (.ref 88), some (.int a), some (.int (nI w.1.md)), some (.int 0)] [] (mx_c σ.1 103 (cpN (σ.1 89) (σ.1 103) 36), σ.2) q ↔ _ := r
  have S2' : mx_c σ.1 103 (cpN (σ.1 89) (σ.1 103) 36) 88 1 = nI w.1.md := by simp (disch := omega) only [cc_row]; exact S2
  have z0 : σ3.1 88 0 = nI w.1.jn := (fr3.2.1 0 (by omega) (by omega)).trans S1
  have z2 : σ3.1 88 2 = nI w.1.am := (fr3.2.1 2 (by omega) (by omega)).trans S3
  have z90 : ∀ p, p < w.1.jn → σ3.1 90 p = nI (w.1.O p) := fun p hp => by rw [fr3.1 90 (by omega)]; exact S5 p hp
  simp (disch := omega) only [true_and, and_true, and_self, exists_eq_left, Option.toList_some, Option.toList_none, List.cons_append, List.nil_append, List.append_nil, i2_i, i2_r, i2_n, nz0, nz1, true_or, or_true, Nat.reduceAdd, Nat.le_refl, Nat.reduceLT, Nat.reduceLeDiff, ↓E_X7_after_0, ↓E_X7_after_1, ↓E_X7_after_2, ↓E_X7_after_3, ↓E_X7_after_4, ↓E_X7_after_7, ↓E_X7_after_10, ↓E_X7_after_11, ↓E_X7_after_14, ↓E_X7_after_17, ↓E_X7_after_20, ↓E_X7_after_21, ↓E_X7_after_22, ↓E_X7_after_25, ↓E_X7_after_26, ↓E_X7_after_29, ↓E_X7_after_32, ↓E_X7_after_33, ↓E_X7_after_36, ↓E_X7_after_37, ↓E_X7_after_38, ↓E_X7_after_40, ↓E_X7_after_41, ↓E_X7_after_44, ↓E_X7_after_47, ↓E_X7_after_48, ↓E_X7_after_49, ↓E_X7_after_52, ↓E_X7_after_53, ↓E_X7_after_54, ↓E_X7_after_55, ↓E_X7_after_58, ↓E_X7_after_59, ↓E_X7_after_60, ↓E_X7_after_63, ↓E_X7_after_66, ↓E_X7_after_69, ↓E_X7_after_70, ↓E_X7_after_73, ↓E_X7_after_74, ↓E_X7_after_77, ↓E_X7_after_80, ↓E_X7_after_81, ↓E_X7_after_82, ↓E_X7_after_85, ↓E_X7_after_86, ↓E_X7_after_89, ↓E_X7_after_92, ↓E_X7_after_93, ↓E_X7_after_94, ↓E_X7_after_97, ↓E_X7_after_98, ↓E_X7_after_101, ↓E_X7_after_104, ↓E_X7_after_105, ↓E_X7_after_106, ↓E_X7_after_109, ↓E_X7_after_110, ↓E_X7_after_111, cc1, S2', r']
  by_cases e2 : a = 0
  · rw [if_pos e2] at hF
    obtain ⟨σ4, c4, -, f4, g4⟩ := m_costOf (d := d) (a := 90) (md := (evA w).1) (am := w.1.am) (V := (evA w).2) (O := w.1.O) (σ0 := σ3) (Or.inl rfl) hn (by omega) o1 hw.1.1.2.2.1 o2 hw.1.1.2.2.2.2.1 z0 z90 hR3
    have cn : ∀ q, mx_call (d + 4) m_X7_now [.ref 88] σ3 q ↔ q = (some (.int (iN (CST (evA w).2 (evA w).1 w.1.am w.1.O w.1.jn))), σ4) := fun q => by
      simp (disch := omega) only [C_X7_now, true_and, and_true, and_self, exists_eq_left, Option.toList_some, Option.toList_none, List.cons_append, List.nil_append, List.append_nil, i2_i, i2_r, i2_n, nz0, nz1, true_or, or_true, Nat.reduceAdd, Nat.le_refl, Nat.reduceLT, Nat.reduceLeDiff, ↓E_X7_now_0, ↓E_X7_now_1, ↓E_X7_now_2, ↓E_X7_now_5, ↓E_X7_now_6, ↓E_X7_now_9, ↓E_X7_now_10, ↓E_X7_now_13, ↓E_X7_now_16, h3, z2, c4]
    obtain ⟨σ', r5, sc⟩ := fin (iN (CST (evA w).2 (evA w).1 w.1.am w.1.O w.1.jn)) σ4 (fun i h1 _ _ => f4 i h1) g4
    refine ⟨σ', ?_, sc.vw hw, sc.lo⟩
    simp (disch := omega) only [true_and, and_true, and_self, exists_eq_left, Option.toList_some, Option.toList_none, List.cons_append, List.nil_append, List.append_nil, i2_i, i2_r, i2_n, nz0, nz1, true_or, or_true, Nat.reduceAdd, Nat.le_refl, Nat.reduceLT, Nat.reduceLeDiff, ↓E_X7_after_0, ↓E_X7_after_1, ↓E_X7_after_2, ↓E_X7_after_3, ↓E_X7_after_4, ↓E_X7_after_7, ↓E_X7_after_10, ↓E_X7_after_11, ↓E_X7_after_14, ↓E_X7_after_17, ↓E_X7_after_20, ↓E_X7_after_21, ↓E_X7_after_22, ↓E_X7_after_25, ↓E_X7_after_26, ↓E_X7_after_29, ↓E_X7_after_32, ↓E_X7_after_33, ↓E_X7_after_36, ↓E_X7_after_37, ↓E_X7_after_38, ↓E_X7_after_40, ↓E_X7_after_41, ↓E_X7_after_44, ↓E_X7_after_47, ↓E_X7_after_48, ↓E_X7_after_49, ↓E_X7_after_52, ↓E_X7_after_53, ↓E_X7_after_54, ↓E_X7_after_55, ↓E_X7_after_58, ↓E_X7_after_59, ↓E_X7_after_60, ↓E_X7_after_63, ↓E_X7_after_66, ↓E_X7_after_69, ↓E_X7_after_70, ↓E_X7_after_73, ↓E_X7_after_74, ↓E_X7_after_77, ↓E_X7_after_81, ↓E_X7_after_82, ↓E_X7_after_85, ↓E_X7_after_86, ↓E_X7_after_89, ↓E_X7_after_93, ↓E_X7_after_94, ↓E_X7_after_97, ↓E_X7_after_98, ↓E_X7_after_101, ↓E_X7_after_104, ↓E_X7_after_105, ↓E_X7_after_106, ↓E_X7_after_109, ↓E_X7_after_110, ↓E_X7_after_111, if_pos e2, cn]
    subst hF
    exact (r5 _).mpr rfl
  · rw [if_neg e2] at hF
    obtain ⟨σ4, c4, -, f4⟩ := m_finds (d := d) (md := (evA w).1) (am := w.1.am) (V := (evA w).2) (σ0 := σ3) hn (by omega) o1 hw.1.1.2.2.1 o2 z0 hR3
    obtain ⟨σ', r5, sc⟩ := fin (iN (bst (cst (evA w).2 (evA w).1 w.1.am) w.1.jn).1) σ4 f4.1 f4.2
    refine ⟨σ', ?_, sc.vw hw, sc.lo⟩
    simp (disch := omega) only [true_and, and_true, and_self, exists_eq_left, Option.toList_some, Option.toList_none, List.cons_append, List.nil_append, List.append_nil, i2_i, i2_r, i2_n, nz0, nz1, true_or, or_true, Nat.reduceAdd, Nat.le_refl, Nat.reduceLT, Nat.reduceLeDiff, ↓E_X7_after_0, ↓E_X7_after_1, ↓E_X7_after_2, ↓E_X7_after_3, ↓E_X7_after_4, ↓E_X7_after_7, ↓E_X7_after_10, ↓E_X7_after_11, ↓E_X7_after_14, ↓E_X7_after_17, ↓E_X7_after_20, ↓E_X7_after_21, ↓E_X7_after_22, ↓E_X7_after_25, ↓E_X7_after_26, ↓E_X7_after_29, ↓E_X7_after_32, ↓E_X7_after_33, ↓E_X7_after_36, ↓E_X7_after_37, ↓E_X7_after_38, ↓E_X7_after_40, ↓E_X7_after_41, ↓E_X7_after_44, ↓E_X7_after_47, ↓E_X7_after_48, ↓E_X7_after_49, ↓E_X7_after_52, ↓E_X7_after_53, ↓E_X7_after_54, ↓E_X7_after_55, ↓E_X7_after_58, ↓E_X7_after_59, ↓E_X7_after_60, ↓E_X7_after_63, ↓E_X7_after_66, ↓E_X7_after_69, ↓E_X7_after_70, ↓E_X7_after_74, ↓E_X7_after_77, ↓E_X7_after_80, ↓E_X7_after_81, ↓E_X7_after_82, ↓E_X7_after_85, ↓E_X7_after_86, ↓E_X7_after_89, ↓E_X7_after_93, ↓E_X7_after_94, ↓E_X7_after_97, ↓E_X7_after_98, ↓E_X7_after_101, ↓E_X7_after_104, ↓E_X7_after_105, ↓E_X7_after_106, ↓E_X7_after_109, ↓E_X7_after_110, ↓E_X7_after_111, if_neg e2, h3, z2, c4]
    subst hF
    exact (r5 _).mpr rfl
set_option maxHeartbeats 4000000 in
theorem M_judge {d : Nat} {σ : mx_S} {w : Vw} {a b : Int32} (hw : vwM w σ) : ∃ σ', mx_call (d + 3) m_X7_judge [.ref 88, .int a, .int b] σ (some (.int (F_judge w a b)), σ') ∧ vwM w σ' ∧ loS σ σ' := by
  obtain ⟨S1, S2, S3, S4, S5⟩ := vwM_now hw
  have hn := hw.1.1.1
  have hO := hw.1.1.2.2.2.2.1
  have hV := okV_of hw.1.1.2.2.2.1
  generalize hF : F_judge w a b = R
  unfold F_judge at hF
  simp (disch := omega) only [C_X7_judge, true_and, and_true, and_self, exists_eq_left, Option.toList_some, Option.toList_none, List.cons_append, List.nil_append, List.append_nil, i2_i, i2_r, i2_n, nz0, nz1, true_or, or_true, Nat.reduceAdd, Nat.le_refl, Nat.reduceLT, Nat.reduceLeDiff, ↓E_X7_judge_0, ↓E_X7_judge_1, ↓E_X7_judge_4, ↓E_X7_judge_7, ↓E_X7_judge_8, ↓E_X7_judge_10, ↓E_X7_judge_13, ↓E_X7_judge_14, ↓E_X7_judge_15, ↓E_X7_judge_18, ↓E_X7_judge_19, ↓E_X7_judge_22, ↓E_X7_judge_23, ↓E_X7_judge_24, ↓E_X7_judge_25, ↓E_X7_judge_28, ↓E_X7_judge_30, ↓E_X7_judge_31, ↓E_X7_judge_32, ↓E_X7_judge_33, ↓E_X7_judge_36, ↓E_X7_judge_37, ↓E_X7_judge_40, ↓E_X7_judge_43, ↓E_X7_judge_44, ↓E_X7_judge_45, ↓E_X7_judge_46, ↓E_X7_judge_47, ↓E_X7_judge_50, ↓E_X7_judge_53, ↓E_X7_judge_54, ↓E_X7_judge_57, ↓E_X7_judge_58, ↓E_X7_judge_59, ↓E_X7_judge_62, ↓E_X7_judge_63, ↓E_X7_judge_64, ↓E_X7_judge_65, ↓E_X7_judge_66, ↓E_X7_judge_69, ↓E_X7_judge_71, ↓E_X7_judge_72, ↓E_X7_judge_73, ↓E_X7_judge_74, ↓E_X7_judge_75, ↓E_X7_judge_78, ↓E_X7_judge_79, ↓E_X7_judge_80, ↓E_X7_judge_81, ↓E_X7_judge_82, ↓E_X7_judge_83, ↓E_X7_judge_84, ↓E_X7_judge_85, ↓E_X7_judge_86, ↓E_X7_judge_89, ↓E_X7_judge_90, ↓E_X7_judge_91, ↓E_X7_judge_94, ↓E_X7_judge_95, ↓E_X7_judge_96, ↓E_X7_judge_99, ↓E_X7_judge_100, ↓E_X7_judge_101, ↓E_X7_judge_104, ↓E_X7_judge_107, ↓E_X7_judge_109, m_isTape, bz_0]
  by_cases e0 : ibI a 6 = false
  · simp only [if_pos e0] at hF ⊢
    subst hF
    exact ⟨σ, rfl, hw, loS.rf⟩
  obtain ⟨ha, ha2, ha3⟩ := ibI_of (eq_true_of_ne_false e0)
  simp only [if_neg e0] at hF ⊢
  generalize ixI a = t at *
  subst ha
  obtain ⟨T1, T2, T3, T4⟩ := tapM_at hw ha2
  obtain ⟨t1, t2⟩ := okT_sg (hw.1.2.2.2 t ha2)
  simp (disch := omega) only [true_and, and_true, and_self, exists_eq_left, Option.toList_some, Option.toList_none, List.cons_append, List.nil_append, List.append_nil, i2_i, i2_r, i2_n, nz0, nz1, true_or, or_true, Nat.reduceAdd, Nat.le_refl, Nat.reduceLT, Nat.reduceLeDiff, ↓E_X7_judge_0, ↓E_X7_judge_1, ↓E_X7_judge_4, ↓E_X7_judge_7, ↓E_X7_judge_8, ↓E_X7_judge_9, ↓E_X7_judge_10, ↓E_X7_judge_13, ↓E_X7_judge_14, ↓E_X7_judge_15, ↓E_X7_judge_18, ↓E_X7_judge_19, ↓E_X7_judge_22, ↓E_X7_judge_23, ↓E_X7_judge_24, ↓E_X7_judge_25, ↓E_X7_judge_28, ↓E_X7_judge_30, ↓E_X7_judge_32, ↓E_X7_judge_33, ↓E_X7_judge_36, ↓E_X7_judge_37, ↓E_X7_judge_40, ↓E_X7_judge_43, ↓E_X7_judge_44, ↓E_X7_judge_45, ↓E_X7_judge_46, ↓E_X7_judge_47, ↓E_X7_judge_50, ↓E_X7_judge_53, ↓E_X7_judge_54, ↓E_X7_judge_57, ↓E_X7_judge_58, ↓E_X7_judge_59, ↓E_X7_judge_62, ↓E_X7_judge_63, ↓E_X7_judge_64, ↓E_X7_judge_65, ↓E_X7_judge_66, ↓E_X7_judge_69, ↓E_X7_judge_71, ↓E_X7_judge_72, ↓E_X7_judge_73, ↓E_X7_judge_74, ↓E_X7_judge_75, ↓E_X7_judge_78, ↓E_X7_judge_79, ↓E_X7_judge_80, ↓E_X7_judge_81, ↓E_X7_judge_82, ↓E_X7_judge_83, ↓E_X7_judge_84, ↓E_X7_judge_85, ↓E_X7_judge_86, ↓E_X7_judge_89, ↓E_X7_judge_90, ↓E_X7_judge_91, ↓E_X7_judge_94, ↓E_X7_judge_95, ↓E_X7_judge_96, ↓E_X7_judge_99, ↓E_X7_judge_100, ↓E_X7_judge_101, ↓E_X7_judge_104, ↓E_X7_judge_107, ↓E_X7_judge_109, kd_8, ln_6, vin, clN, T1, t1, t2]
  by_cases e1 : ¬ (w.2.2.2 t).1 = -1 ∧ ¬ (w.2.2.2 t).1 = 1
  · simp only [if_pos e1] at hF
    simp only [if_neg e1.1, if_neg e1.2, if_pos e1.1]
    subst hF
    exact ⟨σ, rfl, hw, loS.rf⟩
  simp only [if_neg e1] at hF
  have go : ∀ {A B : Prop}, (if (w.2.2.2 t).1 = -1 then A else if (w.2.2.2 t).1 = 1 then A else B) = A := by
    intro A B
    by_cases z : (w.2.2.2 t).1 = -1
    · rw [if_pos z]
    · rw [if_neg z]
      by_cases z2 : (w.2.2.2 t).1 = 1
      · rw [if_pos z2]
      · exact absurd ⟨z, z2⟩ e1
  simp only [go]
  obtain ⟨σ1, c1, hT, f, g⟩ := m_goes (d := d) (a := 90) (Or.inl rfl) hn hw.1.1.2.1 hV hO S1 S5 S4
  have sc := scM99 f g
  have hw1 := sc.vw hw
  obtain ⟨Z1, Z2, Z3, Z4, Z5⟩ := vwM_now hw1
  obtain ⟨U1, U2, U3, U4⟩ := tapM_at hw1 ha2
  refine ⟨σ1, ?_, hw1, sc.lo⟩
  simp (disch := omega) only [true_and, and_true, and_self, exists_eq_left, Option.toList_some, Option.toList_none, List.cons_append, List.nil_append, List.append_nil, i2_i, i2_r, i2_n, nz0, nz1, true_or, or_true, Nat.reduceAdd, Nat.le_refl, Nat.reduceLT, Nat.reduceLeDiff, ↓E_X7_judge_0, ↓E_X7_judge_1, ↓E_X7_judge_4, ↓E_X7_judge_7, ↓E_X7_judge_8, ↓E_X7_judge_9, ↓E_X7_judge_10, ↓E_X7_judge_13, ↓E_X7_judge_14, ↓E_X7_judge_15, ↓E_X7_judge_18, ↓E_X7_judge_19, ↓E_X7_judge_22, ↓E_X7_judge_23, ↓E_X7_judge_24, ↓E_X7_judge_25, ↓E_X7_judge_28, ↓E_X7_judge_30, ↓E_X7_judge_31, ↓E_X7_judge_32, ↓E_X7_judge_33, ↓E_X7_judge_36, ↓E_X7_judge_37, ↓E_X7_judge_40, ↓E_X7_judge_43, ↓E_X7_judge_44, ↓E_X7_judge_46, ↓E_X7_judge_47, ↓E_X7_judge_50, ↓E_X7_judge_53, ↓E_X7_judge_54, ↓E_X7_judge_57, ↓E_X7_judge_58, ↓E_X7_judge_59, ↓E_X7_judge_62, ↓E_X7_judge_63, ↓E_X7_judge_64, ↓E_X7_judge_65, ↓E_X7_judge_66, ↓E_X7_judge_69, ↓E_X7_judge_71, ↓E_X7_judge_72, ↓E_X7_judge_73, ↓E_X7_judge_74, ↓E_X7_judge_75, ↓E_X7_judge_78, ↓E_X7_judge_79, ↓E_X7_judge_80, ↓E_X7_judge_81, ↓E_X7_judge_82, ↓E_X7_judge_83, ↓E_X7_judge_84, ↓E_X7_judge_85, ↓E_X7_judge_86, ↓E_X7_judge_89, ↓E_X7_judge_90, ↓E_X7_judge_91, ↓E_X7_judge_94, ↓E_X7_judge_95, ↓E_X7_judge_96, ↓E_X7_judge_99, ↓E_X7_judge_100, ↓E_X7_judge_101, ↓E_X7_judge_104, ↓E_X7_judge_107, ↓E_X7_judge_109, S2, c1]
  by_cases e2 : w.1.jn = 0
  · simp only [if_pos e2] at hF
    subst hF
    rw [E_X7_judge_45]
    simp (disch := omega) only [true_and, and_true, and_self, exists_eq_left, Option.toList_some, Option.toList_none, List.cons_append, List.nil_append, List.append_nil, i2_i, i2_r, i2_n, nz0, nz1, true_or, or_true, Nat.reduceAdd, Nat.le_refl, Nat.reduceLT, Nat.reduceLeDiff, ↓E_X7_judge_0, ↓E_X7_judge_1, ↓E_X7_judge_4, ↓E_X7_judge_7, ↓E_X7_judge_8, ↓E_X7_judge_9, ↓E_X7_judge_10, ↓E_X7_judge_13, ↓E_X7_judge_14, ↓E_X7_judge_15, ↓E_X7_judge_18, ↓E_X7_judge_19, ↓E_X7_judge_22, ↓E_X7_judge_23, ↓E_X7_judge_24, ↓E_X7_judge_25, ↓E_X7_judge_28, ↓E_X7_judge_30, ↓E_X7_judge_31, ↓E_X7_judge_32, ↓E_X7_judge_33, ↓E_X7_judge_36, ↓E_X7_judge_37, ↓E_X7_judge_40, ↓E_X7_judge_43, ↓E_X7_judge_44, ↓E_X7_judge_46, ↓E_X7_judge_47, ↓E_X7_judge_50, ↓E_X7_judge_53, ↓E_X7_judge_54, ↓E_X7_judge_57, ↓E_X7_judge_58, ↓E_X7_judge_59, ↓E_X7_judge_62, ↓E_X7_judge_63, ↓E_X7_judge_64, ↓E_X7_judge_65, ↓E_X7_judge_66, ↓E_X7_judge_69, ↓E_X7_judge_71, ↓E_X7_judge_72, ↓E_X7_judge_73, ↓E_X7_judge_74, ↓E_X7_judge_75, ↓E_X7_judge_78, ↓E_X7_judge_79, ↓E_X7_judge_80, ↓E_X7_judge_81, ↓E_X7_judge_82, ↓E_X7_judge_83, ↓E_X7_judge_84, ↓E_X7_judge_85, ↓E_X7_judge_86, ↓E_X7_judge_89, ↓E_X7_judge_90, ↓E_X7_judge_91, ↓E_X7_judge_94, ↓E_X7_judge_95, ↓E_X7_judge_96, ↓E_X7_judge_99, ↓E_X7_judge_100, ↓E_X7_judge_101, ↓E_X7_judge_104, ↓E_X7_judge_107, ↓E_X7_judge_109, Z1, e2, if_pos (show nI 0 ≤ (0 : Int32) by decide)]
  simp only [if_neg e2] at hF
  by_cases e3 : ibI b (w.2.2.2 t).2.1 = false
  · simp only [if_pos e3] at hF
    subst hF
    have j0 : ¬ nI w.1.jn ≤ (0 : Int32) := fun z => by
      rw [le32, nI_toInt (by omega)] at z
      have e00 : (0 : Int32).toInt = 0 := rfl
      omega
    have s0 : nI (w.2.2.2 t).2.1 - 0 = nI (w.2.2.2 t).2.1 := pk_sub (b := 0) (by omega)
    rw [E_X7_judge_45]
    simp (disch := omega) only [true_and, and_true, and_self, exists_eq_left, Option.toList_some, Option.toList_none, List.cons_append, List.nil_append, List.append_nil, i2_i, i2_r, i2_n, nz0, nz1, true_or, or_true, Nat.reduceAdd, Nat.le_refl, Nat.reduceLT, Nat.reduceLeDiff, ↓E_X7_judge_0, ↓E_X7_judge_1, ↓E_X7_judge_4, ↓E_X7_judge_7, ↓E_X7_judge_8, ↓E_X7_judge_9, ↓E_X7_judge_10, ↓E_X7_judge_13, ↓E_X7_judge_14, ↓E_X7_judge_15, ↓E_X7_judge_18, ↓E_X7_judge_19, ↓E_X7_judge_22, ↓E_X7_judge_23, ↓E_X7_judge_24, ↓E_X7_judge_25, ↓E_X7_judge_28, ↓E_X7_judge_30, ↓E_X7_judge_31, ↓E_X7_judge_32, ↓E_X7_judge_33, ↓E_X7_judge_36, ↓E_X7_judge_37, ↓E_X7_judge_40, ↓E_X7_judge_43, ↓E_X7_judge_44, ↓E_X7_judge_46, ↓E_X7_judge_47, ↓E_X7_judge_50, ↓E_X7_judge_53, ↓E_X7_judge_54, ↓E_X7_judge_57, ↓E_X7_judge_58, ↓E_X7_judge_59, ↓E_X7_judge_62, ↓E_X7_judge_63, ↓E_X7_judge_64, ↓E_X7_judge_65, ↓E_X7_judge_66, ↓E_X7_judge_69, ↓E_X7_judge_71, ↓E_X7_judge_72, ↓E_X7_judge_73, ↓E_X7_judge_75, ↓E_X7_judge_78, ↓E_X7_judge_79, ↓E_X7_judge_80, ↓E_X7_judge_81, ↓E_X7_judge_82, ↓E_X7_judge_83, ↓E_X7_judge_84, ↓E_X7_judge_85, ↓E_X7_judge_86, ↓E_X7_judge_89, ↓E_X7_judge_90, ↓E_X7_judge_91, ↓E_X7_judge_94, ↓E_X7_judge_95, ↓E_X7_judge_96, ↓E_X7_judge_99, ↓E_X7_judge_100, ↓E_X7_judge_101, ↓E_X7_judge_104, ↓E_X7_judge_107, ↓E_X7_judge_109, Z1, if_neg j0, kd_8, ln_6, vin, clN, U2, s0, lt0, le0]
    have hb : b.toInt < 0 ∨ ((w.2.2.2 t).2.1 : Int) ≤ b.toInt := by
      unfold ibI at e3
      by_cases z : 0 ≤ b.toInt
      · rw [decide_eq_true z, Bool.true_and] at e3
        have := of_decide_eq_false e3
        omega
      · omega
    by_cases h1 : b.toInt < 0
    · simp only [if_pos h1]
      rfl
    · have h2 := hb.resolve_left h1
      have h3 : nI (w.2.2.2 t).2.1 ≤ b := by rw [le32, nI_toInt (by omega)]; exact h2
      have h4 : ¬ b < nI (w.2.2.2 t).2.1 := by rw [l32, nI_toInt (by omega)]; omega
      simp only [if_neg h1, if_pos h3, if_neg h4]
      rfl
  simp only [if_neg e3] at hF
  obtain ⟨hb, hb2, hb3⟩ := ibI_of (eq_true_of_ne_false e3)
  generalize ixI b = i at *
  subst hb
  have lp : ∀ m k, k + m = w.1.jn → (∀ q, mx_run (d + 2) m_X7_judge 45 [some (.ref 88), some (.int (nI t)), some (.int (nI i)), some (.int (nI k))] [] σ1 q ↔ q = (some (.int (jdR w (w.2.2.2 t) i k m)), σ1)) := by
    intro m
    induction m with
    | zero =>
      intro k hk q
      have e : k = w.1.jn := by omega
      subst e
      rw [E_X7_judge_45]
      simp (disch := omega) only [true_and, and_true, and_self, exists_eq_left, Option.toList_some, Option.toList_none, List.cons_append, List.nil_append, List.append_nil, i2_i, i2_r, i2_n, nz0, nz1, true_or, or_true, Nat.reduceAdd, Nat.le_refl, Nat.reduceLT, Nat.reduceLeDiff, ↓E_X7_judge_0, ↓E_X7_judge_1, ↓E_X7_judge_4, ↓E_X7_judge_7, ↓E_X7_judge_8, ↓E_X7_judge_9, ↓E_X7_judge_10, ↓E_X7_judge_13, ↓E_X7_judge_14, ↓E_X7_judge_15, ↓E_X7_judge_18, ↓E_X7_judge_19, ↓E_X7_judge_22, ↓E_X7_judge_23, ↓E_X7_judge_24, ↓E_X7_judge_25, ↓E_X7_judge_28, ↓E_X7_judge_30, ↓E_X7_judge_31, ↓E_X7_judge_32, ↓E_X7_judge_33, ↓E_X7_judge_36, ↓E_X7_judge_37, ↓E_X7_judge_40, ↓E_X7_judge_43, ↓E_X7_judge_44, ↓E_X7_judge_46, ↓E_X7_judge_47, ↓E_X7_judge_50, ↓E_X7_judge_53, ↓E_X7_judge_54, ↓E_X7_judge_57, ↓E_X7_judge_58, ↓E_X7_judge_59, ↓E_X7_judge_62, ↓E_X7_judge_63, ↓E_X7_judge_64, ↓E_X7_judge_65, ↓E_X7_judge_66, ↓E_X7_judge_69, ↓E_X7_judge_71, ↓E_X7_judge_72, ↓E_X7_judge_73, ↓E_X7_judge_74, ↓E_X7_judge_75, ↓E_X7_judge_78, ↓E_X7_judge_79, ↓E_X7_judge_80, ↓E_X7_judge_81, ↓E_X7_judge_82, ↓E_X7_judge_83, ↓E_X7_judge_84, ↓E_X7_judge_85, ↓E_X7_judge_86, ↓E_X7_judge_89, ↓E_X7_judge_90, ↓E_X7_judge_91, ↓E_X7_judge_94, ↓E_X7_judge_95, ↓E_X7_judge_96, ↓E_X7_judge_99, ↓E_X7_judge_100, ↓E_X7_judge_101, ↓E_X7_judge_104, ↓E_X7_judge_107, ↓E_X7_judge_109, Z1, leN, if_true]
      rfl
    | succ m ih =>
      intro k hk q
      have ro := Z5 k (by omega)
      have hOk := hO.1 k (by omega)
      obtain ⟨-, -, -, -, -, w5⟩ := hT k (by omega)
      have w5 : σ1.1 99 (6 * w.1.O k + 5) = nI (EN w.1.V w.1.md w.1.O k) := w5
      have sb : (nI (w.2.2.2 t).2.1 - nI k).toInt = ((w.2.2.2 t).2.1 : Int) - (k : Int) := pk_sub_toInt (by omega) (by omega)
      have ni := nI_toInt (n := i) (by omega)
      have q1 : (nI (w.2.2.2 t).2.1 - nI k ≤ nI i) = ((w.2.2.2 t).2.1 ≤ i + k) := by
        rw [le32, sb, ni]
        exact propext ⟨fun z => by omega, fun z => by omega⟩
      have q2 : (nI i < nI (w.2.2.2 t).2.1 - nI k) = (i + k < (w.2.2.2 t).2.1) := by
        rw [l32, sb, ni]
        exact propext ⟨fun z => by omega, fun z => by omega⟩
      unfold jdR
      rw [E_X7_judge_45]
      simp (disch := omega) only [true_and, and_true, and_self, exists_eq_left, Option.toList_some, Option.toList_none, List.cons_append, List.nil_append, List.append_nil, i2_i, i2_r, i2_n, nz0, nz1, true_or, or_true, Nat.reduceAdd, Nat.le_refl, Nat.reduceLT, Nat.reduceLeDiff, ↓E_X7_judge_0, ↓E_X7_judge_1, ↓E_X7_judge_4, ↓E_X7_judge_7, ↓E_X7_judge_8, ↓E_X7_judge_9, ↓E_X7_judge_10, ↓E_X7_judge_13, ↓E_X7_judge_14, ↓E_X7_judge_15, ↓E_X7_judge_18, ↓E_X7_judge_19, ↓E_X7_judge_22, ↓E_X7_judge_23, ↓E_X7_judge_24, ↓E_X7_judge_25, ↓E_X7_judge_28, ↓E_X7_judge_30, ↓E_X7_judge_31, ↓E_X7_judge_32, ↓E_X7_judge_33, ↓E_X7_judge_36, ↓E_X7_judge_37, ↓E_X7_judge_40, ↓E_X7_judge_43, ↓E_X7_judge_44, ↓E_X7_judge_46, ↓E_X7_judge_47, ↓E_X7_judge_50, ↓E_X7_judge_53, ↓E_X7_judge_54, ↓E_X7_judge_57, ↓E_X7_judge_58, ↓E_X7_judge_59, ↓E_X7_judge_62, ↓E_X7_judge_63, ↓E_X7_judge_64, ↓E_X7_judge_65, ↓E_X7_judge_66, ↓E_X7_judge_69, ↓E_X7_judge_71, ↓E_X7_judge_72, ↓E_X7_judge_73, ↓E_X7_judge_75, ↓E_X7_judge_78, ↓E_X7_judge_79, ↓E_X7_judge_80, ↓E_X7_judge_81, ↓E_X7_judge_82, ↓E_X7_judge_83, ↓E_X7_judge_84, ↓E_X7_judge_85, ↓E_X7_judge_86, ↓E_X7_judge_89, ↓E_X7_judge_90, ↓E_X7_judge_91, ↓E_X7_judge_94, ↓E_X7_judge_95, ↓E_X7_judge_96, ↓E_X7_judge_99, ↓E_X7_judge_100, ↓E_X7_judge_101, ↓E_X7_judge_104, ↓E_X7_judge_107, ↓E_X7_judge_109, Z1, leN, if_neg (show ¬ w.1.jn ≤ k by omega), if_neg (nI_neg (show i < 2147483648 by omega)), if_pos (nI_nonneg (show i < 2147483648 by omega)), kd_8, ln_6, vin, clN, U2, q1, q2]
      by_cases h1 : (w.2.2.2 t).2.1 ≤ i + k
      · simp only [if_pos h1, if_neg (show ¬ i + k < (w.2.2.2 t).2.1 by omega)]
        have e9 : (100 : Int32) + nI k = nI (100 + k) := nI_add 100 k
        rw [e9]
      · simp only [if_neg h1, if_pos (show i + k < (w.2.2.2 t).2.1 by omega)]
        have it := U3 (i + k) (by omega)
        simp (disch := omega) only [true_and, and_true, and_self, exists_eq_left, Option.toList_some, Option.toList_none, List.cons_append, List.nil_append, List.append_nil, i2_i, i2_r, i2_n, nz0, nz1, true_or, or_true, Nat.reduceAdd, Nat.le_refl, Nat.reduceLT, Nat.reduceLeDiff, ↓E_X7_judge_0, ↓E_X7_judge_1, ↓E_X7_judge_4, ↓E_X7_judge_7, ↓E_X7_judge_8, ↓E_X7_judge_9, ↓E_X7_judge_10, ↓E_X7_judge_13, ↓E_X7_judge_14, ↓E_X7_judge_15, ↓E_X7_judge_18, ↓E_X7_judge_19, ↓E_X7_judge_22, ↓E_X7_judge_23, ↓E_X7_judge_24, ↓E_X7_judge_25, ↓E_X7_judge_28, ↓E_X7_judge_30, ↓E_X7_judge_31, ↓E_X7_judge_32, ↓E_X7_judge_33, ↓E_X7_judge_36, ↓E_X7_judge_37, ↓E_X7_judge_40, ↓E_X7_judge_43, ↓E_X7_judge_44, ↓E_X7_judge_46, ↓E_X7_judge_47, ↓E_X7_judge_50, ↓E_X7_judge_53, ↓E_X7_judge_54, ↓E_X7_judge_57, ↓E_X7_judge_58, ↓E_X7_judge_59, ↓E_X7_judge_62, ↓E_X7_judge_63, ↓E_X7_judge_64, ↓E_X7_judge_65, ↓E_X7_judge_66, ↓E_X7_judge_69, ↓E_X7_judge_71, ↓E_X7_judge_72, ↓E_X7_judge_73, ↓E_X7_judge_74, ↓E_X7_judge_75, ↓E_X7_judge_78, ↓E_X7_judge_79, ↓E_X7_judge_80, ↓E_X7_judge_81, ↓E_X7_judge_82, ↓E_X7_judge_83, ↓E_X7_judge_84, ↓E_X7_judge_85, ↓E_X7_judge_86, ↓E_X7_judge_89, ↓E_X7_judge_90, ↓E_X7_judge_91, ↓E_X7_judge_94, ↓E_X7_judge_95, ↓E_X7_judge_96, ↓E_X7_judge_99, ↓E_X7_judge_100, ↓E_X7_judge_101, ↓E_X7_judge_104, ↓E_X7_judge_107, ↓E_X7_judge_109, kd_15, kd_8, kd_11, ln_6, ln_60, vin, clN, ptrM, or_true, nI_add, it, ro, m_ends, w5, lgc0, nI_1]
        by_cases h2 : (w.2.2.2 t).2.2 (i + k) = (nI (EN w.1.V w.1.md w.1.O k)).toInt64
        · simp only [if_pos h2, if_neg (fun z : ¬ (w.2.2.2 t).2.2 (i + k) = (nI (EN w.1.V w.1.md w.1.O k)).toInt64 => z h2)]
          exact ih (k + 1) (by omega) q
        · simp only [if_neg h2, if_pos h2]
  subst hF
  exact (lp w.1.jn 0 (by omega) _).mpr rfl
