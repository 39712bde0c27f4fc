/-! ===== the class: all clauses ===== -/
theorem lt12 {x : Nat} (h : x < 2147483648) : (nI x < (12 : Int32)) = (x < 12) := ltN (b := 12) h (by omega)
theorem le12 {x : Nat} (h : x < 2147483648) : ((12 : Int32) ≤ nI x) = (12 ≤ x) := leN (a := 12) (by omega) h
def frP (σ σ' : mx_S) : Prop := (∀ i, (i < 60 ∨ (61 ≤ i ∧ i ≤ 62) ∨ 75 ≤ i) → σ'.1 i = σ.1 i) ∧ σ'.1 60 2 = σ.1 60 2 ∧ σ'.2 = σ.2
theorem frP.tr {x y z : mx_S} (h : frP x y) (g : frP y z) : frP x z := ⟨fun i hi => (g.1 i hi).trans (h.1 i hi), g.2.1.trans h.2.1, g.2.2.trans h.2.2⟩
theorem frP.u {σ : mx_S} {x : Int32} : frP σ (mx_u σ.1 60 3 x, σ.2) := by
  refine ⟨fun i hi => ?_, ?_, rfl⟩
  · show mx_u _ 60 3 _ i = _
    rw [mx_u_ne (by omega)]
  · show mx_u σ.1 60 3 x 60 2 = σ.1 60 2
    rw [uu_col (by omega)]
theorem frT.P {a : Nat} {σ σ' : mx_S} (ha : 63 ≤ a ∧ a ≤ 74) (h : frT a σ σ') : frP σ σ' := ⟨fun i hi => h.1 i (by omega) (by omega), h.2.1 2 (by omega), h.2.2⟩
theorem rowD_agr {c : Cl} {a : Nat} {f f' : Nat → Nat → Int32} (h : f' a = f a) (H : rowD c a f) : rowD c a f' := by
  unfold rowD rowC at *
  rw [h]
  exact H
set_option maxHeartbeats 2000000 in
theorem x_parse {d p : Nat} {σ : mx_S} {q : mx_R} {l : List Nat} (ok : okL l) (hp : p ≤ l.length) (H : txI l p σ.1) : mx_run d m_X5_parse 12 [some (.ref 60), some (.int 0)] [] σ q ↔ q = (some (.int (bz (decide (p = l.length)))), σ) := by
  obtain ⟨T1, T2, T3⟩ := id H
  have hl := ok.1
  rw [E_X5_parse_12]
  simp (disch := omega) only [true_and, and_true, and_self, exists_eq_left, Option.toList_some, Option.toList_none, List.cons_append, List.nil_append, List.append_nil, i2_i, i2_r, i2_n, nz0, nz1, true_or, or_true, Nat.reduceAdd, Nat.le_refl, Nat.reduceLT, Nat.reduceLeDiff, ↓E_X5_parse_0, ↓E_X5_parse_1, ↓E_X5_parse_2, ↓E_X5_parse_5, ↓E_X5_parse_6, ↓E_X5_parse_7, ↓E_X5_parse_10, ↓E_X5_parse_11, ↓E_X5_parse_13, ↓E_X5_parse_17, ↓E_X5_parse_20, ↓E_X5_parse_22, ↓E_X5_parse_25, ↓E_X5_parse_26, ↓E_X5_parse_27, ↓E_X5_parse_30, ↓E_X5_parse_31, ↓E_X5_parse_34, ↓E_X5_parse_35, ↓E_X5_parse_38, ↓E_X5_parse_41, ↓E_X5_parse_42, ↓E_X5_parse_43, ↓E_X5_parse_44, ↓E_X5_parse_45, ↓E_X5_parse_48, ↓E_X5_parse_49, ↓E_X5_parse_50, ↓E_X5_parse_53, ↓E_X5_parse_54, ↓E_X5_parse_57, ↓E_X5_parse_59, ↓E_X5_parse_62, ↓E_X5_parse_63, ↓E_X5_parse_65, ↓E_X5_parse_68, ↓E_X5_parse_71, ↓E_X5_parse_72, ↓E_X5_parse_75, ↓E_X5_parse_76, ↓E_X5_parse_77, ↓E_X5_parse_80, ↓E_X5_parse_81, ↓E_X5_parse_84, ↓E_X5_parse_85, ↓E_X5_parse_88, ↓E_X5_parse_91, ↓E_X5_parse_92, ↓E_X5_parse_95, ↓E_X5_parse_96, if_true, kd_5, T1, T3, eqN]
  by_cases e : p = l.length
  · simp only [if_pos e, decide_eq_true e]; rfl
  · simp only [if_neg e, decide_eq_false e]; rfl
theorem prs_s {l : List Nat} {m i : Nat} {cs : List Cl} : prs l (m + 1) i cs = (match tkC l i with
    | (none, p) => (none, p)
    | (some c, p) => if m ≠ 0 ∧ sgB l 59 p = true then prs l m (p + 1) (cs ++ [c]) else (if p = l.length then some (cs ++ [c]) else none, p)) := rfl
set_option maxHeartbeats 4000000 in
theorem l_parse {d : Nat} {l : List Nat} (ok : okL l) : ∀ m i (cs : List Cl) (σ : mx_S), cs.length + (m + 1) = 12 → i ≤ l.length → txI l i σ.1 → σ.1 60 3 = nI cs.length → (∀ t, t < cs.length → rowD (cs.getD t (0, 0, 0, 0)) (63 + t) σ.1) →
    ∃ σ', (∀ q, mx_run (d + 2) m_X5_parse 12 [some (.ref 60), some (.int 1)] [] σ q ↔ q = (some (.int (bz (prs l (m + 1) i cs).1.isSome)), σ')) ∧ σ'.1 60 4 = nI (prs l (m + 1) i cs).2 ∧ (∀ cs', (prs l (m + 1) i cs).1 = some cs' → σ'.1 60 3 = nI cs'.length ∧ cs'.length ≤ 12 ∧ ∀ t, t < cs'.length → rowD (cs'.getD t (0, 0, 0, 0)) (63 + t) σ'.1) ∧ frP σ σ' := by
  have hl := ok.1
  intro m
  induction m with
  | zero =>
    intro i cs σ hc hi H h3 hR
    obtain ⟨σ1, c1, H1, r1, f1⟩ := s_clause (d := d) (a := 63 + cs.length) ok hi (by omega) H
    have hle := tkC_le hi
    have hs := prs_s (l := l) (m := 0) (i := i) (cs := cs)
    obtain ⟨T1, T2, T3⟩ := id H
    cases hk : tkC l i with
    | mk r p =>
      rw [hk] at hs c1 H1 r1 hle
      cases r with
      | none =>
        have hs : prs l (0 + 1) i cs = (none, p) := hs
        rw [hs]
        refine ⟨σ1, fun q => ?_, H1.2.2, fun cs' h => by (cases h), f1.P (by omega)⟩
        simp only [Option.isSome_none] at c1
        simp only [E_X5_parse_12]
        simp (disch := omega) only [true_and, and_true, and_self, exists_eq_left, Option.toList_some, Option.toList_none, List.cons_append, List.nil_append, List.append_nil, i2_i, i2_r, i2_n, nz0, nz1, true_or, or_true, Nat.reduceAdd, Nat.le_refl, Nat.reduceLT, Nat.reduceLeDiff, ↓E_X5_parse_0, ↓E_X5_parse_1, ↓E_X5_parse_2, ↓E_X5_parse_5, ↓E_X5_parse_6, ↓E_X5_parse_7, ↓E_X5_parse_10, ↓E_X5_parse_11, ↓E_X5_parse_13, ↓E_X5_parse_16, ↓E_X5_parse_17, ↓E_X5_parse_20, ↓E_X5_parse_22, ↓E_X5_parse_25, ↓E_X5_parse_26, ↓E_X5_parse_27, ↓E_X5_parse_30, ↓E_X5_parse_31, ↓E_X5_parse_34, ↓E_X5_parse_35, ↓E_X5_parse_38, ↓E_X5_parse_41, ↓E_X5_parse_42, ↓E_X5_parse_44, ↓E_X5_parse_45, ↓E_X5_parse_48, ↓E_X5_parse_49, ↓E_X5_parse_50, ↓E_X5_parse_53, ↓E_X5_parse_54, ↓E_X5_parse_57, ↓E_X5_parse_59, ↓E_X5_parse_62, ↓E_X5_parse_63, ↓E_X5_parse_65, ↓E_X5_parse_68, ↓E_X5_parse_71, ↓E_X5_parse_72, ↓E_X5_parse_75, ↓E_X5_parse_76, ↓E_X5_parse_77, ↓E_X5_parse_80, ↓E_X5_parse_81, ↓E_X5_parse_84, ↓E_X5_parse_85, ↓E_X5_parse_88, ↓E_X5_parse_91, ↓E_X5_parse_92, ↓E_X5_parse_95, ↓E_X5_parse_96, if_neg (show ¬ (1 : Int32) = 0 by decide), kd_5, kd_12, ln_12, h3, lt12, le12, if_neg (show ¬ 12 ≤ cs.length by omega), if_pos (show cs.length < 12 by omega), vin, clN, ptrG, c1, bzf, if_true, Option.isSome_none]
        rfl
      | some c =>
        have hs : prs l (0 + 1) i cs = if (0 : Nat) ≠ 0 ∧ sgB l 59 p = true then prs l 0 (p + 1) (cs ++ [c]) else (if p = l.length then some (cs ++ [c]) else none, p) := hs
        rw [if_neg (fun z => z.1 rfl)] at hs
        rw [hs]
        simp only [Option.isSome_some] at c1
        have h31 : σ1.1 60 3 = nI cs.length := by rw [f1.2.1 3 (by omega)]; exact h3
        have H2 : txI l p (mx_u σ1.1 60 3 (nI (cs.length + 1))) := by
          obtain ⟨b1, b2, b3⟩ := H1
          refine ⟨?_, fun i hi => ?_, ?_⟩
          · simp (disch := omega) only [uu_col]; exact b1
          · simp (disch := omega) only [uu_row]; exact b2 i hi
          · simp (disch := omega) only [uu_col]; exact b3
        have xp := fun q => x_parse (d := d + 2) (σ := (mx_u σ1.1 60 3 (nI (cs.length + 1)), σ1.2)) (q := q) ok hle H2
        refine ⟨(mx_u σ1.1 60 3 (nI (cs.length + 1)), σ1.2), fun q => ?_, H2.2.2, fun cs' h => ?_, (f1.P (by omega)).tr (frP.u)⟩
        · simp only [E_X5_parse_12]
          simp (disch := omega) only [true_and, and_true, and_self, exists_eq_left, Option.toList_some, Option.toList_none, List.cons_append, List.nil_append, List.append_nil, i2_i, i2_r, i2_n, nz0, nz1, true_or, or_true, Nat.reduceAdd, Nat.le_refl, Nat.reduceLT, Nat.reduceLeDiff, ↓E_X5_parse_0, ↓E_X5_parse_1, ↓E_X5_parse_2, ↓E_X5_parse_5, ↓E_X5_parse_6, ↓E_X5_parse_7, ↓E_X5_parse_10, ↓E_X5_parse_11, ↓E_X5_parse_13, ↓E_X5_parse_16, ↓E_X5_parse_17, ↓E_X5_parse_20, ↓E_X5_parse_22, ↓E_X5_parse_25, ↓E_X5_parse_26, ↓E_X5_parse_27, ↓E_X5_parse_30, ↓E_X5_parse_31, ↓E_X5_parse_34, ↓E_X5_parse_35, ↓E_X5_parse_38, ↓E_X5_parse_41, ↓E_X5_parse_42, ↓E_X5_parse_43, ↓E_X5_parse_44, ↓E_X5_parse_45, ↓E_X5_parse_48, ↓E_X5_parse_49, ↓E_X5_parse_50, ↓E_X5_parse_53, ↓E_X5_parse_54, ↓E_X5_parse_57, ↓E_X5_parse_59, ↓E_X5_parse_62, ↓E_X5_parse_63, ↓E_X5_parse_65, ↓E_X5_parse_68, ↓E_X5_parse_71, ↓E_X5_parse_72, ↓E_X5_parse_75, ↓E_X5_parse_76, ↓E_X5_parse_77, ↓E_X5_parse_81, ↓E_X5_parse_84, ↓E_X5_parse_85, ↓E_X5_parse_88, ↓E_X5_parse_91, ↓E_X5_parse_92, ↓E_X5_parse_95, ↓E_X5_parse_96, if_neg (show ¬ (1 : Int32) = 0 by decide), kd_5, kd_12, ln_12, h3, h31, lt12, le12, if_neg (show ¬ 12 ≤ cs.length by omega), if_pos (show cs.length < 12 by omega), vin, clN, ptrG, c1, bzt, if_false, nI_1, uu_same, if_neg (show ¬ cs.length + 1 < 12 by omega), if_pos (show 12 ≤ cs.length + 1 by omega), if_pos (show 11 ≤ cs.length by omega), if_neg (show ¬ cs.length < 11 by omega), xp]
          by_cases e : p = l.length
          · simp only [decide_eq_true e, if_pos e]; rfl
          · simp only [decide_eq_false e, if_neg e]; rfl
        · by_cases e : p = l.length
          · simp only [if_pos e] at h
            cases h
            refine ⟨by simp only [uu_same, List.length_append, List.length_cons, List.length_nil], by simp only [List.length_append, List.length_cons, List.length_nil]; omega, fun t ht => ?_⟩
            rw [List.length_append, List.length_singleton] at ht
            by_cases e9 : t = cs.length
            · subst e9
              rw [getD_end]
              exact rowD_agr (mx_u_ne (by omega)) (r1 c rfl)
            · rw [getD_app (by omega)]
              exact rowD_agr (by show mx_u _ _ _ _ _ = _; rw [mx_u_ne (by omega), f1.1 _ (by omega) (by omega)]) (hR t (by omega))
          · simp only [if_neg e] at h
            cases h
  | succ m ih =>
    intro i cs σ hc hi H h3 hR
    obtain ⟨σ1, c1, H1, r1, f1⟩ := s_clause (d := d) (a := 63 + cs.length) ok hi (by omega) H
    have hle := tkC_le hi
    have hs := prs_s (l := l) (m := m + 1) (i := i) (cs := cs)
    obtain ⟨T1, T2, T3⟩ := id H
    cases hk : tkC l i with
    | mk r p =>
      rw [hk] at hs c1 H1 r1 hle
      cases r with
      | none =>
        have hs : prs l (m + 1 + 1) i cs = (none, p) := hs
        rw [hs]
        refine ⟨σ1, fun q => ?_, H1.2.2, fun cs' h => by (cases h), f1.P (by omega)⟩
        simp only [Option.isSome_none] at c1
        simp only [E_X5_parse_12]
        simp (disch := omega) only [true_and, and_true, and_self, exists_eq_left, Option.toList_some, Option.toList_none, List.cons_append, List.nil_append, List.append_nil, i2_i, i2_r, i2_n, nz0, nz1, true_or, or_true, Nat.reduceAdd, Nat.le_refl, Nat.reduceLT, Nat.reduceLeDiff, ↓E_X5_parse_0, ↓E_X5_parse_1, ↓E_X5_parse_2, ↓E_X5_parse_5, ↓E_X5_parse_6, ↓E_X5_parse_7, ↓E_X5_parse_10, ↓E_X5_parse_11, ↓E_X5_parse_13, ↓E_X5_parse_16, ↓E_X5_parse_17, ↓E_X5_parse_20, ↓E_X5_parse_22, ↓E_X5_parse_25, ↓E_X5_parse_26, ↓E_X5_parse_27, ↓E_X5_parse_30, ↓E_X5_parse_31, ↓E_X5_parse_34, ↓E_X5_parse_35, ↓E_X5_parse_38, ↓E_X5_parse_41, ↓E_X5_parse_42, ↓E_X5_parse_44, ↓E_X5_parse_45, ↓E_X5_parse_48, ↓E_X5_parse_49, ↓E_X5_parse_50, ↓E_X5_parse_53, ↓E_X5_parse_54, ↓E_X5_parse_57, ↓E_X5_parse_59, ↓E_X5_parse_62, ↓E_X5_parse_63, ↓E_X5_parse_65, ↓E_X5_parse_68, ↓E_X5_parse_71, ↓E_X5_parse_72, ↓E_X5_parse_75, ↓E_X5_parse_76, ↓E_X5_parse_77, ↓E_X5_parse_80, ↓E_X5_parse_81, ↓E_X5_parse_84, ↓E_X5_parse_85, ↓E_X5_parse_88, ↓E_X5_parse_91, ↓E_X5_parse_92, ↓E_X5_parse_95, ↓E_X5_parse_96, if_neg (show ¬ (1 : Int32) = 0 by decide), kd_5, kd_12, ln_12, h3, lt12, le12, if_neg (show ¬ 12 ≤ cs.length by omega), if_pos (show cs.length < 12 by omega), vin, clN, ptrG, c1, bzf, if_true, Option.isSome_none]
        rfl
      | some c =>
        have hs : prs l (m + 1 + 1) i cs = if m + 1 ≠ 0 ∧ sgB l 59 p = true then prs l (m + 1) (p + 1) (cs ++ [c]) else (if p = l.length then some (cs ++ [c]) else none, p) := hs
        simp only [Option.isSome_some] at c1
        have h31 : σ1.1 60 3 = nI cs.length := by rw [f1.2.1 3 (by omega)]; exact h3
        have H2 : txI l p (mx_u σ1.1 60 3 (nI (cs.length + 1))) := by
          obtain ⟨b1, b2, b3⟩ := H1
          refine ⟨?_, fun i hi => ?_, ?_⟩
          · simp (disch := omega) only [uu_col]; exact b1
          · simp (disch := omega) only [uu_row]; exact b2 i hi
          · simp (disch := omega) only [uu_col]; exact b3
        have F2 : frP σ (mx_u σ1.1 60 3 (nI (cs.length + 1)), σ1.2) := (f1.P (by omega)).tr (frP.u)
        have hR2 : ∀ t, t < (cs ++ [c]).length → rowD ((cs ++ [c]).getD t (0, 0, 0, 0)) (63 + t) (mx_u σ1.1 60 3 (nI (cs.length + 1))) := by
          intro t ht
          rw [List.length_append, List.length_singleton] at ht
          by_cases e9 : t = cs.length
          · subst e9
            rw [getD_end]
            exact rowD_agr (mx_u_ne (by omega)) (r1 c rfl)
          · rw [getD_app (by omega)]
            exact rowD_agr (by show mx_u _ _ _ _ _ = _; rw [mx_u_ne (by omega), f1.1 _ (by omega) (by omega)]) (hR t (by omega))
        have h32 : (mx_u σ1.1 60 3 (nI (cs.length + 1))) 60 3 = nI (cs ++ [c]).length := by simp only [uu_same, List.length_append, List.length_cons, List.length_nil]
        obtain ⟨σ3, c3, H3, g3, k3, m3⟩ := s_sign (d := d + 1) (c := 59) (σ := (mx_u σ1.1 60 3 (nI (cs.length + 1)), σ1.2)) ok hle (by omega) H2
        have c3' : ∀ q, mx_call (d + 2) m_X5_takeSign [.ref 60, .int 59] (mx_u σ1.1 60 3 (nI (cs.length + 1)), σ1.2) q ↔ q = (some (.int (bz (sgB l 59 p))), σ3) := c3
        have F3 : frP σ σ3 := F2.tr ⟨fun i hi => g3 i (by omega), k3 2 (by omega), m3⟩
        have hR3 : ∀ t, t < (cs ++ [c]).length → rowD ((cs ++ [c]).getD t (0, 0, 0, 0)) (63 + t) σ3.1 := fun t ht => rowD_agr (g3 _ (by omega)) (hR2 t ht)
        have h33 : σ3.1 60 3 = nI (cs ++ [c]).length := by rw [k3 3 (by omega)]; exact h32
        have hlc : (cs ++ [c]).length = cs.length + 1 := by simp
        by_cases e2 : sgB l 59 p = true
        · rw [if_pos ⟨by omega, e2⟩] at hs
          rw [hs]
          rw [if_pos e2] at H3
          obtain ⟨σ', r, g⟩ := ih (p + 1) (cs ++ [c]) σ3 (by omega) (sgB_lt e2) H3 h33 hR3
          refine ⟨σ', fun q => ?_, g.1, g.2.1, F3.tr g.2.2⟩
          rw [← r q]
          conv => lhs; rw [E_X5_parse_12]
          simp (disch := omega) only [true_and, and_true, and_self, exists_eq_left, Option.toList_some, Option.toList_none, List.cons_append, List.nil_append, List.append_nil, i2_i, i2_r, i2_n, nz0, nz1, true_or, or_true, Nat.reduceAdd, Nat.le_refl, Nat.reduceLT, Nat.reduceLeDiff, ↓E_X5_parse_0, ↓E_X5_parse_1, ↓E_X5_parse_2, ↓E_X5_parse_5, ↓E_X5_parse_6, ↓E_X5_parse_7, ↓E_X5_parse_10, ↓E_X5_parse_11, ↓E_X5_parse_13, ↓E_X5_parse_16, ↓E_X5_parse_17, ↓E_X5_parse_20, ↓E_X5_parse_22, ↓E_X5_parse_25, ↓E_X5_parse_26, ↓E_X5_parse_27, ↓E_X5_parse_30, ↓E_X5_parse_31, ↓E_X5_parse_34, ↓E_X5_parse_35, ↓E_X5_parse_38, ↓E_X5_parse_41, ↓E_X5_parse_42, ↓E_X5_parse_43, ↓E_X5_parse_44, ↓E_X5_parse_45, ↓E_X5_parse_48, ↓E_X5_parse_49, ↓E_X5_parse_50, ↓E_X5_parse_53, ↓E_X5_parse_54, ↓E_X5_parse_57, ↓E_X5_parse_59, ↓E_X5_parse_62, ↓E_X5_parse_63, ↓E_X5_parse_65, ↓E_X5_parse_68, ↓E_X5_parse_71, ↓E_X5_parse_72, ↓E_X5_parse_75, ↓E_X5_parse_76, ↓E_X5_parse_77, ↓E_X5_parse_81, ↓E_X5_parse_84, ↓E_X5_parse_85, ↓E_X5_parse_88, ↓E_X5_parse_91, ↓E_X5_parse_92, ↓E_X5_parse_95, ↓E_X5_parse_96, if_neg (show ¬ (1 : Int32) = 0 by decide), kd_5, kd_12, ln_12, h3, h31, lt12, le12, if_neg (show ¬ 12 ≤ cs.length by omega), if_pos (show cs.length < 12 by omega), vin, clN, ptrG, c1, bzt, if_false, nI_1, uu_same, if_pos (show cs.length + 1 < 12 by omega), if_neg (show ¬ 12 ≤ cs.length + 1 by omega), if_neg (show ¬ 11 ≤ cs.length by omega), if_pos (show cs.length < 11 by omega), c3', e2]
        · rw [if_neg (fun z => e2 z.2)] at hs
          rw [hs]
          rw [if_neg e2] at H3
          have xp := fun q => x_parse (d := d + 2) (q := q) ok hle H3
          refine ⟨σ3, fun q => ?_, H3.2.2, fun cs' h => ?_, F3⟩
          · conv => lhs; rw [E_X5_parse_12]
            simp (disch := omega) only [true_and, and_true, and_self, exists_eq_left, Option.toList_some, Option.toList_none, List.cons_append, List.nil_append, List.append_nil, i2_i, i2_r, i2_n, nz0, nz1, true_or, or_true, Nat.reduceAdd, Nat.le_refl, Nat.reduceLT, Nat.reduceLeDiff, ↓E_X5_parse_0, ↓E_X5_parse_1, ↓E_X5_parse_2, ↓E_X5_parse_5, ↓E_X5_parse_6, ↓E_X5_parse_7, ↓E_X5_parse_10, ↓E_X5_parse_11, ↓E_X5_parse_13, ↓E_X5_parse_16, ↓E_X5_parse_17, ↓E_X5_parse_20, ↓E_X5_parse_22, ↓E_X5_parse_25, ↓E_X5_parse_26, ↓E_X5_parse_27, ↓E_X5_parse_30, ↓E_X5_parse_31, ↓E_X5_parse_34, ↓E_X5_parse_35, ↓E_X5_parse_38, ↓E_X5_parse_41, ↓E_X5_parse_42, ↓E_X5_parse_43, ↓E_X5_parse_44, ↓E_X5_parse_45, ↓E_X5_parse_48, ↓E_X5_parse_49, ↓E_X5_parse_50, ↓E_X5_parse_53, ↓E_X5_parse_54, ↓E_X5_parse_57, ↓E_X5_parse_59, ↓E_X5_parse_62, ↓E_X5_parse_63, ↓E_X5_parse_65, ↓E_X5_parse_68, ↓E_X5_parse_71, ↓E_X5_parse_72, ↓E_X5_parse_75, ↓E_X5_parse_76, ↓E_X5_parse_77, ↓E_X5_parse_81, ↓E_X5_parse_84, ↓E_X5_parse_85, ↓E_X5_parse_88, ↓E_X5_parse_91, ↓E_X5_parse_92, ↓E_X5_parse_95, ↓E_X5_parse_96, if_neg (show ¬ (1 : Int32) = 0 by decide), kd_5, kd_12, ln_12, h3, h31, lt12, le12, if_neg (show ¬ 12 ≤ cs.length by omega), if_pos (show cs.length < 12 by omega), vin, clN, ptrG, c1, bzt, if_false, nI_1, uu_same, if_pos (show cs.length + 1 < 12 by omega), if_neg (show ¬ 12 ≤ cs.length + 1 by omega), if_neg (show ¬ 11 ≤ cs.length by omega), if_pos (show cs.length < 11 by omega), c3', eq_false_of_ne_true e2, bzf, if_true, xp]
            by_cases e : p = l.length
            · simp only [decide_eq_true e, if_pos e]; rfl
            · simp only [decide_eq_false e, if_neg e]; rfl
          · by_cases e : p = l.length
            · simp only [if_pos e] at h
              cases h
              exact ⟨h33, by omega, hR3⟩
            · simp only [if_neg e] at h
              cases h
set_option maxHeartbeats 2000000 in
theorem s_parse {d : Nat} {l : List Nat} {σ : mx_S} (ok : okL l) (h2 : σ.1 60 2 = nI l.length) (hb : ∀ i, i < l.length → σ.1 61 i = nI (l.getD i 0)) : ∃ σ', (∀ q, mx_call (d + 3) m_X5_parse [.ref 60] σ q ↔ q = (some (.int (bz (prs l 12 0 []).1.isSome)), σ')) ∧ σ'.1 60 4 = nI (prs l 12 0 []).2 ∧ (∀ cs', (prs l 12 0 []).1 = some cs' → σ'.1 60 3 = nI cs'.length ∧ cs'.length ≤ 12 ∧ ∀ t, t < cs'.length → rowD (cs'.getD t (0, 0, 0, 0)) (63 + t) σ'.1) ∧ frP σ σ' := by
  have F0 : frP σ (mx_u (mx_u σ.1 60 4 0) 60 3 0, σ.2) := ⟨fun i hi => by show mx_u _ _ _ _ i = _; rw [mx_u_ne (by omega), mx_u_ne (by omega)], by simp (disch := omega) only [uu_col], rfl⟩
  obtain ⟨σ', c, g1, g2, g3⟩ := l_parse (d := d) ok 11 0 [] (mx_u (mx_u σ.1 60 4 0) 60 3 0, σ.2) rfl (Nat.zero_le _) ⟨by simp (disch := omega) only [uu_col]; exact h2, fun i hi => by simp (disch := omega) only [uu_row]; exact hb i hi, by simp (disch := omega) only [uu_col, uu_same]; rfl⟩ (by simp only [uu_same]; rfl) (fun t ht => by simp at ht)
  refine ⟨σ', fun q => ?_, g1, g2, F0.tr g3⟩
  rw [← c q]
  simp (disch := omega) only [C_X5_parse, true_and, and_true, and_self, exists_eq_left, Option.toList_some, Option.toList_none, List.cons_append, List.nil_append, List.append_nil, i2_i, i2_r, i2_n, nz0, nz1, true_or, or_true, Nat.reduceAdd, Nat.le_refl, Nat.reduceLT, Nat.reduceLeDiff, ↓E_X5_parse_0, ↓E_X5_parse_1, ↓E_X5_parse_2, ↓E_X5_parse_5, ↓E_X5_parse_6, ↓E_X5_parse_7, ↓E_X5_parse_10, ↓E_X5_parse_11, ↓E_X5_parse_13, ↓E_X5_parse_16, ↓E_X5_parse_17, ↓E_X5_parse_20, ↓E_X5_parse_22, ↓E_X5_parse_25, ↓E_X5_parse_26, ↓E_X5_parse_27, ↓E_X5_parse_30, ↓E_X5_parse_31, ↓E_X5_parse_34, ↓E_X5_parse_35, ↓E_X5_parse_38, ↓E_X5_parse_41, ↓E_X5_parse_42, ↓E_X5_parse_43, ↓E_X5_parse_44, ↓E_X5_parse_45, ↓E_X5_parse_48, ↓E_X5_parse_49, ↓E_X5_parse_50, ↓E_X5_parse_53, ↓E_X5_parse_54, ↓E_X5_parse_57, ↓E_X5_parse_59, ↓E_X5_parse_62, ↓E_X5_parse_63, ↓E_X5_parse_65, ↓E_X5_parse_68, ↓E_X5_parse_71, ↓E_X5_parse_72, ↓E_X5_parse_75, ↓E_X5_parse_76, ↓E_X5_parse_77, ↓E_X5_parse_80, ↓E_X5_parse_81, ↓E_X5_parse_84, ↓E_X5_parse_85, ↓E_X5_parse_88, ↓E_X5_parse_91, ↓E_X5_parse_92, ↓E_X5_parse_95, ↓E_X5_parse_96, kd_5]
