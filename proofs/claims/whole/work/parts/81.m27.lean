/-! ===== the reference: read ===== -/
theorem eq12 {x : Nat} (h : x < 2147483648) : (nI x = (12 : Int32)) = (x = 12) := eqN (b := 12) h (by omega)
theorem eq59 {x : Nat} (h : x < 128) : (nI x = (59 : Int32)) = (x = 59) := eqN (b := 59) (by omega) (by omega)
theorem gS_at {l : List Nat} {p wh : Nat} {dn : Int32} {σ : mx_S} (G : gS l p false wh dn σ) : gS l (p + 1) false wh dn (ps σ (p + 1) false) := by
  obtain ⟨hT, h20, h21, h22, h23⟩ := G
  exact ⟨frG.ps.tx hT, ps_20, ps_21, (ps_k (by omega) (by omega)).trans h22, (ps_k (by omega) (by omega)).trans h23⟩
set_option maxHeartbeats 4000000 in
theorem g_turn {d p wh : Nat} {b dn : Int32} {σ : mx_S} {l : List Nat} (ok : okL l) (hp : p ≤ l.length) (hw : wh ≤ 12) (G : gS l p false wh dn σ) : (∀ q, mx_run (d + 6) m_X7_goesThrough 25 [some (.ref 88), some (.int b)] [] σ q ↔ if l.length ≤ p then q = (none, σ) else if wh = 12 ∨ sgB l 59 p = false then q = (none, ps σ p true) else ∃ q1, mx_call (d + 6) m_X7_clause [.ref 88, .int b] (ps σ (p + 1) false) q1 ∧ mx_run (d + 6) m_X7_goesThrough 25 [some (.ref 88), some (.int b)] (q1.1.toList ++ []) q1.2 q) := by
  obtain ⟨hT, h20, h21, h22, h23⟩ := G
  have hl := ok.1
  intro q
  have hs : ps σ p false = σ := ps_self h20 h21
  have c := fun q => m_here (d := d + 5) (F := false) (q := q) ok hT hp
  rw [hs] at c
  have e20 : (mx_u σ.1 88 20 (nI (p + 1)), σ.2) = ps σ (p + 1) false := by
    have := ps_p (σ := σ) (p := p) (p' := p + 1) (F := false)
    rw [hs] at this
    exact this
  have e21 : (mx_u σ.1 88 21 1, σ.2) = ps σ p true := by
    have := ps_F (σ := σ) (p := p) (F := false) (F' := true)
    rw [hs] at this
    exact this
  have e21f : mx_u σ.1 88 21 0 = σ.1 := mx_u_id (show σ.1 88 21 = 0 from h21)
  have fin : mx_run (d + 6) m_X7_goesThrough 25 [some (.ref 88), some (.int b)] [] (ps σ p true) q ↔ q = (none, ps σ p true) := by
    rw [E_X7_goesThrough_25]
    simp (disch := omega) only [true_and, and_true, and_self, exists_eq_left, Option.toList_some, Option.toList_none, List.cons_append, List.nil_append, List.append_nil, i2_i, i2_r, i2_n, nz0, nz1, true_or, or_true, Nat.reduceAdd, Nat.le_refl, Nat.reduceLT, Nat.reduceLeDiff, ↓E_X7_goesThrough_0, ↓E_X7_goesThrough_1, ↓E_X7_goesThrough_2, ↓E_X7_goesThrough_5, ↓E_X7_goesThrough_6, ↓E_X7_goesThrough_7, ↓E_X7_goesThrough_10, ↓E_X7_goesThrough_11, ↓E_X7_goesThrough_12, ↓E_X7_goesThrough_15, ↓E_X7_goesThrough_16, ↓E_X7_goesThrough_17, ↓E_X7_goesThrough_20, ↓E_X7_goesThrough_21, ↓E_X7_goesThrough_22, ↓E_X7_goesThrough_26, ↓E_X7_goesThrough_29, ↓E_X7_goesThrough_33, ↓E_X7_goesThrough_36, ↓E_X7_goesThrough_37, ↓E_X7_goesThrough_40, ↓E_X7_goesThrough_43, ↓E_X7_goesThrough_44, ↓E_X7_goesThrough_45, ↓E_X7_goesThrough_48, ↓E_X7_goesThrough_50, ↓E_X7_goesThrough_53, ↓E_X7_goesThrough_54, ↓E_X7_goesThrough_57, ↓E_X7_goesThrough_59, ↓E_X7_goesThrough_62, ↓E_X7_goesThrough_63, ↓E_X7_goesThrough_66, ↓E_X7_goesThrough_67, ↓E_X7_goesThrough_70, ↓E_X7_goesThrough_71, ↓E_X7_goesThrough_74, ↓E_X7_goesThrough_77, ↓E_X7_goesThrough_78, ↓E_X7_goesThrough_79, ↓E_X7_goesThrough_82, ↓E_X7_goesThrough_83, ↓E_X7_goesThrough_84, ↓E_X7_goesThrough_87, ↓E_X7_goesThrough_88, ↓E_X7_goesThrough_89, ↓E_X7_goesThrough_92, ↓E_X7_goesThrough_95, ps_21, bzt, if_false]
  rw [E_X7_goesThrough_25]
  simp (disch := omega) only [true_and, and_true, and_self, exists_eq_left, Option.toList_some, Option.toList_none, List.cons_append, List.nil_append, List.append_nil, i2_i, i2_r, i2_n, nz0, nz1, true_or, or_true, Nat.reduceAdd, Nat.le_refl, Nat.reduceLT, Nat.reduceLeDiff, ↓E_X7_goesThrough_0, ↓E_X7_goesThrough_1, ↓E_X7_goesThrough_2, ↓E_X7_goesThrough_5, ↓E_X7_goesThrough_6, ↓E_X7_goesThrough_7, ↓E_X7_goesThrough_10, ↓E_X7_goesThrough_11, ↓E_X7_goesThrough_12, ↓E_X7_goesThrough_15, ↓E_X7_goesThrough_16, ↓E_X7_goesThrough_17, ↓E_X7_goesThrough_20, ↓E_X7_goesThrough_21, ↓E_X7_goesThrough_22, ↓E_X7_goesThrough_26, ↓E_X7_goesThrough_29, ↓E_X7_goesThrough_32, ↓E_X7_goesThrough_33, ↓E_X7_goesThrough_36, ↓E_X7_goesThrough_37, ↓E_X7_goesThrough_40, ↓E_X7_goesThrough_44, ↓E_X7_goesThrough_45, ↓E_X7_goesThrough_48, ↓E_X7_goesThrough_50, ↓E_X7_goesThrough_53, ↓E_X7_goesThrough_54, ↓E_X7_goesThrough_57, ↓E_X7_goesThrough_59, ↓E_X7_goesThrough_62, ↓E_X7_goesThrough_63, ↓E_X7_goesThrough_66, ↓E_X7_goesThrough_67, ↓E_X7_goesThrough_70, ↓E_X7_goesThrough_71, ↓E_X7_goesThrough_74, ↓E_X7_goesThrough_77, ↓E_X7_goesThrough_78, ↓E_X7_goesThrough_79, ↓E_X7_goesThrough_82, ↓E_X7_goesThrough_83, ↓E_X7_goesThrough_84, ↓E_X7_goesThrough_87, ↓E_X7_goesThrough_88, ↓E_X7_goesThrough_89, ↓E_X7_goesThrough_92, ↓E_X7_goesThrough_95, h21, bzf, if_true, h20, hT.1, leN]
  by_cases e1 : l.length ≤ p
  · rw [if_pos e1, if_pos e1]
  rw [if_neg e1, if_neg e1]
  have hh : hr l p = nI (l.getD p 0) := if_pos (by omega)
  have g := okL_get ok p
  by_cases e2 : wh = 12
  · rw [if_pos (Or.inl e2)]
    simp (disch := omega) only [true_and, and_true, and_self, exists_eq_left, Option.toList_some, Option.toList_none, List.cons_append, List.nil_append, List.append_nil, i2_i, i2_r, i2_n, nz0, nz1, true_or, or_true, Nat.reduceAdd, Nat.le_refl, Nat.reduceLT, Nat.reduceLeDiff, ↓E_X7_goesThrough_0, ↓E_X7_goesThrough_1, ↓E_X7_goesThrough_2, ↓E_X7_goesThrough_5, ↓E_X7_goesThrough_6, ↓E_X7_goesThrough_7, ↓E_X7_goesThrough_10, ↓E_X7_goesThrough_11, ↓E_X7_goesThrough_12, ↓E_X7_goesThrough_15, ↓E_X7_goesThrough_16, ↓E_X7_goesThrough_17, ↓E_X7_goesThrough_20, ↓E_X7_goesThrough_21, ↓E_X7_goesThrough_22, ↓E_X7_goesThrough_26, ↓E_X7_goesThrough_29, ↓E_X7_goesThrough_32, ↓E_X7_goesThrough_33, ↓E_X7_goesThrough_36, ↓E_X7_goesThrough_37, ↓E_X7_goesThrough_40, ↓E_X7_goesThrough_43, ↓E_X7_goesThrough_44, ↓E_X7_goesThrough_45, ↓E_X7_goesThrough_48, ↓E_X7_goesThrough_50, ↓E_X7_goesThrough_53, ↓E_X7_goesThrough_54, ↓E_X7_goesThrough_57, ↓E_X7_goesThrough_59, ↓E_X7_goesThrough_62, ↓E_X7_goesThrough_63, ↓E_X7_goesThrough_66, ↓E_X7_goesThrough_67, ↓E_X7_goesThrough_70, ↓E_X7_goesThrough_71, ↓E_X7_goesThrough_74, ↓E_X7_goesThrough_78, ↓E_X7_goesThrough_79, ↓E_X7_goesThrough_82, ↓E_X7_goesThrough_83, ↓E_X7_goesThrough_84, ↓E_X7_goesThrough_87, ↓E_X7_goesThrough_88, ↓E_X7_goesThrough_89, ↓E_X7_goesThrough_92, ↓E_X7_goesThrough_95, h22, eq12, if_pos e2, uu_same, if_neg (show ¬ (1 : Int32) = 0 by decide), e21]
    exact fin
  · by_cases e3 : l.getD p 0 = 59
    · have es : sgB l 59 p = true := by unfold sgB; rw [decide_eq_true (by omega), decide_eq_true e3]; rfl
      rw [if_neg (fun z => z.elim e2 (fun y => by rw [es] at y; cases y))]
      simp (disch := omega) only [true_and, and_true, and_self, exists_eq_left, Option.toList_some, Option.toList_none, List.cons_append, List.nil_append, List.append_nil, i2_i, i2_r, i2_n, nz0, nz1, true_or, or_true, Nat.reduceAdd, Nat.le_refl, Nat.reduceLT, Nat.reduceLeDiff, ↓E_X7_goesThrough_0, ↓E_X7_goesThrough_1, ↓E_X7_goesThrough_2, ↓E_X7_goesThrough_5, ↓E_X7_goesThrough_6, ↓E_X7_goesThrough_7, ↓E_X7_goesThrough_10, ↓E_X7_goesThrough_11, ↓E_X7_goesThrough_12, ↓E_X7_goesThrough_15, ↓E_X7_goesThrough_16, ↓E_X7_goesThrough_17, ↓E_X7_goesThrough_20, ↓E_X7_goesThrough_21, ↓E_X7_goesThrough_22, ↓E_X7_goesThrough_26, ↓E_X7_goesThrough_29, ↓E_X7_goesThrough_32, ↓E_X7_goesThrough_33, ↓E_X7_goesThrough_36, ↓E_X7_goesThrough_37, ↓E_X7_goesThrough_40, ↓E_X7_goesThrough_43, ↓E_X7_goesThrough_44, ↓E_X7_goesThrough_45, ↓E_X7_goesThrough_48, ↓E_X7_goesThrough_50, ↓E_X7_goesThrough_53, ↓E_X7_goesThrough_54, ↓E_X7_goesThrough_57, ↓E_X7_goesThrough_59, ↓E_X7_goesThrough_62, ↓E_X7_goesThrough_63, ↓E_X7_goesThrough_66, ↓E_X7_goesThrough_67, ↓E_X7_goesThrough_70, ↓E_X7_goesThrough_71, ↓E_X7_goesThrough_74, ↓E_X7_goesThrough_77, ↓E_X7_goesThrough_78, ↓E_X7_goesThrough_79, ↓E_X7_goesThrough_82, ↓E_X7_goesThrough_83, ↓E_X7_goesThrough_84, ↓E_X7_goesThrough_87, ↓E_X7_goesThrough_88, ↓E_X7_goesThrough_89, ↓E_X7_goesThrough_92, ↓E_X7_goesThrough_95, h22, eq12, if_neg e2, c, hh, eq59, if_pos e3, e21f, h21, bzf, if_true, h20, nI_1, e20]
    · have es : sgB l 59 p = false := by unfold sgB; rw [decide_eq_false e3, Bool.and_false]
      rw [if_pos (Or.inr es)]
      simp (disch := omega) only [true_and, and_true, and_self, exists_eq_left, Option.toList_some, Option.toList_none, List.cons_append, List.nil_append, List.append_nil, i2_i, i2_r, i2_n, nz0, nz1, true_or, or_true, Nat.reduceAdd, Nat.le_refl, Nat.reduceLT, Nat.reduceLeDiff, ↓E_X7_goesThrough_0, ↓E_X7_goesThrough_1, ↓E_X7_goesThrough_2, ↓E_X7_goesThrough_5, ↓E_X7_goesThrough_6, ↓E_X7_goesThrough_7, ↓E_X7_goesThrough_10, ↓E_X7_goesThrough_11, ↓E_X7_goesThrough_12, ↓E_X7_goesThrough_15, ↓E_X7_goesThrough_16, ↓E_X7_goesThrough_17, ↓E_X7_goesThrough_20, ↓E_X7_goesThrough_21, ↓E_X7_goesThrough_22, ↓E_X7_goesThrough_26, ↓E_X7_goesThrough_29, ↓E_X7_goesThrough_32, ↓E_X7_goesThrough_33, ↓E_X7_goesThrough_36, ↓E_X7_goesThrough_37, ↓E_X7_goesThrough_40, ↓E_X7_goesThrough_43, ↓E_X7_goesThrough_44, ↓E_X7_goesThrough_45, ↓E_X7_goesThrough_48, ↓E_X7_goesThrough_50, ↓E_X7_goesThrough_53, ↓E_X7_goesThrough_54, ↓E_X7_goesThrough_57, ↓E_X7_goesThrough_59, ↓E_X7_goesThrough_62, ↓E_X7_goesThrough_63, ↓E_X7_goesThrough_66, ↓E_X7_goesThrough_67, ↓E_X7_goesThrough_70, ↓E_X7_goesThrough_71, ↓E_X7_goesThrough_74, ↓E_X7_goesThrough_78, ↓E_X7_goesThrough_79, ↓E_X7_goesThrough_82, ↓E_X7_goesThrough_83, ↓E_X7_goesThrough_84, ↓E_X7_goesThrough_87, ↓E_X7_goesThrough_88, ↓E_X7_goesThrough_89, ↓E_X7_goesThrough_92, ↓E_X7_goesThrough_95, h22, eq12, if_neg e2, c, hh, eq59, if_neg e3, uu_same, if_neg (show ¬ (1 : Int32) = 0 by decide), e21]
      exact fin
theorem sg_lt {l : List Nat} {p : Nat} (h : l.length ≤ p) : sgB l 59 p = false := by
  unfold sgB
  rw [decide_eq_false (by omega), Bool.false_and]
set_option maxHeartbeats 4000000 in
theorem l_g1 {d : Nat} {l : List Nat} (ok : okL l) : ∀ m i (cs : List Cl) (σ1 : mx_S) (dn : Int32), cs.length + (m + 1) = 12 → i ≤ l.length → gS l (tkC l i).2 (ocF (tkC l i)) (if ocF (tkC l i) = true then cs.length else cs.length + 1) dn σ1 → ∃ σ', (∀ q, mx_run (d + 6) m_X7_goesThrough 25 [some (.ref 88), some (.int 0)] [] σ1 q ↔ q = (none, σ')) ∧ σ'.1 88 20 = nI (prs l (m + 1) i cs).2 ∧ σ'.1 88 21 = bz (prs l (m + 1) i cs).1.isNone ∧ frG σ1 σ' := by
  intro m
  induction m with
  | zero =>
    intro i cs σ1 dn hc hi G
    have hle := tkC_le hi
    have hs := prs_s (l := l) (m := 0) (i := i) (cs := cs)
    cases hk : tkC l i with
    | mk r p =>
      rw [hk] at hs G hle
      cases r with
      | none =>
        have hs : prs l (0 + 1) i cs = (none, p) := hs
        rw [hs]
        obtain ⟨hT, h20, h21, h22, h23⟩ := G
        have h21 : σ1.1 88 21 = bz true := h21
        refine ⟨σ1, fun q => ?_, h20, h21, frG.rf⟩
        rw [E_X7_goesThrough_25]
        simp (disch := omega) only [true_and, and_true, and_self, exists_eq_left, Option.toList_some, Option.toList_none, List.cons_append, List.nil_append, List.append_nil, i2_i, i2_r, i2_n, nz0, nz1, true_or, or_true, Nat.reduceAdd, Nat.le_refl, Nat.reduceLT, Nat.reduceLeDiff, ↓E_X7_goesThrough_0, ↓E_X7_goesThrough_1, ↓E_X7_goesThrough_2, ↓E_X7_goesThrough_5, ↓E_X7_goesThrough_6, ↓E_X7_goesThrough_7, ↓E_X7_goesThrough_10, ↓E_X7_goesThrough_11, ↓E_X7_goesThrough_12, ↓E_X7_goesThrough_15, ↓E_X7_goesThrough_16, ↓E_X7_goesThrough_17, ↓E_X7_goesThrough_20, ↓E_X7_goesThrough_21, ↓E_X7_goesThrough_22, ↓E_X7_goesThrough_26, ↓E_X7_goesThrough_29, ↓E_X7_goesThrough_33, ↓E_X7_goesThrough_36, ↓E_X7_goesThrough_37, ↓E_X7_goesThrough_40, ↓E_X7_goesThrough_43, ↓E_X7_goesThrough_44, ↓E_X7_goesThrough_45, ↓E_X7_goesThrough_48, ↓E_X7_goesThrough_50, ↓E_X7_goesThrough_53, ↓E_X7_goesThrough_54, ↓E_X7_goesThrough_57, ↓E_X7_goesThrough_59, ↓E_X7_goesThrough_62, ↓E_X7_goesThrough_63, ↓E_X7_goesThrough_66, ↓E_X7_goesThrough_67, ↓E_X7_goesThrough_70, ↓E_X7_goesThrough_71, ↓E_X7_goesThrough_74, ↓E_X7_goesThrough_77, ↓E_X7_goesThrough_78, ↓E_X7_goesThrough_79, ↓E_X7_goesThrough_82, ↓E_X7_goesThrough_83, ↓E_X7_goesThrough_84, ↓E_X7_goesThrough_87, ↓E_X7_goesThrough_88, ↓E_X7_goesThrough_89, ↓E_X7_goesThrough_92, ↓E_X7_goesThrough_95, h21, bzt, if_false]
      | some c =>
        have hs : prs l (0 + 1) i cs = if (0 : Nat) ≠ 0 ∧ sgB l 59 p = true then prs l 0 (p + 1) (cs ++ [c]) else (if p = l.length then some (cs ++ [c]) else none, p) := hs
        rw [if_neg (fun z => z.1 rfl)] at hs
        rw [hs]
        have G : gS l p false (cs.length + 1) dn σ1 := G
        have t := g_turn (d := d) (b := 0) ok hle (by omega) G
        by_cases e : p = l.length
        · simp only [if_pos (show l.length ≤ p by omega)] at t
          rw [if_pos e]
          exact ⟨σ1, t, G.2.1, G.2.2.1, frG.rf⟩
        · simp only [if_neg (show ¬ l.length ≤ p by omega), if_pos (Or.inl (show cs.length + 1 = 12 by omega) : cs.length + 1 = 12 ∨ sgB l 59 p = false)] at t
          rw [if_neg e]
          exact ⟨ps σ1 p true, t, ps_20, ps_21, frG.ps⟩
  | succ m ih =>
    intro i cs σ1 dn hc hi G
    have hle := tkC_le hi
    have hs := prs_s (l := l) (m := m + 1) (i := i) (cs := cs)
    cases hk : tkC l i with
    | mk r p =>
      rw [hk] at hs G hle
      cases r with
      | none =>
        have hs : prs l (m + 1 + 1) i cs = (none, p) := hs
        rw [hs]
        obtain ⟨hT, h20, h21, h22, h23⟩ := G
        have h21 : σ1.1 88 21 = bz true := h21
        refine ⟨σ1, fun q => ?_, h20, h21, frG.rf⟩
        rw [E_X7_goesThrough_25]
        simp (disch := omega) only [true_and, and_true, and_self, exists_eq_left, Option.toList_some, Option.toList_none, List.cons_append, List.nil_append, List.append_nil, i2_i, i2_r, i2_n, nz0, nz1, true_or, or_true, Nat.reduceAdd, Nat.le_refl, Nat.reduceLT, Nat.reduceLeDiff, ↓E_X7_goesThrough_0, ↓E_X7_goesThrough_1, ↓E_X7_goesThrough_2, ↓E_X7_goesThrough_5, ↓E_X7_goesThrough_6, ↓E_X7_goesThrough_7, ↓E_X7_goesThrough_10, ↓E_X7_goesThrough_11, ↓E_X7_goesThrough_12, ↓E_X7_goesThrough_15, ↓E_X7_goesThrough_16, ↓E_X7_goesThrough_17, ↓E_X7_goesThrough_20, ↓E_X7_goesThrough_21, ↓E_X7_goesThrough_22, ↓E_X7_goesThrough_26, ↓E_X7_goesThrough_29, ↓E_X7_goesThrough_33, ↓E_X7_goesThrough_36, ↓E_X7_goesThrough_37, ↓E_X7_goesThrough_40, ↓E_X7_goesThrough_43, ↓E_X7_goesThrough_44, ↓E_X7_goesThrough_45, ↓E_X7_goesThrough_48, ↓E_X7_goesThrough_50, ↓E_X7_goesThrough_53, ↓E_X7_goesThrough_54, ↓E_X7_goesThrough_57, ↓E_X7_goesThrough_59, ↓E_X7_goesThrough_62, ↓E_X7_goesThrough_63, ↓E_X7_goesThrough_66, ↓E_X7_goesThrough_67, ↓E_X7_goesThrough_70, ↓E_X7_goesThrough_71, ↓E_X7_goesThrough_74, ↓E_X7_goesThrough_77, ↓E_X7_goesThrough_78, ↓E_X7_goesThrough_79, ↓E_X7_goesThrough_82, ↓E_X7_goesThrough_83, ↓E_X7_goesThrough_84, ↓E_X7_goesThrough_87, ↓E_X7_goesThrough_88, ↓E_X7_goesThrough_89, ↓E_X7_goesThrough_92, ↓E_X7_goesThrough_95, h21, bzt, if_false]
      | some c =>
        have hs : prs l (m + 1 + 1) i cs = if m + 1 ≠ 0 ∧ sgB l 59 p = true then prs l (m + 1) (p + 1) (cs ++ [c]) else (if p = l.length then some (cs ++ [c]) else none, p) := hs
        have G : gS l p false (cs.length + 1) dn σ1 := G
        have t := g_turn (d := d) (b := 0) ok hle (by omega) G
        by_cases e : l.length ≤ p
        · rw [if_neg (fun z => by rw [sg_lt e] at z; exact absurd z.2 (by decide)), if_pos (Nat.le_antisymm hle e)] at hs
          rw [hs]
          simp only [if_pos e] at t
          exact ⟨σ1, t, G.2.1, G.2.2.1, frG.rf⟩
        · simp only [if_neg e] at t
          by_cases e2 : sgB l 59 p = true
          · rw [if_pos ⟨by omega, e2⟩] at hs
            rw [hs]
            have n2 : ¬ (cs.length + 1 = 12 ∨ sgB l 59 p = false) := fun z => z.elim (by omega) (fun y => by rw [e2] at y; cases y)
            simp only [if_neg n2] at t
            have hlc : (cs ++ [c]).length = cs.length + 1 := by simp
            obtain ⟨σ3, dn', c3, G3, f3⟩ := m_clause0 (d := d) ok (show p + 1 ≤ l.length by omega) (gS_at G)
            rw [← hlc] at G3
            obtain ⟨σ', r, a1, a2, a3⟩ := ih (p + 1) (cs ++ [c]) σ3 dn' (by omega) (by omega) G3
            refine ⟨σ', fun q => ?_, a1, a2, (frG.ps.tr f3).tr a3⟩
            rw [t q]
            simp only [c3, exists_eq_left, Option.toList_none, List.nil_append]
            exact r q
          · rw [if_neg (fun z => e2 z.2), if_neg (show ¬ p = l.length by omega)] at hs
            rw [hs]
            simp only [if_pos (Or.inr (eq_false_of_ne_true e2) : cs.length + 1 = 12 ∨ sgB l 59 p = false)] at t
            exact ⟨ps σ1 p true, t, ps_20, ps_21, frG.ps⟩
set_option maxHeartbeats 4000000 in
theorem m_goes1 {d : Nat} {l : List Nat} {σ : mx_S} (ok : okL l) (hT : txM2 l σ) : ∃ σ', (∀ q, mx_call (d + 7) m_X7_goesThrough [.ref 88, .int 0] σ q ↔ q = (none, σ')) ∧ σ'.1 88 20 = nI (prs l 12 0 []).2 ∧ σ'.1 88 21 = bz (prs l 12 0 []).1.isNone ∧ frG σ σ' := by
  have f0 : frG σ (mx_u (mx_u (mx_u (mx_u σ.1 88 20 0) 88 22 0) 88 23 0) 88 21 0, σ.2) := (((frG.u (σ := σ) (k := 20) (x := 0) (by omega)).tr (frG.u (k := 22) (x := 0) (by omega))).tr (frG.u (k := 23) (x := 0) (by omega))).tr (frG.u (k := 21) (x := 0) (by omega))
  have G : gS l 0 false 0 0 (mx_u (mx_u (mx_u (mx_u σ.1 88 20 0) 88 22 0) 88 23 0) 88 21 0, σ.2) := ⟨f0.tx hT, by simp (disch := omega) only [uu_col, uu_same]; rfl, by simp only [uu_same]; rfl, by simp (disch := omega) only [uu_col, uu_same]; rfl, by simp (disch := omega) only [uu_col, uu_same]⟩
  obtain ⟨σ1, dn, c1, G1, f1⟩ := m_clause0 (d := d) ok (Nat.zero_le _) G
  obtain ⟨σ', r, a1, a2, a3⟩ := l_g1 (d := d) ok 11 0 [] σ1 dn rfl (Nat.zero_le _) G1
  refine ⟨σ', fun q => ?_, a1, a2, (f0.tr f1).tr a3⟩
  rw [← r q]
  simp (disch := omega) only [C_X7_goesThrough, true_and, and_true, and_self, exists_eq_left, Option.toList_some, Option.toList_none, List.cons_append, List.nil_append, List.append_nil, i2_i, i2_r, i2_n, nz0, nz1, true_or, or_true, Nat.reduceAdd, Nat.le_refl, Nat.reduceLT, Nat.reduceLeDiff, ↓E_X7_goesThrough_0, ↓E_X7_goesThrough_1, ↓E_X7_goesThrough_2, ↓E_X7_goesThrough_5, ↓E_X7_goesThrough_6, ↓E_X7_goesThrough_7, ↓E_X7_goesThrough_10, ↓E_X7_goesThrough_11, ↓E_X7_goesThrough_12, ↓E_X7_goesThrough_15, ↓E_X7_goesThrough_16, ↓E_X7_goesThrough_17, ↓E_X7_goesThrough_20, ↓E_X7_goesThrough_21, ↓E_X7_goesThrough_22, ↓E_X7_goesThrough_26, ↓E_X7_goesThrough_29, ↓E_X7_goesThrough_32, ↓E_X7_goesThrough_33, ↓E_X7_goesThrough_36, ↓E_X7_goesThrough_37, ↓E_X7_goesThrough_40, ↓E_X7_goesThrough_43, ↓E_X7_goesThrough_44, ↓E_X7_goesThrough_45, ↓E_X7_goesThrough_48, ↓E_X7_goesThrough_50, ↓E_X7_goesThrough_53, ↓E_X7_goesThrough_54, ↓E_X7_goesThrough_57, ↓E_X7_goesThrough_59, ↓E_X7_goesThrough_62, ↓E_X7_goesThrough_63, ↓E_X7_goesThrough_66, ↓E_X7_goesThrough_67, ↓E_X7_goesThrough_70, ↓E_X7_goesThrough_71, ↓E_X7_goesThrough_74, ↓E_X7_goesThrough_77, ↓E_X7_goesThrough_78, ↓E_X7_goesThrough_79, ↓E_X7_goesThrough_82, ↓E_X7_goesThrough_83, ↓E_X7_goesThrough_84, ↓E_X7_goesThrough_87, ↓E_X7_goesThrough_88, ↓E_X7_goesThrough_89, ↓E_X7_goesThrough_92, ↓E_X7_goesThrough_95, c1]
theorem F_tx {w : Vw} {t : List Nat} : (∀ a m b, F_job (setTx w t) a m b = ((F_job w a m b).1, setTx (F_job w a m b).2 t)) ∧ (∀ a b v, F_renew (setTx w t) a b v = ((F_renew w a b v).1, setTx (F_renew w a b v).2 t)) ∧ ∀ x v, F_set (setTx w t) x v = ((F_set w x v).1, setTx (F_set w x v).2 t) := by
  refine ⟨fun a m b => ?_, fun a b v => ?_, fun x v => ?_⟩
  · unfold F_job
    show (if (inI a 30 && inI m 30 && inI b 30) = false then (-2, setTx w t) else if w.1.jn = 6 then (-4, setTx w t) else _) = _
    split
    · rfl
    · split <;> rfl
  · unfold F_renew
    show (if (ibI a w.1.jn && ibI b 6) = false then (-1, setTx w t) else if inI v (lim (ixI b)) = false then (-2, setTx w t) else _) = _
    split
    · rfl
    · split <;> rfl
  · unfold F_set
    split
    · rfl
    · split
      · rfl
      · split <;> rfl
theorem F_t3 {w : Vw} : (∀ a m b, (F_job w a m b).2.2.2.1 = w.2.2.1) ∧ (∀ a b v, (F_renew w a b v).2.2.2.1 = w.2.2.1) ∧ ∀ x v, (F_set w x v).2.2.2.1 = w.2.2.1 := by
  refine ⟨fun a m b => ?_, fun a b v => ?_, fun x v => ?_⟩
  · unfold F_job
    split
    · rfl
    · split <;> rfl
  · unfold F_renew
    split
    · rfl
    · split <;> rfl
  · unfold F_set
    split
    · rfl
    · split
      · rfl
      · split <;> rfl
theorem doC_t3 {w : Vw} {c : Cl} : (doC w c).2.2.2.1 = w.2.2.1 := by
  obtain ⟨h1, h2, h3⟩ := F_t3 (w := w)
  unfold doC
  split
  · split
    · exact h2 _ _ _
    · exact (F_t3.2.1 _ _ _).trans (h2 _ _ _)
  · split
    · exact h2 _ _ _
    · split
      · exact h1 _ _ _
      · split
        · exact h3 _ _
        · exact h3 _ _
theorem doC_tx {w : Vw} {t : List Nat} {c : Cl} : doC (setTx w t) c = ((doC w c).1, setTx (doC w c).2 t) := by
  obtain ⟨h1, h2, h3⟩ := F_tx (w := w) (t := t)
  unfold doC
  by_cases e1 : c.1 = 99
  · rw [if_pos e1, if_pos e1, h2]
    by_cases e : (F_renew w (nI c.2.1) 3 (nI c.2.2.1)).1 < 0
    · rw [if_pos e, if_pos e]
    · rw [if_neg e, if_neg e, F_tx.2.1]
  rw [if_neg e1, if_neg e1]
  by_cases e2 : c.1 = 100
  · rw [if_pos e2, if_pos e2, h2]
  rw [if_neg e2, if_neg e2]
  by_cases e3 : c.1 = 106
  · rw [if_pos e3, if_pos e3, h1]
  rw [if_neg e3, if_neg e3]
  by_cases e4 : c.1 = 109
  · rw [if_pos e4, if_pos e4, h3]
  · rw [if_neg e4, if_neg e4, h3]
theorem fold_tx {t : List Nat} : ∀ (cs : List Cl) (n : Nat) (w : Vw), cs.foldl doS (n, setTx w t) = ((cs.foldl doS (n, w)).1, setTx (cs.foldl doS (n, w)).2 t)
  | [], _, _ => rfl
  | c :: cs, n, w => by
    rw [List.foldl_cons, List.foldl_cons]
    have e : doS (n, setTx w t) c = ((doS (n, w) c).1, setTx (doS (n, w) c).2 t) := by
      unfold doS
      rw [doC_tx]
    rw [e]
    exact fold_tx cs _ _
set_option maxHeartbeats 4000000 in
theorem l_g2 {d : Nat} {l : List Nat} (ok : okL l) : ∀ m i (cs : List Cl) (c : Cl) (p n : Nat) (w : Vw) (σ1 : mx_S) (fin : List Cl) (P : Nat), cs.length + (m + 1) = 12 → i ≤ l.length → tkC l i = (some c, p) → prs l (m + 1) i cs = (some fin, P) → vwM w σ1 → gS l p false (cs.length + 1) (nI n) σ1 → ∃ σ' ds, fin = cs ++ c :: ds ∧ (∀ q, mx_run (d + 6) m_X7_goesThrough 25 [some (.ref 88), some (.int 1)] [] σ1 q ↔ q = (none, σ')) ∧ vwM (ds.foldl doS (n, w)).2 σ' ∧ σ'.1 88 23 = nI (ds.foldl doS (n, w)).1 ∧ loS σ1 σ' := by
  intro m
  induction m with
  | zero =>
    intro i cs c p n w σ1 fin P hc hi hk hf hw G
    have hle := tkC_le hi
    have hs := prs_s (l := l) (m := 0) (i := i) (cs := cs)
    rw [hk] at hs hle
    have hs : prs l (0 + 1) i cs = if (0 : Nat) ≠ 0 ∧ sgB l 59 p = true then prs l 0 (p + 1) (cs ++ [c]) else (if p = l.length then some (cs ++ [c]) else none, p) := hs
    rw [if_neg (fun z => z.1 rfl), hf] at hs
    have t := g_turn (d := d) (b := 1) ok hle (by omega) G
    by_cases e : p = l.length
    · simp only [if_pos (show l.length ≤ p by omega)] at t
      rw [if_pos e] at hs
      cases hs
      exact ⟨σ1, [], rfl, t, hw, G.2.2.2.2, loS.rf⟩
    · rw [if_neg e] at hs
      cases hs
  | succ m ih =>
    intro i cs c p n w σ1 fin P hc hi hk hf hw G
    have hle := tkC_le hi
    have hs := prs_s (l := l) (m := m + 1) (i := i) (cs := cs)
    rw [hk] at hs hle
    have hs : prs l (m + 1 + 1) i cs = if m + 1 ≠ 0 ∧ sgB l 59 p = true then prs l (m + 1) (p + 1) (cs ++ [c]) else (if p = l.length then some (cs ++ [c]) else none, p) := hs
    have t := g_turn (d := d) (b := 1) ok hle (by omega) G
    rw [hf] at hs
    by_cases e : l.length ≤ p
    · rw [if_neg (fun z => by rw [sg_lt e] at z; exact absurd z.2 (by decide)), if_pos (Nat.le_antisymm hle e)] at hs
      cases hs
      simp only [if_pos e] at t
      exact ⟨σ1, [], rfl, t, hw, G.2.2.2.2, loS.rf⟩
    · simp only [if_neg e] at t
      by_cases e2 : sgB l 59 p = true
      · rw [if_pos ⟨by omega, e2⟩] at hs
        have n2 : ¬ (cs.length + 1 = 12 ∨ sgB l 59 p = false) := fun z => z.elim (by omega) (fun y => by rw [e2] at y; cases y)
        simp only [if_neg n2] at t
        have hlc : (cs ++ [c]).length = cs.length + 1 := by simp
        cases hk2 : tkC l (p + 1) with
        | mk r p2 =>
          cases r with
          | none =>
            have := prs_s (l := l) (m := m) (i := p + 1) (cs := cs ++ [c])
            rw [hk2, ← hs] at this
            cases this
          | some c2 =>
            obtain ⟨σ3, c3, hw3, G3, lo3⟩ := m_clause1 (d := d) ok ((frG.ps (σ := σ1)).M.vw hw) (gS_at G) hk2
            rw [← hlc] at G3
            obtain ⟨σ', ds, q1, q2, q3, q4, q5⟩ := ih (p + 1) (cs ++ [c]) c2 p2 (n + (if (doC w c2).1 = true then 1 else 0)) (doC w c2).2 σ3 fin P (by omega) (by omega) hk2 hs.symm hw3 G3
            refine ⟨σ', c2 :: ds, by rw [q1]; simp, fun q => ?_, q3, q4, ((frG.ps (σ := σ1)).M.lo.tr lo3).tr q5⟩
            rw [t q]
            simp only [c3, exists_eq_left, Option.toList_none, List.nil_append]
            exact q2 q
      · rw [if_neg (fun z => e2 z.2), if_neg (show ¬ p = l.length by omega)] at hs
        cases hs
set_option maxHeartbeats 4000000 in
theorem M_read {d : Nat} {σ : mx_S} {w : Vw} (hw : vwM w σ) : ∃ σ', mx_call (d + 8) m_X7_read [.ref 88] σ (some (.int (F_read w).1), σ') ∧ vwM (F_read w).2 σ' ∧ loS σ σ' := by
  have ok : okL w.2.2.1 := hw.1.2.2.1
  have hT : txM2 w.2.2.1 σ := hw.2.2.2.1
  obtain ⟨σ1, c1, h20, h21, f1⟩ := m_goes1 (d := d) ok hT
  have clr : ∀ {w : Vw} {σ : mx_S}, vwM w σ → vwM (setTx w []) (mx_u σ.1 88 15 0, σ.2) ∧ loS σ (mx_u σ.1 88 15 0, σ.2) := fun {w} {σ} hw => ⟨vwM_tx hw ⟨Nat.zero_le _, fun x hx => by simp at hx⟩ ⟨by simp only [uu_same]; rfl, fun i hi => by simp at hi⟩ (fun k h1 h2 => uu_col h2) (fun i h1 h2 h3 h4 => mx_u_ne (by omega)) rfl, fun i hi => ⟨mx_u_ne (by omega), rfl⟩⟩
  have hw1 := f1.M.vw hw
  unfold F_read
  cases hk : prs w.2.2.1 12 0 [] with
  | mk r p =>
    rw [hk] at h20 h21
    cases r with
    | none =>
      simp only [Option.isNone_none] at h21
      obtain ⟨v, lo⟩ := clr hw1
      refine ⟨_, ?_, v, f1.M.lo.tr lo⟩
      simp (disch := omega) only [C_X7_read, true_and, and_true, and_self, exists_eq_left, Option.toList_some, Option.toList_none, List.cons_append, List.nil_append, List.append_nil, i2_i, i2_r, i2_n, nz0, nz1, true_or, or_true, Nat.reduceAdd, Nat.le_refl, Nat.reduceLT, Nat.reduceLeDiff, ↓E_X7_read_0, ↓E_X7_read_1, ↓E_X7_read_2, ↓E_X7_read_5, ↓E_X7_read_7, ↓E_X7_read_8, ↓E_X7_read_11, ↓E_X7_read_12, ↓E_X7_read_13, ↓E_X7_read_14, ↓E_X7_read_17, ↓E_X7_read_21, ↓E_X7_read_22, ↓E_X7_read_25, ↓E_X7_read_26, ↓E_X7_read_29, ↓E_X7_read_30, ↓E_X7_read_31, ↓E_X7_read_32, ↓E_X7_read_35, ↓E_X7_read_36, c1, h20, h21, bzt, if_false]
    | some cs =>
      simp only [Option.isNone_some] at h21
      have hT1 : txM2 w.2.2.1 σ1 := f1.tx hT
      have f0 : frG σ1 (mx_u (mx_u (mx_u (mx_u σ1.1 88 20 0) 88 22 0) 88 23 0) 88 21 0, σ1.2) := (((frG.u (σ := σ1) (k := 20) (x := 0) (by omega)).tr (frG.u (k := 22) (x := 0) (by omega))).tr (frG.u (k := 23) (x := 0) (by omega))).tr (frG.u (k := 21) (x := 0) (by omega))
      have G : gS w.2.2.1 0 false 0 (nI 0) (mx_u (mx_u (mx_u (mx_u σ1.1 88 20 0) 88 22 0) 88 23 0) 88 21 0, σ1.2) := ⟨f0.tx hT1, by simp (disch := omega) only [uu_col, uu_same]; rfl, by simp only [uu_same]; rfl, by simp (disch := omega) only [uu_col, uu_same]; rfl, by simp (disch := omega) only [uu_col, uu_same]; rfl⟩
      cases hk2 : tkC w.2.2.1 0 with
      | mk r2 p2 =>
        cases r2 with
        | none =>
          have := prs_s (l := w.2.2.1) (m := 11) (i := 0) (cs := [])
          rw [hk2, hk] at this
          cases this
        | some c =>
          obtain ⟨σ3, c3, hw3, G3, lo3⟩ := m_clause1 (d := d) ok (f0.M.vw hw1) G hk2
          obtain ⟨σ4, ds, q1, q2, q3, q4, q5⟩ := l_g2 (d := d) ok 11 0 [] c p2 (0 + (if (doC w c).1 = true then 1 else 0)) (doC w c).2 σ3 cs p rfl (Nat.zero_le _) hk2 hk hw3 G3
          have ec : cs = c :: ds := q1
          have ef : cs.foldl doS (0, w) = ds.foldl doS (0 + (if (doC w c).1 = true then 1 else 0), (doC w c).2) := by rw [ec]; rfl
          rw [← ef] at q3 q4
          have cg : ∀ q, mx_call (d + 7) m_X7_goesThrough [.ref 88, .int 1] σ1 q ↔ q = (none, σ4) := fun q => by
            rw [← q2 q]
            simp (disch := omega) only [C_X7_goesThrough, true_and, and_true, and_self, exists_eq_left, Option.toList_some, Option.toList_none, List.cons_append, List.nil_append, List.append_nil, i2_i, i2_r, i2_n, nz0, nz1, true_or, or_true, Nat.reduceAdd, Nat.le_refl, Nat.reduceLT, Nat.reduceLeDiff, ↓E_X7_goesThrough_0, ↓E_X7_goesThrough_1, ↓E_X7_goesThrough_2, ↓E_X7_goesThrough_5, ↓E_X7_goesThrough_6, ↓E_X7_goesThrough_7, ↓E_X7_goesThrough_10, ↓E_X7_goesThrough_11, ↓E_X7_goesThrough_12, ↓E_X7_goesThrough_15, ↓E_X7_goesThrough_16, ↓E_X7_goesThrough_17, ↓E_X7_goesThrough_20, ↓E_X7_goesThrough_21, ↓E_X7_goesThrough_22, ↓E_X7_goesThrough_26, ↓E_X7_goesThrough_29, ↓E_X7_goesThrough_32, ↓E_X7_goesThrough_33, ↓E_X7_goesThrough_36, ↓E_X7_goesThrough_37, ↓E_X7_goesThrough_40, ↓E_X7_goesThrough_43, ↓E_X7_goesThrough_44, ↓E_X7_goesThrough_45, ↓E_X7_goesThrough_48, ↓E_X7_goesThrough_50, ↓E_X7_goesThrough_53, ↓E_X7_goesThrough_54, ↓E_X7_goesThrough_57, ↓E_X7_goesThrough_59, ↓E_X7_goesThrough_62, ↓E_X7_goesThrough_63, ↓E_X7_goesThrough_66, ↓E_X7_goesThrough_67, ↓E_X7_goesThrough_70, ↓E_X7_goesThrough_71, ↓E_X7_goesThrough_74, ↓E_X7_goesThrough_77, ↓E_X7_goesThrough_78, ↓E_X7_goesThrough_79, ↓E_X7_goesThrough_82, ↓E_X7_goesThrough_83, ↓E_X7_goesThrough_84, ↓E_X7_goesThrough_87, ↓E_X7_goesThrough_88, ↓E_X7_goesThrough_89, ↓E_X7_goesThrough_92, ↓E_X7_goesThrough_95, c3]
          obtain ⟨v, lo⟩ := clr q3
          have et := fold_tx (t := []) cs 0 w
          refine ⟨(mx_u σ4.1 88 15 0, σ4.2), ?_, ?_, (((f1.M.lo.tr f0.M.lo).tr lo3).tr q5).tr lo⟩
          · simp (disch := omega) only [C_X7_read, true_and, and_true, and_self, exists_eq_left, Option.toList_some, Option.toList_none, List.cons_append, List.nil_append, List.append_nil, i2_i, i2_r, i2_n, nz0, nz1, true_or, or_true, Nat.reduceAdd, Nat.le_refl, Nat.reduceLT, Nat.reduceLeDiff, ↓E_X7_read_0, ↓E_X7_read_1, ↓E_X7_read_2, ↓E_X7_read_5, ↓E_X7_read_7, ↓E_X7_read_8, ↓E_X7_read_11, ↓E_X7_read_12, ↓E_X7_read_13, ↓E_X7_read_14, ↓E_X7_read_17, ↓E_X7_read_20, ↓E_X7_read_21, ↓E_X7_read_22, ↓E_X7_read_25, ↓E_X7_read_26, ↓E_X7_read_29, ↓E_X7_read_30, ↓E_X7_read_31, ↓E_X7_read_32, ↓E_X7_read_35, ↓E_X7_read_36, c1, h20, h21, bzf, if_true, cg, q4]
            rw [et]
          · show vwM (cs.foldl doS (0, setTx w [])).2 _
            rw [et]
            exact v
