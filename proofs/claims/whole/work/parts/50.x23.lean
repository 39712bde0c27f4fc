/-! ===== the class: signs, numbers, clauses ===== -/
theorem mx_u_id {α : Type} {f : Nat → Nat → α} {a k : Nat} {x : α} (h : f a k = x) : mx_u f a k x = f := by
  funext i j
  unfold mx_u
  by_cases e : i = a ∧ j = k
  · rw [if_pos e, e.1, e.2, h]
  · rw [if_neg e]
theorem lt48 {x : Nat} (h : x < 2147483648) : (nI x < (48 : Int32)) = (x < 48) := ltN (b := 48) h (by omega)
theorem le48 {x : Nat} (h : x < 2147483648) : ((48 : Int32) ≤ nI x) = (48 ≤ x) := leN (a := 48) (by omega) h
theorem lt57 {x : Nat} (h : x < 2147483648) : ((57 : Int32) < nI x) = (57 < x) := ltN (a := 57) (by omega) h
theorem le57 {x : Nat} (h : x < 2147483648) : (nI x ≤ (57 : Int32)) = (x ≤ 57) := leN (b := 57) h (by omega)
/-- the text, and how far it is read -/
def txI (l : List Nat) (nx : Nat) (f : Nat → Nat → Int32) : Prop := f 60 2 = nI l.length ∧ (∀ i, i < l.length → f 61 i = nI (l.getD i 0)) ∧ f 60 4 = nI nx
def okL (l : List Nat) : Prop := l.length ≤ 100 ∧ ∀ x ∈ l, x < 128
theorem okL_get {l : List Nat} (h : okL l) (i : Nat) : l.getD i 0 < 128 := by
  rw [List.getD_eq_getElem?_getD]
  by_cases e : i < l.length
  · rw [List.getElem?_eq_getElem e]; exact h.2 _ (List.getElem_mem e)
  · rw [List.getElem?_eq_none (by omega)]; show 0 < 128; omega
/-- only a clause's row and the text's place have changed -/
def frT (a : Nat) (σ σ' : mx_S) : Prop := (∀ i, i ≠ 60 → i ≠ a → σ'.1 i = σ.1 i) ∧ (∀ k, k ≠ 4 → σ'.1 60 k = σ.1 60 k) ∧ σ'.2 = σ.2
theorem frT.tr {a : Nat} {x y z : mx_S} (h : frT a x y) (g : frT a y z) : frT a x z := ⟨fun i h1 h2 => (g.1 i h1 h2).trans (h.1 i h1 h2), fun k hk => (g.2.1 k hk).trans (h.2.1 k hk), g.2.2.trans h.2.2⟩
theorem frT.rf {a : Nat} {x : mx_S} : frT a x x := ⟨fun _ _ _ => rfl, fun _ _ => rfl, rfl⟩
theorem txI_u {l : List Nat} {nx y : Nat} {f : Nat → Nat → Int32} (H : txI l nx f) : txI l y (mx_u f 60 4 (nI y)) := by
  obtain ⟨a, b, c⟩ := H
  refine ⟨?_, fun i hi => ?_, ?_⟩
  · simp (disch := omega) only [uu_col]; exact a
  · simp (disch := omega) only [uu_row]; exact b i hi
  · simp only [uu_same]
set_option maxHeartbeats 2000000 in
theorem s_sign {d nx c : Nat} {σ : mx_S} {l : List Nat} (ok : okL l) (hx : nx ≤ l.length) (hc : c < 128) (H : txI l nx σ.1) : ∃ σ', (∀ q, mx_call (d + 1) m_X5_takeSign [.ref 60, .int (nI c)] σ q ↔ q = (some (.int (bz (sgB l c nx))), σ')) ∧ txI l (if sgB l c nx = true then nx + 1 else nx) σ'.1 ∧ (∀ i, i ≠ 60 → σ'.1 i = σ.1 i) ∧ (∀ k, k ≠ 4 → σ'.1 60 k = σ.1 60 k) ∧ σ'.2 = σ.2 := by
  obtain ⟨T1, T2, T3⟩ := id H
  have hl := ok.1
  by_cases e1 : l.length ≤ nx
  · have es : sgB l c nx = false := by unfold sgB; rw [decide_eq_false (by omega), Bool.false_and]
    rw [es]
    refine ⟨σ, fun q => ?_, H, fun _ _ => rfl, fun _ _ => rfl, rfl⟩
    simp (disch := omega) only [C_X5_takeSign, true_and, and_true, and_self, exists_eq_left, Option.toList_some, Option.toList_none, List.cons_append, List.nil_append, List.append_nil, i2_i, i2_r, i2_n, nz0, nz1, true_or, or_true, Nat.reduceAdd, Nat.le_refl, Nat.reduceLT, Nat.reduceLeDiff, ↓E_X5_takeSign_0, ↓E_X5_takeSign_1, ↓E_X5_takeSign_4, ↓E_X5_takeSign_5, ↓E_X5_takeSign_8, ↓E_X5_takeSign_11, ↓E_X5_takeSign_12, ↓E_X5_takeSign_15, ↓E_X5_takeSign_16, ↓E_X5_takeSign_19, ↓E_X5_takeSign_20, ↓E_X5_takeSign_21, ↓E_X5_takeSign_24, ↓E_X5_takeSign_25, ↓E_X5_takeSign_27, ↓E_X5_takeSign_28, ↓E_X5_takeSign_31, ↓E_X5_takeSign_32, ↓E_X5_takeSign_33, ↓E_X5_takeSign_36, ↓E_X5_takeSign_37, kd_5, T1, T3, leN, ltN, if_pos e1, if_neg (show ¬ nx < l.length by omega)]
    rfl
  · have r := T2 nx (by omega)
    have gb := okL_get ok nx
    by_cases e2 : l.getD nx 0 = c
    · have es : sgB l c nx = true := by unfold sgB; rw [decide_eq_true (by omega), decide_eq_true e2]; rfl
      rw [es]
      refine ⟨(mx_u σ.1 60 4 (nI (nx + 1)), σ.2), fun q => ?_, by rw [if_pos rfl]; exact txI_u H, fun i hi => mx_u_ne hi, fun k hk => uu_col hk, rfl⟩
      simp (disch := omega) only [C_X5_takeSign, true_and, and_true, and_self, exists_eq_left, Option.toList_some, Option.toList_none, List.cons_append, List.nil_append, List.append_nil, i2_i, i2_r, i2_n, nz0, nz1, true_or, or_true, Nat.reduceAdd, Nat.le_refl, Nat.reduceLT, Nat.reduceLeDiff, ↓E_X5_takeSign_0, ↓E_X5_takeSign_1, ↓E_X5_takeSign_4, ↓E_X5_takeSign_5, ↓E_X5_takeSign_8, ↓E_X5_takeSign_11, ↓E_X5_takeSign_12, ↓E_X5_takeSign_15, ↓E_X5_takeSign_16, ↓E_X5_takeSign_19, ↓E_X5_takeSign_20, ↓E_X5_takeSign_21, ↓E_X5_takeSign_24, ↓E_X5_takeSign_25, ↓E_X5_takeSign_26, ↓E_X5_takeSign_27, ↓E_X5_takeSign_28, ↓E_X5_takeSign_31, ↓E_X5_takeSign_32, ↓E_X5_takeSign_33, ↓E_X5_takeSign_36, ↓E_X5_takeSign_37, kd_5, kd_9, ln_100, T1, T3, leN, ltN, if_neg e1, if_pos (show nx < l.length by omega), vin, clN, r, eqN, if_pos e2, nI_1]
      rfl
    · have es : sgB l c nx = false := by unfold sgB; rw [decide_eq_false e2, Bool.and_false]
      rw [es]
      refine ⟨σ, fun q => ?_, H, fun _ _ => rfl, fun _ _ => rfl, rfl⟩
      simp (disch := omega) only [C_X5_takeSign, true_and, and_true, and_self, exists_eq_left, Option.toList_some, Option.toList_none, List.cons_append, List.nil_append, List.append_nil, i2_i, i2_r, i2_n, nz0, nz1, true_or, or_true, Nat.reduceAdd, Nat.le_refl, Nat.reduceLT, Nat.reduceLeDiff, ↓E_X5_takeSign_0, ↓E_X5_takeSign_1, ↓E_X5_takeSign_4, ↓E_X5_takeSign_5, ↓E_X5_takeSign_8, ↓E_X5_takeSign_11, ↓E_X5_takeSign_12, ↓E_X5_takeSign_15, ↓E_X5_takeSign_16, ↓E_X5_takeSign_19, ↓E_X5_takeSign_20, ↓E_X5_takeSign_21, ↓E_X5_takeSign_24, ↓E_X5_takeSign_25, ↓E_X5_takeSign_26, ↓E_X5_takeSign_27, ↓E_X5_takeSign_28, ↓E_X5_takeSign_31, ↓E_X5_takeSign_32, ↓E_X5_takeSign_33, ↓E_X5_takeSign_36, ↓E_X5_takeSign_37, kd_5, kd_9, ln_100, T1, T3, leN, ltN, if_neg e1, if_pos (show nx < l.length by omega), vin, clN, r, eqN, if_neg e2, if_pos e2]
      rfl
theorem dg_val {v x : Nat} (h : 48 ≤ x) : nI v * 10 + nI x - 48 = nI (10 * v + (x - 48)) := by
  have e1 : (10 : Int32) = nI 10 := rfl
  have e2 : (48 : Int32) = nI 48 := rfl
  rw [e1, e2, pk_mul, nI_add, pk_sub (by omega)]
  congr 1
  omega
theorem dgB_iff {l : List Nat} {i : Nat} : dgB l i = true ↔ i < l.length ∧ 48 ≤ l.getD i 0 ∧ l.getD i 0 ≤ 57 := by
  unfold dgB isD
  simp
set_option maxHeartbeats 2000000 in
theorem n_end {d a part : Nat} {σ : mx_S} {q : mx_R} {most g v : Int32} (ha : 63 ≤ a ∧ a ≤ 74) (hp : part < 4) : mx_run d m_X5_takeNumber 87 [some (.ref 60), some (.ref a), some (.int (nI part)), some (.int most), some (.int g), some (.int v)] [] σ q ↔ q = (some (.int (if g ≤ 0 then 0 else 1)), (mx_u σ.1 a part v, σ.2)) := by
  simp (disch := omega) only [true_and, and_true, and_self, exists_eq_left, Option.toList_some, Option.toList_none, List.cons_append, List.nil_append, List.append_nil, i2_i, i2_r, i2_n, nz0, nz1, true_or, or_true, Nat.reduceAdd, Nat.le_refl, Nat.reduceLT, Nat.reduceLeDiff, ↓E_X5_takeNumber_0, ↓E_X5_takeNumber_1, ↓E_X5_takeNumber_3, ↓E_X5_takeNumber_4, ↓E_X5_takeNumber_8, ↓E_X5_takeNumber_9, ↓E_X5_takeNumber_12, ↓E_X5_takeNumber_13, ↓E_X5_takeNumber_16, ↓E_X5_takeNumber_17, ↓E_X5_takeNumber_20, ↓E_X5_takeNumber_23, ↓E_X5_takeNumber_24, ↓E_X5_takeNumber_27, ↓E_X5_takeNumber_28, ↓E_X5_takeNumber_31, ↓E_X5_takeNumber_32, ↓E_X5_takeNumber_34, ↓E_X5_takeNumber_37, ↓E_X5_takeNumber_38, ↓E_X5_takeNumber_41, ↓E_X5_takeNumber_42, ↓E_X5_takeNumber_45, ↓E_X5_takeNumber_46, ↓E_X5_takeNumber_48, ↓E_X5_takeNumber_51, ↓E_X5_takeNumber_53, ↓E_X5_takeNumber_55, ↓E_X5_takeNumber_56, ↓E_X5_takeNumber_57, ↓E_X5_takeNumber_60, ↓E_X5_takeNumber_61, ↓E_X5_takeNumber_64, ↓E_X5_takeNumber_65, ↓E_X5_takeNumber_66, ↓E_X5_takeNumber_68, ↓E_X5_takeNumber_69, ↓E_X5_takeNumber_71, ↓E_X5_takeNumber_72, ↓E_X5_takeNumber_73, ↓E_X5_takeNumber_76, ↓E_X5_takeNumber_77, ↓E_X5_takeNumber_78, ↓E_X5_takeNumber_81, ↓E_X5_takeNumber_84, ↓E_X5_takeNumber_87, ↓E_X5_takeNumber_88, ↓E_X5_takeNumber_89, ↓E_X5_takeNumber_91, ↓E_X5_takeNumber_92, ↓E_X5_takeNumber_94, ↓E_X5_takeNumber_97, ↓E_X5_takeNumber_98, ↓E_X5_takeNumber_101, ↓E_X5_takeNumber_102, kd_8, ln_4, vin, clN]
  by_cases e : g ≤ 0
  · simp only [if_pos e]
  · simp only [if_neg e]
set_option maxHeartbeats 2000000 in
theorem n_one {d a part nx v : Nat} {σ : mx_S} {q : mx_R} {most g : Int32} {l : List Nat} (ok : okL l) (H : txI l nx σ.1) (hg : ¬ most ≤ g) (hd : dgB l nx = true) : mx_run d m_X5_takeNumber 6 [some (.ref 60), some (.ref a), some (.int (nI part)), some (.int most), some (.int g), some (.int (nI v))] [] σ q ↔ mx_run d m_X5_takeNumber 6 [some (.ref 60), some (.ref a), some (.int (nI part)), some (.int most), some (.int (g + 1)), some (.int (nI (10 * v + (l.getD nx 0 - 48))))] [] (mx_u σ.1 60 4 (nI (nx + 1)), σ.2) q := by
  obtain ⟨T1, T2, T3⟩ := id H
  have hl := ok.1
  obtain ⟨d1, d2, d3⟩ := dgB_iff.mp hd
  have r := T2 nx d1
  rw [E_X5_takeNumber_6]
  simp (disch := omega) only [true_and, and_true, and_self, exists_eq_left, Option.toList_some, Option.toList_none, List.cons_append, List.nil_append, List.append_nil, i2_i, i2_r, i2_n, nz0, nz1, true_or, or_true, Nat.reduceAdd, Nat.le_refl, Nat.reduceLT, Nat.reduceLeDiff, ↓E_X5_takeNumber_0, ↓E_X5_takeNumber_1, ↓E_X5_takeNumber_3, ↓E_X5_takeNumber_4, ↓E_X5_takeNumber_8, ↓E_X5_takeNumber_9, ↓E_X5_takeNumber_12, ↓E_X5_takeNumber_13, ↓E_X5_takeNumber_16, ↓E_X5_takeNumber_17, ↓E_X5_takeNumber_20, ↓E_X5_takeNumber_23, ↓E_X5_takeNumber_24, ↓E_X5_takeNumber_27, ↓E_X5_takeNumber_28, ↓E_X5_takeNumber_31, ↓E_X5_takeNumber_32, ↓E_X5_takeNumber_34, ↓E_X5_takeNumber_37, ↓E_X5_takeNumber_38, ↓E_X5_takeNumber_41, ↓E_X5_takeNumber_42, ↓E_X5_takeNumber_45, ↓E_X5_takeNumber_46, ↓E_X5_takeNumber_48, ↓E_X5_takeNumber_51, ↓E_X5_takeNumber_53, ↓E_X5_takeNumber_55, ↓E_X5_takeNumber_56, ↓E_X5_takeNumber_57, ↓E_X5_takeNumber_60, ↓E_X5_takeNumber_61, ↓E_X5_takeNumber_64, ↓E_X5_takeNumber_65, ↓E_X5_takeNumber_66, ↓E_X5_takeNumber_68, ↓E_X5_takeNumber_69, ↓E_X5_takeNumber_71, ↓E_X5_takeNumber_72, ↓E_X5_takeNumber_73, ↓E_X5_takeNumber_76, ↓E_X5_takeNumber_77, ↓E_X5_takeNumber_78, ↓E_X5_takeNumber_81, ↓E_X5_takeNumber_84, ↓E_X5_takeNumber_88, ↓E_X5_takeNumber_89, ↓E_X5_takeNumber_91, ↓E_X5_takeNumber_92, ↓E_X5_takeNumber_94, ↓E_X5_takeNumber_97, ↓E_X5_takeNumber_98, ↓E_X5_takeNumber_101, ↓E_X5_takeNumber_102, if_neg hg, kd_5, kd_9, ln_100, T1, T3, leN, ltN, if_neg (show ¬ l.length ≤ nx by omega), if_pos d1, vin, clN, r, lt48, le48, lt57, le57, if_pos d2, if_pos d3, if_neg (show ¬ l.getD nx 0 < 48 by omega), if_neg (show ¬ 57 < l.getD nx 0 by omega), dg_val, nI_1]
set_option maxHeartbeats 2000000 in
theorem n_no {d a part nx : Nat} {σ : mx_S} {q : mx_R} {most g v : Int32} {l : List Nat} (ok : okL l) (hx : nx ≤ l.length) (H : txI l nx σ.1) (hd : most ≤ g ∨ dgB l nx = false) : mx_run d m_X5_takeNumber 6 [some (.ref 60), some (.ref a), some (.int (nI part)), some (.int most), some (.int g), some (.int v)] [] σ q ↔ mx_run d m_X5_takeNumber 87 [some (.ref 60), some (.ref a), some (.int (nI part)), some (.int most), some (.int g), some (.int v)] [] σ q := by
  obtain ⟨T1, T2, T3⟩ := id H
  have hl := ok.1
  have gb := okL_get ok nx
  rw [E_X5_takeNumber_6]
  by_cases e0 : most ≤ g
  · simp (disch := omega) only [true_and, and_true, and_self, exists_eq_left, Option.toList_some, Option.toList_none, List.cons_append, List.nil_append, List.append_nil, i2_i, i2_r, i2_n, nz0, nz1, true_or, or_true, Nat.reduceAdd, Nat.le_refl, Nat.reduceLT, Nat.reduceLeDiff, ↓E_X5_takeNumber_0, ↓E_X5_takeNumber_1, ↓E_X5_takeNumber_3, ↓E_X5_takeNumber_4, ↓E_X5_takeNumber_8, ↓E_X5_takeNumber_9, ↓E_X5_takeNumber_12, ↓E_X5_takeNumber_13, ↓E_X5_takeNumber_16, ↓E_X5_takeNumber_17, ↓E_X5_takeNumber_20, ↓E_X5_takeNumber_23, ↓E_X5_takeNumber_24, ↓E_X5_takeNumber_27, ↓E_X5_takeNumber_28, ↓E_X5_takeNumber_31, ↓E_X5_takeNumber_32, ↓E_X5_takeNumber_34, ↓E_X5_takeNumber_37, ↓E_X5_takeNumber_38, ↓E_X5_takeNumber_41, ↓E_X5_takeNumber_42, ↓E_X5_takeNumber_45, ↓E_X5_takeNumber_46, ↓E_X5_takeNumber_48, ↓E_X5_takeNumber_51, ↓E_X5_takeNumber_53, ↓E_X5_takeNumber_55, ↓E_X5_takeNumber_56, ↓E_X5_takeNumber_57, ↓E_X5_takeNumber_60, ↓E_X5_takeNumber_61, ↓E_X5_takeNumber_64, ↓E_X5_takeNumber_65, ↓E_X5_takeNumber_66, ↓E_X5_takeNumber_68, ↓E_X5_takeNumber_69, ↓E_X5_takeNumber_71, ↓E_X5_takeNumber_72, ↓E_X5_takeNumber_73, ↓E_X5_takeNumber_76, ↓E_X5_takeNumber_77, ↓E_X5_takeNumber_78, ↓E_X5_takeNumber_81, ↓E_X5_takeNumber_84, ↓E_X5_takeNumber_88, ↓E_X5_takeNumber_89, ↓E_X5_takeNumber_91, ↓E_X5_takeNumber_92, ↓E_X5_takeNumber_94, ↓E_X5_takeNumber_97, ↓E_X5_takeNumber_98, ↓E_X5_takeNumber_101, ↓E_X5_takeNumber_102, if_pos e0]
  have hd := hd.resolve_left e0
  by_cases e1 : l.length ≤ nx
  · simp (disch := omega) only [true_and, and_true, and_self, exists_eq_left, Option.toList_some, Option.toList_none, List.cons_append, List.nil_append, List.append_nil, i2_i, i2_r, i2_n, nz0, nz1, true_or, or_true, Nat.reduceAdd, Nat.le_refl, Nat.reduceLT, Nat.reduceLeDiff, ↓E_X5_takeNumber_0, ↓E_X5_takeNumber_1, ↓E_X5_takeNumber_3, ↓E_X5_takeNumber_4, ↓E_X5_takeNumber_8, ↓E_X5_takeNumber_9, ↓E_X5_takeNumber_12, ↓E_X5_takeNumber_13, ↓E_X5_takeNumber_16, ↓E_X5_takeNumber_17, ↓E_X5_takeNumber_20, ↓E_X5_takeNumber_23, ↓E_X5_takeNumber_24, ↓E_X5_takeNumber_27, ↓E_X5_takeNumber_28, ↓E_X5_takeNumber_31, ↓E_X5_takeNumber_32, ↓E_X5_takeNumber_34, ↓E_X5_takeNumber_37, ↓E_X5_takeNumber_38, ↓E_X5_takeNumber_41, ↓E_X5_takeNumber_42, ↓E_X5_takeNumber_45, ↓E_X5_takeNumber_46, ↓E_X5_takeNumber_48, ↓E_X5_takeNumber_51, ↓E_X5_takeNumber_53, ↓E_X5_takeNumber_55, ↓E_X5_takeNumber_56, ↓E_X5_takeNumber_57, ↓E_X5_takeNumber_60, ↓E_X5_takeNumber_61, ↓E_X5_takeNumber_64, ↓E_X5_takeNumber_65, ↓E_X5_takeNumber_66, ↓E_X5_takeNumber_68, ↓E_X5_takeNumber_69, ↓E_X5_takeNumber_71, ↓E_X5_takeNumber_72, ↓E_X5_takeNumber_73, ↓E_X5_takeNumber_76, ↓E_X5_takeNumber_77, ↓E_X5_takeNumber_78, ↓E_X5_takeNumber_81, ↓E_X5_takeNumber_84, ↓E_X5_takeNumber_88, ↓E_X5_takeNumber_89, ↓E_X5_takeNumber_91, ↓E_X5_takeNumber_92, ↓E_X5_takeNumber_94, ↓E_X5_takeNumber_97, ↓E_X5_takeNumber_98, ↓E_X5_takeNumber_101, ↓E_X5_takeNumber_102, if_neg e0, kd_5, T1, T3, leN, ltN, if_pos e1, if_neg (show ¬ nx < l.length by omega)]
  have r := T2 nx (by omega)
  by_cases e2 : 48 ≤ l.getD nx 0
  · have e3 : ¬ l.getD nx 0 ≤ 57 := fun z => by rw [dgB_iff.mpr ⟨by omega, e2, z⟩] at hd; cases hd
    simp (disch := omega) only [true_and, and_true, and_self, exists_eq_left, Option.toList_some, Option.toList_none, List.cons_append, List.nil_append, List.append_nil, i2_i, i2_r, i2_n, nz0, nz1, true_or, or_true, Nat.reduceAdd, Nat.le_refl, Nat.reduceLT, Nat.reduceLeDiff, ↓E_X5_takeNumber_0, ↓E_X5_takeNumber_1, ↓E_X5_takeNumber_3, ↓E_X5_takeNumber_4, ↓E_X5_takeNumber_8, ↓E_X5_takeNumber_9, ↓E_X5_takeNumber_12, ↓E_X5_takeNumber_13, ↓E_X5_takeNumber_16, ↓E_X5_takeNumber_17, ↓E_X5_takeNumber_20, ↓E_X5_takeNumber_23, ↓E_X5_takeNumber_24, ↓E_X5_takeNumber_27, ↓E_X5_takeNumber_28, ↓E_X5_takeNumber_31, ↓E_X5_takeNumber_32, ↓E_X5_takeNumber_34, ↓E_X5_takeNumber_37, ↓E_X5_takeNumber_38, ↓E_X5_takeNumber_41, ↓E_X5_takeNumber_42, ↓E_X5_takeNumber_45, ↓E_X5_takeNumber_46, ↓E_X5_takeNumber_48, ↓E_X5_takeNumber_51, ↓E_X5_takeNumber_53, ↓E_X5_takeNumber_55, ↓E_X5_takeNumber_56, ↓E_X5_takeNumber_57, ↓E_X5_takeNumber_60, ↓E_X5_takeNumber_61, ↓E_X5_takeNumber_64, ↓E_X5_takeNumber_65, ↓E_X5_takeNumber_66, ↓E_X5_takeNumber_68, ↓E_X5_takeNumber_69, ↓E_X5_takeNumber_71, ↓E_X5_takeNumber_72, ↓E_X5_takeNumber_73, ↓E_X5_takeNumber_76, ↓E_X5_takeNumber_77, ↓E_X5_takeNumber_78, ↓E_X5_takeNumber_81, ↓E_X5_takeNumber_84, ↓E_X5_takeNumber_88, ↓E_X5_takeNumber_89, ↓E_X5_takeNumber_91, ↓E_X5_takeNumber_92, ↓E_X5_takeNumber_94, ↓E_X5_takeNumber_97, ↓E_X5_takeNumber_98, ↓E_X5_takeNumber_101, ↓E_X5_takeNumber_102, if_neg e0, kd_5, kd_9, ln_100, T1, T3, leN, ltN, if_neg e1, if_pos (show nx < l.length by omega), vin, clN, r, lt48, le48, lt57, le57, if_pos e2, if_neg e3, if_neg (show ¬ l.getD nx 0 < 48 by omega), if_pos (show 57 < l.getD nx 0 by omega)]
  · simp (disch := omega) only [true_and, and_true, and_self, exists_eq_left, Option.toList_some, Option.toList_none, List.cons_append, List.nil_append, List.append_nil, i2_i, i2_r, i2_n, nz0, nz1, true_or, or_true, Nat.reduceAdd, Nat.le_refl, Nat.reduceLT, Nat.reduceLeDiff, ↓E_X5_takeNumber_0, ↓E_X5_takeNumber_1, ↓E_X5_takeNumber_3, ↓E_X5_takeNumber_4, ↓E_X5_takeNumber_8, ↓E_X5_takeNumber_9, ↓E_X5_takeNumber_12, ↓E_X5_takeNumber_13, ↓E_X5_takeNumber_16, ↓E_X5_takeNumber_17, ↓E_X5_takeNumber_20, ↓E_X5_takeNumber_23, ↓E_X5_takeNumber_24, ↓E_X5_takeNumber_27, ↓E_X5_takeNumber_28, ↓E_X5_takeNumber_31, ↓E_X5_takeNumber_32, ↓E_X5_takeNumber_34, ↓E_X5_takeNumber_37, ↓E_X5_takeNumber_38, ↓E_X5_takeNumber_41, ↓E_X5_takeNumber_42, ↓E_X5_takeNumber_45, ↓E_X5_takeNumber_46, ↓E_X5_takeNumber_48, ↓E_X5_takeNumber_51, ↓E_X5_takeNumber_53, ↓E_X5_takeNumber_55, ↓E_X5_takeNumber_56, ↓E_X5_takeNumber_57, ↓E_X5_takeNumber_60, ↓E_X5_takeNumber_61, ↓E_X5_takeNumber_64, ↓E_X5_takeNumber_65, ↓E_X5_takeNumber_66, ↓E_X5_takeNumber_68, ↓E_X5_takeNumber_69, ↓E_X5_takeNumber_71, ↓E_X5_takeNumber_72, ↓E_X5_takeNumber_73, ↓E_X5_takeNumber_76, ↓E_X5_takeNumber_77, ↓E_X5_takeNumber_78, ↓E_X5_takeNumber_81, ↓E_X5_takeNumber_84, ↓E_X5_takeNumber_88, ↓E_X5_takeNumber_89, ↓E_X5_takeNumber_91, ↓E_X5_takeNumber_92, ↓E_X5_takeNumber_94, ↓E_X5_takeNumber_97, ↓E_X5_takeNumber_98, ↓E_X5_takeNumber_101, ↓E_X5_takeNumber_102, if_neg e0, kd_5, kd_9, ln_100, T1, T3, leN, ltN, if_neg e1, if_pos (show nx < l.length by omega), vin, clN, r, lt48, le48, lt57, le57, if_neg e2, if_pos (show l.getD nx 0 < 48 by omega)]
theorem upd_c {f : Nat → Nat → Int32} {a k : Nat} {x : Int32} : mx_u f a k x a = upd (f a) k x := by
  funext j
  unfold mx_u upd
  by_cases e : j = k <;> simp [e]
theorem n_fr {l : List Nat} {a k y : Nat} {σ : mx_S} {nx : Nat} {v : Int32} (ha : 63 ≤ a ∧ a ≤ 74) (H : txI l nx σ.1) : txI l y (mx_u (mx_u σ.1 60 4 (nI y)) a k v) ∧ mx_u (mx_u σ.1 60 4 (nI y)) a k v a = upd (σ.1 a) k v ∧ frT a σ (mx_u (mx_u σ.1 60 4 (nI y)) a k v, σ.2) := by
  refine ⟨?_, ?_, fun i h1 h2 => ?_, fun k9 hk => ?_, rfl⟩
  · obtain ⟨b1, b2, b3⟩ := txI_u (y := y) H
    refine ⟨?_, fun i hi => ?_, ?_⟩
    · simp (disch := omega) only [uu_row] at b1 ⊢; exact b1
    · have := b2 i hi
      simp (disch := omega) only [uu_row] at this ⊢; exact this
    · simp (disch := omega) only [uu_row, uu_same]
  · rw [upd_c, mx_u_ne (by omega)]
  · show mx_u _ _ _ _ i = _
    rw [mx_u_ne h2, mx_u_ne h1]
  · show mx_u _ _ _ _ _ _ = _
    simp (disch := omega) only [uu_row, uu_col]
set_option maxHeartbeats 2000000 in
theorem s_num {d a part nx most : Nat} {σ : mx_S} {l : List Nat} (ok : okL l) (hx : nx ≤ l.length) (ha : 63 ≤ a ∧ a ≤ 74) (hp : part < 4) (hm : most = 1 ∨ most = 2) (H : txI l nx σ.1) : ∃ σ', (∀ q, mx_call (d + 1) m_X5_takeNumber [.ref 60, .ref a, .int (nI part), .int (nI most)] σ q ↔ q = (some (.int (bz (dgB l nx))), σ')) ∧ txI l (nmP l most nx) σ'.1 ∧ σ'.1 a = upd (σ.1 a) part (nI (nmV l most nx)) ∧ frT a σ σ' := by
  refine ⟨(mx_u (mx_u σ.1 60 4 (nI (nmP l most nx))) a part (nI (nmV l most nx)), σ.2), fun q => ?_, n_fr ha H⟩
  have m0 : ¬ nI most ≤ (0 : Int32) := by rcases hm with rfl | rfl <;> decide
  simp (disch := omega) only [C_X5_takeNumber, true_and, and_true, and_self, exists_eq_left, Option.toList_some, Option.toList_none, List.cons_append, List.nil_append, List.append_nil, i2_i, i2_r, i2_n, nz0, nz1, true_or, or_true, Nat.reduceAdd, Nat.le_refl, Nat.reduceLT, Nat.reduceLeDiff, ↓E_X5_takeNumber_0, ↓E_X5_takeNumber_1, ↓E_X5_takeNumber_3, ↓E_X5_takeNumber_4, ↓E_X5_takeNumber_8, ↓E_X5_takeNumber_9, ↓E_X5_takeNumber_12, ↓E_X5_takeNumber_13, ↓E_X5_takeNumber_16, ↓E_X5_takeNumber_17, ↓E_X5_takeNumber_20, ↓E_X5_takeNumber_23, ↓E_X5_takeNumber_24, ↓E_X5_takeNumber_27, ↓E_X5_takeNumber_28, ↓E_X5_takeNumber_31, ↓E_X5_takeNumber_32, ↓E_X5_takeNumber_34, ↓E_X5_takeNumber_37, ↓E_X5_takeNumber_38, ↓E_X5_takeNumber_41, ↓E_X5_takeNumber_42, ↓E_X5_takeNumber_45, ↓E_X5_takeNumber_46, ↓E_X5_takeNumber_48, ↓E_X5_takeNumber_51, ↓E_X5_takeNumber_53, ↓E_X5_takeNumber_55, ↓E_X5_takeNumber_56, ↓E_X5_takeNumber_57, ↓E_X5_takeNumber_60, ↓E_X5_takeNumber_61, ↓E_X5_takeNumber_64, ↓E_X5_takeNumber_65, ↓E_X5_takeNumber_66, ↓E_X5_takeNumber_68, ↓E_X5_takeNumber_69, ↓E_X5_takeNumber_71, ↓E_X5_takeNumber_72, ↓E_X5_takeNumber_73, ↓E_X5_takeNumber_76, ↓E_X5_takeNumber_77, ↓E_X5_takeNumber_78, ↓E_X5_takeNumber_81, ↓E_X5_takeNumber_84, ↓E_X5_takeNumber_87, ↓E_X5_takeNumber_88, ↓E_X5_takeNumber_89, ↓E_X5_takeNumber_91, ↓E_X5_takeNumber_92, ↓E_X5_takeNumber_94, ↓E_X5_takeNumber_97, ↓E_X5_takeNumber_98, ↓E_X5_takeNumber_101, ↓E_X5_takeNumber_102]
  unfold nmP nmV
  by_cases e1 : dgB l nx = false
  · rw [if_pos e1, if_pos e1, n_no ok hx H (Or.inr e1), n_end ha hp, mx_u_id H.2.2, e1]
    rfl
  · have e1t := eq_true_of_ne_false e1
    have hlt := dgB_lt e1
    have H1 := txI_u (y := nx + 1) H
    rw [if_neg e1, if_neg e1, show (0 : Int32) = nI 0 from rfl, n_one (v := 0) ok H (by rw [← show (0 : Int32) = nI 0 from rfl]; exact m0) e1t, e1t, show nI 0 + 1 = (1 : Int32) from rfl]
    have ev : 10 * 0 + (l.getD nx 0 - 48) = l.getD nx 0 - 48 := by omega
    rw [ev]
    by_cases e2 : most = 2 ∧ dgB l (nx + 1) = true
    · obtain ⟨rfl, e2⟩ := e2
      have H2 := txI_u (y := nx + 2) H1
      have hlt2 := dgB_lt (l := l) (i := nx + 1) (by rw [e2]; decide)
      rw [if_pos ⟨rfl, e2⟩, if_pos ⟨rfl, e2⟩, n_one ok H1 (by decide) e2, show (1 : Int32) + 1 = 2 from rfl]
      have e3 : ∀ {x y : Int32}, mx_u (mx_u σ.1 60 4 x) 60 4 y = mx_u σ.1 60 4 y := by
        intro x y
        funext i j
        unfold mx_u
        by_cases e : i = 60 ∧ j = 4
        · rw [if_pos e, if_pos e]
        · rw [if_neg e, if_neg e, if_neg e]
      simp only [e3] at H2 ⊢
      rw [n_no (σ := (mx_u σ.1 60 4 (nI (nx + 2)), σ.2)) ok (show nx + 2 ≤ l.length by omega) H2 (Or.inl (by decide)), n_end ha hp]
      rfl
    · rw [if_neg e2, if_neg e2, n_no (σ := (mx_u σ.1 60 4 (nI (nx + 1)), σ.2)) ok (show nx + 1 ≤ l.length by omega) H1 (by
        rcases hm with rfl | rfl
        · exact Or.inl (by decide)
        · exact Or.inr (eq_false_of_ne_true (fun z => e2 ⟨rfl, z⟩))), n_end ha hp]
      rfl
