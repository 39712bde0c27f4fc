/-! ===== the class: behind all events ===== -/
def evS (s : Nat × (Nat → Nat → Nat)) (e : Nat × Nat) : Nat × (Nat → Nat → Nat) := if e.1 = 2 then (e.2, s.2) else if e.1 = 0 then (s.1, upV1 s.2 e.2 0 (min (s.2 e.2 0 + 1) 30)) else if e.1 = 1 then (s.1, upV1 s.2 e.2 2 (min (s.2 e.2 2 + 1) 30)) else (s.1, upV1 s.2 e.2 1 0)
theorem min30 {a : Nat} (ha : a < 2147483648) : (if (30 : Int32) < nI a then 30 else nI a) = nI (min a 30) := nI_min (a := a) (b := 30) ha (by omega)
theorem evS_ok {n : Nat} {s : Nat × (Nat → Nat → Nat)} {e : Nat × Nat} (h1 : s.1 ≤ 2) (h2 : okV n s.2) (h3 : e.1 = 2 → e.2 ≤ 2) : (evS s e).1 ≤ 2 ∧ okV n (evS s e).2 := by
  unfold evS
  split
  · rename_i h; exact ⟨h3 h, h2⟩
  · split
    · exact ⟨h1, okV_up h2 (by omega)⟩
    · split
      · exact ⟨h1, okV_up h2 (by omega)⟩
      · exact ⟨h1, okV_up h2 (by omega)⟩
theorem trX_md {n md am x : Nat} {V : Nat → Nat → Nat} {O : Nat → Nat} {f : Nat → Nat → Int32} (hn : n ≤ 6) (H : trX n md am V O f) : trX n x am V O (mx_u f 37 1 (nI x)) := by
  obtain ⟨a0, a1, a2, a3, a4⟩ := H
  refine ⟨?_, ?_, ?_, fun i l hi hl => ?_, fun p hp => ?_⟩
  · simp (disch := omega) only [uu_col]; exact a0
  · simp only [uu_same]
  · simp (disch := omega) only [uu_col]; exact a2
  · simp (disch := omega) only [uu_row]; exact a3 i l hi hl
  · simp (disch := omega) only [uu_row]; exact a4 p hp
set_option maxHeartbeats 4000000 in
theorem s_happen {d n am x j : Nat} {σ : mx_S} {s : Nat × (Nat → Nat → Nat)} {O : Nat → Nat} (hn : n ≤ 6) (hV : okV n s.2) (hx : x ≤ 3) (hj : x ≠ 2 → j < n) (H : trX n s.1 am s.2 O σ.1) : ∃ σ', (∀ q, mx_call (d + 2) m_X6_happen [.ref 0, .int (nI x), .int (nI j)] σ q ↔ q = (none, σ')) ∧ trX n (evS s (x, j)).1 am (evS s (x, j)).2 O σ'.1 ∧ scX σ σ' := by
  obtain ⟨a0, a1, a2, a3, a4⟩ := id H
  unfold evS
  by_cases e2 : x = 2
  · subst e2
    refine ⟨(mx_u σ.1 37 1 (nI j), σ.2), fun q => ?_, trX_md hn H, scX.u (by omega) (by omega) (by omega)⟩
    simp (disch := omega) only [C_X6_happen, true_and, and_true, and_self, exists_eq_left, Option.toList_some, Option.toList_none, List.cons_append, List.nil_append, List.append_nil, i2_i, i2_r, i2_n, nz0, nz1, true_or, or_true, Nat.reduceAdd, Nat.le_refl, Nat.reduceLT, Nat.reduceLeDiff, ↓E_X6_happen_0, ↓E_X6_happen_1, ↓E_X6_happen_2, ↓E_X6_happen_5, ↓E_X6_happen_6, ↓E_X6_happen_9, ↓E_X6_happen_10, ↓E_X6_happen_13, ↓E_X6_happen_15, ↓E_X6_happen_18, ↓E_X6_happen_19, ↓E_X6_happen_22, ↓E_X6_happen_25, ↓E_X6_happen_26, ↓E_X6_happen_27, ↓E_X6_happen_30, ↓E_X6_happen_33, ↓E_X6_happen_34, ↓E_X6_happen_35, ↓E_X6_happen_36, ↓E_X6_happen_37, ↓E_X6_happen_40, ↓E_X6_happen_41, ↓E_X6_happen_42, ↓E_X6_happen_43, ↓E_X6_happen_44, ↓E_X6_happen_45, ↓E_X6_happen_46, ↓E_X6_happen_47, ↓E_X6_happen_49, ↓E_X6_happen_52, ↓E_X6_happen_53, ↓E_X6_happen_56, ↓E_X6_happen_57, ↓E_X6_happen_58, ↓E_X6_happen_61, ↓E_X6_happen_62, ↓E_X6_happen_63, ↓E_X6_happen_64, ↓E_X6_happen_65, ↓E_X6_happen_66, ↓E_X6_happen_67, ↓E_X6_happen_68, ↓E_X6_happen_70, ↓E_X6_happen_73, ↓E_X6_happen_74, ↓E_X6_happen_77, ↓E_X6_happen_78, ↓E_X6_happen_79, ↓E_X6_happen_80, ↓E_X6_happen_81, if_pos (show nI 2 = (2 : Int32) by decide), if_neg (show ¬ ¬ nI 2 = (2 : Int32) by decide), kd_3]
  · have hjn := hj e2
    have n2 : ¬ nI x = (2 : Int32) := fun z => e2 ((nI_eq (a := x) (b := 2) (by omega) (by omega)).mp z)
    have b1 : ibI (nI j) n = true := by rw [ibI_nI (by omega)]; simp [hjn]
    have v0 := hV j 0 hjn (by omega)
    have v2 := hV j 2 hjn (by omega)
    have r0 := a3 j 0 hjn (by omega)
    have r2 := a3 j 2 hjn (by omega)
    simp only [if_neg e2]
    by_cases e0 : x = 0
    · subst e0
      refine ⟨(mx_u σ.1 (39 + j) 0 (nI (min (s.2 j 0 + 1) 30)), σ.2), fun q => ?_, by simp only [if_true]; exact trX_set hjn hn H, scX.u (by omega) (by omega) (by omega)⟩
      simp (disch := omega) only [C_X6_happen, true_and, and_true, and_self, exists_eq_left, Option.toList_some, Option.toList_none, List.cons_append, List.nil_append, List.append_nil, i2_i, i2_r, i2_n, nz0, nz1, true_or, or_true, Nat.reduceAdd, Nat.le_refl, Nat.reduceLT, Nat.reduceLeDiff, ↓E_X6_happen_0, ↓E_X6_happen_1, ↓E_X6_happen_2, ↓E_X6_happen_5, ↓E_X6_happen_6, ↓E_X6_happen_9, ↓E_X6_happen_10, ↓E_X6_happen_13, ↓E_X6_happen_14, ↓E_X6_happen_15, ↓E_X6_happen_18, ↓E_X6_happen_19, ↓E_X6_happen_22, ↓E_X6_happen_25, ↓E_X6_happen_26, ↓E_X6_happen_27, ↓E_X6_happen_30, ↓E_X6_happen_33, ↓E_X6_happen_34, ↓E_X6_happen_35, ↓E_X6_happen_36, ↓E_X6_happen_37, ↓E_X6_happen_40, ↓E_X6_happen_41, ↓E_X6_happen_42, ↓E_X6_happen_43, ↓E_X6_happen_44, ↓E_X6_happen_45, ↓E_X6_happen_46, ↓E_X6_happen_47, ↓E_X6_happen_49, ↓E_X6_happen_52, ↓E_X6_happen_53, ↓E_X6_happen_56, ↓E_X6_happen_57, ↓E_X6_happen_58, ↓E_X6_happen_61, ↓E_X6_happen_62, ↓E_X6_happen_63, ↓E_X6_happen_64, ↓E_X6_happen_65, ↓E_X6_happen_66, ↓E_X6_happen_67, ↓E_X6_happen_68, ↓E_X6_happen_70, ↓E_X6_happen_73, ↓E_X6_happen_74, ↓E_X6_happen_77, ↓E_X6_happen_78, ↓E_X6_happen_79, ↓E_X6_happen_80, ↓E_X6_happen_81, if_neg n2, if_pos n2, kd_3, s_hasJob, a0, ibx_N, b1, bz_0, if_neg (show ¬ true = false by decide), kd_12, kd_8, ln_6, vin, clN, ptrG, if_pos (show nI 0 = (0 : Int32) by decide), vin_0, cl_0, r0, nI_1, min30]
    · have n0 : ¬ nI x = (0 : Int32) := fun z => e0 ((nI_eq (a := x) (b := 0) (by omega) (by omega)).mp z)
      simp only [if_neg e0]
      by_cases e1 : x = 1
      · subst e1
        refine ⟨(mx_u σ.1 (39 + j) 2 (nI (min (s.2 j 2 + 1) 30)), σ.2), fun q => ?_, by simp only [if_true]; exact trX_set hjn hn H, scX.u (by omega) (by omega) (by omega)⟩
        simp (disch := omega) only [C_X6_happen, true_and, and_true, and_self, exists_eq_left, Option.toList_some, Option.toList_none, List.cons_append, List.nil_append, List.append_nil, i2_i, i2_r, i2_n, nz0, nz1, true_or, or_true, Nat.reduceAdd, Nat.le_refl, Nat.reduceLT, Nat.reduceLeDiff, ↓E_X6_happen_0, ↓E_X6_happen_1, ↓E_X6_happen_2, ↓E_X6_happen_5, ↓E_X6_happen_6, ↓E_X6_happen_9, ↓E_X6_happen_10, ↓E_X6_happen_13, ↓E_X6_happen_14, ↓E_X6_happen_15, ↓E_X6_happen_18, ↓E_X6_happen_19, ↓E_X6_happen_22, ↓E_X6_happen_25, ↓E_X6_happen_26, ↓E_X6_happen_27, ↓E_X6_happen_30, ↓E_X6_happen_33, ↓E_X6_happen_34, ↓E_X6_happen_35, ↓E_X6_happen_36, ↓E_X6_happen_37, ↓E_X6_happen_40, ↓E_X6_happen_41, ↓E_X6_happen_42, ↓E_X6_happen_43, ↓E_X6_happen_44, ↓E_X6_happen_45, ↓E_X6_happen_46, ↓E_X6_happen_47, ↓E_X6_happen_49, ↓E_X6_happen_52, ↓E_X6_happen_53, ↓E_X6_happen_56, ↓E_X6_happen_57, ↓E_X6_happen_58, ↓E_X6_happen_61, ↓E_X6_happen_62, ↓E_X6_happen_63, ↓E_X6_happen_64, ↓E_X6_happen_65, ↓E_X6_happen_66, ↓E_X6_happen_67, ↓E_X6_happen_68, ↓E_X6_happen_70, ↓E_X6_happen_73, ↓E_X6_happen_74, ↓E_X6_happen_77, ↓E_X6_happen_78, ↓E_X6_happen_79, ↓E_X6_happen_80, ↓E_X6_happen_81, if_neg n2, if_pos n2, kd_3, s_hasJob, a0, ibx_N, b1, bz_0, if_neg (show ¬ true = false by decide), kd_12, kd_8, ln_6, vin, clN, ptrG, if_neg n0, if_pos (show nI 1 = (1 : Int32) by decide), vin_2, cl_2, r2, nI_1, min30]
      · have n1 : ¬ nI x = (1 : Int32) := fun z => e1 ((nI_eq (a := x) (b := 1) (by omega) (by omega)).mp z)
        simp only [if_neg e1]
        refine ⟨(mx_u σ.1 (39 + j) 1 0, σ.2), fun q => ?_, trX_set (a := 0) hjn hn H, scX.u (by omega) (by omega) (by omega)⟩
        simp (disch := omega) only [C_X6_happen, true_and, and_true, and_self, exists_eq_left, Option.toList_some, Option.toList_none, List.cons_append, List.nil_append, List.append_nil, i2_i, i2_r, i2_n, nz0, nz1, true_or, or_true, Nat.reduceAdd, Nat.le_refl, Nat.reduceLT, Nat.reduceLeDiff, ↓E_X6_happen_0, ↓E_X6_happen_1, ↓E_X6_happen_2, ↓E_X6_happen_5, ↓E_X6_happen_6, ↓E_X6_happen_9, ↓E_X6_happen_10, ↓E_X6_happen_13, ↓E_X6_happen_14, ↓E_X6_happen_15, ↓E_X6_happen_18, ↓E_X6_happen_19, ↓E_X6_happen_22, ↓E_X6_happen_25, ↓E_X6_happen_26, ↓E_X6_happen_27, ↓E_X6_happen_30, ↓E_X6_happen_33, ↓E_X6_happen_34, ↓E_X6_happen_35, ↓E_X6_happen_36, ↓E_X6_happen_37, ↓E_X6_happen_40, ↓E_X6_happen_41, ↓E_X6_happen_42, ↓E_X6_happen_43, ↓E_X6_happen_44, ↓E_X6_happen_45, ↓E_X6_happen_46, ↓E_X6_happen_47, ↓E_X6_happen_49, ↓E_X6_happen_52, ↓E_X6_happen_53, ↓E_X6_happen_56, ↓E_X6_happen_57, ↓E_X6_happen_58, ↓E_X6_happen_61, ↓E_X6_happen_62, ↓E_X6_happen_63, ↓E_X6_happen_64, ↓E_X6_happen_65, ↓E_X6_happen_66, ↓E_X6_happen_67, ↓E_X6_happen_68, ↓E_X6_happen_70, ↓E_X6_happen_73, ↓E_X6_happen_74, ↓E_X6_happen_77, ↓E_X6_happen_78, ↓E_X6_happen_79, ↓E_X6_happen_80, ↓E_X6_happen_81, if_neg n2, if_pos n2, kd_3, s_hasJob, a0, ibx_N, b1, bz_0, if_neg (show ¬ true = false by decide), kd_12, kd_8, ln_6, vin, clN, ptrG, if_neg n0, if_neg n1, vin_1, cl_1]
def evF (w : Vw) (t : Nat) : Nat × (Nat → Nat → Nat) := (w.1.ev.take t).foldl evS (w.1.md, w.1.V)
theorem evF_s {w : Vw} {t : Nat} (h : t < w.1.ev.length) : evF w (t + 1) = evS (evF w t) (w.1.ev.getD t (0, 0)) := by
  unfold evF
  rw [List.take_succ, List.foldl_append, List.getD_eq_getElem?_getD, List.getElem?_eq_getElem h]
  rfl
theorem evF_ok {w : Vw} (ok : okW w) : ∀ t, t ≤ w.1.ev.length → (evF w t).1 ≤ 2 ∧ okV w.1.jn (evF w t).2
  | 0, _ => ⟨ok.1.2.1, okV_of ok.1.2.2.2.1⟩
  | t + 1, h => by
    have h1 := evF_ok ok t (by omega)
    rw [evF_s (by omega)]
    exact evS_ok h1.1 h1.2 (ok.1.2.2.2.2.2.2.1.2 _ (getD_mem (by omega))).2.2
def evA (w : Vw) : Nat × (Nat → Nat → Nat) := evF w w.1.ev.length
def F_after (w : Vw) (x : Int32) : Int64 := if ibI x 2 = false ∨ w.1.jn = 0 then NO else if x = 0 then (iN (CST (evA w).2 (evA w).1 w.1.am w.1.O w.1.jn)).toInt64 else (iN (bst (cst (evA w).2 (evA w).1 w.1.am) w.1.jn).1).toInt64
set_option maxHeartbeats 4000000 in
theorem l_after {d : Nat} {w : Vw} {x : Int32} (σ0 : mx_S) (hw0 : vwX w σ0) : ∀ m t (σ : mx_S), t + m = w.1.ev.length → scX σ0 σ → trX w.1.jn (evF w t).1 w.1.am (evF w t).2 w.1.O σ.1 →
    ∃ σ' : mx_S, (∀ q, mx_run (d + 2) m_X6_after 35 [some (.ref 0), some (.int x), some (.int (nI t))] [] σ q ↔ mx_run (d + 2) m_X6_after 74 [some (.ref 0), some (.int x), some (.int (nI w.1.ev.length))] [] σ' q) ∧ scX σ0 σ' ∧ trX w.1.jn (evA w).1 w.1.am (evA w).2 w.1.O σ'.1 := by
  have hn := hw0.1.1.1
  have hl := hw0.1.1.2.2.2.2.2.2.1
  intro m
  induction m with
  | zero =>
    intro t σ ht sc H
    have hw := sc.vw hw0
    obtain ⟨H1, ⟨-, R1, R2, R3⟩, H3, H4, H5, H6⟩ := id hw
    have e : t = w.1.ev.length := by omega
    subst e
    refine ⟨σ, fun q => ?_, sc, H⟩
    rw [E_X6_after_35]
    simp (disch := omega) only [true_and, and_true, and_self, exists_eq_left, Option.toList_some, Option.toList_none, List.cons_append, List.nil_append, List.append_nil, i2_i, i2_r, i2_n, nz0, nz1, true_or, or_true, Nat.reduceAdd, Nat.le_refl, Nat.reduceLT, Nat.reduceLeDiff, ↓E_X6_after_0, ↓E_X6_after_1, ↓E_X6_after_2, ↓E_X6_after_5, ↓E_X6_after_8, ↓E_X6_after_9, ↓E_X6_after_12, ↓E_X6_after_15, ↓E_X6_after_18, ↓E_X6_after_21, ↓E_X6_after_22, ↓E_X6_after_23, ↓E_X6_after_26, ↓E_X6_after_27, ↓E_X6_after_30, ↓E_X6_after_33, ↓E_X6_after_34, ↓E_X6_after_36, ↓E_X6_after_37, ↓E_X6_after_40, ↓E_X6_after_43, ↓E_X6_after_46, ↓E_X6_after_47, ↓E_X6_after_48, ↓E_X6_after_51, ↓E_X6_after_54, ↓E_X6_after_55, ↓E_X6_after_56, ↓E_X6_after_57, ↓E_X6_after_60, ↓E_X6_after_63, ↓E_X6_after_64, ↓E_X6_after_65, ↓E_X6_after_68, ↓E_X6_after_71, ↓E_X6_after_75, ↓E_X6_after_78, ↓E_X6_after_79, ↓E_X6_after_80, ↓E_X6_after_83, ↓E_X6_after_84, ↓E_X6_after_87, ↓E_X6_after_90, ↓E_X6_after_91, ↓E_X6_after_94, ↓E_X6_after_97, ↓E_X6_after_98, ↓E_X6_after_101, ↓E_X6_after_104, ↓E_X6_after_107, ↓E_X6_after_108, ↓E_X6_after_109, ↓E_X6_after_110, ↓E_X6_after_113, ↓E_X6_after_114, ↓E_X6_after_117, ↓E_X6_after_118, ↓E_X6_after_121, ↓E_X6_after_124, ↓E_X6_after_125, ↓E_X6_after_128, ↓E_X6_after_131, ↓E_X6_after_134, ↓E_X6_after_135, ↓E_X6_after_138, ↓E_X6_after_141, ↓E_X6_after_142, kd_1, R2.1, leN, if_true]
  | succ m ih =>
    intro t σ ht sc H
    have hw := sc.vw hw0
    obtain ⟨H1, ⟨-, R1, R2, R3⟩, H3, H4, H5, H6⟩ := id hw
    obtain ⟨b1, b2⟩ := R2.2 t (by omega)
    have b1 : σ.1 14 t = nI (w.1.ev.getD t (0, 0)).1 := b1
    have b2 : σ.1 15 t = nI (w.1.ev.getD t (0, 0)).2 := b2
    obtain ⟨k1, k2, k3⟩ := hl.2 _ (getD_mem (y := (0, 0)) (show t < w.1.ev.length by omega))
    obtain ⟨o1, o2⟩ := evF_ok hw0.1 t (by omega)
    obtain ⟨σ1, c1, T1, sc1⟩ := s_happen (d := d) hn o2 k1 k2 H
    have st := evF_s (w := w) (t := t) (by omega)
    obtain ⟨σ', r, g⟩ := ih (t + 1) σ1 (by omega) (sc.tr sc1) (by rw [st]; exact T1)
    refine ⟨σ', fun q => ?_, g⟩
    rw [← r q, E_X6_after_35]
    simp (disch := omega) only [true_and, and_true, and_self, exists_eq_left, Option.toList_some, Option.toList_none, List.cons_append, List.nil_append, List.append_nil, i2_i, i2_r, i2_n, nz0, nz1, true_or, or_true, Nat.reduceAdd, Nat.le_refl, Nat.reduceLT, Nat.reduceLeDiff, ↓E_X6_after_0, ↓E_X6_after_1, ↓E_X6_after_2, ↓E_X6_after_5, ↓E_X6_after_8, ↓E_X6_after_9, ↓E_X6_after_12, ↓E_X6_after_15, ↓E_X6_after_18, ↓E_X6_after_21, ↓E_X6_after_22, ↓E_X6_after_23, ↓E_X6_after_26, ↓E_X6_after_27, ↓E_X6_after_30, ↓E_X6_after_33, ↓E_X6_after_34, ↓E_X6_after_36, ↓E_X6_after_37, ↓E_X6_after_40, ↓E_X6_after_43, ↓E_X6_after_46, ↓E_X6_after_47, ↓E_X6_after_48, ↓E_X6_after_51, ↓E_X6_after_54, ↓E_X6_after_55, ↓E_X6_after_56, ↓E_X6_after_57, ↓E_X6_after_60, ↓E_X6_after_63, ↓E_X6_after_64, ↓E_X6_after_65, ↓E_X6_after_68, ↓E_X6_after_71, ↓E_X6_after_75, ↓E_X6_after_78, ↓E_X6_after_79, ↓E_X6_after_80, ↓E_X6_after_83, ↓E_X6_after_84, ↓E_X6_after_87, ↓E_X6_after_90, ↓E_X6_after_91, ↓E_X6_after_94, ↓E_X6_after_97, ↓E_X6_after_98, ↓E_X6_after_101, ↓E_X6_after_104, ↓E_X6_after_107, ↓E_X6_after_108, ↓E_X6_after_109, ↓E_X6_after_110, ↓E_X6_after_113, ↓E_X6_after_114, ↓E_X6_after_117, ↓E_X6_after_118, ↓E_X6_after_121, ↓E_X6_after_124, ↓E_X6_after_125, ↓E_X6_after_128, ↓E_X6_after_131, ↓E_X6_after_134, ↓E_X6_after_135, ↓E_X6_after_138, ↓E_X6_after_141, ↓E_X6_after_142, kd_1, kd_8, ln_8, R2.1, leN, if_neg (show ¬ w.1.ev.length ≤ t by omega), vin, clN, b1, b2, c1, nI_1]
set_option maxHeartbeats 4000000 in
theorem X_after {d : Nat} {σ : mx_S} {w : Vw} {a : Int32} (hw : vwX w σ) : ∃ σ', mx_call (d + 10) m_X6_after [.ref 0, .int a] σ (some (.long (F_after w a)), σ') ∧ vwX w σ' ∧ hiS σ σ' := by
  obtain ⟨S1, S2, S3, S4, S5⟩ := vwX_now hw
  have hn := hw.1.1.1
  generalize hF : F_after w a = R
  unfold F_after NO at hF
  simp (disch := omega) only [C_X6_after, true_and, and_true, and_self, exists_eq_left, Option.toList_some, Option.toList_none, List.cons_append, List.nil_append, List.append_nil, i2_i, i2_r, i2_n, nz0, nz1, true_or, or_true, Nat.reduceAdd, Nat.le_refl, Nat.reduceLT, Nat.reduceLeDiff, ↓E_X6_after_0, ↓E_X6_after_1, ↓E_X6_after_2, ↓E_X6_after_5, ↓E_X6_after_8, ↓E_X6_after_9, ↓E_X6_after_12, ↓E_X6_after_15, ↓E_X6_after_18, ↓E_X6_after_21, ↓E_X6_after_22, ↓E_X6_after_23, ↓E_X6_after_26, ↓E_X6_after_27, ↓E_X6_after_30, ↓E_X6_after_33, ↓E_X6_after_34, ↓E_X6_after_36, ↓E_X6_after_37, ↓E_X6_after_40, ↓E_X6_after_43, ↓E_X6_after_46, ↓E_X6_after_47, ↓E_X6_after_48, ↓E_X6_after_51, ↓E_X6_after_54, ↓E_X6_after_55, ↓E_X6_after_56, ↓E_X6_after_57, ↓E_X6_after_60, ↓E_X6_after_63, ↓E_X6_after_64, ↓E_X6_after_65, ↓E_X6_after_68, ↓E_X6_after_71, ↓E_X6_after_74, ↓E_X6_after_75, ↓E_X6_after_78, ↓E_X6_after_79, ↓E_X6_after_80, ↓E_X6_after_83, ↓E_X6_after_84, ↓E_X6_after_87, ↓E_X6_after_90, ↓E_X6_after_91, ↓E_X6_after_94, ↓E_X6_after_97, ↓E_X6_after_98, ↓E_X6_after_101, ↓E_X6_after_104, ↓E_X6_after_107, ↓E_X6_after_108, ↓E_X6_after_109, ↓E_X6_after_110, ↓E_X6_after_113, ↓E_X6_after_114, ↓E_X6_after_117, ↓E_X6_after_118, ↓E_X6_after_121, ↓E_X6_after_124, ↓E_X6_after_125, ↓E_X6_after_128, ↓E_X6_after_131, ↓E_X6_after_134, ↓E_X6_after_135, ↓E_X6_after_138, ↓E_X6_after_141, ↓E_X6_after_142, s_isBelow, bz_0, kd_3, S1, ibx_2, nI_eq0 hn]
  by_cases e0 : ibI a 2 = false
  · rw [if_pos (Or.inl e0)] at hF
    simp only [if_pos e0]
    subst hF
    exact ⟨σ, rfl, hw, hiS.rf⟩
  simp only [if_neg e0]
  by_cases e1 : w.1.jn = 0
  · rw [if_pos (Or.inr e1)] at hF
    simp only [if_pos e1]
    subst hF
    exact ⟨σ, rfl, hw, hiS.rf⟩
  rw [if_neg (fun z => z.elim e0 e1)] at hF
  simp only [if_neg e1]
  obtain ⟨σ1, c1, H1, sc1⟩ := s_trial (d := d + 8) hw
  obtain ⟨σ2, r, sc2, T2⟩ := l_after (d := d + 7) (x := a) σ hw w.1.ev.length 0 σ1 (by omega) sc1 H1
  obtain ⟨o1, o2⟩ := evF_ok hw.1 w.1.ev.length (Nat.le_refl _)
  obtain ⟨t0, t1, t2, t3, t4⟩ := id T2
  have r' : ∀ q, mx_run (d + 9) m_X6_after 35 [some (.ref 0), some (.int a), some (.int 0)] [] σ1 q ↔ _ := fun q => r q
  simp (disch := omega) only [c1]
  simp (disch := omega) only [true_and, and_true, and_self, exists_eq_left, Option.toList_some, Option.toList_none, List.cons_append, List.nil_append, List.append_nil, i2_i, i2_r, i2_n, nz0, nz1, true_or, or_true, Nat.reduceAdd, Nat.le_refl, Nat.reduceLT, Nat.reduceLeDiff, ↓E_X6_after_0, ↓E_X6_after_1, ↓E_X6_after_2, ↓E_X6_after_5, ↓E_X6_after_8, ↓E_X6_after_9, ↓E_X6_after_12, ↓E_X6_after_15, ↓E_X6_after_18, ↓E_X6_after_21, ↓E_X6_after_22, ↓E_X6_after_23, ↓E_X6_after_26, ↓E_X6_after_27, ↓E_X6_after_30, ↓E_X6_after_33, ↓E_X6_after_34, ↓E_X6_after_36, ↓E_X6_after_37, ↓E_X6_after_40, ↓E_X6_after_43, ↓E_X6_after_46, ↓E_X6_after_47, ↓E_X6_after_48, ↓E_X6_after_51, ↓E_X6_after_54, ↓E_X6_after_55, ↓E_X6_after_56, ↓E_X6_after_57, ↓E_X6_after_60, ↓E_X6_after_63, ↓E_X6_after_64, ↓E_X6_after_65, ↓E_X6_after_68, ↓E_X6_after_71, ↓E_X6_after_74, ↓E_X6_after_75, ↓E_X6_after_78, ↓E_X6_after_79, ↓E_X6_after_80, ↓E_X6_after_83, ↓E_X6_after_84, ↓E_X6_after_87, ↓E_X6_after_90, ↓E_X6_after_91, ↓E_X6_after_94, ↓E_X6_after_97, ↓E_X6_after_98, ↓E_X6_after_101, ↓E_X6_after_104, ↓E_X6_after_107, ↓E_X6_after_108, ↓E_X6_after_109, ↓E_X6_after_110, ↓E_X6_after_113, ↓E_X6_after_114, ↓E_X6_after_117, ↓E_X6_after_118, ↓E_X6_after_121, ↓E_X6_after_124, ↓E_X6_after_125, ↓E_X6_after_128, ↓E_X6_after_131, ↓E_X6_after_134, ↓E_X6_after_135, ↓E_X6_after_138, ↓E_X6_after_141, ↓E_X6_after_142, r']
  by_cases e2 : a = 0
  · rw [if_pos e2] at hF
    obtain ⟨σ3, c3, f3, g3⟩ := s_costOf (d := d + 7) (h := 37) (a := 45) (n := w.1.jn) (md := (evA w).1) (am := w.1.am) (V := (evA w).2) (O := w.1.O) (Or.inr rfl) (by omega) hn o1 hw.1.1.2.2.1 o2 hw.1.1.2.2.2.2.1.1 t0 t3 t4
    have sc3 := sc2.tr (sc47 f3 g3)
    refine ⟨σ3, ?_, sc3.vw hw, sc3.hi⟩
    simp (disch := omega) only [true_and, and_true, and_self, exists_eq_left, Option.toList_some, Option.toList_none, List.cons_append, List.nil_append, List.append_nil, i2_i, i2_r, i2_n, nz0, nz1, true_or, or_true, Nat.reduceAdd, Nat.le_refl, Nat.reduceLT, Nat.reduceLeDiff, ↓E_X6_after_0, ↓E_X6_after_1, ↓E_X6_after_2, ↓E_X6_after_5, ↓E_X6_after_8, ↓E_X6_after_9, ↓E_X6_after_12, ↓E_X6_after_15, ↓E_X6_after_18, ↓E_X6_after_21, ↓E_X6_after_22, ↓E_X6_after_23, ↓E_X6_after_26, ↓E_X6_after_27, ↓E_X6_after_30, ↓E_X6_after_33, ↓E_X6_after_34, ↓E_X6_after_36, ↓E_X6_after_37, ↓E_X6_after_40, ↓E_X6_after_43, ↓E_X6_after_46, ↓E_X6_after_47, ↓E_X6_after_48, ↓E_X6_after_51, ↓E_X6_after_54, ↓E_X6_after_55, ↓E_X6_after_56, ↓E_X6_after_57, ↓E_X6_after_60, ↓E_X6_after_63, ↓E_X6_after_64, ↓E_X6_after_65, ↓E_X6_after_68, ↓E_X6_after_71, ↓E_X6_after_74, ↓E_X6_after_75, ↓E_X6_after_78, ↓E_X6_after_79, ↓E_X6_after_80, ↓E_X6_after_83, ↓E_X6_after_84, ↓E_X6_after_87, ↓E_X6_after_90, ↓E_X6_after_91, ↓E_X6_after_94, ↓E_X6_after_97, ↓E_X6_after_98, ↓E_X6_after_101, ↓E_X6_after_104, ↓E_X6_after_107, ↓E_X6_after_108, ↓E_X6_after_109, ↓E_X6_after_110, ↓E_X6_after_113, ↓E_X6_after_114, ↓E_X6_after_117, ↓E_X6_after_118, ↓E_X6_after_121, ↓E_X6_after_124, ↓E_X6_after_125, ↓E_X6_after_128, ↓E_X6_after_131, ↓E_X6_after_134, ↓E_X6_after_135, ↓E_X6_after_138, ↓E_X6_after_141, ↓E_X6_after_142, if_pos e2, kd_3, t1, t2, mx_one c3]
    subst hF
    rfl
  · rw [if_neg e2] at hF
    obtain ⟨σ3, c3, r3, -, f3, g3⟩ := s_find37 (d := d) (sc2.vw hw) e1 o1 hw.1.1.2.2.1 o2 T2
    have sc3 : scX σ σ3 := sc2.tr ⟨fun i hi => f3 i (by omega), g3⟩
    have c3' : ∀ q, mx_call (d + 9) m_X2_find [.ref 48, .ref 37, .int (nI (evA w).1), .int (nI w.1.am)] σ2 q ↔ q = (none, σ3) := c3
    have r3' : σ3.1 48 4 = iN (bst (cst (evA w).2 (evA w).1 w.1.am) w.1.jn).1 := r3
    refine ⟨σ3, ?_, sc3.vw hw, sc3.hi⟩
    simp (disch := omega) only [true_and, and_true, and_self, exists_eq_left, Option.toList_some, Option.toList_none, List.cons_append, List.nil_append, List.append_nil, i2_i, i2_r, i2_n, nz0, nz1, true_or, or_true, Nat.reduceAdd, Nat.le_refl, Nat.reduceLT, Nat.reduceLeDiff, ↓E_X6_after_0, ↓E_X6_after_1, ↓E_X6_after_2, ↓E_X6_after_5, ↓E_X6_after_8, ↓E_X6_after_9, ↓E_X6_after_12, ↓E_X6_after_15, ↓E_X6_after_18, ↓E_X6_after_21, ↓E_X6_after_22, ↓E_X6_after_23, ↓E_X6_after_26, ↓E_X6_after_27, ↓E_X6_after_30, ↓E_X6_after_33, ↓E_X6_after_34, ↓E_X6_after_36, ↓E_X6_after_37, ↓E_X6_after_40, ↓E_X6_after_43, ↓E_X6_after_46, ↓E_X6_after_47, ↓E_X6_after_48, ↓E_X6_after_51, ↓E_X6_after_54, ↓E_X6_after_55, ↓E_X6_after_56, ↓E_X6_after_57, ↓E_X6_after_60, ↓E_X6_after_63, ↓E_X6_after_64, ↓E_X6_after_65, ↓E_X6_after_68, ↓E_X6_after_71, ↓E_X6_after_74, ↓E_X6_after_75, ↓E_X6_after_78, ↓E_X6_after_79, ↓E_X6_after_80, ↓E_X6_after_83, ↓E_X6_after_84, ↓E_X6_after_87, ↓E_X6_after_90, ↓E_X6_after_91, ↓E_X6_after_94, ↓E_X6_after_97, ↓E_X6_after_98, ↓E_X6_after_101, ↓E_X6_after_104, ↓E_X6_after_107, ↓E_X6_after_108, ↓E_X6_after_109, ↓E_X6_after_110, ↓E_X6_after_113, ↓E_X6_after_114, ↓E_X6_after_117, ↓E_X6_after_118, ↓E_X6_after_121, ↓E_X6_after_124, ↓E_X6_after_125, ↓E_X6_after_128, ↓E_X6_after_131, ↓E_X6_after_134, ↓E_X6_after_135, ↓E_X6_after_138, ↓E_X6_after_141, ↓E_X6_after_142, if_neg e2, kd_3, kd_2, t1, t2, c3', r3']
    subst hF
    rfl
