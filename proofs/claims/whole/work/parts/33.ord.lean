/-! ===== orders by a rule, in plain numbers ===== -/
def KY (V : Nat → Nat → Nat) (r j : Nat) : Nat := if r = 1 then (if V j 0 ≤ V j 2 then V j 0 + V j 1 else 1000 - V j 1 - V j 2) else if r = 2 then V j 0 + V j 1 + V j 2 else if r = 3 then V j 5 else j
def KL (V : Nat → Nat → Nat) (r o j : Nat) : Prop := KY V r o < KY V r j ∨ (KY V r o = KY V r j ∧ o < j)
def cnt (b : Nat → Bool) : Nat → Nat
  | 0 => 0
  | n + 1 => cnt b n + (if b n = true then 1 else 0)
def KB (V : Nat → Nat → Nat) (r j o : Nat) : Bool := decide (KY V r o < KY V r j) || (decide (KY V r o = KY V r j) && decide (o < j))
/-- how many stand ahead -/
def PB (V : Nat → Nat → Nat) (r n j : Nat) : Nat := cnt (KB V r j) n
theorem cnt_le (b : Nat → Bool) : ∀ n, cnt b n ≤ n
  | 0 => Nat.le_refl _
  | n + 1 => by have := cnt_le b n; unfold cnt; split <;> omega
theorem cnt_mono {b c : Nat → Bool} : ∀ n, (∀ o, o < n → b o = true → c o = true) → cnt b n ≤ cnt c n
  | 0, _ => Nat.le_refl _
  | n + 1, h => by
    have h1 := cnt_mono n (fun o ho => h o (by omega))
    have h2 := h n (by omega)
    unfold cnt
    by_cases hb : b n = true
    · rw [if_pos hb, if_pos (h2 hb)]; omega
    · rw [if_neg hb]; split <;> omega
theorem cnt_lt {b c : Nat → Bool} {j : Nat} : ∀ n, j < n → (∀ o, o < n → b o = true → c o = true) → b j = false → c j = true → cnt b n < cnt c n
  | 0, hj, _, _, _ => by omega
  | n + 1, hj, h, hb, hc => by
    unfold cnt
    by_cases e : j = n
    · subst e
      have h1 := cnt_mono j (fun o ho => h o (by omega))
      rw [if_neg (by rw [hb]; decide), if_pos hc]
      omega
    · have h1 := cnt_lt n (by omega) (fun o ho => h o (by omega)) hb hc
      have h2 := h n (by omega)
      by_cases hbn : b n = true
      · rw [if_pos hbn, if_pos (h2 hbn)]; omega
      · rw [if_neg hbn]; split <;> omega
theorem cnt_all : ∀ n, cnt (fun _ => true) n = n
  | 0 => rfl
  | n + 1 => by unfold cnt; rw [cnt_all n]; rfl
theorem KB_iff {V : Nat → Nat → Nat} {r j o : Nat} : KB V r j o = true ↔ KL V r o j := by
  unfold KB KL
  simp
theorem KB_f {V : Nat → Nat → Nat} {r j : Nat} : KB V r j j = false := by
  unfold KB
  simp
theorem PB_lt {V : Nat → Nat → Nat} {r n j : Nat} (hj : j < n) : PB V r n j < n := by
  have := cnt_lt (b := KB V r j) (c := fun _ => true) (j := j) n hj (fun _ _ _ => rfl) KB_f rfl
  rw [cnt_all] at this
  exact this
theorem PB_mono {V : Nat → Nat → Nat} {r n i j : Nat} (hj : j < n) (h : KL V r j i) : PB V r n j < PB V r n i := by
  refine cnt_lt (j := j) n hj (fun o ho hb => ?_) KB_f (KB_iff.mpr h)
  rw [KB_iff] at hb ⊢
  unfold KL at *
  omega
theorem okO_PB {V : Nat → Nat → Nat} {r n : Nat} : okO n (PB V r n) := by
  refine ⟨fun j hj => PB_lt hj, fun i j hi hj e => ?_⟩
  by_cases h : i = j
  · exact h
  · have : KL V r i j ∨ KL V r j i := by unfold KL; omega
    rcases this with h1 | h1
    · have := PB_mono (n := n) hi h1; omega
    · have := PB_mono (n := n) hj h1; omega
/-- the order by a rule -/
def OR (V : Nat → Nat → Nat) (r n : Nat) : Nat → Nat := fun p => plc (PB V r n) p n
theorem OR_ok {V : Nat → Nat → Nat} {r n p : Nat} (hp : p < n) : OR V r n p < n ∧ PB V r n (OR V r n p) = p := plc_ok okO_PB hp
theorem OR_PB {V : Nat → Nat → Nat} {r n j : Nat} (hj : j < n) : OR V r n (PB V r n j) = j := by
  have h1 := OR_ok (V := V) (r := r) (PB_lt (V := V) (r := r) hj)
  exact (okO_PB (V := V) (r := r)).2 _ _ h1.1 hj h1.2
theorem okO_OR {V : Nat → Nat → Nat} {r n : Nat} : okO n (OR V r n) := by
  refine ⟨fun p hp => (OR_ok hp).1, fun p q hp hq e => ?_⟩
  have h1 := (OR_ok (V := V) (r := r) hp).2
  have h2 := (OR_ok (V := V) (r := r) hq).2
  rw [e] at h1
  omega
/-! the class's own -/
theorem l1000 {a b : Nat} (h : a + b ≤ 1000) : (1000 : Int32) - nI a - nI b = nI (1000 - a - b) := by
  have e : (1000 : Int32) = nI 1000 := rfl
  rw [e, pk_sub (by omega), pk_sub (by omega)]
set_option maxHeartbeats 2000000 in
theorem s_keyOf {d : Nat} {σ : mx_S} {q : mx_R} {h n j r : Nat} {V : Nat → Nat → Nat} (hs : h = 1 ∨ h = 19 ∨ h = 37) (hn : n ≤ 6) (hj : j < n) (hr : r ≤ 3) (hV : okV n V) (hR : ∀ j k, j < n → k < 6 → σ.1 (h + 2 + j) k = nI (V j k)) : mx_call (d + 1) m_X3_keyOf [.ref h, .int (nI r), .int (nI j)] σ q ↔ q = (some (.int (nI (KY V r j))), σ) := by
  have r0 := hR j 0 hj (by omega)
  have r1 := hR j 1 hj (by omega)
  have r2 := hR j 2 hj (by omega)
  have r5 := hR j 5 hj (by omega)
  have v0 := hV j 0 hj (by omega)
  have v1 := hV j 1 hj (by omega)
  have v2 := hV j 2 hj (by omega)
  unfold KY
  rcases (show r = 0 ∨ r = 1 ∨ r = 2 ∨ r = 3 by omega) with rfl | rfl | rfl | rfl
  · simp (disch := omega) only [C_X3_keyOf, true_and, and_true, and_self, exists_eq_left, Option.toList_some, Option.toList_none, List.cons_append, List.nil_append, List.append_nil, i2_i, i2_r, i2_n, nz0, nz1, true_or, or_true, Nat.reduceAdd, Nat.le_refl, Nat.reduceLT, Nat.reduceLeDiff, ↓E_X3_keyOf_0, ↓E_X3_keyOf_1, ↓E_X3_keyOf_4, ↓E_X3_keyOf_5, ↓E_X3_keyOf_6, ↓E_X3_keyOf_7, ↓E_X3_keyOf_8, ↓E_X3_keyOf_36, ↓E_X3_keyOf_37, ↓E_X3_keyOf_38, ↓E_X3_keyOf_39, ↓E_X3_keyOf_40, ↓E_X3_keyOf_41, ↓E_X3_keyOf_42, ↓E_X3_keyOf_45, ↓E_X3_keyOf_46, ↓E_X3_keyOf_47, ↓E_X3_keyOf_48, ↓E_X3_keyOf_49, ↓E_X3_keyOf_50, ↓E_X3_keyOf_51, ↓E_X3_keyOf_52, ↓E_X3_keyOf_55, ↓E_X3_keyOf_58, ↓E_X3_keyOf_59, ↓E_X3_keyOf_60, ↓E_X3_keyOf_61, ↓E_X3_keyOf_62, ↓E_X3_keyOf_63, ↓E_X3_keyOf_64, ↓E_X3_keyOf_65, ↓E_X3_keyOf_66, ↓E_X3_keyOf_67, ↓E_X3_keyOf_68, ↓E_X3_keyOf_69, ↓E_X3_keyOf_70, ↓E_X3_keyOf_71, ↓E_X3_keyOf_72, ↓E_X3_keyOf_73, ↓E_X3_keyOf_74, ↓E_X3_keyOf_75, ↓E_X3_keyOf_76, ↓E_X3_keyOf_77, ↓E_X3_keyOf_78, ↓E_X3_keyOf_79, ↓E_X3_keyOf_80, ↓E_X3_keyOf_81, ↓E_X3_keyOf_82, ↓E_X3_keyOf_83, ↓E_X3_keyOf_84, kd_3, kd_8, kd_12, ln_6, vin, clN, ptrS, if_neg (show ¬ nI 0 = 1 by decide), if_neg (show ¬ nI 0 = 2 by decide), if_neg (show ¬ nI 0 = 3 by decide), if_neg (show ¬ (0 : Nat) = 1 by decide), if_neg (show ¬ (0 : Nat) = 2 by decide), if_neg (show ¬ (0 : Nat) = 3 by decide)]
  · simp (disch := omega) only [C_X3_keyOf, true_and, and_true, and_self, exists_eq_left, Option.toList_some, Option.toList_none, List.cons_append, List.nil_append, List.append_nil, i2_i, i2_r, i2_n, nz0, nz1, true_or, or_true, Nat.reduceAdd, Nat.le_refl, Nat.reduceLT, Nat.reduceLeDiff, ↓E_X3_keyOf_0, ↓E_X3_keyOf_1, ↓E_X3_keyOf_4, ↓E_X3_keyOf_5, ↓E_X3_keyOf_6, ↓E_X3_keyOf_7, ↓E_X3_keyOf_8, ↓E_X3_keyOf_36, ↓E_X3_keyOf_37, ↓E_X3_keyOf_38, ↓E_X3_keyOf_39, ↓E_X3_keyOf_40, ↓E_X3_keyOf_41, ↓E_X3_keyOf_42, ↓E_X3_keyOf_45, ↓E_X3_keyOf_46, ↓E_X3_keyOf_47, ↓E_X3_keyOf_48, ↓E_X3_keyOf_49, ↓E_X3_keyOf_50, ↓E_X3_keyOf_51, ↓E_X3_keyOf_52, ↓E_X3_keyOf_55, ↓E_X3_keyOf_58, ↓E_X3_keyOf_59, ↓E_X3_keyOf_60, ↓E_X3_keyOf_61, ↓E_X3_keyOf_62, ↓E_X3_keyOf_63, ↓E_X3_keyOf_64, ↓E_X3_keyOf_65, ↓E_X3_keyOf_66, ↓E_X3_keyOf_67, ↓E_X3_keyOf_68, ↓E_X3_keyOf_69, ↓E_X3_keyOf_70, ↓E_X3_keyOf_71, ↓E_X3_keyOf_72, ↓E_X3_keyOf_73, ↓E_X3_keyOf_74, ↓E_X3_keyOf_75, ↓E_X3_keyOf_76, ↓E_X3_keyOf_77, ↓E_X3_keyOf_78, ↓E_X3_keyOf_79, ↓E_X3_keyOf_80, ↓E_X3_keyOf_81, ↓E_X3_keyOf_82, ↓E_X3_keyOf_83, ↓E_X3_keyOf_84, kd_3, kd_8, kd_12, ln_6, vin, clN, ptrS, if_pos (show nI 1 = 1 by decide), if_true, vin_0, vin_1, vin_2, cl_0, cl_1, cl_2, r0, r1, r2, nI_add, leN, ltN, l1000]
    by_cases h9 : V j 0 ≤ V j 2
    · simp only [if_pos h9]
      try simp only [if_neg (show ¬ V j 2 < V j 0 by omega)]
    · simp only [if_neg h9]
      try simp only [if_pos (show V j 2 < V j 0 by omega)]
  · simp (disch := omega) only [C_X3_keyOf, true_and, and_true, and_self, exists_eq_left, Option.toList_some, Option.toList_none, List.cons_append, List.nil_append, List.append_nil, i2_i, i2_r, i2_n, nz0, nz1, true_or, or_true, Nat.reduceAdd, Nat.le_refl, Nat.reduceLT, Nat.reduceLeDiff, ↓E_X3_keyOf_0, ↓E_X3_keyOf_1, ↓E_X3_keyOf_4, ↓E_X3_keyOf_5, ↓E_X3_keyOf_6, ↓E_X3_keyOf_7, ↓E_X3_keyOf_8, ↓E_X3_keyOf_36, ↓E_X3_keyOf_37, ↓E_X3_keyOf_38, ↓E_X3_keyOf_39, ↓E_X3_keyOf_40, ↓E_X3_keyOf_41, ↓E_X3_keyOf_42, ↓E_X3_keyOf_45, ↓E_X3_keyOf_46, ↓E_X3_keyOf_47, ↓E_X3_keyOf_48, ↓E_X3_keyOf_49, ↓E_X3_keyOf_50, ↓E_X3_keyOf_51, ↓E_X3_keyOf_52, ↓E_X3_keyOf_55, ↓E_X3_keyOf_58, ↓E_X3_keyOf_59, ↓E_X3_keyOf_60, ↓E_X3_keyOf_61, ↓E_X3_keyOf_62, ↓E_X3_keyOf_63, ↓E_X3_keyOf_64, ↓E_X3_keyOf_65, ↓E_X3_keyOf_66, ↓E_X3_keyOf_67, ↓E_X3_keyOf_68, ↓E_X3_keyOf_69, ↓E_X3_keyOf_70, ↓E_X3_keyOf_71, ↓E_X3_keyOf_72, ↓E_X3_keyOf_73, ↓E_X3_keyOf_74, ↓E_X3_keyOf_75, ↓E_X3_keyOf_76, ↓E_X3_keyOf_77, ↓E_X3_keyOf_78, ↓E_X3_keyOf_79, ↓E_X3_keyOf_80, ↓E_X3_keyOf_81, ↓E_X3_keyOf_82, ↓E_X3_keyOf_83, ↓E_X3_keyOf_84, kd_3, kd_8, kd_12, ln_6, vin, clN, ptrS, if_neg (show ¬ nI 2 = 1 by decide), if_pos (show nI 2 = 2 by decide), if_neg (show ¬ (2 : Nat) = 1 by decide), if_true, vin_0, vin_1, vin_2, cl_0, cl_1, cl_2, r0, r1, r2, nI_add]
  · simp (disch := omega) only [C_X3_keyOf, true_and, and_true, and_self, exists_eq_left, Option.toList_some, Option.toList_none, List.cons_append, List.nil_append, List.append_nil, i2_i, i2_r, i2_n, nz0, nz1, true_or, or_true, Nat.reduceAdd, Nat.le_refl, Nat.reduceLT, Nat.reduceLeDiff, ↓E_X3_keyOf_0, ↓E_X3_keyOf_1, ↓E_X3_keyOf_4, ↓E_X3_keyOf_5, ↓E_X3_keyOf_6, ↓E_X3_keyOf_7, ↓E_X3_keyOf_8, ↓E_X3_keyOf_36, ↓E_X3_keyOf_37, ↓E_X3_keyOf_38, ↓E_X3_keyOf_39, ↓E_X3_keyOf_40, ↓E_X3_keyOf_41, ↓E_X3_keyOf_42, ↓E_X3_keyOf_45, ↓E_X3_keyOf_46, ↓E_X3_keyOf_47, ↓E_X3_keyOf_48, ↓E_X3_keyOf_49, ↓E_X3_keyOf_50, ↓E_X3_keyOf_51, ↓E_X3_keyOf_52, ↓E_X3_keyOf_55, ↓E_X3_keyOf_58, ↓E_X3_keyOf_59, ↓E_X3_keyOf_60, ↓E_X3_keyOf_61, ↓E_X3_keyOf_62, ↓E_X3_keyOf_63, ↓E_X3_keyOf_64, ↓E_X3_keyOf_65, ↓E_X3_keyOf_66, ↓E_X3_keyOf_67, ↓E_X3_keyOf_68, ↓E_X3_keyOf_69, ↓E_X3_keyOf_70, ↓E_X3_keyOf_71, ↓E_X3_keyOf_72, ↓E_X3_keyOf_73, ↓E_X3_keyOf_74, ↓E_X3_keyOf_75, ↓E_X3_keyOf_76, ↓E_X3_keyOf_77, ↓E_X3_keyOf_78, ↓E_X3_keyOf_79, ↓E_X3_keyOf_80, ↓E_X3_keyOf_81, ↓E_X3_keyOf_82, ↓E_X3_keyOf_83, ↓E_X3_keyOf_84, kd_3, kd_8, kd_12, ln_6, vin, clN, ptrS, if_neg (show ¬ nI 3 = 1 by decide), if_neg (show ¬ nI 3 = 2 by decide), if_pos (show nI 3 = 3 by decide), if_neg (show ¬ (3 : Nat) = 1 by decide), if_neg (show ¬ (3 : Nat) = 2 by decide), if_true, vin_5, cl_5, r5]
theorem KY_le {V : Nat → Nat → Nat} {r n j : Nat} (hn : n ≤ 6) (hV : okV n V) (hj : j < n) : KY V r j ≤ 1000 := by
  have v0 := hV j 0 hj (by omega)
  have v1 := hV j 1 hj (by omega)
  have v2 := hV j 2 hj (by omega)
  have v5 := hV j 5 hj (by omega)
  unfold KY
  split
  · split <;> omega
  · split
    · omega
    · split <;> omega
set_option maxHeartbeats 2000000 in
theorem l_placeBy {d : Nat} {σ : mx_S} {q : mx_R} {h n j r : Nat} {V : Nat → Nat → Nat} {lx : Option Value} (hs : h = 1 ∨ h = 19 ∨ h = 37) (hn : n ≤ 6) (hj : j < n) (hr : r ≤ 3) (hV : okV n V) (h0 : σ.1 h 0 = nI n) (hR : ∀ j k, j < n → k < 6 → σ.1 (h + 2 + j) k = nI (V j k)) : ∀ m o (lx : Option Value), o + m = n → (mx_run (d + 1) m_X3_placeBy 13 [some (.ref h), some (.int (nI r)), some (.int (nI j)), some (.int (nI (KY V r j))), some (.int (nI (cnt (KB V r j) o))), some (.int (nI o)), lx] [] σ q ↔ q = (some (.int (nI (PB V r n j))), σ)) := by
  intro m
  induction m with
  | zero =>
    intro o lx ho
    have e : o = n := by omega
    subst e
    rw [E_X3_placeBy_13]
    simp (disch := omega) only [true_and, and_true, and_self, exists_eq_left, Option.toList_some, Option.toList_none, List.cons_append, List.nil_append, List.append_nil, i2_i, i2_r, i2_n, nz0, nz1, true_or, or_true, Nat.reduceAdd, Nat.le_refl, Nat.reduceLT, Nat.reduceLeDiff, ↓E_X3_placeBy_0, ↓E_X3_placeBy_1, ↓E_X3_placeBy_2, ↓E_X3_placeBy_3, ↓E_X3_placeBy_6, ↓E_X3_placeBy_7, ↓E_X3_placeBy_8, ↓E_X3_placeBy_10, ↓E_X3_placeBy_11, ↓E_X3_placeBy_15, ↓E_X3_placeBy_16, ↓E_X3_placeBy_19, ↓E_X3_placeBy_22, ↓E_X3_placeBy_23, ↓E_X3_placeBy_24, ↓E_X3_placeBy_26, ↓E_X3_placeBy_29, ↓E_X3_placeBy_31, ↓E_X3_placeBy_33, ↓E_X3_placeBy_34, ↓E_X3_placeBy_37, ↓E_X3_placeBy_39, ↓E_X3_placeBy_40, ↓E_X3_placeBy_43, ↓E_X3_placeBy_45, ↓E_X3_placeBy_46, ↓E_X3_placeBy_49, ↓E_X3_placeBy_52, ↓E_X3_placeBy_55, ↓E_X3_placeBy_58, ↓E_X3_placeBy_60, kd_3, h0, leN, if_true]
    rfl
  | succ m ih =>
    intro o lx ho
    have k1 := KY_le (r := r) hn hV hj
    have k2 := KY_le (r := r) hn hV (show o < n by omega)
    have c1 := cnt_le (KB V r j) o
    rw [E_X3_placeBy_13]
    simp (disch := omega) only [true_and, and_true, and_self, exists_eq_left, Option.toList_some, Option.toList_none, List.cons_append, List.nil_append, List.append_nil, i2_i, i2_r, i2_n, nz0, nz1, true_or, or_true, Nat.reduceAdd, Nat.le_refl, Nat.reduceLT, Nat.reduceLeDiff, ↓E_X3_placeBy_0, ↓E_X3_placeBy_1, ↓E_X3_placeBy_2, ↓E_X3_placeBy_3, ↓E_X3_placeBy_6, ↓E_X3_placeBy_7, ↓E_X3_placeBy_8, ↓E_X3_placeBy_10, ↓E_X3_placeBy_11, ↓E_X3_placeBy_15, ↓E_X3_placeBy_16, ↓E_X3_placeBy_19, ↓E_X3_placeBy_22, ↓E_X3_placeBy_23, ↓E_X3_placeBy_24, ↓E_X3_placeBy_26, ↓E_X3_placeBy_29, ↓E_X3_placeBy_31, ↓E_X3_placeBy_33, ↓E_X3_placeBy_34, ↓E_X3_placeBy_37, ↓E_X3_placeBy_39, ↓E_X3_placeBy_40, ↓E_X3_placeBy_43, ↓E_X3_placeBy_45, ↓E_X3_placeBy_46, ↓E_X3_placeBy_49, ↓E_X3_placeBy_52, ↓E_X3_placeBy_55, ↓E_X3_placeBy_58, ↓E_X3_placeBy_60, kd_3, h0, leN, s_keyOf hs hn (show o < n by omega) hr hV hR, ltN, eqN, nI_1]
    rw [if_neg (by omega)]
    have st : cnt (KB V r j) (o + 1) = cnt (KB V r j) o + (if KB V r j o = true then 1 else 0) := rfl
    by_cases a1 : KY V r o < KY V r j
    · have kb : KB V r j o = true := KB_iff.mpr (Or.inl a1)
      rw [kb, if_pos rfl] at st
      simp only [if_pos a1]
      rw [← st]
      exact ih (o + 1) _ (by omega)
    · by_cases a2 : KY V r o = KY V r j
      · by_cases a3 : o < j
        · have kb : KB V r j o = true := KB_iff.mpr (Or.inr ⟨a2, a3⟩)
          rw [kb, if_pos rfl] at st
          simp only [if_neg a1, if_pos a2, if_neg (show ¬ j ≤ o by omega), if_pos a3]
          rw [← st]
          exact ih (o + 1) _ (by omega)
        · have kb : ¬ KB V r j o = true := fun z => by have := KB_iff.mp z; unfold KL at this; omega
          rw [if_neg kb] at st
          simp only [if_neg a1, if_pos a2, if_pos (show j ≤ o by omega), if_neg a3]
          have := ih (o + 1) (some (.int (nI (KY V r o)))) (by omega)
          rw [st] at this
          exact this
      · have kb : ¬ KB V r j o = true := fun z => by have := KB_iff.mp z; unfold KL at this; omega
        rw [if_neg kb] at st
        simp only [if_neg a1, if_neg a2]
        have := ih (o + 1) (some (.int (nI (KY V r o)))) (by omega)
        rw [st] at this
        exact this
set_option maxHeartbeats 2000000 in
theorem s_placeBy {d : Nat} {σ : mx_S} {q : mx_R} {h n j r : Nat} {V : Nat → Nat → Nat} (hs : h = 1 ∨ h = 19 ∨ h = 37) (hn : n ≤ 6) (hj : j < n) (hr : r ≤ 3) (hV : okV n V) (h0 : σ.1 h 0 = nI n) (hR : ∀ j k, j < n → k < 6 → σ.1 (h + 2 + j) k = nI (V j k)) : mx_call (d + 2) m_X3_placeBy [.ref h, .int (nI r), .int (nI j)] σ q ↔ q = (some (.int (nI (PB V r n j))), σ) := by
  simp (disch := omega) only [C_X3_placeBy, true_and, and_true, and_self, exists_eq_left, Option.toList_some, Option.toList_none, List.cons_append, List.nil_append, List.append_nil, i2_i, i2_r, i2_n, nz0, nz1, true_or, or_true, Nat.reduceAdd, Nat.le_refl, Nat.reduceLT, Nat.reduceLeDiff, ↓E_X3_placeBy_0, ↓E_X3_placeBy_1, ↓E_X3_placeBy_2, ↓E_X3_placeBy_3, ↓E_X3_placeBy_6, ↓E_X3_placeBy_7, ↓E_X3_placeBy_8, ↓E_X3_placeBy_10, ↓E_X3_placeBy_11, ↓E_X3_placeBy_15, ↓E_X3_placeBy_16, ↓E_X3_placeBy_19, ↓E_X3_placeBy_22, ↓E_X3_placeBy_23, ↓E_X3_placeBy_24, ↓E_X3_placeBy_26, ↓E_X3_placeBy_29, ↓E_X3_placeBy_31, ↓E_X3_placeBy_33, ↓E_X3_placeBy_34, ↓E_X3_placeBy_37, ↓E_X3_placeBy_39, ↓E_X3_placeBy_40, ↓E_X3_placeBy_43, ↓E_X3_placeBy_45, ↓E_X3_placeBy_46, ↓E_X3_placeBy_49, ↓E_X3_placeBy_52, ↓E_X3_placeBy_55, ↓E_X3_placeBy_58, ↓E_X3_placeBy_60, kd_3, s_keyOf hs hn hj hr hV hR]
  exact l_placeBy (lx := none) hs hn hj hr hV h0 hR n 0 none (by omega)
