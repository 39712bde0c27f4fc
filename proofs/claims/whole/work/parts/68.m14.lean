/-! ===== the reference: orders by a rule ===== -/
def WK (V : Nat → Nat → Nat) (r j : Nat) : Int := if r = 0 then 0 else if r = 1 then (if V j 0 ≤ V j 2 then (V j 0 : Int) + (V j 1 : Int) - 1000 else 1000 - (V j 1 : Int) - (V j 2 : Int)) else if r = 2 then (V j 0 : Int) + (V j 1 : Int) + (V j 2 : Int) else (V j 5 : Int)
theorem KL_W {V : Nat → Nat → Nat} {r n o j : Nat} (hr : r ≤ 3) (hV : okV n V) (ho : o < n) (hj : j < n) : KL V r o j ↔ WK V r o < WK V r j ∨ (WK V r o = WK V r j ∧ o < j) := by
  have a0 := hV o 0 ho (by omega)
  have a1 := hV o 1 ho (by omega)
  have a2 := hV o 2 ho (by omega)
  have b0 := hV j 0 hj (by omega)
  have b1 := hV j 1 hj (by omega)
  have b2 := hV j 2 hj (by omega)
  unfold KL KY WK
  rcases (show r = 0 ∨ r = 1 ∨ r = 2 ∨ r = 3 by omega) with rfl | rfl | rfl | rfl
  · simp
  · simp
    split <;> split <;> omega
  · simp
    omega
  · simp
    omega
theorem WK_le {V : Nat → Nat → Nat} {r n j : Nat} (hV : okV n V) (hj : j < n) : -1000 ≤ WK V r j ∧ WK V r j ≤ 1000 := by
  have b0 := hV j 0 hj (by omega)
  have b1 := hV j 1 hj (by omega)
  have b2 := hV j 2 hj (by omega)
  have b5 := hV j 5 hj (by omega)
  unfold WK
  split
  · omega
  · split
    · split <;> omega
    · split <;> omega
theorem OR_mono {V : Nat → Nat → Nat} {r n j p q : Nat} (hr : r ≤ 3) (hV : okV n V) (hj : j ≤ n) (h : p ≤ q) (hq : q < j) : WK V r (OR V r j p) ≤ WK V r (OR V r j q) := by
  obtain ⟨p1, p2⟩ := OR_ok (V := V) (r := r) (show p < j by omega)
  obtain ⟨q1, q2⟩ := OR_ok (V := V) (r := r) hq
  by_cases e : WK V r (OR V r j q) < WK V r (OR V r j p)
  · have k : KL V r (OR V r j q) (OR V r j p) := (KL_W hr hV (by omega) (by omega)).mpr (Or.inl e)
    have := PB_mono q1 k
    omega
  · omega
/-- a job comes behind all that aren't above it -/
theorem OR_ins {V : Nat → Nat → Nat} {r n j k : Nat} (hr : r ≤ 3) (hV : okV n V) (hj : j < n) (hk : k ≤ j) (hi : ∀ p, k ≤ p → p < j → WK V r j < WK V r (OR V r j p)) (lo : k = 0 ∨ WK V r (OR V r j (k - 1)) ≤ WK V r j) {p : Nat} (hp : p < j + 1) : (if p < k then OR V r j p else if p = k then j else OR V r j (p - 1)) = OR V r (j + 1) p := by
  have st : ∀ o, o < j → PB V r (j + 1) o = PB V r j o + (if KB V r o j = true then 1 else 0) := fun o _ => rfl
  have kb : ∀ o, o < j → (KB V r o j = true ↔ WK V r j < WK V r o) := fun o ho => by
    rw [KB_iff, KL_W hr hV hj (by omega)]
    omega
  have P1 : ∀ p, p < k → PB V r (j + 1) (OR V r j p) = p := fun p hp => by
    obtain ⟨p1, p2⟩ := OR_ok (V := V) (r := r) (show p < j by omega)
    have := OR_mono (p := p) (q := k - 1) hr hV (show j ≤ n by omega) (by omega) (by omega)
    rw [st _ p1, if_neg (fun z => by have := (kb _ p1).mp z; omega), p2]
    rfl
  have P2 : ∀ p, k < p → p < j + 1 → PB V r (j + 1) (OR V r j (p - 1)) = p := fun p hp hp2 => by
    obtain ⟨p1, p2⟩ := OR_ok (V := V) (r := r) (show p - 1 < j by omega)
    have := hi (p - 1) (by omega) (by omega)
    rw [st _ p1, if_pos ((kb _ p1).mpr this), p2]
    omega
  have P3 : PB V r (j + 1) j = k := by
    have hl := PB_lt (V := V) (r := r) (show j < j + 1 by omega)
    by_cases e : PB V r (j + 1) j = k
    · exact e
    · exfalso
      by_cases e2 : PB V r (j + 1) j < k
      · have h1 := P1 _ e2
        obtain ⟨p1, -⟩ := OR_ok (V := V) (r := r) (show PB V r (j + 1) j < j by omega)
        have := (okO_PB (V := V) (r := r) (n := j + 1)).2 _ _ (by omega) (by omega) h1
        omega
      · have h1 := P2 _ (show k < PB V r (j + 1) j by omega) hl
        obtain ⟨p1, -⟩ := OR_ok (V := V) (r := r) (show PB V r (j + 1) j - 1 < j by omega)
        have := (okO_PB (V := V) (r := r) (n := j + 1)).2 _ _ (by omega) (by omega) h1
        omega
  by_cases h1 : p < k
  · rw [if_pos h1]
    have := OR_PB (V := V) (r := r) (n := j + 1) (j := OR V r j p) (by have := (OR_ok (V := V) (r := r) (show p < j by omega)).1; omega)
    rw [P1 p h1] at this
    exact this.symm
  · rw [if_neg h1]
    by_cases h2 : p = k
    · rw [if_pos h2]
      have := OR_PB (V := V) (r := r) (n := j + 1) (j := j) (by omega)
      rw [P3] at this
      rw [h2]
      exact this.symm
    · rw [if_neg h2]
      have := OR_PB (V := V) (r := r) (n := j + 1) (j := OR V r j (p - 1)) (by have := (OR_ok (V := V) (r := r) (show p - 1 < j by omega)).1; omega)
      rw [P2 p (by omega) hp] at this
      exact this.symm
theorem sub1000 {a : Nat} : nI a - 1000 = iN ((a : Int) - 1000) := iN_sub (a := a) (b := 1000)
theorem f1000 {a b : Nat} : (1000 : Int32) - nI a - nI b = iN (1000 - (a : Int) - (b : Int)) := by
  have e : (1000 : Int32) - nI a = iN (((1000 : Nat) : Int) - (a : Int)) := iN_sub (a := 1000) (b := a)
  rw [e, iN_sub2]
  rfl
set_option maxHeartbeats 2000000 in
theorem m_weight {d r j n : Nat} {V : Nat → Nat → Nat} {σ : mx_S} {q : mx_R} (hn : n ≤ 6) (hj : j < n) (hr : r ≤ 3) (hV : okV n V) (hR : ∀ j k, j < n → k < 6 → σ.1 89 (6 * j + k) = nI (V j k)) : mx_call (d + 3) m_X7_weight [.ref 88, .int (nI r), .int (nI j)] σ q ↔ q = (some (.int (iN (WK V r j))), σ) := by
  have r0 : σ.1 89 (6 * j) = nI (V j 0) := hR j 0 hj (by omega)
  have r1 := hR j 1 hj (by omega)
  have r2 := hR j 2 hj (by omega)
  have r5 := hR j 5 hj (by omega)
  unfold WK
  rcases (show r = 0 ∨ r = 1 ∨ r = 2 ∨ r = 3 by omega) with rfl | rfl | rfl | rfl
  · simp (disch := omega) only [C_X7_weight, true_and, and_true, and_self, exists_eq_left, Option.toList_some, Option.toList_none, List.cons_append, List.nil_append, List.append_nil, i2_i, i2_r, i2_n, nz0, nz1, true_or, or_true, Nat.reduceAdd, Nat.le_refl, Nat.reduceLT, Nat.reduceLeDiff, ↓E_X7_weight_0, ↓E_X7_weight_1, ↓E_X7_weight_28, ↓E_X7_weight_29, ↓E_X7_weight_31, ↓E_X7_weight_32, ↓E_X7_weight_35, ↓E_X7_weight_38, ↓E_X7_weight_39, ↓E_X7_weight_40, ↓E_X7_weight_41, ↓E_X7_weight_44, ↓E_X7_weight_45, ↓E_X7_weight_46, ↓E_X7_weight_47, ↓E_X7_weight_50, ↓E_X7_weight_51, ↓E_X7_weight_54, ↓E_X7_weight_55, ↓E_X7_weight_58, ↓E_X7_weight_61, ↓E_X7_weight_62, ↓E_X7_weight_63, ↓E_X7_weight_64, ↓E_X7_weight_67, ↓E_X7_weight_68, ↓E_X7_weight_69, ↓E_X7_weight_70, ↓E_X7_weight_71, ↓E_X7_weight_74, ↓E_X7_weight_75, ↓E_X7_weight_77, ↓E_X7_weight_78, ↓E_X7_weight_79, ↓E_X7_weight_82, ↓E_X7_weight_83, ↓E_X7_weight_84, ↓E_X7_weight_85, ↓E_X7_weight_88, ↓E_X7_weight_89, ↓E_X7_weight_90, ↓E_X7_weight_91, ↓E_X7_weight_92, ↓E_X7_weight_95, ↓E_X7_weight_96, ↓E_X7_weight_98, ↓E_X7_weight_99, ↓E_X7_weight_100, ↓E_X7_weight_103, if_pos (show nI 0 = 0 by decide)]
    rfl
  · simp (disch := omega) only [C_X7_weight, true_and, and_true, and_self, exists_eq_left, Option.toList_some, Option.toList_none, List.cons_append, List.nil_append, List.append_nil, i2_i, i2_r, i2_n, nz0, nz1, true_or, or_true, Nat.reduceAdd, Nat.le_refl, Nat.reduceLT, Nat.reduceLeDiff, ↓E_X7_weight_0, ↓E_X7_weight_1, ↓E_X7_weight_29, ↓E_X7_weight_30, ↓E_X7_weight_31, ↓E_X7_weight_32, ↓E_X7_weight_35, ↓E_X7_weight_38, ↓E_X7_weight_39, ↓E_X7_weight_40, ↓E_X7_weight_41, ↓E_X7_weight_44, ↓E_X7_weight_45, ↓E_X7_weight_46, ↓E_X7_weight_47, ↓E_X7_weight_50, ↓E_X7_weight_51, ↓E_X7_weight_54, ↓E_X7_weight_55, ↓E_X7_weight_58, ↓E_X7_weight_61, ↓E_X7_weight_62, ↓E_X7_weight_63, ↓E_X7_weight_64, ↓E_X7_weight_67, ↓E_X7_weight_68, ↓E_X7_weight_69, ↓E_X7_weight_70, ↓E_X7_weight_71, ↓E_X7_weight_74, ↓E_X7_weight_75, ↓E_X7_weight_77, ↓E_X7_weight_78, ↓E_X7_weight_79, ↓E_X7_weight_82, ↓E_X7_weight_83, ↓E_X7_weight_84, ↓E_X7_weight_85, ↓E_X7_weight_88, ↓E_X7_weight_89, ↓E_X7_weight_90, ↓E_X7_weight_91, ↓E_X7_weight_92, ↓E_X7_weight_95, ↓E_X7_weight_96, ↓E_X7_weight_98, ↓E_X7_weight_99, ↓E_X7_weight_100, ↓E_X7_weight_103, if_neg (show ¬ nI 1 = 0 by decide), if_pos (show nI 1 = 1 by decide), m_isFirst hn hj hV hR, bz_0, m_g0, m_g1, m_g2, r0, r1, r2, nI_add, sub1000, f1000]
    by_cases e : V j 0 ≤ V j 2
    · simp only [decide_eq_true e, if_neg (show ¬ true = false by decide), if_pos e]
      rfl
    · simp only [decide_eq_false e, if_neg e, if_true]
      rfl
  · simp (disch := omega) only [C_X7_weight, true_and, and_true, and_self, exists_eq_left, Option.toList_some, Option.toList_none, List.cons_append, List.nil_append, List.append_nil, i2_i, i2_r, i2_n, nz0, nz1, true_or, or_true, Nat.reduceAdd, Nat.le_refl, Nat.reduceLT, Nat.reduceLeDiff, ↓E_X7_weight_0, ↓E_X7_weight_1, ↓E_X7_weight_29, ↓E_X7_weight_31, ↓E_X7_weight_32, ↓E_X7_weight_35, ↓E_X7_weight_38, ↓E_X7_weight_39, ↓E_X7_weight_40, ↓E_X7_weight_41, ↓E_X7_weight_44, ↓E_X7_weight_45, ↓E_X7_weight_46, ↓E_X7_weight_47, ↓E_X7_weight_50, ↓E_X7_weight_51, ↓E_X7_weight_54, ↓E_X7_weight_55, ↓E_X7_weight_58, ↓E_X7_weight_61, ↓E_X7_weight_62, ↓E_X7_weight_63, ↓E_X7_weight_64, ↓E_X7_weight_67, ↓E_X7_weight_68, ↓E_X7_weight_69, ↓E_X7_weight_70, ↓E_X7_weight_71, ↓E_X7_weight_74, ↓E_X7_weight_75, ↓E_X7_weight_76, ↓E_X7_weight_77, ↓E_X7_weight_78, ↓E_X7_weight_79, ↓E_X7_weight_82, ↓E_X7_weight_83, ↓E_X7_weight_84, ↓E_X7_weight_85, ↓E_X7_weight_88, ↓E_X7_weight_89, ↓E_X7_weight_90, ↓E_X7_weight_91, ↓E_X7_weight_92, ↓E_X7_weight_95, ↓E_X7_weight_96, ↓E_X7_weight_98, ↓E_X7_weight_99, ↓E_X7_weight_100, ↓E_X7_weight_103, if_neg (show ¬ nI 2 = 0 by decide), if_neg (show ¬ nI 2 = 1 by decide), if_pos (show nI 2 = 2 by decide), m_g0, m_g1, m_g2, r0, r1, r2, nI_add]
    rfl
  · simp (disch := omega) only [C_X7_weight, true_and, and_true, and_self, exists_eq_left, Option.toList_some, Option.toList_none, List.cons_append, List.nil_append, List.append_nil, i2_i, i2_r, i2_n, nz0, nz1, true_or, or_true, Nat.reduceAdd, Nat.le_refl, Nat.reduceLT, Nat.reduceLeDiff, ↓E_X7_weight_0, ↓E_X7_weight_1, ↓E_X7_weight_29, ↓E_X7_weight_31, ↓E_X7_weight_32, ↓E_X7_weight_35, ↓E_X7_weight_38, ↓E_X7_weight_39, ↓E_X7_weight_40, ↓E_X7_weight_41, ↓E_X7_weight_44, ↓E_X7_weight_45, ↓E_X7_weight_46, ↓E_X7_weight_47, ↓E_X7_weight_50, ↓E_X7_weight_51, ↓E_X7_weight_54, ↓E_X7_weight_55, ↓E_X7_weight_58, ↓E_X7_weight_61, ↓E_X7_weight_62, ↓E_X7_weight_63, ↓E_X7_weight_64, ↓E_X7_weight_67, ↓E_X7_weight_68, ↓E_X7_weight_69, ↓E_X7_weight_70, ↓E_X7_weight_71, ↓E_X7_weight_74, ↓E_X7_weight_75, ↓E_X7_weight_77, ↓E_X7_weight_78, ↓E_X7_weight_79, ↓E_X7_weight_82, ↓E_X7_weight_83, ↓E_X7_weight_84, ↓E_X7_weight_85, ↓E_X7_weight_88, ↓E_X7_weight_89, ↓E_X7_weight_90, ↓E_X7_weight_91, ↓E_X7_weight_92, ↓E_X7_weight_95, ↓E_X7_weight_96, ↓E_X7_weight_97, ↓E_X7_weight_98, ↓E_X7_weight_99, ↓E_X7_weight_100, ↓E_X7_weight_103, if_neg (show ¬ nI 3 = 0 by decide), if_neg (show ¬ nI 3 = 1 by decide), if_neg (show ¬ nI 3 = 2 by decide), m_g5, r5]
    rfl
set_option maxHeartbeats 4000000 in
theorem m_ins {d r j n a : Nat} {V : Nat → Nat → Nat} {σ : mx_S} (ha : a = 100 ∨ a = 101) (hn : n ≤ 6) (hj : j < n) (hr : r ≤ 3) (hV : okV n V) (h0 : σ.1 88 0 = nI n) (hR : ∀ j k, j < n → k < 6 → σ.1 89 (6 * j + k) = nI (V j k)) (hO : ∀ p, p < j → σ.1 a p = nI (OR V r j p)) : ∀ m t, m + t = j → (∀ p, m ≤ p → p < j → WK V r j < WK V r (OR V r j p)) →
    ∃ (g : Nat → Int32) (l4 : Int32), (∀ q, mx_run (d + 3) m_X7_orders 13 [some (.ref 88), some (.int (nI r)), some (.ref a), some (.int (nI j)), some (.int (nI m))] [] (mx_c σ.1 a (mvDn (σ.1 a) j t), σ.2) q ↔ mx_run (d + 3) m_X7_orders 2 [some (.ref 88), some (.int (nI r)), some (.ref a), some (.int (nI (j + 1))), some (.int l4)] [] (mx_c σ.1 a g, σ.2) q) ∧ ∀ p, p < j + 1 → g p = nI (OR V r (j + 1) p) := by
  have z0 : ∀ f, (mx_c σ.1 a f) 88 0 = nI n := fun f => by rw [cc_row (by omega)]; exact h0
  have zR : ∀ f, ∀ j k, j < n → k < 6 → (mx_c σ.1 a f) 89 (6 * j + k) = nI (V j k) := fun f j k hj hk => by rw [cc_row (by omega)]; exact hR j k hj hk
  have fin : ∀ m t, m + t = j → (∀ p, m ≤ p → p < j → WK V r j < WK V r (OR V r j p)) → (m = 0 ∨ WK V r (OR V r j (m - 1)) ≤ WK V r j) → ∃ (g : Nat → Int32) (l4 : Int32), (∀ q, mx_run (d + 3) m_X7_orders 54 [some (.ref 88), some (.int (nI r)), some (.ref a), some (.int (nI j)), some (.int (nI m))] [] (mx_c σ.1 a (mvDn (σ.1 a) j t), σ.2) q ↔ mx_run (d + 3) m_X7_orders 2 [some (.ref 88), some (.int (nI r)), some (.ref a), some (.int (nI (j + 1))), some (.int l4)] [] (mx_c σ.1 a g, σ.2) q) ∧ ∀ p, p < j + 1 → g p = nI (OR V r (j + 1) p) := by
    intro m t hm hi lo
    refine ⟨upd (mvDn (σ.1 a) j t) m (nI j), nI m, fun q => ?_, fun p hp => ?_⟩
    · simp (disch := omega) only [true_and, and_true, and_self, exists_eq_left, Option.toList_some, Option.toList_none, List.cons_append, List.nil_append, List.append_nil, i2_i, i2_r, i2_n, nz0, nz1, true_or, or_true, Nat.reduceAdd, Nat.le_refl, Nat.reduceLT, Nat.reduceLeDiff, ↓E_X7_orders_0, ↓E_X7_orders_1, ↓E_X7_orders_3, ↓E_X7_orders_4, ↓E_X7_orders_7, ↓E_X7_orders_10, ↓E_X7_orders_11, ↓E_X7_orders_13, ↓E_X7_orders_15, ↓E_X7_orders_18, ↓E_X7_orders_19, ↓E_X7_orders_20, ↓E_X7_orders_21, ↓E_X7_orders_23, ↓E_X7_orders_24, ↓E_X7_orders_25, ↓E_X7_orders_26, ↓E_X7_orders_29, ↓E_X7_orders_30, ↓E_X7_orders_31, ↓E_X7_orders_32, ↓E_X7_orders_35, ↓E_X7_orders_38, ↓E_X7_orders_39, ↓E_X7_orders_41, ↓E_X7_orders_42, ↓E_X7_orders_44, ↓E_X7_orders_45, ↓E_X7_orders_46, ↓E_X7_orders_47, ↓E_X7_orders_48, ↓E_X7_orders_51, ↓E_X7_orders_54, ↓E_X7_orders_55, ↓E_X7_orders_57, ↓E_X7_orders_58, ↓E_X7_orders_59, ↓E_X7_orders_62, ↓E_X7_orders_65, kd_8, ln_6, vin, clN, nI_1]
      rw [mx_uc]
    · rw [← OR_ins hr hV hj (show m ≤ j by omega) hi lo hp]
      unfold upd mvDn
      by_cases e : p = m
      · rw [if_pos e, if_neg (by omega), if_pos e]
      · rw [if_neg e]
        by_cases e2 : p < m
        · rw [if_pos e2, if_neg (by omega)]
          exact hO p (by omega)
        · rw [if_neg e2, if_neg e, if_pos (by omega)]
          exact hO (p - 1) (by omega)
  intro m
  induction m with
  | zero =>
    intro t ht hi
    obtain ⟨g, l4, r1, hg⟩ := fin 0 t ht hi (Or.inl rfl)
    refine ⟨g, l4, fun q => ?_, hg⟩
    rw [← r1 q]
    conv => lhs; rw [E_X7_orders_13]
    simp (disch := omega) only [true_and, and_true, and_self, exists_eq_left, Option.toList_some, Option.toList_none, List.cons_append, List.nil_append, List.append_nil, i2_i, i2_r, i2_n, nz0, nz1, true_or, or_true, Nat.reduceAdd, Nat.le_refl, Nat.reduceLT, Nat.reduceLeDiff, ↓E_X7_orders_0, ↓E_X7_orders_1, ↓E_X7_orders_3, ↓E_X7_orders_4, ↓E_X7_orders_7, ↓E_X7_orders_10, ↓E_X7_orders_11, ↓E_X7_orders_15, ↓E_X7_orders_19, ↓E_X7_orders_20, ↓E_X7_orders_21, ↓E_X7_orders_23, ↓E_X7_orders_24, ↓E_X7_orders_25, ↓E_X7_orders_26, ↓E_X7_orders_29, ↓E_X7_orders_30, ↓E_X7_orders_31, ↓E_X7_orders_32, ↓E_X7_orders_35, ↓E_X7_orders_38, ↓E_X7_orders_39, ↓E_X7_orders_41, ↓E_X7_orders_42, ↓E_X7_orders_44, ↓E_X7_orders_45, ↓E_X7_orders_46, ↓E_X7_orders_47, ↓E_X7_orders_48, ↓E_X7_orders_51, ↓E_X7_orders_55, ↓E_X7_orders_57, ↓E_X7_orders_58, ↓E_X7_orders_59, ↓E_X7_orders_62, ↓E_X7_orders_65, if_pos (show nI 0 ≤ (0 : Int32) by decide)]
  | succ m ih =>
    intro t ht hi
    have row : mvDn (σ.1 a) j t m = nI (OR V r j m) := by
      unfold mvDn
      rw [if_neg (by omega)]
      exact hO m (by omega)
    obtain ⟨o1, o2⟩ := OR_ok (V := V) (r := r) (show m < j by omega)
    have b1 := WK_le (r := r) hV (show OR V r j m < n by omega)
    have b2 := WK_le (r := r) hV hj
    have w1 := fun q => m_weight (d := d) (σ := (mx_c σ.1 a (mvDn (σ.1 a) j t), σ.2)) (q := q) hn (show OR V r j m < n by omega) hr hV (zR _)
    have w2 := fun q => m_weight (d := d) (σ := (mx_c σ.1 a (mvDn (σ.1 a) j t), σ.2)) (q := q) hn hj hr hV (zR _)
    have p0 : ¬ nI (m + 1) ≤ (0 : Int32) := fun z => by
      rw [le32, nI_toInt (by omega)] at z
      have e0 : (0 : Int32).toInt = 0 := rfl
      omega
    by_cases hw : WK V r (OR V r j m) ≤ WK V r j
    · obtain ⟨g, l4, r1, hg⟩ := fin (m + 1) t ht hi (Or.inr hw)
      refine ⟨g, l4, fun q => ?_, hg⟩
      rw [← r1 q]
      conv => lhs; rw [E_X7_orders_13]
      simp (disch := omega) only [true_and, and_true, and_self, exists_eq_left, Option.toList_some, Option.toList_none, List.cons_append, List.nil_append, List.append_nil, i2_i, i2_r, i2_n, nz0, nz1, true_or, or_true, Nat.reduceAdd, Nat.le_refl, Nat.reduceLT, Nat.reduceLeDiff, ↓E_X7_orders_0, ↓E_X7_orders_1, ↓E_X7_orders_3, ↓E_X7_orders_4, ↓E_X7_orders_7, ↓E_X7_orders_10, ↓E_X7_orders_11, ↓E_X7_orders_15, ↓E_X7_orders_18, ↓E_X7_orders_19, ↓E_X7_orders_20, ↓E_X7_orders_21, ↓E_X7_orders_23, ↓E_X7_orders_24, ↓E_X7_orders_25, ↓E_X7_orders_26, ↓E_X7_orders_29, ↓E_X7_orders_30, ↓E_X7_orders_31, ↓E_X7_orders_32, ↓E_X7_orders_35, ↓E_X7_orders_39, ↓E_X7_orders_41, ↓E_X7_orders_42, ↓E_X7_orders_44, ↓E_X7_orders_45, ↓E_X7_orders_46, ↓E_X7_orders_47, ↓E_X7_orders_48, ↓E_X7_orders_51, ↓E_X7_orders_55, ↓E_X7_orders_57, ↓E_X7_orders_58, ↓E_X7_orders_59, ↓E_X7_orders_62, ↓E_X7_orders_65, if_neg p0, nI_pred, kd_8, ln_6, vin, clN, cc_same, row, w1, w2, iN_le, if_pos hw]
    · obtain ⟨g, l4, r1, hg⟩ := ih (t + 1) (by omega) (fun p h1 h2 => by
        by_cases e : p = m
        · subst e; omega
        · exact hi p (by omega) h2)
      refine ⟨g, l4, fun q => ?_, hg⟩
      rw [← r1 q]
      conv => lhs; rw [E_X7_orders_13]
      simp (disch := omega) only [true_and, and_true, and_self, exists_eq_left, Option.toList_some, Option.toList_none, List.cons_append, List.nil_append, List.append_nil, i2_i, i2_r, i2_n, nz0, nz1, true_or, or_true, Nat.reduceAdd, Nat.le_refl, Nat.reduceLT, Nat.reduceLeDiff, ↓E_X7_orders_0, ↓E_X7_orders_1, ↓E_X7_orders_3, ↓E_X7_orders_4, ↓E_X7_orders_7, ↓E_X7_orders_10, ↓E_X7_orders_11, ↓E_X7_orders_15, ↓E_X7_orders_18, ↓E_X7_orders_19, ↓E_X7_orders_20, ↓E_X7_orders_21, ↓E_X7_orders_23, ↓E_X7_orders_24, ↓E_X7_orders_25, ↓E_X7_orders_26, ↓E_X7_orders_29, ↓E_X7_orders_30, ↓E_X7_orders_31, ↓E_X7_orders_32, ↓E_X7_orders_35, ↓E_X7_orders_38, ↓E_X7_orders_39, ↓E_X7_orders_41, ↓E_X7_orders_42, ↓E_X7_orders_44, ↓E_X7_orders_45, ↓E_X7_orders_46, ↓E_X7_orders_47, ↓E_X7_orders_48, ↓E_X7_orders_51, ↓E_X7_orders_55, ↓E_X7_orders_57, ↓E_X7_orders_58, ↓E_X7_orders_59, ↓E_X7_orders_62, ↓E_X7_orders_65, if_neg p0, nI_pred, pk_m1, kd_8, ln_6, vin, clN, cc_same, row, w1, w2, iN_le, if_neg hw]
      have e := mvDn_s (f := σ.1 a) (k := j) (t := t) (by omega)
      rw [show j - t - 1 = m by omega, row, show j - t = m + 1 by omega] at e
      rw [mx_uc, e]
set_option maxHeartbeats 4000000 in
theorem m_orders {d r n a : Nat} {V : Nat → Nat → Nat} {σ0 : mx_S} (ha : a = 100 ∨ a = 101) (hn : n ≤ 6) (hr : r ≤ 3) (hV : okV n V) (h0 : σ0.1 88 0 = nI n) (hR : ∀ j k, j < n → k < 6 → σ0.1 89 (6 * j + k) = nI (V j k)) : ∃ σ', (∀ q, mx_call (d + 4) m_X7_orders [.ref 88, .int (nI r), .ref a] σ0 q ↔ q = (none, σ')) ∧ (∀ p, p < n → σ'.1 a p = nI (OR V r n p)) ∧ (∀ i, i ≠ a → σ'.1 i = σ0.1 i) ∧ σ'.2 = σ0.2 := by
  have lp : ∀ m j (σ : mx_S) (l4 : Option Value), j + m = n → (∀ p, p < j → σ.1 a p = nI (OR V r j p)) → (∀ i, i ≠ a → σ.1 i = σ0.1 i) → σ.2 = σ0.2 → ∃ σ', (∀ q, mx_run (d + 3) m_X7_orders 2 [some (.ref 88), some (.int (nI r)), some (.ref a), some (.int (nI j)), l4] [] σ q ↔ q = (none, σ')) ∧ (∀ p, p < n → σ'.1 a p = nI (OR V r n p)) ∧ (∀ i, i ≠ a → σ'.1 i = σ0.1 i) ∧ σ'.2 = σ0.2 := by
    intro m
    induction m with
    | zero =>
      intro j σ l4 hj hO f g
      have e : j = n := by omega
      subst e
      have h0' : σ.1 88 0 = nI j := by rw [f 88 (by omega)]; exact h0
      refine ⟨σ, fun q => ?_, hO, f, g⟩
      rw [E_X7_orders_2]
      simp (disch := omega) only [true_and, and_true, and_self, exists_eq_left, Option.toList_some, Option.toList_none, List.cons_append, List.nil_append, List.append_nil, i2_i, i2_r, i2_n, nz0, nz1, true_or, or_true, Nat.reduceAdd, Nat.le_refl, Nat.reduceLT, Nat.reduceLeDiff, ↓E_X7_orders_0, ↓E_X7_orders_1, ↓E_X7_orders_3, ↓E_X7_orders_4, ↓E_X7_orders_7, ↓E_X7_orders_10, ↓E_X7_orders_11, ↓E_X7_orders_13, ↓E_X7_orders_15, ↓E_X7_orders_18, ↓E_X7_orders_19, ↓E_X7_orders_20, ↓E_X7_orders_21, ↓E_X7_orders_23, ↓E_X7_orders_24, ↓E_X7_orders_25, ↓E_X7_orders_26, ↓E_X7_orders_29, ↓E_X7_orders_30, ↓E_X7_orders_31, ↓E_X7_orders_32, ↓E_X7_orders_35, ↓E_X7_orders_38, ↓E_X7_orders_39, ↓E_X7_orders_41, ↓E_X7_orders_42, ↓E_X7_orders_44, ↓E_X7_orders_45, ↓E_X7_orders_46, ↓E_X7_orders_47, ↓E_X7_orders_48, ↓E_X7_orders_51, ↓E_X7_orders_54, ↓E_X7_orders_55, ↓E_X7_orders_57, ↓E_X7_orders_58, ↓E_X7_orders_59, ↓E_X7_orders_62, ↓E_X7_orders_65, h0', leN, if_true]
    | succ m ih =>
      intro j σ l4 hj hO f g
      have h0' : σ.1 88 0 = nI n := by rw [f 88 (by omega)]; exact h0
      obtain ⟨gg, l4', r1, hg⟩ := m_ins (d := d) ha hn (show j < n by omega) hr hV h0' (fun j k hj hk => by rw [f 89 (by omega)]; exact hR j k hj hk) hO j 0 (by omega) (fun p h1 h2 => by omega)
      have z2 : mvDn (σ.1 a) j 0 = σ.1 a := by funext p; unfold mvDn; rw [if_neg (by omega)]
      rw [z2, mx_c_id] at r1
      obtain ⟨σ', r2, z⟩ := ih (j + 1) (mx_c σ.1 a gg, σ.2) (some (.int l4')) (by omega) (fun p hp => by simp only [cc_same]; exact hg p hp) (fun i hi => by show mx_c _ _ _ i = _; rw [mx_c_ne hi]; exact f i hi) g
      refine ⟨σ', fun q => ?_, z⟩
      rw [← r2 q]
      have r1' : ∀ q, mx_run (d + 3) m_X7_orders 13 [some (.ref 88), some (.int (nI r)), some (.ref a), some (.int (nI j)), some (.int (nI j))] [] σ q ↔ _ := r1
      rw [← r1' q]
      conv => lhs; rw [E_X7_orders_2]
      simp (disch := omega) only [true_and, and_true, and_self, exists_eq_left, Option.toList_some, Option.toList_none, List.cons_append, List.nil_append, List.append_nil, i2_i, i2_r, i2_n, nz0, nz1, true_or, or_true, Nat.reduceAdd, Nat.le_refl, Nat.reduceLT, Nat.reduceLeDiff, ↓E_X7_orders_0, ↓E_X7_orders_1, ↓E_X7_orders_3, ↓E_X7_orders_4, ↓E_X7_orders_7, ↓E_X7_orders_10, ↓E_X7_orders_11, ↓E_X7_orders_15, ↓E_X7_orders_18, ↓E_X7_orders_19, ↓E_X7_orders_20, ↓E_X7_orders_21, ↓E_X7_orders_23, ↓E_X7_orders_24, ↓E_X7_orders_25, ↓E_X7_orders_26, ↓E_X7_orders_29, ↓E_X7_orders_30, ↓E_X7_orders_31, ↓E_X7_orders_32, ↓E_X7_orders_35, ↓E_X7_orders_38, ↓E_X7_orders_39, ↓E_X7_orders_41, ↓E_X7_orders_42, ↓E_X7_orders_44, ↓E_X7_orders_45, ↓E_X7_orders_46, ↓E_X7_orders_47, ↓E_X7_orders_48, ↓E_X7_orders_51, ↓E_X7_orders_54, ↓E_X7_orders_55, ↓E_X7_orders_57, ↓E_X7_orders_58, ↓E_X7_orders_59, ↓E_X7_orders_62, ↓E_X7_orders_65, h0', leN, if_neg (show ¬ n ≤ j by omega)]
  obtain ⟨σ', r1, z⟩ := lp n 0 σ0 none (by omega) (fun p hp => by omega) (fun _ _ => rfl) rfl
  refine ⟨σ', fun q => ?_, z⟩
  rw [← r1 q]
  simp (disch := omega) only [C_X7_orders, true_and, and_true, and_self, exists_eq_left, Option.toList_some, Option.toList_none, List.cons_append, List.nil_append, List.append_nil, i2_i, i2_r, i2_n, nz0, nz1, true_or, or_true, Nat.reduceAdd, Nat.le_refl, Nat.reduceLT, Nat.reduceLeDiff, ↓E_X7_orders_0, ↓E_X7_orders_1, ↓E_X7_orders_3, ↓E_X7_orders_4, ↓E_X7_orders_7, ↓E_X7_orders_10, ↓E_X7_orders_11, ↓E_X7_orders_13, ↓E_X7_orders_15, ↓E_X7_orders_18, ↓E_X7_orders_19, ↓E_X7_orders_20, ↓E_X7_orders_21, ↓E_X7_orders_23, ↓E_X7_orders_24, ↓E_X7_orders_25, ↓E_X7_orders_26, ↓E_X7_orders_29, ↓E_X7_orders_30, ↓E_X7_orders_31, ↓E_X7_orders_32, ↓E_X7_orders_35, ↓E_X7_orders_38, ↓E_X7_orders_39, ↓E_X7_orders_41, ↓E_X7_orders_42, ↓E_X7_orders_44, ↓E_X7_orders_45, ↓E_X7_orders_46, ↓E_X7_orders_47, ↓E_X7_orders_48, ↓E_X7_orders_51, ↓E_X7_orders_54, ↓E_X7_orders_55, ↓E_X7_orders_57, ↓E_X7_orders_58, ↓E_X7_orders_59, ↓E_X7_orders_62, ↓E_X7_orders_65]
  rfl
