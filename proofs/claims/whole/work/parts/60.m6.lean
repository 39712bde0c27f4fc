/-! ===== the reference: the image ===== -/
/-- what passes as number p -/
def loc (p : Nat) : Nat × Nat := if p < 3 then (88, p) else if p < 6 then (88, p + 8) else if p < 42 then (89, p - 6) else if p < 48 then (90, p - 42) else if p < 53 then (91, p - 48) else if p < 58 then (92, p - 53) else if p < 66 then (93, p - 58) else if p < 74 then (94, p - 66) else if p < 82 then (95, p - 74) else (96, p - 82)
theorem loc_inj : ∀ p, p < 90 → ∀ s, s < 90 → loc p = loc s → p = s := by decide +kernel
theorem loc_in : ∀ p, p < 90 → ((loc p).1 = 88 ∧ ((loc p).2 < 3 ∨ (11 ≤ (loc p).2 ∧ (loc p).2 < 14))) ∨ (89 ≤ (loc p).1 ∧ (loc p).1 ≤ 96) := by decide +kernel
theorem loc_ne {p s : Nat} (hp : p < 90) (hs : s < 90) (h : p ≠ s) : (loc p).1 ≠ (loc s).1 ∨ (loc p).2 ≠ (loc s).2 := by
  by_cases e : (loc p).1 = (loc s).1
  · refine Or.inr (fun e2 => h (loc_inj p hp s hs (Prod.ext e e2)))
  · exact Or.inl e
/-- the value that passes -/
def pX (K : Bool) (σ : mx_S) (p : Nat) : Int32 := if K = true then σ.1 (loc p).1 (loc p).2 else σ.1 98 p
def pI (K : Bool) (σ0 : mx_S) (s : Nat) (σ : mx_S) : Prop :=
  σ.1 88 19 = bz K ∧ σ.1 88 18 = nI s ∧ (∀ p, p < s → σ.1 98 p = pX K σ0 p ∧ σ.1 (loc p).1 (loc p).2 = pX K σ0 p) ∧ (∀ p, s ≤ p → p < 90 → σ.1 98 p = σ0.1 98 p ∧ σ.1 (loc p).1 (loc p).2 = σ0.1 (loc p).1 (loc p).2)
  ∧ (∀ k, ((3 ≤ k ∧ k < 11) ∨ (14 ≤ k ∧ k < 18) ∨ 20 ≤ k) → σ.1 88 k = σ0.1 88 k) ∧ (∀ i, (i < 88 ∨ i = 97 ∨ 99 ≤ i) → σ.1 i = σ0.1 i) ∧ σ.2 = σ0.2
def pN (K : Bool) (σ : mx_S) (s : Nat) : mx_S := (mx_u (mx_u (mx_u σ.1 98 s (pX K σ s)) 88 18 (nI (s + 1))) (loc s).1 (loc s).2 (pX K σ s), σ.2)
theorem uu_any {f : Nat → Nat → Int32} {a k i j : Nat} {x : Int32} (h : i ≠ a ∨ j ≠ k) : mx_u f a k x i j = f i j := by
  unfold mx_u
  rw [if_neg (fun z => h.elim (fun y => y z.1) (fun y => y z.2))]
theorem pI_s {K : Bool} {σ0 σ : mx_S} {s : Nat} (hs : s < 90) (h : pI K σ0 s σ) : pI K σ0 (s + 1) (pN K σ s) := by
  obtain ⟨h1, h2, h3, h4, h5, h6, h7⟩ := h
  have li := loc_in s hs
  have ex : pX K σ s = pX K σ0 s := by
    unfold pX
    rw [(h4 s (Nat.le_refl _) hs).1, (h4 s (Nat.le_refl _) hs).2]
  have e98 : ∀ p, (pN K σ s).1 98 p = if p = s then pX K σ s else σ.1 98 p := by
    intro p
    show mx_u _ _ _ _ 98 p = _
    rw [uu_any (by omega)]
    simp (disch := omega) only [uu_row]
    by_cases e : p = s
    · rw [if_pos e, e, uu_same]
    · rw [if_neg e, uu_col e]
  have eloc : ∀ p, p < 90 → (pN K σ s).1 (loc p).1 (loc p).2 = if p = s then pX K σ s else σ.1 (loc p).1 (loc p).2 := by
    intro p hp
    have lp := loc_in p hp
    show mx_u _ _ _ _ _ _ = _
    by_cases e : p = s
    · rw [if_pos e, e, uu_same]
    · rw [if_neg e, uu_any (loc_ne hp hs e), uu_any (by omega), uu_any (by omega)]
  refine ⟨?_, ?_, fun p hp => ?_, fun p hp hp2 => ?_, fun k hk => ?_, fun i hi => ?_, h7⟩
  · show mx_u _ _ _ _ 88 19 = _
    rw [uu_any (by omega), uu_any (by omega), uu_any (by omega)]
    exact h1
  · show mx_u _ _ _ _ 88 18 = _
    rw [uu_any (by omega), uu_same]
  · rw [e98, eloc p (by omega)]
    by_cases e : p = s
    · rw [if_pos e, if_pos e, ex, e]; exact ⟨rfl, rfl⟩
    · rw [if_neg e, if_neg e]; exact h3 p (by omega)
  · rw [e98, eloc p hp2, if_neg (by omega), if_neg (by omega)]
    exact h4 p (by omega) hp2
  · show mx_u _ _ _ _ 88 k = _
    rw [uu_any (by omega), uu_any (by omega), uu_any (by omega)]
    exact h5 k hk
  · show mx_u _ _ _ _ i = _
    rw [mx_u_ne (by omega), mx_u_ne (by omega), mx_u_ne (by omega)]
    exact h6 i hi
set_option maxHeartbeats 2000000 in
theorem m_pass {d s : Nat} {K : Bool} {σ0 σ : mx_S} {v : Int32} (hs : s < 90) (h : pI K σ0 s σ) (hv : v = σ.1 (loc s).1 (loc s).2) : ∀ q, mx_call (d + 1) m_X7_passes [.ref 88, .int v] σ q ↔ q = (some (.int (pX K σ s)), (mx_u (mx_u σ.1 98 s (pX K σ s)) 88 18 (nI (s + 1)), σ.2)) := by
  intro q
  obtain ⟨h1, h2, -⟩ := h
  unfold pX
  subst hv
  cases K with
  | true =>
    simp (disch := omega) only [C_X7_passes, true_and, and_true, and_self, exists_eq_left, Option.toList_some, Option.toList_none, List.cons_append, List.nil_append, List.append_nil, i2_i, i2_r, i2_n, nz0, nz1, true_or, or_true, Nat.reduceAdd, Nat.le_refl, Nat.reduceLT, Nat.reduceLeDiff, ↓E_X7_passes_0, ↓E_X7_passes_1, ↓E_X7_passes_4, ↓E_X7_passes_7, ↓E_X7_passes_8, ↓E_X7_passes_12, ↓E_X7_passes_15, ↓E_X7_passes_16, ↓E_X7_passes_19, ↓E_X7_passes_20, ↓E_X7_passes_21, ↓E_X7_passes_22, ↓E_X7_passes_25, ↓E_X7_passes_26, ↓E_X7_passes_29, ↓E_X7_passes_30, ↓E_X7_passes_31, ↓E_X7_passes_32, ↓E_X7_passes_33, ↓E_X7_passes_36, ↓E_X7_passes_37, ↓E_X7_passes_38, ↓E_X7_passes_41, ↓E_X7_passes_42, h1, bzt, if_false, h2, kd_8, ln_100, vin, clN, uu_row, uu_same, nI_1, if_true]
  | false =>
    simp (disch := omega) only [C_X7_passes, true_and, and_true, and_self, exists_eq_left, Option.toList_some, Option.toList_none, List.cons_append, List.nil_append, List.append_nil, i2_i, i2_r, i2_n, nz0, nz1, true_or, or_true, Nat.reduceAdd, Nat.le_refl, Nat.reduceLT, Nat.reduceLeDiff, ↓E_X7_passes_0, ↓E_X7_passes_1, ↓E_X7_passes_4, ↓E_X7_passes_8, ↓E_X7_passes_11, ↓E_X7_passes_12, ↓E_X7_passes_15, ↓E_X7_passes_16, ↓E_X7_passes_19, ↓E_X7_passes_20, ↓E_X7_passes_21, ↓E_X7_passes_22, ↓E_X7_passes_25, ↓E_X7_passes_26, ↓E_X7_passes_29, ↓E_X7_passes_30, ↓E_X7_passes_31, ↓E_X7_passes_32, ↓E_X7_passes_33, ↓E_X7_passes_36, ↓E_X7_passes_37, ↓E_X7_passes_38, ↓E_X7_passes_41, ↓E_X7_passes_42, h1, bzf, if_true, h2, kd_8, ln_100, vin, clN, uu_row, uu_same, nI_1, if_neg (show ¬ false = true by decide)]
set_option maxHeartbeats 2000000 in
theorem m_passRow {d a n s0 : Nat} {K : Bool} {σ0 : mx_S} (ha : 89 ≤ a ∧ a ≤ 96) (hln : mx_ln a = n) (hn : n ≤ 36) (hs : s0 + n ≤ 90) (hl : ∀ k, k < n → loc (s0 + k) = (a, k)) {σ : mx_S} (h : pI K σ0 s0 σ) : ∃ σ', (∀ q, mx_call (d + 2) m_X7_passesRow [.ref 88, .ref a] σ q ↔ q = (none, σ')) ∧ pI K σ0 (s0 + n) σ' := by
  have lp : ∀ m k (σ : mx_S), k + m = n → pI K σ0 (s0 + k) σ → ∃ σ', (∀ q, mx_run (d + 1) m_X7_passesRow 2 [some (.ref 88), some (.ref a), some (.int (nI k))] [] σ q ↔ q = (none, σ')) ∧ pI K σ0 (s0 + n) σ' := by
    intro m
    induction m with
    | zero =>
      intro k σ hk h
      have e : k = n := by omega
      subst e
      refine ⟨σ, fun q => ?_, h⟩
      rw [E_X7_passesRow_2]
      have h8 : mx_kd a = 8 := kd_8 (by omega)
      simp (disch := omega) only [true_and, and_true, and_self, exists_eq_left, Option.toList_some, Option.toList_none, List.cons_append, List.nil_append, List.append_nil, i2_i, i2_r, i2_n, nz0, nz1, true_or, or_true, Nat.reduceAdd, Nat.le_refl, Nat.reduceLT, Nat.reduceLeDiff, ↓E_X7_passesRow_0, ↓E_X7_passesRow_1, ↓E_X7_passesRow_3, ↓E_X7_passesRow_4, ↓E_X7_passesRow_5, ↓E_X7_passesRow_8, ↓E_X7_passesRow_9, ↓E_X7_passesRow_10, ↓E_X7_passesRow_11, ↓E_X7_passesRow_12, ↓E_X7_passesRow_13, ↓E_X7_passesRow_14, ↓E_X7_passesRow_17, ↓E_X7_passesRow_18, ↓E_X7_passesRow_21, ↓E_X7_passesRow_24, h8, hln, leN, if_true]
    | succ m ih =>
      intro k σ hk h
      have c := m_pass (d := d) (v := σ.1 a k) (show s0 + k < 90 by omega) h (by rw [hl k (by omega)])
      have h2 := pI_s (show s0 + k < 90 by omega) h
      unfold pN at h2
      rw [hl k (by omega)] at h2
      obtain ⟨σ', r, g⟩ := ih (k + 1) _ (by omega) h2
      refine ⟨σ', fun q => ?_, g⟩
      rw [← r q]
      conv => lhs; rw [E_X7_passesRow_2]
      have h8 : mx_kd a = 8 := kd_8 (by omega)
      have h9 : a ≠ 114 := by omega
      simp (disch := first | omega | assumption) only [true_and, and_true, and_self, exists_eq_left, Option.toList_some, Option.toList_none, List.cons_append, List.nil_append, List.append_nil, i2_i, i2_r, i2_n, nz0, nz1, true_or, or_true, Nat.reduceAdd, Nat.le_refl, Nat.reduceLT, Nat.reduceLeDiff, ↓E_X7_passesRow_0, ↓E_X7_passesRow_1, ↓E_X7_passesRow_3, ↓E_X7_passesRow_4, ↓E_X7_passesRow_5, ↓E_X7_passesRow_8, ↓E_X7_passesRow_9, ↓E_X7_passesRow_10, ↓E_X7_passesRow_11, ↓E_X7_passesRow_12, ↓E_X7_passesRow_13, ↓E_X7_passesRow_14, ↓E_X7_passesRow_17, ↓E_X7_passesRow_18, ↓E_X7_passesRow_21, ↓E_X7_passesRow_24, h8, hln, leN, if_neg (show ¬ n ≤ k by omega), vin, clN, c, nI_1]
  obtain ⟨σ', r, g⟩ := lp n 0 σ (by omega) h
  refine ⟨σ', fun q => ?_, g⟩
  rw [← r q]
  simp (disch := omega) only [C_X7_passesRow, true_and, and_true, and_self, exists_eq_left, Option.toList_some, Option.toList_none, List.cons_append, List.nil_append, List.append_nil, i2_i, i2_r, i2_n, nz0, nz1, true_or, or_true, Nat.reduceAdd, Nat.le_refl, Nat.reduceLT, Nat.reduceLeDiff, ↓E_X7_passesRow_0, ↓E_X7_passesRow_1, ↓E_X7_passesRow_3, ↓E_X7_passesRow_4, ↓E_X7_passesRow_5, ↓E_X7_passesRow_8, ↓E_X7_passesRow_9, ↓E_X7_passesRow_10, ↓E_X7_passesRow_11, ↓E_X7_passesRow_12, ↓E_X7_passesRow_13, ↓E_X7_passesRow_14, ↓E_X7_passesRow_17, ↓E_X7_passesRow_18, ↓E_X7_passesRow_21, ↓E_X7_passesRow_24]
  rfl
set_option maxHeartbeats 4000000 in
theorem m_passAll {d : Nat} {K : Bool} {σ : mx_S} : ∃ σ', (∀ q, mx_call (d + 3) m_X7_passesAll [.ref 88, .int (bz K)] σ q ↔ q = (some (.int (σ'.1 88 0)), σ')) ∧ pI K σ 90 σ' := by
  have hK : bz K = 0 ∨ bz K = 1 := by cases K <;> decide
  have h0 : pI K σ 0 (mx_u (mx_u σ.1 88 19 (bz K)) 88 18 0, σ.2) := by
    refine ⟨?_, ?_, fun p hp => by omega, fun p _ hp => ?_, fun k hk => ?_, fun i hi => ?_, rfl⟩
    · simp (disch := omega) only [uu_col, uu_same]
    · simp only [uu_same]; rfl
    · have li := loc_in p hp
      refine ⟨?_, ?_⟩
      · simp (disch := omega) only [uu_row]
      · show mx_u _ _ _ _ _ _ = _
        rw [uu_any (by omega), uu_any (by omega)]
    · simp (disch := omega) only [uu_col]
    · simp (disch := omega) only [mx_u_ne]
  have c0 := m_pass (d := d + 1) (s := 0) (v := mx_u (mx_u σ.1 88 19 (bz K)) 88 18 0 88 0) (by omega) h0 rfl
  have h1 := pI_s (by omega) h0
  unfold pN at h1
  generalize hz0 : pX K (mx_u (mx_u σ.1 88 19 (bz K)) 88 18 0, σ.2) 0 = x0 at *
  generalize hs1 : mx_u (mx_u (mx_u (mx_u (mx_u σ.1 88 19 (bz K)) 88 18 0, σ.2).1 98 0 x0) 88 18 (nI (0 + 1))) (loc 0).1 (loc 0).2 x0 = f1 at *
  have c1 := m_pass (d := d + 1) (s := 1) (v := f1 88 1) (by omega) h1 rfl
  have h2 := pI_s (by omega) h1
  unfold pN at h2
  generalize hz1 : pX K (f1, σ.2) 1 = x1 at *
  generalize hs2 : mx_u (mx_u (mx_u (f1, σ.2).1 98 (0 + 1) x1) 88 18 (nI (0 + 1 + 1))) (loc (0 + 1)).1 (loc (0 + 1)).2 x1 = f2 at *
  have c2 := m_pass (d := d + 1) (s := 2) (v := f2 88 2) (by omega) h2 rfl
  have h3 := pI_s (by omega) h2
  unfold pN at h3
  generalize hz2 : pX K (f2, σ.2) 2 = x2 at *
  generalize hs3 : mx_u (mx_u (mx_u (f2, σ.2).1 98 (0 + 1 + 1) x2) 88 18 (nI (0 + 1 + 1 + 1))) (loc (0 + 1 + 1)).1 (loc (0 + 1 + 1)).2 x2 = f3 at *
  have c3 := m_pass (d := d + 1) (s := 3) (v := f3 88 11) (by omega) h3 rfl
  have h4 := pI_s (by omega) h3
  unfold pN at h4
  generalize hz3 : pX K (f3, σ.2) 3 = x3 at *
  generalize hs4 : mx_u (mx_u (mx_u (f3, σ.2).1 98 (0 + 1 + 1 + 1) x3) 88 18 (nI (0 + 1 + 1 + 1 + 1))) (loc (0 + 1 + 1 + 1)).1 (loc (0 + 1 + 1 + 1)).2 x3 = f4 at *
  have c4 := m_pass (d := d + 1) (s := 4) (v := f4 88 12) (by omega) h4 rfl
  have h5 := pI_s (by omega) h4
  unfold pN at h5
  generalize hz4 : pX K (f4, σ.2) 4 = x4 at *
  generalize hs5 : mx_u (mx_u (mx_u (f4, σ.2).1 98 (0 + 1 + 1 + 1 + 1) x4) 88 18 (nI (0 + 1 + 1 + 1 + 1 + 1))) (loc (0 + 1 + 1 + 1 + 1)).1 (loc (0 + 1 + 1 + 1 + 1)).2 x4 = f5 at *
  have c5 := m_pass (d := d + 1) (s := 5) (v := f5 88 13) (by omega) h5 rfl
  have h6 := pI_s (by omega) h5
  unfold pN at h6
  generalize hz5 : pX K (f5, σ.2) 5 = x5 at *
  generalize hs6 : mx_u (mx_u (mx_u (f5, σ.2).1 98 (0 + 1 + 1 + 1 + 1 + 1) x5) 88 18 (nI (0 + 1 + 1 + 1 + 1 + 1 + 1))) (loc (0 + 1 + 1 + 1 + 1 + 1)).1 (loc (0 + 1 + 1 + 1 + 1 + 1)).2 x5 = f6 at *
  have w1 : mx_u (mx_u (mx_u (mx_u (mx_u σ.1 88 19 (bz K)) 88 18 0) 98 0 x0) 88 18 (nI 1)) 88 0 x0 = f1 := hs1
  have w2 : mx_u (mx_u (mx_u f1 98 1 x1) 88 18 (nI 2)) 88 1 x1 = f2 := hs2
  have w3 : mx_u (mx_u (mx_u f2 98 2 x2) 88 18 (nI 3)) 88 2 x2 = f3 := hs3
  have w4 : mx_u (mx_u (mx_u f3 98 3 x3) 88 18 (nI 4)) 88 11 x3 = f4 := hs4
  have w5 : mx_u (mx_u (mx_u f4 98 4 x4) 88 18 (nI 5)) 88 12 x4 = f5 := hs5
  have w6 : mx_u (mx_u (mx_u f5 98 5 x5) 88 18 (nI 6)) 88 13 x5 = f6 := hs6
  have b0 : ∀ q, mx_call (d + 2) m_X7_passes [.ref 88, .int (mx_u (mx_u σ.1 88 19 (bz K)) 88 18 0 88 0)] (mx_u (mx_u σ.1 88 19 (bz K)) 88 18 0, σ.2) q ↔ q = (some (.int x0), (mx_u (mx_u (mx_u (mx_u σ.1 88 19 (bz K)) 88 18 0) 98 0 x0) 88 18 (nI 1), σ.2)) := c0
  have b1 : ∀ q, mx_call (d + 2) m_X7_passes [.ref 88, .int (f1 88 1)] (f1, σ.2) q ↔ q = (some (.int x1), (mx_u (mx_u f1 98 1 x1) 88 18 (nI 2), σ.2)) := c1
  have b2 : ∀ q, mx_call (d + 2) m_X7_passes [.ref 88, .int (f2 88 2)] (f2, σ.2) q ↔ q = (some (.int x2), (mx_u (mx_u f2 98 2 x2) 88 18 (nI 3), σ.2)) := c2
  have b3 : ∀ q, mx_call (d + 2) m_X7_passes [.ref 88, .int (f3 88 11)] (f3, σ.2) q ↔ q = (some (.int x3), (mx_u (mx_u f3 98 3 x3) 88 18 (nI 4), σ.2)) := c3
  have b4 : ∀ q, mx_call (d + 2) m_X7_passes [.ref 88, .int (f4 88 12)] (f4, σ.2) q ↔ q = (some (.int x4), (mx_u (mx_u f4 98 4 x4) 88 18 (nI 5), σ.2)) := c4
  have b5 : ∀ q, mx_call (d + 2) m_X7_passes [.ref 88, .int (f5 88 13)] (f5, σ.2) q ↔ q = (some (.int x5), (mx_u (mx_u f5 98 5 x5) 88 18 (nI 6), σ.2)) := c5
  have h6 : pI K σ 6 (f6, σ.2) := h6
  clear h1 h2 h3 h4 h5 c0 c1 c2 c3 c4 c5 hz0 hz1 hz2 hz3 hz4 hz5 hs1 hs2 hs3 hs4 hs5 hs6
  obtain ⟨σ1, r1, p1⟩ := m_passRow (d := d) (a := 89) (n := 36) (s0 := 6) (by omega) (ln_36 (by omega)) (by omega) (by omega) (by decide +kernel) h6
  obtain ⟨σ2, r2, p2⟩ := m_passRow (d := d) (a := 90) (n := 6) (s0 := 42) (by omega) (ln_6 (by omega)) (by omega) (by omega) (by decide +kernel) p1
  obtain ⟨σ3, r3, p3⟩ := m_passRow (d := d) (a := 91) (n := 5) (s0 := 48) (by omega) (ln_5 (by omega)) (by omega) (by omega) (by decide +kernel) p2
  obtain ⟨σ4, r4, p4⟩ := m_passRow (d := d) (a := 92) (n := 5) (s0 := 53) (by omega) (ln_5 (by omega)) (by omega) (by omega) (by decide +kernel) p3
  obtain ⟨σ5, r5, p5⟩ := m_passRow (d := d) (a := 93) (n := 8) (s0 := 58) (by omega) (ln_8 (by omega)) (by omega) (by omega) (by decide +kernel) p4
  obtain ⟨σ6, r6, p6⟩ := m_passRow (d := d) (a := 94) (n := 8) (s0 := 66) (by omega) (ln_8 (by omega)) (by omega) (by omega) (by decide +kernel) p5
  obtain ⟨σ7, r7, p7⟩ := m_passRow (d := d) (a := 95) (n := 8) (s0 := 74) (by omega) (ln_8 (by omega)) (by omega) (by omega) (by decide +kernel) p6
  obtain ⟨σ8, r8, p8⟩ := m_passRow (d := d) (a := 96) (n := 8) (s0 := 82) (by omega) (ln_8 (by omega)) (by omega) (by omega) (by decide +kernel) p7
  refine ⟨σ8, fun q => ?_, p8⟩
  simp only [C_X7_passesAll, true_and, and_true, and_self, exists_eq_left, Option.toList_some, Option.toList_none, List.cons_append, List.nil_append, List.append_nil, i2_i, i2_r, i2_n, nz0, nz1, true_or, or_true, Nat.reduceAdd, Nat.le_refl, Nat.reduceLT, Nat.reduceLeDiff, ↓E_X7_passesAll_0, ↓E_X7_passesAll_1, ↓E_X7_passesAll_2, ↓E_X7_passesAll_5, ↓E_X7_passesAll_6, ↓E_X7_passesAll_7, ↓E_X7_passesAll_10, ↓E_X7_passesAll_11, ↓E_X7_passesAll_12, ↓E_X7_passesAll_13, ↓E_X7_passesAll_16, ↓E_X7_passesAll_19, ↓E_X7_passesAll_22, ↓E_X7_passesAll_23, ↓E_X7_passesAll_24, ↓E_X7_passesAll_25, ↓E_X7_passesAll_28, ↓E_X7_passesAll_31, ↓E_X7_passesAll_34, ↓E_X7_passesAll_35, ↓E_X7_passesAll_36, ↓E_X7_passesAll_37, ↓E_X7_passesAll_40, ↓E_X7_passesAll_43, ↓E_X7_passesAll_46, ↓E_X7_passesAll_47, ↓E_X7_passesAll_48, ↓E_X7_passesAll_49, ↓E_X7_passesAll_52, ↓E_X7_passesAll_55, ↓E_X7_passesAll_58, ↓E_X7_passesAll_59, ↓E_X7_passesAll_60, ↓E_X7_passesAll_61, ↓E_X7_passesAll_64, ↓E_X7_passesAll_67, ↓E_X7_passesAll_70, ↓E_X7_passesAll_71, ↓E_X7_passesAll_72, ↓E_X7_passesAll_73, ↓E_X7_passesAll_76, ↓E_X7_passesAll_79, ↓E_X7_passesAll_82, ↓E_X7_passesAll_83, ↓E_X7_passesAll_84, ↓E_X7_passesAll_87, ↓E_X7_passesAll_90, ↓E_X7_passesAll_91, ↓E_X7_passesAll_92, ↓E_X7_passesAll_95, ↓E_X7_passesAll_98, ↓E_X7_passesAll_99, ↓E_X7_passesAll_100, ↓E_X7_passesAll_103, ↓E_X7_passesAll_106, ↓E_X7_passesAll_107, ↓E_X7_passesAll_108, ↓E_X7_passesAll_111, ↓E_X7_passesAll_114, ↓E_X7_passesAll_115, ↓E_X7_passesAll_116, ↓E_X7_passesAll_119, ↓E_X7_passesAll_122, ↓E_X7_passesAll_123, ↓E_X7_passesAll_124, ↓E_X7_passesAll_127, ↓E_X7_passesAll_130, ↓E_X7_passesAll_131, ↓E_X7_passesAll_132, ↓E_X7_passesAll_135, ↓E_X7_passesAll_138, ↓E_X7_passesAll_139, ↓E_X7_passesAll_140, ↓E_X7_passesAll_143, ↓E_X7_passesAll_146, ↓E_X7_passesAll_147, ↓E_X7_passesAll_150, hK, b0, w1, b1, w2, b2, w3, b3, w4, b4, w5, b5, w6, r1, r2, r3, r4, r5, r6, r7, r8]
