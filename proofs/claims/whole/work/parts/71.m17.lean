/-! ===== the reference: the next order, as in a book of words ===== -/
def pv (O : Nat → Nat) : Nat → Option Nat
  | 0 => none
  | k + 1 => if O (k + 1) < O k then pv O k else some k
def lw (O : Nat → Nat) (k : Nat) : Nat → Nat
  | 0 => 0
  | l + 1 => if O (l + 1) < O k then lw O k l else l + 1
def swO (O : Nat → Nat) (k l : Nat) : Nat → Nat := fun p => if p = l then O k else if p = k then O l else O p
def rvF : Nat → Nat → Nat → (Nat → Nat) → (Nat → Nat)
  | 0, _, _, O => O
  | m + 1, f, e, O => if f < e then rvF m (f + 1) (e - 1) (swO O f e) else O
def nxt (O : Nat → Nat) (n : Nat) : Option (Nat → Nat) := match pv O (n - 1) with
  | none => none
  | some k => some (rvF n (k + 1) (n - 1) (swO O k (lw O k (n - 1))))
def nxL (n : Nat) (L : List Nat) : Option (List Nat) := (nxt (ofL L) n).map fun O => (List.range n).map O
def chk (n : Nat) : List (List Nat) → Bool
  | [] => true
  | a :: r => (match r with
    | [] => decide (nxL n a = none)
    | b :: _ => decide (nxL n a = some b)) && chk n r
def okLb (n : Nat) (L : List Nat) : Bool := (List.range n).all fun p => decide (ofL L p < n) && (List.range n).all fun q => decide (ofL L p = ofL L q → p = q)
theorem chk_cps : ∀ n, n ≤ 6 → chk n (cps n n []) = true := by decide +kernel
theorem okL_cps : ∀ n, n ≤ 6 → (cps n n []).all (okLb n) = true := by decide +kernel
theorem okO_cps {n : Nat} {L : List Nat} (hn : n ≤ 6) (h : L ∈ cps n n []) : okO n (ofL L) := by
  have h1 := List.all_eq_true.mp (okL_cps n hn) L h
  unfold okLb at h1
  have h2 := List.all_eq_true.mp h1
  refine ⟨fun p hp => ?_, fun p q hp hq e => ?_⟩
  · have := h2 p (List.mem_range.mpr hp)
    rw [Bool.and_eq_true] at this
    exact of_decide_eq_true this.1
  · have := h2 p (List.mem_range.mpr hp)
    rw [Bool.and_eq_true] at this
    have := List.all_eq_true.mp this.2 q (List.mem_range.mpr hq)
    exact of_decide_eq_true this e
set_option maxHeartbeats 2000000 in
theorem m_exchange {d a k l : Nat} {σ : mx_S} {q : mx_R} (ha : a = 100 ∨ a = 101) (hk : k < 6) (hl : l < 6) : mx_call (d + 1) m_X7_exchange [.ref a, .int (nI k), .int (nI l)] σ q ↔ q = (none, (mx_u (mx_u σ.1 a k (σ.1 a l)) a l (σ.1 a k), σ.2)) := by
  simp (disch := omega) only [C_X7_exchange, true_and, and_true, and_self, exists_eq_left, Option.toList_some, Option.toList_none, List.cons_append, List.nil_append, List.append_nil, i2_i, i2_r, i2_n, nz0, nz1, true_or, or_true, Nat.reduceAdd, Nat.le_refl, Nat.reduceLT, Nat.reduceLeDiff, ↓E_X7_exchange_0, ↓E_X7_exchange_1, ↓E_X7_exchange_2, ↓E_X7_exchange_3, ↓E_X7_exchange_4, ↓E_X7_exchange_5, ↓E_X7_exchange_6, ↓E_X7_exchange_7, ↓E_X7_exchange_8, ↓E_X7_exchange_9, ↓E_X7_exchange_10, ↓E_X7_exchange_11, ↓E_X7_exchange_12, ↓E_X7_exchange_13, ↓E_X7_exchange_14, kd_8, ln_6, vin, clN]
theorem sw_at {a k l n : Nat} {O : Nat → Nat} {f : Nat → Nat → Int32} (hk : k < n) (hl : l < n) (h : ∀ p, p < n → f a p = nI (O p)) : ∀ p, p < n → mx_u (mx_u f a k (f a l)) a l (f a k) a p = nI (swO O k l p) := by
  intro p hp
  unfold swO
  by_cases e1 : p = l
  · rw [if_pos e1, e1, uu_same]; exact h k hk
  · rw [if_neg e1, uu_col e1]
    by_cases e2 : p = k
    · rw [if_pos e2, e2, uu_same]; exact h l hl
    · rw [if_neg e2, uu_col e2]; exact h p hp
def fr1 (a : Nat) (σ σ' : mx_S) : Prop := (∀ i, i ≠ a → σ'.1 i = σ.1 i) ∧ σ'.2 = σ.2
theorem pv_lt {O : Nat → Nat} {k : Nat} : ∀ m, pv O m = some k → k < m
  | 0, h => by cases h
  | m + 1, h => by
    unfold pv at h
    split at h
    · have := pv_lt m h; omega
    · cases h; omega
theorem lw_le {O : Nat → Nat} {k : Nat} : ∀ m, lw O k m ≤ m
  | 0 => Nat.le_refl _
  | m + 1 => by
    unfold lw
    split
    · have := lw_le (O := O) (k := k) m; omega
    · exact Nat.le_refl _
set_option maxHeartbeats 4000000 in
theorem m_turns {d n : Nat} {σ : mx_S} {O : Nat → Nat} (hn : n ≤ 6) (h0 : 0 < n) (hj : σ.1 88 0 = nI n) (hO : ∀ p, p < n → O p < n) (hr : ∀ p, p < n → σ.1 101 p = nI (O p)) : (nxt O n = none ∧ ∀ q, mx_call (d + 2) m_X7_turns [.ref 88, .ref 101] σ q ↔ q = (some (.int 0), σ)) ∨ ∃ O' σ', nxt O n = some O' ∧ (∀ q, mx_call (d + 2) m_X7_turns [.ref 88, .ref 101] σ q ↔ q = (some (.int 1), σ')) ∧ (∀ p, p < n → σ'.1 101 p = nI (O' p)) ∧ fr1 101 σ σ' := by
  have e1 : nI n - 1 = nI (n - 1) := by rw [show n = (n - 1) + 1 by omega, nI_pred]; rfl
  have stt : ∀ q, mx_call (d + 2) m_X7_turns [.ref 88, .ref 101] σ q ↔ mx_run (d + 1) m_X7_turns 7 [some (.ref 88), some (.ref 101), some (.int (nI (n - 1) - 1)), none, none, none] [] σ q := by
    intro q
    have e2 : nI n - 2 = nI (n - 1) - 1 := by
      rw [← e1]
      apply Int32.toInt_inj.mp
      have a1 : (nI n - 1).toInt = (n : Int) - 1 := pk_sub_toInt (a := n) (b := 1) (by omega) (by omega)
      have a2 : (nI n - 2).toInt = (n : Int) - 2 := pk_sub_toInt (a := n) (b := 2) (by omega) (by omega)
      rw [e1] at a1
      rw [a2, e1]
      by_cases z : n - 1 = 0
      · rw [z]
        have : n = 1 := by omega
        subst this
        decide
      · obtain ⟨k, hk⟩ : ∃ k, n - 1 = k + 1 := ⟨n - 2, by omega⟩
        rw [hk, nI_pred, nI_toInt (by omega)]
        omega
    simp (disch := omega) only [C_X7_turns, true_and, and_true, and_self, exists_eq_left, Option.toList_some, Option.toList_none, List.cons_append, List.nil_append, List.append_nil, i2_i, i2_r, i2_n, nz0, nz1, true_or, or_true, Nat.reduceAdd, Nat.le_refl, Nat.reduceLT, Nat.reduceLeDiff, ↓E_X7_turns_0, ↓E_X7_turns_1, ↓E_X7_turns_4, ↓E_X7_turns_5, ↓E_X7_turns_6, ↓E_X7_turns_8, ↓E_X7_turns_11, ↓E_X7_turns_12, ↓E_X7_turns_13, ↓E_X7_turns_14, ↓E_X7_turns_15, ↓E_X7_turns_16, ↓E_X7_turns_17, ↓E_X7_turns_18, ↓E_X7_turns_19, ↓E_X7_turns_22, ↓E_X7_turns_25, ↓E_X7_turns_28, ↓E_X7_turns_29, ↓E_X7_turns_32, ↓E_X7_turns_33, ↓E_X7_turns_34, ↓E_X7_turns_35, ↓E_X7_turns_38, ↓E_X7_turns_39, ↓E_X7_turns_40, ↓E_X7_turns_41, ↓E_X7_turns_42, ↓E_X7_turns_43, ↓E_X7_turns_44, ↓E_X7_turns_45, ↓E_X7_turns_46, ↓E_X7_turns_47, ↓E_X7_turns_50, ↓E_X7_turns_53, ↓E_X7_turns_56, ↓E_X7_turns_57, ↓E_X7_turns_58, ↓E_X7_turns_59, ↓E_X7_turns_62, ↓E_X7_turns_63, ↓E_X7_turns_66, ↓E_X7_turns_67, ↓E_X7_turns_68, ↓E_X7_turns_70, ↓E_X7_turns_71, ↓E_X7_turns_72, ↓E_X7_turns_73, ↓E_X7_turns_75, ↓E_X7_turns_77, ↓E_X7_turns_79, ↓E_X7_turns_82, ↓E_X7_turns_83, ↓E_X7_turns_85, ↓E_X7_turns_87, ↓E_X7_turns_90, ↓E_X7_turns_93, ↓E_X7_turns_96, ↓E_X7_turns_99, ↓E_X7_turns_100, hj, e2]
  -- the turning place
  have P : ∀ k, k < n → ∀ q, mx_run (d + 1) m_X7_turns 7 [some (.ref 88), some (.ref 101), some (.int (nI k - 1)), none, none, none] [] σ q ↔ mx_run (d + 1) m_X7_turns 28 [some (.ref 88), some (.ref 101), some (.int (match pv O k with | none => -1 | some k => nI k)), none, none, none] [] σ q := by
    intro k
    induction k with
    | zero =>
      intro hk q
      conv => lhs; rw [E_X7_turns_7]
      have e : nI 0 - 1 = (-1 : Int32) := by decide
      rw [e]
      simp (disch := omega) only [true_and, and_true, and_self, exists_eq_left, Option.toList_some, Option.toList_none, List.cons_append, List.nil_append, List.append_nil, i2_i, i2_r, i2_n, nz0, nz1, true_or, or_true, Nat.reduceAdd, Nat.le_refl, Nat.reduceLT, Nat.reduceLeDiff, ↓E_X7_turns_0, ↓E_X7_turns_1, ↓E_X7_turns_4, ↓E_X7_turns_5, ↓E_X7_turns_6, ↓E_X7_turns_8, ↓E_X7_turns_11, ↓E_X7_turns_12, ↓E_X7_turns_13, ↓E_X7_turns_14, ↓E_X7_turns_15, ↓E_X7_turns_16, ↓E_X7_turns_17, ↓E_X7_turns_18, ↓E_X7_turns_19, ↓E_X7_turns_22, ↓E_X7_turns_25, ↓E_X7_turns_29, ↓E_X7_turns_32, ↓E_X7_turns_33, ↓E_X7_turns_34, ↓E_X7_turns_35, ↓E_X7_turns_38, ↓E_X7_turns_39, ↓E_X7_turns_40, ↓E_X7_turns_41, ↓E_X7_turns_42, ↓E_X7_turns_43, ↓E_X7_turns_44, ↓E_X7_turns_45, ↓E_X7_turns_46, ↓E_X7_turns_47, ↓E_X7_turns_50, ↓E_X7_turns_53, ↓E_X7_turns_56, ↓E_X7_turns_57, ↓E_X7_turns_58, ↓E_X7_turns_59, ↓E_X7_turns_62, ↓E_X7_turns_63, ↓E_X7_turns_66, ↓E_X7_turns_67, ↓E_X7_turns_68, ↓E_X7_turns_70, ↓E_X7_turns_71, ↓E_X7_turns_72, ↓E_X7_turns_73, ↓E_X7_turns_75, ↓E_X7_turns_77, ↓E_X7_turns_79, ↓E_X7_turns_82, ↓E_X7_turns_83, ↓E_X7_turns_85, ↓E_X7_turns_87, ↓E_X7_turns_90, ↓E_X7_turns_93, ↓E_X7_turns_96, ↓E_X7_turns_99, ↓E_X7_turns_100, if_pos (show (-1 : Int32) < 0 by decide), if_neg (show ¬ (0 : Int32) ≤ -1 by decide)]
      rfl
    | succ k ih =>
      intro hk q
      have r1 := hr k (by omega)
      have r2 := hr (k + 1) (by omega)
      have b1 := hO k (by omega)
      have b2 := hO (k + 1) (by omega)
      have em : nI k + -1 = nI k - 1 := by
        cases k with
        | zero => decide
        | succ k => rw [pk_m1, nI_pred]
      conv => lhs; rw [E_X7_turns_7]
      rw [nI_pred]
      simp (disch := omega) only [true_and, and_true, and_self, exists_eq_left, Option.toList_some, Option.toList_none, List.cons_append, List.nil_append, List.append_nil, i2_i, i2_r, i2_n, nz0, nz1, true_or, or_true, Nat.reduceAdd, Nat.le_refl, Nat.reduceLT, Nat.reduceLeDiff, ↓E_X7_turns_0, ↓E_X7_turns_1, ↓E_X7_turns_4, ↓E_X7_turns_5, ↓E_X7_turns_6, ↓E_X7_turns_8, ↓E_X7_turns_11, ↓E_X7_turns_12, ↓E_X7_turns_13, ↓E_X7_turns_14, ↓E_X7_turns_15, ↓E_X7_turns_16, ↓E_X7_turns_17, ↓E_X7_turns_18, ↓E_X7_turns_19, ↓E_X7_turns_22, ↓E_X7_turns_25, ↓E_X7_turns_29, ↓E_X7_turns_32, ↓E_X7_turns_33, ↓E_X7_turns_34, ↓E_X7_turns_35, ↓E_X7_turns_38, ↓E_X7_turns_39, ↓E_X7_turns_40, ↓E_X7_turns_41, ↓E_X7_turns_42, ↓E_X7_turns_43, ↓E_X7_turns_44, ↓E_X7_turns_45, ↓E_X7_turns_46, ↓E_X7_turns_47, ↓E_X7_turns_50, ↓E_X7_turns_53, ↓E_X7_turns_56, ↓E_X7_turns_57, ↓E_X7_turns_58, ↓E_X7_turns_59, ↓E_X7_turns_62, ↓E_X7_turns_63, ↓E_X7_turns_66, ↓E_X7_turns_67, ↓E_X7_turns_68, ↓E_X7_turns_70, ↓E_X7_turns_71, ↓E_X7_turns_72, ↓E_X7_turns_73, ↓E_X7_turns_75, ↓E_X7_turns_77, ↓E_X7_turns_79, ↓E_X7_turns_82, ↓E_X7_turns_83, ↓E_X7_turns_85, ↓E_X7_turns_87, ↓E_X7_turns_90, ↓E_X7_turns_93, ↓E_X7_turns_96, ↓E_X7_turns_99, ↓E_X7_turns_100, if_neg (nI_neg (show k < 2147483648 by omega)), if_pos (nI_nonneg (show k < 2147483648 by omega)), kd_8, ln_6, vin, clN, nI_1, r1, r2, ltN, leN, em]
      unfold pv
      by_cases e : O (k + 1) < O k
      · simp only [if_pos e, if_neg (show ¬ O k ≤ O (k + 1) by omega)]
        exact ih (by omega) q
      · simp only [if_neg e, if_pos (show O k ≤ O (k + 1) by omega)]
  have stt2 : ∀ q, mx_call (d + 2) m_X7_turns [.ref 88, .ref 101] σ q ↔ mx_run (d + 1) m_X7_turns 28 [some (.ref 88), some (.ref 101), some (.int (match pv O (n - 1) with | none => -1 | some k => nI k)), none, none, none] [] σ q := fun q => (stt q).trans (P (n - 1) (by omega) q)
  unfold nxt
  cases hp : pv O (n - 1) with
  | none =>
    rw [hp] at stt2
    refine Or.inl ⟨rfl, fun q => ?_⟩
    rw [stt2 q]
    simp (disch := omega) only [true_and, and_true, and_self, exists_eq_left, Option.toList_some, Option.toList_none, List.cons_append, List.nil_append, List.append_nil, i2_i, i2_r, i2_n, nz0, nz1, true_or, or_true, Nat.reduceAdd, Nat.le_refl, Nat.reduceLT, Nat.reduceLeDiff, ↓E_X7_turns_0, ↓E_X7_turns_1, ↓E_X7_turns_4, ↓E_X7_turns_5, ↓E_X7_turns_6, ↓E_X7_turns_8, ↓E_X7_turns_11, ↓E_X7_turns_12, ↓E_X7_turns_13, ↓E_X7_turns_14, ↓E_X7_turns_15, ↓E_X7_turns_16, ↓E_X7_turns_17, ↓E_X7_turns_18, ↓E_X7_turns_19, ↓E_X7_turns_22, ↓E_X7_turns_25, ↓E_X7_turns_28, ↓E_X7_turns_29, ↓E_X7_turns_32, ↓E_X7_turns_33, ↓E_X7_turns_35, ↓E_X7_turns_38, ↓E_X7_turns_39, ↓E_X7_turns_40, ↓E_X7_turns_41, ↓E_X7_turns_42, ↓E_X7_turns_43, ↓E_X7_turns_44, ↓E_X7_turns_45, ↓E_X7_turns_46, ↓E_X7_turns_47, ↓E_X7_turns_50, ↓E_X7_turns_53, ↓E_X7_turns_56, ↓E_X7_turns_57, ↓E_X7_turns_58, ↓E_X7_turns_59, ↓E_X7_turns_62, ↓E_X7_turns_63, ↓E_X7_turns_66, ↓E_X7_turns_67, ↓E_X7_turns_68, ↓E_X7_turns_70, ↓E_X7_turns_71, ↓E_X7_turns_72, ↓E_X7_turns_73, ↓E_X7_turns_75, ↓E_X7_turns_77, ↓E_X7_turns_79, ↓E_X7_turns_82, ↓E_X7_turns_83, ↓E_X7_turns_85, ↓E_X7_turns_87, ↓E_X7_turns_90, ↓E_X7_turns_93, ↓E_X7_turns_96, ↓E_X7_turns_99, ↓E_X7_turns_100, if_pos (show (-1 : Int32) < 0 by decide), if_neg (show ¬ (0 : Int32) ≤ -1 by decide)]
  | some k =>
    rw [hp] at stt2
    have hk := pv_lt _ hp
    have hl := lw_le (O := O) (k := k) (n - 1)
    have Lp : ∀ l, k ≤ l → l < n → ∀ q, mx_run (d + 1) m_X7_turns 41 [some (.ref 88), some (.ref 101), some (.int (nI k)), some (.int (nI l)), none, none] [] σ q ↔ mx_run (d + 1) m_X7_turns 56 [some (.ref 88), some (.ref 101), some (.int (nI k)), some (.int (nI (lw O k l))), none, none] [] σ q := by
      intro l
      induction l with
      | zero =>
        intro h1 h2 q
        have ek : k = 0 := by omega
        subst ek
        have r1 := hr 0 (by omega)
        have b1 := hO 0 (by omega)
        conv => lhs; rw [E_X7_turns_41]
        simp (disch := omega) only [true_and, and_true, and_self, exists_eq_left, Option.toList_some, Option.toList_none, List.cons_append, List.nil_append, List.append_nil, i2_i, i2_r, i2_n, nz0, nz1, true_or, or_true, Nat.reduceAdd, Nat.le_refl, Nat.reduceLT, Nat.reduceLeDiff, ↓E_X7_turns_0, ↓E_X7_turns_1, ↓E_X7_turns_4, ↓E_X7_turns_5, ↓E_X7_turns_6, ↓E_X7_turns_7, ↓E_X7_turns_8, ↓E_X7_turns_11, ↓E_X7_turns_12, ↓E_X7_turns_13, ↓E_X7_turns_14, ↓E_X7_turns_15, ↓E_X7_turns_16, ↓E_X7_turns_17, ↓E_X7_turns_18, ↓E_X7_turns_19, ↓E_X7_turns_22, ↓E_X7_turns_25, ↓E_X7_turns_28, ↓E_X7_turns_29, ↓E_X7_turns_32, ↓E_X7_turns_33, ↓E_X7_turns_34, ↓E_X7_turns_35, ↓E_X7_turns_38, ↓E_X7_turns_39, ↓E_X7_turns_40, ↓E_X7_turns_42, ↓E_X7_turns_43, ↓E_X7_turns_44, ↓E_X7_turns_45, ↓E_X7_turns_46, ↓E_X7_turns_47, ↓E_X7_turns_50, ↓E_X7_turns_53, ↓E_X7_turns_57, ↓E_X7_turns_58, ↓E_X7_turns_59, ↓E_X7_turns_62, ↓E_X7_turns_63, ↓E_X7_turns_66, ↓E_X7_turns_67, ↓E_X7_turns_68, ↓E_X7_turns_70, ↓E_X7_turns_71, ↓E_X7_turns_72, ↓E_X7_turns_73, ↓E_X7_turns_75, ↓E_X7_turns_77, ↓E_X7_turns_79, ↓E_X7_turns_82, ↓E_X7_turns_83, ↓E_X7_turns_85, ↓E_X7_turns_87, ↓E_X7_turns_90, ↓E_X7_turns_93, ↓E_X7_turns_96, ↓E_X7_turns_99, ↓E_X7_turns_100, kd_8, ln_6, vin, clN, r1, ltN, leN, if_pos (Nat.le_refl (O 0)), if_neg (Nat.lt_irrefl (O 0))]
        rfl
      | succ l ih =>
        intro h1 h2 q
        have r1 := hr k (by omega)
        have r2 := hr (l + 1) (by omega)
        have b1 := hO k (by omega)
        have b2 := hO (l + 1) (by omega)
        conv => lhs; rw [E_X7_turns_41]
        simp (disch := omega) only [true_and, and_true, and_self, exists_eq_left, Option.toList_some, Option.toList_none, List.cons_append, List.nil_append, List.append_nil, i2_i, i2_r, i2_n, nz0, nz1, true_or, or_true, Nat.reduceAdd, Nat.le_refl, Nat.reduceLT, Nat.reduceLeDiff, ↓E_X7_turns_0, ↓E_X7_turns_1, ↓E_X7_turns_4, ↓E_X7_turns_5, ↓E_X7_turns_6, ↓E_X7_turns_7, ↓E_X7_turns_8, ↓E_X7_turns_11, ↓E_X7_turns_12, ↓E_X7_turns_13, ↓E_X7_turns_14, ↓E_X7_turns_15, ↓E_X7_turns_16, ↓E_X7_turns_17, ↓E_X7_turns_18, ↓E_X7_turns_19, ↓E_X7_turns_22, ↓E_X7_turns_25, ↓E_X7_turns_28, ↓E_X7_turns_29, ↓E_X7_turns_32, ↓E_X7_turns_33, ↓E_X7_turns_34, ↓E_X7_turns_35, ↓E_X7_turns_38, ↓E_X7_turns_39, ↓E_X7_turns_40, ↓E_X7_turns_42, ↓E_X7_turns_43, ↓E_X7_turns_44, ↓E_X7_turns_45, ↓E_X7_turns_46, ↓E_X7_turns_47, ↓E_X7_turns_50, ↓E_X7_turns_53, ↓E_X7_turns_57, ↓E_X7_turns_58, ↓E_X7_turns_59, ↓E_X7_turns_62, ↓E_X7_turns_63, ↓E_X7_turns_66, ↓E_X7_turns_67, ↓E_X7_turns_68, ↓E_X7_turns_70, ↓E_X7_turns_71, ↓E_X7_turns_72, ↓E_X7_turns_73, ↓E_X7_turns_75, ↓E_X7_turns_77, ↓E_X7_turns_79, ↓E_X7_turns_82, ↓E_X7_turns_83, ↓E_X7_turns_85, ↓E_X7_turns_87, ↓E_X7_turns_90, ↓E_X7_turns_93, ↓E_X7_turns_96, ↓E_X7_turns_99, ↓E_X7_turns_100, kd_8, ln_6, vin, clN, r1, r2, ltN, leN, pk_m1]
        unfold lw
        by_cases e : O (l + 1) < O k
        · have hkl : k ≤ l := by
            by_cases z : k = l + 1
            · rw [z] at e; omega
            · omega
          simp only [if_pos e, if_neg (show ¬ O k ≤ O (l + 1) by omega)]
          exact ih hkl (by omega) q
        · simp only [if_neg e, if_pos (show O k ≤ O (l + 1) by omega)]
    have L9 := Lp (n - 1) (by omega) (by omega)
    obtain ⟨l, hl9⟩ : ∃ l, l = lw O k (n - 1) := ⟨_, rfl⟩
    rw [← hl9] at hl L9
    have ex := fun q => m_exchange (d := d) (σ := σ) (q := q) (a := 101) (k := k) (l := l) (Or.inr rfl) (by omega) (by omega)
    have Rv : ∀ m f e (O1 : Nat → Nat) (σ1 : mx_S), e ≤ f + m → e < n → f ≤ n → (∀ p, p < n → σ1.1 101 p = nI (O1 p)) → fr1 101 σ σ1 → ∃ σ2, (∀ q, mx_run (d + 1) m_X7_turns 75 [some (.ref 88), some (.ref 101), some (.int (nI k)), some (.int (nI l)), some (.int (nI e)), some (.int (nI f))] [] σ1 q ↔ q = (some (.int 1), σ2)) ∧ (∀ p, p < n → σ2.1 101 p = nI (rvF m f e O1 p)) ∧ fr1 101 σ σ2 := by
      intro m
      induction m with
      | zero =>
        intro f e O1 σ1 hm he hf h1 fr
        refine ⟨σ1, fun q => ?_, h1, fr⟩
        rw [E_X7_turns_75]
        simp (disch := omega) only [true_and, and_true, and_self, exists_eq_left, Option.toList_some, Option.toList_none, List.cons_append, List.nil_append, List.append_nil, i2_i, i2_r, i2_n, nz0, nz1, true_or, or_true, Nat.reduceAdd, Nat.le_refl, Nat.reduceLT, Nat.reduceLeDiff, ↓E_X7_turns_0, ↓E_X7_turns_1, ↓E_X7_turns_4, ↓E_X7_turns_5, ↓E_X7_turns_6, ↓E_X7_turns_7, ↓E_X7_turns_8, ↓E_X7_turns_11, ↓E_X7_turns_12, ↓E_X7_turns_13, ↓E_X7_turns_14, ↓E_X7_turns_15, ↓E_X7_turns_16, ↓E_X7_turns_17, ↓E_X7_turns_18, ↓E_X7_turns_19, ↓E_X7_turns_22, ↓E_X7_turns_25, ↓E_X7_turns_28, ↓E_X7_turns_29, ↓E_X7_turns_32, ↓E_X7_turns_33, ↓E_X7_turns_34, ↓E_X7_turns_35, ↓E_X7_turns_38, ↓E_X7_turns_39, ↓E_X7_turns_40, ↓E_X7_turns_41, ↓E_X7_turns_42, ↓E_X7_turns_43, ↓E_X7_turns_44, ↓E_X7_turns_45, ↓E_X7_turns_46, ↓E_X7_turns_47, ↓E_X7_turns_50, ↓E_X7_turns_53, ↓E_X7_turns_56, ↓E_X7_turns_57, ↓E_X7_turns_58, ↓E_X7_turns_59, ↓E_X7_turns_62, ↓E_X7_turns_63, ↓E_X7_turns_66, ↓E_X7_turns_67, ↓E_X7_turns_68, ↓E_X7_turns_70, ↓E_X7_turns_71, ↓E_X7_turns_72, ↓E_X7_turns_73, ↓E_X7_turns_77, ↓E_X7_turns_79, ↓E_X7_turns_82, ↓E_X7_turns_83, ↓E_X7_turns_85, ↓E_X7_turns_87, ↓E_X7_turns_90, ↓E_X7_turns_93, ↓E_X7_turns_96, ↓E_X7_turns_99, ↓E_X7_turns_100, leN, ltN, if_pos (show e ≤ f by omega), if_neg (show ¬ f < e by omega)]
      | succ m ih =>
        intro f e O1 σ1 hm he hf h1 fr
        unfold rvF
        by_cases hfe : f < e
        · rw [if_pos hfe]
          have ex := fun q => m_exchange (d := d) (σ := σ1) (q := q) (a := 101) (k := f) (l := e) (Or.inr rfl) (by omega) (by omega)
          obtain ⟨σ2, r, g⟩ := ih (f + 1) (e - 1) (swO O1 f e) (mx_u (mx_u σ1.1 101 f (σ1.1 101 e)) 101 e (σ1.1 101 f), σ1.2) (by omega) (by omega) (by omega) (sw_at (by omega) he h1) ⟨fun i hi => by show mx_u _ _ _ _ i = _; rw [mx_u_ne hi, mx_u_ne hi]; exact fr.1 i hi, fr.2⟩
          refine ⟨σ2, fun q => ?_, g⟩
          rw [← r q]
          have em : nI e + -1 = nI (e - 1) := by rw [show e = (e - 1) + 1 by omega, pk_m1]; rfl
          conv => lhs; rw [E_X7_turns_75]
          simp (disch := omega) only [true_and, and_true, and_self, exists_eq_left, Option.toList_some, Option.toList_none, List.cons_append, List.nil_append, List.append_nil, i2_i, i2_r, i2_n, nz0, nz1, true_or, or_true, Nat.reduceAdd, Nat.le_refl, Nat.reduceLT, Nat.reduceLeDiff, ↓E_X7_turns_0, ↓E_X7_turns_1, ↓E_X7_turns_4, ↓E_X7_turns_5, ↓E_X7_turns_6, ↓E_X7_turns_7, ↓E_X7_turns_8, ↓E_X7_turns_11, ↓E_X7_turns_12, ↓E_X7_turns_13, ↓E_X7_turns_14, ↓E_X7_turns_15, ↓E_X7_turns_16, ↓E_X7_turns_17, ↓E_X7_turns_18, ↓E_X7_turns_19, ↓E_X7_turns_22, ↓E_X7_turns_25, ↓E_X7_turns_28, ↓E_X7_turns_29, ↓E_X7_turns_32, ↓E_X7_turns_33, ↓E_X7_turns_34, ↓E_X7_turns_35, ↓E_X7_turns_38, ↓E_X7_turns_39, ↓E_X7_turns_40, ↓E_X7_turns_41, ↓E_X7_turns_42, ↓E_X7_turns_43, ↓E_X7_turns_44, ↓E_X7_turns_45, ↓E_X7_turns_46, ↓E_X7_turns_47, ↓E_X7_turns_50, ↓E_X7_turns_53, ↓E_X7_turns_56, ↓E_X7_turns_57, ↓E_X7_turns_58, ↓E_X7_turns_59, ↓E_X7_turns_62, ↓E_X7_turns_63, ↓E_X7_turns_66, ↓E_X7_turns_67, ↓E_X7_turns_68, ↓E_X7_turns_70, ↓E_X7_turns_71, ↓E_X7_turns_72, ↓E_X7_turns_73, ↓E_X7_turns_77, ↓E_X7_turns_79, ↓E_X7_turns_82, ↓E_X7_turns_83, ↓E_X7_turns_85, ↓E_X7_turns_87, ↓E_X7_turns_90, ↓E_X7_turns_93, ↓E_X7_turns_96, ↓E_X7_turns_99, ↓E_X7_turns_100, leN, ltN, if_neg (show ¬ e ≤ f by omega), if_pos hfe, ex, em, nI_1]
        · rw [if_neg hfe]
          refine ⟨σ1, fun q => ?_, h1, fr⟩
          rw [E_X7_turns_75]
          simp (disch := omega) only [true_and, and_true, and_self, exists_eq_left, Option.toList_some, Option.toList_none, List.cons_append, List.nil_append, List.append_nil, i2_i, i2_r, i2_n, nz0, nz1, true_or, or_true, Nat.reduceAdd, Nat.le_refl, Nat.reduceLT, Nat.reduceLeDiff, ↓E_X7_turns_0, ↓E_X7_turns_1, ↓E_X7_turns_4, ↓E_X7_turns_5, ↓E_X7_turns_6, ↓E_X7_turns_7, ↓E_X7_turns_8, ↓E_X7_turns_11, ↓E_X7_turns_12, ↓E_X7_turns_13, ↓E_X7_turns_14, ↓E_X7_turns_15, ↓E_X7_turns_16, ↓E_X7_turns_17, ↓E_X7_turns_18, ↓E_X7_turns_19, ↓E_X7_turns_22, ↓E_X7_turns_25, ↓E_X7_turns_28, ↓E_X7_turns_29, ↓E_X7_turns_32, ↓E_X7_turns_33, ↓E_X7_turns_34, ↓E_X7_turns_35, ↓E_X7_turns_38, ↓E_X7_turns_39, ↓E_X7_turns_40, ↓E_X7_turns_41, ↓E_X7_turns_42, ↓E_X7_turns_43, ↓E_X7_turns_44, ↓E_X7_turns_45, ↓E_X7_turns_46, ↓E_X7_turns_47, ↓E_X7_turns_50, ↓E_X7_turns_53, ↓E_X7_turns_56, ↓E_X7_turns_57, ↓E_X7_turns_58, ↓E_X7_turns_59, ↓E_X7_turns_62, ↓E_X7_turns_63, ↓E_X7_turns_66, ↓E_X7_turns_67, ↓E_X7_turns_68, ↓E_X7_turns_70, ↓E_X7_turns_71, ↓E_X7_turns_72, ↓E_X7_turns_73, ↓E_X7_turns_77, ↓E_X7_turns_79, ↓E_X7_turns_82, ↓E_X7_turns_83, ↓E_X7_turns_85, ↓E_X7_turns_87, ↓E_X7_turns_90, ↓E_X7_turns_93, ↓E_X7_turns_96, ↓E_X7_turns_99, ↓E_X7_turns_100, leN, ltN, if_pos (show e ≤ f by omega), if_neg hfe]
    obtain ⟨σ2, r, g1, g2⟩ := Rv n (k + 1) (n - 1) (swO O k l) (mx_u (mx_u σ.1 101 k (σ.1 101 l)) 101 l (σ.1 101 k), σ.2) (by omega) (by omega) (by omega) (sw_at (by omega) (by omega) hr) ⟨fun i hi => by show mx_u _ _ _ _ i = _; rw [mx_u_ne hi, mx_u_ne hi], rfl⟩
    refine Or.inr ⟨rvF n (k + 1) (n - 1) (swO O k (lw O k (n - 1))), σ2, rfl, fun q => ?_, by rw [← hl9]; exact g1, g2⟩
    rw [stt2 q, ← r q]
    have hj' : (mx_u (mx_u σ.1 101 k (σ.1 101 l)) 101 l (σ.1 101 k)) 88 0 = nI n := by simp (disch := omega) only [uu_row]; exact hj
    simp (disch := omega) only [true_and, and_true, and_self, exists_eq_left, Option.toList_some, Option.toList_none, List.cons_append, List.nil_append, List.append_nil, i2_i, i2_r, i2_n, nz0, nz1, true_or, or_true, Nat.reduceAdd, Nat.le_refl, Nat.reduceLT, Nat.reduceLeDiff, ↓E_X7_turns_0, ↓E_X7_turns_1, ↓E_X7_turns_4, ↓E_X7_turns_5, ↓E_X7_turns_6, ↓E_X7_turns_8, ↓E_X7_turns_11, ↓E_X7_turns_12, ↓E_X7_turns_13, ↓E_X7_turns_14, ↓E_X7_turns_15, ↓E_X7_turns_16, ↓E_X7_turns_17, ↓E_X7_turns_18, ↓E_X7_turns_19, ↓E_X7_turns_22, ↓E_X7_turns_25, ↓E_X7_turns_28, ↓E_X7_turns_29, ↓E_X7_turns_32, ↓E_X7_turns_33, ↓E_X7_turns_34, ↓E_X7_turns_35, ↓E_X7_turns_38, ↓E_X7_turns_39, ↓E_X7_turns_40, ↓E_X7_turns_42, ↓E_X7_turns_43, ↓E_X7_turns_44, ↓E_X7_turns_45, ↓E_X7_turns_46, ↓E_X7_turns_47, ↓E_X7_turns_50, ↓E_X7_turns_53, ↓E_X7_turns_56, ↓E_X7_turns_57, ↓E_X7_turns_58, ↓E_X7_turns_59, ↓E_X7_turns_62, ↓E_X7_turns_63, ↓E_X7_turns_66, ↓E_X7_turns_67, ↓E_X7_turns_68, ↓E_X7_turns_70, ↓E_X7_turns_71, ↓E_X7_turns_72, ↓E_X7_turns_73, ↓E_X7_turns_77, ↓E_X7_turns_79, ↓E_X7_turns_82, ↓E_X7_turns_83, ↓E_X7_turns_85, ↓E_X7_turns_87, ↓E_X7_turns_90, ↓E_X7_turns_93, ↓E_X7_turns_96, ↓E_X7_turns_99, ↓E_X7_turns_100, if_neg (nI_neg (show k < 2147483648 by omega)), if_pos (nI_nonneg (show k < 2147483648 by omega)), hj, e1]
    rw [L9 q]
    simp (disch := omega) only [true_and, and_true, and_self, exists_eq_left, Option.toList_some, Option.toList_none, List.cons_append, List.nil_append, List.append_nil, i2_i, i2_r, i2_n, nz0, nz1, true_or, or_true, Nat.reduceAdd, Nat.le_refl, Nat.reduceLT, Nat.reduceLeDiff, ↓E_X7_turns_0, ↓E_X7_turns_1, ↓E_X7_turns_4, ↓E_X7_turns_5, ↓E_X7_turns_6, ↓E_X7_turns_8, ↓E_X7_turns_11, ↓E_X7_turns_12, ↓E_X7_turns_13, ↓E_X7_turns_14, ↓E_X7_turns_15, ↓E_X7_turns_16, ↓E_X7_turns_17, ↓E_X7_turns_18, ↓E_X7_turns_19, ↓E_X7_turns_22, ↓E_X7_turns_25, ↓E_X7_turns_28, ↓E_X7_turns_29, ↓E_X7_turns_32, ↓E_X7_turns_33, ↓E_X7_turns_34, ↓E_X7_turns_35, ↓E_X7_turns_38, ↓E_X7_turns_39, ↓E_X7_turns_40, ↓E_X7_turns_42, ↓E_X7_turns_43, ↓E_X7_turns_44, ↓E_X7_turns_45, ↓E_X7_turns_46, ↓E_X7_turns_47, ↓E_X7_turns_50, ↓E_X7_turns_53, ↓E_X7_turns_56, ↓E_X7_turns_57, ↓E_X7_turns_58, ↓E_X7_turns_59, ↓E_X7_turns_62, ↓E_X7_turns_63, ↓E_X7_turns_66, ↓E_X7_turns_67, ↓E_X7_turns_68, ↓E_X7_turns_70, ↓E_X7_turns_71, ↓E_X7_turns_72, ↓E_X7_turns_73, ↓E_X7_turns_77, ↓E_X7_turns_79, ↓E_X7_turns_82, ↓E_X7_turns_83, ↓E_X7_turns_85, ↓E_X7_turns_87, ↓E_X7_turns_90, ↓E_X7_turns_93, ↓E_X7_turns_96, ↓E_X7_turns_99, ↓E_X7_turns_100, ex, hj', e1, nI_1]
