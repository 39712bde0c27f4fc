/-! ===== the reference: exchanges, told ===== -/
theorem or_m1 {y : Int32} : (-1 : Int32) ||| y = -1 := by
  apply Int32.toBitVec_inj.mp
  show (-1 : Int32).toBitVec ||| y.toBitVec = (-1 : Int32).toBitVec
  have e : (-1 : Int32).toBitVec = BitVec.allOnes 32 := by decide
  rw [e]
  exact BitVec.allOnes_or
theorem or_0 {y : Int32} : (0 : Int32) ||| y = y := by
  apply Int32.toBitVec_inj.mp
  show (0 : Int32).toBitVec ||| y.toBitVec = y.toBitVec
  have e : (0 : Int32).toBitVec = 0#32 := by decide
  rw [e]
  exact BitVec.zero_or
def sgI (z : Int) : Int32 := if z < 0 then -1 else if z = 0 then 0 else 1
theorem m_sig {d : Nat} {σ : mx_S} {q : mx_R} {z : Int} (h1 : -100000 ≤ z) (h2 : z ≤ 100000) : mx_call (d + 1) m_J6_signum_0f7a4 [.int (iN z)] σ q ↔ q = (some (.int (sgI z)), σ) := by
  simp only [C_J6_signum_0f7a4, true_and, and_true, and_self, exists_eq_left, Option.toList_some, Option.toList_none, List.cons_append, List.nil_append, List.append_nil, i2_i, i2_r, i2_n, nz0, nz1, true_or, or_true, Nat.reduceAdd, Nat.le_refl, Nat.reduceLT, Nat.reduceLeDiff, ↓E_J6_signum_0f7a4_0, ↓E_J6_signum_0f7a4_1, ↓E_J6_signum_0f7a4_3, ↓E_J6_signum_0f7a4_4, ↓E_J6_signum_0f7a4_5, ↓E_J6_signum_0f7a4_6, ↓E_J6_signum_0f7a4_8, ↓E_J6_signum_0f7a4_9, ↓E_J6_signum_0f7a4_10]
  have key : (iN z >>> ((31 : Int32) &&& 31) ||| ((-iN z).toUInt32 >>> ((31 : Int32).toUInt32 &&& Int32.toUInt32 31)).toInt32) = sgI z := by
    unfold sgI
    by_cases h : z < 0
    · rw [if_pos h]
      have e : iN z >>> ((31 : Int32) &&& 31) = -1 := by
        apply Int32.toInt_inj.mp
        rw [pk_shr _ _ 31 (by decide), iN_toInt (by omega) (by omega), Int.shiftRight_eq_div_pow]
        show z / 2147483648 = -1
        omega
      rw [e, or_m1]
    · rw [if_neg h]
      obtain ⟨n, rfl⟩ : ∃ n : Nat, z = (n : Int) := ⟨z.toNat, by omega⟩
      rw [← iN_nI]
      have e : nI n >>> ((31 : Int32) &&& 31) = 0 := by
        rw [pk_shrN (by omega) _ 31 (by decide), Nat.div_eq_of_lt (by omega)]
        rfl
      rw [e, or_0]
      by_cases h0 : n = 0
      · subst h0
        rw [if_pos (show ((0 : Nat) : Int) = 0 from rfl)]
        decide
      · rw [if_neg (by omega)]
        apply Int32.toBitVec_inj.mp
        apply BitVec.eq_of_toNat_eq
        rw [pk_ushr _ _ 31 (by decide)]
        have e2 : (-nI n).toBitVec.toNat = 4294967296 - n := by
          show (-(nI n).toBitVec).toNat = _
          rw [BitVec.toNat_neg, pk_tn (by omega)]
          show (4294967296 - n) % 4294967296 = _
          exact Nat.mod_eq_of_lt (by omega)
        rw [e2]
        show (4294967296 - n) / 2147483648 = 1
        omega
  rw [key]
theorem CST_ge {n : Nat} {V : Nat → Nat → Nat} {md am : Nat} {O : Nat → Nat} (hV : okV n V) (hO : ∀ p, p < n → O p < n) (h0 : 0 < n) : -99 ≤ CST V md am O n := by
  unfold CST
  split
  · omega
  · split
    · omega
    · obtain ⟨k, rfl⟩ : ∃ k, n = k + 1 := ⟨n - 1, by omega⟩
      have := hV (O k) 5 (hO k (by omega)) (by omega)
      show -99 ≤ max (LT V md O k) ((EN V md O k : Int) - (V (O k) 5 : Int))
      omega
theorem iN_subI {a b : Int} : iN a - iN b = iN (a - b) := by
  unfold iN
  rw [Int32.ofInt_sub]
def xs (ls : Bool) : Int32 := if ls = true then -1 else 0
theorem xs_eq {w : Vw} {ls : Bool} {k : Nat} : (sgI (CM w k (k + 1) - C0 w) = xs ls) = (XB w ls k = true) := by
  unfold sgI xs XB
  cases ls with
  | true =>
    simp only [if_true]
    by_cases h : CM w k (k + 1) - C0 w < 0
    · rw [if_pos h]
      exact propext ⟨fun _ => decide_eq_true (by omega), fun _ => rfl⟩
    · rw [if_neg h]
      refine propext ⟨fun z => ?_, fun z => ?_⟩
      · exfalso
        split at z
        · exact absurd z (by decide)
        · exact absurd z (by decide)
      · have := of_decide_eq_true z
        omega
  | false =>
    simp only [if_neg (show ¬ false = true by decide)]
    by_cases h : CM w k (k + 1) - C0 w < 0
    · rw [if_pos h]
      refine propext ⟨fun z => absurd z (by decide), fun z => ?_⟩
      have := of_decide_eq_true z
      omega
    · rw [if_neg h]
      by_cases h2 : CM w k (k + 1) - C0 w = 0
      · rw [if_pos h2]
        exact propext ⟨fun _ => decide_eq_true (by omega), fun _ => rfl⟩
      · rw [if_neg h2]
        refine propext ⟨fun z => absurd z (by decide), fun z => ?_⟩
        have := of_decide_eq_true z
        omega
set_option maxHeartbeats 4000000 in
theorem m_exch {d : Nat} {σ0 : mx_S} {w : Vw} {ls : Bool} (hw0 : vwM w σ0) (hj : w.1.jn ≠ 0) : ∃ σ', (∀ q, mx_call (d + 5) m_X7_exchanges [.ref 88, .int (xs ls)] σ0 q ↔ q = (some (.int (nI (cnt (XB w ls) (w.1.jn - 1)))), σ')) ∧ scM σ0 σ' := by
  have hn := hw0.1.1.1
  have ok := hw0.1.1
  have hV := okV_of ok.2.2.2.1
  have e1 : nI w.1.jn - 1 = nI (w.1.jn - 1) := by rw [show w.1.jn = (w.1.jn - 1) + 1 by omega, nI_pred]; rfl
  have lp : ∀ m k (σ : mx_S), k + m = w.1.jn - 1 → scM σ0 σ → ∃ σ', (∀ q, mx_run (d + 4) m_X7_exchanges 10 [some (.ref 88), some (.int (xs ls)), some (.int (iN (C0 w))), some (.int (nI (cnt (XB w ls) k))), some (.int (nI k))] [] σ q ↔ q = (some (.int (nI (cnt (XB w ls) (w.1.jn - 1)))), σ')) ∧ scM σ0 σ' := by
    intro m
    induction m with
    | zero =>
      intro k σ hk sc
      obtain ⟨S1, S2, S3, S4, S5⟩ := vwM_now (sc.vw hw0)
      refine ⟨σ, fun q => ?_, sc⟩
      rw [E_X7_exchanges_10]
      simp (disch := omega) only [true_and, and_true, and_self, exists_eq_left, Option.toList_some, Option.toList_none, List.cons_append, List.nil_append, List.append_nil, i2_i, i2_r, i2_n, nz0, nz1, true_or, or_true, Nat.reduceAdd, Nat.le_refl, Nat.reduceLT, Nat.reduceLeDiff, ↓E_X7_exchanges_0, ↓E_X7_exchanges_1, ↓E_X7_exchanges_4, ↓E_X7_exchanges_5, ↓E_X7_exchanges_6, ↓E_X7_exchanges_7, ↓E_X7_exchanges_8, ↓E_X7_exchanges_12, ↓E_X7_exchanges_13, ↓E_X7_exchanges_16, ↓E_X7_exchanges_17, ↓E_X7_exchanges_18, ↓E_X7_exchanges_21, ↓E_X7_exchanges_22, ↓E_X7_exchanges_23, ↓E_X7_exchanges_25, ↓E_X7_exchanges_27, ↓E_X7_exchanges_28, ↓E_X7_exchanges_29, ↓E_X7_exchanges_32, ↓E_X7_exchanges_33, ↓E_X7_exchanges_34, ↓E_X7_exchanges_37, ↓E_X7_exchanges_38, ↓E_X7_exchanges_41, ↓E_X7_exchanges_42, ↓E_X7_exchanges_45, ↓E_X7_exchanges_46, ↓E_X7_exchanges_47, ↓E_X7_exchanges_48, ↓E_X7_exchanges_51, ↓E_X7_exchanges_54, ↓E_X7_exchanges_55, S1, e1, leN]
      rw [if_pos (by omega), show k = w.1.jn - 1 by omega]
    | succ m ih =>
      intro k σ hk sc
      have hw := sc.vw hw0
      obtain ⟨S1, S2, S3, S4, S5⟩ := vwM_now hw
      obtain ⟨σ1, c1, sc1⟩ := m_wouldCost (d := d) (k := k) (l := k + 1) hw (by omega) (by omega)
      obtain ⟨σ', r, sc'⟩ := ih (k + 1) σ1 (by omega) (sc.tr sc1)
      have b1 := CM_le hw.1 (k := k) (l := k + 1) (by omega) (by omega)
      have b2 := C0_le hw.1
      have b3 : -99 ≤ CM w k (k + 1) := CST_ge hV (okO_mv ok.2.2.2.2.1 (by omega) (by omega)).1 (by omega)
      have b4 : -99 ≤ C0 w := CST_ge hV ok.2.2.2.2.1.1 (by omega)
      have st : cnt (XB w ls) (k + 1) = cnt (XB w ls) k + (if XB w ls k = true then 1 else 0) := rfl
      have sg := fun q => m_sig (d := d + 3) (σ := σ1) (q := q) (z := CM w k (k + 1) - C0 w) (by omega) (by omega)
      refine ⟨σ', fun q => ?_, sc'⟩
      rw [← r q, st]
      conv => lhs; rw [E_X7_exchanges_10]
      simp (disch := omega) only [true_and, and_true, and_self, exists_eq_left, Option.toList_some, Option.toList_none, List.cons_append, List.nil_append, List.append_nil, i2_i, i2_r, i2_n, nz0, nz1, true_or, or_true, Nat.reduceAdd, Nat.le_refl, Nat.reduceLT, Nat.reduceLeDiff, ↓E_X7_exchanges_0, ↓E_X7_exchanges_1, ↓E_X7_exchanges_4, ↓E_X7_exchanges_5, ↓E_X7_exchanges_6, ↓E_X7_exchanges_7, ↓E_X7_exchanges_8, ↓E_X7_exchanges_12, ↓E_X7_exchanges_13, ↓E_X7_exchanges_16, ↓E_X7_exchanges_17, ↓E_X7_exchanges_18, ↓E_X7_exchanges_21, ↓E_X7_exchanges_22, ↓E_X7_exchanges_23, ↓E_X7_exchanges_25, ↓E_X7_exchanges_27, ↓E_X7_exchanges_28, ↓E_X7_exchanges_29, ↓E_X7_exchanges_32, ↓E_X7_exchanges_33, ↓E_X7_exchanges_34, ↓E_X7_exchanges_37, ↓E_X7_exchanges_38, ↓E_X7_exchanges_41, ↓E_X7_exchanges_42, ↓E_X7_exchanges_45, ↓E_X7_exchanges_46, ↓E_X7_exchanges_47, ↓E_X7_exchanges_48, ↓E_X7_exchanges_51, ↓E_X7_exchanges_54, ↓E_X7_exchanges_55, S1, e1, leN, if_neg (show ¬ w.1.jn - 1 ≤ k by omega), nI_1, c1, iN_subI, sg, xs_eq]
      by_cases e : XB w ls k = true
      · simp only [if_pos e, nI_1]
      · simp only [if_neg e, nI_p0]
        rfl
  obtain ⟨σ1, c1, sc1⟩ := m_now (d := d) hw0 hj
  obtain ⟨σ', r, sc'⟩ := lp (w.1.jn - 1) 0 σ1 (by omega) sc1
  refine ⟨σ', fun q => ?_, sc'⟩
  rw [← r q]
  simp (disch := omega) only [C_X7_exchanges, true_and, and_true, and_self, exists_eq_left, Option.toList_some, Option.toList_none, List.cons_append, List.nil_append, List.append_nil, i2_i, i2_r, i2_n, nz0, nz1, true_or, or_true, Nat.reduceAdd, Nat.le_refl, Nat.reduceLT, Nat.reduceLeDiff, ↓E_X7_exchanges_0, ↓E_X7_exchanges_1, ↓E_X7_exchanges_4, ↓E_X7_exchanges_5, ↓E_X7_exchanges_6, ↓E_X7_exchanges_7, ↓E_X7_exchanges_8, ↓E_X7_exchanges_12, ↓E_X7_exchanges_13, ↓E_X7_exchanges_16, ↓E_X7_exchanges_17, ↓E_X7_exchanges_18, ↓E_X7_exchanges_21, ↓E_X7_exchanges_22, ↓E_X7_exchanges_23, ↓E_X7_exchanges_25, ↓E_X7_exchanges_27, ↓E_X7_exchanges_28, ↓E_X7_exchanges_29, ↓E_X7_exchanges_32, ↓E_X7_exchanges_33, ↓E_X7_exchanges_34, ↓E_X7_exchanges_37, ↓E_X7_exchanges_38, ↓E_X7_exchanges_41, ↓E_X7_exchanges_42, ↓E_X7_exchanges_45, ↓E_X7_exchanges_46, ↓E_X7_exchanges_47, ↓E_X7_exchanges_48, ↓E_X7_exchanges_51, ↓E_X7_exchanges_54, ↓E_X7_exchanges_55, c1]
  rfl
set_option maxHeartbeats 2000000 in
theorem m_isFirst {d j n : Nat} {V : Nat → Nat → Nat} {σ : mx_S} {q : mx_R} (hn : n ≤ 6) (hj : j < n) (hV : okV n V) (hR : ∀ j k, j < n → k < 6 → σ.1 89 (6 * j + k) = nI (V j k)) : mx_call (d + 2) m_X7_isFirst [.ref 88, .int (nI j)] σ q ↔ q = (some (.int (bz (decide (V j 0 ≤ V j 2)))), σ) := by
  have r0 : σ.1 89 (6 * j) = nI (V j 0) := hR j 0 hj (by omega)
  have r2 := hR j 2 hj (by omega)
  have v0 := hV j 0 hj (by omega)
  have v2 := hV j 2 hj (by omega)
  simp (disch := omega) only [C_X7_isFirst, true_and, and_true, and_self, exists_eq_left, Option.toList_some, Option.toList_none, List.cons_append, List.nil_append, List.append_nil, i2_i, i2_r, i2_n, nz0, nz1, true_or, or_true, Nat.reduceAdd, Nat.le_refl, Nat.reduceLT, Nat.reduceLeDiff, ↓E_X7_isFirst_0, ↓E_X7_isFirst_1, ↓E_X7_isFirst_2, ↓E_X7_isFirst_3, ↓E_X7_isFirst_6, ↓E_X7_isFirst_7, ↓E_X7_isFirst_8, ↓E_X7_isFirst_9, ↓E_X7_isFirst_12, ↓E_X7_isFirst_15, ↓E_X7_isFirst_16, ↓E_X7_isFirst_19, ↓E_X7_isFirst_20, m_g0, m_g2, r0, r2, leN, ltN]
  by_cases e : V j 0 ≤ V j 2
  · simp only [if_pos e, if_neg (show ¬ V j 2 < V j 0 by omega), decide_eq_true e]; rfl
  · simp only [if_neg e, if_pos (show V j 2 < V j 0 by omega), decide_eq_false e]; rfl
set_option maxHeartbeats 2000000 in
theorem m_firsts {d : Nat} {σ : mx_S} {w : Vw} {q : mx_R} (hw : vwM w σ) : mx_call (d + 3) m_X7_firsts [.ref 88] σ q ↔ q = (some (.int (nI (cnt (fst1 w) w.1.jn))), σ) := by
  obtain ⟨S1, S2, S3, S4, S5⟩ := vwM_now hw
  have hn := hw.1.1.1
  have hV := okV_of hw.1.1.2.2.2.1
  have lp : ∀ m t, t + m = w.1.jn → (mx_run (d + 2) m_X7_firsts 4 [some (.ref 88), some (.int (nI (cnt (fst1 w) t))), some (.int (nI t))] [] σ q ↔ q = (some (.int (nI (cnt (fst1 w) w.1.jn))), σ)) := by
    intro m
    induction m with
    | zero =>
      intro t ht
      have e : t = w.1.jn := by omega
      subst e
      rw [E_X7_firsts_4]
      simp (disch := omega) only [true_and, and_true, and_self, exists_eq_left, Option.toList_some, Option.toList_none, List.cons_append, List.nil_append, List.append_nil, i2_i, i2_r, i2_n, nz0, nz1, true_or, or_true, Nat.reduceAdd, Nat.le_refl, Nat.reduceLT, Nat.reduceLeDiff, ↓E_X7_firsts_0, ↓E_X7_firsts_1, ↓E_X7_firsts_2, ↓E_X7_firsts_3, ↓E_X7_firsts_5, ↓E_X7_firsts_6, ↓E_X7_firsts_9, ↓E_X7_firsts_12, ↓E_X7_firsts_13, ↓E_X7_firsts_14, ↓E_X7_firsts_15, ↓E_X7_firsts_18, ↓E_X7_firsts_21, ↓E_X7_firsts_22, ↓E_X7_firsts_25, ↓E_X7_firsts_26, ↓E_X7_firsts_27, ↓E_X7_firsts_28, ↓E_X7_firsts_31, ↓E_X7_firsts_34, ↓E_X7_firsts_35, S1, leN, if_true]
    | succ m ih =>
      intro t ht
      have st : cnt (fst1 w) (t + 1) = cnt (fst1 w) t + (if fst1 w t = true then 1 else 0) := rfl
      have ih := ih (t + 1) (by omega)
      rw [st] at ih
      rw [E_X7_firsts_4]
      simp (disch := omega) only [true_and, and_true, and_self, exists_eq_left, Option.toList_some, Option.toList_none, List.cons_append, List.nil_append, List.append_nil, i2_i, i2_r, i2_n, nz0, nz1, true_or, or_true, Nat.reduceAdd, Nat.le_refl, Nat.reduceLT, Nat.reduceLeDiff, ↓E_X7_firsts_0, ↓E_X7_firsts_1, ↓E_X7_firsts_2, ↓E_X7_firsts_3, ↓E_X7_firsts_5, ↓E_X7_firsts_6, ↓E_X7_firsts_9, ↓E_X7_firsts_12, ↓E_X7_firsts_13, ↓E_X7_firsts_14, ↓E_X7_firsts_15, ↓E_X7_firsts_18, ↓E_X7_firsts_21, ↓E_X7_firsts_22, ↓E_X7_firsts_25, ↓E_X7_firsts_26, ↓E_X7_firsts_27, ↓E_X7_firsts_28, ↓E_X7_firsts_31, ↓E_X7_firsts_34, ↓E_X7_firsts_35, S1, leN, if_neg (show ¬ w.1.jn ≤ t by omega), m_isFirst hn (show t < w.1.jn by omega) hV S4, bz_0, nI_1]
      by_cases e : w.1.V t 0 ≤ w.1.V t 2
      · have eb : fst1 w t = true := decide_eq_true e
        rw [eb, if_pos rfl] at ih
        simp only [decide_eq_true e, if_neg (show ¬ true = false by decide), nI_1]
        exact ih
      · have eb : fst1 w t = false := decide_eq_false e
        rw [eb, if_neg (by decide)] at ih
        simp only [decide_eq_false e, if_true, nI_p0]
        exact ih
  simp (disch := omega) only [C_X7_firsts, true_and, and_true, and_self, exists_eq_left, Option.toList_some, Option.toList_none, List.cons_append, List.nil_append, List.append_nil, i2_i, i2_r, i2_n, nz0, nz1, true_or, or_true, Nat.reduceAdd, Nat.le_refl, Nat.reduceLT, Nat.reduceLeDiff, ↓E_X7_firsts_0, ↓E_X7_firsts_1, ↓E_X7_firsts_2, ↓E_X7_firsts_3, ↓E_X7_firsts_5, ↓E_X7_firsts_6, ↓E_X7_firsts_9, ↓E_X7_firsts_12, ↓E_X7_firsts_13, ↓E_X7_firsts_14, ↓E_X7_firsts_15, ↓E_X7_firsts_18, ↓E_X7_firsts_21, ↓E_X7_firsts_22, ↓E_X7_firsts_25, ↓E_X7_firsts_26, ↓E_X7_firsts_27, ↓E_X7_firsts_28, ↓E_X7_firsts_31, ↓E_X7_firsts_34, ↓E_X7_firsts_35]
  exact lp w.1.jn 0 (by omega)
set_option maxHeartbeats 2000000 in
theorem m_easy {d : Nat} {σ : mx_S} {w : Vw} {q : mx_R} (hw : vwM w σ) : mx_call (d + 3) m_X7_easy [.ref 88] σ q ↔ q = (some (.int (bz (esy w))), σ) := by
  obtain ⟨S1, S2, S3, S4, S5⟩ := vwM_now hw
  have hn := hw.1.1.1
  have hV := okV_of hw.1.1.2.2.2.1
  have bM := mxV_le (g := fun j => w.1.V j 1) (B := 99) w.1.jn (fun j hj => hV j 1 hj (by omega))
  have b0 := mnV_le (g := fun j => w.1.V j 0) w.1.jn
  have b2 := mnV_le (g := fun j => w.1.V j 2) w.1.jn
  have c0 : ∀ q, mx_call (d + 2) m_X7_lowestOf [.ref 88, .int 0, .int (-1)] σ q ↔ q = (some (.int (nI (mnV (fun j => w.1.V j 0) w.1.jn))), σ) := fun q => m_lowest1 (k := 0) hn (by omega) hV S1 S4
  have c2 : ∀ q, mx_call (d + 2) m_X7_lowestOf [.ref 88, .int 2, .int (-1)] σ q ↔ q = (some (.int (nI (mnV (fun j => w.1.V j 2) w.1.jn))), σ) := fun q => m_lowest1 (k := 2) hn (by omega) hV S1 S4
  have lp : ∀ m t, t + m = w.1.jn → (mx_run (d + 2) m_X7_easy 4 [some (.ref 88), some (.int (nI (mxV (fun j => w.1.V j 1) t))), some (.int (nI t))] [] σ q ↔ q = (some (.int (bz (esy w))), σ)) := by
    intro m
    induction m with
    | zero =>
      intro t ht
      have e : t = w.1.jn := by omega
      subst e
      rw [E_X7_easy_4]
      simp (disch := omega) only [true_and, and_true, and_self, exists_eq_left, Option.toList_some, Option.toList_none, List.cons_append, List.nil_append, List.append_nil, i2_i, i2_r, i2_n, nz0, nz1, true_or, or_true, Nat.reduceAdd, Nat.le_refl, Nat.reduceLT, Nat.reduceLeDiff, ↓E_X7_easy_0, ↓E_X7_easy_1, ↓E_X7_easy_2, ↓E_X7_easy_3, ↓E_X7_easy_5, ↓E_X7_easy_6, ↓E_X7_easy_9, ↓E_X7_easy_12, ↓E_X7_easy_13, ↓E_X7_easy_14, ↓E_X7_easy_15, ↓E_X7_easy_16, ↓E_X7_easy_19, ↓E_X7_easy_22, ↓E_X7_easy_23, ↓E_X7_easy_26, ↓E_X7_easy_29, ↓E_X7_easy_30, ↓E_X7_easy_31, ↓E_X7_easy_32, ↓E_X7_easy_33, ↓E_X7_easy_36, ↓E_X7_easy_39, ↓E_X7_easy_40, ↓E_X7_easy_41, ↓E_X7_easy_42, ↓E_X7_easy_43, ↓E_X7_easy_46, ↓E_X7_easy_49, ↓E_X7_easy_50, ↓E_X7_easy_53, ↓E_X7_easy_54, S1, leN, ltN, if_true, c0, c2]
      unfold esy
      by_cases h1 : mxV (fun j => w.1.V j 1) w.1.jn ≤ mnV (fun j => w.1.V j 0) w.1.jn
      · simp only [if_pos h1, decide_eq_true h1, Bool.true_or]; rfl
      · by_cases h2 : mxV (fun j => w.1.V j 1) w.1.jn ≤ mnV (fun j => w.1.V j 2) w.1.jn
        · simp only [if_neg h1, decide_eq_false h1, decide_eq_true h2, Bool.or_true]
          first | (rw [if_pos h2]; rfl) | (rw [if_neg (show ¬ mnV (fun j => w.1.V j 2) w.1.jn < mxV (fun j => w.1.V j 1) w.1.jn by omega)]; rfl)
        · simp only [if_neg h1, decide_eq_false h1, decide_eq_false h2, Bool.or_self]
          first | (rw [if_neg h2]; rfl) | (rw [if_pos (show mnV (fun j => w.1.V j 2) w.1.jn < mxV (fun j => w.1.V j 1) w.1.jn by omega)]; rfl)
    | succ m ih =>
      intro t ht
      have r1 := S4 t 1 (by omega) (by omega)
      have v1 := hV t 1 (by omega) (by omega)
      have bt := mxV_le (g := fun j => w.1.V j 1) (B := 99) t (fun j hj => hV j 1 (by omega) (by omega))
      rw [E_X7_easy_4]
      simp (disch := omega) only [true_and, and_true, and_self, exists_eq_left, Option.toList_some, Option.toList_none, List.cons_append, List.nil_append, List.append_nil, i2_i, i2_r, i2_n, nz0, nz1, true_or, or_true, Nat.reduceAdd, Nat.le_refl, Nat.reduceLT, Nat.reduceLeDiff, ↓E_X7_easy_0, ↓E_X7_easy_1, ↓E_X7_easy_2, ↓E_X7_easy_3, ↓E_X7_easy_5, ↓E_X7_easy_6, ↓E_X7_easy_9, ↓E_X7_easy_12, ↓E_X7_easy_13, ↓E_X7_easy_14, ↓E_X7_easy_15, ↓E_X7_easy_16, ↓E_X7_easy_19, ↓E_X7_easy_22, ↓E_X7_easy_23, ↓E_X7_easy_26, ↓E_X7_easy_29, ↓E_X7_easy_30, ↓E_X7_easy_31, ↓E_X7_easy_32, ↓E_X7_easy_33, ↓E_X7_easy_36, ↓E_X7_easy_39, ↓E_X7_easy_40, ↓E_X7_easy_41, ↓E_X7_easy_42, ↓E_X7_easy_43, ↓E_X7_easy_46, ↓E_X7_easy_49, ↓E_X7_easy_50, ↓E_X7_easy_53, ↓E_X7_easy_54, S1, leN, if_neg (show ¬ w.1.jn ≤ t by omega), m_g1, r1, nI_max, nI_1]
      exact ih (t + 1) (by omega)
  simp (disch := omega) only [C_X7_easy, true_and, and_true, and_self, exists_eq_left, Option.toList_some, Option.toList_none, List.cons_append, List.nil_append, List.append_nil, i2_i, i2_r, i2_n, nz0, nz1, true_or, or_true, Nat.reduceAdd, Nat.le_refl, Nat.reduceLT, Nat.reduceLeDiff, ↓E_X7_easy_0, ↓E_X7_easy_1, ↓E_X7_easy_2, ↓E_X7_easy_3, ↓E_X7_easy_5, ↓E_X7_easy_6, ↓E_X7_easy_9, ↓E_X7_easy_12, ↓E_X7_easy_13, ↓E_X7_easy_14, ↓E_X7_easy_15, ↓E_X7_easy_16, ↓E_X7_easy_19, ↓E_X7_easy_22, ↓E_X7_easy_23, ↓E_X7_easy_26, ↓E_X7_easy_29, ↓E_X7_easy_30, ↓E_X7_easy_31, ↓E_X7_easy_32, ↓E_X7_easy_33, ↓E_X7_easy_36, ↓E_X7_easy_39, ↓E_X7_easy_40, ↓E_X7_easy_41, ↓E_X7_easy_42, ↓E_X7_easy_43, ↓E_X7_easy_46, ↓E_X7_easy_49, ↓E_X7_easy_50, ↓E_X7_easy_53, ↓E_X7_easy_54]
  exact lp w.1.jn 0 (by omega)
