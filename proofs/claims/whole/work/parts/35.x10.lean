/-! ===== the class: plans, exchanges, steps ===== -/
theorem CST_le {n : Nat} {V : Nat → Nat → Nat} {md am : Nat} {O : Nat → Nat} (hn : n ≤ 6) (hV : okV n V) (hO : ∀ p, p < n → O p < n) : -2147483648 ≤ CST V md am O n ∧ CST V md am O n ≤ 20000 := by
  have h1 := EL_le (md := md) hV hO n (Nat.le_refl n)
  have h2 := FL_le (md := md) hn hV hO n (Nat.le_refl n)
  have h3 := LT_le (md := md) hn hV hO n (Nat.le_refl n)
  unfold CST
  split
  · omega
  · split <;> omega
def F_plan (w : Vw) (x : Int32) : Int32 × Vw := if ibI x 4 = false then (-2, w) else if w.1.jn = 0 then (-3, w)
  else (nI (cnt (fun p => decide (OR w.1.V (ixI x) w.1.jn p ≠ w.1.O p)) w.1.jn), setShp w w.1.jn w.1.md w.1.am w.1.V (OR w.1.V (ixI x) w.1.jn))
set_option maxHeartbeats 2000000 in
theorem l_plan {d : Nat} {n : Nat} {O P : Nat → Nat} {x : Int32} (hn : n ≤ 6) (hO : ∀ p, p < n → O p < n) (hP : ∀ p, p < n → P p < n) (σ0 : mx_S) (h0 : σ0.1 1 0 = nI n) (h1 : ∀ p, p < n → σ0.1 9 p = nI (O p)) (h2 : ∀ p, p < n → σ0.1 46 p = nI (P p)) : ∀ m t (σ : mx_S), t + m = n → (∀ p, p < t → σ.1 9 p = nI (P p)) → (∀ p, t ≤ p → σ.1 9 p = σ0.1 9 p) → (∀ i, i ≠ 9 → σ.1 i = σ0.1 i) → σ.2 = σ0.2 →
    ∃ σ', mx_run d m_X6_plan 40 [some (.ref 0), some (.int x), some (.int (nI (cnt (fun p => decide (P p ≠ O p)) t))), some (.int (nI t))] [] σ (some (.int (nI (cnt (fun p => decide (P p ≠ O p)) n))), σ') ∧ (∀ p, p < n → σ'.1 9 p = nI (P p)) ∧ (∀ i, i ≠ 9 → σ'.1 i = σ0.1 i) ∧ σ'.2 = σ0.2 := by
  intro m
  induction m with
  | zero =>
    intro t σ ht g1 g2 g3 g4
    have e : t = n := by omega
    subst e
    have h0' : σ.1 1 0 = nI t := by rw [g3 1 (by omega)]; exact h0
    simp only [E_X6_plan_40]
    simp (disch := omega) only [true_and, and_true, and_self, exists_eq_left, Option.toList_some, Option.toList_none, List.cons_append, List.nil_append, List.append_nil, i2_i, i2_r, i2_n, nz0, nz1, true_or, or_true, Nat.reduceAdd, Nat.le_refl, Nat.reduceLT, Nat.reduceLeDiff, ↓E_X6_plan_0, ↓E_X6_plan_1, ↓E_X6_plan_2, ↓E_X6_plan_5, ↓E_X6_plan_8, ↓E_X6_plan_10, ↓E_X6_plan_11, ↓E_X6_plan_12, ↓E_X6_plan_15, ↓E_X6_plan_18, ↓E_X6_plan_21, ↓E_X6_plan_23, ↓E_X6_plan_24, ↓E_X6_plan_25, ↓E_X6_plan_28, ↓E_X6_plan_29, ↓E_X6_plan_30, ↓E_X6_plan_33, ↓E_X6_plan_36, ↓E_X6_plan_37, ↓E_X6_plan_38, ↓E_X6_plan_39, ↓E_X6_plan_41, ↓E_X6_plan_42, ↓E_X6_plan_45, ↓E_X6_plan_48, ↓E_X6_plan_51, ↓E_X6_plan_52, ↓E_X6_plan_55, ↓E_X6_plan_56, ↓E_X6_plan_57, ↓E_X6_plan_58, ↓E_X6_plan_61, ↓E_X6_plan_64, ↓E_X6_plan_65, ↓E_X6_plan_66, ↓E_X6_plan_69, ↓E_X6_plan_72, ↓E_X6_plan_73, ↓E_X6_plan_76, ↓E_X6_plan_79, ↓E_X6_plan_80, ↓E_X6_plan_81, ↓E_X6_plan_84, ↓E_X6_plan_85, ↓E_X6_plan_86, ↓E_X6_plan_87, ↓E_X6_plan_90, ↓E_X6_plan_93, ↓E_X6_plan_94, kd_3, h0', leN, if_true]
    exact ⟨σ, rfl, g1, g3, g4⟩
  | succ m ih =>
    intro t σ ht g1 g2 g3 g4
    have h0' : σ.1 1 0 = nI n := by rw [g3 1 (by omega)]; exact h0
    have p1 : σ.1 46 t = nI (P t) := by rw [g3 46 (by omega)]; exact h2 t (by omega)
    have p2 : σ.1 9 t = nI (O t) := by rw [g2 t (by omega)]; exact h1 t (by omega)
    have b1 := hO t (by omega)
    have b2 := hP t (by omega)
    have key : ∃ σ', mx_run d m_X6_plan 40 [some (.ref 0), some (.int x), some (.int (nI (cnt (fun p => decide (P p ≠ O p)) (t + 1)))), some (.int (nI (t + 1)))] [] (mx_u σ.1 9 t (nI (P t)), σ.2) (some (.int (nI (cnt (fun p => decide (P p ≠ O p)) n))), σ') ∧ (∀ p, p < n → σ'.1 9 p = nI (P p)) ∧ (∀ i, i ≠ 9 → σ'.1 i = σ0.1 i) ∧ σ'.2 = σ0.2 := by
      refine ih (t + 1) _ (by omega) (fun p hp => ?_) (fun p hp => ?_) (fun i hi => by show mx_u _ _ _ _ i = _; rw [mx_u_ne hi]; exact g3 i hi) g4
      · by_cases e : p = t
        · subst e; simp only [uu_same]
        · simp (disch := omega) only [uu_col]; exact g1 p (by omega)
      · simp (disch := omega) only [uu_col]; exact g2 p (by omega)
    obtain ⟨σ', k1, k2⟩ := key
    refine ⟨σ', ?_, k2⟩
    rw [E_X6_plan_40]
    have st : cnt (fun p => decide (P p ≠ O p)) (t + 1) = cnt (fun p => decide (P p ≠ O p)) t + (if decide (P t ≠ O t) = true then 1 else 0) := rfl
    simp (disch := omega) only [true_and, and_true, and_self, exists_eq_left, Option.toList_some, Option.toList_none, List.cons_append, List.nil_append, List.append_nil, i2_i, i2_r, i2_n, nz0, nz1, true_or, or_true, Nat.reduceAdd, Nat.le_refl, Nat.reduceLT, Nat.reduceLeDiff, ↓E_X6_plan_0, ↓E_X6_plan_1, ↓E_X6_plan_2, ↓E_X6_plan_5, ↓E_X6_plan_8, ↓E_X6_plan_10, ↓E_X6_plan_11, ↓E_X6_plan_12, ↓E_X6_plan_15, ↓E_X6_plan_18, ↓E_X6_plan_21, ↓E_X6_plan_23, ↓E_X6_plan_24, ↓E_X6_plan_25, ↓E_X6_plan_28, ↓E_X6_plan_29, ↓E_X6_plan_30, ↓E_X6_plan_33, ↓E_X6_plan_36, ↓E_X6_plan_37, ↓E_X6_plan_38, ↓E_X6_plan_39, ↓E_X6_plan_41, ↓E_X6_plan_42, ↓E_X6_plan_45, ↓E_X6_plan_48, ↓E_X6_plan_51, ↓E_X6_plan_52, ↓E_X6_plan_55, ↓E_X6_plan_56, ↓E_X6_plan_57, ↓E_X6_plan_58, ↓E_X6_plan_61, ↓E_X6_plan_64, ↓E_X6_plan_65, ↓E_X6_plan_66, ↓E_X6_plan_69, ↓E_X6_plan_72, ↓E_X6_plan_73, ↓E_X6_plan_76, ↓E_X6_plan_79, ↓E_X6_plan_80, ↓E_X6_plan_81, ↓E_X6_plan_84, ↓E_X6_plan_85, ↓E_X6_plan_86, ↓E_X6_plan_87, ↓E_X6_plan_90, ↓E_X6_plan_93, ↓E_X6_plan_94, kd_3, kd_8, ln_6, h0', leN, vin, clN, p1, p2, eqN, nI_1]
    rw [if_neg (by omega)]
    by_cases e : P t = O t
    · rw [show decide (P t ≠ O t) = false by simp [e]] at st
      simp only [if_pos e]
      rw [st] at k1
      exact k1
    · rw [show decide (P t ≠ O t) = true by simp [e]] at st
      simp only [if_neg e]
      rw [st] at k1
      exact k1
set_option maxHeartbeats 2000000 in
theorem X_plan {d : Nat} {σ : mx_S} {w : Vw} {a : Int32} (hw : vwX w σ) : ∃ σ', mx_call (d + 4) m_X6_plan [.ref 0, .int a] σ (some (.int (F_plan w a).1), σ') ∧ vwX (F_plan w a).2 σ' ∧ hiS σ σ' := by
  obtain ⟨S1, S2, S3, S4, S5⟩ := vwX_now hw
  have hn := hw.1.1.1
  generalize hF : F_plan w a = R
  simp (disch := omega) only [C_X6_plan, true_and, and_true, and_self, exists_eq_left, Option.toList_some, Option.toList_none, List.cons_append, List.nil_append, List.append_nil, i2_i, i2_r, i2_n, nz0, nz1, true_or, or_true, Nat.reduceAdd, Nat.le_refl, Nat.reduceLT, Nat.reduceLeDiff, ↓E_X6_plan_0, ↓E_X6_plan_1, ↓E_X6_plan_2, ↓E_X6_plan_5, ↓E_X6_plan_8, ↓E_X6_plan_10, ↓E_X6_plan_11, ↓E_X6_plan_12, ↓E_X6_plan_15, ↓E_X6_plan_18, ↓E_X6_plan_21, ↓E_X6_plan_23, ↓E_X6_plan_24, ↓E_X6_plan_25, ↓E_X6_plan_28, ↓E_X6_plan_29, ↓E_X6_plan_30, ↓E_X6_plan_33, ↓E_X6_plan_36, ↓E_X6_plan_37, ↓E_X6_plan_38, ↓E_X6_plan_39, ↓E_X6_plan_41, ↓E_X6_plan_42, ↓E_X6_plan_45, ↓E_X6_plan_48, ↓E_X6_plan_51, ↓E_X6_plan_52, ↓E_X6_plan_55, ↓E_X6_plan_56, ↓E_X6_plan_57, ↓E_X6_plan_58, ↓E_X6_plan_61, ↓E_X6_plan_64, ↓E_X6_plan_65, ↓E_X6_plan_66, ↓E_X6_plan_69, ↓E_X6_plan_72, ↓E_X6_plan_73, ↓E_X6_plan_76, ↓E_X6_plan_79, ↓E_X6_plan_80, ↓E_X6_plan_81, ↓E_X6_plan_84, ↓E_X6_plan_85, ↓E_X6_plan_86, ↓E_X6_plan_87, ↓E_X6_plan_90, ↓E_X6_plan_93, ↓E_X6_plan_94, s_isBelow, bz_0, kd_3, S1, ibx_4, nI_eq0 hn]
  unfold F_plan at hF
  by_cases e0 : ibI a 4 = false
  · simp only [if_pos e0] at hF ⊢
    subst hF
    exact ⟨σ, rfl, hw, hiS.rf⟩
  by_cases e1 : w.1.jn = 0
  · simp only [if_neg e0, if_pos e1] at hF ⊢
    subst hF
    exact ⟨σ, rfl, hw, hiS.rf⟩
  simp only [if_neg e0, if_neg e1] at hF ⊢
  obtain ⟨ha, ha2⟩ := ib_rule (eq_true_of_ne_false e0)
  generalize ixI a = r at *
  subst ha
  obtain ⟨σ1, c1, h1, h2, h3⟩ := s_orderBy (d := d) hw ha2
  have hw1 := (sc46 h2 h3).vw hw
  obtain ⟨T1, T2, T3, T4, T5⟩ := vwX_now hw1
  obtain ⟨σ2, c2, g1, g2, g3⟩ := l_plan (d := d + 3) (x := nI r) hn hw.1.1.2.2.2.2.1.1 okO_OR.1 σ1 T1 T5 h1 w.1.jn 0 σ1 (by omega) (fun p hp => by omega) (fun _ _ => rfl) (fun _ _ => rfl) rfl
  simp (disch := omega) only [mx_one c1, true_and, and_true, and_self, exists_eq_left, Option.toList_some, Option.toList_none, List.cons_append, List.nil_append, List.append_nil, i2_i, i2_r, i2_n, nz0, nz1, true_or, or_true, Nat.reduceAdd, Nat.le_refl, Nat.reduceLT, Nat.reduceLeDiff, ↓E_X6_plan_0, ↓E_X6_plan_1, ↓E_X6_plan_2, ↓E_X6_plan_5, ↓E_X6_plan_8, ↓E_X6_plan_10, ↓E_X6_plan_11, ↓E_X6_plan_12, ↓E_X6_plan_15, ↓E_X6_plan_18, ↓E_X6_plan_21, ↓E_X6_plan_23, ↓E_X6_plan_24, ↓E_X6_plan_25, ↓E_X6_plan_28, ↓E_X6_plan_29, ↓E_X6_plan_30, ↓E_X6_plan_33, ↓E_X6_plan_36, ↓E_X6_plan_37, ↓E_X6_plan_38, ↓E_X6_plan_39, ↓E_X6_plan_41, ↓E_X6_plan_42, ↓E_X6_plan_45, ↓E_X6_plan_48, ↓E_X6_plan_51, ↓E_X6_plan_52, ↓E_X6_plan_55, ↓E_X6_plan_56, ↓E_X6_plan_57, ↓E_X6_plan_58, ↓E_X6_plan_61, ↓E_X6_plan_64, ↓E_X6_plan_65, ↓E_X6_plan_66, ↓E_X6_plan_69, ↓E_X6_plan_72, ↓E_X6_plan_73, ↓E_X6_plan_76, ↓E_X6_plan_79, ↓E_X6_plan_80, ↓E_X6_plan_81, ↓E_X6_plan_84, ↓E_X6_plan_85, ↓E_X6_plan_86, ↓E_X6_plan_87, ↓E_X6_plan_90, ↓E_X6_plan_93, ↓E_X6_plan_94]
  subst hF
  refine ⟨σ2, c2, ?_, fun i hi => ⟨by rw [g2 i (by omega), h2 i (by omega)], by rw [g3, h3]⟩⟩
  have e9 : σ2 = (mx_c σ1.1 9 (σ2.1 9), σ1.2) := by
    refine Prod.ext ?_ g3
    funext i j
    show _ = mx_c σ1.1 9 (σ2.1 9) i j
    unfold mx_c
    by_cases e : i = 9
    · subst e; rw [if_pos rfl]
    · rw [if_neg e, g2 i e]
  rw [e9]
  exact (vwX_O hw1 okO_OR g1).1
/-- costs by moves of the plan -/
def CM (w : Vw) (k l : Nat) : Int := CST w.1.V w.1.md w.1.am (mv w.1.O k l) w.1.jn
def C0 (w : Vw) : Int := CST w.1.V w.1.md w.1.am w.1.O w.1.jn
theorem CM_le {w : Vw} (ok : okW w) {k l : Nat} (hk : k < w.1.jn) (hl : l < w.1.jn) : -2147483648 ≤ CM w k l ∧ CM w k l ≤ 20000 := CST_le ok.1.1 (okV_of ok.1.2.2.2.1) (okO_mv ok.1.2.2.2.2.1 hk hl).1
theorem C0_le {w : Vw} (ok : okW w) : -2147483648 ≤ C0 w ∧ C0 w ≤ 20000 := CST_le ok.1.1 (okV_of ok.1.2.2.2.1) ok.1.2.2.2.2.1.1
theorem iN_eq {a b : Int} (h1 : -2147483648 ≤ a) (h2 : a < 2147483648) (h3 : -2147483648 ≤ b) (h4 : b < 2147483648) : (iN a = iN b) = (a = b) := by rw [eq32, iN_toInt h1 h2, iN_toInt h3 h4]
theorem iN_le {a b : Int} (h1 : -2147483648 ≤ a) (h2 : a < 2147483648) (h3 : -2147483648 ≤ b) (h4 : b < 2147483648) : (iN a ≤ iN b) = (a ≤ b) := by rw [le32, iN_toInt h1 h2, iN_toInt h3 h4]
def XB (w : Vw) (ls : Bool) (k : Nat) : Bool := if ls = true then decide (CM w k (k + 1) < C0 w) else decide (CM w k (k + 1) = C0 w)
set_option maxHeartbeats 2000000 in
theorem l_exch {d : Nat} {w : Vw} {ls : Bool} (σ0 : mx_S) (hw0 : vwX w σ0) : ∀ m k (σ : mx_S) (lx : Option Value), k + m = w.1.jn - 1 → scX σ0 σ → ∃ σ', mx_run (d + 3) m_X6_exchanges 10 [some (.ref 0), some (.int (bz ls)), some (.int (iN (C0 w))), some (.int (nI (cnt (XB w ls) k))), some (.int (nI k)), lx] [] σ (some (.int (nI (cnt (XB w ls) (w.1.jn - 1)))), σ') ∧ scX σ0 σ' := by
  have hn := hw0.1.1.1
  intro m
  induction m with
  | zero =>
    intro k σ lx hk sc
    obtain ⟨S1, S2, S3, S4, S5⟩ := vwX_now (sc.vw hw0)
    refine ⟨σ, ?_, sc⟩
    rw [E_X6_exchanges_10]
    simp (disch := omega) only [true_and, and_true, and_self, exists_eq_left, Option.toList_some, Option.toList_none, List.cons_append, List.nil_append, List.append_nil, i2_i, i2_r, i2_n, nz0, nz1, true_or, or_true, Nat.reduceAdd, Nat.le_refl, Nat.reduceLT, Nat.reduceLeDiff, ↓E_X6_exchanges_0, ↓E_X6_exchanges_1, ↓E_X6_exchanges_4, ↓E_X6_exchanges_5, ↓E_X6_exchanges_6, ↓E_X6_exchanges_7, ↓E_X6_exchanges_8, ↓E_X6_exchanges_12, ↓E_X6_exchanges_13, ↓E_X6_exchanges_14, ↓E_X6_exchanges_15, ↓E_X6_exchanges_18, ↓E_X6_exchanges_21, ↓E_X6_exchanges_24, ↓E_X6_exchanges_25, ↓E_X6_exchanges_27, ↓E_X6_exchanges_29, ↓E_X6_exchanges_30, ↓E_X6_exchanges_31, ↓E_X6_exchanges_34, ↓E_X6_exchanges_36, ↓E_X6_exchanges_37, ↓E_X6_exchanges_40, ↓E_X6_exchanges_42, ↓E_X6_exchanges_43, ↓E_X6_exchanges_46, ↓E_X6_exchanges_49, ↓E_X6_exchanges_51, ↓E_X6_exchanges_52, ↓E_X6_exchanges_55, ↓E_X6_exchanges_58, ↓E_X6_exchanges_61, ↓E_X6_exchanges_64, ↓E_X6_exchanges_65, kd_3, S1, nI_1, leN]
    rw [if_pos (by omega), show k = w.1.jn - 1 by omega]
  | succ m ih =>
    intro k σ lx hk sc
    have hw := sc.vw hw0
    obtain ⟨S1, S2, S3, S4, S5⟩ := vwX_now hw
    obtain ⟨σ1, c1, f1, f2⟩ := s_movedCost (d := d) (k := k) (l := k + 1) hw (by omega) (by omega)
    have sc1 : scX σ0 σ1 := sc.tr ⟨fun i hi => f1 i (by omega) (by omega), f2⟩
    obtain ⟨σ', r, sc'⟩ := ih (k + 1) σ1 (some (.int (iN (CM w k (k + 1))))) (by omega) sc1
    refine ⟨σ', ?_, sc'⟩
    have b1 := CM_le hw.1 (k := k) (l := k + 1) (by omega) (by omega)
    have b2 := C0_le hw.1
    have st : cnt (XB w ls) (k + 1) = cnt (XB w ls) k + (if XB w ls k = true then 1 else 0) := rfl
    rw [st] at r
    rw [E_X6_exchanges_10]
    have c1' : ∀ q, mx_call (d + 3) m_X6_movedCost [.ref 0, .int (nI k), .int (nI (k + 1))] σ q ↔ q = (some (.int (iN (CM w k (k + 1)))), σ1) := mx_one c1
    simp (disch := omega) only [true_and, and_true, and_self, exists_eq_left, Option.toList_some, Option.toList_none, List.cons_append, List.nil_append, List.append_nil, i2_i, i2_r, i2_n, nz0, nz1, true_or, or_true, Nat.reduceAdd, Nat.le_refl, Nat.reduceLT, Nat.reduceLeDiff, ↓E_X6_exchanges_0, ↓E_X6_exchanges_1, ↓E_X6_exchanges_4, ↓E_X6_exchanges_5, ↓E_X6_exchanges_6, ↓E_X6_exchanges_7, ↓E_X6_exchanges_8, ↓E_X6_exchanges_12, ↓E_X6_exchanges_13, ↓E_X6_exchanges_14, ↓E_X6_exchanges_15, ↓E_X6_exchanges_18, ↓E_X6_exchanges_21, ↓E_X6_exchanges_24, ↓E_X6_exchanges_25, ↓E_X6_exchanges_27, ↓E_X6_exchanges_29, ↓E_X6_exchanges_30, ↓E_X6_exchanges_31, ↓E_X6_exchanges_34, ↓E_X6_exchanges_36, ↓E_X6_exchanges_37, ↓E_X6_exchanges_40, ↓E_X6_exchanges_42, ↓E_X6_exchanges_43, ↓E_X6_exchanges_46, ↓E_X6_exchanges_49, ↓E_X6_exchanges_51, ↓E_X6_exchanges_52, ↓E_X6_exchanges_55, ↓E_X6_exchanges_58, ↓E_X6_exchanges_61, ↓E_X6_exchanges_64, ↓E_X6_exchanges_65, kd_3, S1, nI_1, leN, c1', iN_lt, iN_le, iN_eq, bz_0]
    rw [if_neg (by omega)]
    cases ls with
    | true =>
      simp only [if_neg (show ¬ true = false by decide)]
      unfold XB at r
      simp only [if_true] at r
      by_cases e : CM w k (k + 1) < C0 w
      · simp only [decide_eq_true e, if_true] at r
        first | (rw [if_pos e]; exact r) | (rw [if_neg (show ¬ C0 w ≤ CM w k (k + 1) by omega)]; exact r)
      · simp only [decide_eq_false e] at r
        first | (rw [if_neg e]; exact r) | (rw [if_pos (show C0 w ≤ CM w k (k + 1) by omega)]; exact r)
    | false =>
      simp only [if_true]
      unfold XB at r
      simp only [if_neg (show ¬ false = true by decide)] at r
      by_cases e : CM w k (k + 1) = C0 w
      · simp only [decide_eq_true e, if_true] at r
        rw [if_pos e]; exact r
      · simp only [decide_eq_false e] at r
        rw [if_neg e]; exact r
set_option maxHeartbeats 2000000 in
theorem s_exch {d : Nat} {σ : mx_S} {w : Vw} {ls : Bool} (hw : vwX w σ) : ∃ σ', mx_call (d + 4) m_X6_exchanges [.ref 0, .int (bz ls)] σ (some (.int (nI (cnt (XB w ls) (w.1.jn - 1)))), σ') ∧ scX σ σ' := by
  obtain ⟨σ1, c1, f1, f2⟩ := s_planCost (d := d) hw
  have sc1 := sc47 f1 f2
  obtain ⟨σ', r, sc'⟩ := l_exch (d := d) (ls := ls) σ hw (w.1.jn - 1) 0 σ1 none (by omega) sc1
  refine ⟨σ', ?_, sc'⟩
  have c1' : ∀ q, mx_call (d + 3) m_X6_planCost [.ref 0] σ q ↔ q = (some (.int (iN (C0 w))), σ1) := mx_one c1
  simp (disch := omega) only [C_X6_exchanges, true_and, and_true, and_self, exists_eq_left, Option.toList_some, Option.toList_none, List.cons_append, List.nil_append, List.append_nil, i2_i, i2_r, i2_n, nz0, nz1, true_or, or_true, Nat.reduceAdd, Nat.le_refl, Nat.reduceLT, Nat.reduceLeDiff, ↓E_X6_exchanges_0, ↓E_X6_exchanges_1, ↓E_X6_exchanges_4, ↓E_X6_exchanges_5, ↓E_X6_exchanges_6, ↓E_X6_exchanges_7, ↓E_X6_exchanges_8, ↓E_X6_exchanges_12, ↓E_X6_exchanges_13, ↓E_X6_exchanges_14, ↓E_X6_exchanges_15, ↓E_X6_exchanges_18, ↓E_X6_exchanges_21, ↓E_X6_exchanges_24, ↓E_X6_exchanges_25, ↓E_X6_exchanges_27, ↓E_X6_exchanges_29, ↓E_X6_exchanges_30, ↓E_X6_exchanges_31, ↓E_X6_exchanges_34, ↓E_X6_exchanges_36, ↓E_X6_exchanges_37, ↓E_X6_exchanges_40, ↓E_X6_exchanges_42, ↓E_X6_exchanges_43, ↓E_X6_exchanges_46, ↓E_X6_exchanges_49, ↓E_X6_exchanges_51, ↓E_X6_exchanges_52, ↓E_X6_exchanges_55, ↓E_X6_exchanges_58, ↓E_X6_exchanges_61, ↓E_X6_exchanges_64, ↓E_X6_exchanges_65, c1']
  exact r
