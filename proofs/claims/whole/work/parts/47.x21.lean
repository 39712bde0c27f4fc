/-! ===== the class: seen, odds ===== -/
def seB (w : Vw) (V' : Nat → Nat → Nat) (i : Nat) : Bool := decide (PB V' 1 w.1.jn (w.1.se.getD i (0, 0)).1 = (w.1.se.getD i (0, 0)).2)
def seA (w : Vw) (V' : Nat → Nat → Nat) : Bool := alN (seB w V') w.1.se.length
set_option maxHeartbeats 4000000 in
theorem l_seen {d md am : Nat} {σ : mx_S} {q : mx_R} {w : Vw} {V' : Nat → Nat → Nat} {O' : Nat → Nat} (hw : vwX w σ) (hV' : okV w.1.jn V') (H : trX w.1.jn md am V' O' σ.1) : ∀ m t, t + m = w.1.se.length → alN (seB w V') t = true → (mx_run (d + 2) m_X6_isAsSeen 2 [some (.ref 0), some (.int (nI t))] [] σ q ↔ q = (some (.int (bz (seA w V'))), σ)) := by
  obtain ⟨H1, ⟨-, R1, R2, R3⟩, H3, H4, H5, H6⟩ := id hw
  have hl := H1.1.2.2.2.2.2.1
  obtain ⟨a0, a1, a2, a3, a4⟩ := H
  have hn := hw.1.1.1
  intro m
  induction m with
  | zero =>
    intro t ht hp
    have e : t = w.1.se.length := by omega
    subst e
    rw [E_X6_isAsSeen_2]
    simp (disch := omega) only [true_and, and_true, and_self, exists_eq_left, Option.toList_some, Option.toList_none, List.cons_append, List.nil_append, List.append_nil, i2_i, i2_r, i2_n, nz0, nz1, true_or, or_true, Nat.reduceAdd, Nat.le_refl, Nat.reduceLT, Nat.reduceLeDiff, ↓E_X6_isAsSeen_0, ↓E_X6_isAsSeen_1, ↓E_X6_isAsSeen_3, ↓E_X6_isAsSeen_4, ↓E_X6_isAsSeen_7, ↓E_X6_isAsSeen_10, ↓E_X6_isAsSeen_13, ↓E_X6_isAsSeen_14, ↓E_X6_isAsSeen_17, ↓E_X6_isAsSeen_18, ↓E_X6_isAsSeen_19, ↓E_X6_isAsSeen_22, ↓E_X6_isAsSeen_25, ↓E_X6_isAsSeen_26, ↓E_X6_isAsSeen_27, ↓E_X6_isAsSeen_30, ↓E_X6_isAsSeen_31, ↓E_X6_isAsSeen_34, ↓E_X6_isAsSeen_37, ↓E_X6_isAsSeen_38, ↓E_X6_isAsSeen_39, ↓E_X6_isAsSeen_42, ↓E_X6_isAsSeen_43, ↓E_X6_isAsSeen_44, ↓E_X6_isAsSeen_47, ↓E_X6_isAsSeen_50, ↓E_X6_isAsSeen_51, kd_1, R1.1, leN, if_true]
    unfold seA
    rw [hp]
    rfl
  | succ m ih =>
    intro t ht hp
    obtain ⟨b1, b2⟩ := R1.2 t (by omega)
    have b1 : σ.1 11 t = nI (w.1.se.getD t (0, 0)).1 := b1
    have b2 : σ.1 12 t = nI (w.1.se.getD t (0, 0)).2 := b2
    obtain ⟨k1, k2⟩ := hl.2 _ (getD_mem (y := (0, 0)) (show t < w.1.se.length by omega))
    have b3 := PB_lt (V := V') (r := 1) k1
    have c2 : ∀ q, mx_call (d + 2) m_X3_placeBy [.ref 37, .int 1, .int (nI (w.1.se.getD t (0, 0)).1)] σ q ↔ q = (some (.int (nI (PB V' 1 w.1.jn (w.1.se.getD t (0, 0)).1))), σ) := fun q => s_placeBy (h := 37) (r := 1) (by omega) hn k1 (by omega) hV' a0 a3
    rw [E_X6_isAsSeen_2]
    simp (disch := omega) only [true_and, and_true, and_self, exists_eq_left, Option.toList_some, Option.toList_none, List.cons_append, List.nil_append, List.append_nil, i2_i, i2_r, i2_n, nz0, nz1, true_or, or_true, Nat.reduceAdd, Nat.le_refl, Nat.reduceLT, Nat.reduceLeDiff, ↓E_X6_isAsSeen_0, ↓E_X6_isAsSeen_1, ↓E_X6_isAsSeen_3, ↓E_X6_isAsSeen_4, ↓E_X6_isAsSeen_7, ↓E_X6_isAsSeen_10, ↓E_X6_isAsSeen_13, ↓E_X6_isAsSeen_14, ↓E_X6_isAsSeen_17, ↓E_X6_isAsSeen_18, ↓E_X6_isAsSeen_19, ↓E_X6_isAsSeen_22, ↓E_X6_isAsSeen_25, ↓E_X6_isAsSeen_26, ↓E_X6_isAsSeen_27, ↓E_X6_isAsSeen_30, ↓E_X6_isAsSeen_31, ↓E_X6_isAsSeen_34, ↓E_X6_isAsSeen_37, ↓E_X6_isAsSeen_38, ↓E_X6_isAsSeen_39, ↓E_X6_isAsSeen_42, ↓E_X6_isAsSeen_43, ↓E_X6_isAsSeen_44, ↓E_X6_isAsSeen_47, ↓E_X6_isAsSeen_50, ↓E_X6_isAsSeen_51, kd_1, kd_3, kd_8, ln_5, R1.1, leN, if_neg (show ¬ w.1.se.length ≤ t by omega), vin, clN, b1, b2, c2, eqN, nI_1]
    by_cases e : PB V' 1 w.1.jn (w.1.se.getD t (0, 0)).1 = (w.1.se.getD t (0, 0)).2
    · first | rw [if_pos e] | rw [if_neg (fun z => z e)]
      exact ih (t + 1) (by omega) (by unfold alN; rw [hp]; unfold seB; rw [decide_eq_true e]; rfl)
    · first | rw [if_neg e] | rw [if_pos e]
      unfold seA
      rw [alN_f (t := t) (b := seB w V') (decide_eq_false e) _ (by omega)]
      rfl
theorem s_seen {d md am : Nat} {σ : mx_S} {q : mx_R} {w : Vw} {V' : Nat → Nat → Nat} {O' : Nat → Nat} (hw : vwX w σ) (hV' : okV w.1.jn V') (H : trX w.1.jn md am V' O' σ.1) : mx_call (d + 3) m_X6_isAsSeen [.ref 0] σ q ↔ q = (some (.int (bz (seA w V'))), σ) := by
  simp (disch := omega) only [C_X6_isAsSeen, true_and, and_true, and_self, exists_eq_left, Option.toList_some, Option.toList_none, List.cons_append, List.nil_append, List.append_nil, i2_i, i2_r, i2_n, nz0, nz1, true_or, or_true, Nat.reduceAdd, Nat.le_refl, Nat.reduceLT, Nat.reduceLeDiff, ↓E_X6_isAsSeen_0, ↓E_X6_isAsSeen_1, ↓E_X6_isAsSeen_3, ↓E_X6_isAsSeen_4, ↓E_X6_isAsSeen_7, ↓E_X6_isAsSeen_10, ↓E_X6_isAsSeen_13, ↓E_X6_isAsSeen_14, ↓E_X6_isAsSeen_17, ↓E_X6_isAsSeen_18, ↓E_X6_isAsSeen_19, ↓E_X6_isAsSeen_22, ↓E_X6_isAsSeen_25, ↓E_X6_isAsSeen_26, ↓E_X6_isAsSeen_27, ↓E_X6_isAsSeen_30, ↓E_X6_isAsSeen_31, ↓E_X6_isAsSeen_34, ↓E_X6_isAsSeen_37, ↓E_X6_isAsSeen_38, ↓E_X6_isAsSeen_39, ↓E_X6_isAsSeen_42, ↓E_X6_isAsSeen_43, ↓E_X6_isAsSeen_44, ↓E_X6_isAsSeen_47, ↓E_X6_isAsSeen_50, ↓E_X6_isAsSeen_51]
  exact l_seen hw hV' H w.1.se.length 0 (by omega) rfl
/-- hours 30, 29, .. by which g: how many, the last of them -/
def ftC (g : Nat → Bool) : Nat → Nat × Int32
  | 0 => (0, -5)
  | m + 1 => if g (30 - m) = true then ((ftC g m).1 + 1, nI (30 - m)) else ftC g m
def ftB (w : Vw) (j a : Nat) : Bool := seA w (upV1 w.1.V j 0 a)
def F_fits (w : Vw) (j x : Int32) : Int32 := if (ibI j w.1.jn && ibI x 2) = false then -1 else if x = 0 then nI (ftC (ftB w (ixI j)) 31).1 else (ftC (ftB w (ixI j)) 31).2
theorem nI_neg {n : Nat} (h : n < 2147483648) : ¬ nI n < (0 : Int32) := by
  rw [lt0, nI_toInt h]
  omega
theorem nI_nonneg {n : Nat} (h : n < 2147483648) : (0 : Int32) ≤ nI n := by
  rw [le0, nI_toInt h]
  omega
set_option maxHeartbeats 4000000 in
theorem l_fits {d : Nat} {w : Vw} {j x : Nat} (σ0 : mx_S) (hw0 : vwX w σ0) (hj : j < w.1.jn) (hx : x ≤ 1) : ∀ k m (σ : mx_S) (V' : Nat → Nat → Nat), m + k = 30 → (∀ a, upV1 V' j 0 a = upV1 w.1.V j 0 a) → scX σ0 σ → trX w.1.jn w.1.md w.1.am V' w.1.O σ.1 →
    ∃ σ', mx_run (d + 3) m_X6_fits 42 [some (.ref 0), some (.int (nI j)), some (.int (nI x)), some (.int (nI (ftC (ftB w j) m).1)), some (.int (ftC (ftB w j) m).2), some (.int (nI (30 - m)))] [] σ (some (.int (if x = 0 then nI (ftC (ftB w j) 31).1 else (ftC (ftB w j) 31).2)), σ') ∧ scX σ0 σ' := by
  have hn := hw0.1.1.1
  have hL := hw0.1.1.2.2.2.1
  have hx0 : (nI x = 0) = (x = 0) := nI_eq0 (by omega)
  have key : ∀ m (σ : mx_S) (V' : Nat → Nat → Nat), m ≤ 30 → (∀ a, upV1 V' j 0 a = upV1 w.1.V j 0 a) → scX σ0 σ → trX w.1.jn w.1.md w.1.am V' w.1.O σ.1 → ∃ σ1, scX σ0 σ1 ∧ trX w.1.jn w.1.md w.1.am (upV1 w.1.V j 0 (30 - m)) w.1.O σ1.1 ∧ ∀ q, (mx_run (d + 3) m_X6_fits 42 [some (.ref 0), some (.int (nI j)), some (.int (nI x)), some (.int (nI (ftC (ftB w j) m).1)), some (.int (ftC (ftB w j) m).2), some (.int (nI (30 - m)))] [] σ q ↔ mx_run (d + 3) m_X6_fits 42 [some (.ref 0), some (.int (nI j)), some (.int (nI x)), some (.int (nI (ftC (ftB w j) (m + 1)).1)), some (.int (ftC (ftB w j) (m + 1)).2), some (.int (nI (30 - m) + -1))] [] σ1 q) := by
    intro m σ V' hm hV sc H
    have H1 := trX_set (k := 0) (a := 30 - m) hj hn H
    rw [hV] at H1
    have sc1 : scX σ0 (mx_u σ.1 (39 + j) 0 (nI (30 - m)), σ.2) := sc.tr (scX.u (by omega) (by omega) (by omega))
    have ca : ∀ q, mx_call (d + 3) m_X6_isAsSeen [.ref 0] (mx_u σ.1 (39 + j) 0 (nI (30 - m)), σ.2) q ↔ q = (some (.int (bz (ftB w j (30 - m)))), _) := fun q => s_seen (sc1.vw hw0) (okV_up (okV_of hL) (by omega)) H1
    refine ⟨_, sc1, H1, fun q => ?_⟩
    have st : ftC (ftB w j) (m + 1) = if ftB w j (30 - m) = true then ((ftC (ftB w j) m).1 + 1, nI (30 - m)) else ftC (ftB w j) m := rfl
    rw [st]
    conv => lhs; rw [E_X6_fits_42]
    by_cases e : ftB w j (30 - m) = true
    · simp (disch := omega) only [true_and, and_true, and_self, exists_eq_left, Option.toList_some, Option.toList_none, List.cons_append, List.nil_append, List.append_nil, i2_i, i2_r, i2_n, nz0, nz1, true_or, or_true, Nat.reduceAdd, Nat.le_refl, Nat.reduceLT, Nat.reduceLeDiff, ↓E_X6_fits_0, ↓E_X6_fits_1, ↓E_X6_fits_4, ↓E_X6_fits_5, ↓E_X6_fits_8, ↓E_X6_fits_11, ↓E_X6_fits_12, ↓E_X6_fits_13, ↓E_X6_fits_16, ↓E_X6_fits_19, ↓E_X6_fits_20, ↓E_X6_fits_21, ↓E_X6_fits_22, ↓E_X6_fits_25, ↓E_X6_fits_26, ↓E_X6_fits_29, ↓E_X6_fits_32, ↓E_X6_fits_33, ↓E_X6_fits_34, ↓E_X6_fits_36, ↓E_X6_fits_38, ↓E_X6_fits_40, ↓E_X6_fits_44, ↓E_X6_fits_47, ↓E_X6_fits_48, ↓E_X6_fits_51, ↓E_X6_fits_54, ↓E_X6_fits_55, ↓E_X6_fits_56, ↓E_X6_fits_57, ↓E_X6_fits_59, ↓E_X6_fits_60, ↓E_X6_fits_61, ↓E_X6_fits_64, ↓E_X6_fits_67, ↓E_X6_fits_70, ↓E_X6_fits_72, ↓E_X6_fits_74, ↓E_X6_fits_77, ↓E_X6_fits_80, ↓E_X6_fits_81, ↓E_X6_fits_84, ↓E_X6_fits_85, ↓E_X6_fits_88, ↓E_X6_fits_90, if_neg (nI_neg (show 30 - m < 2147483648 by omega)), if_pos (nI_nonneg (show 30 - m < 2147483648 by omega)), kd_3, kd_8, kd_12, ln_6, vin, clN, vin_0, cl_0, ptrG, ca, e, bz_0, if_neg (show ¬ true = false by decide), nI_1, if_true]
    · simp (disch := omega) only [true_and, and_true, and_self, exists_eq_left, Option.toList_some, Option.toList_none, List.cons_append, List.nil_append, List.append_nil, i2_i, i2_r, i2_n, nz0, nz1, true_or, or_true, Nat.reduceAdd, Nat.le_refl, Nat.reduceLT, Nat.reduceLeDiff, ↓E_X6_fits_0, ↓E_X6_fits_1, ↓E_X6_fits_4, ↓E_X6_fits_5, ↓E_X6_fits_8, ↓E_X6_fits_11, ↓E_X6_fits_12, ↓E_X6_fits_13, ↓E_X6_fits_16, ↓E_X6_fits_19, ↓E_X6_fits_20, ↓E_X6_fits_21, ↓E_X6_fits_22, ↓E_X6_fits_25, ↓E_X6_fits_26, ↓E_X6_fits_29, ↓E_X6_fits_32, ↓E_X6_fits_33, ↓E_X6_fits_34, ↓E_X6_fits_36, ↓E_X6_fits_38, ↓E_X6_fits_40, ↓E_X6_fits_44, ↓E_X6_fits_47, ↓E_X6_fits_48, ↓E_X6_fits_51, ↓E_X6_fits_54, ↓E_X6_fits_55, ↓E_X6_fits_56, ↓E_X6_fits_57, ↓E_X6_fits_59, ↓E_X6_fits_60, ↓E_X6_fits_61, ↓E_X6_fits_64, ↓E_X6_fits_67, ↓E_X6_fits_70, ↓E_X6_fits_72, ↓E_X6_fits_74, ↓E_X6_fits_77, ↓E_X6_fits_80, ↓E_X6_fits_81, ↓E_X6_fits_84, ↓E_X6_fits_85, ↓E_X6_fits_88, ↓E_X6_fits_90, if_neg (nI_neg (show 30 - m < 2147483648 by omega)), if_pos (nI_nonneg (show 30 - m < 2147483648 by omega)), kd_3, kd_8, kd_12, ln_6, vin, clN, vin_0, cl_0, ptrG, ca, eq_false_of_ne_true e, bz_0, if_neg (show ¬ false = true by decide), nI_1, if_true]
  intro k
  induction k with
  | zero =>
    intro m σ V' hm hV sc H
    obtain ⟨σ1, sc1, H1, r⟩ := key m σ V' (by omega) hV sc H
    refine ⟨σ1, (r _).mpr ?_, sc1⟩
    have e : m = 30 := by omega
    subst e
    have e1 : nI (30 - 30) + -1 = -1 := by decide
    rw [e1, E_X6_fits_42]
    simp (disch := omega) only [true_and, and_true, and_self, exists_eq_left, Option.toList_some, Option.toList_none, List.cons_append, List.nil_append, List.append_nil, i2_i, i2_r, i2_n, nz0, nz1, true_or, or_true, Nat.reduceAdd, Nat.le_refl, Nat.reduceLT, Nat.reduceLeDiff, ↓E_X6_fits_0, ↓E_X6_fits_1, ↓E_X6_fits_4, ↓E_X6_fits_5, ↓E_X6_fits_8, ↓E_X6_fits_11, ↓E_X6_fits_12, ↓E_X6_fits_13, ↓E_X6_fits_16, ↓E_X6_fits_19, ↓E_X6_fits_20, ↓E_X6_fits_21, ↓E_X6_fits_22, ↓E_X6_fits_25, ↓E_X6_fits_26, ↓E_X6_fits_29, ↓E_X6_fits_32, ↓E_X6_fits_33, ↓E_X6_fits_34, ↓E_X6_fits_36, ↓E_X6_fits_38, ↓E_X6_fits_40, ↓E_X6_fits_44, ↓E_X6_fits_47, ↓E_X6_fits_48, ↓E_X6_fits_51, ↓E_X6_fits_54, ↓E_X6_fits_55, ↓E_X6_fits_56, ↓E_X6_fits_57, ↓E_X6_fits_59, ↓E_X6_fits_60, ↓E_X6_fits_61, ↓E_X6_fits_64, ↓E_X6_fits_67, ↓E_X6_fits_70, ↓E_X6_fits_72, ↓E_X6_fits_74, ↓E_X6_fits_77, ↓E_X6_fits_80, ↓E_X6_fits_81, ↓E_X6_fits_84, ↓E_X6_fits_85, ↓E_X6_fits_88, ↓E_X6_fits_90, if_pos (show (-1 : Int32) < 0 by decide), if_neg (show ¬ (0 : Int32) ≤ -1 by decide), hx0, if_true, if_false]
    by_cases e2 : x = 0
    · simp only [if_pos e2]
    · simp only [if_neg e2]
  | succ k ih =>
    intro m σ V' hm hV sc H
    obtain ⟨σ1, sc1, H1, r⟩ := key m σ V' (by omega) hV sc H
    obtain ⟨σ', r2, sc'⟩ := ih (m + 1) σ1 _ (by omega) (fun a => upV1_2) sc1 H1
    refine ⟨σ', (r _).mpr ?_, sc'⟩
    have e1 : nI (30 - m) + -1 = nI (30 - (m + 1)) := by rw [show 30 - m = (30 - (m + 1)) + 1 by omega, pk_m1]
    rw [e1]
    exact r2
set_option maxHeartbeats 4000000 in
theorem X_fits {d : Nat} {σ : mx_S} {w : Vw} {a b : Int32} (hw : vwX w σ) : ∃ σ', mx_call (d + 4) m_X6_fits [.ref 0, .int a, .int b] σ (some (.int (F_fits w a b)), σ') ∧ vwX w σ' ∧ hiS σ σ' := by
  obtain ⟨S1, S2, S3, S4, S5⟩ := vwX_now hw
  have hn := hw.1.1.1
  generalize hF : F_fits w a b = R
  unfold F_fits at hF
  simp (disch := omega) only [C_X6_fits, true_and, and_true, and_self, exists_eq_left, Option.toList_some, Option.toList_none, List.cons_append, List.nil_append, List.append_nil, i2_i, i2_r, i2_n, nz0, nz1, true_or, or_true, Nat.reduceAdd, Nat.le_refl, Nat.reduceLT, Nat.reduceLeDiff, ↓E_X6_fits_0, ↓E_X6_fits_1, ↓E_X6_fits_4, ↓E_X6_fits_5, ↓E_X6_fits_8, ↓E_X6_fits_11, ↓E_X6_fits_12, ↓E_X6_fits_13, ↓E_X6_fits_16, ↓E_X6_fits_19, ↓E_X6_fits_20, ↓E_X6_fits_21, ↓E_X6_fits_22, ↓E_X6_fits_25, ↓E_X6_fits_26, ↓E_X6_fits_29, ↓E_X6_fits_32, ↓E_X6_fits_33, ↓E_X6_fits_34, ↓E_X6_fits_36, ↓E_X6_fits_38, ↓E_X6_fits_40, ↓E_X6_fits_44, ↓E_X6_fits_47, ↓E_X6_fits_48, ↓E_X6_fits_51, ↓E_X6_fits_54, ↓E_X6_fits_55, ↓E_X6_fits_56, ↓E_X6_fits_57, ↓E_X6_fits_59, ↓E_X6_fits_60, ↓E_X6_fits_61, ↓E_X6_fits_64, ↓E_X6_fits_67, ↓E_X6_fits_70, ↓E_X6_fits_72, ↓E_X6_fits_74, ↓E_X6_fits_77, ↓E_X6_fits_80, ↓E_X6_fits_81, ↓E_X6_fits_84, ↓E_X6_fits_85, ↓E_X6_fits_88, ↓E_X6_fits_90, s_hasJob, s_isBelow, bz_0, kd_3, S1, ibx_N, ibx_2]
  by_cases e0 : ibI a w.1.jn = false
  · simp only [if_pos e0, e0, Bool.false_and, if_true] at hF ⊢
    subst hF
    exact ⟨σ, rfl, hw, hiS.rf⟩
  by_cases e1 : ibI b 2 = false
  · simp only [if_neg e0, if_pos e1, e1, Bool.and_false, if_true] at hF ⊢
    subst hF
    exact ⟨σ, rfl, hw, hiS.rf⟩
  have e01 : ¬ (ibI a w.1.jn && ibI b 2) = false := by rw [eq_true_of_ne_false e0, eq_true_of_ne_false e1]; decide
  simp only [if_neg e0, if_neg e1, if_neg e01] at hF ⊢
  obtain ⟨ha, ha2, ha3⟩ := ibI_of (eq_true_of_ne_false e0)
  obtain ⟨hb, hb2, hb3⟩ := ibI_of (eq_true_of_ne_false e1)
  generalize ixI a = j at *
  generalize ixI b = x at *
  subst ha
  subst hb
  obtain ⟨σ1, c1, H1, sc1⟩ := s_trial (d := d + 2) hw
  obtain ⟨σ2, r, sc2⟩ := l_fits (d := d) (j := j) (x := x) σ hw ha2 (by omega) 30 0 σ1 _ rfl (fun _ => rfl) sc1 H1
  have hx0 : (nI x = 0) = (x = 0) := nI_eq0 (by omega)
  simp only [hx0] at hF
  rw [hF] at r
  have r' : mx_run (d + 3) m_X6_fits 42 [some (.ref 0), some (.int (nI j)), some (.int (nI x)), some (.int 0), some (.int (-5)), some (.int 30)] [] σ1 (some (.int R), σ2) := r
  simp (disch := omega) only [c1]
  simp (disch := omega) only [true_and, and_true, and_self, exists_eq_left, Option.toList_some, Option.toList_none, List.cons_append, List.nil_append, List.append_nil, i2_i, i2_r, i2_n, nz0, nz1, true_or, or_true, Nat.reduceAdd, Nat.le_refl, Nat.reduceLT, Nat.reduceLeDiff, ↓E_X6_fits_0, ↓E_X6_fits_1, ↓E_X6_fits_4, ↓E_X6_fits_5, ↓E_X6_fits_8, ↓E_X6_fits_11, ↓E_X6_fits_12, ↓E_X6_fits_13, ↓E_X6_fits_16, ↓E_X6_fits_19, ↓E_X6_fits_20, ↓E_X6_fits_21, ↓E_X6_fits_22, ↓E_X6_fits_25, ↓E_X6_fits_26, ↓E_X6_fits_29, ↓E_X6_fits_32, ↓E_X6_fits_33, ↓E_X6_fits_34, ↓E_X6_fits_36, ↓E_X6_fits_38, ↓E_X6_fits_40, ↓E_X6_fits_44, ↓E_X6_fits_47, ↓E_X6_fits_48, ↓E_X6_fits_51, ↓E_X6_fits_54, ↓E_X6_fits_55, ↓E_X6_fits_56, ↓E_X6_fits_57, ↓E_X6_fits_59, ↓E_X6_fits_60, ↓E_X6_fits_61, ↓E_X6_fits_64, ↓E_X6_fits_67, ↓E_X6_fits_70, ↓E_X6_fits_72, ↓E_X6_fits_74, ↓E_X6_fits_77, ↓E_X6_fits_80, ↓E_X6_fits_81, ↓E_X6_fits_84, ↓E_X6_fits_85, ↓E_X6_fits_88, ↓E_X6_fits_90]
  exact ⟨σ2, r', sc2.vw hw, sc2.hi⟩
/-- were its A so, it is the first -/
def odB (w : Vw) (j a : Nat) : Bool := decide (ofL (bst (cst (upV1 w.1.V j 0 a) w.1.md w.1.am) w.1.jn).2 0 = j)
def F_odds (w : Vw) (j x : Int32) : Int64 := if (ibI j w.1.jn && ibI x 2) = false then NO else (nI (frc (cnt (odB w (ixI j)) 10) 10 (ixI x))).toInt64
theorem s_find37 {d md am : Nat} {σ : mx_S} {w : Vw} {V' : Nat → Nat → Nat} {md0 am0 : Nat} {O' : Nat → Nat} (hw : vwX w σ) (hj : w.1.jn ≠ 0) (hmd : md ≤ 2) (ham : am ≤ 2) (hV' : okV w.1.jn V') (H : trX w.1.jn md0 am0 V' O' σ.1) : ∃ σ', (∀ q, mx_call (d + 9) m_X2_find [.ref 48, .ref 37, .int (nI md), .int (nI am)] σ q ↔ q = (none, σ')) ∧ σ'.1 48 4 = iN (bst (cst V' md am) w.1.jn).1 ∧ (∀ p, p < w.1.jn → σ'.1 51 p = nI (ofL (bst (cst V' md am) w.1.jn).2 p)) ∧ (∀ i, (i < 48 ∨ i = 52 ∨ 60 ≤ i) → σ'.1 i = σ.1 i) ∧ σ'.2 = σ.2 :=
  s_find (h := 37) (Or.inr rfl) hw.1.1.1 (by omega) hmd ham hV' H.1 H.2.2.2.1 hw.2.2.2.2.2
theorem ofL_bst {n : Nat} {V : Nat → Nat → Nat} {md am : Nat} (hn : n ≤ 6) (h0 : 0 < n) (hV : okV n V) (p : Nat) : ofL (bst (cst V md am) n).2 p < n := by
  obtain ⟨M, e1, e2, e3⟩ := cps_pre n [] _ (bst_ok (md := md) (am := am) hn h0 hV).1
  rw [List.nil_append] at e1
  exact ofL_lt h0 (by rw [e1]; exact e3) p
set_option maxHeartbeats 4000000 in
theorem l_odds {d : Nat} {w : Vw} {j : Nat} {x : Int32} (σ0 : mx_S) (hw0 : vwX w σ0) (hj : j < w.1.jn) : ∀ m t (σ : mx_S) (V' : Nat → Nat → Nat), t + m = 10 → (∀ a, upV1 V' j 0 a = upV1 w.1.V j 0 a) → scX σ0 σ → trX w.1.jn w.1.md w.1.am V' w.1.O σ.1 →
    ∃ σ' : mx_S, (∀ q, mx_run (d + 9) m_X6_odds 39 [some (.ref 0), some (.int (nI j)), some (.int x), some (.int (nI (cnt (odB w j) t))), some (.int (nI t))] [] σ q ↔ mx_run (d + 9) m_X6_odds 106 [some (.ref 0), some (.int (nI j)), some (.int x), some (.int (nI (cnt (odB w j) 10))), some (.int (nI 10))] [] σ' q) ∧ scX σ0 σ' := by
  have hn := hw0.1.1.1
  have hL := hw0.1.1.2.2.2.1
  intro m
  induction m with
  | zero =>
    intro t σ V' ht hV sc H
    have e : t = 10 := by omega
    subst e
    refine ⟨σ, fun q => ?_, sc⟩
    rw [E_X6_odds_39]
    simp (disch := omega) only [true_and, and_true, and_self, exists_eq_left, Option.toList_some, Option.toList_none, List.cons_append, List.nil_append, List.append_nil, i2_i, i2_r, i2_n, nz0, nz1, true_or, or_true, Nat.reduceAdd, Nat.le_refl, Nat.reduceLT, Nat.reduceLeDiff, ↓E_X6_odds_0, ↓E_X6_odds_1, ↓E_X6_odds_4, ↓E_X6_odds_5, ↓E_X6_odds_8, ↓E_X6_odds_11, ↓E_X6_odds_12, ↓E_X6_odds_13, ↓E_X6_odds_16, ↓E_X6_odds_19, ↓E_X6_odds_22, ↓E_X6_odds_23, ↓E_X6_odds_24, ↓E_X6_odds_27, ↓E_X6_odds_28, ↓E_X6_odds_31, ↓E_X6_odds_34, ↓E_X6_odds_35, ↓E_X6_odds_36, ↓E_X6_odds_37, ↓E_X6_odds_41, ↓E_X6_odds_43, ↓E_X6_odds_46, ↓E_X6_odds_47, ↓E_X6_odds_50, ↓E_X6_odds_53, ↓E_X6_odds_54, ↓E_X6_odds_55, ↓E_X6_odds_56, ↓E_X6_odds_58, ↓E_X6_odds_59, ↓E_X6_odds_60, ↓E_X6_odds_63, ↓E_X6_odds_64, ↓E_X6_odds_67, ↓E_X6_odds_68, ↓E_X6_odds_71, ↓E_X6_odds_74, ↓E_X6_odds_75, ↓E_X6_odds_78, ↓E_X6_odds_81, ↓E_X6_odds_84, ↓E_X6_odds_85, ↓E_X6_odds_88, ↓E_X6_odds_91, ↓E_X6_odds_92, ↓E_X6_odds_93, ↓E_X6_odds_94, ↓E_X6_odds_97, ↓E_X6_odds_100, ↓E_X6_odds_103, ↓E_X6_odds_107, ↓E_X6_odds_109, ↓E_X6_odds_110, ↓E_X6_odds_113, if_pos (show (10 : Int32) ≤ nI 10 by decide), if_true]
  | succ m ih =>
    intro t σ V' ht hV sc H
    have hw := sc.vw hw0
    have H1 := trX_set (k := 0) (a := t) hj hn H
    rw [hV] at H1
    have sc1 : scX σ0 (mx_u σ.1 (39 + j) 0 (nI t), σ.2) := sc.tr (scX.u (by omega) (by omega) (by omega))
    have hw1 := sc1.vw hw0
    obtain ⟨S1, S2, S3, S4, S5⟩ := vwX_now hw1
    obtain ⟨σ2, c2, -, r2, f2, g2⟩ := s_find37 (d := d) hw1 (by omega) hw0.1.1.2.1 hw0.1.1.2.2.1 (okV_up (okV_of hL) (show t ≤ 99 by omega)) H1
    have sc2 : scX σ0 σ2 := sc1.tr ⟨fun i hi => f2 i (by omega), g2⟩
    have H2 := trX_agr hn (fun i _ _ => f2 i (by omega)) H1
    obtain ⟨σ', r, sc'⟩ := ih (t + 1) σ2 _ (by omega) (fun a => upV1_2) sc2 H2
    refine ⟨σ', fun q => ?_, sc'⟩
    rw [← r q]
    have l10 : ¬ (10 : Int32) ≤ nI t := fun z => absurd ((nI_leI (a := 10) (b := t) (by omega) (by omega)).mp z) (by omega)
    have st : cnt (odB w j) (t + 1) = cnt (odB w j) t + (if odB w j t = true then 1 else 0) := rfl
    have b0 := ofL_bst (md := w.1.md) (am := w.1.am) hn (show 0 < w.1.jn by omega) (okV_up (okV_of hL) (show t ≤ 99 by omega) : okV w.1.jn (upV1 w.1.V j 0 t)) 0
    have r20 := r2 0 (by omega)
    have S2' : mx_u σ.1 (39 + j) 0 (nI t) 1 1 = nI w.1.md := S2
    have S3' : mx_u σ.1 (39 + j) 0 (nI t) 1 2 = nI w.1.am := S3
    rw [st, E_X6_odds_39]
    simp (disch := omega) only [true_and, and_true, and_self, exists_eq_left, Option.toList_some, Option.toList_none, List.cons_append, List.nil_append, List.append_nil, i2_i, i2_r, i2_n, nz0, nz1, true_or, or_true, Nat.reduceAdd, Nat.le_refl, Nat.reduceLT, Nat.reduceLeDiff, ↓E_X6_odds_0, ↓E_X6_odds_1, ↓E_X6_odds_4, ↓E_X6_odds_5, ↓E_X6_odds_8, ↓E_X6_odds_11, ↓E_X6_odds_12, ↓E_X6_odds_13, ↓E_X6_odds_16, ↓E_X6_odds_19, ↓E_X6_odds_22, ↓E_X6_odds_23, ↓E_X6_odds_24, ↓E_X6_odds_27, ↓E_X6_odds_28, ↓E_X6_odds_31, ↓E_X6_odds_34, ↓E_X6_odds_35, ↓E_X6_odds_36, ↓E_X6_odds_37, ↓E_X6_odds_41, ↓E_X6_odds_43, ↓E_X6_odds_46, ↓E_X6_odds_47, ↓E_X6_odds_50, ↓E_X6_odds_53, ↓E_X6_odds_54, ↓E_X6_odds_55, ↓E_X6_odds_56, ↓E_X6_odds_58, ↓E_X6_odds_59, ↓E_X6_odds_60, ↓E_X6_odds_63, ↓E_X6_odds_64, ↓E_X6_odds_67, ↓E_X6_odds_68, ↓E_X6_odds_71, ↓E_X6_odds_74, ↓E_X6_odds_75, ↓E_X6_odds_78, ↓E_X6_odds_81, ↓E_X6_odds_84, ↓E_X6_odds_85, ↓E_X6_odds_88, ↓E_X6_odds_91, ↓E_X6_odds_92, ↓E_X6_odds_93, ↓E_X6_odds_94, ↓E_X6_odds_97, ↓E_X6_odds_100, ↓E_X6_odds_103, ↓E_X6_odds_107, ↓E_X6_odds_109, ↓E_X6_odds_110, ↓E_X6_odds_113, if_neg l10, kd_2, kd_3, kd_8, kd_12, ln_6, vin, clN, vin_0, cl_0, ptrG, S2', S3', c2, r20, eqN, nI_1]
    by_cases e : ofL (bst (cst (upV1 w.1.V j 0 t) w.1.md w.1.am) w.1.jn).2 0 = j
    · have eB : odB w j t = true := decide_eq_true e
      simp only [eB, if_pos e, if_true]
    · have eB : odB w j t = false := decide_eq_false e
      simp only [eB, if_neg e, if_neg (show ¬ false = true by decide)]
      rfl
set_option maxHeartbeats 4000000 in
theorem X_odds {d : Nat} {σ : mx_S} {w : Vw} {a b : Int32} (hw : vwX w σ) : ∃ σ', mx_call (d + 10) m_X6_odds [.ref 0, .int a, .int b] σ (some (.long (F_odds w a b)), σ') ∧ vwX w σ' ∧ hiS σ σ' := by
  obtain ⟨S1, S2, S3, S4, S5⟩ := vwX_now hw
  have hn := hw.1.1.1
  generalize hF : F_odds w a b = R
  unfold F_odds NO at hF
  simp (disch := omega) only [C_X6_odds, true_and, and_true, and_self, exists_eq_left, Option.toList_some, Option.toList_none, List.cons_append, List.nil_append, List.append_nil, i2_i, i2_r, i2_n, nz0, nz1, true_or, or_true, Nat.reduceAdd, Nat.le_refl, Nat.reduceLT, Nat.reduceLeDiff, ↓E_X6_odds_0, ↓E_X6_odds_1, ↓E_X6_odds_4, ↓E_X6_odds_5, ↓E_X6_odds_8, ↓E_X6_odds_11, ↓E_X6_odds_12, ↓E_X6_odds_13, ↓E_X6_odds_16, ↓E_X6_odds_19, ↓E_X6_odds_22, ↓E_X6_odds_23, ↓E_X6_odds_24, ↓E_X6_odds_27, ↓E_X6_odds_28, ↓E_X6_odds_31, ↓E_X6_odds_34, ↓E_X6_odds_35, ↓E_X6_odds_36, ↓E_X6_odds_37, ↓E_X6_odds_41, ↓E_X6_odds_43, ↓E_X6_odds_46, ↓E_X6_odds_47, ↓E_X6_odds_50, ↓E_X6_odds_53, ↓E_X6_odds_54, ↓E_X6_odds_55, ↓E_X6_odds_56, ↓E_X6_odds_58, ↓E_X6_odds_59, ↓E_X6_odds_60, ↓E_X6_odds_63, ↓E_X6_odds_64, ↓E_X6_odds_67, ↓E_X6_odds_68, ↓E_X6_odds_71, ↓E_X6_odds_74, ↓E_X6_odds_75, ↓E_X6_odds_78, ↓E_X6_odds_81, ↓E_X6_odds_84, ↓E_X6_odds_85, ↓E_X6_odds_88, ↓E_X6_odds_91, ↓E_X6_odds_92, ↓E_X6_odds_93, ↓E_X6_odds_94, ↓E_X6_odds_97, ↓E_X6_odds_100, ↓E_X6_odds_103, ↓E_X6_odds_106, ↓E_X6_odds_107, ↓E_X6_odds_109, ↓E_X6_odds_110, ↓E_X6_odds_113, s_hasJob, s_isBelow, bz_0, kd_3, S1, ibx_N, ibx_2]
  by_cases e0 : ibI a w.1.jn = false
  · simp only [if_pos e0, e0, Bool.false_and, if_true] at hF ⊢
    subst hF
    exact ⟨σ, rfl, hw, hiS.rf⟩
  by_cases e1 : ibI b 2 = false
  · simp only [if_neg e0, if_pos e1, e1, Bool.and_false, if_true] at hF ⊢
    subst hF
    exact ⟨σ, rfl, hw, hiS.rf⟩
  have e01 : ¬ (ibI a w.1.jn && ibI b 2) = false := by rw [eq_true_of_ne_false e0, eq_true_of_ne_false e1]; decide
  simp only [if_neg e0, if_neg e1, if_neg e01] at hF ⊢
  obtain ⟨ha, ha2, ha3⟩ := ibI_of (eq_true_of_ne_false e0)
  obtain ⟨hb, hb2, hb3⟩ := ibI_of (eq_true_of_ne_false e1)
  generalize ixI a = j at *
  generalize ixI b = x at *
  subst ha
  subst hb
  obtain ⟨σ1, c1, H1, sc1⟩ := s_trial (d := d + 8) hw
  obtain ⟨σ2, r, sc2⟩ := l_odds (d := d) (j := j) (x := nI x) σ hw ha2 10 0 σ1 _ rfl (fun _ => rfl) sc1 H1
  have hc := cnt_le (odB w j) 10
  have fr : ∀ q, mx_call (d + 9) m_X6_partOfFraction [.int (nI (cnt (odB w j) 10)), .int 10, .int (nI x)] σ2 q ↔ q = (some (.long (nI (frc (cnt (odB w j) 10) 10 x)).toInt64), σ2) := fun q => s_frac (b := 10) (by omega) (by omega) (by omega) (by omega)
  simp (disch := omega) only [c1]
  simp (disch := omega) only [true_and, and_true, and_self, exists_eq_left, Option.toList_some, Option.toList_none, List.cons_append, List.nil_append, List.append_nil, i2_i, i2_r, i2_n, nz0, nz1, true_or, or_true, Nat.reduceAdd, Nat.le_refl, Nat.reduceLT, Nat.reduceLeDiff, ↓E_X6_odds_0, ↓E_X6_odds_1, ↓E_X6_odds_4, ↓E_X6_odds_5, ↓E_X6_odds_8, ↓E_X6_odds_11, ↓E_X6_odds_12, ↓E_X6_odds_13, ↓E_X6_odds_16, ↓E_X6_odds_19, ↓E_X6_odds_22, ↓E_X6_odds_23, ↓E_X6_odds_24, ↓E_X6_odds_27, ↓E_X6_odds_28, ↓E_X6_odds_31, ↓E_X6_odds_34, ↓E_X6_odds_35, ↓E_X6_odds_36, ↓E_X6_odds_37, ↓E_X6_odds_41, ↓E_X6_odds_43, ↓E_X6_odds_46, ↓E_X6_odds_47, ↓E_X6_odds_50, ↓E_X6_odds_53, ↓E_X6_odds_54, ↓E_X6_odds_55, ↓E_X6_odds_56, ↓E_X6_odds_58, ↓E_X6_odds_59, ↓E_X6_odds_60, ↓E_X6_odds_63, ↓E_X6_odds_64, ↓E_X6_odds_67, ↓E_X6_odds_68, ↓E_X6_odds_71, ↓E_X6_odds_74, ↓E_X6_odds_75, ↓E_X6_odds_78, ↓E_X6_odds_81, ↓E_X6_odds_84, ↓E_X6_odds_85, ↓E_X6_odds_88, ↓E_X6_odds_91, ↓E_X6_odds_92, ↓E_X6_odds_93, ↓E_X6_odds_94, ↓E_X6_odds_97, ↓E_X6_odds_100, ↓E_X6_odds_103, ↓E_X6_odds_106, ↓E_X6_odds_107, ↓E_X6_odds_109, ↓E_X6_odds_110, ↓E_X6_odds_113]
  refine ⟨σ2, (r _).mpr ?_, sc2.vw hw, sc2.hi⟩
  simp (disch := omega) only [true_and, and_true, and_self, exists_eq_left, Option.toList_some, Option.toList_none, List.cons_append, List.nil_append, List.append_nil, i2_i, i2_r, i2_n, nz0, nz1, true_or, or_true, Nat.reduceAdd, Nat.le_refl, Nat.reduceLT, Nat.reduceLeDiff, ↓E_X6_odds_0, ↓E_X6_odds_1, ↓E_X6_odds_4, ↓E_X6_odds_5, ↓E_X6_odds_8, ↓E_X6_odds_11, ↓E_X6_odds_12, ↓E_X6_odds_13, ↓E_X6_odds_16, ↓E_X6_odds_19, ↓E_X6_odds_22, ↓E_X6_odds_23, ↓E_X6_odds_24, ↓E_X6_odds_27, ↓E_X6_odds_28, ↓E_X6_odds_31, ↓E_X6_odds_34, ↓E_X6_odds_35, ↓E_X6_odds_36, ↓E_X6_odds_37, ↓E_X6_odds_41, ↓E_X6_odds_43, ↓E_X6_odds_46, ↓E_X6_odds_47, ↓E_X6_odds_50, ↓E_X6_odds_53, ↓E_X6_odds_54, ↓E_X6_odds_55, ↓E_X6_odds_56, ↓E_X6_odds_58, ↓E_X6_odds_59, ↓E_X6_odds_60, ↓E_X6_odds_63, ↓E_X6_odds_64, ↓E_X6_odds_67, ↓E_X6_odds_68, ↓E_X6_odds_71, ↓E_X6_odds_74, ↓E_X6_odds_75, ↓E_X6_odds_78, ↓E_X6_odds_81, ↓E_X6_odds_84, ↓E_X6_odds_85, ↓E_X6_odds_88, ↓E_X6_odds_91, ↓E_X6_odds_92, ↓E_X6_odds_93, ↓E_X6_odds_94, ↓E_X6_odds_97, ↓E_X6_odds_100, ↓E_X6_odds_103, ↓E_X6_odds_106, ↓E_X6_odds_107, ↓E_X6_odds_109, ↓E_X6_odds_110, ↓E_X6_odds_113, fr]
  subst hF
  rfl
