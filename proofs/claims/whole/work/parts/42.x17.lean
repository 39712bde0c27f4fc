/-! ===== fractions ===== -/
def eu : Nat → Nat → Nat → Nat
  | 0, a, _ => a
  | n + 1, a, b => if b = 0 then a else eu n b (a % b)
theorem eu_pos : ∀ n a b, 0 < a → 0 < eu n a b
  | 0, a, b, h => h
  | n + 1, a, b, h => by
    unfold eu
    by_cases e : b = 0
    · rw [if_pos e]; exact h
    · rw [if_neg e]; exact eu_pos n b (a % b) (by omega)
theorem eu_0 : ∀ n a, eu n a 0 = a
  | 0, a => rfl
  | n + 1, a => rfl
theorem eu_gcd : ∀ k n a b, b < 2 ^ k → 2 * k ≤ n → eu n a b = Nat.gcd a b := by
  intro k
  induction k with
  | zero =>
    intro n a b hb _
    have : b = 0 := by omega
    subst this
    rw [eu_0, Nat.gcd_zero_right]
  | succ k ih =>
    intro n a b hb hn
    obtain ⟨m, rfl⟩ : ∃ m, n = m + 2 := ⟨n - 2, by omega⟩
    by_cases e : b = 0
    · subst e; rw [eu_0, Nat.gcd_zero_right]
    · have h1 : eu (m + 2) a b = eu (m + 1) b (a % b) := by show (if b = 0 then a else eu (m + 1) b (a % b)) = _; rw [if_neg e]
      have g1 : Nat.gcd a b = Nat.gcd b (a % b) := by rw [Nat.gcd_comm a b, Nat.gcd_rec b a, Nat.gcd_comm]
      rw [h1, g1]
      by_cases e2 : a % b = 0
      · rw [e2, eu_0, Nat.gcd_zero_right]
      · have h2 : eu (m + 1) b (a % b) = eu m (a % b) (b % (a % b)) := by show (if a % b = 0 then b else eu m (a % b) (b % (a % b))) = _; rw [if_neg e2]
        have g2 : Nat.gcd b (a % b) = Nat.gcd (a % b) (b % (a % b)) := by rw [Nat.gcd_comm b (a % b), Nat.gcd_rec (a % b) b, Nat.gcd_comm]
        rw [h2, g2]
        have l1 : a % b < b := Nat.mod_lt a (by omega)
        have l2 : b % (a % b) < a % b := Nat.mod_lt b (by omega)
        have l3 : b % (a % b) + a % b ≤ b := by
          have := Nat.div_add_mod b (a % b)
          have h4 : 1 ≤ b / (a % b) := (Nat.one_le_div_iff (by omega)).mpr (by omega)
          have h5 : a % b * 1 ≤ a % b * (b / (a % b)) := Nat.mul_le_mul_left _ h4
          omega
        refine ih m _ _ ?_ (by omega)
        rw [Nat.pow_succ] at hb
        omega
/-- above or below the line, in lowest terms -/
def frc (a b x : Nat) : Nat := (if x = 0 then a else b) / Nat.gcd b a
set_option maxHeartbeats 4000000 in
theorem l_frac {d : Nat} {σ : mx_S} {q : mx_R} {a b x : Nat} (ha : a < 65536) (hb : b < 65536) (hx : x ≤ 1) : ∀ m t dv rs (lx : Option Value), t + m = 64 → 0 < dv → dv < 65536 → rs < 65536 → (mx_run d m_X6_partOfFraction 8 [some (.int (nI a)), some (.int (nI b)), some (.int (nI x)), some (.int (nI dv)), some (.int (nI rs)), some (.int (nI t)), lx] [] σ q ↔ q = (some (.long (nI ((if x = 0 then a else b) / eu m dv rs)).toInt64), σ)) := by
  have hx0 : (nI x = 0) = (x = 0) := nI_eq0 (by omega)
  have ed : ∀ (dv rs t : Nat) (lx : Option Value), 0 < dv → dv < 65536 → (mx_run d m_X6_partOfFraction 39 [some (.int (nI a)), some (.int (nI b)), some (.int (nI x)), some (.int (nI dv)), some (.int (nI rs)), some (.int (nI t)), lx] [] σ q ↔ q = (some (.long (nI ((if x = 0 then a else b) / dv)).toInt64), σ)) := by
    intro dv rs t lx h1 h2
    have hd0 : (nI dv = 0) = (dv = 0) := eqN (b := 0) (by omega) (by omega)
    simp (disch := omega) only [true_and, and_true, and_self, exists_eq_left, Option.toList_some, Option.toList_none, List.cons_append, List.nil_append, List.append_nil, i2_i, i2_r, i2_n, nz0, nz1, true_or, or_true, Nat.reduceAdd, Nat.le_refl, Nat.reduceLT, Nat.reduceLeDiff, ↓E_X6_partOfFraction_0, ↓E_X6_partOfFraction_1, ↓E_X6_partOfFraction_2, ↓E_X6_partOfFraction_3, ↓E_X6_partOfFraction_5, ↓E_X6_partOfFraction_6, ↓E_X6_partOfFraction_10, ↓E_X6_partOfFraction_12, ↓E_X6_partOfFraction_15, ↓E_X6_partOfFraction_17, ↓E_X6_partOfFraction_20, ↓E_X6_partOfFraction_21, ↓E_X6_partOfFraction_23, ↓E_X6_partOfFraction_24, ↓E_X6_partOfFraction_26, ↓E_X6_partOfFraction_28, ↓E_X6_partOfFraction_29, ↓E_X6_partOfFraction_31, ↓E_X6_partOfFraction_33, ↓E_X6_partOfFraction_36, ↓E_X6_partOfFraction_39, ↓E_X6_partOfFraction_40, ↓E_X6_partOfFraction_43, ↓E_X6_partOfFraction_46, ↓E_X6_partOfFraction_47, ↓E_X6_partOfFraction_48, ↓E_X6_partOfFraction_51, ↓E_X6_partOfFraction_52, ↓E_X6_partOfFraction_55, ↓E_X6_partOfFraction_56, ↓E_X6_partOfFraction_57, ↓E_X6_partOfFraction_58, ↓E_X6_partOfFraction_59, hd0, hx0]
    rw [if_neg (by omega)]
    by_cases e : x = 0
    · simp only [if_pos e, pk_div (show a < 2 ^ 31 by omega) h1 (show dv < 2 ^ 31 by omega), and_iff_right (show ¬ dv = 0 by omega)]
    · simp only [if_neg e, pk_div (show b < 2 ^ 31 by omega) h1 (show dv < 2 ^ 31 by omega), and_iff_right (show ¬ dv = 0 by omega)]
  intro m
  induction m with
  | zero =>
    intro t dv rs lx ht h1 h2 h3
    have e : t = 64 := by omega
    subst e
    rw [E_X6_partOfFraction_8]
    simp (disch := omega) only [true_and, and_true, and_self, exists_eq_left, Option.toList_some, Option.toList_none, List.cons_append, List.nil_append, List.append_nil, i2_i, i2_r, i2_n, nz0, nz1, true_or, or_true, Nat.reduceAdd, Nat.le_refl, Nat.reduceLT, Nat.reduceLeDiff, ↓E_X6_partOfFraction_0, ↓E_X6_partOfFraction_1, ↓E_X6_partOfFraction_2, ↓E_X6_partOfFraction_3, ↓E_X6_partOfFraction_5, ↓E_X6_partOfFraction_6, ↓E_X6_partOfFraction_10, ↓E_X6_partOfFraction_12, ↓E_X6_partOfFraction_15, ↓E_X6_partOfFraction_17, ↓E_X6_partOfFraction_20, ↓E_X6_partOfFraction_21, ↓E_X6_partOfFraction_23, ↓E_X6_partOfFraction_24, ↓E_X6_partOfFraction_26, ↓E_X6_partOfFraction_28, ↓E_X6_partOfFraction_29, ↓E_X6_partOfFraction_31, ↓E_X6_partOfFraction_33, ↓E_X6_partOfFraction_36, ↓E_X6_partOfFraction_40, ↓E_X6_partOfFraction_43, ↓E_X6_partOfFraction_46, ↓E_X6_partOfFraction_47, ↓E_X6_partOfFraction_48, ↓E_X6_partOfFraction_51, ↓E_X6_partOfFraction_52, ↓E_X6_partOfFraction_55, ↓E_X6_partOfFraction_56, ↓E_X6_partOfFraction_57, ↓E_X6_partOfFraction_58, ↓E_X6_partOfFraction_59, if_pos (show (64 : Int32) ≤ nI 64 by decide)]
    exact ed dv rs 64 lx h1 h2
  | succ m ih =>
    intro t dv rs lx ht h1 h2 h3
    have h64 : ¬ (64 : Int32) ≤ nI t := fun z => absurd ((nI_leI (a := 64) (b := t) (by omega) (by omega)).mp z) (by omega)
    have hr0 : (nI rs = 0) = (rs = 0) := eqN (b := 0) (by omega) (by omega)
    rw [E_X6_partOfFraction_8]
    unfold eu
    by_cases e : rs = 0
    · simp (disch := omega) only [true_and, and_true, and_self, exists_eq_left, Option.toList_some, Option.toList_none, List.cons_append, List.nil_append, List.append_nil, i2_i, i2_r, i2_n, nz0, nz1, true_or, or_true, Nat.reduceAdd, Nat.le_refl, Nat.reduceLT, Nat.reduceLeDiff, ↓E_X6_partOfFraction_0, ↓E_X6_partOfFraction_1, ↓E_X6_partOfFraction_2, ↓E_X6_partOfFraction_3, ↓E_X6_partOfFraction_5, ↓E_X6_partOfFraction_6, ↓E_X6_partOfFraction_10, ↓E_X6_partOfFraction_12, ↓E_X6_partOfFraction_15, ↓E_X6_partOfFraction_17, ↓E_X6_partOfFraction_20, ↓E_X6_partOfFraction_21, ↓E_X6_partOfFraction_23, ↓E_X6_partOfFraction_24, ↓E_X6_partOfFraction_26, ↓E_X6_partOfFraction_28, ↓E_X6_partOfFraction_29, ↓E_X6_partOfFraction_31, ↓E_X6_partOfFraction_33, ↓E_X6_partOfFraction_36, ↓E_X6_partOfFraction_40, ↓E_X6_partOfFraction_43, ↓E_X6_partOfFraction_46, ↓E_X6_partOfFraction_47, ↓E_X6_partOfFraction_48, ↓E_X6_partOfFraction_51, ↓E_X6_partOfFraction_52, ↓E_X6_partOfFraction_55, ↓E_X6_partOfFraction_56, ↓E_X6_partOfFraction_57, ↓E_X6_partOfFraction_58, ↓E_X6_partOfFraction_59, if_neg h64, hr0, if_pos e]
      exact ed dv rs t lx h1 h2
    · have hm : dv % rs < rs := Nat.mod_lt dv (by omega)
      simp (disch := omega) only [true_and, and_true, and_self, exists_eq_left, Option.toList_some, Option.toList_none, List.cons_append, List.nil_append, List.append_nil, i2_i, i2_r, i2_n, nz0, nz1, true_or, or_true, Nat.reduceAdd, Nat.le_refl, Nat.reduceLT, Nat.reduceLeDiff, ↓E_X6_partOfFraction_0, ↓E_X6_partOfFraction_1, ↓E_X6_partOfFraction_2, ↓E_X6_partOfFraction_3, ↓E_X6_partOfFraction_5, ↓E_X6_partOfFraction_6, ↓E_X6_partOfFraction_10, ↓E_X6_partOfFraction_12, ↓E_X6_partOfFraction_15, ↓E_X6_partOfFraction_17, ↓E_X6_partOfFraction_20, ↓E_X6_partOfFraction_21, ↓E_X6_partOfFraction_23, ↓E_X6_partOfFraction_24, ↓E_X6_partOfFraction_26, ↓E_X6_partOfFraction_28, ↓E_X6_partOfFraction_29, ↓E_X6_partOfFraction_31, ↓E_X6_partOfFraction_33, ↓E_X6_partOfFraction_36, ↓E_X6_partOfFraction_40, ↓E_X6_partOfFraction_43, ↓E_X6_partOfFraction_46, ↓E_X6_partOfFraction_47, ↓E_X6_partOfFraction_48, ↓E_X6_partOfFraction_51, ↓E_X6_partOfFraction_52, ↓E_X6_partOfFraction_55, ↓E_X6_partOfFraction_56, ↓E_X6_partOfFraction_57, ↓E_X6_partOfFraction_58, ↓E_X6_partOfFraction_59, if_neg h64, hr0, if_neg e, pk_rem (show dv < 2 ^ 31 by omega) (show 0 < rs by omega) (show rs < 2 ^ 31 by omega), nI_1, and_iff_right (show ¬ rs = 0 from e)]
      exact ih (t + 1) rs (dv % rs) _ (by omega) (by omega) h3 (by omega)
theorem s_frac {d : Nat} {σ : mx_S} {q : mx_R} {a b x : Nat} (ha : a < 65536) (hb : b < 65536) (hb0 : 0 < b) (hx : x ≤ 1) : mx_call (d + 1) m_X6_partOfFraction [.int (nI a), .int (nI b), .int (nI x)] σ q ↔ q = (some (.long (nI (frc a b x)).toInt64), σ) := by
  simp (disch := omega) only [C_X6_partOfFraction, true_and, and_true, and_self, exists_eq_left, Option.toList_some, Option.toList_none, List.cons_append, List.nil_append, List.append_nil, i2_i, i2_r, i2_n, nz0, nz1, true_or, or_true, Nat.reduceAdd, Nat.le_refl, Nat.reduceLT, Nat.reduceLeDiff, ↓E_X6_partOfFraction_0, ↓E_X6_partOfFraction_1, ↓E_X6_partOfFraction_2, ↓E_X6_partOfFraction_3, ↓E_X6_partOfFraction_5, ↓E_X6_partOfFraction_6, ↓E_X6_partOfFraction_10, ↓E_X6_partOfFraction_12, ↓E_X6_partOfFraction_15, ↓E_X6_partOfFraction_17, ↓E_X6_partOfFraction_20, ↓E_X6_partOfFraction_21, ↓E_X6_partOfFraction_23, ↓E_X6_partOfFraction_24, ↓E_X6_partOfFraction_26, ↓E_X6_partOfFraction_28, ↓E_X6_partOfFraction_29, ↓E_X6_partOfFraction_31, ↓E_X6_partOfFraction_33, ↓E_X6_partOfFraction_36, ↓E_X6_partOfFraction_39, ↓E_X6_partOfFraction_40, ↓E_X6_partOfFraction_43, ↓E_X6_partOfFraction_46, ↓E_X6_partOfFraction_47, ↓E_X6_partOfFraction_48, ↓E_X6_partOfFraction_51, ↓E_X6_partOfFraction_52, ↓E_X6_partOfFraction_55, ↓E_X6_partOfFraction_56, ↓E_X6_partOfFraction_57, ↓E_X6_partOfFraction_58, ↓E_X6_partOfFraction_59]
  have e := l_frac (d := d) (σ := σ) (q := q) ha hb hx 64 0 b a none (by omega) hb0 hb ha
  rw [eu_gcd 16 64 b a (by omega) (by omega)] at e
  exact e
def F_mean (w : Vw) (x : Int32) : Int64 := if w.1.jn = 0 ∨ ibI x 2 = false then NO else (nI (frc (FL w.1.V w.1.md w.1.O w.1.jn) w.1.jn (ixI x))).toInt64
set_option maxHeartbeats 4000000 in
theorem X_mean {d : Nat} {σ : mx_S} {w : Vw} {a : Int32} (hw : vwX w σ) : ∃ σ', mx_call (d + 3) m_X6_mean [.ref 0, .int a] σ (some (.long (F_mean w a)), σ') ∧ vwX w σ' ∧ hiS σ σ' := by
  obtain ⟨S1, S2, S3, S4, S5⟩ := vwX_now hw
  have ok := hw.1.1
  have hn := ok.1
  generalize hF : F_mean w a = R
  unfold F_mean NO at hF
  simp (disch := omega) only [C_X6_mean, true_and, and_true, and_self, exists_eq_left, Option.toList_some, Option.toList_none, List.cons_append, List.nil_append, List.append_nil, i2_i, i2_r, i2_n, nz0, nz1, true_or, or_true, Nat.reduceAdd, Nat.le_refl, Nat.reduceLT, Nat.reduceLeDiff, ↓E_X6_mean_0, ↓E_X6_mean_1, ↓E_X6_mean_4, ↓E_X6_mean_7, ↓E_X6_mean_10, ↓E_X6_mean_11, ↓E_X6_mean_12, ↓E_X6_mean_15, ↓E_X6_mean_18, ↓E_X6_mean_21, ↓E_X6_mean_22, ↓E_X6_mean_23, ↓E_X6_mean_24, ↓E_X6_mean_27, ↓E_X6_mean_28, ↓E_X6_mean_31, ↓E_X6_mean_34, ↓E_X6_mean_35, ↓E_X6_mean_38, ↓E_X6_mean_41, ↓E_X6_mean_42, ↓E_X6_mean_45, ↓E_X6_mean_46, ↓E_X6_mean_49, ↓E_X6_mean_52, ↓E_X6_mean_53, ↓E_X6_mean_56, s_isBelow, bz_0, ibx_2, kd_3, S1, S2, nI_eq0 hn]
  by_cases e0 : w.1.jn = 0
  · rw [if_pos (Or.inl e0)] at hF
    simp only [if_pos e0]
    subst hF
    exact ⟨σ, rfl, hw, hiS.rf⟩
  simp only [if_neg e0]
  by_cases e1 : ibI a 2 = false
  · rw [if_pos (Or.inr e1)] at hF
    simp only [if_pos e1]
    subst hF
    exact ⟨σ, rfl, hw, hiS.rf⟩
  rw [if_neg (fun z => z.elim e0 e1)] at hF
  simp only [if_neg e1]
  obtain ⟨ha, ha2, ha3⟩ := ibI_of (eq_true_of_ne_false e1)
  generalize ixI a = x at *
  subst ha
  obtain ⟨σ1, c1, f1, f2⟩ := s_cost1 (d := d) (a := 9) (md := w.1.md) (am := 1) (O := w.1.O) hw (Or.inl rfl) ok.2.1 (by omega) ok.2.2.2.2.1.1 S5
  have sc := sc47 f1 f2
  have fl := FL_le (md := w.1.md) hn (okV_of ok.2.2.2.1) ok.2.2.2.2.1.1 w.1.jn (Nat.le_refl _)
  have c1' : ∀ q, mx_call (d + 2) m_X6_costOf [.ref 0, .ref 1, .ref 9, .int (nI w.1.md), .int 1] σ q ↔ q = (some (.int (nI (FL w.1.V w.1.md w.1.O w.1.jn))), σ1) := mx_one c1
  have S1' : σ1.1 1 0 = nI w.1.jn := by rw [f1 1 (by omega)]; exact S1
  simp (disch := omega) only [c1', true_and, and_true, and_self, exists_eq_left, Option.toList_some, Option.toList_none, List.cons_append, List.nil_append, List.append_nil, i2_i, i2_r, i2_n, nz0, nz1, true_or, or_true, Nat.reduceAdd, Nat.le_refl, Nat.reduceLT, Nat.reduceLeDiff, ↓E_X6_mean_0, ↓E_X6_mean_1, ↓E_X6_mean_4, ↓E_X6_mean_7, ↓E_X6_mean_10, ↓E_X6_mean_11, ↓E_X6_mean_12, ↓E_X6_mean_15, ↓E_X6_mean_18, ↓E_X6_mean_21, ↓E_X6_mean_22, ↓E_X6_mean_23, ↓E_X6_mean_24, ↓E_X6_mean_27, ↓E_X6_mean_28, ↓E_X6_mean_31, ↓E_X6_mean_34, ↓E_X6_mean_35, ↓E_X6_mean_38, ↓E_X6_mean_41, ↓E_X6_mean_42, ↓E_X6_mean_45, ↓E_X6_mean_46, ↓E_X6_mean_49, ↓E_X6_mean_52, ↓E_X6_mean_53, ↓E_X6_mean_56, kd_3, S1', s_frac]
  subst hF
  exact ⟨σ1, rfl, sc.vw hw, sc.hi⟩
