/-! ===== the class: the search, least, best ===== -/
set_option maxHeartbeats 4000000 in
theorem s_extend {d h n md am : Nat} {V : Nat → Nat → Nat} (hs : h = 1 ∨ h = 37) (hn : n ≤ 6) (h0 : 0 < n) (hmd : md ≤ 2) (ham : am ≤ 2) (hV : okV n V) : ∀ m (L : List Nat) (s : Int × List Nat) (σ : mx_S), L.length + m = n → (∀ x ∈ L, x < n) → (-2147483648 ≤ s.1 ∧ s.1 ≤ 2147483647) → (m = 0 → cst V md am L < s.1) → σ.1 h 0 = nI n → (∀ j k, j < n → k < 6 → σ.1 (h + 2 + j) k = nI (V j k)) → srX md am s L σ.1 → halX V md (ofL L) (53 + L.length) L.length σ.1 →
    ∃ σ', mx_call (d + m + 2) m_X2_extend [.ref 48, .ref h, .int (nI L.length)] σ (none, σ') ∧ srX md am ((cps n m L).foldl (upB (cst V md am)) s) L σ'.1 ∧ frX (53 + L.length) σ σ' := by
  intro m
  induction m with
  | zero =>
    intro L s σ hl hL bs hc a0 aR aS aH
    obtain ⟨S4, S5, S6, S1, S0, S2⟩ := aS
    have e : L.length = n := by omega
    have eu : (cps n 0 L).foldl (upB (cst V md am)) s = (cst V md am L, L) := if_pos (hc rfl)
    rw [eu]
    have c3 : ∀ q, mx_call (d + 0 + 1) m_X0_costBy [.ref (53 + L.length), .int (nI am)] σ q ↔ q = (some (.int (iN (cst V md am L))), σ) := fun q => s_costBy (by omega) ham aH
    refine ⟨(mx_c (mx_u σ.1 48 4 (iN (cst V md am L))) 51 (va_cpy (mx_u σ.1 48 4 (iN (cst V md am L)) 50) (mx_u σ.1 48 4 (iN (cst V md am L)) 51) 0 0 6), σ.2), ?_, ⟨?_, ?_, ?_, fun p hp => ?_, fun p hp => ?_, fun j hj => ?_⟩, fun i hi => ?_, rfl⟩
    · simp (disch := first | omega | (refine kd_8 ?_; omega)) only [C_X2_extend, true_and, and_true, and_self, exists_eq_left, Option.toList_some, Option.toList_none, List.cons_append, List.nil_append, List.append_nil, i2_i, i2_r, i2_n, nz0, nz1, true_or, or_true, Nat.reduceAdd, Nat.le_refl, Nat.reduceLT, Nat.reduceLeDiff, ↓E_X2_extend_0, ↓E_X2_extend_1, ↓E_X2_extend_2, ↓E_X2_extend_5, ↓E_X2_extend_8, ↓E_X2_extend_9, ↓E_X2_extend_11, ↓E_X2_extend_14, ↓E_X2_extend_15, ↓E_X2_extend_16, ↓E_X2_extend_19, ↓E_X2_extend_20, ↓E_X2_extend_21, ↓E_X2_extend_22, ↓E_X2_extend_25, ↓E_X2_extend_28, ↓E_X2_extend_31, ↓E_X2_extend_32, ↓E_X2_extend_35, ↓E_X2_extend_36, ↓E_X2_extend_37, ↓E_X2_extend_40, ↓E_X2_extend_41, ↓E_X2_extend_43, ↓E_X2_extend_46, ↓E_X2_extend_48, ↓E_X2_extend_51, ↓E_X2_extend_52, ↓E_X2_extend_53, ↓E_X2_extend_54, ↓E_X2_extend_55, ↓E_X2_extend_56, ↓E_X2_extend_57, ↓E_X2_extend_59, ↓E_X2_extend_61, ↓E_X2_extend_62, ↓E_X2_extend_65, ↓E_X2_extend_68, ↓E_X2_extend_69, ↓E_X2_extend_72, ↓E_X2_extend_74, ↓E_X2_extend_75, ↓E_X2_extend_78, ↓E_X2_extend_79, ↓E_X2_extend_80, ↓E_X2_extend_83, ↓E_X2_extend_84, ↓E_X2_extend_85, ↓E_X2_extend_88, ↓E_X2_extend_89, ↓E_X2_extend_90, ↓E_X2_extend_93, ↓E_X2_extend_95, ↓E_X2_extend_96, ↓E_X2_extend_97, ↓E_X2_extend_100, ↓E_X2_extend_103, ↓E_X2_extend_104, ↓E_X2_extend_105, ↓E_X2_extend_108, ↓E_X2_extend_111, ↓E_X2_extend_112, ↓E_X2_extend_115, ↓E_X2_extend_118, ↓E_X2_extend_119, ↓E_X2_extend_122, ↓E_X2_extend_124, ↓E_X2_extend_125, ↓E_X2_extend_126, ↓E_X2_extend_127, ↓E_X2_extend_130, ↓E_X2_extend_131, ↓E_X2_extend_133, ↓E_X2_extend_134, ↓E_X2_extend_135, ↓E_X2_extend_136, ↓E_X2_extend_137, ↓E_X2_extend_138, ↓E_X2_extend_139, ↓E_X2_extend_142, ↓E_X2_extend_143, ↓E_X2_extend_146, ↓E_X2_extend_148, ↓E_X2_extend_149, ↓E_X2_extend_150, ↓E_X2_extend_153, ↓E_X2_extend_156, kd_2, kd_3, a0, leN, if_pos (show n ≤ L.length by omega), kd_13, ln_7, vin, clN, or_true, true_or, ptrB, kd_0, S6, c3, cp6, cl_0, cl_6]
    · simp (disch := omega) only [cc_row, uu_same]
    · simp (disch := omega) only [cc_row, uu_col]; exact S5
    · simp (disch := omega) only [cc_row, uu_col]; exact S6
    · simp only [cc_same]
      rw [cpy6 (by show p < 6; have : p < L.length := hp; omega)]
      simp (disch := omega) only [uu_row]
      exact S0 p hp
    · simp (disch := omega) only [cc_row, uu_row]; exact S0 p hp
    · simp (disch := omega) only [cc_row, uu_row]; exact S2 j hj
    · show mx_c _ _ _ i = _
      rw [mx_c_ne (by omega), mx_u_ne (by omega)]
  | succ m ih =>
    intro L s σ hl hL bs hc a0 aR aS aH
    obtain ⟨σ', r, g⟩ := l_extend (d := d) hs hn hmd ham hV hl hL s bs (fun L s σ h1 h2 h3 h4 => ih L s σ h1 h2 h3 (fun _ => h4)) n 0 σ (by omega) a0 aR aS aH
    refine ⟨σ', ?_, g⟩
    have e6 : nI L.length < (6 : Int32) := nI_lt (b := 6) (by omega) (by omega)
    simp (disch := omega) only [C_X2_extend, true_and, and_true, and_self, exists_eq_left, Option.toList_some, Option.toList_none, List.cons_append, List.nil_append, List.append_nil, i2_i, i2_r, i2_n, nz0, nz1, true_or, or_true, Nat.reduceAdd, Nat.le_refl, Nat.reduceLT, Nat.reduceLeDiff, ↓E_X2_extend_0, ↓E_X2_extend_1, ↓E_X2_extend_2, ↓E_X2_extend_5, ↓E_X2_extend_8, ↓E_X2_extend_9, ↓E_X2_extend_11, ↓E_X2_extend_15, ↓E_X2_extend_16, ↓E_X2_extend_19, ↓E_X2_extend_20, ↓E_X2_extend_21, ↓E_X2_extend_22, ↓E_X2_extend_25, ↓E_X2_extend_28, ↓E_X2_extend_31, ↓E_X2_extend_32, ↓E_X2_extend_35, ↓E_X2_extend_36, ↓E_X2_extend_37, ↓E_X2_extend_40, ↓E_X2_extend_41, ↓E_X2_extend_43, ↓E_X2_extend_46, ↓E_X2_extend_47, ↓E_X2_extend_48, ↓E_X2_extend_51, ↓E_X2_extend_52, ↓E_X2_extend_53, ↓E_X2_extend_54, ↓E_X2_extend_55, ↓E_X2_extend_56, ↓E_X2_extend_57, ↓E_X2_extend_61, ↓E_X2_extend_62, ↓E_X2_extend_65, ↓E_X2_extend_68, ↓E_X2_extend_69, ↓E_X2_extend_72, ↓E_X2_extend_74, ↓E_X2_extend_75, ↓E_X2_extend_78, ↓E_X2_extend_79, ↓E_X2_extend_80, ↓E_X2_extend_83, ↓E_X2_extend_84, ↓E_X2_extend_85, ↓E_X2_extend_88, ↓E_X2_extend_89, ↓E_X2_extend_90, ↓E_X2_extend_93, ↓E_X2_extend_95, ↓E_X2_extend_96, ↓E_X2_extend_97, ↓E_X2_extend_100, ↓E_X2_extend_103, ↓E_X2_extend_104, ↓E_X2_extend_105, ↓E_X2_extend_108, ↓E_X2_extend_111, ↓E_X2_extend_112, ↓E_X2_extend_115, ↓E_X2_extend_118, ↓E_X2_extend_119, ↓E_X2_extend_122, ↓E_X2_extend_124, ↓E_X2_extend_125, ↓E_X2_extend_126, ↓E_X2_extend_127, ↓E_X2_extend_130, ↓E_X2_extend_131, ↓E_X2_extend_133, ↓E_X2_extend_134, ↓E_X2_extend_135, ↓E_X2_extend_136, ↓E_X2_extend_137, ↓E_X2_extend_138, ↓E_X2_extend_139, ↓E_X2_extend_142, ↓E_X2_extend_143, ↓E_X2_extend_146, ↓E_X2_extend_148, ↓E_X2_extend_149, ↓E_X2_extend_150, ↓E_X2_extend_153, ↓E_X2_extend_156, kd_2, kd_3, a0, leN, if_neg (show ¬ n ≤ L.length by omega), if_pos e6, nI_1, kd_13, ln_7, vin, clN, or_true, true_or, ptrB]
    exact r
theorem s_openB {d : Nat} {σ : mx_S} (V : Nat → Nat → Nat) (md : Nat) (O : Nat → Nat) : ∃ σ', (∀ q, mx_call (d + 1) m_X0_open [.ref 53] σ q ↔ q = (none, σ')) ∧ halX V md O 53 0 σ'.1 ∧ (∀ i, i ≠ 53 → σ'.1 i = σ.1 i) ∧ σ'.2 = σ.2 := by
  obtain ⟨σ', c, g⟩ := s_open (d := d) (σ := σ) (h := 53) (by omega) V md O
  exact ⟨σ', mx_one c, g⟩
set_option maxHeartbeats 4000000 in
theorem s_find {d h n md am : Nat} {σ : mx_S} {V : Nat → Nat → Nat} (hs : h = 1 ∨ h = 37) (hn : n ≤ 6) (h0 : 0 < n) (hmd : md ≤ 2) (ham : am ≤ 2) (hV : okV n V) (a0 : σ.1 h 0 = nI n) (aR : ∀ j k, j < n → k < 6 → σ.1 (h + 2 + j) k = nI (V j k)) (u0 : ∀ j, j < 6 → σ.1 52 j = 0) :
    ∃ σ', (∀ q, mx_call (d + 9) m_X2_find [.ref 48, .ref h, .int (nI md), .int (nI am)] σ q ↔ q = (none, σ')) ∧ σ'.1 48 4 = iN (bst (cst V md am) n).1 ∧ (∀ p, p < n → σ'.1 51 p = nI (ofL (bst (cst V md am) n).2 p)) ∧ (∀ i, (i < 48 ∨ i = 52 ∨ 60 ≤ i) → σ'.1 i = σ.1 i) ∧ σ'.2 = σ.2 := by
  obtain ⟨σ1, c1, H1, f1, g1⟩ := s_openB (d := d + 7) (σ := (mx_u (mx_u (mx_u σ.1 48 5 (nI md)) 48 6 (nI am)) 48 4 1000000, σ.2)) V md (ofL [])
  have aS : srX md am (1000000, []) [] σ1.1 := by
    refine ⟨?_, ?_, ?_, fun p hp => by simp at hp, fun p hp => by simp at hp, fun j hj => ?_⟩
    · rw [f1 48 (by omega)]; simp (disch := omega) only [uu_same]; rfl
    · rw [f1 48 (by omega)]; simp (disch := omega) only [uu_same, uu_col]
    · rw [f1 48 (by omega)]; simp (disch := omega) only [uu_same, uu_col]
    · rw [f1 52 (by omega)]; simp (disch := omega) only [uu_row]; exact u0 j hj
  obtain ⟨σ2, c2, ⟨S4, -, -, S1, -, -⟩, fr, g2⟩ := s_extend (d := d + 6 - n) hs hn h0 hmd ham hV n [] (1000000, []) σ1 (by simp) (fun x hx => by simp at hx) ⟨by decide, by decide⟩ (fun z => by omega) (by rw [f1 h (by omega)]; simp (disch := omega) only [uu_row]; exact a0) (fun j k hj hk => by rw [f1 _ (by omega)]; simp (disch := omega) only [uu_row]; exact aR j k hj hk) aS H1
  rw [show d + 6 - n + n + 2 = d + 8 by omega] at c2
  obtain ⟨M, e1, e2, -⟩ := cps_pre n [] _ (bst_ok (md := md) (am := am) hn h0 hV).1
  have el : (bst (cst V md am) n).2.length = n := by rw [e1]; simpa using e2
  refine ⟨σ2, fun q => ?_, S4, fun p hp => S1 p (by show p < (bst (cst V md am) n).2.length; rw [el]; exact hp), fun i hi => ?_, ?_⟩
  · have c2' : ∀ q, mx_call (d + 8) m_X2_extend [.ref 48, .ref h, .int 0] σ1 q ↔ q = (none, σ2) := mx_one c2
    simp (disch := omega) only [C_X2_find, true_and, and_true, and_self, exists_eq_left, Option.toList_some, Option.toList_none, List.cons_append, List.nil_append, List.append_nil, i2_i, i2_r, i2_n, nz0, nz1, true_or, or_true, Nat.reduceAdd, Nat.le_refl, Nat.reduceLT, Nat.reduceLeDiff, ↓E_X2_find_0, ↓E_X2_find_1, ↓E_X2_find_2, ↓E_X2_find_5, ↓E_X2_find_6, ↓E_X2_find_7, ↓E_X2_find_10, ↓E_X2_find_11, ↓E_X2_find_13, ↓E_X2_find_16, ↓E_X2_find_17, ↓E_X2_find_20, ↓E_X2_find_21, ↓E_X2_find_22, ↓E_X2_find_25, ↓E_X2_find_26, ↓E_X2_find_27, ↓E_X2_find_28, ↓E_X2_find_31, kd_2, kd_0, kd_13, ln_7, vin_0, cl_0, or_true, true_or, ptrB, Nat.add_zero, c1, c2']
  · rw [fr i (by have : ([] : List Nat).length = 0 := rfl; omega)]
    by_cases e : i = 53
    · omega
    · rw [f1 i e]
      show mx_u _ _ _ _ i = _
      rw [mx_u_ne (by omega), mx_u_ne (by omega), mx_u_ne (by omega)]
  · rw [g2, g1]
def bs1 (w : Vw) (md am : Nat) : Int × List Nat := bst (cst w.1.V md am) w.1.jn
theorem s_find1 {d md am : Nat} {σ : mx_S} {w : Vw} (hw : vwX w σ) (hj : w.1.jn ≠ 0) (hmd : md ≤ 2) (ham : am ≤ 2) : ∃ σ', (∀ q, mx_call (d + 9) m_X2_find [.ref 48, .ref 1, .int (nI md), .int (nI am)] σ q ↔ q = (none, σ')) ∧ σ'.1 48 4 = iN (bs1 w md am).1 ∧ (∀ p, p < w.1.jn → σ'.1 51 p = nI (ofL (bs1 w md am).2 p)) ∧ scX σ σ' := by
  obtain ⟨S1, S2, S3, S4, S5⟩ := vwX_now hw
  obtain ⟨σ', c, e1, e2, f, g⟩ := s_find (d := d) (σ := σ) (h := 1) (n := w.1.jn) (V := w.1.V) (Or.inl rfl) hw.1.1.1 (by omega) hmd ham (okV_of hw.1.1.2.2.2.1) S1 S4 hw.2.2.2.2.2
  exact ⟨σ', c, e1, e2, fun i hi => f i (by omega), g⟩
def F_least (w : Vw) (m a : Int32) : Int64 := if (ibI m 3 && ibI a 3) = false ∨ w.1.jn = 0 then NO else (iN (bs1 w (ixI m) (ixI a)).1).toInt64
def F_best (w : Vw) (m a p : Int32) : Int32 := if (ibI m 3 && ibI a 3) = false then -2 else if ibI p w.1.jn = false then -1 else nI (ofL (bs1 w (ixI m) (ixI a)).2 (ixI p))
theorem goal_of {m a : Int32} (h : ¬ (ibI m 3 && ibI a 3) = false) : m = nI (ixI m) ∧ a = nI (ixI a) ∧ ixI m ≤ 2 ∧ ixI a ≤ 2 := by
  have h := eq_true_of_ne_false h
  rw [Bool.and_eq_true] at h
  obtain ⟨x1, x2, x3⟩ := ibI_of h.1
  obtain ⟨y1, y2, y3⟩ := ibI_of h.2
  exact ⟨x1, y1, by omega, by omega⟩
set_option maxHeartbeats 4000000 in
theorem X_least {d : Nat} {σ : mx_S} {w : Vw} {m a : Int32} (hw : vwX w σ) : ∃ σ', mx_call (d + 10) m_X6_least [.ref 0, .int m, .int a] σ (some (.long (F_least w m a)), σ') ∧ vwX w σ' ∧ hiS σ σ' := by
  obtain ⟨S1, S2, S3, S4, S5⟩ := vwX_now hw
  have hn := hw.1.1.1
  generalize hF : F_least w m a = R
  unfold F_least NO at hF
  simp (disch := omega) only [C_X6_least, true_and, and_true, and_self, exists_eq_left, Option.toList_some, Option.toList_none, List.cons_append, List.nil_append, List.append_nil, i2_i, i2_r, i2_n, nz0, nz1, true_or, or_true, Nat.reduceAdd, Nat.le_refl, Nat.reduceLT, Nat.reduceLeDiff, ↓E_X6_least_0, ↓E_X6_least_1, ↓E_X6_least_2, ↓E_X6_least_5, ↓E_X6_least_8, ↓E_X6_least_9, ↓E_X6_least_12, ↓E_X6_least_15, ↓E_X6_least_18, ↓E_X6_least_21, ↓E_X6_least_22, ↓E_X6_least_23, ↓E_X6_least_26, ↓E_X6_least_27, ↓E_X6_least_30, ↓E_X6_least_31, ↓E_X6_least_32, ↓E_X6_least_36, ↓E_X6_least_39, ↓E_X6_least_42, ↓E_X6_least_43, s_isGoal, bz_0, kd_3, S1, nI_eq0 hn]
  by_cases e0 : (ibI m 3 && ibI a 3) = false
  · rw [if_pos (Or.inl e0)] at hF
    simp only [if_pos e0]
    subst hF
    exact ⟨σ, rfl, hw, hiS.rf⟩
  simp only [if_neg e0]
  by_cases e1 : w.1.jn = 0
  · rw [if_pos (Or.inr e1)] at hF
    simp only [if_pos e1]
    subst hF
    exact ⟨σ, rfl, hw, hiS.rf⟩
  simp only [if_neg e1]
  rw [if_neg (fun z => z.elim e0 e1)] at hF
  obtain ⟨hm, ha, hm2, ha2⟩ := goal_of e0
  generalize ixI m = md at *
  generalize ixI a = am at *
  subst hm
  subst ha
  obtain ⟨σ1, c1, r1, -, sc⟩ := s_find1 (d := d) hw e1 hm2 ha2
  simp (disch := omega) only [true_and, and_true, and_self, exists_eq_left, Option.toList_some, Option.toList_none, List.cons_append, List.nil_append, List.append_nil, i2_i, i2_r, i2_n, nz0, nz1, true_or, or_true, Nat.reduceAdd, Nat.le_refl, Nat.reduceLT, Nat.reduceLeDiff, ↓E_X6_least_0, ↓E_X6_least_1, ↓E_X6_least_2, ↓E_X6_least_5, ↓E_X6_least_8, ↓E_X6_least_9, ↓E_X6_least_12, ↓E_X6_least_15, ↓E_X6_least_18, ↓E_X6_least_21, ↓E_X6_least_22, ↓E_X6_least_23, ↓E_X6_least_26, ↓E_X6_least_27, ↓E_X6_least_30, ↓E_X6_least_31, ↓E_X6_least_32, ↓E_X6_least_35, ↓E_X6_least_36, ↓E_X6_least_39, ↓E_X6_least_42, ↓E_X6_least_43, c1, kd_2, r1]
  subst hF
  exact ⟨σ1, rfl, sc.vw hw, sc.hi⟩
set_option maxHeartbeats 4000000 in
theorem X_best {d : Nat} {σ : mx_S} {w : Vw} {m a p : Int32} (hw : vwX w σ) : ∃ σ', mx_call (d + 10) m_X6_best [.ref 0, .int m, .int a, .int p] σ (some (.int (F_best w m a p)), σ') ∧ vwX w σ' ∧ hiS σ σ' := by
  obtain ⟨S1, S2, S3, S4, S5⟩ := vwX_now hw
  have hn := hw.1.1.1
  generalize hF : F_best w m a p = R
  unfold F_best at hF
  simp (disch := omega) only [C_X6_best, true_and, and_true, and_self, exists_eq_left, Option.toList_some, Option.toList_none, List.cons_append, List.nil_append, List.append_nil, i2_i, i2_r, i2_n, nz0, nz1, true_or, or_true, Nat.reduceAdd, Nat.le_refl, Nat.reduceLT, Nat.reduceLeDiff, ↓E_X6_best_0, ↓E_X6_best_1, ↓E_X6_best_2, ↓E_X6_best_5, ↓E_X6_best_8, ↓E_X6_best_10, ↓E_X6_best_11, ↓E_X6_best_12, ↓E_X6_best_13, ↓E_X6_best_16, ↓E_X6_best_19, ↓E_X6_best_22, ↓E_X6_best_25, ↓E_X6_best_26, ↓E_X6_best_27, ↓E_X6_best_28, ↓E_X6_best_31, ↓E_X6_best_32, ↓E_X6_best_35, ↓E_X6_best_36, ↓E_X6_best_37, ↓E_X6_best_40, ↓E_X6_best_41, ↓E_X6_best_44, ↓E_X6_best_47, ↓E_X6_best_48, ↓E_X6_best_49, s_isGoal, s_isBelow, bz_0, kd_3, S1, ibx_N]
  by_cases e0 : (ibI m 3 && ibI a 3) = false
  · simp only [if_pos e0] at hF ⊢
    subst hF
    exact ⟨σ, rfl, hw, hiS.rf⟩
  simp only [if_neg e0] at hF ⊢
  by_cases e1 : ibI p w.1.jn = false
  · simp only [if_pos e1] at hF ⊢
    subst hF
    exact ⟨σ, rfl, hw, hiS.rf⟩
  simp only [if_neg e1] at hF ⊢
  obtain ⟨hm, ha, hm2, ha2⟩ := goal_of e0
  obtain ⟨hp, hp2, hp3⟩ := ibI_of (eq_true_of_ne_false e1)
  generalize ixI m = md at *
  generalize ixI a = am at *
  generalize ixI p = k at *
  subst hm
  subst ha
  subst hp
  obtain ⟨σ1, c1, -, r1, sc⟩ := s_find1 (d := d) hw (by omega) hm2 ha2
  simp (disch := omega) only [true_and, and_true, and_self, exists_eq_left, Option.toList_some, Option.toList_none, List.cons_append, List.nil_append, List.append_nil, i2_i, i2_r, i2_n, nz0, nz1, true_or, or_true, Nat.reduceAdd, Nat.le_refl, Nat.reduceLT, Nat.reduceLeDiff, ↓E_X6_best_0, ↓E_X6_best_1, ↓E_X6_best_2, ↓E_X6_best_5, ↓E_X6_best_8, ↓E_X6_best_10, ↓E_X6_best_11, ↓E_X6_best_12, ↓E_X6_best_13, ↓E_X6_best_16, ↓E_X6_best_19, ↓E_X6_best_22, ↓E_X6_best_25, ↓E_X6_best_26, ↓E_X6_best_27, ↓E_X6_best_28, ↓E_X6_best_31, ↓E_X6_best_32, ↓E_X6_best_35, ↓E_X6_best_36, ↓E_X6_best_37, ↓E_X6_best_40, ↓E_X6_best_41, ↓E_X6_best_44, ↓E_X6_best_47, ↓E_X6_best_48, ↓E_X6_best_49, c1, kd_2, kd_8, ln_6, vin, clN, r1]
  subst hF
  exact ⟨σ1, rfl, sc.vw hw, sc.hi⟩
