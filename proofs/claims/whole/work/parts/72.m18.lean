/-! ===== the reference: the best of all orders ===== -/
theorem ofL_map {n p : Nat} {O : Nat → Nat} (hp : p < n) : ofL ((List.range n).map O) p = O p := by
  unfold ofL
  rw [List.getD_eq_getElem?_getD, List.getElem?_map, List.getElem?_range hp]
  rfl
theorem nxt_n {n : Nat} {L : List Nat} (h : nxL n L = none) : nxt (ofL L) n = none := by
  unfold nxL at h
  exact Option.map_eq_none_iff.mp h
theorem nxt_s {n : Nat} {L b : List Nat} (h : nxL n L = some b) : ∃ O, nxt (ofL L) n = some O ∧ ∀ p, p < n → ofL b p = O p := by
  unfold nxL at h
  obtain ⟨O, h1, h2⟩ := Option.map_eq_some_iff.mp h
  exact ⟨O, h1, fun p hp => by rw [← h2]; exact ofL_map hp⟩
def frB (σ σ' : mx_S) : Prop := (∀ i, i ≠ 99 → i ≠ 101 → i ≠ 102 → σ'.1 i = σ.1 i) ∧ σ'.2 = σ.2
theorem frB.M {σ σ' : mx_S} (h : frB σ σ') : scM σ σ' := ⟨fun i hi => h.1 i (by omega) (by omega) (by omega), fun k hk => by rw [h.1 88 (by omega) (by omega) (by omega)], fun i _ => by rw [h.2]⟩
set_option maxHeartbeats 4000000 in
theorem l_finds {d n md am : Nat} {V : Nat → Nat → Nat} {σ0 : mx_S} (hn : n ≤ 6) (h0 : 0 < n) (hmd : md ≤ 2) (ham : am ≤ 2) (hV : okV n V) (hj : σ0.1 88 0 = nI n) (hR : ∀ j k, j < n → k < 6 → σ0.1 89 (6 * j + k) = nI (V j k)) : ∀ (r : List (List Nat)) (a : List Nat) (σ : mx_S) (s : Int × List Nat) (l4 : Option Value), chk n (a :: r) = true → (∀ L ∈ a :: r, okO n (ofL L) ∧ L.length = n ∧ ∀ x ∈ L, x < n) → (-2147483648 ≤ s.1 ∧ s.1 ≤ 20000) → (∀ p, p < n → σ.1 101 p = nI (ofL a p)) → (∀ p, p < n → σ.1 102 p = nI (ofL s.2 p)) → frB σ0 σ →
    ∃ σ', (∀ q, mx_run (d + 3) m_X7_finds 45 [some (.ref 88), some (.int (nI md)), some (.int (nI am)), some (.int (iN s.1)), l4] [] σ q ↔ q = (some (.int (iN (r.foldl (upB (cst V md am)) s).1)), σ')) ∧ (∀ p, p < n → σ'.1 102 p = nI (ofL (r.foldl (upB (cst V md am)) s).2 p)) ∧ frB σ0 σ' := by
  intro r
  induction r with
  | nil =>
    intro a σ s l4 hc ho bs h1 h2 fr
    have hj' : σ.1 88 0 = nI n := by rw [fr.1 88 (by omega) (by omega) (by omega)]; exact hj
    unfold chk at hc
    rw [Bool.and_eq_true] at hc
    have hx := nxt_n (of_decide_eq_true hc.1)
    obtain ⟨oa, -, -⟩ := ho a (List.mem_cons_self ..)
    rcases m_turns (d := d + 1) hn h0 hj' oa.1 h1 with ⟨-, c⟩ | ⟨O', σ', e, -⟩
    · refine ⟨σ, fun q => ?_, h2, fr⟩
      rw [E_X7_finds_45]
      simp (disch := omega) only [true_and, and_true, and_self, exists_eq_left, Option.toList_some, Option.toList_none, List.cons_append, List.nil_append, List.append_nil, i2_i, i2_r, i2_n, nz0, nz1, true_or, or_true, Nat.reduceAdd, Nat.le_refl, Nat.reduceLT, Nat.reduceLeDiff, ↓E_X7_finds_0, ↓E_X7_finds_1, ↓E_X7_finds_2, ↓E_X7_finds_3, ↓E_X7_finds_4, ↓E_X7_finds_7, ↓E_X7_finds_10, ↓E_X7_finds_11, ↓E_X7_finds_14, ↓E_X7_finds_15, ↓E_X7_finds_16, ↓E_X7_finds_17, ↓E_X7_finds_20, ↓E_X7_finds_23, ↓E_X7_finds_24, ↓E_X7_finds_25, ↓E_X7_finds_28, ↓E_X7_finds_29, ↓E_X7_finds_30, ↓E_X7_finds_33, ↓E_X7_finds_34, ↓E_X7_finds_35, ↓E_X7_finds_38, ↓E_X7_finds_39, ↓E_X7_finds_42, ↓E_X7_finds_46, ↓E_X7_finds_47, ↓E_X7_finds_50, ↓E_X7_finds_53, ↓E_X7_finds_57, ↓E_X7_finds_58, ↓E_X7_finds_61, ↓E_X7_finds_62, ↓E_X7_finds_63, ↓E_X7_finds_66, ↓E_X7_finds_68, ↓E_X7_finds_70, ↓E_X7_finds_71, ↓E_X7_finds_74, ↓E_X7_finds_76, ↓E_X7_finds_77, ↓E_X7_finds_78, ↓E_X7_finds_81, ↓E_X7_finds_82, ↓E_X7_finds_85, ↓E_X7_finds_88, ↓E_X7_finds_91, ↓E_X7_finds_92, c, if_true]
      rfl
    · rw [hx] at e; cases e
  | cons b r ih =>
    intro a σ s l4 hc ho bs h1 h2 fr
    have hj' : σ.1 88 0 = nI n := by rw [fr.1 88 (by omega) (by omega) (by omega)]; exact hj
    unfold chk at hc
    rw [Bool.and_eq_true] at hc
    obtain ⟨O, hx, hb⟩ := nxt_s (of_decide_eq_true hc.1)
    obtain ⟨oa, -, -⟩ := ho a (List.mem_cons_self ..)
    obtain ⟨ob, lb, vb⟩ := ho b (List.mem_cons_of_mem _ (List.mem_cons_self ..))
    rcases m_turns (d := d + 1) hn h0 hj' oa.1 h1 with ⟨e, -⟩ | ⟨O', σ1, e, c1, g1, f1, f1'⟩
    · rw [hx] at e; cases e
    · rw [hx] at e
      cases e
      have fr1 : frB σ0 σ1 := ⟨fun i a1 a2 a3 => (f1 i a2).trans (fr.1 i a1 a2 a3), f1'.trans fr.2⟩
      have row : ∀ p, p < n → σ1.1 101 p = nI (ofL b p) := fun p hp => by rw [g1 p hp, hb p hp]
      obtain ⟨σ2, c2, -, f2, f2'⟩ := m_costOf (d := d) (a := 101) (md := md) (am := am) (V := V) (O := ofL b) (σ0 := σ1) (by omega) hn h0 hmd ham hV ob (by rw [fr1.1 88 (by omega) (by omega) (by omega)]; exact hj) row (fun j k hj hk => by rw [fr1.1 89 (by omega) (by omega) (by omega)]; exact hR j k hj hk)
      have ec : CST V md am (ofL b) n = cst V md am b := by unfold cst; rw [lb]
      rw [ec] at c2
      have bc := cst_le (md := md) (am := am) hn h0 hV vb (by omega)
      have fr2 : frB σ0 σ2 := ⟨fun i a1 a2 a3 => (f2 i a1).trans (fr1.1 i a1 a2 a3), f2'.trans fr1.2⟩
      have row2 : ∀ p, p < n → σ2.1 101 p = nI (ofL b p) := fun p hp => by rw [f2 101 (by omega)]; exact row p hp
      have ih := fun σ s l4 => ih b σ s l4 hc.2 (fun L hL => ho L (List.mem_cons_of_mem _ hL))
      have cc := fun q => m_copies (d := d + 2) (σ := σ2) (q := q) (a := 101) (b := 102) (n := 6) (by omega) (by omega) (by omega) (by omega) (ln_6 (by omega)) (ln_6 (by omega))
      have h2' : ∀ p, p < n → σ2.1 102 p = nI (ofL s.2 p) := fun p hp => by rw [f2 102 (by omega), f1 102 (by omega)]; exact h2 p hp
      by_cases e : cst V md am b < s.1
      · have eu : upB (cst V md am) s b = (cst V md am b, b) := if_pos e
        rw [List.foldl_cons, eu]
        obtain ⟨σ', r, g⟩ := ih (mx_c σ2.1 102 (cpN (σ2.1 101) (σ2.1 102) 6), σ2.2) (cst V md am b, b) (some (.int (iN (cst V md am b)))) bc (fun p hp => by simp (disch := omega) only [cc_row]; exact row2 p hp) (fun p hp => by simp only [cc_same]; rw [cpN_in (by omega)]; exact row2 p hp) ⟨fun i a1 a2 a3 => by show mx_c _ _ _ i = _; rw [mx_c_ne a3]; exact fr2.1 i a1 a2 a3, fr2.2⟩
        refine ⟨σ', fun q => ?_, g⟩
        rw [← r q]
        conv => lhs; rw [E_X7_finds_45]
        simp (disch := omega) only [true_and, and_true, and_self, exists_eq_left, Option.toList_some, Option.toList_none, List.cons_append, List.nil_append, List.append_nil, i2_i, i2_r, i2_n, nz0, nz1, true_or, or_true, Nat.reduceAdd, Nat.le_refl, Nat.reduceLT, Nat.reduceLeDiff, ↓E_X7_finds_0, ↓E_X7_finds_1, ↓E_X7_finds_2, ↓E_X7_finds_3, ↓E_X7_finds_4, ↓E_X7_finds_7, ↓E_X7_finds_10, ↓E_X7_finds_11, ↓E_X7_finds_14, ↓E_X7_finds_15, ↓E_X7_finds_16, ↓E_X7_finds_17, ↓E_X7_finds_20, ↓E_X7_finds_23, ↓E_X7_finds_24, ↓E_X7_finds_25, ↓E_X7_finds_28, ↓E_X7_finds_29, ↓E_X7_finds_30, ↓E_X7_finds_33, ↓E_X7_finds_34, ↓E_X7_finds_35, ↓E_X7_finds_38, ↓E_X7_finds_39, ↓E_X7_finds_42, ↓E_X7_finds_46, ↓E_X7_finds_47, ↓E_X7_finds_50, ↓E_X7_finds_53, ↓E_X7_finds_56, ↓E_X7_finds_57, ↓E_X7_finds_58, ↓E_X7_finds_61, ↓E_X7_finds_62, ↓E_X7_finds_63, ↓E_X7_finds_66, ↓E_X7_finds_68, ↓E_X7_finds_70, ↓E_X7_finds_71, ↓E_X7_finds_74, ↓E_X7_finds_76, ↓E_X7_finds_77, ↓E_X7_finds_78, ↓E_X7_finds_81, ↓E_X7_finds_82, ↓E_X7_finds_85, ↓E_X7_finds_88, ↓E_X7_finds_92, c1, if_neg (show ¬ (1 : Int32) = 0 by decide), c2, iN_le, iN_lt, if_neg (show ¬ s.1 ≤ cst V md am b by omega), if_pos e, cc]
      · have eu : upB (cst V md am) s b = s := if_neg e
        rw [List.foldl_cons, eu]
        obtain ⟨σ', r, g⟩ := ih σ2 s (some (.int (iN (cst V md am b)))) bs row2 h2' fr2
        refine ⟨σ', fun q => ?_, g⟩
        rw [← r q]
        conv => lhs; rw [E_X7_finds_45]
        simp (disch := omega) only [true_and, and_true, and_self, exists_eq_left, Option.toList_some, Option.toList_none, List.cons_append, List.nil_append, List.append_nil, i2_i, i2_r, i2_n, nz0, nz1, true_or, or_true, Nat.reduceAdd, Nat.le_refl, Nat.reduceLT, Nat.reduceLeDiff, ↓E_X7_finds_0, ↓E_X7_finds_1, ↓E_X7_finds_2, ↓E_X7_finds_3, ↓E_X7_finds_4, ↓E_X7_finds_7, ↓E_X7_finds_10, ↓E_X7_finds_11, ↓E_X7_finds_14, ↓E_X7_finds_15, ↓E_X7_finds_16, ↓E_X7_finds_17, ↓E_X7_finds_20, ↓E_X7_finds_23, ↓E_X7_finds_24, ↓E_X7_finds_25, ↓E_X7_finds_28, ↓E_X7_finds_29, ↓E_X7_finds_30, ↓E_X7_finds_33, ↓E_X7_finds_34, ↓E_X7_finds_35, ↓E_X7_finds_38, ↓E_X7_finds_39, ↓E_X7_finds_42, ↓E_X7_finds_46, ↓E_X7_finds_47, ↓E_X7_finds_50, ↓E_X7_finds_53, ↓E_X7_finds_56, ↓E_X7_finds_57, ↓E_X7_finds_58, ↓E_X7_finds_61, ↓E_X7_finds_62, ↓E_X7_finds_63, ↓E_X7_finds_66, ↓E_X7_finds_68, ↓E_X7_finds_70, ↓E_X7_finds_71, ↓E_X7_finds_76, ↓E_X7_finds_77, ↓E_X7_finds_78, ↓E_X7_finds_81, ↓E_X7_finds_82, ↓E_X7_finds_85, ↓E_X7_finds_88, ↓E_X7_finds_92, c1, if_neg (show ¬ (1 : Int32) = 0 by decide), c2, iN_le, iN_lt, if_pos (show s.1 ≤ cst V md am b by omega), if_neg e]
theorem ofL_id {n p : Nat} (hp : p < n) : ofL (idL n) p = p := by
  have := ofL_map (O := fun p => p) hp
  simpa [idL] using this
set_option maxHeartbeats 4000000 in
theorem m_finds {d n md am : Nat} {V : Nat → Nat → Nat} {σ0 : mx_S} (hn : n ≤ 6) (h0 : 0 < n) (hmd : md ≤ 2) (ham : am ≤ 2) (hV : okV n V) (hj : σ0.1 88 0 = nI n) (hR : ∀ j k, j < n → k < 6 → σ0.1 89 (6 * j + k) = nI (V j k)) :
    ∃ σ', (∀ q, mx_call (d + 4) m_X7_finds [.ref 88, .int (nI md), .int (nI am)] σ0 q ↔ q = (some (.int (iN (bst (cst V md am) n).1)), σ')) ∧ (∀ p, p < n → σ'.1 102 p = nI (ofL (bst (cst V md am) n).2 p)) ∧ frB σ0 σ' := by
  have L1 : ∀ m t (σ : mx_S), t + m = n → (∀ p, p < t → σ.1 101 p = nI p) → frB σ0 σ → ∃ σ', (∀ q, mx_run (d + 3) m_X7_finds 2 [some (.ref 88), some (.int (nI md)), some (.int (nI am)), some (.int (nI t)), none] [] σ q ↔ mx_run (d + 3) m_X7_finds 23 [some (.ref 88), some (.int (nI md)), some (.int (nI am)), some (.int (nI n)), none] [] σ' q) ∧ (∀ p, p < n → σ'.1 101 p = nI p) ∧ frB σ0 σ' := by
    intro m
    induction m with
    | zero =>
      intro t σ ht h1 fr
      have e : t = n := by omega
      subst e
      have hj' : σ.1 88 0 = nI t := by rw [fr.1 88 (by omega) (by omega) (by omega)]; exact hj
      refine ⟨σ, fun q => ?_, h1, fr⟩
      conv => lhs; rw [E_X7_finds_2]
      simp (disch := omega) only [true_and, and_true, and_self, exists_eq_left, Option.toList_some, Option.toList_none, List.cons_append, List.nil_append, List.append_nil, i2_i, i2_r, i2_n, nz0, nz1, true_or, or_true, Nat.reduceAdd, Nat.le_refl, Nat.reduceLT, Nat.reduceLeDiff, ↓E_X7_finds_0, ↓E_X7_finds_1, ↓E_X7_finds_3, ↓E_X7_finds_4, ↓E_X7_finds_7, ↓E_X7_finds_10, ↓E_X7_finds_11, ↓E_X7_finds_14, ↓E_X7_finds_15, ↓E_X7_finds_16, ↓E_X7_finds_17, ↓E_X7_finds_20, ↓E_X7_finds_24, ↓E_X7_finds_25, ↓E_X7_finds_28, ↓E_X7_finds_29, ↓E_X7_finds_30, ↓E_X7_finds_33, ↓E_X7_finds_34, ↓E_X7_finds_35, ↓E_X7_finds_38, ↓E_X7_finds_39, ↓E_X7_finds_42, ↓E_X7_finds_45, ↓E_X7_finds_46, ↓E_X7_finds_47, ↓E_X7_finds_50, ↓E_X7_finds_53, ↓E_X7_finds_56, ↓E_X7_finds_57, ↓E_X7_finds_58, ↓E_X7_finds_61, ↓E_X7_finds_62, ↓E_X7_finds_63, ↓E_X7_finds_66, ↓E_X7_finds_68, ↓E_X7_finds_70, ↓E_X7_finds_71, ↓E_X7_finds_74, ↓E_X7_finds_76, ↓E_X7_finds_77, ↓E_X7_finds_78, ↓E_X7_finds_81, ↓E_X7_finds_82, ↓E_X7_finds_85, ↓E_X7_finds_88, ↓E_X7_finds_91, ↓E_X7_finds_92, hj', leN, if_true]
    | succ m ih =>
      intro t σ ht h1 fr
      have hj' : σ.1 88 0 = nI n := by rw [fr.1 88 (by omega) (by omega) (by omega)]; exact hj
      obtain ⟨σ', r, g⟩ := ih (t + 1) (mx_u σ.1 101 t (nI t), σ.2) (by omega) (fun p hp => by
        by_cases e : p = t
        · subst e; simp only [uu_same]
        · simp (disch := omega) only [uu_col]; exact h1 p (by omega)) ⟨fun i a1 a2 a3 => by show mx_u _ _ _ _ i = _; rw [mx_u_ne a2]; exact fr.1 i a1 a2 a3, fr.2⟩
      refine ⟨σ', fun q => ?_, g⟩
      rw [← r q]
      conv => lhs; rw [E_X7_finds_2]
      simp (disch := omega) only [true_and, and_true, and_self, exists_eq_left, Option.toList_some, Option.toList_none, List.cons_append, List.nil_append, List.append_nil, i2_i, i2_r, i2_n, nz0, nz1, true_or, or_true, Nat.reduceAdd, Nat.le_refl, Nat.reduceLT, Nat.reduceLeDiff, ↓E_X7_finds_0, ↓E_X7_finds_1, ↓E_X7_finds_3, ↓E_X7_finds_4, ↓E_X7_finds_7, ↓E_X7_finds_10, ↓E_X7_finds_11, ↓E_X7_finds_14, ↓E_X7_finds_15, ↓E_X7_finds_16, ↓E_X7_finds_17, ↓E_X7_finds_20, ↓E_X7_finds_24, ↓E_X7_finds_25, ↓E_X7_finds_28, ↓E_X7_finds_29, ↓E_X7_finds_30, ↓E_X7_finds_33, ↓E_X7_finds_34, ↓E_X7_finds_35, ↓E_X7_finds_38, ↓E_X7_finds_39, ↓E_X7_finds_42, ↓E_X7_finds_45, ↓E_X7_finds_46, ↓E_X7_finds_47, ↓E_X7_finds_50, ↓E_X7_finds_53, ↓E_X7_finds_56, ↓E_X7_finds_57, ↓E_X7_finds_58, ↓E_X7_finds_61, ↓E_X7_finds_62, ↓E_X7_finds_63, ↓E_X7_finds_66, ↓E_X7_finds_68, ↓E_X7_finds_70, ↓E_X7_finds_71, ↓E_X7_finds_74, ↓E_X7_finds_76, ↓E_X7_finds_77, ↓E_X7_finds_78, ↓E_X7_finds_81, ↓E_X7_finds_82, ↓E_X7_finds_85, ↓E_X7_finds_88, ↓E_X7_finds_91, ↓E_X7_finds_92, hj', leN, if_neg (show ¬ n ≤ t by omega), kd_8, ln_6, vin, clN, nI_1]
  obtain ⟨σ1, r1, g1, f1⟩ := L1 n 0 σ0 (by omega) (fun p hp => by omega) ⟨fun _ _ _ _ => rfl, rfl⟩
  obtain ⟨r, er⟩ := cps_cons hn
  have hall : ∀ L ∈ idL n :: r, okO n (ofL L) ∧ L.length = n ∧ ∀ x ∈ L, x < n := fun L hL => by
    rw [← er] at hL
    obtain ⟨M, e1, e2, e3⟩ := cps_pre n [] L hL
    rw [List.nil_append] at e1
    exact ⟨okO_cps hn hL, by rw [e1]; exact e2, by rw [e1]; exact e3⟩
  have hchk : chk n (idL n :: r) = true := by rw [← er]; exact chk_cps n hn
  obtain ⟨oi, li, vi⟩ := hall (idL n) (List.mem_cons_self ..)
  have row : ∀ p, p < n → σ1.1 101 p = nI (ofL (idL n) p) := fun p hp => by rw [ofL_id hp]; exact g1 p hp
  obtain ⟨σ2, c2, -, f2, f2'⟩ := m_costOf (d := d) (a := 101) (md := md) (am := am) (V := V) (O := ofL (idL n)) (σ0 := σ1) (by omega) hn h0 hmd ham hV oi (by rw [f1.1 88 (by omega) (by omega) (by omega)]; exact hj) row (fun j k hj hk => by rw [f1.1 89 (by omega) (by omega) (by omega)]; exact hR j k hj hk)
  have ec : CST V md am (ofL (idL n)) n = cst V md am (idL n) := by unfold cst; rw [li]
  rw [ec] at c2
  have bc := cst_le (md := md) (am := am) hn h0 hV vi (by omega)
  have cc := fun q => m_copies (d := d + 2) (σ := σ2) (q := q) (a := 101) (b := 102) (n := 6) (by omega) (by omega) (by omega) (by omega) (ln_6 (by omega)) (ln_6 (by omega))
  have row2 : ∀ p, p < n → σ2.1 101 p = nI (ofL (idL n) p) := fun p hp => by rw [f2 101 (by omega)]; exact row p hp
  obtain ⟨σ', r3, g3, f3⟩ := l_finds (d := d) hn h0 hmd ham hV hj hR r (idL n) (mx_c σ2.1 102 (cpN (σ2.1 101) (σ2.1 102) 6), σ2.2) (cst V md am (idL n), idL n) none hchk hall bc (fun p hp => by simp (disch := omega) only [cc_row]; exact row2 p hp) (fun p hp => by simp only [cc_same]; rw [cpN_in (by omega)]; exact row2 p hp) ⟨fun i a1 a2 a3 => by show mx_c _ _ _ i = _; rw [mx_c_ne a3, f2 i a1]; exact f1.1 i a1 a2 a3, f2'.trans f1.2⟩
  have eb : bst (cst V md am) n = r.foldl (upB (cst V md am)) (cst V md am (idL n), idL n) := by
    unfold bst
    rw [er, List.foldl_cons]
    have e4 : upB (cst V md am) (1000000, []) (idL n) = (cst V md am (idL n), idL n) := if_pos (by show _ < (1000000 : Int); omega)
    rw [e4]
  rw [eb]
  refine ⟨σ', fun q => ?_, g3, f3⟩
  rw [← r3 q]
  have r1' : ∀ q, mx_run (d + 3) m_X7_finds 2 [some (.ref 88), some (.int (nI md)), some (.int (nI am)), some (.int 0), none] [] σ0 q ↔ _ := r1
  simp (disch := omega) only [C_X7_finds, true_and, and_true, and_self, exists_eq_left, Option.toList_some, Option.toList_none, List.cons_append, List.nil_append, List.append_nil, i2_i, i2_r, i2_n, nz0, nz1, true_or, or_true, Nat.reduceAdd, Nat.le_refl, Nat.reduceLT, Nat.reduceLeDiff, ↓E_X7_finds_0, ↓E_X7_finds_1, ↓E_X7_finds_3, ↓E_X7_finds_4, ↓E_X7_finds_7, ↓E_X7_finds_10, ↓E_X7_finds_11, ↓E_X7_finds_14, ↓E_X7_finds_15, ↓E_X7_finds_16, ↓E_X7_finds_17, ↓E_X7_finds_20, ↓E_X7_finds_23, ↓E_X7_finds_24, ↓E_X7_finds_25, ↓E_X7_finds_28, ↓E_X7_finds_29, ↓E_X7_finds_30, ↓E_X7_finds_33, ↓E_X7_finds_34, ↓E_X7_finds_35, ↓E_X7_finds_38, ↓E_X7_finds_39, ↓E_X7_finds_42, ↓E_X7_finds_46, ↓E_X7_finds_47, ↓E_X7_finds_50, ↓E_X7_finds_53, ↓E_X7_finds_56, ↓E_X7_finds_57, ↓E_X7_finds_58, ↓E_X7_finds_61, ↓E_X7_finds_62, ↓E_X7_finds_63, ↓E_X7_finds_66, ↓E_X7_finds_68, ↓E_X7_finds_70, ↓E_X7_finds_71, ↓E_X7_finds_74, ↓E_X7_finds_76, ↓E_X7_finds_77, ↓E_X7_finds_78, ↓E_X7_finds_81, ↓E_X7_finds_82, ↓E_X7_finds_85, ↓E_X7_finds_88, ↓E_X7_finds_91, ↓E_X7_finds_92, r1', c2, cc]
