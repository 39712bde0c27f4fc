/-! ===== the class: the search ===== -/
theorem ptrB {j : Nat} : mx_ptr 49 j = 53 + j := by unfold mx_ptr; simp
theorem s_goOn {d : Nat} {σ : mx_S} {q : mx_R} {h g : Nat} (hh : h = 47 ∨ (53 ≤ h ∧ h ≤ 59)) (hg : g = 47 ∨ (53 ≤ g ∧ g ≤ 59)) (hn : g ≠ h) : mx_call (d + 1) m_X0_goOnFrom [.ref h, .ref g] σ q ↔ q = (none, (mx_u (mx_u (mx_u (mx_u (mx_u σ.1 h 0 (σ.1 g 0)) h 1 (σ.1 g 1)) h 5 (σ.1 g 5)) h 8 (σ.1 g 8)) h 9 (σ.1 g 9), σ.2)) := by
  simp (disch := omega) only [C_X0_goOnFrom, true_and, and_true, and_self, exists_eq_left, Option.toList_some, Option.toList_none, List.cons_append, List.nil_append, List.append_nil, i2_i, i2_r, i2_n, nz0, nz1, true_or, or_true, Nat.reduceAdd, Nat.le_refl, Nat.reduceLT, Nat.reduceLeDiff, ↓E_X0_goOnFrom_0, ↓E_X0_goOnFrom_1, ↓E_X0_goOnFrom_2, ↓E_X0_goOnFrom_5, ↓E_X0_goOnFrom_8, ↓E_X0_goOnFrom_9, ↓E_X0_goOnFrom_10, ↓E_X0_goOnFrom_13, ↓E_X0_goOnFrom_16, ↓E_X0_goOnFrom_17, ↓E_X0_goOnFrom_18, ↓E_X0_goOnFrom_21, ↓E_X0_goOnFrom_24, ↓E_X0_goOnFrom_25, ↓E_X0_goOnFrom_26, ↓E_X0_goOnFrom_29, ↓E_X0_goOnFrom_32, ↓E_X0_goOnFrom_33, ↓E_X0_goOnFrom_34, ↓E_X0_goOnFrom_37, ↓E_X0_goOnFrom_40, kd_0, uu_row]
/-- the search: least, the row found, the row tried -/
def srX (md am : Nat) (s : Int × List Nat) (L : List Nat) (f : Nat → Nat → Int32) : Prop :=
  f 48 4 = iN s.1 ∧ f 48 5 = nI md ∧ f 48 6 = nI am ∧ (∀ p, p < s.2.length → f 51 p = nI (ofL s.2 p)) ∧ (∀ p, p < L.length → f 50 p = nI (ofL L p)) ∧ ∀ j, j < 6 → f 52 j = bz (L.contains j)
def frX (a : Nat) (σ σ' : mx_S) : Prop := (∀ i, (i < 48 ∨ (52 ≤ i ∧ i ≤ a) ∨ 60 ≤ i) → σ'.1 i = σ.1 i) ∧ σ'.2 = σ.2
theorem halX_pre {V : Nat → Nat → Nat} {md h p : Nat} {O O' : Nat → Nat} {f : Nat → Nat → Int32} (e : ∀ i, i < p → O i = O' i) (H : halX V md O h p f) : halX V md O' h p f := by
  unfold halX at *
  rw [TS_pre p e, EL_pre p e, FL_pre p e, LT_pre p e] at H
  exact H
theorem cont_app {L : List Nat} {t j : Nat} : (L ++ [t]).contains j = (L.contains j || decide (j = t)) := by
  rw [Bool.eq_iff_iff]
  simp [List.contains_iff_mem]
/-- one job more -/
theorem s_more {d : Nat} {σ : mx_S} {h n md am t : Nat} {V : Nat → Nat → Nat} {L : List Nat} (hs : h = 1 ∨ h = 37) (hn : n ≤ 6) (hmd : md ≤ 2) (hV : okV n V) (hL : ∀ x ∈ L, x < n) (hl : L.length < n) (ht : t < n) (hR : ∀ j k, j < n → k < 6 → σ.1 (h + 2 + j) k = nI (V j k)) (H : halX V md (ofL L) (53 + L.length) L.length σ.1) :
    ∃ σ1 σ2, (∀ q, mx_call (d + 1) m_X0_goOnFrom [.ref (53 + (L.length + 1)), .ref (53 + L.length)] σ q ↔ q = (none, σ1)) ∧ (∀ q, mx_call (d + 1) m_X0_press [.ref (53 + (L.length + 1)), .ref (h + 2 + t), .int (nI md)] σ1 q ↔ q = (none, σ2)) ∧ halX V md (ofL (L ++ [t])) (53 + (L.length + 1)) (L.length + 1) σ2.1 ∧ (∀ i, i ≠ 53 + (L.length + 1) → σ1.1 i = σ.1 i) ∧ (∀ i, i ≠ 53 + (L.length + 1) → σ2.1 i = σ.1 i) ∧ σ2.2 = σ.2 := by
  have h0 : 0 < n := by omega
  obtain ⟨H0, H1, H5, H7, H8, H9⟩ := H
  generalize hf : mx_u (mx_u (mx_u (mx_u (mx_u σ.1 (53 + (L.length + 1)) 0 (σ.1 (53 + L.length) 0)) (53 + (L.length + 1)) 1 (σ.1 (53 + L.length) 1)) (53 + (L.length + 1)) 5 (σ.1 (53 + L.length) 5)) (53 + (L.length + 1)) 8 (σ.1 (53 + L.length) 8)) (53 + (L.length + 1)) 9 (σ.1 (53 + L.length) 9) = f1
  have fr : ∀ i, i ≠ 53 + (L.length + 1) → f1 i = σ.1 i := by
    intro i hi
    rw [← hf]
    simp (disch := assumption) only [mx_u_ne]
  have g0 : f1 (53 + (L.length + 1)) 0 = nI (TS V md (ofL L) L.length).1 := by rw [← hf, ← H0]; simp (disch := omega) only [uu_col, uu_same]
  have g1 : f1 (53 + (L.length + 1)) 1 = nI (TS V md (ofL L) L.length).2.1 := by rw [← hf, ← H1]; simp (disch := omega) only [uu_col, uu_same]
  have g5 : f1 (53 + (L.length + 1)) 5 = nI (TS V md (ofL L) L.length).2.2 := by rw [← hf, ← H5]; simp (disch := omega) only [uu_col, uu_same]
  have g8 : f1 (53 + (L.length + 1)) 8 = nI (FL V md (ofL L) L.length) := by rw [← hf, ← H8]; simp (disch := omega) only [uu_col, uu_same]
  have g9 : f1 (53 + (L.length + 1)) 9 = iN (LT V md (ofL L) L.length) := by rw [← hf, ← H9]; simp (disch := omega) only [uu_col, uu_same]
  obtain ⟨B1, B2, B3⟩ := TS_le (md := md) hV (fun p _ => ofL_lt h0 hL p) L.length (by omega)
  obtain ⟨L1, L2⟩ := LT_le (md := md) hn hV (fun p _ => ofL_lt h0 hL p) L.length (by omega)
  obtain ⟨σ2, c, ⟨f0, fa, -, -, -, fe, -, fg, fh, fi⟩, f, g⟩ := press_gen (d := d) (σ := (f1, σ.2)) (h := 53 + (L.length + 1)) (a := h + 2 + t) (md := md) (j := t) (V := V) (s := TS V md (ofL L) L.length) (fl := FL V md (ofL L) L.length) (lt := LT V md (ofL L) L.length) (by omega) (by omega) hmd (fun k hk => by show f1 _ k = _; rw [fr _ (by omega)]; exact hR t k ht hk) g0 g1 g5 g8 g9 ⟨by omega, by omega, by omega⟩ (fun k hk => hV t k ht hk) ⟨L1, by omega⟩
  have eT : TS V md (ofL (L ++ [t])) L.length = TS V md (ofL L) L.length := TS_pre _ (fun i hi => ofL_app hi)
  have eE : EN V md (ofL (L ++ [t])) L.length = tEn V md t (TS V md (ofL L) L.length) := by unfold EN; rw [eT, ofL_end]
  have eN : TS V md (ofL (L ++ [t])) (L.length + 1) = tNx V md t (TS V md (ofL L) L.length) := by show tNx V md (ofL (L ++ [t]) L.length) (TS V md (ofL (L ++ [t])) L.length) = _; rw [eT, ofL_end]
  have eF : FL V md (ofL (L ++ [t])) L.length = FL V md (ofL L) L.length := FL_pre _ (fun i hi => ofL_app hi)
  have eL : LT V md (ofL (L ++ [t])) L.length = LT V md (ofL L) L.length := LT_pre _ (fun i hi => ofL_app hi)
  refine ⟨(f1, σ.2), σ2, fun q => ?_, mx_one c, ⟨?_, ?_, ?_, ?_, ?_, ?_⟩, fr, fun i hi => (f i hi).trans (fr i hi), g⟩
  · rw [s_goOn (by omega) (by omega) (by omega), hf]
  · rw [eN]; exact f0
  · rw [eN]; exact fa
  · rw [eN]; exact fe
  · show _ = nI (EN V md (ofL (L ++ [t])) L.length); rw [eE]; exact fg
  · show _ = nI (FL V md (ofL (L ++ [t])) L.length + EN V md (ofL (L ++ [t])) L.length); rw [eE, eF]; exact fh
  · show _ = iN (max (LT V md (ofL (L ++ [t])) L.length) ((EN V md (ofL (L ++ [t])) L.length : Int) - (V (ofL (L ++ [t]) L.length) 5 : Int))); rw [eE, eL, ofL_end]; exact fi
theorem srX_agr {md am : Nat} {s : Int × List Nat} {L : List Nat} {f f' : Nat → Nat → Int32} (h : ∀ i, 48 ≤ i → i ≤ 52 → f' i = f i) (H : srX md am s L f) : srX md am s L f' := by
  unfold srX at *
  rw [h 48 (by omega) (by omega), h 50 (by omega) (by omega), h 51 (by omega) (by omega), h 52 (by omega) (by omega)]
  exact H
set_option maxHeartbeats 4000000 in
theorem l_extend {d h n md am m : Nat} {V : Nat → Nat → Nat} {L : List Nat} (hs : h = 1 ∨ h = 37) (hn : n ≤ 6) (hmd : md ≤ 2) (ham : am ≤ 2) (hV : okV n V) (hl : L.length + (m + 1) = n) (hL : ∀ x ∈ L, x < n) (s : Int × List Nat) (bs : -2147483648 ≤ s.1 ∧ s.1 ≤ 2147483647)
    (ih : ∀ (L : List Nat) (s : Int × List Nat) (σ : mx_S), L.length + m = n → (∀ x ∈ L, x < n) → (-2147483648 ≤ s.1 ∧ s.1 ≤ 2147483647) → cst V md am L < s.1 → σ.1 h 0 = nI n → (∀ j k, j < n → k < 6 → σ.1 (h + 2 + j) k = nI (V j k)) → srX md am s L σ.1 → halX V md (ofL L) (53 + L.length) L.length σ.1 → ∃ σ', mx_call (d + m + 2) m_X2_extend [.ref 48, .ref h, .int (nI L.length)] σ (none, σ') ∧ srX md am ((cps n m L).foldl (upB (cst V md am)) s) L σ'.1 ∧ frX (53 + L.length) σ σ') :
    ∀ k t (σ : mx_S), t + k = n → σ.1 h 0 = nI n → (∀ j k, j < n → k < 6 → σ.1 (h + 2 + j) k = nI (V j k)) → srX md am ((catN (fun j => if L.contains j = true then [] else cps n m (L ++ [j])) t).foldl (upB (cst V md am)) s) L σ.1 → halX V md (ofL L) (53 + L.length) L.length σ.1 →
    ∃ σ', mx_run (d + m + 2) m_X2_extend 59 [some (.ref 48), some (.ref h), some (.int (nI L.length)), some (.ref (53 + (L.length + 1))), some (.int (nI t))] [] σ (none, σ') ∧ srX md am ((cps n (m + 1) L).foldl (upB (cst V md am)) s) L σ'.1 ∧ frX (53 + L.length) σ σ' := by
  have h0 : 0 < n := by omega
  intro k
  induction k with
  | zero =>
    intro t σ ht a0 aR aS aH
    have e : t = n := by omega
    subst e
    refine ⟨σ, ?_, aS, fun _ _ => rfl, rfl⟩
    rw [E_X2_extend_59]
    simp (disch := omega) only [true_and, and_true, and_self, exists_eq_left, Option.toList_some, Option.toList_none, List.cons_append, List.nil_append, List.append_nil, i2_i, i2_r, i2_n, nz0, nz1, true_or, or_true, Nat.reduceAdd, Nat.le_refl, Nat.reduceLT, Nat.reduceLeDiff, ↓E_X2_extend_0, ↓E_X2_extend_1, ↓E_X2_extend_2, ↓E_X2_extend_5, ↓E_X2_extend_8, ↓E_X2_extend_9, ↓E_X2_extend_11, ↓E_X2_extend_14, ↓E_X2_extend_15, ↓E_X2_extend_16, ↓E_X2_extend_19, ↓E_X2_extend_20, ↓E_X2_extend_21, ↓E_X2_extend_22, ↓E_X2_extend_25, ↓E_X2_extend_28, ↓E_X2_extend_31, ↓E_X2_extend_32, ↓E_X2_extend_35, ↓E_X2_extend_36, ↓E_X2_extend_37, ↓E_X2_extend_40, ↓E_X2_extend_41, ↓E_X2_extend_43, ↓E_X2_extend_46, ↓E_X2_extend_47, ↓E_X2_extend_48, ↓E_X2_extend_51, ↓E_X2_extend_52, ↓E_X2_extend_53, ↓E_X2_extend_54, ↓E_X2_extend_55, ↓E_X2_extend_56, ↓E_X2_extend_57, ↓E_X2_extend_61, ↓E_X2_extend_62, ↓E_X2_extend_65, ↓E_X2_extend_68, ↓E_X2_extend_69, ↓E_X2_extend_72, ↓E_X2_extend_74, ↓E_X2_extend_75, ↓E_X2_extend_78, ↓E_X2_extend_79, ↓E_X2_extend_80, ↓E_X2_extend_83, ↓E_X2_extend_84, ↓E_X2_extend_85, ↓E_X2_extend_88, ↓E_X2_extend_89, ↓E_X2_extend_90, ↓E_X2_extend_93, ↓E_X2_extend_95, ↓E_X2_extend_96, ↓E_X2_extend_97, ↓E_X2_extend_100, ↓E_X2_extend_103, ↓E_X2_extend_104, ↓E_X2_extend_105, ↓E_X2_extend_108, ↓E_X2_extend_111, ↓E_X2_extend_112, ↓E_X2_extend_115, ↓E_X2_extend_118, ↓E_X2_extend_119, ↓E_X2_extend_122, ↓E_X2_extend_124, ↓E_X2_extend_125, ↓E_X2_extend_126, ↓E_X2_extend_127, ↓E_X2_extend_130, ↓E_X2_extend_131, ↓E_X2_extend_133, ↓E_X2_extend_134, ↓E_X2_extend_135, ↓E_X2_extend_136, ↓E_X2_extend_137, ↓E_X2_extend_138, ↓E_X2_extend_139, ↓E_X2_extend_142, ↓E_X2_extend_143, ↓E_X2_extend_146, ↓E_X2_extend_148, ↓E_X2_extend_149, ↓E_X2_extend_150, ↓E_X2_extend_153, ↓E_X2_extend_156, kd_3, a0, leN, if_true]
  | succ k ihk =>
    intro t σ ht a0 aR aS aH
    have st : (catN (fun j => if L.contains j = true then [] else cps n m (L ++ [j])) (t + 1)).foldl (upB (cst V md am)) s = (if L.contains t = true then [] else cps n m (L ++ [t])).foldl (upB (cst V md am)) ((catN (fun j => if L.contains j = true then [] else cps n m (L ++ [j])) t).foldl (upB (cst V md am)) s) := by
      rw [← List.foldl_append]
      rfl
    have ihk := fun σ => ihk (t + 1) σ (by omega)
    rw [st] at ihk
    have bz0 := upB_le (md := md) (am := am) hn h0 hV bs (catN (fun j => if L.contains j = true then [] else cps n m (L ++ [j])) t) (fun L' hL' => by
      obtain ⟨j, hj, h1⟩ := mem_catN t hL'
      by_cases e : L.contains j = true
      · rw [if_pos e] at h1; simp at h1
      · rw [if_neg e] at h1
        obtain ⟨M, e1, e2, e3⟩ := cps_pre m _ L' h1
        refine ⟨fun x hx => ?_, ?_⟩
        · rw [e1] at hx
          rcases List.mem_append.mp hx with h | h
          · rcases List.mem_append.mp h with h | h
            · exact hL x h
            · rw [List.mem_singleton.mp h]; omega
          · exact e3 x h
        · rw [e1]; simp only [List.length_append, List.length_cons, List.length_nil]; omega)
    generalize (catN (fun j => if L.contains j = true then [] else cps n m (L ++ [j])) t).foldl (upB (cst V md am)) s = z at *
    obtain ⟨S4, S5, S6, S1, S0, S2⟩ := id aS
    have ut := S2 t (by omega)
    simp only [E_X2_extend_59]
    simp (disch := omega) only [true_and, and_true, and_self, exists_eq_left, Option.toList_some, Option.toList_none, List.cons_append, List.nil_append, List.append_nil, i2_i, i2_r, i2_n, nz0, nz1, true_or, or_true, Nat.reduceAdd, Nat.le_refl, Nat.reduceLT, Nat.reduceLeDiff, ↓E_X2_extend_0, ↓E_X2_extend_1, ↓E_X2_extend_2, ↓E_X2_extend_5, ↓E_X2_extend_8, ↓E_X2_extend_9, ↓E_X2_extend_11, ↓E_X2_extend_14, ↓E_X2_extend_15, ↓E_X2_extend_16, ↓E_X2_extend_19, ↓E_X2_extend_20, ↓E_X2_extend_21, ↓E_X2_extend_22, ↓E_X2_extend_25, ↓E_X2_extend_28, ↓E_X2_extend_31, ↓E_X2_extend_32, ↓E_X2_extend_35, ↓E_X2_extend_36, ↓E_X2_extend_37, ↓E_X2_extend_40, ↓E_X2_extend_41, ↓E_X2_extend_43, ↓E_X2_extend_46, ↓E_X2_extend_47, ↓E_X2_extend_48, ↓E_X2_extend_51, ↓E_X2_extend_52, ↓E_X2_extend_53, ↓E_X2_extend_54, ↓E_X2_extend_55, ↓E_X2_extend_56, ↓E_X2_extend_57, ↓E_X2_extend_61, ↓E_X2_extend_62, ↓E_X2_extend_65, ↓E_X2_extend_68, ↓E_X2_extend_69, ↓E_X2_extend_72, ↓E_X2_extend_74, ↓E_X2_extend_75, ↓E_X2_extend_79, ↓E_X2_extend_80, ↓E_X2_extend_83, ↓E_X2_extend_84, ↓E_X2_extend_85, ↓E_X2_extend_88, ↓E_X2_extend_89, ↓E_X2_extend_90, ↓E_X2_extend_93, ↓E_X2_extend_95, ↓E_X2_extend_96, ↓E_X2_extend_97, ↓E_X2_extend_100, ↓E_X2_extend_103, ↓E_X2_extend_104, ↓E_X2_extend_105, ↓E_X2_extend_108, ↓E_X2_extend_111, ↓E_X2_extend_112, ↓E_X2_extend_115, ↓E_X2_extend_118, ↓E_X2_extend_119, ↓E_X2_extend_122, ↓E_X2_extend_124, ↓E_X2_extend_125, ↓E_X2_extend_126, ↓E_X2_extend_127, ↓E_X2_extend_130, ↓E_X2_extend_131, ↓E_X2_extend_133, ↓E_X2_extend_134, ↓E_X2_extend_135, ↓E_X2_extend_136, ↓E_X2_extend_137, ↓E_X2_extend_138, ↓E_X2_extend_139, ↓E_X2_extend_142, ↓E_X2_extend_143, ↓E_X2_extend_146, ↓E_X2_extend_148, ↓E_X2_extend_149, ↓E_X2_extend_153, ↓E_X2_extend_156, kd_3, kd_2, a0, leN, if_neg (show ¬ n ≤ t by omega), ln_6, vin, clN, kd_10, or_true, ut, bz_0]
    by_cases hu : L.contains t = true
    · simp only [hu, if_true] at ihk
      simp only [hu, if_neg (show ¬ true = false by decide)]
      obtain ⟨σ', r, g⟩ := ihk σ a0 aR aS aH
      refine ⟨σ', ?_, g⟩
      simp (disch := omega) only [true_and, and_true, and_self, exists_eq_left, Option.toList_some, Option.toList_none, List.cons_append, List.nil_append, List.append_nil, i2_i, i2_r, i2_n, nz0, nz1, true_or, or_true, Nat.reduceAdd, Nat.le_refl, Nat.reduceLT, Nat.reduceLeDiff, ↓E_X2_extend_0, ↓E_X2_extend_1, ↓E_X2_extend_2, ↓E_X2_extend_5, ↓E_X2_extend_8, ↓E_X2_extend_9, ↓E_X2_extend_11, ↓E_X2_extend_14, ↓E_X2_extend_15, ↓E_X2_extend_16, ↓E_X2_extend_19, ↓E_X2_extend_20, ↓E_X2_extend_21, ↓E_X2_extend_22, ↓E_X2_extend_25, ↓E_X2_extend_28, ↓E_X2_extend_31, ↓E_X2_extend_32, ↓E_X2_extend_35, ↓E_X2_extend_36, ↓E_X2_extend_37, ↓E_X2_extend_40, ↓E_X2_extend_41, ↓E_X2_extend_43, ↓E_X2_extend_46, ↓E_X2_extend_47, ↓E_X2_extend_48, ↓E_X2_extend_51, ↓E_X2_extend_52, ↓E_X2_extend_53, ↓E_X2_extend_54, ↓E_X2_extend_55, ↓E_X2_extend_56, ↓E_X2_extend_57, ↓E_X2_extend_61, ↓E_X2_extend_62, ↓E_X2_extend_65, ↓E_X2_extend_68, ↓E_X2_extend_69, ↓E_X2_extend_72, ↓E_X2_extend_74, ↓E_X2_extend_75, ↓E_X2_extend_78, ↓E_X2_extend_79, ↓E_X2_extend_80, ↓E_X2_extend_83, ↓E_X2_extend_84, ↓E_X2_extend_85, ↓E_X2_extend_88, ↓E_X2_extend_89, ↓E_X2_extend_90, ↓E_X2_extend_93, ↓E_X2_extend_95, ↓E_X2_extend_96, ↓E_X2_extend_97, ↓E_X2_extend_100, ↓E_X2_extend_103, ↓E_X2_extend_104, ↓E_X2_extend_105, ↓E_X2_extend_108, ↓E_X2_extend_111, ↓E_X2_extend_112, ↓E_X2_extend_115, ↓E_X2_extend_118, ↓E_X2_extend_119, ↓E_X2_extend_122, ↓E_X2_extend_124, ↓E_X2_extend_125, ↓E_X2_extend_126, ↓E_X2_extend_127, ↓E_X2_extend_130, ↓E_X2_extend_131, ↓E_X2_extend_133, ↓E_X2_extend_134, ↓E_X2_extend_135, ↓E_X2_extend_136, ↓E_X2_extend_137, ↓E_X2_extend_138, ↓E_X2_extend_139, ↓E_X2_extend_142, ↓E_X2_extend_143, ↓E_X2_extend_146, ↓E_X2_extend_148, ↓E_X2_extend_149, ↓E_X2_extend_150, ↓E_X2_extend_153, ↓E_X2_extend_156, nI_1]
      exact r
    · simp only [if_neg hu] at ihk
      simp only [eq_false_of_ne_true hu, if_true]
      obtain ⟨σ1, σ2, c1, c2, H2, f1, f2, g2⟩ := s_more (d := d + m + 1) (am := am) hs hn hmd hV hL (by omega) (show t < n by omega) aR aH
      have hLt : ∀ x ∈ L ++ [t], x < n := fun x hx => by
        rcases List.mem_append.mp hx with h | h
        · exact hL x h
        · rw [List.mem_singleton.mp h]; omega
      have hlt : (L ++ [t]).length = L.length + 1 := by simp
      have bc := cst_le (md := md) (am := am) hn h0 hV hLt (by rw [hlt]; omega)
      have c3 : ∀ q, mx_call (d + m + 2) m_X0_costBy [.ref (53 + (L.length + 1)), .int (nI am)] σ2 q ↔ q = (some (.int (iN (cst V md am (L ++ [t])))), σ2) := by
        intro q
        unfold cst
        rw [hlt]
        exact s_costBy (by omega) ham H2
      have S5' : σ1.1 48 5 = nI md := by rw [f1 48 (by omega)]; exact S5
      have S6' : σ2.1 48 6 = nI am := by rw [f2 48 (by omega)]; exact S6
      have S4' : σ2.1 48 4 = iN z.1 := by rw [f2 48 (by omega)]; exact S4
      have eP : mx_ptr (h + 1) t = h + 2 + t := ptrS (by omega)
      simp (disch := omega) only [true_and, and_true, and_self, exists_eq_left, Option.toList_some, Option.toList_none, List.cons_append, List.nil_append, List.append_nil, i2_i, i2_r, i2_n, nz0, nz1, true_or, or_true, Nat.reduceAdd, Nat.le_refl, Nat.reduceLT, Nat.reduceLeDiff, ↓E_X2_extend_0, ↓E_X2_extend_1, ↓E_X2_extend_2, ↓E_X2_extend_5, ↓E_X2_extend_8, ↓E_X2_extend_9, ↓E_X2_extend_11, ↓E_X2_extend_14, ↓E_X2_extend_15, ↓E_X2_extend_16, ↓E_X2_extend_19, ↓E_X2_extend_20, ↓E_X2_extend_21, ↓E_X2_extend_22, ↓E_X2_extend_25, ↓E_X2_extend_28, ↓E_X2_extend_31, ↓E_X2_extend_32, ↓E_X2_extend_35, ↓E_X2_extend_36, ↓E_X2_extend_37, ↓E_X2_extend_40, ↓E_X2_extend_41, ↓E_X2_extend_43, ↓E_X2_extend_46, ↓E_X2_extend_47, ↓E_X2_extend_48, ↓E_X2_extend_51, ↓E_X2_extend_52, ↓E_X2_extend_53, ↓E_X2_extend_54, ↓E_X2_extend_55, ↓E_X2_extend_56, ↓E_X2_extend_57, ↓E_X2_extend_61, ↓E_X2_extend_62, ↓E_X2_extend_65, ↓E_X2_extend_68, ↓E_X2_extend_69, ↓E_X2_extend_72, ↓E_X2_extend_74, ↓E_X2_extend_75, ↓E_X2_extend_78, ↓E_X2_extend_79, ↓E_X2_extend_80, ↓E_X2_extend_83, ↓E_X2_extend_84, ↓E_X2_extend_85, ↓E_X2_extend_88, ↓E_X2_extend_89, ↓E_X2_extend_90, ↓E_X2_extend_93, ↓E_X2_extend_95, ↓E_X2_extend_96, ↓E_X2_extend_97, ↓E_X2_extend_100, ↓E_X2_extend_103, ↓E_X2_extend_104, ↓E_X2_extend_105, ↓E_X2_extend_108, ↓E_X2_extend_111, ↓E_X2_extend_112, ↓E_X2_extend_115, ↓E_X2_extend_119, ↓E_X2_extend_122, ↓E_X2_extend_124, ↓E_X2_extend_125, ↓E_X2_extend_126, ↓E_X2_extend_127, ↓E_X2_extend_130, ↓E_X2_extend_131, ↓E_X2_extend_133, ↓E_X2_extend_134, ↓E_X2_extend_135, ↓E_X2_extend_136, ↓E_X2_extend_137, ↓E_X2_extend_138, ↓E_X2_extend_139, ↓E_X2_extend_142, ↓E_X2_extend_143, ↓E_X2_extend_146, ↓E_X2_extend_148, ↓E_X2_extend_149, ↓E_X2_extend_153, ↓E_X2_extend_156, kd_0, kd_2, kd_3, kd_13, kd_12, ln_7, ln_6, vin, clN, or_true, true_or, ptrB, eP, S5', S6', S4', c1, c2, c3, iN_le]
      by_cases hc : cst V md am (L ++ [t]) < z.1
      · simp only [if_neg (show ¬ z.1 ≤ cst V md am (L ++ [t]) by omega)]
        have aS3 : srX md am z (L ++ [t]) (mx_u (mx_u σ2.1 52 t 1) 50 L.length (nI t)) := by
          refine ⟨?_, ?_, ?_, fun p hp => ?_, fun p hp => ?_, fun j hj => ?_⟩
          · simp (disch := omega) only [uu_row]; exact S4'
          · simp (disch := omega) only [uu_row]; rw [f2 48 (by omega)]; exact S5
          · simp (disch := omega) only [uu_row]; exact S6'
          · simp (disch := omega) only [uu_row]; rw [f2 51 (by omega)]; exact S1 p hp
          · rw [hlt] at hp
            by_cases e : p = L.length
            · subst e; simp only [uu_same, ofL_end]
            · simp (disch := omega) only [uu_row, uu_col]
              rw [f2 50 (by omega), ofL_app (by omega)]
              exact S0 p (by omega)
          · simp (disch := omega) only [uu_row]
            rw [cont_app]
            by_cases e : j = t
            · subst e; simp only [uu_same, decide_true, Bool.or_true]; rfl
            · simp (disch := omega) only [uu_col]
              rw [f2 52 (by omega), decide_eq_false e, Bool.or_false]
              exact S2 j hj
        obtain ⟨σ4, c4, aS4, fr4, g4⟩ := ih (L ++ [t]) z (mx_u (mx_u σ2.1 52 t 1) 50 L.length (nI t), σ2.2) (by rw [hlt]; omega) hLt bz0 hc (by simp (disch := omega) only [uu_row]; rw [f2 h (by omega)]; exact a0) (fun j k hj hk => by simp (disch := omega) only [uu_row]; rw [f2 _ (by omega)]; exact aR j k hj hk) aS3 (by
          rw [hlt]
          unfold halX at *
          simp (disch := omega) only [uu_row]
          exact H2)
        rw [hlt] at c4 fr4
        obtain ⟨U4, U5, U6, U1, U0, U2⟩ := aS4
        have e52 : mx_u σ4.1 52 t 0 52 = σ.1 52 := by
          have e1 : σ4.1 52 = mx_u σ2.1 52 t 1 52 := by
            rw [fr4 52 (by omega)]
            show mx_u (mx_u σ2.1 52 t 1) 50 L.length (nI t) 52 = _
            rw [mx_u_ne (show (52 : Nat) ≠ 50 by decide)]
          funext j
          by_cases e : j = t
          · subst e
            simp only [uu_same]
            rw [ut, eq_false_of_ne_true hu]
            rfl
          · simp (disch := omega) only [uu_col]
            rw [e1]
            simp (disch := omega) only [uu_col]
            rw [f2 52 (by omega)]
        have fr5 : frX (53 + L.length) σ (mx_u σ4.1 52 t 0, σ4.2) := by
          refine ⟨fun i hi => ?_, by show σ4.2 = _; rw [g4]; exact g2⟩
          by_cases e : i = 52
          · subst e; exact e52
          · show mx_u σ4.1 52 t 0 i = _
            rw [mx_u_ne e, fr4 i (by omega)]
            show mx_u _ _ _ _ i = _
            rw [mx_u_ne (by omega), mx_u_ne e, f2 i (by omega)]
        have aS5 : srX md am ((cps n m (L ++ [t])).foldl (upB (cst V md am)) z) L (mx_u σ4.1 52 t 0) := by
          refine ⟨?_, ?_, ?_, fun p hp => ?_, fun p hp => ?_, fun j hj => ?_⟩
          · simp (disch := omega) only [uu_row]; exact U4
          · simp (disch := omega) only [uu_row]; exact U5
          · simp (disch := omega) only [uu_row]; exact U6
          · simp (disch := omega) only [uu_row]; exact U1 p hp
          · simp (disch := omega) only [uu_row]; rw [U0 p (by rw [hlt]; omega), ofL_app hp]
          · rw [e52]; exact S2 j hj
        obtain ⟨σ', r, g, fr, gg⟩ := ihk (mx_u σ4.1 52 t 0, σ4.2) (by rw [fr5.1 h (by omega)]; exact a0) (fun j k hj hk => by rw [fr5.1 _ (by omega)]; exact aR j k hj hk) aS5 (by
          unfold halX at *
          rw [fr5.1 (53 + L.length) (by omega)]
          exact aH)
        refine ⟨σ', ?_, g, fun i hi => (fr i hi).trans (fr5.1 i hi), gg.trans fr5.2⟩
        simp (disch := first | omega | (refine kd_10 ?_; omega)) only [true_and, and_true, and_self, exists_eq_left, Option.toList_some, Option.toList_none, List.cons_append, List.nil_append, List.append_nil, i2_i, i2_r, i2_n, nz0, nz1, true_or, or_true, Nat.reduceAdd, Nat.le_refl, Nat.reduceLT, Nat.reduceLeDiff, ↓E_X2_extend_0, ↓E_X2_extend_1, ↓E_X2_extend_2, ↓E_X2_extend_5, ↓E_X2_extend_8, ↓E_X2_extend_9, ↓E_X2_extend_11, ↓E_X2_extend_14, ↓E_X2_extend_15, ↓E_X2_extend_16, ↓E_X2_extend_19, ↓E_X2_extend_20, ↓E_X2_extend_21, ↓E_X2_extend_22, ↓E_X2_extend_25, ↓E_X2_extend_28, ↓E_X2_extend_31, ↓E_X2_extend_32, ↓E_X2_extend_35, ↓E_X2_extend_36, ↓E_X2_extend_37, ↓E_X2_extend_40, ↓E_X2_extend_41, ↓E_X2_extend_43, ↓E_X2_extend_46, ↓E_X2_extend_47, ↓E_X2_extend_48, ↓E_X2_extend_51, ↓E_X2_extend_52, ↓E_X2_extend_53, ↓E_X2_extend_54, ↓E_X2_extend_55, ↓E_X2_extend_56, ↓E_X2_extend_57, ↓E_X2_extend_61, ↓E_X2_extend_62, ↓E_X2_extend_65, ↓E_X2_extend_68, ↓E_X2_extend_69, ↓E_X2_extend_72, ↓E_X2_extend_74, ↓E_X2_extend_75, ↓E_X2_extend_78, ↓E_X2_extend_79, ↓E_X2_extend_80, ↓E_X2_extend_83, ↓E_X2_extend_84, ↓E_X2_extend_85, ↓E_X2_extend_88, ↓E_X2_extend_89, ↓E_X2_extend_90, ↓E_X2_extend_93, ↓E_X2_extend_95, ↓E_X2_extend_96, ↓E_X2_extend_97, ↓E_X2_extend_100, ↓E_X2_extend_103, ↓E_X2_extend_104, ↓E_X2_extend_105, ↓E_X2_extend_108, ↓E_X2_extend_111, ↓E_X2_extend_112, ↓E_X2_extend_115, ↓E_X2_extend_118, ↓E_X2_extend_119, ↓E_X2_extend_122, ↓E_X2_extend_124, ↓E_X2_extend_125, ↓E_X2_extend_126, ↓E_X2_extend_127, ↓E_X2_extend_130, ↓E_X2_extend_131, ↓E_X2_extend_133, ↓E_X2_extend_134, ↓E_X2_extend_135, ↓E_X2_extend_136, ↓E_X2_extend_137, ↓E_X2_extend_138, ↓E_X2_extend_139, ↓E_X2_extend_142, ↓E_X2_extend_143, ↓E_X2_extend_146, ↓E_X2_extend_148, ↓E_X2_extend_149, ↓E_X2_extend_150, ↓E_X2_extend_153, ↓E_X2_extend_156, kd_2, kd_3, kd_8, kd_10, ln_6, vin, clN, nI_1, mx_one c4]
        exact r
      · simp only [if_pos (show z.1 ≤ cst V md am (L ++ [t]) by omega)]
        rw [fold_skip (cps n m (L ++ [t])) (fun L' hL' => Int.le_trans (by omega) (cst_mono hL'))] at ihk
        obtain ⟨σ', r, g, fr, gg⟩ := ihk σ2 (by rw [f2 h (by omega)]; exact a0) (fun j k hj hk => by rw [f2 _ (by omega)]; exact aR j k hj hk) (srX_agr (fun i _ _ => f2 i (by omega)) aS) (by
          unfold halX at *
          rw [f2 (53 + L.length) (by omega)]
          exact aH)
        refine ⟨σ', ?_, g, fun i hi => (fr i hi).trans (f2 i (by omega)), gg.trans g2⟩
        simp (disch := omega) only [true_and, and_true, and_self, exists_eq_left, Option.toList_some, Option.toList_none, List.cons_append, List.nil_append, List.append_nil, i2_i, i2_r, i2_n, nz0, nz1, true_or, or_true, Nat.reduceAdd, Nat.le_refl, Nat.reduceLT, Nat.reduceLeDiff, ↓E_X2_extend_0, ↓E_X2_extend_1, ↓E_X2_extend_2, ↓E_X2_extend_5, ↓E_X2_extend_8, ↓E_X2_extend_9, ↓E_X2_extend_11, ↓E_X2_extend_14, ↓E_X2_extend_15, ↓E_X2_extend_16, ↓E_X2_extend_19, ↓E_X2_extend_20, ↓E_X2_extend_21, ↓E_X2_extend_22, ↓E_X2_extend_25, ↓E_X2_extend_28, ↓E_X2_extend_31, ↓E_X2_extend_32, ↓E_X2_extend_35, ↓E_X2_extend_36, ↓E_X2_extend_37, ↓E_X2_extend_40, ↓E_X2_extend_41, ↓E_X2_extend_43, ↓E_X2_extend_46, ↓E_X2_extend_47, ↓E_X2_extend_48, ↓E_X2_extend_51, ↓E_X2_extend_52, ↓E_X2_extend_53, ↓E_X2_extend_54, ↓E_X2_extend_55, ↓E_X2_extend_56, ↓E_X2_extend_57, ↓E_X2_extend_61, ↓E_X2_extend_62, ↓E_X2_extend_65, ↓E_X2_extend_68, ↓E_X2_extend_69, ↓E_X2_extend_72, ↓E_X2_extend_74, ↓E_X2_extend_75, ↓E_X2_extend_78, ↓E_X2_extend_79, ↓E_X2_extend_80, ↓E_X2_extend_83, ↓E_X2_extend_84, ↓E_X2_extend_85, ↓E_X2_extend_88, ↓E_X2_extend_89, ↓E_X2_extend_90, ↓E_X2_extend_93, ↓E_X2_extend_95, ↓E_X2_extend_96, ↓E_X2_extend_97, ↓E_X2_extend_100, ↓E_X2_extend_103, ↓E_X2_extend_104, ↓E_X2_extend_105, ↓E_X2_extend_108, ↓E_X2_extend_111, ↓E_X2_extend_112, ↓E_X2_extend_115, ↓E_X2_extend_118, ↓E_X2_extend_119, ↓E_X2_extend_122, ↓E_X2_extend_124, ↓E_X2_extend_125, ↓E_X2_extend_126, ↓E_X2_extend_127, ↓E_X2_extend_130, ↓E_X2_extend_131, ↓E_X2_extend_133, ↓E_X2_extend_134, ↓E_X2_extend_135, ↓E_X2_extend_136, ↓E_X2_extend_137, ↓E_X2_extend_138, ↓E_X2_extend_139, ↓E_X2_extend_142, ↓E_X2_extend_143, ↓E_X2_extend_146, ↓E_X2_extend_148, ↓E_X2_extend_149, ↓E_X2_extend_150, ↓E_X2_extend_153, ↓E_X2_extend_156, nI_1]
        exact r
