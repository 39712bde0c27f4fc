/-! ===== the reference: what stays ===== -/
theorem lgc_lt {x y : Int64} : (lg_cmp x y < 0) = (x.toInt < y.toInt) := by
  unfold lg_cmp
  by_cases h1 : x > y
  · rw [if_pos h1]
    have h1 : y < x := h1
    rw [l64] at h1
    have e1 : ¬ (1 : Int32) < 0 := by decide
    exact propext ⟨fun z => absurd z e1, fun z => by omega⟩
  · rw [if_neg h1]
    have h1 : ¬ y < x := h1
    rw [l64] at h1
    by_cases h2 : x = y
    · rw [if_pos h2]
      subst h2
      exact propext ⟨fun z => absurd z (by decide), fun z => by omega⟩
    · rw [if_neg h2]
      have h3 : ¬ x.toInt = y.toInt := fun z => h2 (Int64.toInt_inj.mp z)
      exact propext ⟨fun _ => by omega, fun _ => by decide⟩
theorem lgc_gt {x y : Int64} : (0 < lg_cmp x y) = (y.toInt < x.toInt) := by
  unfold lg_cmp
  by_cases h1 : x > y
  · rw [if_pos h1]
    have h1 : y < x := h1
    rw [l64] at h1
    exact propext ⟨fun _ => h1, fun _ => by decide⟩
  · rw [if_neg h1]
    have h1 : ¬ y < x := h1
    rw [l64] at h1
    by_cases h2 : x = y
    · rw [if_pos h2]
      subst h2
      exact propext ⟨fun z => absurd z (by decide), fun z => by omega⟩
    · rw [if_neg h2]
      exact propext ⟨fun z => absurd z (by decide), fun z => absurd z h1⟩
def inL (x lo hi : Int64) : Bool := decide (lo.toInt ≤ x.toInt) && decide (x.toInt ≤ hi.toInt)
theorem s_in {d : Nat} {σ : mx_S} {q : mx_R} {x lo hi : Int64} : mx_call (d + 1) m_X7_in [.long x, .long lo, .long hi] σ q ↔ q = (some (.int (bz (inL x lo hi))), σ) := by
  rw [C_X7_in]
  simp only [true_and, and_true, and_self, exists_eq_left, Option.toList_some, Option.toList_none, List.cons_append, List.nil_append, List.append_nil, i2_i, i2_r, i2_n, nz0, nz1, true_or, or_true, Nat.reduceAdd, Nat.le_refl, Nat.reduceLT, Nat.reduceLeDiff, ↓E_X7_in_0, ↓E_X7_in_1, ↓E_X7_in_2, ↓E_X7_in_3, ↓E_X7_in_6, ↓E_X7_in_7, ↓E_X7_in_9, ↓E_X7_in_10, ↓E_X7_in_13, ↓E_X7_in_14, ↓E_X7_in_17, ↓E_X7_in_18, lgc_lt, lgc_gt]
  unfold inL
  by_cases h1 : x.toInt < lo.toInt
  · rw [if_pos h1, decide_eq_false (show ¬ lo.toInt ≤ x.toInt by omega), Bool.false_and]
    rfl
  · rw [if_neg h1, decide_eq_true (show lo.toInt ≤ x.toInt by omega)]
    by_cases h2 : hi.toInt < x.toInt
    · rw [if_pos h2, decide_eq_false (show ¬ x.toInt ≤ hi.toInt by omega)]
      rfl
    · rw [if_neg h2, decide_eq_true (show x.toInt ≤ hi.toInt by omega)]
      rfl
theorem inL_30 {x : Int32} : inL x.toInt64 0 30 = inI x 30 := by unfold inL inI; rw [Int32.toInt_toInt64]; rfl
theorem inL_100 {x : Int32} : inL x.toInt64 0 100 = inI x 100 := by unfold inL inI; rw [Int32.toInt_toInt64]; rfl
theorem inL_k {x : Int32} {h : Int64} {m : Nat} (e : h.toInt = (m : Int)) : inL x.toInt64 0 h = ibI x (m + 1) := by
  unfold inL ibI
  rw [Int32.toInt_toInt64, e]
  have e0 : (0 : Int64).toInt = 0 := rfl
  rw [e0]
  congr 1
  exact decide_eq_decide.mpr (by omega)
theorem inL_1 {x : Int32} : inL x.toInt64 0 1 = ibI x 2 := inL_k rfl
theorem inL_2 {x : Int32} : inL x.toInt64 0 2 = ibI x 3 := inL_k rfl
theorem inL_3 {x : Int32} : inL x.toInt64 0 3 = ibI x 4 := inL_k rfl
theorem inL_5 {x : Int32} : inL x.toInt64 0 5 = ibI x 6 := inL_k rfl
theorem inL_6 {x : Int32} : inL x.toInt64 0 6 = ibI x 7 := inL_k rfl
theorem inL_12 {x : Int32} : inL x.toInt64 0 12 = ibI x 13 := inL_k rfl
theorem inL_127 {x : Int32} : inL x.toInt64 0 127 = ibI x 128 := inL_k rfl
theorem inL_N {x : Int32} {m : Nat} (h : m < 2147483648) : inL x.toInt64 0 (nI m).toInt64 = inI x m := by
  unfold inL inI
  rw [Int32.toInt_toInt64, Int32.toInt_toInt64, nI_toInt h]
  rfl
theorem inL_p {x : Int32} {m : Nat} (h : m < 1073741824) : inL x.toInt64 0 (nI m - 1).toInt64 = ibI x m := by
  have e := pk_sub_toInt (a := m) (b := 1) h (by omega)
  have e : (nI m - 1).toInt = (m : Int) - 1 := e
  unfold inL ibI
  rw [Int32.toInt_toInt64, Int32.toInt_toInt64, e]
  have e0 : (0 : Int64).toInt = 0 := rfl
  rw [e0]
  congr 1
  exact decide_eq_decide.mpr (by omega)
theorem m_isJob {d n : Nat} {σ : mx_S} {q : mx_R} {x : Int32} (hn : n ≤ 6) (h0 : σ.1 88 0 = nI n) : mx_call (d + 2) m_X7_isJob [.ref 88, .int x] σ q ↔ q = (some (.int (bz (ibI x n))), σ) := by
  simp (disch := omega) only [C_X7_isJob, true_and, and_true, and_self, exists_eq_left, Option.toList_some, Option.toList_none, List.cons_append, List.nil_append, List.append_nil, i2_i, i2_r, i2_n, nz0, nz1, true_or, or_true, Nat.reduceAdd, Nat.le_refl, Nat.reduceLT, Nat.reduceLeDiff, ↓E_X7_isJob_0, ↓E_X7_isJob_1, ↓E_X7_isJob_2, ↓E_X7_isJob_3, ↓E_X7_isJob_4, ↓E_X7_isJob_7, ↓E_X7_isJob_8, ↓E_X7_isJob_9, ↓E_X7_isJob_10, ↓E_X7_isJob_13, h0, s_in, inL_p, nzb]
theorem m6 {j : Nat} : (6 : Int32) * nI j = nI (6 * j) := pk_mul 6 j
theorem nI_p0 {a : Nat} : nI a + 0 = nI a := nI_add a 0
theorem nI_p2 {a : Nat} : nI a + 2 = nI (a + 2) := nI_add a 2
theorem nI_p3 {a : Nat} : nI a + 3 = nI (a + 3) := nI_add a 3
theorem nI_p4 {a : Nat} : nI a + 4 = nI (a + 4) := nI_add a 4
theorem nI_p5 {a : Nat} : nI a + 5 = nI (a + 5) := nI_add a 5
theorem m_get {d n j k : Nat} {σ : mx_S} {q : mx_R} {V : Nat → Nat → Nat} (hn : n ≤ 6) (H : ∀ j k, j < n → k < 6 → σ.1 89 (6 * j + k) = nI (V j k)) (hj : j < n) (hk : k < 6) : mx_call (d + 1) m_X7_get [.ref 88, .int (nI j), .int (nI k)] σ q ↔ q = (some (.int (nI (V j k))), σ) := by
  simp (disch := omega) only [C_X7_get, true_and, and_true, and_self, exists_eq_left, Option.toList_some, Option.toList_none, List.cons_append, List.nil_append, List.append_nil, i2_i, i2_r, i2_n, nz0, nz1, true_or, or_true, Nat.reduceAdd, Nat.le_refl, Nat.reduceLT, Nat.reduceLeDiff, ↓E_X7_get_0, ↓E_X7_get_1, ↓E_X7_get_4, ↓E_X7_get_6, ↓E_X7_get_7, ↓E_X7_get_8, ↓E_X7_get_9, ↓E_X7_get_10, ↓E_X7_get_11, kd_8, ln_36, m6, nI_add, vin, clN, H]
/-- nothing but scratch of the reference has changed -/
def scM (σ σ' : mx_S) : Prop := (∀ i, (i < 88 ∨ (89 ≤ i ∧ i ≤ 98) ∨ (104 ≤ i ∧ i ≤ 112)) → σ'.1 i = σ.1 i) ∧ (∀ k, k < 18 → σ'.1 88 k = σ.1 88 k) ∧ ∀ i, i ≤ 112 → σ'.2 i = σ.2 i
theorem scM.rf {σ : mx_S} : scM σ σ := ⟨fun _ _ => rfl, fun _ _ => rfl, fun _ _ => rfl⟩
theorem scM.tr {a b c : mx_S} (h : scM a b) (g : scM b c) : scM a c := ⟨fun i hi => (g.1 i hi).trans (h.1 i hi), fun k hk => (g.2.1 k hk).trans (h.2.1 k hk), fun i hi => (g.2.2 i hi).trans (h.2.2 i hi)⟩
theorem scM.lo {σ σ' : mx_S} (h : scM σ σ') : loS σ σ' := fun i hi => ⟨h.1 i (by omega), h.2.2 i (by omega)⟩
theorem scM.u {σ : mx_S} {a k : Nat} {x : Int32} (h : (99 ≤ a ∧ a ≤ 103) ∨ a = 113) : scM σ (mx_u σ.1 a k x, σ.2) := ⟨fun i hi => mx_u_ne (by omega), fun k9 hk => by show mx_u _ a _ _ 88 k9 = _; rw [mx_u_ne (by omega)], fun _ _ => rfl⟩
theorem scM.c {σ : mx_S} {a : Nat} {g : Nat → Int32} (h : (99 ≤ a ∧ a ≤ 103) ∨ a = 113) : scM σ (mx_c σ.1 a g, σ.2) := ⟨fun i hi => mx_c_ne (by omega), fun k9 hk => by show mx_c _ a _ 88 k9 = _; rw [mx_c_ne (by omega)], fun _ _ => rfl⟩
theorem scM.f {σ : mx_S} {k : Nat} {x : Int32} (h : 18 ≤ k) : scM σ (mx_u σ.1 88 k x, σ.2) := ⟨fun i hi => mx_u_ne (by omega), fun k9 hk => by show mx_u _ 88 k _ 88 k9 = _; rw [uu_col (by omega)], fun _ _ => rfl⟩
theorem rowM_agr {l : List (Nat × Nat)} {k a b : Nat} {f f' : Nat → Nat → Int32} (h : f' 88 k = f 88 k) (ha : f' a = f a) (hb : f' b = f b) (H : rowM l k a b f) : rowM l k a b f' := by
  unfold rowM at *
  rw [h, ha, hb]
  exact H
theorem cfgM_agr {c : Cfg} {f f' : Nat → Nat → Int32} (h : ∀ k, k < 14 → f' 88 k = f 88 k) (g : ∀ i, 89 ≤ i → i ≤ 96 → f' i = f i) (H : cfgM c f) : cfgM c f' := by
  obtain ⟨⟨a0, a1, a2, a3, a4⟩, r1, r2, r3⟩ := H
  refine ⟨⟨(h 0 (by omega)).trans a0, (h 1 (by omega)).trans a1, (h 2 (by omega)).trans a2, fun j k hj hk => by rw [g 89 (by omega) (by omega)]; exact a3 j k hj hk, fun p hp => by rw [g 90 (by omega) (by omega)]; exact a4 p hp⟩, rowM_agr (h 11 (by omega)) (g 91 (by omega) (by omega)) (g 92 (by omega) (by omega)) r1, rowM_agr (h 12 (by omega)) (g 93 (by omega) (by omega)) (g 94 (by omega) (by omega)) r2, rowM_agr (h 13 (by omega)) (g 95 (by omega) (by omega)) (g 96 (by omega) (by omega)) r3⟩
theorem imgM_agr {o : Option Cfg} {f f' : Nat → Nat → Int32} (h : f' 88 17 = f 88 17) (g : f' 98 = f 98) (H : imgM o f) : imgM o f' := by
  cases o with
  | none => exact h.trans H
  | some c => exact ⟨h.trans H.1, by rw [g]; exact H.2⟩
theorem txtM_agr {l : List Nat} {f f' : Nat → Nat → Int32} (h : f' 88 15 = f 88 15) (g : f' 97 = f 97) (H : txtM l f) : txtM l f' := by
  unfold txtM at *
  rw [h, g]
  exact H
theorem tapM_agr {T : Nat → Int32 × Nat × (Nat → Int64)} {σ σ' : mx_S} (h1 : σ'.1 111 = σ.1 111) (h2 : σ'.1 112 = σ.1 112) (h3 : ∀ i, 105 ≤ i → i ≤ 110 → σ'.2 i = σ.2 i) (H : tapM T σ) : tapM T σ' := by
  intro t ht
  obtain ⟨a, b, c⟩ := H t ht
  rw [h1, h2]
  refine ⟨a, b, fun i hi => ?_⟩
  rw [h3 (105 + t) (by omega) (by omega)]
  exact c i hi
theorem vwM_cfg {w : Vw} {σ σ' : mx_S} {c : Cfg} (H : vwM w σ) (ok : okC c) (hC : cfgM c σ'.1) (h : ∀ k, 14 ≤ k → k < 18 → σ'.1 88 k = σ.1 88 k) (g : ∀ i, (i = 97 ∨ i = 98 ∨ i = 111 ∨ i = 112) → σ'.1 i = σ.1 i) (g2 : ∀ i, 105 ≤ i → i ≤ 110 → σ'.2 i = σ.2 i) : vwM (c, w.2) σ' := by
  obtain ⟨H1, H2, H3, H4, H5⟩ := H
  exact ⟨⟨ok, H1.2⟩, hC, imgM_agr (h 17 (by omega) (by omega)) (g 98 (by omega)) H3, txtM_agr (h 15 (by omega) (by omega)) (g 97 (by omega)) H4, tapM_agr (g 111 (by omega)) (g 112 (by omega)) g2 H5⟩
theorem scM.vw {w : Vw} {σ σ' : mx_S} (h : scM σ σ') (H : vwM w σ) : vwM w σ' :=
  vwM_cfg H H.1.1 (cfgM_agr (fun k hk => h.2.1 k (by omega)) (fun i h1 h2 => h.1 i (by omega)) H.2.1) (fun k _ hk => h.2.1 k hk) (fun i hi => h.1 i (by omega)) (fun i h1 h2 => h.2.2 i (by omega))
theorem vwM_now {w : Vw} {σ : mx_S} (hw : vwM w σ) : σ.1 88 0 = nI w.1.jn ∧ σ.1 88 1 = nI w.1.md ∧ σ.1 88 2 = nI w.1.am ∧ (∀ j k, j < w.1.jn → k < 6 → σ.1 89 (6 * j + k) = nI (w.1.V j k)) ∧ (∀ p, p < w.1.jn → σ.1 90 p = nI (w.1.O p)) := hw.2.1.1
/-- what is now, but for the lists told by hand -/
theorem vwM_shp {w : Vw} {σ σ' : mx_S} {n md am : Nat} {V : Nat → Nat → Nat} {O : Nat → Nat} (H : vwM w σ) (ok : okC (n, md, am, V, O, w.1.se, w.1.ev, w.1.bk)) (h0 : σ'.1 88 0 = nI n) (h1 : σ'.1 88 1 = nI md) (h2 : σ'.1 88 2 = nI am) (h3 : ∀ j k, j < n → k < 6 → σ'.1 89 (6 * j + k) = nI (V j k)) (h4 : ∀ p, p < n → σ'.1 90 p = nI (O p)) (h : ∀ k, 3 ≤ k → k < 18 → σ'.1 88 k = σ.1 88 k) (g : ∀ i, 91 ≤ i → i ≤ 112 → σ'.1 i = σ.1 i) (g2 : σ'.2 = σ.2) : vwM (setShp w n md am V O) σ' := by
  obtain ⟨-, ⟨-, r1, r2, r3⟩, -, -, -⟩ := id H
  exact vwM_cfg H ok ⟨⟨h0, h1, h2, h3, h4⟩, rowM_agr (h 11 (by omega) (by omega)) (g 91 (by omega) (by omega)) (g 92 (by omega) (by omega)) r1, rowM_agr (h 12 (by omega) (by omega)) (g 93 (by omega) (by omega)) (g 94 (by omega) (by omega)) r2, rowM_agr (h 13 (by omega) (by omega)) (g 95 (by omega) (by omega)) (g 96 (by omega) (by omega)) r3⟩ (fun k h1 h2 => h k (by omega) h2) (fun i hi => g i (by omega) (by omega)) (fun i _ _ => by rw [g2])
/-- only what is now has changed -/
def nwM (σ σ' : mx_S) : Prop := (∀ k, 3 ≤ k → σ'.1 88 k = σ.1 88 k) ∧ (∀ i, i ≠ 88 → i ≠ 89 → i ≠ 90 → σ'.1 i = σ.1 i) ∧ σ'.2 = σ.2
theorem nwM.rf {σ : mx_S} : nwM σ σ := ⟨fun _ _ => rfl, fun _ _ _ _ => rfl, rfl⟩
theorem nwM.lo {σ σ' : mx_S} (h : nwM σ σ') : loS σ σ' := fun i hi => ⟨h.2.1 i (by omega) (by omega) (by omega), by rw [h.2.2]⟩
set_option maxHeartbeats 2000000 in
theorem M_jobF {d : Nat} {σ : mx_S} {w : Vw} {a m b : Int32} (hw : vwM w σ) : ∃ σ', mx_call (d + 2) m_X7_job [.ref 88, .int a, .int m, .int b] σ (some (.int (F_job w a m b).1), σ') ∧ vwM (F_job w a m b).2 σ' ∧ nwM σ σ' := by
  obtain ⟨S1, S2, S3, S4, S5⟩ := vwM_now hw
  have H1 := hw.1
  have hn := H1.1.1
  simp (disch := omega) only [C_X7_job, true_and, and_true, and_self, exists_eq_left, Option.toList_some, Option.toList_none, List.cons_append, List.nil_append, List.append_nil, i2_i, i2_r, i2_n, nz0, nz1, true_or, or_true, Nat.reduceAdd, Nat.le_refl, Nat.reduceLT, Nat.reduceLeDiff, ↓E_X7_job_0, ↓E_X7_job_1, ↓E_X7_job_2, ↓E_X7_job_3, ↓E_X7_job_6, ↓E_X7_job_9, ↓E_X7_job_12, ↓E_X7_job_13, ↓E_X7_job_14, ↓E_X7_job_15, ↓E_X7_job_18, ↓E_X7_job_21, ↓E_X7_job_24, ↓E_X7_job_25, ↓E_X7_job_26, ↓E_X7_job_27, ↓E_X7_job_30, ↓E_X7_job_33, ↓E_X7_job_36, ↓E_X7_job_38, ↓E_X7_job_40, ↓E_X7_job_43, ↓E_X7_job_45, ↓E_X7_job_48, ↓E_X7_job_50, ↓E_X7_job_51, ↓E_X7_job_52, ↓E_X7_job_55, ↓E_X7_job_57, ↓E_X7_job_58, ↓E_X7_job_61, ↓E_X7_job_62, ↓E_X7_job_63, ↓E_X7_job_64, ↓E_X7_job_65, ↓E_X7_job_66, ↓E_X7_job_67, ↓E_X7_job_70, ↓E_X7_job_72, ↓E_X7_job_73, ↓E_X7_job_76, ↓E_X7_job_77, ↓E_X7_job_78, ↓E_X7_job_79, ↓E_X7_job_80, ↓E_X7_job_81, ↓E_X7_job_82, ↓E_X7_job_85, ↓E_X7_job_87, ↓E_X7_job_88, ↓E_X7_job_91, ↓E_X7_job_92, ↓E_X7_job_93, ↓E_X7_job_94, ↓E_X7_job_95, ↓E_X7_job_96, ↓E_X7_job_97, ↓E_X7_job_100, ↓E_X7_job_102, ↓E_X7_job_103, ↓E_X7_job_106, ↓E_X7_job_107, ↓E_X7_job_108, ↓E_X7_job_109, ↓E_X7_job_110, ↓E_X7_job_111, ↓E_X7_job_112, ↓E_X7_job_115, ↓E_X7_job_117, ↓E_X7_job_118, ↓E_X7_job_121, ↓E_X7_job_122, ↓E_X7_job_123, ↓E_X7_job_124, ↓E_X7_job_125, ↓E_X7_job_126, ↓E_X7_job_127, ↓E_X7_job_130, ↓E_X7_job_132, ↓E_X7_job_133, ↓E_X7_job_136, ↓E_X7_job_137, ↓E_X7_job_138, ↓E_X7_job_139, ↓E_X7_job_141, ↓E_X7_job_142, ↓E_X7_job_143, ↓E_X7_job_146, ↓E_X7_job_147, ↓E_X7_job_150, ↓E_X7_job_151, ↓E_X7_job_154, ↓E_X7_job_155, ↓E_X7_job_156, ↓E_X7_job_157, ↓E_X7_job_160, ↓E_X7_job_161, ↓E_X7_job_162, ↓E_X7_job_165, ↓E_X7_job_166, ↓E_X7_job_169, ↓E_X7_job_170, ↓E_X7_job_171, s_in, inL_30, bz_0]
  unfold F_job
  by_cases h0 : inI a 30 = false
  · simp only [if_pos h0, h0, Bool.false_and, if_true]
    exact ⟨σ, rfl, hw, nwM.rf⟩
  by_cases h1 : inI m 30 = false
  · simp only [if_neg h0, if_pos h1, h1, Bool.false_and, Bool.and_false, if_true]
    exact ⟨σ, rfl, hw, nwM.rf⟩
  by_cases h2 : inI b 30 = false
  · simp only [if_neg h0, if_neg h1, if_pos h2, h2, Bool.and_false, if_true]
    exact ⟨σ, rfl, hw, nwM.rf⟩
  have h012 : ¬ (inI a 30 && inI m 30 && inI b 30) = false := by
    rw [eq_true_of_ne_false h0, eq_true_of_ne_false h1, eq_true_of_ne_false h2]; decide
  simp only [if_neg h0, if_neg h1, if_neg h2, if_neg h012]
  obtain ⟨ha, ha2, ha3⟩ := inI_of (eq_true_of_ne_false h0)
  obtain ⟨hm, hm2, hm3⟩ := inI_of (eq_true_of_ne_false h1)
  obtain ⟨hb, hb2, hb3⟩ := inI_of (eq_true_of_ne_false h2)
  have e6 : (nI w.1.jn = (6 : Int32)) = (w.1.jn = 6) := eqN (b := 6) (by omega) (by omega)
  simp (disch := omega) only [true_and, and_true, and_self, exists_eq_left, Option.toList_some, Option.toList_none, List.cons_append, List.nil_append, List.append_nil, i2_i, i2_r, i2_n, nz0, nz1, true_or, or_true, Nat.reduceAdd, Nat.le_refl, Nat.reduceLT, Nat.reduceLeDiff, ↓E_X7_job_0, ↓E_X7_job_1, ↓E_X7_job_2, ↓E_X7_job_3, ↓E_X7_job_6, ↓E_X7_job_9, ↓E_X7_job_12, ↓E_X7_job_13, ↓E_X7_job_14, ↓E_X7_job_15, ↓E_X7_job_18, ↓E_X7_job_21, ↓E_X7_job_24, ↓E_X7_job_25, ↓E_X7_job_26, ↓E_X7_job_27, ↓E_X7_job_30, ↓E_X7_job_33, ↓E_X7_job_36, ↓E_X7_job_38, ↓E_X7_job_39, ↓E_X7_job_40, ↓E_X7_job_43, ↓E_X7_job_45, ↓E_X7_job_48, ↓E_X7_job_50, ↓E_X7_job_52, ↓E_X7_job_55, ↓E_X7_job_57, ↓E_X7_job_58, ↓E_X7_job_61, ↓E_X7_job_62, ↓E_X7_job_63, ↓E_X7_job_64, ↓E_X7_job_65, ↓E_X7_job_66, ↓E_X7_job_67, ↓E_X7_job_70, ↓E_X7_job_72, ↓E_X7_job_73, ↓E_X7_job_76, ↓E_X7_job_77, ↓E_X7_job_78, ↓E_X7_job_79, ↓E_X7_job_80, ↓E_X7_job_81, ↓E_X7_job_82, ↓E_X7_job_85, ↓E_X7_job_87, ↓E_X7_job_88, ↓E_X7_job_91, ↓E_X7_job_92, ↓E_X7_job_93, ↓E_X7_job_94, ↓E_X7_job_95, ↓E_X7_job_96, ↓E_X7_job_97, ↓E_X7_job_100, ↓E_X7_job_102, ↓E_X7_job_103, ↓E_X7_job_106, ↓E_X7_job_107, ↓E_X7_job_108, ↓E_X7_job_109, ↓E_X7_job_110, ↓E_X7_job_111, ↓E_X7_job_112, ↓E_X7_job_115, ↓E_X7_job_117, ↓E_X7_job_118, ↓E_X7_job_121, ↓E_X7_job_122, ↓E_X7_job_123, ↓E_X7_job_124, ↓E_X7_job_125, ↓E_X7_job_126, ↓E_X7_job_127, ↓E_X7_job_130, ↓E_X7_job_132, ↓E_X7_job_133, ↓E_X7_job_136, ↓E_X7_job_137, ↓E_X7_job_138, ↓E_X7_job_139, ↓E_X7_job_141, ↓E_X7_job_142, ↓E_X7_job_143, ↓E_X7_job_146, ↓E_X7_job_147, ↓E_X7_job_150, ↓E_X7_job_151, ↓E_X7_job_154, ↓E_X7_job_155, ↓E_X7_job_156, ↓E_X7_job_157, ↓E_X7_job_160, ↓E_X7_job_161, ↓E_X7_job_162, ↓E_X7_job_165, ↓E_X7_job_166, ↓E_X7_job_169, ↓E_X7_job_170, ↓E_X7_job_171, S1, e6]
  by_cases h6 : w.1.jn = 6
  · simp only [if_pos h6]
    exact ⟨σ, rfl, hw, nwM.rf⟩
  have h8 : w.1.jn < 6 := by omega
  simp only [if_neg h6]
  simp (disch := omega) only [true_and, and_true, and_self, exists_eq_left, Option.toList_some, Option.toList_none, List.cons_append, List.nil_append, List.append_nil, i2_i, i2_r, i2_n, nz0, nz1, true_or, or_true, Nat.reduceAdd, Nat.le_refl, Nat.reduceLT, Nat.reduceLeDiff, ↓E_X7_job_0, ↓E_X7_job_1, ↓E_X7_job_2, ↓E_X7_job_3, ↓E_X7_job_6, ↓E_X7_job_9, ↓E_X7_job_12, ↓E_X7_job_13, ↓E_X7_job_14, ↓E_X7_job_15, ↓E_X7_job_18, ↓E_X7_job_21, ↓E_X7_job_24, ↓E_X7_job_25, ↓E_X7_job_26, ↓E_X7_job_27, ↓E_X7_job_30, ↓E_X7_job_33, ↓E_X7_job_36, ↓E_X7_job_38, ↓E_X7_job_39, ↓E_X7_job_40, ↓E_X7_job_43, ↓E_X7_job_45, ↓E_X7_job_48, ↓E_X7_job_50, ↓E_X7_job_51, ↓E_X7_job_52, ↓E_X7_job_55, ↓E_X7_job_57, ↓E_X7_job_58, ↓E_X7_job_61, ↓E_X7_job_62, ↓E_X7_job_63, ↓E_X7_job_64, ↓E_X7_job_65, ↓E_X7_job_66, ↓E_X7_job_67, ↓E_X7_job_70, ↓E_X7_job_72, ↓E_X7_job_73, ↓E_X7_job_76, ↓E_X7_job_77, ↓E_X7_job_78, ↓E_X7_job_79, ↓E_X7_job_80, ↓E_X7_job_81, ↓E_X7_job_82, ↓E_X7_job_85, ↓E_X7_job_87, ↓E_X7_job_88, ↓E_X7_job_91, ↓E_X7_job_92, ↓E_X7_job_93, ↓E_X7_job_94, ↓E_X7_job_95, ↓E_X7_job_96, ↓E_X7_job_97, ↓E_X7_job_100, ↓E_X7_job_102, ↓E_X7_job_103, ↓E_X7_job_106, ↓E_X7_job_107, ↓E_X7_job_108, ↓E_X7_job_109, ↓E_X7_job_110, ↓E_X7_job_111, ↓E_X7_job_112, ↓E_X7_job_115, ↓E_X7_job_117, ↓E_X7_job_118, ↓E_X7_job_121, ↓E_X7_job_122, ↓E_X7_job_123, ↓E_X7_job_124, ↓E_X7_job_125, ↓E_X7_job_126, ↓E_X7_job_127, ↓E_X7_job_130, ↓E_X7_job_132, ↓E_X7_job_133, ↓E_X7_job_136, ↓E_X7_job_137, ↓E_X7_job_138, ↓E_X7_job_139, ↓E_X7_job_141, ↓E_X7_job_142, ↓E_X7_job_143, ↓E_X7_job_146, ↓E_X7_job_147, ↓E_X7_job_150, ↓E_X7_job_151, ↓E_X7_job_154, ↓E_X7_job_155, ↓E_X7_job_156, ↓E_X7_job_157, ↓E_X7_job_160, ↓E_X7_job_161, ↓E_X7_job_162, ↓E_X7_job_165, ↓E_X7_job_166, ↓E_X7_job_169, ↓E_X7_job_170, ↓E_X7_job_171, S1, kd_8, ln_36, ln_6, m6, nI_p0, nI_1, nI_p2, nI_p3, nI_p4, nI_p5, vin, clN, uu_row, uu_same, nI_pred]
  refine ⟨_, rfl, vwM_shp hw (okC_grow H1.1 h8 (upV_ok H1.1.2.2.2.1 (nR_ok ha2 hm2 hb2)) (okO_grow H1.1.2.2.2.2.1)) ?_ ?_ ?_ ?_ ?_ ?_ (fun i h1 h2 => by simp (disch := omega) only [mx_u_ne]) rfl, ⟨fun k hk => by simp (disch := omega) only [uu_row, uu_col], fun i h1 h2 h3 => by simp (disch := omega) only [mx_u_ne], rfl⟩⟩
  · simp only [uu_same]
  · simp (disch := omega) only [uu_col, uu_row]; exact S2
  · simp (disch := omega) only [uu_col, uu_row]; exact S3
  · intro j k hj hk
    by_cases e : j = w.1.jn
    · subst e
      revert k
      refine six ?_ ?_ ?_ ?_ ?_ ?_ <;> simp (disch := omega) only [uu_col, uu_row, uu_same, upV, if_true, newRow, Nat.add_zero]
      · exact ha
      · exact hm
      · exact hb
      · rfl
      · rfl
      · rfl
    · simp (disch := omega) only [uu_row, uu_col, upV, if_neg e]
      exact S4 j k (by omega) hk
  · intro p hp
    by_cases e : p = w.1.jn
    · subst e
      simp (disch := omega) only [uu_row, uu_same, upO, if_true]
    · simp (disch := omega) only [uu_row, uu_col, upO, if_neg e]
      exact S5 p (by omega)
  · intro k hk hk2
    simp (disch := omega) only [uu_row, uu_col]
theorem M_job {d : Nat} {σ : mx_S} {w : Vw} {a m b : Int32} (hw : vwM w σ) : ∃ σ', mx_call (d + 2) m_X7_job [.ref 88, .int a, .int m, .int b] σ (some (.int (F_job w a m b).1), σ') ∧ vwM (F_job w a m b).2 σ' ∧ loS σ σ' := by
  obtain ⟨σ', h1, h2, h3⟩ := M_jobF (d := d) (a := a) (m := m) (b := b) hw
  exact ⟨σ', h1, h2, h3.lo⟩
