/-! ===== the reference: a clause is done ===== -/
theorem nmV1_le {l : List Nat} {i : Nat} : nmV l 1 i ≤ 9 := by
  unfold nmV
  split
  · omega
  · rename_i h
    have h := eq_true_of_ne_false h
    obtain ⟨h1, h2, h3⟩ := dgB_iff.mp h
    split
    · rename_i h4
      exact absurd h4.1 (by decide)
    · omega
theorem tkQ_9 {l : List Nat} {i : Nat} {c : Cl} (h : (tkQ l i).1 = some c) : c.2.2.1 ≤ 9 ∧ c.2.2.2 ≤ 9 := by
  unfold tkQ at h
  by_cases e1 : dgB l i = false
  · rw [if_pos e1] at h; cases h
  rw [if_neg e1] at h
  by_cases e2 : dgB l (i + 1) = false
  · rw [if_pos e2] at h; cases h
  rw [if_neg e2] at h
  by_cases e3 : dgB l (i + 2) = false
  · rw [if_pos e3] at h; cases h
  rw [if_neg e3] at h
  cases h
  exact ⟨nmV1_le, nmV1_le⟩
theorem renew_neg {w : Vw} (ok : okW w) {i x : Nat} (hx : x ≤ 9) (h : (F_renew w (nI i) 3 (nI x)).1 < 0) : (F_renew w (nI i) 3 (nI x)).2 = w ∧ ∀ y, F_renew w (nI i) 4 y = (-1, w) := by
  unfold F_renew at h ⊢
  by_cases e : ibI (nI i) w.1.jn = false
  · simp only [e, Bool.false_and, if_true]
    exact ⟨trivial, fun _ => trivial⟩
  · exfalso
    have e3 : ibI (3 : Int32) 6 = true := by decide
    have e4 : ixI (3 : Int32) = 3 := rfl
    have e5 : inI (nI x) (lim 3) = true := by rw [inI_nI (by omega)]; exact decide_eq_true hx
    obtain ⟨h1, h2, h3⟩ := ibI_of (eq_true_of_ne_false e)
    have hv := ok.1.2.2.2.1 _ 3 h2 (by omega)
    have hl := lim_le 3
    rw [if_neg (by rw [eq_true_of_ne_false e, e3]; decide), e4, if_neg (by rw [e5]; decide)] at h
    exact nI_neg (by omega) h
theorem nwM.txt {l : List Nat} {σ σ' : mx_S} (h : nwM σ σ') (hT : txM2 l σ) : txM2 l σ' := ⟨(h.1 15 (by omega)).trans hT.1, fun i hi => by rw [h.2.1 97 (by omega) (by omega) (by omega)]; exact hT.2 i hi⟩
theorem doC_neg {v : Int32} {b : Bool} (h : b = decide (¬ v < 0)) : (v < 0) = ¬ b = true := by
  rw [h, decide_eq_true_eq]
  exact propext ⟨fun z y => y z, fun z => Decidable.not_not.mp z⟩
set_option maxHeartbeats 4000000 in
theorem rest_w {d i p : Nat} {σ : mx_S} {w : Vw} {l : List Nat} {c : Cl} (ok : okL l) (hT : txM2 l σ) (hw : vwM w σ) (hi : i < l.length) (hx : isLt (l.getD i 0)) (hc : tkC l i = (some c, p)) : ∃ (v : Int32) (σ' : mx_S), (∀ q, mx_call (d + 5) m_X7_rest [.ref 88, .int (nI (l.getD i 0)), .int 1] (ps σ (i + 1) false) q ↔ q = (some (.int v), σ')) ∧ ((v < 0) = ¬ (doC w c).1 = true) ∧ vwM (doC w c).2 σ' ∧ nwM (ps σ p false) σ' := by
  have hw2 : vwM w (ps σ p false) := (frG.ps (σ := σ)).M.vw hw
  have n1 : ¬ (1 : Int32) = 0 := by decide
  unfold tkC at hc
  rw [if_neg (show ¬ l.length ≤ i by omega)] at hc
  rcases hx with h | h | h | h | h
  · rw [if_pos h] at hc
    rw [h]
    obtain ⟨v1, v2, v3, r, rv⟩ := r_j (d := d) (b := 1) (i := i + 1) ok hT hi
    have c1 : c.1 = 106 := tkJ_1 (by rw [hc])
    rw [hc] at r rv
    obtain ⟨rfl, rfl, rfl⟩ := rv c rfl
    obtain ⟨σ', m1, m2, m3⟩ := M_jobF (d := d + 2) (a := nI c.2.1) (m := nI c.2.2.1) (b := nI c.2.2.2) hw2
    have m1 := mx_one m1
    have dc : doC w c = (decide (¬ (F_job w (nI c.2.1) (nI c.2.2.1) (nI c.2.2.2)).1 < 0), (F_job w (nI c.2.1) (nI c.2.2.1) (nI c.2.2.2)).2) := by
      unfold doC
      rw [if_neg (by omega), if_neg (by omega), if_pos c1]
    rw [dc]
    have r' : ∀ q, mx_run (d + 4) m_X7_rest 0 [some (.ref 88), some (.int (nI 106)), some (.int 1), none, none, none] [] (ps σ (i + 1) false) q ↔ mx_run (d + 4) m_X7_rest 41 [some (.ref 88), some (.int 106), some (.int 1), some (.int (nI c.2.1)), some (.int (nI c.2.2.1)), some (.int (nI c.2.2.2))] [] (ps σ p false) q := r
    refine ⟨_, σ', fun q => ?_, doC_neg rfl, m2, m3⟩
    simp only [C_X7_rest, r']
    simp (disch := omega) only [true_and, and_true, and_self, exists_eq_left, Option.toList_some, Option.toList_none, List.cons_append, List.nil_append, List.append_nil, i2_i, i2_r, i2_n, nz0, nz1, true_or, or_true, Nat.reduceAdd, Nat.le_refl, Nat.reduceLT, Nat.reduceLeDiff, ↓E_X7_rest_0, ↓E_X7_rest_1, ↓E_X7_rest_3, ↓E_X7_rest_6, ↓E_X7_rest_7, ↓E_X7_rest_10, ↓E_X7_rest_11, ↓E_X7_rest_12, ↓E_X7_rest_14, ↓E_X7_rest_16, ↓E_X7_rest_19, ↓E_X7_rest_20, ↓E_X7_rest_21, ↓E_X7_rest_24, ↓E_X7_rest_26, ↓E_X7_rest_27, ↓E_X7_rest_29, ↓E_X7_rest_31, ↓E_X7_rest_34, ↓E_X7_rest_35, ↓E_X7_rest_36, ↓E_X7_rest_39, ↓E_X7_rest_41, ↓E_X7_rest_42, ↓E_X7_rest_45, ↓E_X7_rest_46, ↓E_X7_rest_47, ↓E_X7_rest_49, ↓E_X7_rest_51, ↓E_X7_rest_54, ↓E_X7_rest_58, ↓E_X7_rest_59, ↓E_X7_rest_60, ↓E_X7_rest_63, ↓E_X7_rest_64, ↓E_X7_rest_65, ↓E_X7_rest_67, ↓E_X7_rest_70, ↓E_X7_rest_71, ↓E_X7_rest_73, ↓E_X7_rest_76, ↓E_X7_rest_77, ↓E_X7_rest_80, ↓E_X7_rest_81, ↓E_X7_rest_82, ↓E_X7_rest_84, ↓E_X7_rest_87, ↓E_X7_rest_88, ↓E_X7_rest_91, ↓E_X7_rest_92, ↓E_X7_rest_93, ↓E_X7_rest_96, ↓E_X7_rest_99, ↓E_X7_rest_100, ↓E_X7_rest_101, ↓E_X7_rest_102, ↓E_X7_rest_104, ↓E_X7_rest_107, ↓E_X7_rest_108, ↓E_X7_rest_111, ↓E_X7_rest_114, ↓E_X7_rest_115, ↓E_X7_rest_118, ↓E_X7_rest_120, ↓E_X7_rest_121, ↓E_X7_rest_123, ↓E_X7_rest_126, ↓E_X7_rest_127, ↓E_X7_rest_130, ↓E_X7_rest_131, ↓E_X7_rest_132, ↓E_X7_rest_133, ↓E_X7_rest_135, ↓E_X7_rest_138, ↓E_X7_rest_141, ↓E_X7_rest_142, ↓E_X7_rest_143, ↓E_X7_rest_144, ↓E_X7_rest_147, ↓E_X7_rest_149, ↓E_X7_rest_150, ↓E_X7_rest_153, ↓E_X7_rest_154, ↓E_X7_rest_155, ↓E_X7_rest_156, ↓E_X7_rest_158, ↓E_X7_rest_161, ↓E_X7_rest_162, ↓E_X7_rest_163, ↓E_X7_rest_164, ↓E_X7_rest_166, ↓E_X7_rest_169, ↓E_X7_rest_172, ↓E_X7_rest_175, ↓E_X7_rest_176, if_neg n1, m1]
  · rw [if_neg (by omega), if_pos h] at hc
    rw [h]
    obtain ⟨v1, v2, v3, r, rv⟩ := r_q (d := d) (b := 1) (i := i + 1) ok hT hi
    have c1 : c.1 = 99 := tkQ_1 (by rw [hc])
    have c9 := tkQ_9 (c := c) (by rw [hc])
    rw [hc] at r rv
    obtain ⟨rfl, rfl, rfl⟩ := rv c rfl
    obtain ⟨σ1, m1, m2, m3⟩ := M_renewF (d := d + 1) (a := nI c.2.1) (b := 3) (v := nI c.2.2.1) hw2
    obtain ⟨σ2, k1, k2, k3⟩ := M_renewF (d := d + 1) (a := nI c.2.1) (b := 4) (v := nI c.2.2.2) m2
    have m1 := mx_one m1
    have k1 := mx_one k1
    have nw : nwM (ps σ p false) σ2 := ⟨fun k hk => (k3.1 k hk).trans (m3.1 k hk), fun i a1 a2 a3 => (k3.2.1 i a1 a2 a3).trans (m3.2.1 i a1 a2 a3), k3.2.2.trans m3.2.2⟩
    have r' : ∀ q, mx_run (d + 4) m_X7_rest 0 [some (.ref 88), some (.int (nI 99)), some (.int 1), none, none, none] [] (ps σ (i + 1) false) q ↔ mx_run (d + 4) m_X7_rest 149 [some (.ref 88), some (.int 99), some (.int 1), some (.int (nI c.2.1)), some (.int (nI c.2.2.1)), some (.int (nI c.2.2.2))] [] (ps σ p false) q := r
    have st : ∀ q, mx_call (d + 5) m_X7_rest [.ref 88, .int (nI 99), .int 1] (ps σ (i + 1) false) q ↔ q = (some (.int (if (F_renew (F_renew w (nI c.2.1) 3 (nI c.2.2.1)).2 (nI c.2.1) 4 (nI c.2.2.2)).1 < (F_renew w (nI c.2.1) 3 (nI c.2.2.1)).1 then (F_renew (F_renew w (nI c.2.1) 3 (nI c.2.2.1)).2 (nI c.2.1) 4 (nI c.2.2.2)).1 else (F_renew w (nI c.2.1) 3 (nI c.2.2.1)).1)), σ2) := by
      intro q
      simp only [C_X7_rest, r']
      simp (disch := omega) only [true_and, and_true, and_self, exists_eq_left, Option.toList_some, Option.toList_none, List.cons_append, List.nil_append, List.append_nil, i2_i, i2_r, i2_n, nz0, nz1, true_or, or_true, Nat.reduceAdd, Nat.le_refl, Nat.reduceLT, Nat.reduceLeDiff, ↓E_X7_rest_0, ↓E_X7_rest_1, ↓E_X7_rest_3, ↓E_X7_rest_6, ↓E_X7_rest_7, ↓E_X7_rest_10, ↓E_X7_rest_11, ↓E_X7_rest_12, ↓E_X7_rest_14, ↓E_X7_rest_16, ↓E_X7_rest_19, ↓E_X7_rest_20, ↓E_X7_rest_21, ↓E_X7_rest_24, ↓E_X7_rest_26, ↓E_X7_rest_27, ↓E_X7_rest_29, ↓E_X7_rest_31, ↓E_X7_rest_34, ↓E_X7_rest_35, ↓E_X7_rest_36, ↓E_X7_rest_39, ↓E_X7_rest_41, ↓E_X7_rest_42, ↓E_X7_rest_45, ↓E_X7_rest_46, ↓E_X7_rest_47, ↓E_X7_rest_49, ↓E_X7_rest_51, ↓E_X7_rest_54, ↓E_X7_rest_57, ↓E_X7_rest_58, ↓E_X7_rest_59, ↓E_X7_rest_60, ↓E_X7_rest_63, ↓E_X7_rest_64, ↓E_X7_rest_65, ↓E_X7_rest_67, ↓E_X7_rest_70, ↓E_X7_rest_71, ↓E_X7_rest_73, ↓E_X7_rest_76, ↓E_X7_rest_77, ↓E_X7_rest_80, ↓E_X7_rest_81, ↓E_X7_rest_82, ↓E_X7_rest_84, ↓E_X7_rest_87, ↓E_X7_rest_88, ↓E_X7_rest_91, ↓E_X7_rest_92, ↓E_X7_rest_93, ↓E_X7_rest_96, ↓E_X7_rest_99, ↓E_X7_rest_100, ↓E_X7_rest_101, ↓E_X7_rest_102, ↓E_X7_rest_104, ↓E_X7_rest_107, ↓E_X7_rest_108, ↓E_X7_rest_111, ↓E_X7_rest_114, ↓E_X7_rest_115, ↓E_X7_rest_118, ↓E_X7_rest_120, ↓E_X7_rest_121, ↓E_X7_rest_123, ↓E_X7_rest_126, ↓E_X7_rest_127, ↓E_X7_rest_130, ↓E_X7_rest_131, ↓E_X7_rest_132, ↓E_X7_rest_133, ↓E_X7_rest_135, ↓E_X7_rest_138, ↓E_X7_rest_141, ↓E_X7_rest_142, ↓E_X7_rest_143, ↓E_X7_rest_144, ↓E_X7_rest_147, ↓E_X7_rest_149, ↓E_X7_rest_150, ↓E_X7_rest_153, ↓E_X7_rest_154, ↓E_X7_rest_155, ↓E_X7_rest_156, ↓E_X7_rest_158, ↓E_X7_rest_161, ↓E_X7_rest_162, ↓E_X7_rest_163, ↓E_X7_rest_164, ↓E_X7_rest_166, ↓E_X7_rest_169, ↓E_X7_rest_172, ↓E_X7_rest_176, if_neg n1, m1, k1]
    by_cases e : (F_renew w (nI c.2.1) 3 (nI c.2.2.1)).1 < 0
    · obtain ⟨z1, z2⟩ := renew_neg hw.1 c9.1 e
      have dc : doC w c = (false, (F_renew w (nI c.2.1) 3 (nI c.2.2.1)).2) := by
        unfold doC
        rw [if_pos c1, if_pos e]
      rw [dc]
      refine ⟨_, σ2, st, ?_, ?_, nw⟩
      · have hv : (if (F_renew (F_renew w (nI c.2.1) 3 (nI c.2.2.1)).2 (nI c.2.1) 4 (nI c.2.2.2)).1 < (F_renew w (nI c.2.1) 3 (nI c.2.2.1)).1 then (F_renew (F_renew w (nI c.2.1) 3 (nI c.2.2.1)).2 (nI c.2.1) 4 (nI c.2.2.2)).1 else (F_renew w (nI c.2.1) 3 (nI c.2.2.1)).1) < 0 := by
          rw [z1, z2]
          split
          · exact (by decide : (-1 : Int32) < 0)
          · exact e
        exact propext ⟨fun _ => (by decide : ¬ false = true), fun _ => hv⟩
      · rw [z1] at k2 ⊢
        rw [z2] at k2
        exact k2
    · have dc : doC w c = (decide (¬ (F_renew (F_renew w (nI c.2.1) 3 (nI c.2.2.1)).2 (nI c.2.1) 4 (nI c.2.2.2)).1 < 0), (F_renew (F_renew w (nI c.2.1) 3 (nI c.2.2.1)).2 (nI c.2.1) 4 (nI c.2.2.2)).2) := by
        unfold doC
        rw [if_pos c1, if_neg e]
      rw [dc]
      refine ⟨_, σ2, st, ?_, k2, nw⟩
      rw [← doC_neg (v := (F_renew (F_renew w (nI c.2.1) 3 (nI c.2.2.1)).2 (nI c.2.1) 4 (nI c.2.2.2)).1) rfl]
      by_cases e2 : (F_renew (F_renew w (nI c.2.1) 3 (nI c.2.2.1)).2 (nI c.2.1) 4 (nI c.2.2.2)).1 < (F_renew w (nI c.2.1) 3 (nI c.2.2.1)).1
      · rw [if_pos e2]
      · rw [if_neg e2]
        rw [lt0] at e ⊢
        rw [lt0]
        rw [l32] at e2
        exact propext ⟨fun z => absurd z e, fun z => by omega⟩
  · rw [if_neg (by omega), if_neg (by omega), if_pos h] at hc
    rw [h]
    obtain ⟨v1, v2, r, rv⟩ := r_d (d := d) (b := 1) (i := i + 1) ok hT hi
    have c1 : c.1 = 100 := tkD_1 (by rw [hc])
    rw [hc] at r rv
    obtain ⟨rfl, rfl⟩ := rv c rfl
    obtain ⟨σ', m1, m2, m3⟩ := M_renewF (d := d + 1) (a := nI c.2.1) (b := 5) (v := nI c.2.2.1) hw2
    have m1 := mx_one m1
    have dc : doC w c = (decide (¬ (F_renew w (nI c.2.1) 5 (nI c.2.2.1)).1 < 0), (F_renew w (nI c.2.1) 5 (nI c.2.2.1)).2) := by
      unfold doC
      rw [if_neg (by omega), if_pos c1]
    rw [dc]
    have r' : ∀ q, mx_run (d + 4) m_X7_rest 0 [some (.ref 88), some (.int (nI 100)), some (.int 1), none, none, none] [] (ps σ (i + 1) false) q ↔ mx_run (d + 4) m_X7_rest 126 [some (.ref 88), some (.int 100), some (.int 1), some (.int (nI c.2.1)), some (.int (nI c.2.2.1)), none] [] (ps σ p false) q := r
    refine ⟨_, σ', fun q => ?_, doC_neg rfl, m2, m3⟩
    simp only [C_X7_rest, r']
    simp (disch := omega) only [true_and, and_true, and_self, exists_eq_left, Option.toList_some, Option.toList_none, List.cons_append, List.nil_append, List.append_nil, i2_i, i2_r, i2_n, nz0, nz1, true_or, or_true, Nat.reduceAdd, Nat.le_refl, Nat.reduceLT, Nat.reduceLeDiff, ↓E_X7_rest_0, ↓E_X7_rest_1, ↓E_X7_rest_3, ↓E_X7_rest_6, ↓E_X7_rest_7, ↓E_X7_rest_10, ↓E_X7_rest_11, ↓E_X7_rest_12, ↓E_X7_rest_14, ↓E_X7_rest_16, ↓E_X7_rest_19, ↓E_X7_rest_20, ↓E_X7_rest_21, ↓E_X7_rest_24, ↓E_X7_rest_26, ↓E_X7_rest_27, ↓E_X7_rest_29, ↓E_X7_rest_31, ↓E_X7_rest_34, ↓E_X7_rest_35, ↓E_X7_rest_36, ↓E_X7_rest_39, ↓E_X7_rest_41, ↓E_X7_rest_42, ↓E_X7_rest_45, ↓E_X7_rest_46, ↓E_X7_rest_47, ↓E_X7_rest_49, ↓E_X7_rest_51, ↓E_X7_rest_54, ↓E_X7_rest_57, ↓E_X7_rest_58, ↓E_X7_rest_59, ↓E_X7_rest_60, ↓E_X7_rest_63, ↓E_X7_rest_64, ↓E_X7_rest_65, ↓E_X7_rest_67, ↓E_X7_rest_70, ↓E_X7_rest_71, ↓E_X7_rest_73, ↓E_X7_rest_76, ↓E_X7_rest_77, ↓E_X7_rest_80, ↓E_X7_rest_81, ↓E_X7_rest_82, ↓E_X7_rest_84, ↓E_X7_rest_87, ↓E_X7_rest_88, ↓E_X7_rest_91, ↓E_X7_rest_92, ↓E_X7_rest_93, ↓E_X7_rest_96, ↓E_X7_rest_99, ↓E_X7_rest_100, ↓E_X7_rest_101, ↓E_X7_rest_102, ↓E_X7_rest_104, ↓E_X7_rest_107, ↓E_X7_rest_108, ↓E_X7_rest_111, ↓E_X7_rest_114, ↓E_X7_rest_115, ↓E_X7_rest_118, ↓E_X7_rest_120, ↓E_X7_rest_121, ↓E_X7_rest_123, ↓E_X7_rest_126, ↓E_X7_rest_127, ↓E_X7_rest_130, ↓E_X7_rest_131, ↓E_X7_rest_132, ↓E_X7_rest_133, ↓E_X7_rest_135, ↓E_X7_rest_138, ↓E_X7_rest_142, ↓E_X7_rest_144, ↓E_X7_rest_147, ↓E_X7_rest_149, ↓E_X7_rest_150, ↓E_X7_rest_153, ↓E_X7_rest_154, ↓E_X7_rest_155, ↓E_X7_rest_156, ↓E_X7_rest_158, ↓E_X7_rest_161, ↓E_X7_rest_162, ↓E_X7_rest_163, ↓E_X7_rest_164, ↓E_X7_rest_166, ↓E_X7_rest_169, ↓E_X7_rest_172, ↓E_X7_rest_175, ↓E_X7_rest_176, if_pos (show (100 : Int32) = 100 from rfl), if_neg n1, m1]
  · rw [if_neg (by omega), if_neg (by omega), if_neg (by omega), if_pos h] at hc
    rw [h]
    obtain ⟨v1, r, rv⟩ := r_m (d := d) (b := 1) (i := i + 1) (c9 := 109) (Or.inl rfl) ok hT hi
    have c1 : c.1 = 109 := tkM_1 (by rw [hc])
    rw [hc] at r rv
    obtain rfl := rv c rfl
    obtain ⟨σ', m1, m2, m3⟩ := M_setF (d := d + 2) (x := 0) (v := nI c.2.1) hw2
    have m1 := mx_one m1
    have dc : doC w c = (decide (¬ (F_set w 0 (nI c.2.1)).1 < 0), (F_set w 0 (nI c.2.1)).2) := by
      unfold doC
      rw [if_neg (by omega), if_neg (by omega), if_neg (by omega), if_pos c1]
    rw [dc]
    refine ⟨_, σ', fun q => ?_, doC_neg rfl, m2, m3⟩
    simp only [C_X7_rest, r]
    have ef : ocF (some c, p) = false := rfl
    simp (disch := omega) only [true_and, and_true, and_self, exists_eq_left, Option.toList_some, Option.toList_none, List.cons_append, List.nil_append, List.append_nil, i2_i, i2_r, i2_n, nz0, nz1, true_or, or_true, Nat.reduceAdd, Nat.le_refl, Nat.reduceLT, Nat.reduceLeDiff, ↓E_X7_rest_0, ↓E_X7_rest_1, ↓E_X7_rest_3, ↓E_X7_rest_6, ↓E_X7_rest_7, ↓E_X7_rest_10, ↓E_X7_rest_11, ↓E_X7_rest_12, ↓E_X7_rest_14, ↓E_X7_rest_16, ↓E_X7_rest_19, ↓E_X7_rest_20, ↓E_X7_rest_21, ↓E_X7_rest_24, ↓E_X7_rest_26, ↓E_X7_rest_27, ↓E_X7_rest_29, ↓E_X7_rest_31, ↓E_X7_rest_34, ↓E_X7_rest_35, ↓E_X7_rest_36, ↓E_X7_rest_39, ↓E_X7_rest_41, ↓E_X7_rest_42, ↓E_X7_rest_45, ↓E_X7_rest_46, ↓E_X7_rest_47, ↓E_X7_rest_49, ↓E_X7_rest_51, ↓E_X7_rest_54, ↓E_X7_rest_57, ↓E_X7_rest_58, ↓E_X7_rest_59, ↓E_X7_rest_60, ↓E_X7_rest_63, ↓E_X7_rest_64, ↓E_X7_rest_65, ↓E_X7_rest_67, ↓E_X7_rest_70, ↓E_X7_rest_71, ↓E_X7_rest_73, ↓E_X7_rest_76, ↓E_X7_rest_77, ↓E_X7_rest_80, ↓E_X7_rest_81, ↓E_X7_rest_82, ↓E_X7_rest_84, ↓E_X7_rest_87, ↓E_X7_rest_88, ↓E_X7_rest_91, ↓E_X7_rest_92, ↓E_X7_rest_93, ↓E_X7_rest_96, ↓E_X7_rest_100, ↓E_X7_rest_101, ↓E_X7_rest_102, ↓E_X7_rest_104, ↓E_X7_rest_107, ↓E_X7_rest_108, ↓E_X7_rest_111, ↓E_X7_rest_114, ↓E_X7_rest_115, ↓E_X7_rest_118, ↓E_X7_rest_120, ↓E_X7_rest_121, ↓E_X7_rest_123, ↓E_X7_rest_126, ↓E_X7_rest_127, ↓E_X7_rest_130, ↓E_X7_rest_131, ↓E_X7_rest_132, ↓E_X7_rest_133, ↓E_X7_rest_135, ↓E_X7_rest_138, ↓E_X7_rest_141, ↓E_X7_rest_142, ↓E_X7_rest_143, ↓E_X7_rest_144, ↓E_X7_rest_147, ↓E_X7_rest_149, ↓E_X7_rest_150, ↓E_X7_rest_153, ↓E_X7_rest_154, ↓E_X7_rest_155, ↓E_X7_rest_156, ↓E_X7_rest_158, ↓E_X7_rest_161, ↓E_X7_rest_162, ↓E_X7_rest_163, ↓E_X7_rest_164, ↓E_X7_rest_166, ↓E_X7_rest_169, ↓E_X7_rest_172, ↓E_X7_rest_175, ↓E_X7_rest_176, ef, if_neg n1, if_pos (show nI 109 = (109 : Int32) by decide), m1]
  · rw [if_neg (by omega), if_neg (by omega), if_neg (by omega), if_neg (by omega), if_pos h] at hc
    rw [h]
    obtain ⟨v1, r, rv⟩ := r_m (d := d) (b := 1) (i := i + 1) (c9 := 97) (Or.inr rfl) ok hT hi
    have c1 : c.1 = 97 := tkM_1 (by rw [hc])
    rw [hc] at r rv
    obtain rfl := rv c rfl
    obtain ⟨σ', m1, m2, m3⟩ := M_setF (d := d + 2) (x := 1) (v := nI c.2.1) hw2
    have m1 := mx_one m1
    have dc : doC w c = (decide (¬ (F_set w 1 (nI c.2.1)).1 < 0), (F_set w 1 (nI c.2.1)).2) := by
      unfold doC
      rw [if_neg (by omega), if_neg (by omega), if_neg (by omega), if_neg (by omega)]
    rw [dc]
    refine ⟨_, σ', fun q => ?_, doC_neg rfl, m2, m3⟩
    simp only [C_X7_rest, r]
    have ef : ocF (some c, p) = false := rfl
    simp (disch := omega) only [true_and, and_true, and_self, exists_eq_left, Option.toList_some, Option.toList_none, List.cons_append, List.nil_append, List.append_nil, i2_i, i2_r, i2_n, nz0, nz1, true_or, or_true, Nat.reduceAdd, Nat.le_refl, Nat.reduceLT, Nat.reduceLeDiff, ↓E_X7_rest_0, ↓E_X7_rest_1, ↓E_X7_rest_3, ↓E_X7_rest_6, ↓E_X7_rest_7, ↓E_X7_rest_10, ↓E_X7_rest_11, ↓E_X7_rest_12, ↓E_X7_rest_14, ↓E_X7_rest_16, ↓E_X7_rest_19, ↓E_X7_rest_20, ↓E_X7_rest_21, ↓E_X7_rest_24, ↓E_X7_rest_26, ↓E_X7_rest_27, ↓E_X7_rest_29, ↓E_X7_rest_31, ↓E_X7_rest_34, ↓E_X7_rest_35, ↓E_X7_rest_36, ↓E_X7_rest_39, ↓E_X7_rest_41, ↓E_X7_rest_42, ↓E_X7_rest_45, ↓E_X7_rest_46, ↓E_X7_rest_47, ↓E_X7_rest_49, ↓E_X7_rest_51, ↓E_X7_rest_54, ↓E_X7_rest_57, ↓E_X7_rest_58, ↓E_X7_rest_59, ↓E_X7_rest_60, ↓E_X7_rest_63, ↓E_X7_rest_64, ↓E_X7_rest_65, ↓E_X7_rest_67, ↓E_X7_rest_70, ↓E_X7_rest_71, ↓E_X7_rest_73, ↓E_X7_rest_76, ↓E_X7_rest_77, ↓E_X7_rest_80, ↓E_X7_rest_81, ↓E_X7_rest_82, ↓E_X7_rest_84, ↓E_X7_rest_87, ↓E_X7_rest_88, ↓E_X7_rest_91, ↓E_X7_rest_92, ↓E_X7_rest_93, ↓E_X7_rest_96, ↓E_X7_rest_100, ↓E_X7_rest_101, ↓E_X7_rest_102, ↓E_X7_rest_104, ↓E_X7_rest_107, ↓E_X7_rest_108, ↓E_X7_rest_111, ↓E_X7_rest_114, ↓E_X7_rest_115, ↓E_X7_rest_118, ↓E_X7_rest_120, ↓E_X7_rest_121, ↓E_X7_rest_123, ↓E_X7_rest_126, ↓E_X7_rest_127, ↓E_X7_rest_130, ↓E_X7_rest_131, ↓E_X7_rest_132, ↓E_X7_rest_133, ↓E_X7_rest_135, ↓E_X7_rest_138, ↓E_X7_rest_141, ↓E_X7_rest_142, ↓E_X7_rest_143, ↓E_X7_rest_144, ↓E_X7_rest_147, ↓E_X7_rest_149, ↓E_X7_rest_150, ↓E_X7_rest_153, ↓E_X7_rest_154, ↓E_X7_rest_155, ↓E_X7_rest_156, ↓E_X7_rest_158, ↓E_X7_rest_161, ↓E_X7_rest_162, ↓E_X7_rest_163, ↓E_X7_rest_164, ↓E_X7_rest_166, ↓E_X7_rest_169, ↓E_X7_rest_172, ↓E_X7_rest_175, ↓E_X7_rest_176, ef, if_neg n1, if_neg (show ¬ nI 97 = (109 : Int32) by decide), m1]
set_option maxHeartbeats 4000000 in
theorem m_clause1 {d i p wh n : Nat} {σ : mx_S} {w : Vw} {l : List Nat} {c : Cl} (ok : okL l) (hw : vwM w σ) (G : gS l i false wh (nI n) σ) (hc : tkC l i = (some c, p)) : ∃ σ', (∀ q, mx_call (d + 6) m_X7_clause [.ref 88, .int 1] σ q ↔ q = (none, σ')) ∧ vwM (doC w c).2 σ' ∧ gS l p false (wh + 1) (nI (n + (if (doC w c).1 = true then 1 else 0))) σ' ∧ loS σ σ' := by
  obtain ⟨hT, h20, h21, h22, h23⟩ := G
  have hx : i < l.length ∧ isLt (l.getD i 0) := by
    by_cases h : i < l.length ∧ isLt (l.getD i 0)
    · exact h
    · rw [tkC_no h] at hc; cases hc
  obtain ⟨v, σ1, r, hv, hw1, nw⟩ := rest_w (d := d) ok hT hw hx.1 hx.2 hc
  have q20 : σ1.1 88 20 = nI p := (nw.1 20 (by omega)).trans ps_20
  have q21 : σ1.1 88 21 = bz false := (nw.1 21 (by omega)).trans ps_21
  have q22 : σ1.1 88 22 = nI wh := ((nw.1 22 (by omega)).trans (ps_k (by omega) (by omega))).trans h22
  have q23 : σ1.1 88 23 = nI n := ((nw.1 23 (by omega)).trans (ps_k (by omega) (by omega))).trans h23
  have hT1 := nw.txt ((frG.ps (σ := σ) (p := p) (F := false)).tx hT)
  obtain ⟨g1, g2⟩ := clZ_g (p := p) (wh := wh) (F := false) (v := v) hT1 q20 q21
  rw [if_neg (show ¬ false = true by decide), q23] at g1
  have e1 : nI n + (if v < 0 then (0 : Int32) else 1) = nI (n + (if (doC w c).1 = true then 1 else 0)) := by
    by_cases e : (doC w c).1 = true
    · have hv2 : ¬ v < 0 := by rw [hv]; exact fun z => z e
      rw [if_neg hv2, if_pos e, nI_1]
    · have hv2 : v < 0 := by rw [hv]; exact e
      rw [if_pos hv2, if_neg e, nI_p0]
      rfl
  rw [e1] at g1
  refine ⟨_, fun q => ?_, g2.M.vw hw1, g1, ((frG.ps (σ := σ)).M.lo.tr nw.lo).tr g2.M.lo⟩
  rw [cl_to ok hT h20 h21 hx.1 hx.2]
  simp only [r, exists_eq_left, Option.toList_some, List.cons_append, List.nil_append]
  rw [cl_end q21 q22]
