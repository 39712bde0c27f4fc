/-! ===== the reference: image, undo ===== -/
theorem loc_3 {p : Nat} (h : p < 3) : loc p = (88, p) := by unfold loc; rw [if_pos h]
theorem loc_6 {i : Nat} (h : i < 3) : loc (3 + i) = (88, 11 + i) := by unfold loc; rw [if_neg (by omega), if_pos (by omega)]; exact Prod.ext rfl (by show 3 + i + 8 = _; omega)
theorem loc_89 {i : Nat} (h : i < 36) : loc (6 + i) = (89, i) := by unfold loc; rw [if_neg (by omega), if_neg (by omega), if_pos (by omega)]; exact Prod.ext rfl (by show 6 + i - 6 = _; omega)
theorem loc_90 {i : Nat} (h : i < 6) : loc (42 + i) = (90, i) := by unfold loc; rw [if_neg (by omega), if_neg (by omega), if_neg (by omega), if_pos (by omega)]; exact Prod.ext rfl (by show 42 + i - 42 = _; omega)
theorem loc_91 {i : Nat} (h : i < 5) : loc (48 + i) = (91, i) := by unfold loc; rw [if_neg (by omega), if_neg (by omega), if_neg (by omega), if_neg (by omega), if_pos (by omega)]; exact Prod.ext rfl (by show 48 + i - 48 = _; omega)
theorem loc_92 {i : Nat} (h : i < 5) : loc (53 + i) = (92, i) := by unfold loc; rw [if_neg (by omega), if_neg (by omega), if_neg (by omega), if_neg (by omega), if_neg (by omega), if_pos (by omega)]; exact Prod.ext rfl (by show 53 + i - 53 = _; omega)
theorem loc_93 {i : Nat} (h : i < 8) : loc (58 + i) = (93, i) := by unfold loc; rw [if_neg (by omega), if_neg (by omega), if_neg (by omega), if_neg (by omega), if_neg (by omega), if_neg (by omega), if_pos (by omega)]; exact Prod.ext rfl (by show 58 + i - 58 = _; omega)
theorem loc_94 {i : Nat} (h : i < 8) : loc (66 + i) = (94, i) := by unfold loc; rw [if_neg (by omega), if_neg (by omega), if_neg (by omega), if_neg (by omega), if_neg (by omega), if_neg (by omega), if_neg (by omega), if_pos (by omega)]; exact Prod.ext rfl (by show 66 + i - 66 = _; omega)
theorem loc_95 {i : Nat} (h : i < 8) : loc (74 + i) = (95, i) := by unfold loc; rw [if_neg (by omega), if_neg (by omega), if_neg (by omega), if_neg (by omega), if_neg (by omega), if_neg (by omega), if_neg (by omega), if_neg (by omega), if_pos (by omega)]; exact Prod.ext rfl (by show 74 + i - 74 = _; omega)
theorem loc_96 {i : Nat} (h : i < 8) : loc (82 + i) = (96, i) := by unfold loc; rw [if_neg (by omega), if_neg (by omega), if_neg (by omega), if_neg (by omega), if_neg (by omega), if_neg (by omega), if_neg (by omega), if_neg (by omega), if_neg (by omega)]; exact Prod.ext rfl (by show 82 + i - 82 = _; omega)
/-- a view of what is now, by what passes -/
theorem cfgM_loc {c : Cfg} (ok : okC c) {f : Nat → Nat → Int32} {g : Nat → Int32} (h : ∀ p, p < 90 → f (loc p).1 (loc p).2 = g p) : cfgM c f ↔ cfgI c g := by
  have e0 : ∀ i, i < 3 → f 88 i = g i := fun i hi => by have := h i (by omega); rw [loc_3 hi] at this; exact this
  have e1 : ∀ i, i < 3 → f 88 (11 + i) = g (3 + i) := fun i hi => by have := h (3 + i) (by omega); rw [loc_6 hi] at this; exact this
  have e89 : ∀ i, i < 36 → f 89 i = g (6 + i) := fun i hi => by have := h (6 + i) (by omega); rw [loc_89 hi] at this; exact this
  have e90 : ∀ i, i < 6 → f 90 i = g (42 + i) := fun i hi => by have := h (42 + i) (by omega); rw [loc_90 hi] at this; exact this
  have e91 : ∀ i, i < 5 → f 91 i = g (48 + i) := fun i hi => by have := h (48 + i) (by omega); rw [loc_91 hi] at this; exact this
  have e92 : ∀ i, i < 5 → f 92 i = g (53 + i) := fun i hi => by have := h (53 + i) (by omega); rw [loc_92 hi] at this; exact this
  have e93 : ∀ i, i < 8 → f 93 i = g (58 + i) := fun i hi => by have := h (58 + i) (by omega); rw [loc_93 hi] at this; exact this
  have e94 : ∀ i, i < 8 → f 94 i = g (66 + i) := fun i hi => by have := h (66 + i) (by omega); rw [loc_94 hi] at this; exact this
  have e95 : ∀ i, i < 8 → f 95 i = g (74 + i) := fun i hi => by have := h (74 + i) (by omega); rw [loc_95 hi] at this; exact this
  have e96 : ∀ i, i < 8 → f 96 i = g (82 + i) := fun i hi => by have := h (82 + i) (by omega); rw [loc_96 hi] at this; exact this
  have hn := ok.1
  have l1 := ok.2.2.2.2.2.1.1
  have l2 := ok.2.2.2.2.2.2.1.1
  have l3 := ok.2.2.2.2.2.2.2.1
  unfold cfgM cfgI rowM rowI
  constructor
  · rintro ⟨⟨a0, a1, a2, a3, a4⟩, ⟨r1, s1⟩, ⟨r2, s2⟩, r3, s3⟩
    refine ⟨⟨by rw [← e0 0 (by omega)]; exact a0, by rw [← e0 1 (by omega)]; exact a1, by rw [← e0 2 (by omega)]; exact a2, fun j k hj hk => by rw [← e89 _ (by omega)]; exact a3 j k hj hk, fun p hp => by rw [← e90 _ (by omega)]; exact a4 p hp⟩, ⟨?_, fun i hi => ?_⟩, ⟨?_, fun i hi => ?_⟩, ?_, fun i hi => ?_⟩
    · have := e1 0 (by omega); exact this.symm.trans r1
    · rw [← e91 i (by omega), ← e92 i (by omega)]; exact s1 i hi
    · have := e1 1 (by omega); exact this.symm.trans r2
    · rw [← e93 i (by omega), ← e94 i (by omega)]; exact s2 i hi
    · have := e1 2 (by omega); exact this.symm.trans r3
    · rw [← e95 i (by omega), ← e96 i (by omega)]; exact s3 i hi
  · rintro ⟨⟨a0, a1, a2, a3, a4⟩, ⟨r1, s1⟩, ⟨r2, s2⟩, r3, s3⟩
    refine ⟨⟨by rw [e0 0 (by omega)]; exact a0, by rw [e0 1 (by omega)]; exact a1, by rw [e0 2 (by omega)]; exact a2, fun j k hj hk => by rw [e89 _ (by omega)]; exact a3 j k hj hk, fun p hp => by rw [e90 _ (by omega)]; exact a4 p hp⟩, ⟨?_, fun i hi => ?_⟩, ⟨?_, fun i hi => ?_⟩, ?_, fun i hi => ?_⟩
    · have := e1 0 (by omega); exact this.trans r1
    · rw [e91 i (by omega), e92 i (by omega)]; exact s1 i hi
    · have := e1 1 (by omega); exact this.trans r2
    · rw [e93 i (by omega), e94 i (by omega)]; exact s2 i hi
    · have := e1 2 (by omega); exact this.trans r3
    · rw [e95 i (by omega), e96 i (by omega)]; exact s3 i hi
set_option maxHeartbeats 2000000 in
theorem M_image {d : Nat} {σ : mx_S} {w : Vw} (hw : vwM w σ) : ∃ σ', mx_call (d + 4) m_X7_image [.ref 88] σ (some (.int (F_image w).1), σ') ∧ vwM (F_image w).2 σ' ∧ loS σ σ' := by
  obtain ⟨H1, H2, H3, H4, H5⟩ := id hw
  obtain ⟨σ', c, p1, p2, p3, p4, p5, p6, p7⟩ := m_passAll (d := d) (K := true) (σ := (mx_u σ.1 88 17 1, σ.2))
  have c' : ∀ q, mx_call (d + 3) m_X7_passesAll [.ref 88, .int 1] (mx_u σ.1 88 17 1, σ.2) q ↔ q = (some (.int (σ'.1 88 0)), σ') := c
  have e2 : ∀ p, p < 90 → (mx_u σ.1 88 17 1) (loc p).1 (loc p).2 = σ.1 (loc p).1 (loc p).2 := fun p hp => uu_any (by have := loc_in p hp; omega)
  have q2 : ∀ p, p < 90 → σ'.1 (loc p).1 (loc p).2 = σ.1 (loc p).1 (loc p).2 := fun p hp => (p3 p hp).2.trans (e2 p hp)
  have q98 : ∀ p, p < 90 → σ'.1 98 p = σ.1 (loc p).1 (loc p).2 := fun p hp => (p3 p hp).1.trans (e2 p hp)
  have hI : cfgI w.1 (fun p => σ.1 (loc p).1 (loc p).2) := (cfgM_loc H1.1 (fun p _ => rfl)).mp H2
  have hI' : cfgI w.1 (σ'.1 98) := by
    have z1 := (cfgM_loc (f := σ'.1) (g := σ'.1 98) H1.1 (fun p hp => (q2 p hp).trans (q98 p hp).symm)).mp
    refine z1 ((cfgM_loc (f := σ'.1) (g := fun p => σ.1 (loc p).1 (loc p).2) H1.1 q2).mpr hI)
  have hC : cfgM w.1 σ'.1 := (cfgM_loc (f := σ'.1) (g := fun p => σ.1 (loc p).1 (loc p).2) H1.1 q2).mpr hI
  have z0 : σ'.1 88 0 = nI w.1.jn := hC.1.1
  have fr : ∀ i, (i < 88 ∨ i = 97 ∨ 99 ≤ i) → σ'.1 i = σ.1 i := fun i hi => (p6 i hi).trans (mx_u_ne (by omega))
  refine ⟨σ', ?_, ⟨⟨H1.1, fun c hc => by cases hc; exact H1.1, H1.2.2⟩, hC, ⟨?_, hI'⟩, txtM_agr ?_ (fr 97 (by omega)) H4, tapM_agr (fr 111 (by omega)) (fr 112 (by omega)) (fun i _ _ => by rw [p7]) H5⟩, fun i hi => ⟨fr i (by omega), by rw [p7]⟩⟩
  · simp (disch := omega) only [C_X7_image, true_and, and_true, and_self, exists_eq_left, Option.toList_some, Option.toList_none, List.cons_append, List.nil_append, List.append_nil, i2_i, i2_r, i2_n, nz0, nz1, true_or, or_true, Nat.reduceAdd, Nat.le_refl, Nat.reduceLT, Nat.reduceLeDiff, ↓E_X7_image_0, ↓E_X7_image_1, ↓E_X7_image_2, ↓E_X7_image_5, ↓E_X7_image_6, ↓E_X7_image_7, ↓E_X7_image_10, c', z0]
    rfl
  · rw [p5 17 (by omega)]; show mx_u σ.1 88 17 1 88 17 = 1; rw [uu_same]
  · rw [p5 15 (by omega)]; show mx_u σ.1 88 17 1 88 15 = _; rw [uu_col (by omega)]
set_option maxHeartbeats 2000000 in
theorem M_undo {d : Nat} {σ : mx_S} {w : Vw} (hw : vwM w σ) : ∃ σ', mx_call (d + 4) m_X7_undo [.ref 88] σ (some (.int (F_undo w).1), σ') ∧ vwM (F_undo w).2 σ' ∧ loS σ σ' := by
  obtain ⟨H1, H2, H3, H4, H5⟩ := id hw
  unfold F_undo
  cases hi : w.2.1 with
  | none =>
    rw [hi] at H3
    have H3 : σ.1 88 17 = 0 := H3
    refine ⟨σ, ?_, hw, loS.rf⟩
    simp (disch := omega) only [C_X7_undo, true_and, and_true, and_self, exists_eq_left, Option.toList_some, Option.toList_none, List.cons_append, List.nil_append, List.append_nil, i2_i, i2_r, i2_n, nz0, nz1, true_or, or_true, Nat.reduceAdd, Nat.le_refl, Nat.reduceLT, Nat.reduceLeDiff, ↓E_X7_undo_0, ↓E_X7_undo_1, ↓E_X7_undo_4, ↓E_X7_undo_8, ↓E_X7_undo_9, ↓E_X7_undo_12, ↓E_X7_undo_15, ↓E_X7_undo_17, H3, if_true]
  | some c =>
    rw [hi] at H3
    obtain ⟨h17, hI⟩ := H3
    have okc := H1.2.1 c hi
    obtain ⟨σ', cc, p1, p2, p3, p4, p5, p6, p7⟩ := m_passAll (d := d) (K := false) (σ := σ)
    have c' : ∀ q, mx_call (d + 3) m_X7_passesAll [.ref 88, .int 0] σ q ↔ q = (some (.int (σ'.1 88 0)), σ') := cc
    have q2 : ∀ p, p < 90 → σ'.1 (loc p).1 (loc p).2 = σ'.1 98 p := fun p hp => (p3 p hp).2.trans (p3 p hp).1.symm
    have q98 : ∀ p, p < 90 → σ'.1 98 p = σ.1 98 p := fun p hp => (p3 p hp).1
    have hC : cfgM c σ'.1 := (cfgM_loc (f := σ'.1) (g := σ.1 98) okc (fun p hp => (q2 p hp).trans (q98 p hp))).mpr hI
    have hI' : cfgI c (σ'.1 98) := (cfgM_loc (f := σ'.1) (g := σ'.1 98) okc q2).mp hC
    have z0 : σ'.1 88 0 = nI c.jn := hC.1.1
    refine ⟨σ', ?_, ⟨⟨okc, fun c9 hc => H1.2.1 c9 hc, H1.2.2⟩, hC, ?_, txtM_agr (p5 15 (by omega)) (p6 97 (by omega)) H4, tapM_agr (p6 111 (by omega)) (p6 112 (by omega)) (fun i _ _ => by rw [p7]) H5⟩, fun i hi => ⟨p6 i (by omega), by rw [p7]⟩⟩
    · simp (disch := omega) only [C_X7_undo, true_and, and_true, and_self, exists_eq_left, Option.toList_some, Option.toList_none, List.cons_append, List.nil_append, List.append_nil, i2_i, i2_r, i2_n, nz0, nz1, true_or, or_true, Nat.reduceAdd, Nat.le_refl, Nat.reduceLT, Nat.reduceLeDiff, ↓E_X7_undo_0, ↓E_X7_undo_1, ↓E_X7_undo_4, ↓E_X7_undo_7, ↓E_X7_undo_8, ↓E_X7_undo_9, ↓E_X7_undo_12, ↓E_X7_undo_15, ↓E_X7_undo_17, h17, if_neg (show ¬ (1 : Int32) = 0 by decide), c', z0]
    · show imgM w.2.1 σ'.1
      rw [hi]
      exact ⟨(p5 17 (by omega)).trans h17, hI'⟩
