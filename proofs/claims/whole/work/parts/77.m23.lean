/-! ===== the reference: signs of the text ===== -/
/-- at a place, faulty or not -/
def ps (σ : mx_S) (p : Nat) (F : Bool) : mx_S := (mx_u (mx_u σ.1 88 20 (nI p)) 88 21 (bz F), σ.2)
def txM2 (l : List Nat) (σ : mx_S) : Prop := σ.1 88 15 = nI l.length ∧ ∀ i, i < l.length → σ.1 97 i = nI (l.getD i 0)
theorem ps_20 {σ : mx_S} {p : Nat} {F : Bool} : (ps σ p F).1 88 20 = nI p := by unfold ps; simp (disch := omega) only [uu_col, uu_same]
theorem ps_21 {σ : mx_S} {p : Nat} {F : Bool} : (ps σ p F).1 88 21 = bz F := by unfold ps; simp only [uu_same]
theorem ps_15 {σ : mx_S} {p : Nat} {F : Bool} : (ps σ p F).1 88 15 = σ.1 88 15 := by unfold ps; simp (disch := omega) only [uu_col]
theorem ps_k {σ : mx_S} {p k : Nat} {F : Bool} (h : k ≠ 20) (h2 : k ≠ 21) : (ps σ p F).1 88 k = σ.1 88 k := by unfold ps; simp (disch := assumption) only [uu_col]
theorem ps_row {σ : mx_S} {p i : Nat} {F : Bool} (h : i ≠ 88) : (ps σ p F).1 i = σ.1 i := by unfold ps; simp (disch := assumption) only [mx_u_ne]
theorem ps_p {σ : mx_S} {p p' : Nat} {F : Bool} : (mx_u (ps σ p F).1 88 20 (nI p'), (ps σ p F).2) = ps σ p' F := by
  unfold ps
  refine Prod.ext ?_ rfl
  funext i j
  simp only [mx_u]
  by_cases h1 : i = 88 <;> by_cases h2 : j = 20 <;> by_cases h3 : j = 21 <;> simp [h1, h2, h3]
theorem ps_F {σ : mx_S} {p : Nat} {F F' : Bool} : (mx_u (ps σ p F).1 88 21 (bz F'), (ps σ p F).2) = ps σ p F' := by
  unfold ps
  refine Prod.ext ?_ rfl
  funext i j
  simp only [mx_u]
  by_cases h1 : i = 88 <;> by_cases h3 : j = 21 <;> simp [h1, h3]
theorem ps_self {σ : mx_S} {p : Nat} {F : Bool} (h1 : σ.1 88 20 = nI p) (h2 : σ.1 88 21 = bz F) : ps σ p F = σ := by
  unfold ps
  rw [mx_u_id h1, mx_u_id h2]
def hr (l : List Nat) (p : Nat) : Int32 := if p < l.length then nI (l.getD p 0) else -1
theorem m_here {d p : Nat} {F : Bool} {σ : mx_S} {l : List Nat} {q : mx_R} (ok : okL l) (hT : txM2 l σ) (hp : p ≤ l.length) : mx_call (d + 1) m_X7_here [.ref 88] (ps σ p F) q ↔ q = (some (.int (hr l p)), ps σ p F) := by
  have hl := ok.1
  unfold hr
  simp (disch := omega) only [C_X7_here, true_and, and_true, and_self, exists_eq_left, Option.toList_some, Option.toList_none, List.cons_append, List.nil_append, List.append_nil, i2_i, i2_r, i2_n, nz0, nz1, true_or, or_true, Nat.reduceAdd, Nat.le_refl, Nat.reduceLT, Nat.reduceLeDiff, ↓E_X7_here_0, ↓E_X7_here_1, ↓E_X7_here_4, ↓E_X7_here_5, ↓E_X7_here_8, ↓E_X7_here_12, ↓E_X7_here_15, ↓E_X7_here_16, ↓E_X7_here_19, ↓E_X7_here_20, ↓E_X7_here_23, ↓E_X7_here_24, ps_20, ps_15, hT.1, leN, ltN]
  by_cases e : p < l.length
  · have r : (ps σ p F).1 97 p = nI (l.getD p 0) := by rw [ps_row (by omega)]; exact hT.2 p e
    simp (disch := omega) only [if_pos e, if_neg (show ¬ l.length ≤ p by omega), true_and, and_true, and_self, exists_eq_left, Option.toList_some, Option.toList_none, List.cons_append, List.nil_append, List.append_nil, i2_i, i2_r, i2_n, nz0, nz1, true_or, or_true, Nat.reduceAdd, Nat.le_refl, Nat.reduceLT, Nat.reduceLeDiff, ↓E_X7_here_0, ↓E_X7_here_1, ↓E_X7_here_4, ↓E_X7_here_5, ↓E_X7_here_8, ↓E_X7_here_11, ↓E_X7_here_12, ↓E_X7_here_15, ↓E_X7_here_16, ↓E_X7_here_19, ↓E_X7_here_20, ↓E_X7_here_23, ↓E_X7_here_24, ps_20, kd_8, ln_100, vin, clN, r]
  · simp only [if_neg e, if_pos (show l.length ≤ p by omega)]
def tkB (l : List Nat) (lo hi p : Nat) : Bool := decide (p < l.length) && (decide (lo ≤ l.getD p 0) && decide (l.getD p 0 ≤ hi))
theorem inL_hr {l : List Nat} {lo hi p : Nat} (ok : okL l) (hl : lo < 128) (hh : hi < 128) : inL (hr l p).toInt64 (lN lo) (lN hi) = tkB l lo hi p := by
  have g := okL_get ok p
  unfold inL hr tkB
  rw [lN_toInt (by omega), lN_toInt (by omega), Int32.toInt_toInt64]
  by_cases e : p < l.length
  · rw [if_pos e, nI_toInt (by omega), decide_eq_true e, Bool.true_and]
    congr 1
    · exact decide_eq_decide.mpr (by omega)
    · exact decide_eq_decide.mpr (by omega)
  · rw [if_neg e, decide_eq_false e, Bool.false_and]
    have e1 : (-1 : Int32).toInt = -1 := rfl
    rw [e1, decide_eq_false (by omega), Bool.false_and]
theorem bz01 {b : Bool} : (bz b = 0 ∨ bz b = 1) = True := by cases b <;> simp [bz]
theorem bzt1 : (bz true = 1) = True := by simp [bz]
theorem bzor0 {b : Bool} : bz b ||| 0 = bz b := by cases b <;> decide
theorem bzor1 {b : Bool} : bz b ||| 1 = bz true := by cases b <;> decide
theorem sub_self0 {a : Nat} : nI a - nI a = nI 0 := by rw [pk_sub (Nat.le_refl _), Nat.sub_self]
set_option maxHeartbeats 4000000 in
theorem m_takes {d p lo hi : Nat} {F : Bool} {σ : mx_S} {l : List Nat} {q : mx_R} (ok : okL l) (hT : txM2 l σ) (hp : p ≤ l.length) (hl : lo < 128) (hh : hi < 128) : mx_call (d + 2) m_X7_takes [.ref 88, .int (nI lo), .int (nI hi)] (ps σ p F) q ↔ q = (some (.int (nI (if (!F && tkB l lo hi p) = true then l.getD p 0 - lo else 0))), ps σ (if (!F && tkB l lo hi p) = true then p + 1 else p) (F || !tkB l lo hi p)) := by
  have g := okL_get ok p
  have hin := inL_hr (p := p) ok hl hh
  have c0 := fun q => m_here (d := d) (F := F) (q := q) ok hT hp
  cases F with
  | true =>
    have e1 : (mx_u (ps σ p true).1 88 20 (nI p), (ps σ p true).2) = ps σ p true := ps_p
    have e2 : (mx_u (ps σ p true).1 88 21 (bz true), (ps σ p true).2) = ps σ p true := ps_F
    have z : ∀ b : Int32, (bz true ||| (if bz (tkB l lo hi p) = 0 then (1 : Int32) else 0)) = bz true := fun b => by cases tkB l lo hi p <;> decide
    simp only [Bool.not_true, Bool.false_and, if_neg (show ¬ false = true by decide), Bool.true_or]
    simp (disch := omega) only [C_X7_takes, true_and, and_true, and_self, exists_eq_left, Option.toList_some, Option.toList_none, List.cons_append, List.nil_append, List.append_nil, i2_i, i2_r, i2_n, nz0, nz1, true_or, or_true, Nat.reduceAdd, Nat.le_refl, Nat.reduceLT, Nat.reduceLeDiff, ↓E_X7_takes_0, ↓E_X7_takes_1, ↓E_X7_takes_2, ↓E_X7_takes_5, ↓E_X7_takes_6, ↓E_X7_takes_9, ↓E_X7_takes_10, ↓E_X7_takes_11, ↓E_X7_takes_12, ↓E_X7_takes_13, ↓E_X7_takes_14, ↓E_X7_takes_17, ↓E_X7_takes_20, ↓E_X7_takes_21, ↓E_X7_takes_24, ↓E_X7_takes_25, ↓E_X7_takes_26, ↓E_X7_takes_30, ↓E_X7_takes_33, ↓E_X7_takes_36, ↓E_X7_takes_37, ↓E_X7_takes_40, ↓E_X7_takes_41, ↓E_X7_takes_44, ↓E_X7_takes_45, ↓E_X7_takes_46, ↓E_X7_takes_47, ↓E_X7_takes_48, ↓E_X7_takes_49, ↓E_X7_takes_52, ↓E_X7_takes_53, ↓E_X7_takes_56, ↓E_X7_takes_59, ↓E_X7_takes_60, ↓E_X7_takes_63, ↓E_X7_takes_64, ↓E_X7_takes_65, ↓E_X7_takes_68, ↓E_X7_takes_69, c0, nI_l, s_in, hin, ps_21]
    cases tkB l lo hi p with
    | true =>
      simp only [bz_0, if_neg (show ¬ true = false by decide), bzor0, bzt1, or_true, true_and, bz01, e2]
      simp (disch := omega) only [true_and, and_true, and_self, exists_eq_left, Option.toList_some, Option.toList_none, List.cons_append, List.nil_append, List.append_nil, i2_i, i2_r, i2_n, nz0, nz1, true_or, or_true, Nat.reduceAdd, Nat.le_refl, Nat.reduceLT, Nat.reduceLeDiff, ↓E_X7_takes_0, ↓E_X7_takes_1, ↓E_X7_takes_2, ↓E_X7_takes_5, ↓E_X7_takes_6, ↓E_X7_takes_9, ↓E_X7_takes_10, ↓E_X7_takes_11, ↓E_X7_takes_12, ↓E_X7_takes_13, ↓E_X7_takes_14, ↓E_X7_takes_17, ↓E_X7_takes_20, ↓E_X7_takes_21, ↓E_X7_takes_24, ↓E_X7_takes_25, ↓E_X7_takes_26, ↓E_X7_takes_29, ↓E_X7_takes_30, ↓E_X7_takes_33, ↓E_X7_takes_36, ↓E_X7_takes_37, ↓E_X7_takes_41, ↓E_X7_takes_44, ↓E_X7_takes_45, ↓E_X7_takes_46, ↓E_X7_takes_47, ↓E_X7_takes_48, ↓E_X7_takes_49, ↓E_X7_takes_52, ↓E_X7_takes_53, ↓E_X7_takes_56, ↓E_X7_takes_59, ↓E_X7_takes_60, ↓E_X7_takes_64, ↓E_X7_takes_65, ↓E_X7_takes_68, ↓E_X7_takes_69, ps_21, bzt, if_false, ps_20, nI_p0, e1]
      rfl
    | false =>
      simp only [bz_0, if_true, bzor1, bzt1, or_true, true_and, bz01, e2]
      simp (disch := omega) only [true_and, and_true, and_self, exists_eq_left, Option.toList_some, Option.toList_none, List.cons_append, List.nil_append, List.append_nil, i2_i, i2_r, i2_n, nz0, nz1, true_or, or_true, Nat.reduceAdd, Nat.le_refl, Nat.reduceLT, Nat.reduceLeDiff, ↓E_X7_takes_0, ↓E_X7_takes_1, ↓E_X7_takes_2, ↓E_X7_takes_5, ↓E_X7_takes_6, ↓E_X7_takes_9, ↓E_X7_takes_10, ↓E_X7_takes_11, ↓E_X7_takes_12, ↓E_X7_takes_13, ↓E_X7_takes_14, ↓E_X7_takes_17, ↓E_X7_takes_20, ↓E_X7_takes_21, ↓E_X7_takes_24, ↓E_X7_takes_25, ↓E_X7_takes_26, ↓E_X7_takes_29, ↓E_X7_takes_30, ↓E_X7_takes_33, ↓E_X7_takes_36, ↓E_X7_takes_37, ↓E_X7_takes_41, ↓E_X7_takes_44, ↓E_X7_takes_45, ↓E_X7_takes_46, ↓E_X7_takes_47, ↓E_X7_takes_48, ↓E_X7_takes_49, ↓E_X7_takes_52, ↓E_X7_takes_53, ↓E_X7_takes_56, ↓E_X7_takes_59, ↓E_X7_takes_60, ↓E_X7_takes_64, ↓E_X7_takes_65, ↓E_X7_takes_68, ↓E_X7_takes_69, ps_21, bzt, if_false, ps_20, nI_p0, e1]
      rfl
  | false =>
    have c1 := fun q => m_here (d := d) (F := false) (q := q) ok hT hp
    have e2 : ∀ b, (mx_u (ps σ p false).1 88 21 (bz b), (ps σ p false).2) = ps σ p b := fun b => ps_F
    simp only [Bool.not_false, Bool.true_and, Bool.false_or]
    simp (disch := omega) only [C_X7_takes, true_and, and_true, and_self, exists_eq_left, Option.toList_some, Option.toList_none, List.cons_append, List.nil_append, List.append_nil, i2_i, i2_r, i2_n, nz0, nz1, true_or, or_true, Nat.reduceAdd, Nat.le_refl, Nat.reduceLT, Nat.reduceLeDiff, ↓E_X7_takes_0, ↓E_X7_takes_1, ↓E_X7_takes_2, ↓E_X7_takes_5, ↓E_X7_takes_6, ↓E_X7_takes_9, ↓E_X7_takes_10, ↓E_X7_takes_11, ↓E_X7_takes_12, ↓E_X7_takes_13, ↓E_X7_takes_14, ↓E_X7_takes_17, ↓E_X7_takes_20, ↓E_X7_takes_21, ↓E_X7_takes_24, ↓E_X7_takes_25, ↓E_X7_takes_26, ↓E_X7_takes_30, ↓E_X7_takes_33, ↓E_X7_takes_36, ↓E_X7_takes_37, ↓E_X7_takes_40, ↓E_X7_takes_41, ↓E_X7_takes_44, ↓E_X7_takes_45, ↓E_X7_takes_46, ↓E_X7_takes_47, ↓E_X7_takes_48, ↓E_X7_takes_49, ↓E_X7_takes_52, ↓E_X7_takes_53, ↓E_X7_takes_56, ↓E_X7_takes_59, ↓E_X7_takes_60, ↓E_X7_takes_63, ↓E_X7_takes_64, ↓E_X7_takes_65, ↓E_X7_takes_68, ↓E_X7_takes_69, c0, nI_l, s_in, hin, ps_21]
    cases hb : tkB l lo hi p with
    | true =>
      have hlt : p < l.length ∧ lo ≤ l.getD p 0 := by
        unfold tkB at hb
        simp only [Bool.and_eq_true, decide_eq_true_eq] at hb
        exact ⟨hb.1, hb.2.1⟩
      have hh2 : hr l p = nI (l.getD p 0) := if_pos hlt.1
      have e3 : (mx_u (ps σ p false).1 88 20 (nI (p + 1)), (ps σ p false).2) = ps σ (p + 1) false := ps_p
      simp only [bz_0, if_neg (show ¬ true = false by decide), bzor0, bzt1, or_true, true_and, bz01, e2]
      simp (disch := omega) only [true_and, and_true, and_self, exists_eq_left, Option.toList_some, Option.toList_none, List.cons_append, List.nil_append, List.append_nil, i2_i, i2_r, i2_n, nz0, nz1, true_or, or_true, Nat.reduceAdd, Nat.le_refl, Nat.reduceLT, Nat.reduceLeDiff, ↓E_X7_takes_0, ↓E_X7_takes_1, ↓E_X7_takes_2, ↓E_X7_takes_5, ↓E_X7_takes_6, ↓E_X7_takes_9, ↓E_X7_takes_10, ↓E_X7_takes_11, ↓E_X7_takes_12, ↓E_X7_takes_13, ↓E_X7_takes_14, ↓E_X7_takes_17, ↓E_X7_takes_20, ↓E_X7_takes_21, ↓E_X7_takes_24, ↓E_X7_takes_25, ↓E_X7_takes_26, ↓E_X7_takes_29, ↓E_X7_takes_30, ↓E_X7_takes_33, ↓E_X7_takes_37, ↓E_X7_takes_40, ↓E_X7_takes_41, ↓E_X7_takes_44, ↓E_X7_takes_45, ↓E_X7_takes_46, ↓E_X7_takes_47, ↓E_X7_takes_48, ↓E_X7_takes_49, ↓E_X7_takes_52, ↓E_X7_takes_53, ↓E_X7_takes_56, ↓E_X7_takes_60, ↓E_X7_takes_63, ↓E_X7_takes_64, ↓E_X7_takes_65, ↓E_X7_takes_68, ↓E_X7_takes_69, ps_21, bzf, if_true, c1, hh2, pk_sub, ps_20, nI_1, e3]
      rfl
    | false =>
      have e1 : (mx_u (ps σ p true).1 88 20 (nI p), (ps σ p true).2) = ps σ p true := ps_p
      simp only [bz_0, if_true, bzor1, bzt1, or_true, true_and, bz01, e2]
      simp (disch := omega) only [true_and, and_true, and_self, exists_eq_left, Option.toList_some, Option.toList_none, List.cons_append, List.nil_append, List.append_nil, i2_i, i2_r, i2_n, nz0, nz1, true_or, or_true, Nat.reduceAdd, Nat.le_refl, Nat.reduceLT, Nat.reduceLeDiff, ↓E_X7_takes_0, ↓E_X7_takes_1, ↓E_X7_takes_2, ↓E_X7_takes_5, ↓E_X7_takes_6, ↓E_X7_takes_9, ↓E_X7_takes_10, ↓E_X7_takes_11, ↓E_X7_takes_12, ↓E_X7_takes_13, ↓E_X7_takes_14, ↓E_X7_takes_17, ↓E_X7_takes_20, ↓E_X7_takes_21, ↓E_X7_takes_24, ↓E_X7_takes_25, ↓E_X7_takes_26, ↓E_X7_takes_29, ↓E_X7_takes_30, ↓E_X7_takes_33, ↓E_X7_takes_36, ↓E_X7_takes_37, ↓E_X7_takes_41, ↓E_X7_takes_44, ↓E_X7_takes_45, ↓E_X7_takes_46, ↓E_X7_takes_47, ↓E_X7_takes_48, ↓E_X7_takes_49, ↓E_X7_takes_52, ↓E_X7_takes_53, ↓E_X7_takes_56, ↓E_X7_takes_59, ↓E_X7_takes_60, ↓E_X7_takes_64, ↓E_X7_takes_65, ↓E_X7_takes_68, ↓E_X7_takes_69, ps_21, bzt, if_false, ps_20, nI_p0, e1]
      rfl
theorem tk_d {l : List Nat} {p : Nat} : tkB l 48 57 p = dgB l p := rfl
theorem tk_s {l : List Nat} {c p : Nat} : tkB l c c p = sgB l c p := by
  unfold tkB sgB
  congr 1
  rw [Bool.eq_iff_iff]
  simp only [Bool.and_eq_true, decide_eq_true_eq]
  omega
def nxP (l : List Nat) (p : Nat) (F : Bool) : Nat := if (!F && dgB l p) = true then p + 1 else p
theorem m_digit {d p : Nat} {F : Bool} {σ : mx_S} {l : List Nat} {q : mx_R} (ok : okL l) (hT : txM2 l σ) (hp : p ≤ l.length) : mx_call (d + 3) m_X7_takesDigit [.ref 88] (ps σ p F) q ↔ q = (some (.int (nI (if (!F && dgB l p) = true then l.getD p 0 - 48 else 0))), ps σ (if (!F && dgB l p) = true then p + 1 else p) (F || !dgB l p)) := by
  have c : ∀ q, mx_call (d + 2) m_X7_takes [.ref 88, .int 48, .int 57] (ps σ p F) q ↔ _ := fun q => m_takes (lo := 48) (hi := 57) ok hT hp (by omega) (by omega)
  rw [tk_d] at c
  simp (disch := omega) only [C_X7_takesDigit, true_and, and_true, and_self, exists_eq_left, Option.toList_some, Option.toList_none, List.cons_append, List.nil_append, List.append_nil, i2_i, i2_r, i2_n, nz0, nz1, true_or, or_true, Nat.reduceAdd, Nat.le_refl, Nat.reduceLT, Nat.reduceLeDiff, ↓E_X7_takesDigit_0, ↓E_X7_takesDigit_1, ↓E_X7_takesDigit_3, ↓E_X7_takesDigit_5, ↓E_X7_takesDigit_8, c]
theorem m_sign {d p c : Nat} {F : Bool} {σ : mx_S} {l : List Nat} {q : mx_R} (ok : okL l) (hT : txM2 l σ) (hp : p ≤ l.length) (hc : c < 128) : mx_call (d + 2) m_X7_takes [.ref 88, .int (nI c), .int (nI c)] (ps σ p F) q ↔ q = (some (.int (nI (if (!F && sgB l c p) = true then l.getD p 0 - c else 0))), ps σ (if (!F && sgB l c p) = true then p + 1 else p) (F || !sgB l c p)) := by
  have := m_takes (d := d) (F := F) (q := q) ok hT hp hc hc
  rw [tk_s] at this
  exact this
set_option maxHeartbeats 4000000 in
theorem m_number {d p : Nat} {F : Bool} {σ : mx_S} {l : List Nat} {q : mx_R} (ok : okL l) (hT : txM2 l σ) (hp : p ≤ l.length) : mx_call (d + 4) m_X7_takesNumber [.ref 88] (ps σ p F) q ↔ q = (some (.int (nI (if F = true then 0 else nmV l 2 p))), ps σ (if F = true then p else nmP l 2 p) (F || !dgB l p)) := by
  have c := fun q => m_digit (d := d) (F := F) (q := q) ok hT hp
  have hin := inL_hr (p := p + 1) ok (show 48 < 128 by omega) (show 57 < 128 by omega)
  have hin : inL (hr l (p + 1)).toInt64 48 57 = dgB l (p + 1) := hin
  cases F with
  | true =>
    simp only [Bool.not_true, Bool.false_and, if_neg (show ¬ false = true by decide), Bool.true_or] at c
    simp (disch := omega) only [C_X7_takesNumber, true_and, and_true, and_self, exists_eq_left, Option.toList_some, Option.toList_none, List.cons_append, List.nil_append, List.append_nil, i2_i, i2_r, i2_n, nz0, nz1, true_or, or_true, Nat.reduceAdd, Nat.le_refl, Nat.reduceLT, Nat.reduceLeDiff, ↓E_X7_takesNumber_0, ↓E_X7_takesNumber_1, ↓E_X7_takesNumber_4, ↓E_X7_takesNumber_5, ↓E_X7_takesNumber_6, ↓E_X7_takesNumber_9, ↓E_X7_takesNumber_13, ↓E_X7_takesNumber_16, ↓E_X7_takesNumber_17, ↓E_X7_takesNumber_20, ↓E_X7_takesNumber_23, ↓E_X7_takesNumber_26, ↓E_X7_takesNumber_29, ↓E_X7_takesNumber_31, ↓E_X7_takesNumber_32, ↓E_X7_takesNumber_33, ↓E_X7_takesNumber_34, ↓E_X7_takesNumber_37, ↓E_X7_takesNumber_38, ↓E_X7_takesNumber_41, ↓E_X7_takesNumber_42, c, ps_21, bzt, if_false, if_true, Bool.true_or]
  | false =>
    simp only [Bool.not_false, Bool.true_and, Bool.false_or] at c
    simp only [Bool.false_or, if_neg (show ¬ false = true by decide)]
    unfold nmV nmP
    by_cases h1 : dgB l p = false
    · simp only [h1, if_neg (show ¬ false = true by decide), Bool.not_false] at c
      simp (disch := omega) only [C_X7_takesNumber, true_and, and_true, and_self, exists_eq_left, Option.toList_some, Option.toList_none, List.cons_append, List.nil_append, List.append_nil, i2_i, i2_r, i2_n, nz0, nz1, true_or, or_true, Nat.reduceAdd, Nat.le_refl, Nat.reduceLT, Nat.reduceLeDiff, ↓E_X7_takesNumber_0, ↓E_X7_takesNumber_1, ↓E_X7_takesNumber_4, ↓E_X7_takesNumber_5, ↓E_X7_takesNumber_6, ↓E_X7_takesNumber_9, ↓E_X7_takesNumber_13, ↓E_X7_takesNumber_16, ↓E_X7_takesNumber_17, ↓E_X7_takesNumber_20, ↓E_X7_takesNumber_23, ↓E_X7_takesNumber_26, ↓E_X7_takesNumber_29, ↓E_X7_takesNumber_31, ↓E_X7_takesNumber_32, ↓E_X7_takesNumber_33, ↓E_X7_takesNumber_34, ↓E_X7_takesNumber_37, ↓E_X7_takesNumber_38, ↓E_X7_takesNumber_41, ↓E_X7_takesNumber_42, c, ps_21, bzt, if_false, h1, if_true, Bool.not_false]
    · have h1t := eq_true_of_ne_false h1
      have hlt := dgB_lt h1
      simp only [h1t, if_true, Bool.not_true] at c
      have c2 := fun q => m_here (d := d + 2) (F := false) (p := p + 1) (q := q) ok hT hlt
      have c3 := fun q => m_digit (d := d) (F := false) (p := p + 1) (q := q) ok hT hlt
      simp only [Bool.not_false, Bool.true_and, Bool.false_or] at c3
      simp only [h1t, if_neg (show ¬ true = false by decide), Bool.not_true]
      by_cases h2 : dgB l (p + 1) = true
      · simp only [h2, if_true, Bool.not_true] at c3
        simp (disch := omega) only [C_X7_takesNumber, true_and, and_true, and_self, exists_eq_left, Option.toList_some, Option.toList_none, List.cons_append, List.nil_append, List.append_nil, i2_i, i2_r, i2_n, nz0, nz1, true_or, or_true, Nat.reduceAdd, Nat.le_refl, Nat.reduceLT, Nat.reduceLeDiff, ↓E_X7_takesNumber_0, ↓E_X7_takesNumber_1, ↓E_X7_takesNumber_4, ↓E_X7_takesNumber_5, ↓E_X7_takesNumber_6, ↓E_X7_takesNumber_9, ↓E_X7_takesNumber_12, ↓E_X7_takesNumber_13, ↓E_X7_takesNumber_16, ↓E_X7_takesNumber_17, ↓E_X7_takesNumber_20, ↓E_X7_takesNumber_23, ↓E_X7_takesNumber_26, ↓E_X7_takesNumber_29, ↓E_X7_takesNumber_31, ↓E_X7_takesNumber_32, ↓E_X7_takesNumber_33, ↓E_X7_takesNumber_34, ↓E_X7_takesNumber_37, ↓E_X7_takesNumber_38, ↓E_X7_takesNumber_41, ↓E_X7_takesNumber_42, c, ps_21, bzf, if_true, c2, s_in, hin, h2, bzt, if_false, c3]
        have e9 : (10 : Int32) * nI (l.getD p 0 - 48) + nI (l.getD (p + 1) 0 - 48) = nI (10 * (l.getD p 0 - 48) + (l.getD (p + 1) 0 - 48)) := by
          rw [← nI_add, ← pk_mul]
          rfl
        rw [e9]
      · simp (disch := omega) only [C_X7_takesNumber, true_and, and_true, and_self, exists_eq_left, Option.toList_some, Option.toList_none, List.cons_append, List.nil_append, List.append_nil, i2_i, i2_r, i2_n, nz0, nz1, true_or, or_true, Nat.reduceAdd, Nat.le_refl, Nat.reduceLT, Nat.reduceLeDiff, ↓E_X7_takesNumber_0, ↓E_X7_takesNumber_1, ↓E_X7_takesNumber_4, ↓E_X7_takesNumber_5, ↓E_X7_takesNumber_6, ↓E_X7_takesNumber_9, ↓E_X7_takesNumber_12, ↓E_X7_takesNumber_13, ↓E_X7_takesNumber_16, ↓E_X7_takesNumber_17, ↓E_X7_takesNumber_20, ↓E_X7_takesNumber_23, ↓E_X7_takesNumber_26, ↓E_X7_takesNumber_29, ↓E_X7_takesNumber_31, ↓E_X7_takesNumber_32, ↓E_X7_takesNumber_33, ↓E_X7_takesNumber_34, ↓E_X7_takesNumber_37, ↓E_X7_takesNumber_38, ↓E_X7_takesNumber_41, ↓E_X7_takesNumber_42, c, ps_21, bzf, if_true, c2, s_in, hin, eq_false_of_ne_true h2]
        simp only [if_neg (show ¬ false = true by decide)]
