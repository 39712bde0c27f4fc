/-! ===== the class: books, judging ===== -/
/-- the first with g; n: none -/
def fsP (g : Nat → Bool) : Nat → Nat
  | 0 => 0
  | n + 1 => if fsP g n < n then fsP g n else if g n = true then n else n + 1
theorem fsP_hit {g : Nat → Bool} {t : Nat} (h : fsP g t = t) (ht : g t = true) : ∀ n, t < n → fsP g n = t := by
  intro n hn
  induction n with
  | zero => omega
  | succ n ih =>
    unfold fsP
    by_cases e : t < n
    · rw [ih e, if_pos e]
    · have : n = t := by omega
      subst this
      rw [h, if_neg (by omega), if_pos ht]
theorem fsP_miss {g : Nat → Bool} {t : Nat} (h : fsP g t = t) (ht : ¬ g t = true) : fsP g (t + 1) = t + 1 := by
  unfold fsP
  rw [h, if_neg (by omega), if_neg ht]
theorem fsP_le {g : Nat → Bool} : ∀ n, fsP g n ≤ n
  | 0 => Nat.le_refl _
  | n + 1 => by have := fsP_le (g := g) n; unfold fsP; split <;> (try split) <;> omega
def bkB (w : Vw) (i : Nat) : Bool := !(decide ((w.1.bk.getD i (0, 0)).2 < w.1.jn) && decide (w.1.O (w.1.bk.getD i (0, 0)).2 = (w.1.bk.getD i (0, 0)).1))
def F_looked (w : Vw) : Int32 := if fsP (bkB w) w.1.bk.length < w.1.bk.length then nI (fsP (bkB w) w.1.bk.length) else -5
theorem getD_mem {α : Type} {l : List α} {i : Nat} {y : α} (h : i < l.length) : l.getD i y ∈ l := by
  rw [List.getD_eq_getElem?_getD, List.getElem?_eq_getElem h]
  exact List.getElem_mem h
theorem nI_m1 {n : Nat} (h : n < 2147483648) : ¬ (-1 : Int32) = nI n := fun e => by
  have := congrArg Int32.toInt e
  rw [nI_toInt h] at this
  have e1 : (-1 : Int32).toInt = -1 := rfl
  omega
set_option maxHeartbeats 4000000 in
theorem l_looked {d : Nat} {σ : mx_S} {w : Vw} (hw : vwX w σ) : ∀ m t, t + m = w.1.bk.length → fsP (bkB w) t = t → mx_run (d + 2) m_X6_looked 2 [some (.ref 0), some (.int (nI t))] [] σ (some (.int (F_looked w)), σ) := by
  obtain ⟨H1, ⟨-, R1, R2, R3⟩, H3, H4, H5, H6⟩ := id hw
  have hl := H1.1.2.2.2.2.2.2.2
  have hn := H1.1.1
  have hO := H1.1.2.2.2.2.1.1
  intro m
  induction m with
  | zero =>
    intro t ht hf
    have e : t = w.1.bk.length := by omega
    subst e
    rw [E_X6_looked_2]
    simp (disch := omega) only [true_and, and_true, and_self, exists_eq_left, Option.toList_some, Option.toList_none, List.cons_append, List.nil_append, List.append_nil, i2_i, i2_r, i2_n, nz0, nz1, true_or, or_true, Nat.reduceAdd, Nat.le_refl, Nat.reduceLT, Nat.reduceLeDiff, ↓E_X6_looked_0, ↓E_X6_looked_1, ↓E_X6_looked_3, ↓E_X6_looked_4, ↓E_X6_looked_7, ↓E_X6_looked_10, ↓E_X6_looked_13, ↓E_X6_looked_14, ↓E_X6_looked_15, ↓E_X6_looked_18, ↓E_X6_looked_21, ↓E_X6_looked_22, ↓E_X6_looked_23, ↓E_X6_looked_26, ↓E_X6_looked_27, ↓E_X6_looked_30, ↓E_X6_looked_33, ↓E_X6_looked_34, ↓E_X6_looked_35, ↓E_X6_looked_38, ↓E_X6_looked_39, ↓E_X6_looked_40, ↓E_X6_looked_43, ↓E_X6_looked_46, ↓E_X6_looked_48, kd_1, R3.1, leN, if_true]
    unfold F_looked
    rw [if_neg (by omega)]
  | succ m ih =>
    intro t ht hf
    obtain ⟨b1, b2⟩ := R3.2 t (by omega)
    have b1 : σ.1 17 t = nI (w.1.bk.getD t (0, 0)).1 := b1
    have b2 : σ.1 18 t = nI (w.1.bk.getD t (0, 0)).2 := b2
    obtain ⟨k1, k2⟩ := hl.2 _ (getD_mem (y := (0, 0)) (show t < w.1.bk.length by omega))
    have hl8 : (8 : Nat) < 2147483648 := by omega
    have ca := X_at (d := d) (x := nI (w.1.bk.getD t (0, 0)).2) hw
    unfold F_at at ca
    rw [ibI_nI (by omega), ixI_nI (by omega)] at ca
    rw [E_X6_looked_2]
    simp (disch := omega) only [true_and, and_true, and_self, exists_eq_left, Option.toList_some, Option.toList_none, List.cons_append, List.nil_append, List.append_nil, i2_i, i2_r, i2_n, nz0, nz1, true_or, or_true, Nat.reduceAdd, Nat.le_refl, Nat.reduceLT, Nat.reduceLeDiff, ↓E_X6_looked_0, ↓E_X6_looked_1, ↓E_X6_looked_3, ↓E_X6_looked_4, ↓E_X6_looked_7, ↓E_X6_looked_10, ↓E_X6_looked_13, ↓E_X6_looked_14, ↓E_X6_looked_15, ↓E_X6_looked_18, ↓E_X6_looked_21, ↓E_X6_looked_22, ↓E_X6_looked_23, ↓E_X6_looked_26, ↓E_X6_looked_27, ↓E_X6_looked_30, ↓E_X6_looked_33, ↓E_X6_looked_34, ↓E_X6_looked_35, ↓E_X6_looked_38, ↓E_X6_looked_39, ↓E_X6_looked_40, ↓E_X6_looked_43, ↓E_X6_looked_46, ↓E_X6_looked_48, kd_1, kd_8, ln_8, R3.1, leN, vin, clN, b1, b2, mx_one ca, nI_1]
    rw [if_neg (by omega)]
    by_cases e1 : (w.1.bk.getD t (0, 0)).2 < w.1.jn
    · have := hO _ e1
      by_cases e2 : w.1.O (w.1.bk.getD t (0, 0)).2 = (w.1.bk.getD t (0, 0)).1
      · have hb : ¬ bkB w t = true := by unfold bkB; rw [decide_eq_true e1, decide_eq_true e2]; decide
        simp only [decide_eq_true e1, if_neg (show ¬ true = false by decide)]
        rw [if_pos (by rw [e2])]
        exact ih (t + 1) (by omega) (fsP_miss hf hb)
      · have hb : bkB w t = true := by unfold bkB; rw [decide_eq_false e2, Bool.and_false]; rfl
        simp only [decide_eq_true e1, if_neg (show ¬ true = false by decide)]
        rw [if_neg (by rw [nI_eq (by omega) (by omega)]; exact e2)]
        unfold F_looked
        rw [fsP_hit hf hb _ (by omega), if_pos (by omega)]
    · have hb : bkB w t = true := by unfold bkB; rw [decide_eq_false e1, Bool.false_and]; rfl
      simp only [decide_eq_false e1, if_true]
      rw [if_neg (nI_m1 (by omega))]
      unfold F_looked
      rw [fsP_hit hf hb _ (by omega), if_pos (by omega)]
theorem X_looked {d : Nat} {σ : mx_S} {w : Vw} (hw : vwX w σ) : mx_call (d + 3) m_X6_looked [.ref 0] σ (some (.int (F_looked w)), σ) := by
  simp (disch := omega) only [C_X6_looked, true_and, and_true, and_self, exists_eq_left, Option.toList_some, Option.toList_none, List.cons_append, List.nil_append, List.append_nil, i2_i, i2_r, i2_n, nz0, nz1, true_or, or_true, Nat.reduceAdd, Nat.le_refl, Nat.reduceLT, Nat.reduceLeDiff, ↓E_X6_looked_0, ↓E_X6_looked_1, ↓E_X6_looked_3, ↓E_X6_looked_4, ↓E_X6_looked_7, ↓E_X6_looked_10, ↓E_X6_looked_13, ↓E_X6_looked_14, ↓E_X6_looked_15, ↓E_X6_looked_18, ↓E_X6_looked_21, ↓E_X6_looked_22, ↓E_X6_looked_23, ↓E_X6_looked_26, ↓E_X6_looked_27, ↓E_X6_looked_30, ↓E_X6_looked_33, ↓E_X6_looked_34, ↓E_X6_looked_35, ↓E_X6_looked_38, ↓E_X6_looked_39, ↓E_X6_looked_40, ↓E_X6_looked_43, ↓E_X6_looked_46, ↓E_X6_looked_48]
  exact l_looked hw w.1.bk.length 0 (by omega) rfl
/-- ends told by a tape, from place i on -/
def jdR (w : Vw) (T : Int32 × Nat × (Nat → Int64)) (i : Nat) : Nat → Nat → Int32
  | _, 0 => -5
  | k, m + 1 => if T.2.1 ≤ i + k then nI (100 + k) else if ¬ T.2.2 (i + k) = (nI (EN w.1.V w.1.md w.1.O k)).toInt64 then nI k else jdR w T i (k + 1) m
def F_judge (w : Vw) (t i : Int32) : Int32 := if ibI t 6 = false then -1 else if ¬ (w.2.2.2 (ixI t)).1 = -1 ∧ ¬ (w.2.2.2 (ixI t)).1 = 1 then -12 else if w.1.jn = 0 then -5 else if ibI i (w.2.2.2 (ixI t)).2.1 = false then 100 else jdR w (w.2.2.2 (ixI t)) (ixI i) 0 w.1.jn
set_option maxHeartbeats 4000000 in
theorem l_judge {d : Nat} {w : Vw} {t i : Nat} (σ0 : mx_S) (hw0 : vwX w σ0) (ht : t < 6) (hi : i < 60) : ∀ m k (σ : mx_S), k + m = w.1.jn → halX w.1.V w.1.md w.1.O 47 k σ.1 → (∀ i, i ≠ 47 → σ.1 i = σ0.1 i) → σ.2 = σ0.2 →
    ∃ σ', mx_run (d + 1) m_X6_firstOtherEnd 9 [some (.ref 0), some (.ref (76 + 2 * t)), some (.int (nI i)), some (.int (nI k))] [] σ (some (.int (jdR w (w.2.2.2 t) i k m)), σ') ∧ (∀ i, i ≠ 47 → σ'.1 i = σ0.1 i) ∧ σ'.2 = σ0.2 := by
  obtain ⟨Z1, Z2, Z3, Z4, Z5⟩ := vwX_now hw0
  obtain ⟨T1, T2, T3, T4⟩ := tapX_at hw0 ht
  have hn := hw0.1.1.1
  have hV := okV_of hw0.1.1.2.2.2.1
  have hO := hw0.1.1.2.2.2.2.1.1
  have hmd := hw0.1.1.2.1
  intro m
  induction m with
  | zero =>
    intro k σ hk H g1 g2
    have h0' : σ.1 1 0 = nI w.1.jn := by rw [g1 1 (by omega)]; exact Z1
    refine ⟨σ, ?_, g1, g2⟩
    rw [E_X6_firstOtherEnd_9]
    simp (disch := omega) only [true_and, and_true, and_self, exists_eq_left, Option.toList_some, Option.toList_none, List.cons_append, List.nil_append, List.append_nil, i2_i, i2_r, i2_n, nz0, nz1, true_or, or_true, Nat.reduceAdd, Nat.le_refl, Nat.reduceLT, Nat.reduceLeDiff, ↓E_X6_firstOtherEnd_0, ↓E_X6_firstOtherEnd_1, ↓E_X6_firstOtherEnd_4, ↓E_X6_firstOtherEnd_7, ↓E_X6_firstOtherEnd_8, ↓E_X6_firstOtherEnd_10, ↓E_X6_firstOtherEnd_11, ↓E_X6_firstOtherEnd_14, ↓E_X6_firstOtherEnd_17, ↓E_X6_firstOtherEnd_20, ↓E_X6_firstOtherEnd_21, ↓E_X6_firstOtherEnd_22, ↓E_X6_firstOtherEnd_23, ↓E_X6_firstOtherEnd_24, ↓E_X6_firstOtherEnd_27, ↓E_X6_firstOtherEnd_30, ↓E_X6_firstOtherEnd_32, ↓E_X6_firstOtherEnd_33, ↓E_X6_firstOtherEnd_34, ↓E_X6_firstOtherEnd_35, ↓E_X6_firstOtherEnd_36, ↓E_X6_firstOtherEnd_39, ↓E_X6_firstOtherEnd_40, ↓E_X6_firstOtherEnd_43, ↓E_X6_firstOtherEnd_46, ↓E_X6_firstOtherEnd_47, ↓E_X6_firstOtherEnd_50, ↓E_X6_firstOtherEnd_53, ↓E_X6_firstOtherEnd_54, ↓E_X6_firstOtherEnd_55, ↓E_X6_firstOtherEnd_56, ↓E_X6_firstOtherEnd_57, ↓E_X6_firstOtherEnd_60, ↓E_X6_firstOtherEnd_63, ↓E_X6_firstOtherEnd_66, ↓E_X6_firstOtherEnd_67, ↓E_X6_firstOtherEnd_70, ↓E_X6_firstOtherEnd_71, ↓E_X6_firstOtherEnd_72, ↓E_X6_firstOtherEnd_73, ↓E_X6_firstOtherEnd_74, ↓E_X6_firstOtherEnd_75, ↓E_X6_firstOtherEnd_78, ↓E_X6_firstOtherEnd_81, ↓E_X6_firstOtherEnd_82, ↓E_X6_firstOtherEnd_83, ↓E_X6_firstOtherEnd_86, ↓E_X6_firstOtherEnd_87, ↓E_X6_firstOtherEnd_88, ↓E_X6_firstOtherEnd_91, ↓E_X6_firstOtherEnd_94, ↓E_X6_firstOtherEnd_96, kd_3, h0', leN]
    rw [if_pos (by omega)]
    rfl
  | succ m ih =>
    intro k σ hk H g1 g2
    have h0' : σ.1 1 0 = nI w.1.jn := by rw [g1 1 (by omega)]; exact Z1
    have m0' : σ.1 1 1 = nI w.1.md := by rw [g1 1 (by omega)]; exact Z2
    have ro : σ.1 9 k = nI (w.1.O k) := by rw [g1 9 (by omega)]; exact Z5 k (by omega)
    have T2' : σ.1 (76 + 2 * t) 2 = nI (w.2.2.2 t).2.1 := by rw [g1 _ (by omega)]; exact T2
    have hOk := hO k (by omega)
    obtain ⟨σ1, c1, H1, ⟨L2, L3, L4, L5, L6, L7⟩, f1, f2⟩ := s_press (d := d) (σ := σ) (h := 47) (a := 3 + w.1.O k) (n := w.1.jn) (md := w.1.md) (p := k) (V := w.1.V) (O := w.1.O) (Or.inl rfl) (by omega) hn hV hO (by omega) (fun k9 hk => by rw [g1 _ (by omega)]; exact Z4 _ k9 hOk hk) H hmd
    have f3 : σ1.2 = σ0.2 := by rw [f2, g2]
    have L7 : σ1.1 47 7 = nI (EN w.1.V w.1.md w.1.O k) := L7
    have eb : ibI (nI (i + k)) (w.2.2.2 t).2.1 = decide (i + k < (w.2.2.2 t).2.1) := ibI_nI (by omega)
    obtain ⟨σ', r, g⟩ := ih (k + 1) σ1 (by omega) H1 (fun i hi => by rw [f1 i hi, g1 i hi]) f3
    unfold jdR
    by_cases e1 : (w.2.2.2 t).2.1 ≤ i + k
    · refine ⟨σ, ?_, g1, g2⟩
      rw [E_X6_firstOtherEnd_9]
      simp (disch := omega) only [true_and, and_true, and_self, exists_eq_left, Option.toList_some, Option.toList_none, List.cons_append, List.nil_append, List.append_nil, i2_i, i2_r, i2_n, nz0, nz1, true_or, or_true, Nat.reduceAdd, Nat.le_refl, Nat.reduceLT, Nat.reduceLeDiff, ↓E_X6_firstOtherEnd_0, ↓E_X6_firstOtherEnd_1, ↓E_X6_firstOtherEnd_4, ↓E_X6_firstOtherEnd_7, ↓E_X6_firstOtherEnd_8, ↓E_X6_firstOtherEnd_10, ↓E_X6_firstOtherEnd_11, ↓E_X6_firstOtherEnd_14, ↓E_X6_firstOtherEnd_17, ↓E_X6_firstOtherEnd_20, ↓E_X6_firstOtherEnd_21, ↓E_X6_firstOtherEnd_22, ↓E_X6_firstOtherEnd_23, ↓E_X6_firstOtherEnd_24, ↓E_X6_firstOtherEnd_27, ↓E_X6_firstOtherEnd_30, ↓E_X6_firstOtherEnd_32, ↓E_X6_firstOtherEnd_33, ↓E_X6_firstOtherEnd_34, ↓E_X6_firstOtherEnd_35, ↓E_X6_firstOtherEnd_36, ↓E_X6_firstOtherEnd_39, ↓E_X6_firstOtherEnd_40, ↓E_X6_firstOtherEnd_43, ↓E_X6_firstOtherEnd_46, ↓E_X6_firstOtherEnd_47, ↓E_X6_firstOtherEnd_50, ↓E_X6_firstOtherEnd_53, ↓E_X6_firstOtherEnd_54, ↓E_X6_firstOtherEnd_55, ↓E_X6_firstOtherEnd_56, ↓E_X6_firstOtherEnd_57, ↓E_X6_firstOtherEnd_60, ↓E_X6_firstOtherEnd_63, ↓E_X6_firstOtherEnd_66, ↓E_X6_firstOtherEnd_67, ↓E_X6_firstOtherEnd_70, ↓E_X6_firstOtherEnd_71, ↓E_X6_firstOtherEnd_72, ↓E_X6_firstOtherEnd_73, ↓E_X6_firstOtherEnd_74, ↓E_X6_firstOtherEnd_75, ↓E_X6_firstOtherEnd_78, ↓E_X6_firstOtherEnd_81, ↓E_X6_firstOtherEnd_82, ↓E_X6_firstOtherEnd_83, ↓E_X6_firstOtherEnd_86, ↓E_X6_firstOtherEnd_87, ↓E_X6_firstOtherEnd_88, ↓E_X6_firstOtherEnd_91, ↓E_X6_firstOtherEnd_94, ↓E_X6_firstOtherEnd_96, kd_3, h0', leN, nI_add, s_hasItem, kdT, T2', ibx_N, eb, bz_0, decide_eq_false (show ¬ i + k < (w.2.2.2 t).2.1 by omega), if_true]
      rw [if_neg (by omega), if_pos e1]
      have e9 : (100 : Int32) + nI k = nI (100 + k) := nI_add 100 k
      rw [e9]
    · have it : σ1.2 (76 + 2 * t + 1) (i + k) = (w.2.2.2 t).2.2 (i + k) := by rw [f3]; exact T3 _ (by omega)
      by_cases e2 : (w.2.2.2 t).2.2 (i + k) = (nI (EN w.1.V w.1.md w.1.O k)).toInt64
      · refine ⟨σ', ?_, g⟩
        rw [E_X6_firstOtherEnd_9]
        simp (disch := omega) only [true_and, and_true, and_self, exists_eq_left, Option.toList_some, Option.toList_none, List.cons_append, List.nil_append, List.append_nil, i2_i, i2_r, i2_n, nz0, nz1, true_or, or_true, Nat.reduceAdd, Nat.le_refl, Nat.reduceLT, Nat.reduceLeDiff, ↓E_X6_firstOtherEnd_0, ↓E_X6_firstOtherEnd_1, ↓E_X6_firstOtherEnd_4, ↓E_X6_firstOtherEnd_7, ↓E_X6_firstOtherEnd_8, ↓E_X6_firstOtherEnd_10, ↓E_X6_firstOtherEnd_11, ↓E_X6_firstOtherEnd_14, ↓E_X6_firstOtherEnd_17, ↓E_X6_firstOtherEnd_20, ↓E_X6_firstOtherEnd_21, ↓E_X6_firstOtherEnd_22, ↓E_X6_firstOtherEnd_23, ↓E_X6_firstOtherEnd_24, ↓E_X6_firstOtherEnd_27, ↓E_X6_firstOtherEnd_30, ↓E_X6_firstOtherEnd_32, ↓E_X6_firstOtherEnd_33, ↓E_X6_firstOtherEnd_34, ↓E_X6_firstOtherEnd_35, ↓E_X6_firstOtherEnd_36, ↓E_X6_firstOtherEnd_39, ↓E_X6_firstOtherEnd_40, ↓E_X6_firstOtherEnd_43, ↓E_X6_firstOtherEnd_46, ↓E_X6_firstOtherEnd_47, ↓E_X6_firstOtherEnd_50, ↓E_X6_firstOtherEnd_53, ↓E_X6_firstOtherEnd_54, ↓E_X6_firstOtherEnd_55, ↓E_X6_firstOtherEnd_56, ↓E_X6_firstOtherEnd_57, ↓E_X6_firstOtherEnd_60, ↓E_X6_firstOtherEnd_63, ↓E_X6_firstOtherEnd_66, ↓E_X6_firstOtherEnd_67, ↓E_X6_firstOtherEnd_70, ↓E_X6_firstOtherEnd_71, ↓E_X6_firstOtherEnd_72, ↓E_X6_firstOtherEnd_73, ↓E_X6_firstOtherEnd_74, ↓E_X6_firstOtherEnd_75, ↓E_X6_firstOtherEnd_78, ↓E_X6_firstOtherEnd_81, ↓E_X6_firstOtherEnd_82, ↓E_X6_firstOtherEnd_83, ↓E_X6_firstOtherEnd_86, ↓E_X6_firstOtherEnd_87, ↓E_X6_firstOtherEnd_88, ↓E_X6_firstOtherEnd_91, ↓E_X6_firstOtherEnd_94, ↓E_X6_firstOtherEnd_96, kd_3, kd_0, kd_8, kd_12, ln_6, h0', m0', leN, nI_add, s_hasItem, kdT, T2', ibx_N, eb, bz_0, decide_eq_true (show i + k < (w.2.2.2 t).2.1 by omega), if_neg (show ¬ true = false by decide), vin, clN, ro, ptrG, mx_one c1, kd_11, ln_60, it, L7, lgc0, nI_1]
        rw [if_neg (by omega), if_neg e1, if_pos e2, if_neg (fun z => z e2)]
        exact r
      · refine ⟨σ1, ?_, fun i hi => by rw [f1 i hi, g1 i hi], f3⟩
        rw [E_X6_firstOtherEnd_9]
        simp (disch := omega) only [true_and, and_true, and_self, exists_eq_left, Option.toList_some, Option.toList_none, List.cons_append, List.nil_append, List.append_nil, i2_i, i2_r, i2_n, nz0, nz1, true_or, or_true, Nat.reduceAdd, Nat.le_refl, Nat.reduceLT, Nat.reduceLeDiff, ↓E_X6_firstOtherEnd_0, ↓E_X6_firstOtherEnd_1, ↓E_X6_firstOtherEnd_4, ↓E_X6_firstOtherEnd_7, ↓E_X6_firstOtherEnd_8, ↓E_X6_firstOtherEnd_10, ↓E_X6_firstOtherEnd_11, ↓E_X6_firstOtherEnd_14, ↓E_X6_firstOtherEnd_17, ↓E_X6_firstOtherEnd_20, ↓E_X6_firstOtherEnd_21, ↓E_X6_firstOtherEnd_22, ↓E_X6_firstOtherEnd_23, ↓E_X6_firstOtherEnd_24, ↓E_X6_firstOtherEnd_27, ↓E_X6_firstOtherEnd_30, ↓E_X6_firstOtherEnd_32, ↓E_X6_firstOtherEnd_33, ↓E_X6_firstOtherEnd_34, ↓E_X6_firstOtherEnd_35, ↓E_X6_firstOtherEnd_36, ↓E_X6_firstOtherEnd_39, ↓E_X6_firstOtherEnd_40, ↓E_X6_firstOtherEnd_43, ↓E_X6_firstOtherEnd_46, ↓E_X6_firstOtherEnd_47, ↓E_X6_firstOtherEnd_50, ↓E_X6_firstOtherEnd_53, ↓E_X6_firstOtherEnd_54, ↓E_X6_firstOtherEnd_55, ↓E_X6_firstOtherEnd_56, ↓E_X6_firstOtherEnd_57, ↓E_X6_firstOtherEnd_60, ↓E_X6_firstOtherEnd_63, ↓E_X6_firstOtherEnd_66, ↓E_X6_firstOtherEnd_67, ↓E_X6_firstOtherEnd_70, ↓E_X6_firstOtherEnd_71, ↓E_X6_firstOtherEnd_72, ↓E_X6_firstOtherEnd_73, ↓E_X6_firstOtherEnd_74, ↓E_X6_firstOtherEnd_75, ↓E_X6_firstOtherEnd_78, ↓E_X6_firstOtherEnd_81, ↓E_X6_firstOtherEnd_82, ↓E_X6_firstOtherEnd_83, ↓E_X6_firstOtherEnd_86, ↓E_X6_firstOtherEnd_87, ↓E_X6_firstOtherEnd_88, ↓E_X6_firstOtherEnd_91, ↓E_X6_firstOtherEnd_94, ↓E_X6_firstOtherEnd_96, kd_3, kd_0, kd_8, kd_12, ln_6, h0', m0', leN, nI_add, s_hasItem, kdT, T2', ibx_N, eb, bz_0, decide_eq_true (show i + k < (w.2.2.2 t).2.1 by omega), if_neg (show ¬ true = false by decide), vin, clN, ro, ptrG, mx_one c1, kd_11, ln_60, it, L7, lgc0, nI_1]
        rw [if_neg (by omega), if_neg e1, if_neg e2, if_pos e2]
set_option maxHeartbeats 4000000 in
theorem X_judge {d : Nat} {σ : mx_S} {w : Vw} {a b : Int32} (hw : vwX w σ) : ∃ σ', mx_call (d + 3) m_X6_judge [.ref 0, .int a, .int b] σ (some (.int (F_judge w a b)), σ') ∧ vwX w σ' ∧ hiS σ σ' := by
  obtain ⟨S1, S2, S3, S4, S5⟩ := vwX_now hw
  have hn := hw.1.1.1
  generalize hF : F_judge w a b = R
  unfold F_judge at hF
  simp (disch := omega) only [C_X6_judge, true_and, and_true, and_self, exists_eq_left, Option.toList_some, Option.toList_none, List.cons_append, List.nil_append, List.append_nil, i2_i, i2_r, i2_n, nz0, nz1, true_or, or_true, Nat.reduceAdd, Nat.le_refl, Nat.reduceLT, Nat.reduceLeDiff, ↓E_X6_judge_0, ↓E_X6_judge_1, ↓E_X6_judge_3, ↓E_X6_judge_6, ↓E_X6_judge_9, ↓E_X6_judge_10, ↓E_X6_judge_11, ↓E_X6_judge_12, ↓E_X6_judge_15, ↓E_X6_judge_16, ↓E_X6_judge_17, ↓E_X6_judge_18, ↓E_X6_judge_19, ↓E_X6_judge_22, ↓E_X6_judge_23, ↓E_X6_judge_26, ↓E_X6_judge_27, ↓E_X6_judge_30, ↓E_X6_judge_31, ↓E_X6_judge_34, ↓E_X6_judge_36, ↓E_X6_judge_37, ↓E_X6_judge_38, ↓E_X6_judge_41, ↓E_X6_judge_44, ↓E_X6_judge_47, ↓E_X6_judge_49, ↓E_X6_judge_50, ↓E_X6_judge_51, ↓E_X6_judge_52, ↓E_X6_judge_55, ↓E_X6_judge_58, ↓E_X6_judge_60, ↓E_X6_judge_61, ↓E_X6_judge_62, ↓E_X6_judge_63, ↓E_X6_judge_64, ↓E_X6_judge_67, s_isBelow, bz_0, ibx_6]
  by_cases e0 : ibI a 6 = false
  · simp only [if_pos e0] at hF ⊢
    subst hF
    exact ⟨σ, rfl, hw, hiS.rf⟩
  obtain ⟨ha, ha2, ha3⟩ := ibI_of (eq_true_of_ne_false e0)
  simp only [if_neg e0] at hF ⊢
  generalize ixI a = t at *
  subst ha
  obtain ⟨T1, T2, T3, T4⟩ := tapX_at hw ha2
  simp (disch := omega) only [true_and, and_true, and_self, exists_eq_left, Option.toList_some, Option.toList_none, List.cons_append, List.nil_append, List.append_nil, i2_i, i2_r, i2_n, nz0, nz1, true_or, or_true, Nat.reduceAdd, Nat.le_refl, Nat.reduceLT, Nat.reduceLeDiff, ↓E_X6_judge_0, ↓E_X6_judge_1, ↓E_X6_judge_3, ↓E_X6_judge_6, ↓E_X6_judge_9, ↓E_X6_judge_10, ↓E_X6_judge_11, ↓E_X6_judge_12, ↓E_X6_judge_15, ↓E_X6_judge_16, ↓E_X6_judge_17, ↓E_X6_judge_18, ↓E_X6_judge_19, ↓E_X6_judge_22, ↓E_X6_judge_23, ↓E_X6_judge_26, ↓E_X6_judge_27, ↓E_X6_judge_30, ↓E_X6_judge_31, ↓E_X6_judge_34, ↓E_X6_judge_36, ↓E_X6_judge_37, ↓E_X6_judge_38, ↓E_X6_judge_41, ↓E_X6_judge_44, ↓E_X6_judge_47, ↓E_X6_judge_49, ↓E_X6_judge_50, ↓E_X6_judge_51, ↓E_X6_judge_52, ↓E_X6_judge_55, ↓E_X6_judge_58, ↓E_X6_judge_60, ↓E_X6_judge_61, ↓E_X6_judge_62, ↓E_X6_judge_63, ↓E_X6_judge_64, ↓E_X6_judge_67, kd_14, ln_6, vin, clN, ptrT, kdT, T1, T2, kd_3, S1, nI_eq0 hn, s_hasItem, ibx_N, bz_0]
  by_cases e1 : ¬ (w.2.2.2 t).1 = -1 ∧ ¬ (w.2.2.2 t).1 = 1
  · simp only [if_neg e1.1, if_neg e1.2, if_pos e1] at hF ⊢
    subst hF
    exact ⟨σ, rfl, hw, hiS.rf⟩
  simp only [if_neg e1] at hF
  have t1 : ∀ {A B : Prop}, (if (w.2.2.2 t).1 = -1 then A else if (w.2.2.2 t).1 = 1 then A else B) = A := by
    intro A B
    by_cases z : (w.2.2.2 t).1 = -1
    · rw [if_pos z]
    · rw [if_neg z]
      by_cases z2 : (w.2.2.2 t).1 = 1
      · rw [if_pos z2]
      · exact absurd ⟨z, z2⟩ e1
  simp only [t1]
  by_cases e2 : w.1.jn = 0
  · simp only [if_pos e2] at hF ⊢
    subst hF
    exact ⟨σ, rfl, hw, hiS.rf⟩
  simp only [if_neg e2] at hF ⊢
  by_cases e3 : ibI b (w.2.2.2 t).2.1 = false
  · simp only [if_pos e3] at hF ⊢
    subst hF
    exact ⟨σ, rfl, hw, hiS.rf⟩
  obtain ⟨hb, hb2, hb3⟩ := ibI_of (eq_true_of_ne_false e3)
  simp only [if_neg e3] at hF ⊢
  generalize ixI b = i at *
  subst hb
  obtain ⟨σ1, c1, H1, f1, f2⟩ := s_open (d := d) (σ := σ) (h := 47) (Or.inl rfl) w.1.V w.1.md w.1.O
  obtain ⟨σ2, r, g1, g2⟩ := l_judge (d := d) (i := i) σ hw ha2 (by omega) w.1.jn 0 σ1 (by omega) H1 f1 f2
  have c2 : ∀ q, mx_call (d + 2) m_X6_firstOtherEnd [.ref 0, .ref (76 + 2 * t), .int (nI i)] σ q ↔ q = (some (.int (jdR w (w.2.2.2 t) i 0 w.1.jn)), σ2) := by
    refine mx_one ?_
    simp (disch := omega) only [C_X6_firstOtherEnd, true_and, and_true, and_self, exists_eq_left, Option.toList_some, Option.toList_none, List.cons_append, List.nil_append, List.append_nil, i2_i, i2_r, i2_n, nz0, nz1, true_or, or_true, Nat.reduceAdd, Nat.le_refl, Nat.reduceLT, Nat.reduceLeDiff, ↓E_X6_firstOtherEnd_0, ↓E_X6_firstOtherEnd_1, ↓E_X6_firstOtherEnd_4, ↓E_X6_firstOtherEnd_7, ↓E_X6_firstOtherEnd_8, ↓E_X6_firstOtherEnd_10, ↓E_X6_firstOtherEnd_11, ↓E_X6_firstOtherEnd_14, ↓E_X6_firstOtherEnd_17, ↓E_X6_firstOtherEnd_20, ↓E_X6_firstOtherEnd_21, ↓E_X6_firstOtherEnd_22, ↓E_X6_firstOtherEnd_23, ↓E_X6_firstOtherEnd_24, ↓E_X6_firstOtherEnd_27, ↓E_X6_firstOtherEnd_30, ↓E_X6_firstOtherEnd_32, ↓E_X6_firstOtherEnd_33, ↓E_X6_firstOtherEnd_34, ↓E_X6_firstOtherEnd_35, ↓E_X6_firstOtherEnd_36, ↓E_X6_firstOtherEnd_39, ↓E_X6_firstOtherEnd_40, ↓E_X6_firstOtherEnd_43, ↓E_X6_firstOtherEnd_46, ↓E_X6_firstOtherEnd_47, ↓E_X6_firstOtherEnd_50, ↓E_X6_firstOtherEnd_53, ↓E_X6_firstOtherEnd_54, ↓E_X6_firstOtherEnd_55, ↓E_X6_firstOtherEnd_56, ↓E_X6_firstOtherEnd_57, ↓E_X6_firstOtherEnd_60, ↓E_X6_firstOtherEnd_63, ↓E_X6_firstOtherEnd_66, ↓E_X6_firstOtherEnd_67, ↓E_X6_firstOtherEnd_70, ↓E_X6_firstOtherEnd_71, ↓E_X6_firstOtherEnd_72, ↓E_X6_firstOtherEnd_73, ↓E_X6_firstOtherEnd_74, ↓E_X6_firstOtherEnd_75, ↓E_X6_firstOtherEnd_78, ↓E_X6_firstOtherEnd_81, ↓E_X6_firstOtherEnd_82, ↓E_X6_firstOtherEnd_83, ↓E_X6_firstOtherEnd_86, ↓E_X6_firstOtherEnd_87, ↓E_X6_firstOtherEnd_88, ↓E_X6_firstOtherEnd_91, ↓E_X6_firstOtherEnd_94, ↓E_X6_firstOtherEnd_96, kd_0, mx_one c1]
    exact r
  have sc := sc47 g1 g2
  simp (disch := omega) only [c2, true_and, and_true, and_self, exists_eq_left, Option.toList_some, Option.toList_none, List.cons_append, List.nil_append, List.append_nil, i2_i, i2_r, i2_n, nz0, nz1, true_or, or_true, Nat.reduceAdd, Nat.le_refl, Nat.reduceLT, Nat.reduceLeDiff, ↓E_X6_judge_0, ↓E_X6_judge_1, ↓E_X6_judge_3, ↓E_X6_judge_6, ↓E_X6_judge_9, ↓E_X6_judge_10, ↓E_X6_judge_11, ↓E_X6_judge_12, ↓E_X6_judge_15, ↓E_X6_judge_16, ↓E_X6_judge_17, ↓E_X6_judge_18, ↓E_X6_judge_19, ↓E_X6_judge_22, ↓E_X6_judge_23, ↓E_X6_judge_26, ↓E_X6_judge_27, ↓E_X6_judge_30, ↓E_X6_judge_31, ↓E_X6_judge_34, ↓E_X6_judge_36, ↓E_X6_judge_37, ↓E_X6_judge_38, ↓E_X6_judge_41, ↓E_X6_judge_44, ↓E_X6_judge_47, ↓E_X6_judge_49, ↓E_X6_judge_50, ↓E_X6_judge_51, ↓E_X6_judge_52, ↓E_X6_judge_55, ↓E_X6_judge_58, ↓E_X6_judge_60, ↓E_X6_judge_61, ↓E_X6_judge_62, ↓E_X6_judge_63, ↓E_X6_judge_64, ↓E_X6_judge_67]
  subst hF
  exact ⟨σ2, rfl, sc.vw hw, sc.hi⟩
