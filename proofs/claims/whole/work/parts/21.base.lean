/-! ===== parts that stay, small methods of the class ===== -/
def ibI (x : Int32) (m : Nat) : Bool := decide (0 ≤ x.toInt) && decide (x.toInt < m)
def ibx (x n : Int32) : Bool := decide (0 ≤ x.toInt) && decide (x.toInt < n.toInt)
theorem ibx_N {x : Int32} {m : Nat} (h : m < 2147483648) : ibx x (nI m) = ibI x m := by unfold ibx ibI; rw [nI_toInt h]
theorem ibx_2 {x : Int32} : ibx x 2 = ibI x 2 := rfl
theorem ibx_3 {x : Int32} : ibx x 3 = ibI x 3 := rfl
theorem ibx_4 {x : Int32} : ibx x 4 = ibI x 4 := rfl
theorem ibx_5 {x : Int32} : ibx x 5 = ibI x 5 := rfl
theorem ibx_6 {x : Int32} : ibx x 6 = ibI x 6 := rfl
theorem ibx_7 {x : Int32} : ibx x 7 = ibI x 7 := rfl
theorem ibx_128 {x : Int32} : ibx x 128 = ibI x 128 := rfl
theorem ibI_of {x : Int32} {m : Nat} (h : ibI x m = true) : x = nI (ixI x) ∧ ixI x < m ∧ ixI x < 2147483648 := by
  simp only [ibI, Bool.and_eq_true, decide_eq_true_eq] at h
  have hb : x.toInt < 2147483648 := x.toInt_lt
  refine ⟨?_, ?_, ?_⟩
  · apply Int32.toInt_inj.mp
    rw [nI_toInt (by unfold ixI; omega)]
    unfold ixI
    omega
  · unfold ixI; omega
  · unfold ixI; omega
theorem ibI_nI {j m : Nat} (h : j < 2147483648) : ibI (nI j) m = decide (j < m) := by
  simp only [ibI, nI_toInt h]
  by_cases hj : j < m
  · simp [hj]
  · simp [hj]
theorem rowX_agr {l : List (Nat × Nat)} {a : Nat} {f f' : Nat → Nat → Int32} (h : ∀ i, a ≤ i → i ≤ a + 2 → f' i = f i) (H : rowX l a f) : rowX l a f' := by
  unfold rowX at *
  rw [h a (by omega) (by omega), h (a + 1) (by omega) (by omega), h (a + 2) (by omega) (by omega)]
  exact H
theorem shpX_agr {n md am : Nat} {V : Nat → Nat → Nat} {O : Nat → Nat} {a : Nat} {f f' : Nat → Nat → Int32} (hn : n ≤ 6) (h : ∀ i, a ≤ i → i ≤ a + 8 → f' i = f i) (H : shpX n md am V O a f) : shpX n md am V O a f' := by
  unfold shpX at *
  rw [h a (by omega) (by omega), h (a + 8) (by omega) (by omega)]
  refine ⟨H.1, H.2.1, H.2.2.1, fun j k hj hk => ?_, H.2.2.2.2⟩
  rw [h (a + 2 + j) (by omega) (by omega)]
  exact H.2.2.2.1 j k hj hk
theorem imgX_agr {o : Option Cfg} {f f' : Nat → Nat → Int32} (ho : ∀ c, o = some c → okC c) (h0 : f' 0 = f 0) (h : ∀ i, 19 ≤ i → i ≤ 36 → f' i = f i) (H : imgX o f) : imgX o f' := by
  cases o with
  | none => exact (congrFun h0 8).trans H
  | some c =>
    have hn : c.jn ≤ 6 := (ho c rfl).1
    obtain ⟨H1, H2, H3, H4, H5⟩ := H
    exact ⟨(congrFun h0 8).trans H1, shpX_agr hn (fun i _ _ => h i (by omega) (by omega)) H2, rowX_agr (fun i _ _ => h i (by omega) (by omega)) H3, rowX_agr (fun i _ _ => h i (by omega) (by omega)) H4, rowX_agr (fun i _ _ => h i (by omega) (by omega)) H5⟩
theorem txtX_agr {l : List Nat} {f f' : Nat → Nat → Int32} (h0 : f' 60 2 = f 60 2) (h1 : f' 61 = f 61) (H : txtX l f) : txtX l f' := by
  unfold txtX at *
  rw [h0, h1]
  exact H
theorem tapX_agr {T : Nat → Int32 × Nat × (Nat → Int64)} {σ σ' : mx_S} (h1 : ∀ i, 76 ≤ i → i < 88 → σ'.1 i = σ.1 i) (h2 : ∀ i, 76 ≤ i → i < 88 → σ'.2 i = σ.2 i) (H : tapX T σ) : tapX T σ' := by
  intro t ht
  obtain ⟨a, b, c⟩ := H t ht
  rw [h1 (76 + 2 * t) (by omega) (by omega)]
  refine ⟨a, b, fun i hi => ?_⟩
  rw [h2 (77 + 2 * t) (by omega) (by omega)]
  exact c i hi
theorem cfgX_agr {c : Cfg} {h s e b : Nat} {f f' : Nat → Nat → Int32} (hn : c.jn ≤ 6) (g1 : ∀ i, h ≤ i → i ≤ h + 8 → f' i = f i) (g2 : ∀ i, s ≤ i → i ≤ s + 2 → f' i = f i) (g3 : ∀ i, e ≤ i → i ≤ e + 2 → f' i = f i) (g4 : ∀ i, b ≤ i → i ≤ b + 2 → f' i = f i) (H : cfgX c h s e b f) : cfgX c h s e b f' :=
  ⟨shpX_agr hn g1 H.1, rowX_agr g2 H.2.1, rowX_agr g3 H.2.2.1, rowX_agr g4 H.2.2.2⟩
/-- only what is scratch has changed -/
def scX (σ σ' : mx_S) : Prop := (∀ i, (i < 37 ∨ 60 ≤ i ∨ i = 52) → σ'.1 i = σ.1 i) ∧ σ'.2 = σ.2
theorem scX.rf {σ : mx_S} : scX σ σ := ⟨fun _ _ => rfl, rfl⟩
theorem scX.tr {a b c : mx_S} (h : scX a b) (g : scX b c) : scX a c := ⟨fun i hi => (g.1 i hi).trans (h.1 i hi), g.2.trans h.2⟩
theorem scX.u {σ : mx_S} {a k : Nat} {x : Int32} (h : 37 ≤ a) (h2 : a < 60) (h3 : a ≠ 52) : scX σ (mx_u σ.1 a k x, σ.2) := ⟨fun i hi => mx_u_ne (by omega), rfl⟩
theorem scX.c {σ : mx_S} {a : Nat} {g : Nat → Int32} (h : 37 ≤ a) (h2 : a < 60) (h3 : a ≠ 52) : scX σ (mx_c σ.1 a g, σ.2) := ⟨fun i hi => mx_c_ne (by omega), rfl⟩
theorem scX.hi {σ σ' : mx_S} (h : scX σ σ') : hiS σ σ' := fun i hi => ⟨h.1 i (by omega), by rw [h.2]⟩
theorem scX.vw {w : Vw} {σ σ' : mx_S} (h : scX σ σ') (H : vwX w σ) : vwX w σ' := by
  obtain ⟨H1, H2, H3, H4, H5, H6⟩ := H
  exact ⟨H1, cfgX_agr H1.1.1 (fun i _ _ => h.1 i (by omega)) (fun i _ _ => h.1 i (by omega)) (fun i _ _ => h.1 i (by omega)) (fun i _ _ => h.1 i (by omega)) H2, imgX_agr H1.2.1 (h.1 0 (by omega)) (fun i _ _ => h.1 i (by omega)) H3, txtX_agr (by rw [h.1 60 (by omega)]) (h.1 61 (by omega)) H4, tapX_agr (fun i _ _ => h.1 i (by omega)) (fun i _ _ => by rw [h.2]) H5, fun j hj => by rw [h.1 52 (by omega)]; exact H6 j hj⟩
theorem s_isBelow {d : Nat} {σ : mx_S} {q : mx_R} {x n : Int32} : mx_call (d + 1) m_X6_isBelow [.int x, .int n] σ q ↔ q = (some (.int (bz (ibx x n))), σ) := by
  rw [C_X6_isBelow]
  simp only [true_and, and_true, and_self, exists_eq_left, Option.toList_some, Option.toList_none, List.cons_append, List.nil_append, List.append_nil, i2_i, i2_r, i2_n, nz0, nz1, true_or, or_true, Nat.reduceAdd, Nat.le_refl, Nat.reduceLT, Nat.reduceLeDiff, ↓E_X6_isBelow_0, ↓E_X6_isBelow_1, ↓E_X6_isBelow_4, ↓E_X6_isBelow_5, ↓E_X6_isBelow_6, ↓E_X6_isBelow_9, ↓E_X6_isBelow_10, ↓E_X6_isBelow_13, ↓E_X6_isBelow_14]
  simp only [ibx, l32, le32]
  have e0 : (0 : Int32).toInt = 0 := rfl
  rw [e0]
  by_cases h1 : x.toInt < 0
  · rw [if_pos h1, show decide (0 ≤ x.toInt) = false by simp; omega]
    rfl
  · rw [if_neg h1, show decide (0 ≤ x.toInt) = true by simp; omega]
    by_cases h2 : n.toInt ≤ x.toInt
    · rw [if_pos h2, show decide (x.toInt < n.toInt) = false by simp; omega]
      rfl
    · rw [if_neg h2, show decide (x.toInt < n.toInt) = true by simp; omega]
      rfl
theorem s_hasJob {d : Nat} {σ : mx_S} {q : mx_R} {h : Nat} {x : Int32} (hs : h = 1 ∨ h = 19 ∨ h = 37) : mx_call (d + 1) m_X3_hasJob [.ref h, .int x] σ q ↔ q = (some (.int (bz (ibx x (σ.1 h 0)))), σ) := by
  rw [C_X3_hasJob]
  simp only [true_and, and_true, and_self, exists_eq_left, Option.toList_some, Option.toList_none, List.cons_append, List.nil_append, List.append_nil, i2_i, i2_r, i2_n, nz0, nz1, true_or, or_true, Nat.reduceAdd, Nat.le_refl, Nat.reduceLT, Nat.reduceLeDiff, ↓E_X3_hasJob_0, ↓E_X3_hasJob_1, ↓E_X3_hasJob_4, ↓E_X3_hasJob_5, ↓E_X3_hasJob_6, ↓E_X3_hasJob_9, ↓E_X3_hasJob_12, ↓E_X3_hasJob_13, ↓E_X3_hasJob_16, ↓E_X3_hasJob_17, kd_3 hs]
  simp only [ibx, l32, le32]
  have e0 : (0 : Int32).toInt = 0 := rfl
  rw [e0]
  by_cases h1 : x.toInt < 0
  · rw [if_pos h1, show decide (0 ≤ x.toInt) = false by simp; omega]
    rfl
  · rw [if_neg h1, show decide (0 ≤ x.toInt) = true by simp; omega]
    by_cases h2 : (σ.1 h 0).toInt ≤ x.toInt
    · rw [if_pos h2, show decide (x.toInt < (σ.1 h 0).toInt) = false by simp; omega]
      rfl
    · rw [if_neg h2, show decide (x.toInt < (σ.1 h 0).toInt) = true by simp; omega]
      rfl
theorem tb_lim {k : Nat} (h : k < 6) : mx_tab k = nI (lim k) := by
  rcases (show k = 0 ∨ k = 1 ∨ k = 2 ∨ k = 3 ∨ k = 4 ∨ k = 5 by omega) with rfl | rfl | rfl | rfl | rfl | rfl <;> rfl
theorem lim_le (k : Nat) : lim k ≤ 99 := by
  unfold lim
  split <;> omega
theorem s_isWithin {d : Nat} {σ : mx_S} {q : mx_R} {x : Int32} {k : Nat} (hk : k < 6) : mx_call (d + 1) m_X6_isWithin [.int x, .int (nI k)] σ q ↔ q = (some (.int (bz (inI x (lim k)))), σ) := by
  rw [C_X6_isWithin]
  simp (disch := omega) only [true_and, and_true, and_self, exists_eq_left, Option.toList_some, Option.toList_none, List.cons_append, List.nil_append, List.append_nil, i2_i, i2_r, i2_n, nz0, nz1, true_or, or_true, Nat.reduceAdd, Nat.le_refl, Nat.reduceLT, Nat.reduceLeDiff, ↓E_X6_isWithin_0, ↓E_X6_isWithin_1, ↓E_X6_isWithin_4, ↓E_X6_isWithin_5, ↓E_X6_isWithin_8, ↓E_X6_isWithin_9, ↓E_X6_isWithin_10, ↓E_X6_isWithin_13, ↓E_X6_isWithin_14, ↓E_X6_isWithin_17, ↓E_X6_isWithin_18, vin, clN]
  rw [tb_lim hk]
  simp only [inI, l32, le32, nI_toInt (show lim k < 2147483648 by have := lim_le k; omega)]
  have e0 : (0 : Int32).toInt = 0 := rfl
  rw [e0]
  by_cases h1 : x.toInt < 0
  · rw [if_pos h1, show decide (0 ≤ x.toInt) = false by simp; omega]
    rfl
  · rw [if_neg h1, show decide (0 ≤ x.toInt) = true by simp; omega]
    by_cases h2 : (lim k : Int) < x.toInt
    · rw [if_pos h2, show decide (x.toInt ≤ (lim k : Int)) = false by simp; omega]
      rfl
    · rw [if_neg h2, show decide (x.toInt ≤ (lim k : Int)) = true by simp; omega]
      rfl
