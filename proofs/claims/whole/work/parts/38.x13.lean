/-! ===== the class: what is told ===== -/
def smV (g : Nat → Nat) : Nat → Nat
  | 0 => 0
  | n + 1 => smV g n + g n
def mnV (g : Nat → Nat) : Nat → Nat
  | 0 => 1000
  | n + 1 => min (mnV g n) (g n)
def mxV (g : Nat → Nat) : Nat → Nat
  | 0 => 0
  | n + 1 => max (mxV g n) (g n)
theorem smV_le {g : Nat → Nat} {B : Nat} : ∀ n, (∀ j, j < n → g j ≤ B) → smV g n ≤ B * n
  | 0, _ => by simp [smV]
  | n + 1, h => by
    have h1 := smV_le n (fun j hj => h j (by omega))
    have h2 := h n (by omega)
    unfold smV
    rw [Nat.mul_succ]
    omega
theorem mnV_le {g : Nat → Nat} : ∀ n, mnV g n ≤ 1000
  | 0 => Nat.le_refl _
  | n + 1 => by have := mnV_le (g := g) n; unfold mnV; omega
theorem mxV_le {g : Nat → Nat} {B : Nat} : ∀ n, (∀ j, j < n → g j ≤ B) → mxV g n ≤ B
  | 0, _ => Nat.zero_le _
  | n + 1, h => by
    have h1 := mxV_le n (fun j hj => h j (by omega))
    have h2 := h n (by omega)
    unfold mxV
    omega
def bnd (w : Vw) : Nat := max (smV (fun j => w.1.V j 0) w.1.jn + mnV (fun j => w.1.V j 1 + w.1.V j 2) w.1.jn) (smV (fun j => w.1.V j 2) w.1.jn + mnV (fun j => w.1.V j 0 + w.1.V j 1) w.1.jn)
def xmn (g : Nat → Nat) (t : Nat) : Int32 := if t = 0 then 1000000 else nI (mnV g t)
theorem xmn_s {g : Nat → Nat} {t : Nat} (h : g t ≤ 1000) : (if nI (g t) < xmn g t then nI (g t) else xmn g t) = xmn g (t + 1) := by
  unfold xmn
  rw [if_neg (show ¬ t + 1 = 0 by omega)]
  by_cases e : t = 0
  · subst e
    rw [if_pos rfl]
    have h1 : nI (g 0) < 1000000 := nI_lt (b := 1000000) (by omega) (by omega)
    rw [if_pos h1]
    have : mnV g 1 = g 0 := by show min 1000 (g 0) = g 0; omega
    rw [this]
  · rw [if_neg e]
    have := mnV_le (g := g) t
    rw [nI_min (by omega) (by omega)]
    rfl
set_option maxHeartbeats 4000000 in
theorem l_bound {d : Nat} {σ : mx_S} {w : Vw} {q : mx_R} (hw : vwX w σ) (hj : w.1.jn ≠ 0) : ∀ m t (lx : Option Value), t + m = w.1.jn → (mx_run d m_X3_bound 14 [some (.ref 1), some (.int (nI (smV (fun j => w.1.V j 0) t))), some (.int (nI (smV (fun j => w.1.V j 2) t))), some (.int (xmn (fun j => w.1.V j 1 + w.1.V j 2) t)), some (.int (xmn (fun j => w.1.V j 0 + w.1.V j 1) t)), some (.int (nI t)), lx] [] σ q ↔ q = (some (.int (nI (bnd w))), σ)) := by
  obtain ⟨S1, S2, S3, S4, S5⟩ := vwX_now hw
  have hn := hw.1.1.1
  have hV := okV_of hw.1.1.2.2.2.1
  intro m
  induction m with
  | zero =>
    intro t lx ht
    have e : t = w.1.jn := by omega
    subst e
    have b1 := smV_le (g := fun j => w.1.V j 0) (B := 99) w.1.jn (fun j hj => hV j 0 hj (by omega))
    have b2 := smV_le (g := fun j => w.1.V j 2) (B := 99) w.1.jn (fun j hj => hV j 2 hj (by omega))
    have b3 := mnV_le (g := fun j => w.1.V j 1 + w.1.V j 2) w.1.jn
    have b4 := mnV_le (g := fun j => w.1.V j 0 + w.1.V j 1) w.1.jn
    have x1 : xmn (fun j => w.1.V j 1 + w.1.V j 2) w.1.jn = nI (mnV (fun j => w.1.V j 1 + w.1.V j 2) w.1.jn) := if_neg hj
    have x2 : xmn (fun j => w.1.V j 0 + w.1.V j 1) w.1.jn = nI (mnV (fun j => w.1.V j 0 + w.1.V j 1) w.1.jn) := if_neg hj
    rw [E_X3_bound_14]
    simp (disch := omega) only [true_and, and_true, and_self, exists_eq_left, Option.toList_some, Option.toList_none, List.cons_append, List.nil_append, List.append_nil, i2_i, i2_r, i2_n, nz0, nz1, true_or, or_true, Nat.reduceAdd, Nat.le_refl, Nat.reduceLT, Nat.reduceLeDiff, ↓E_X3_bound_0, ↓E_X3_bound_1, ↓E_X3_bound_2, ↓E_X3_bound_3, ↓E_X3_bound_4, ↓E_X3_bound_6, ↓E_X3_bound_7, ↓E_X3_bound_9, ↓E_X3_bound_11, ↓E_X3_bound_12, ↓E_X3_bound_16, ↓E_X3_bound_17, ↓E_X3_bound_20, ↓E_X3_bound_23, ↓E_X3_bound_24, ↓E_X3_bound_27, ↓E_X3_bound_29, ↓E_X3_bound_30, ↓E_X3_bound_32, ↓E_X3_bound_33, ↓E_X3_bound_35, ↓E_X3_bound_36, ↓E_X3_bound_37, ↓E_X3_bound_38, ↓E_X3_bound_39, ↓E_X3_bound_40, ↓E_X3_bound_42, ↓E_X3_bound_43, ↓E_X3_bound_44, ↓E_X3_bound_45, ↓E_X3_bound_46, ↓E_X3_bound_47, ↓E_X3_bound_49, ↓E_X3_bound_50, ↓E_X3_bound_51, ↓E_X3_bound_53, ↓E_X3_bound_54, ↓E_X3_bound_55, ↓E_X3_bound_56, ↓E_X3_bound_59, ↓E_X3_bound_60, ↓E_X3_bound_62, ↓E_X3_bound_64, ↓E_X3_bound_65, ↓E_X3_bound_66, ↓E_X3_bound_68, ↓E_X3_bound_69, ↓E_X3_bound_70, ↓E_X3_bound_71, ↓E_X3_bound_74, ↓E_X3_bound_76, ↓E_X3_bound_79, ↓E_X3_bound_82, ↓E_X3_bound_83, ↓E_X3_bound_84, ↓E_X3_bound_85, ↓E_X3_bound_86, ↓E_X3_bound_88, ↓E_X3_bound_89, ↓E_X3_bound_92, kd_3, S1, leN, if_true, x1, x2, nI_add, nI_max]
    rfl
  | succ m ih =>
    intro t lx ht
    have r0 := S4 t 0 (by omega) (by omega)
    have r1 := S4 t 1 (by omega) (by omega)
    have r2 := S4 t 2 (by omega) (by omega)
    have v0 := hV t 0 (by omega) (by omega)
    have v1 := hV t 1 (by omega) (by omega)
    have v2 := hV t 2 (by omega) (by omega)
    have y1 := xmn_s (g := fun j => w.1.V j 1 + w.1.V j 2) (t := t) (by show w.1.V t 1 + w.1.V t 2 ≤ 1000; omega)
    have y2 := xmn_s (g := fun j => w.1.V j 0 + w.1.V j 1) (t := t) (by show w.1.V t 0 + w.1.V t 1 ≤ 1000; omega)
    rw [E_X3_bound_14]
    simp (disch := omega) only [true_and, and_true, and_self, exists_eq_left, Option.toList_some, Option.toList_none, List.cons_append, List.nil_append, List.append_nil, i2_i, i2_r, i2_n, nz0, nz1, true_or, or_true, Nat.reduceAdd, Nat.le_refl, Nat.reduceLT, Nat.reduceLeDiff, ↓E_X3_bound_0, ↓E_X3_bound_1, ↓E_X3_bound_2, ↓E_X3_bound_3, ↓E_X3_bound_4, ↓E_X3_bound_6, ↓E_X3_bound_7, ↓E_X3_bound_9, ↓E_X3_bound_11, ↓E_X3_bound_12, ↓E_X3_bound_16, ↓E_X3_bound_17, ↓E_X3_bound_20, ↓E_X3_bound_23, ↓E_X3_bound_24, ↓E_X3_bound_27, ↓E_X3_bound_29, ↓E_X3_bound_30, ↓E_X3_bound_32, ↓E_X3_bound_33, ↓E_X3_bound_35, ↓E_X3_bound_36, ↓E_X3_bound_37, ↓E_X3_bound_38, ↓E_X3_bound_39, ↓E_X3_bound_40, ↓E_X3_bound_42, ↓E_X3_bound_43, ↓E_X3_bound_44, ↓E_X3_bound_45, ↓E_X3_bound_46, ↓E_X3_bound_47, ↓E_X3_bound_49, ↓E_X3_bound_50, ↓E_X3_bound_51, ↓E_X3_bound_53, ↓E_X3_bound_54, ↓E_X3_bound_55, ↓E_X3_bound_56, ↓E_X3_bound_59, ↓E_X3_bound_60, ↓E_X3_bound_62, ↓E_X3_bound_64, ↓E_X3_bound_65, ↓E_X3_bound_66, ↓E_X3_bound_68, ↓E_X3_bound_69, ↓E_X3_bound_70, ↓E_X3_bound_71, ↓E_X3_bound_74, ↓E_X3_bound_76, ↓E_X3_bound_79, ↓E_X3_bound_82, ↓E_X3_bound_83, ↓E_X3_bound_84, ↓E_X3_bound_85, ↓E_X3_bound_86, ↓E_X3_bound_88, ↓E_X3_bound_89, ↓E_X3_bound_92, kd_3, kd_8, kd_12, ln_6, S1, leN, vin, clN, ptrG, vin_0, vin_1, vin_2, cl_0, cl_1, cl_2, r0, r1, r2, nI_add, nI_1, y1, y2]
    rw [if_neg (by omega)]
    exact ih (t + 1) _ (by omega)
theorem s_bound {d : Nat} {σ : mx_S} {w : Vw} {q : mx_R} (hw : vwX w σ) (hj : w.1.jn ≠ 0) : mx_call (d + 1) m_X3_bound [.ref 1] σ q ↔ q = (some (.int (nI (bnd w))), σ) := by
  simp (disch := omega) only [C_X3_bound, true_and, and_true, and_self, exists_eq_left, Option.toList_some, Option.toList_none, List.cons_append, List.nil_append, List.append_nil, i2_i, i2_r, i2_n, nz0, nz1, true_or, or_true, Nat.reduceAdd, Nat.le_refl, Nat.reduceLT, Nat.reduceLeDiff, ↓E_X3_bound_0, ↓E_X3_bound_1, ↓E_X3_bound_2, ↓E_X3_bound_3, ↓E_X3_bound_4, ↓E_X3_bound_6, ↓E_X3_bound_7, ↓E_X3_bound_9, ↓E_X3_bound_11, ↓E_X3_bound_12, ↓E_X3_bound_16, ↓E_X3_bound_17, ↓E_X3_bound_20, ↓E_X3_bound_23, ↓E_X3_bound_24, ↓E_X3_bound_27, ↓E_X3_bound_29, ↓E_X3_bound_30, ↓E_X3_bound_32, ↓E_X3_bound_33, ↓E_X3_bound_35, ↓E_X3_bound_36, ↓E_X3_bound_37, ↓E_X3_bound_38, ↓E_X3_bound_39, ↓E_X3_bound_40, ↓E_X3_bound_42, ↓E_X3_bound_43, ↓E_X3_bound_44, ↓E_X3_bound_45, ↓E_X3_bound_46, ↓E_X3_bound_47, ↓E_X3_bound_49, ↓E_X3_bound_50, ↓E_X3_bound_51, ↓E_X3_bound_53, ↓E_X3_bound_54, ↓E_X3_bound_55, ↓E_X3_bound_56, ↓E_X3_bound_59, ↓E_X3_bound_60, ↓E_X3_bound_62, ↓E_X3_bound_64, ↓E_X3_bound_65, ↓E_X3_bound_66, ↓E_X3_bound_68, ↓E_X3_bound_69, ↓E_X3_bound_70, ↓E_X3_bound_71, ↓E_X3_bound_74, ↓E_X3_bound_76, ↓E_X3_bound_79, ↓E_X3_bound_82, ↓E_X3_bound_83, ↓E_X3_bound_84, ↓E_X3_bound_85, ↓E_X3_bound_86, ↓E_X3_bound_88, ↓E_X3_bound_89, ↓E_X3_bound_92]
  exact l_bound hw hj w.1.jn 0 none (by omega)
def esy (w : Vw) : Bool := decide (mxV (fun j => w.1.V j 1) w.1.jn ≤ mnV (fun j => w.1.V j 0) w.1.jn) || decide (mxV (fun j => w.1.V j 1) w.1.jn ≤ mnV (fun j => w.1.V j 2) w.1.jn)
def x30 (g : Nat → Nat) (t : Nat) : Nat := min 30 (mnV g t)
theorem x30_s {g : Nat → Nat} {t : Nat} (h : g t ≤ 30) : min (x30 g t) (g t) = x30 g (t + 1) := by unfold x30; show _ = min 30 (min (mnV g t) (g t)); omega
theorem x30_e {g : Nat → Nat} {n : Nat} (hn : n ≠ 0) (h : ∀ j, j < n → g j ≤ 30) : x30 g n = mnV g n := by
  cases n with
  | zero => omega
  | succ n => have := h n (by omega); unfold x30; show min 30 (min (mnV g n) (g n)) = min (mnV g n) (g n); omega
set_option maxHeartbeats 4000000 in
theorem l_easy {d : Nat} {σ : mx_S} {w : Vw} {q : mx_R} (hw : vwX w σ) (hj : w.1.jn ≠ 0) : ∀ m t (lx : Option Value), t + m = w.1.jn → (mx_run d m_X3_isEasy 11 [some (.ref 1), some (.int (nI (x30 (fun j => w.1.V j 0) t))), some (.int (nI (x30 (fun j => w.1.V j 2) t))), some (.int (nI (mxV (fun j => w.1.V j 1) t))), some (.int (nI t)), lx] [] σ q ↔ q = (some (.int (bz (esy w))), σ)) := by
  obtain ⟨S1, S2, S3, S4, S5⟩ := vwX_now hw
  have hn := hw.1.1.1
  have hL := hw.1.1.2.2.2.1
  intro m
  induction m with
  | zero =>
    intro t lx ht
    have e : t = w.1.jn := by omega
    subst e
    have b1 := mxV_le (g := fun j => w.1.V j 1) (B := 30) w.1.jn (fun j hj => hL j 1 hj (by omega))
    rw [x30_e hj (fun j h => hL j 0 h (by omega)), x30_e hj (fun j h => hL j 2 h (by omega))]
    have b3 := mnV_le (g := fun j => w.1.V j 0) w.1.jn
    have b4 := mnV_le (g := fun j => w.1.V j 2) w.1.jn
    rw [E_X3_isEasy_11]
    simp (disch := omega) only [true_and, and_true, and_self, exists_eq_left, Option.toList_some, Option.toList_none, List.cons_append, List.nil_append, List.append_nil, i2_i, i2_r, i2_n, nz0, nz1, true_or, or_true, Nat.reduceAdd, Nat.le_refl, Nat.reduceLT, Nat.reduceLeDiff, ↓E_X3_isEasy_0, ↓E_X3_isEasy_2, ↓E_X3_isEasy_3, ↓E_X3_isEasy_5, ↓E_X3_isEasy_6, ↓E_X3_isEasy_7, ↓E_X3_isEasy_8, ↓E_X3_isEasy_9, ↓E_X3_isEasy_13, ↓E_X3_isEasy_14, ↓E_X3_isEasy_17, ↓E_X3_isEasy_20, ↓E_X3_isEasy_21, ↓E_X3_isEasy_24, ↓E_X3_isEasy_26, ↓E_X3_isEasy_27, ↓E_X3_isEasy_29, ↓E_X3_isEasy_30, ↓E_X3_isEasy_32, ↓E_X3_isEasy_33, ↓E_X3_isEasy_34, ↓E_X3_isEasy_37, ↓E_X3_isEasy_38, ↓E_X3_isEasy_39, ↓E_X3_isEasy_41, ↓E_X3_isEasy_42, ↓E_X3_isEasy_43, ↓E_X3_isEasy_46, ↓E_X3_isEasy_47, ↓E_X3_isEasy_48, ↓E_X3_isEasy_50, ↓E_X3_isEasy_51, ↓E_X3_isEasy_52, ↓E_X3_isEasy_55, ↓E_X3_isEasy_56, ↓E_X3_isEasy_59, ↓E_X3_isEasy_62, ↓E_X3_isEasy_63, ↓E_X3_isEasy_64, ↓E_X3_isEasy_67, ↓E_X3_isEasy_68, ↓E_X3_isEasy_69, ↓E_X3_isEasy_72, ↓E_X3_isEasy_73, ↓E_X3_isEasy_76, ↓E_X3_isEasy_77, kd_3, S1, leN, ltN, if_true]
    unfold esy
    by_cases h1 : mxV (fun j => w.1.V j 1) w.1.jn ≤ mnV (fun j => w.1.V j 0) w.1.jn
    · simp only [if_pos h1, decide_eq_true h1, Bool.true_or]; rfl
    · by_cases h2 : mxV (fun j => w.1.V j 1) w.1.jn ≤ mnV (fun j => w.1.V j 2) w.1.jn
      · simp only [if_neg h1, decide_eq_false h1, decide_eq_true h2, Bool.or_true]
        first | (rw [if_pos h2]; rfl) | (rw [if_neg (show ¬ mnV (fun j => w.1.V j 2) w.1.jn < mxV (fun j => w.1.V j 1) w.1.jn by omega)]; rfl)
      · simp only [if_neg h1, decide_eq_false h1, decide_eq_false h2, Bool.or_self]
        first | (rw [if_neg h2]; rfl) | (rw [if_pos (show mnV (fun j => w.1.V j 2) w.1.jn < mxV (fun j => w.1.V j 1) w.1.jn by omega)]; rfl)
  | succ m ih =>
    intro t lx ht
    have r0 := S4 t 0 (by omega) (by omega)
    have r1 := S4 t 1 (by omega) (by omega)
    have r2 := S4 t 2 (by omega) (by omega)
    have v0 : w.1.V t 0 ≤ 30 := hL t 0 (by omega) (by omega)
    have v1 : w.1.V t 1 ≤ 30 := hL t 1 (by omega) (by omega)
    have v2 : w.1.V t 2 ≤ 30 := hL t 2 (by omega) (by omega)
    have y1 := x30_s (g := fun j => w.1.V j 0) (t := t) v0
    have y2 := x30_s (g := fun j => w.1.V j 2) (t := t) v2
    have z1 : x30 (fun j => w.1.V j 0) t ≤ 30 := by unfold x30; omega
    have z2 : x30 (fun j => w.1.V j 2) t ≤ 30 := by unfold x30; omega
    have z3 := mxV_le (g := fun j => w.1.V j 1) (B := 30) t (fun j hj => hL j 1 (by omega) (by omega))
    rw [E_X3_isEasy_11]
    simp (disch := omega) only [true_and, and_true, and_self, exists_eq_left, Option.toList_some, Option.toList_none, List.cons_append, List.nil_append, List.append_nil, i2_i, i2_r, i2_n, nz0, nz1, true_or, or_true, Nat.reduceAdd, Nat.le_refl, Nat.reduceLT, Nat.reduceLeDiff, ↓E_X3_isEasy_0, ↓E_X3_isEasy_2, ↓E_X3_isEasy_3, ↓E_X3_isEasy_5, ↓E_X3_isEasy_6, ↓E_X3_isEasy_7, ↓E_X3_isEasy_8, ↓E_X3_isEasy_9, ↓E_X3_isEasy_13, ↓E_X3_isEasy_14, ↓E_X3_isEasy_17, ↓E_X3_isEasy_20, ↓E_X3_isEasy_21, ↓E_X3_isEasy_24, ↓E_X3_isEasy_26, ↓E_X3_isEasy_27, ↓E_X3_isEasy_29, ↓E_X3_isEasy_30, ↓E_X3_isEasy_32, ↓E_X3_isEasy_33, ↓E_X3_isEasy_34, ↓E_X3_isEasy_37, ↓E_X3_isEasy_38, ↓E_X3_isEasy_39, ↓E_X3_isEasy_41, ↓E_X3_isEasy_42, ↓E_X3_isEasy_43, ↓E_X3_isEasy_46, ↓E_X3_isEasy_47, ↓E_X3_isEasy_48, ↓E_X3_isEasy_50, ↓E_X3_isEasy_51, ↓E_X3_isEasy_52, ↓E_X3_isEasy_55, ↓E_X3_isEasy_56, ↓E_X3_isEasy_59, ↓E_X3_isEasy_62, ↓E_X3_isEasy_63, ↓E_X3_isEasy_64, ↓E_X3_isEasy_67, ↓E_X3_isEasy_68, ↓E_X3_isEasy_69, ↓E_X3_isEasy_72, ↓E_X3_isEasy_73, ↓E_X3_isEasy_76, ↓E_X3_isEasy_77, kd_3, kd_8, kd_12, ln_6, S1, leN, vin, clN, ptrG, vin_0, vin_1, vin_2, cl_0, cl_1, cl_2, r0, r1, r2, nI_min, nI_max, nI_1, y1, y2]
    rw [if_neg (by omega)]
    exact ih (t + 1) _ (by omega)
theorem s_easy {d : Nat} {σ : mx_S} {w : Vw} {q : mx_R} (hw : vwX w σ) (hj : w.1.jn ≠ 0) : mx_call (d + 1) m_X3_isEasy [.ref 1] σ q ↔ q = (some (.int (bz (esy w))), σ) := by
  simp (disch := omega) only [C_X3_isEasy, true_and, and_true, and_self, exists_eq_left, Option.toList_some, Option.toList_none, List.cons_append, List.nil_append, List.append_nil, i2_i, i2_r, i2_n, nz0, nz1, true_or, or_true, Nat.reduceAdd, Nat.le_refl, Nat.reduceLT, Nat.reduceLeDiff, ↓E_X3_isEasy_0, ↓E_X3_isEasy_2, ↓E_X3_isEasy_3, ↓E_X3_isEasy_5, ↓E_X3_isEasy_6, ↓E_X3_isEasy_7, ↓E_X3_isEasy_8, ↓E_X3_isEasy_9, ↓E_X3_isEasy_13, ↓E_X3_isEasy_14, ↓E_X3_isEasy_17, ↓E_X3_isEasy_20, ↓E_X3_isEasy_21, ↓E_X3_isEasy_24, ↓E_X3_isEasy_26, ↓E_X3_isEasy_27, ↓E_X3_isEasy_29, ↓E_X3_isEasy_30, ↓E_X3_isEasy_32, ↓E_X3_isEasy_33, ↓E_X3_isEasy_34, ↓E_X3_isEasy_37, ↓E_X3_isEasy_38, ↓E_X3_isEasy_39, ↓E_X3_isEasy_41, ↓E_X3_isEasy_42, ↓E_X3_isEasy_43, ↓E_X3_isEasy_46, ↓E_X3_isEasy_47, ↓E_X3_isEasy_48, ↓E_X3_isEasy_50, ↓E_X3_isEasy_51, ↓E_X3_isEasy_52, ↓E_X3_isEasy_55, ↓E_X3_isEasy_56, ↓E_X3_isEasy_59, ↓E_X3_isEasy_62, ↓E_X3_isEasy_63, ↓E_X3_isEasy_64, ↓E_X3_isEasy_67, ↓E_X3_isEasy_68, ↓E_X3_isEasy_69, ↓E_X3_isEasy_72, ↓E_X3_isEasy_73, ↓E_X3_isEasy_76, ↓E_X3_isEasy_77]
  exact l_easy hw hj w.1.jn 0 none (by omega)
def fst1 (w : Vw) (j : Nat) : Bool := decide (w.1.V j 0 ≤ w.1.V j 2)
set_option maxHeartbeats 4000000 in
theorem l_first {d : Nat} {σ : mx_S} {w : Vw} {q : mx_R} (hw : vwX w σ) : ∀ m t, t + m = w.1.jn → (mx_run d m_X3_firstListSize 4 [some (.ref 1), some (.int (nI (cnt (fst1 w) t))), some (.int (nI t))] [] σ q ↔ q = (some (.int (nI (cnt (fst1 w) w.1.jn))), σ)) := by
  obtain ⟨S1, S2, S3, S4, S5⟩ := vwX_now hw
  have hn := hw.1.1.1
  have hV := okV_of hw.1.1.2.2.2.1
  intro m
  induction m with
  | zero =>
    intro t ht
    have e : t = w.1.jn := by omega
    subst e
    rw [E_X3_firstListSize_4]
    simp (disch := omega) only [true_and, and_true, and_self, exists_eq_left, Option.toList_some, Option.toList_none, List.cons_append, List.nil_append, List.append_nil, i2_i, i2_r, i2_n, nz0, nz1, true_or, or_true, Nat.reduceAdd, Nat.le_refl, Nat.reduceLT, Nat.reduceLeDiff, ↓E_X3_firstListSize_0, ↓E_X3_firstListSize_1, ↓E_X3_firstListSize_2, ↓E_X3_firstListSize_3, ↓E_X3_firstListSize_5, ↓E_X3_firstListSize_6, ↓E_X3_firstListSize_9, ↓E_X3_firstListSize_12, ↓E_X3_firstListSize_13, ↓E_X3_firstListSize_16, ↓E_X3_firstListSize_17, ↓E_X3_firstListSize_18, ↓E_X3_firstListSize_19, ↓E_X3_firstListSize_20, ↓E_X3_firstListSize_21, ↓E_X3_firstListSize_24, ↓E_X3_firstListSize_25, ↓E_X3_firstListSize_26, ↓E_X3_firstListSize_27, ↓E_X3_firstListSize_28, ↓E_X3_firstListSize_31, ↓E_X3_firstListSize_34, ↓E_X3_firstListSize_37, ↓E_X3_firstListSize_40, ↓E_X3_firstListSize_41, kd_3, S1, leN, if_true]
  | succ m ih =>
    intro t ht
    have r0 := S4 t 0 (by omega) (by omega)
    have r2 := S4 t 2 (by omega) (by omega)
    have v0 := hV t 0 (by omega) (by omega)
    have v2 := hV t 2 (by omega) (by omega)
    have st : cnt (fst1 w) (t + 1) = cnt (fst1 w) t + (if fst1 w t = true then 1 else 0) := rfl
    have ih := ih (t + 1) (by omega)
    rw [st] at ih
    unfold fst1 at ih
    rw [E_X3_firstListSize_4]
    simp (disch := omega) only [true_and, and_true, and_self, exists_eq_left, Option.toList_some, Option.toList_none, List.cons_append, List.nil_append, List.append_nil, i2_i, i2_r, i2_n, nz0, nz1, true_or, or_true, Nat.reduceAdd, Nat.le_refl, Nat.reduceLT, Nat.reduceLeDiff, ↓E_X3_firstListSize_0, ↓E_X3_firstListSize_1, ↓E_X3_firstListSize_2, ↓E_X3_firstListSize_3, ↓E_X3_firstListSize_5, ↓E_X3_firstListSize_6, ↓E_X3_firstListSize_9, ↓E_X3_firstListSize_12, ↓E_X3_firstListSize_13, ↓E_X3_firstListSize_16, ↓E_X3_firstListSize_17, ↓E_X3_firstListSize_18, ↓E_X3_firstListSize_19, ↓E_X3_firstListSize_20, ↓E_X3_firstListSize_21, ↓E_X3_firstListSize_24, ↓E_X3_firstListSize_25, ↓E_X3_firstListSize_26, ↓E_X3_firstListSize_27, ↓E_X3_firstListSize_28, ↓E_X3_firstListSize_31, ↓E_X3_firstListSize_34, ↓E_X3_firstListSize_37, ↓E_X3_firstListSize_40, ↓E_X3_firstListSize_41, kd_3, kd_8, kd_12, ln_6, S1, leN, ltN, vin, clN, ptrG, vin_0, vin_2, cl_0, cl_2, r0, r2, nI_1]
    rw [if_neg (by omega)]
    by_cases e : w.1.V t 0 ≤ w.1.V t 2
    · simp only [decide_eq_true e, if_true] at ih
      first | (rw [if_pos e]; exact ih) | (rw [if_neg (show ¬ w.1.V t 2 < w.1.V t 0 by omega)]; exact ih)
    · simp only [decide_eq_false e] at ih
      first | (rw [if_neg e]; exact ih) | (rw [if_pos (show w.1.V t 2 < w.1.V t 0 by omega)]; exact ih)
theorem s_first {d : Nat} {σ : mx_S} {w : Vw} {q : mx_R} (hw : vwX w σ) : mx_call (d + 1) m_X3_firstListSize [.ref 1] σ q ↔ q = (some (.int (nI (cnt (fst1 w) w.1.jn))), σ) := by
  simp (disch := omega) only [C_X3_firstListSize, true_and, and_true, and_self, exists_eq_left, Option.toList_some, Option.toList_none, List.cons_append, List.nil_append, List.append_nil, i2_i, i2_r, i2_n, nz0, nz1, true_or, or_true, Nat.reduceAdd, Nat.le_refl, Nat.reduceLT, Nat.reduceLeDiff, ↓E_X3_firstListSize_0, ↓E_X3_firstListSize_1, ↓E_X3_firstListSize_2, ↓E_X3_firstListSize_3, ↓E_X3_firstListSize_5, ↓E_X3_firstListSize_6, ↓E_X3_firstListSize_9, ↓E_X3_firstListSize_12, ↓E_X3_firstListSize_13, ↓E_X3_firstListSize_16, ↓E_X3_firstListSize_17, ↓E_X3_firstListSize_18, ↓E_X3_firstListSize_19, ↓E_X3_firstListSize_20, ↓E_X3_firstListSize_21, ↓E_X3_firstListSize_24, ↓E_X3_firstListSize_25, ↓E_X3_firstListSize_26, ↓E_X3_firstListSize_27, ↓E_X3_firstListSize_28, ↓E_X3_firstListSize_31, ↓E_X3_firstListSize_34, ↓E_X3_firstListSize_37, ↓E_X3_firstListSize_40, ↓E_X3_firstListSize_41]
  exact l_first hw w.1.jn 0 (by omega)
