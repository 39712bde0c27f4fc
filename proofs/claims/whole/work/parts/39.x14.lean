/-! ===== sums over an order are sums over the jobs ===== -/
theorem smV_congr {g h : Nat → Nat} : ∀ n, (∀ j, j < n → g j = h j) → smV g n = smV h n
  | 0, _ => rfl
  | n + 1, e => by unfold smV; rw [smV_congr n (fun j hj => e j (by omega)), e n (by omega)]
theorem smV_ch {h : Nat → Nat} {p0 x : Nat} : ∀ n, p0 < n → smV (fun p => if p = p0 then x else h p) n + h p0 = smV h n + x
  | 0, hp => by omega
  | n + 1, hp => by
    unfold smV
    by_cases e : p0 = n
    · subst e
      have h1 : smV (fun p => if p = p0 then x else h p) p0 = smV h p0 := smV_congr p0 (fun j hj => if_neg (by omega))
      rw [h1, if_pos rfl]
      omega
    · have h1 := smV_ch (h := h) (p0 := p0) (x := x) n (by omega)
      rw [if_neg (show ¬ n = p0 by omega)]
      omega
theorem smV_O (g : Nat → Nat) : ∀ (n : Nat) (O : Nat → Nat), okO n O → smV (fun p => g (O p)) n = smV g n := by
  intro n
  induction n with
  | zero => intro O _; rfl
  | succ n ih =>
    intro O h
    have hO' : okO n (fun p => if O p = n then O n else O p) := by
      refine ⟨fun p hp => ?_, fun p q hp hq e => ?_⟩
      · show (if O p = n then O n else O p) < n
        by_cases hpn : O p = n
        · rw [if_pos hpn]
          have h1 := h.1 n (by omega)
          have h2 : O n ≠ n := fun z => by have := h.2 p n (by omega) (by omega) (by omega); omega
          omega
        · rw [if_neg hpn]
          have h1 := h.1 p (by omega)
          omega
      · have e : (if O p = n then O n else O p) = (if O q = n then O n else O q) := e
        by_cases hpn : O p = n <;> by_cases hqn : O q = n
        · exact h.2 p q (by omega) (by omega) (by omega)
        · rw [if_pos hpn, if_neg hqn] at e; have := h.2 n q (by omega) (by omega) e; omega
        · rw [if_neg hpn, if_pos hqn] at e; have := h.2 p n (by omega) (by omega) e; omega
        · rw [if_neg hpn, if_neg hqn] at e; exact h.2 p q (by omega) (by omega) e
    have h1 := ih _ hO'
    have h1 : smV (fun p => g (if O p = n then O n else O p)) n = smV g n := h1
    show smV (fun p => g (O p)) n + g (O n) = smV g n + g n
    by_cases hn : O n = n
    · rw [hn, ← h1]
      congr 1
      refine smV_congr n (fun p hp => ?_)
      by_cases hpn : O p = n
      · rw [if_pos hpn, hn, hpn]
      · rw [if_neg hpn]
    · obtain ⟨p0, hp0, e0⟩ := okO_sur (n + 1) O h n (by omega)
      have hp1 : p0 < n := by
        by_cases z : p0 = n
        · rw [z] at e0; exact absurd e0 hn
        · omega
      have h2 := smV_ch (h := fun p => g (O p)) (p0 := p0) (x := g (O n)) n hp1
      have h3 : smV (fun p => if p = p0 then g (O n) else g (O p)) n = smV (fun p => g (if O p = n then O n else O p)) n := by
        refine smV_congr n (fun p hp => ?_)
        by_cases z : p = p0
        · rw [if_pos z, z, if_pos e0]
        · have : O p ≠ n := fun y => z (h.2 p p0 (by omega) (by omega) (by omega))
          rw [if_neg z, if_neg this]
      rw [h3, h1] at h2
      rw [e0] at h2
      omega
def WT (w : Vw) : Int := (EL w.1.V w.1.md w.1.O w.1.jn : Int) - (smV (fun j => w.1.V j 2) w.1.jn : Int) - (smV (fun j => w.1.V j 4) w.1.jn : Int) + (w.1.V (w.1.O (w.1.jn - 1)) 4 : Int)
theorem iN_sub2 {a : Int} {b : Nat} : iN a - nI b = iN (a - (b : Int)) := by
  unfold iN
  rw [Int32.ofInt_sub]
  rfl
def wtX (w : Vw) (t : Nat) : Int := (EL w.1.V w.1.md w.1.O w.1.jn : Int) - (smV (fun p => w.1.V (w.1.O p) 2) t : Int) - (smV (fun p => w.1.V (w.1.O p) 4) (min t (w.1.jn - 1)) : Int)
set_option maxHeartbeats 4000000 in
theorem l_waited {d : Nat} {σ : mx_S} {w : Vw} {q : mx_R} (hw : vwX w σ) (hj : w.1.jn ≠ 0) : ∀ m t (lx : Option Value), t + m = w.1.jn → (mx_run d m_X6_waited 26 [some (.ref 0), some (.int (iN (wtX w t))), some (.int (nI t)), lx] [] σ q ↔ q = (some (.int (iN (WT w))), σ)) := by
  obtain ⟨S1, S2, S3, S4, S5⟩ := vwX_now hw
  have hn := hw.1.1.1
  have hO := hw.1.1.2.2.2.2.1
  intro m
  induction m with
  | zero =>
    intro t lx ht
    have e : t = w.1.jn := by omega
    subst e
    rw [E_X6_waited_26]
    simp (disch := omega) only [true_and, and_true, and_self, exists_eq_left, Option.toList_some, Option.toList_none, List.cons_append, List.nil_append, List.append_nil, i2_i, i2_r, i2_n, nz0, nz1, true_or, or_true, Nat.reduceAdd, Nat.le_refl, Nat.reduceLT, Nat.reduceLeDiff, ↓E_X6_waited_0, ↓E_X6_waited_1, ↓E_X6_waited_2, ↓E_X6_waited_5, ↓E_X6_waited_6, ↓E_X6_waited_9, ↓E_X6_waited_12, ↓E_X6_waited_13, ↓E_X6_waited_16, ↓E_X6_waited_19, ↓E_X6_waited_20, ↓E_X6_waited_23, ↓E_X6_waited_24, ↓E_X6_waited_25, ↓E_X6_waited_27, ↓E_X6_waited_28, ↓E_X6_waited_31, ↓E_X6_waited_34, ↓E_X6_waited_37, ↓E_X6_waited_38, ↓E_X6_waited_41, ↓E_X6_waited_44, ↓E_X6_waited_45, ↓E_X6_waited_48, ↓E_X6_waited_51, ↓E_X6_waited_52, ↓E_X6_waited_53, ↓E_X6_waited_54, ↓E_X6_waited_55, ↓E_X6_waited_56, ↓E_X6_waited_57, ↓E_X6_waited_58, ↓E_X6_waited_59, ↓E_X6_waited_60, ↓E_X6_waited_61, ↓E_X6_waited_62, ↓E_X6_waited_63, ↓E_X6_waited_66, ↓E_X6_waited_69, ↓E_X6_waited_70, ↓E_X6_waited_71, ↓E_X6_waited_74, ↓E_X6_waited_75, ↓E_X6_waited_76, ↓E_X6_waited_77, ↓E_X6_waited_78, ↓E_X6_waited_79, ↓E_X6_waited_80, ↓E_X6_waited_83, ↓E_X6_waited_86, ↓E_X6_waited_87, kd_3, S1, leN, if_true]
    have e1 : wtX w w.1.jn = WT w := by
      unfold wtX WT
      rw [smV_O (fun j => w.1.V j 2) w.1.jn w.1.O hO]
      have h4 := smV_O (fun j => w.1.V j 4) w.1.jn w.1.O hO
      obtain ⟨k, hk⟩ : ∃ k, w.1.jn = k + 1 := ⟨w.1.jn - 1, by omega⟩
      rw [show min w.1.jn (w.1.jn - 1) = w.1.jn - 1 by omega]
      rw [hk] at h4 ⊢
      have h5 : smV (fun p => w.1.V (w.1.O p) 4) (k + 1) = smV (fun p => w.1.V (w.1.O p) 4) k + w.1.V (w.1.O k) 4 := rfl
      rw [h5] at h4
      simp only [Nat.add_sub_cancel] at *
      omega
    rw [e1]
  | succ m ih =>
    intro t lx ht
    have hOt := hO.1 t (by omega)
    have ro := S5 t (by omega)
    have r2 := S4 (w.1.O t) 2 hOt (by omega)
    have r4 := S4 (w.1.O t) 4 hOt (by omega)
    have e1 : (nI w.1.jn - 1) = nI (w.1.jn - 1) := by rw [show w.1.jn = (w.1.jn - 1) + 1 by omega, nI_pred]; rfl
    have ih := fun lx => ih (t + 1) lx (by omega)
    rw [E_X6_waited_26]
    simp (disch := omega) only [true_and, and_true, and_self, exists_eq_left, Option.toList_some, Option.toList_none, List.cons_append, List.nil_append, List.append_nil, i2_i, i2_r, i2_n, nz0, nz1, true_or, or_true, Nat.reduceAdd, Nat.le_refl, Nat.reduceLT, Nat.reduceLeDiff, ↓E_X6_waited_0, ↓E_X6_waited_1, ↓E_X6_waited_2, ↓E_X6_waited_5, ↓E_X6_waited_6, ↓E_X6_waited_9, ↓E_X6_waited_12, ↓E_X6_waited_13, ↓E_X6_waited_16, ↓E_X6_waited_19, ↓E_X6_waited_20, ↓E_X6_waited_23, ↓E_X6_waited_24, ↓E_X6_waited_25, ↓E_X6_waited_27, ↓E_X6_waited_28, ↓E_X6_waited_31, ↓E_X6_waited_34, ↓E_X6_waited_37, ↓E_X6_waited_38, ↓E_X6_waited_41, ↓E_X6_waited_44, ↓E_X6_waited_45, ↓E_X6_waited_48, ↓E_X6_waited_51, ↓E_X6_waited_52, ↓E_X6_waited_53, ↓E_X6_waited_54, ↓E_X6_waited_55, ↓E_X6_waited_56, ↓E_X6_waited_57, ↓E_X6_waited_58, ↓E_X6_waited_59, ↓E_X6_waited_60, ↓E_X6_waited_61, ↓E_X6_waited_62, ↓E_X6_waited_63, ↓E_X6_waited_66, ↓E_X6_waited_69, ↓E_X6_waited_70, ↓E_X6_waited_71, ↓E_X6_waited_74, ↓E_X6_waited_75, ↓E_X6_waited_76, ↓E_X6_waited_77, ↓E_X6_waited_78, ↓E_X6_waited_79, ↓E_X6_waited_80, ↓E_X6_waited_83, ↓E_X6_waited_86, ↓E_X6_waited_87, kd_3, kd_8, kd_12, ln_6, S1, leN, ltN, vin, clN, ptrG, vin_2, vin_4, cl_2, cl_4, ro, r2, r4, e1, iN_sub2, nI_1]
    rw [if_neg (by omega)]
    have s2 : smV (fun p => w.1.V (w.1.O p) 2) (t + 1) = smV (fun p => w.1.V (w.1.O p) 2) t + w.1.V (w.1.O t) 2 := rfl
    have s4 : smV (fun p => w.1.V (w.1.O p) 4) (t + 1) = smV (fun p => w.1.V (w.1.O p) 4) t + w.1.V (w.1.O t) 4 := rfl
    by_cases e : t < w.1.jn - 1
    · have e2 : wtX w t - (w.1.V (w.1.O t) 2 : Int) - (w.1.V (w.1.O t) 4 : Int) = wtX w (t + 1) := by
        unfold wtX
        rw [show min (t + 1) (w.1.jn - 1) = t + 1 by omega, show min t (w.1.jn - 1) = t by omega, s2, s4]
        omega
      rw [e2]
      first | (rw [if_pos e]; exact ih _) | (rw [if_neg (show ¬ w.1.jn - 1 ≤ t by omega)]; exact ih _)
    · have e2 : wtX w t - (w.1.V (w.1.O t) 2 : Int) = wtX w (t + 1) := by
        unfold wtX
        rw [show min (t + 1) (w.1.jn - 1) = w.1.jn - 1 by omega, show min t (w.1.jn - 1) = w.1.jn - 1 by omega, s2]
        omega
      rw [e2]
      first | (rw [if_neg e]; exact ih _) | (rw [if_pos (show w.1.jn - 1 ≤ t by omega)]; exact ih _)
set_option maxHeartbeats 4000000 in
theorem s_waited {d : Nat} {σ : mx_S} {w : Vw} (hw : vwX w σ) (hj : w.1.jn ≠ 0) : ∃ σ', mx_call (d + 3) m_X6_waited [.ref 0] σ (some (.int (iN (WT w))), σ') ∧ scX σ σ' := by
  obtain ⟨S1, S2, S3, S4, S5⟩ := vwX_now hw
  have ok := hw.1.1
  obtain ⟨σ1, c1, f1, f2⟩ := s_cost1 (d := d) (a := 9) (md := w.1.md) (am := 0) (O := w.1.O) hw (Or.inl rfl) ok.2.1 (by omega) ok.2.2.2.2.1.1 S5
  have sc := sc47 f1 f2
  have e0 : CST w.1.V w.1.md 0 w.1.O w.1.jn = wtX w 0 := by
    unfold CST wtX
    rw [if_pos rfl, show min 0 (w.1.jn - 1) = 0 by omega]
    show _ = _ - ((0 : Nat) : Int) - ((0 : Nat) : Int)
    omega
  rw [e0] at c1
  have c1' : ∀ q, mx_call (d + 2) m_X6_costOf [.ref 0, .ref 1, .ref 9, .int (nI w.1.md), .int 0] σ q ↔ q = (some (.int (iN (wtX w 0))), σ1) := mx_one c1
  refine ⟨σ1, ?_, sc⟩
  simp (disch := omega) only [C_X6_waited, true_and, and_true, and_self, exists_eq_left, Option.toList_some, Option.toList_none, List.cons_append, List.nil_append, List.append_nil, i2_i, i2_r, i2_n, nz0, nz1, true_or, or_true, Nat.reduceAdd, Nat.le_refl, Nat.reduceLT, Nat.reduceLeDiff, ↓E_X6_waited_0, ↓E_X6_waited_1, ↓E_X6_waited_2, ↓E_X6_waited_5, ↓E_X6_waited_6, ↓E_X6_waited_9, ↓E_X6_waited_12, ↓E_X6_waited_13, ↓E_X6_waited_16, ↓E_X6_waited_19, ↓E_X6_waited_20, ↓E_X6_waited_23, ↓E_X6_waited_24, ↓E_X6_waited_25, ↓E_X6_waited_27, ↓E_X6_waited_28, ↓E_X6_waited_31, ↓E_X6_waited_34, ↓E_X6_waited_37, ↓E_X6_waited_38, ↓E_X6_waited_41, ↓E_X6_waited_44, ↓E_X6_waited_45, ↓E_X6_waited_48, ↓E_X6_waited_51, ↓E_X6_waited_52, ↓E_X6_waited_53, ↓E_X6_waited_54, ↓E_X6_waited_55, ↓E_X6_waited_56, ↓E_X6_waited_57, ↓E_X6_waited_58, ↓E_X6_waited_59, ↓E_X6_waited_60, ↓E_X6_waited_61, ↓E_X6_waited_62, ↓E_X6_waited_63, ↓E_X6_waited_66, ↓E_X6_waited_69, ↓E_X6_waited_70, ↓E_X6_waited_71, ↓E_X6_waited_74, ↓E_X6_waited_75, ↓E_X6_waited_76, ↓E_X6_waited_77, ↓E_X6_waited_78, ↓E_X6_waited_79, ↓E_X6_waited_80, ↓E_X6_waited_83, ↓E_X6_waited_86, ↓E_X6_waited_87, kd_3, S2, c1']
  exact (l_waited (sc.vw hw) hj w.1.jn 0 none (by omega)).mpr rfl
/-- the last place with g -/
def lsP (g : Nat → Bool) : Nat → Nat
  | 0 => 0
  | n + 1 => if g n = true then n else lsP g n
def tnB (w : Vw) (p : Nat) : Bool := decide (tBa w.1.V w.1.md (w.1.O p) (TS w.1.V w.1.md w.1.O p) = tAr w.1.V w.1.md (w.1.O p) (TS w.1.V w.1.md w.1.O p))
def xtn (w : Vw) (t : Nat) : Int32 := if t = 0 then -1 else nI (w.1.O (lsP (tnB w) t))
set_option maxHeartbeats 4000000 in
theorem l_turn {d : Nat} {w : Vw} (σ0 : mx_S) (hw0 : vwX w σ0) (hj : w.1.jn ≠ 0) : ∀ m p (σ : mx_S) (lx : Option Value), p + m = w.1.jn → halX w.1.V w.1.md w.1.O 47 p σ.1 → (∀ i, i ≠ 47 → σ.1 i = σ0.1 i) → σ.2 = σ0.2 →
    ∃ σ', mx_run (d + 1) m_X6_turn 11 [some (.ref 0), some (.int (xtn w p)), some (.int (nI p)), lx] [] σ (some (.int (nI (w.1.O (lsP (tnB w) w.1.jn)))), σ') ∧ (∀ i, i ≠ 47 → σ'.1 i = σ0.1 i) ∧ σ'.2 = σ0.2 := by
  obtain ⟨Z1, Z2, Z3, Z4, Z5⟩ := vwX_now hw0
  have hn := hw0.1.1.1
  have hV := okV_of hw0.1.1.2.2.2.1
  have hO := hw0.1.1.2.2.2.2.1.1
  have hmd := hw0.1.1.2.1
  intro m
  induction m with
  | zero =>
    intro p σ lx hp H g1 g2
    have e : p = w.1.jn := by omega
    subst e
    have h0' : σ.1 1 0 = nI w.1.jn := by rw [g1 1 (by omega)]; exact Z1
    have x1 : xtn w w.1.jn = nI (w.1.O (lsP (tnB w) w.1.jn)) := if_neg hj
    refine ⟨σ, ?_, g1, g2⟩
    rw [E_X6_turn_11]
    simp (disch := omega) only [true_and, and_true, and_self, exists_eq_left, Option.toList_some, Option.toList_none, List.cons_append, List.nil_append, List.append_nil, i2_i, i2_r, i2_n, nz0, nz1, true_or, or_true, Nat.reduceAdd, Nat.le_refl, Nat.reduceLT, Nat.reduceLeDiff, ↓E_X6_turn_0, ↓E_X6_turn_1, ↓E_X6_turn_2, ↓E_X6_turn_3, ↓E_X6_turn_6, ↓E_X6_turn_9, ↓E_X6_turn_10, ↓E_X6_turn_12, ↓E_X6_turn_13, ↓E_X6_turn_16, ↓E_X6_turn_19, ↓E_X6_turn_22, ↓E_X6_turn_23, ↓E_X6_turn_26, ↓E_X6_turn_29, ↓E_X6_turn_30, ↓E_X6_turn_31, ↓E_X6_turn_32, ↓E_X6_turn_33, ↓E_X6_turn_36, ↓E_X6_turn_37, ↓E_X6_turn_40, ↓E_X6_turn_43, ↓E_X6_turn_44, ↓E_X6_turn_45, ↓E_X6_turn_46, ↓E_X6_turn_49, ↓E_X6_turn_52, ↓E_X6_turn_55, ↓E_X6_turn_56, ↓E_X6_turn_59, ↓E_X6_turn_62, ↓E_X6_turn_63, ↓E_X6_turn_66, ↓E_X6_turn_69, ↓E_X6_turn_72, ↓E_X6_turn_73, ↓E_X6_turn_74, ↓E_X6_turn_77, ↓E_X6_turn_80, ↓E_X6_turn_81, kd_3, h0', leN, if_true, x1]
  | succ m ih =>
    intro p σ lx hp H g1 g2
    have h0' : σ.1 1 0 = nI w.1.jn := by rw [g1 1 (by omega)]; exact Z1
    have m0' : σ.1 1 1 = nI w.1.md := by rw [g1 1 (by omega)]; exact Z2
    have ro : σ.1 9 p = nI (w.1.O p) := by rw [g1 9 (by omega)]; exact Z5 p (by omega)
    have hOp := hO p (by omega)
    obtain ⟨σ1, c1, H1, ⟨L2, L3, L4, L5, L6, L7⟩, f1, f2⟩ := s_press (d := d) (σ := σ) (h := 47) (a := 3 + w.1.O p) (n := w.1.jn) (md := w.1.md) (p := p) (V := w.1.V) (O := w.1.O) (Or.inl rfl) (by omega) hn hV hO (by omega) (fun k hk => by rw [g1 _ (by omega)]; exact Z4 _ k hOp hk) H hmd
    obtain ⟨B1, B2, B3⟩ := TS_le (md := w.1.md) hV hO p (by omega)
    obtain ⟨t1, t2, t3, -⟩ := t_le (md := w.1.md) (hV (w.1.O p) · hOp) B1 B2 B3
    have ih := ih (p + 1) σ1 (some (.int (nI (w.1.O p)))) (by omega) H1 (fun i hi => by rw [f1 i hi, g1 i hi]) (by rw [f2, g2])
    have x1 : xtn w (p + 1) = nI (w.1.O (if tnB w p = true then p else lsP (tnB w) p)) := if_neg (by omega)
    rw [x1] at ih
    obtain ⟨σ', r, g⟩ := ih
    refine ⟨σ', ?_, g⟩
    rw [E_X6_turn_11]
    simp (disch := omega) only [true_and, and_true, and_self, exists_eq_left, Option.toList_some, Option.toList_none, List.cons_append, List.nil_append, List.append_nil, i2_i, i2_r, i2_n, nz0, nz1, true_or, or_true, Nat.reduceAdd, Nat.le_refl, Nat.reduceLT, Nat.reduceLeDiff, ↓E_X6_turn_0, ↓E_X6_turn_1, ↓E_X6_turn_2, ↓E_X6_turn_3, ↓E_X6_turn_6, ↓E_X6_turn_9, ↓E_X6_turn_10, ↓E_X6_turn_12, ↓E_X6_turn_13, ↓E_X6_turn_16, ↓E_X6_turn_19, ↓E_X6_turn_22, ↓E_X6_turn_23, ↓E_X6_turn_26, ↓E_X6_turn_29, ↓E_X6_turn_30, ↓E_X6_turn_31, ↓E_X6_turn_32, ↓E_X6_turn_33, ↓E_X6_turn_36, ↓E_X6_turn_37, ↓E_X6_turn_40, ↓E_X6_turn_43, ↓E_X6_turn_44, ↓E_X6_turn_45, ↓E_X6_turn_46, ↓E_X6_turn_49, ↓E_X6_turn_52, ↓E_X6_turn_55, ↓E_X6_turn_56, ↓E_X6_turn_59, ↓E_X6_turn_62, ↓E_X6_turn_63, ↓E_X6_turn_66, ↓E_X6_turn_69, ↓E_X6_turn_72, ↓E_X6_turn_73, ↓E_X6_turn_74, ↓E_X6_turn_77, ↓E_X6_turn_80, ↓E_X6_turn_81, kd_3, kd_0, kd_8, kd_12, ln_6, h0', m0', leN, vin, clN, ro, ptrG, mx_one c1, L5, L6, eqN, nI_1]
    rw [if_neg (by omega)]
    unfold tnB at r
    by_cases e : tBa w.1.V w.1.md (w.1.O p) (TS w.1.V w.1.md w.1.O p) = tAr w.1.V w.1.md (w.1.O p) (TS w.1.V w.1.md w.1.O p)
    · simp only [decide_eq_true e, if_true] at r
      rw [if_pos e]
      exact r
    · simp only [decide_eq_false e, if_neg (show ¬ false = true by decide)] at r
      rw [if_neg e]
      have x0 : xtn w p = nI (w.1.O (lsP (tnB w) p)) := by
        refine if_neg (fun z => e ?_)
        subst z
        show max _ 0 = _
        exact Nat.max_eq_left (Nat.zero_le _)
      rw [x0]
      exact r
set_option maxHeartbeats 4000000 in
theorem s_turn {d : Nat} {σ : mx_S} {w : Vw} (hw : vwX w σ) (hj : w.1.jn ≠ 0) : ∃ σ', mx_call (d + 2) m_X6_turn [.ref 0] σ (some (.int (nI (w.1.O (lsP (tnB w) w.1.jn)))), σ') ∧ scX σ σ' := by
  obtain ⟨σ1, c1, H1, f1, f2⟩ := s_open (d := d) (σ := σ) (h := 47) (Or.inl rfl) w.1.V w.1.md w.1.O
  obtain ⟨σ2, r, g1, g2⟩ := l_turn (d := d) σ hw hj w.1.jn 0 σ1 none (by omega) H1 f1 f2
  refine ⟨σ2, ?_, sc47 g1 g2⟩
  simp (disch := omega) only [C_X6_turn, true_and, and_true, and_self, exists_eq_left, Option.toList_some, Option.toList_none, List.cons_append, List.nil_append, List.append_nil, i2_i, i2_r, i2_n, nz0, nz1, true_or, or_true, Nat.reduceAdd, Nat.le_refl, Nat.reduceLT, Nat.reduceLeDiff, ↓E_X6_turn_0, ↓E_X6_turn_1, ↓E_X6_turn_2, ↓E_X6_turn_3, ↓E_X6_turn_6, ↓E_X6_turn_9, ↓E_X6_turn_10, ↓E_X6_turn_12, ↓E_X6_turn_13, ↓E_X6_turn_16, ↓E_X6_turn_19, ↓E_X6_turn_22, ↓E_X6_turn_23, ↓E_X6_turn_26, ↓E_X6_turn_29, ↓E_X6_turn_30, ↓E_X6_turn_31, ↓E_X6_turn_32, ↓E_X6_turn_33, ↓E_X6_turn_36, ↓E_X6_turn_37, ↓E_X6_turn_40, ↓E_X6_turn_43, ↓E_X6_turn_44, ↓E_X6_turn_45, ↓E_X6_turn_46, ↓E_X6_turn_49, ↓E_X6_turn_52, ↓E_X6_turn_55, ↓E_X6_turn_56, ↓E_X6_turn_59, ↓E_X6_turn_62, ↓E_X6_turn_63, ↓E_X6_turn_66, ↓E_X6_turn_69, ↓E_X6_turn_72, ↓E_X6_turn_73, ↓E_X6_turn_74, ↓E_X6_turn_77, ↓E_X6_turn_80, ↓E_X6_turn_81, kd_0, mx_one c1]
  exact r
