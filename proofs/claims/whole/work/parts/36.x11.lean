/-! ===== the class: steps ===== -/
abbrev BS : Type := Int × Option (Nat × Nat)
def btT (c : Nat → Nat → Int) (mn k l : Nat) (s : BS) : BS := if (mn = 2 ∨ l = k + 1) ∧ c k l < s.1 then (c k l, some (k, l)) else s
def btL (c : Nat → Nat → Int) (mn k : Nat) (s : BS) : Nat → BS
  | 0 => s
  | l + 1 => btT c mn k l (btL c mn k s l)
def btK (c : Nat → Nat → Int) (mn n : Nat) (s : BS) : Nat → BS
  | 0 => s
  | k + 1 => if mn = 0 ∧ (btK c mn n s k).2.isSome = true then btK c mn n s k else btL c mn k (btK c mn n s k) n
/-- the move that makes it better -/
def BT (w : Vw) (mn : Nat) : Option (Nat × Nat) := (btK (CM w) mn w.1.jn (C0 w, none) w.1.jn).2
def bF (s : BS) : Int32 := nI (s.2.getD (0, 0)).1
def bG (s : BS) : Int32 := nI (s.2.getD (0, 0)).2
def okB (n : Nat) (s : BS) : Prop := (-2147483648 ≤ s.1 ∧ s.1 ≤ 20000) ∧ ∀ x, s.2 = some x → x.1 < n ∧ x.2 < n
theorem okB_T {w : Vw} (ok : okW w) {mn k l : Nat} {s : BS} (hk : k < w.1.jn) (hl : l < w.1.jn) (h : okB w.1.jn s) : okB w.1.jn (btT (CM w) mn k l s) := by
  unfold btT
  split
  · exact ⟨CM_le ok hk hl, fun x hx => by cases hx; exact ⟨hk, hl⟩⟩
  · exact h
theorem okB_L {w : Vw} (ok : okW w) {mn k : Nat} {s : BS} (hk : k < w.1.jn) (h : okB w.1.jn s) : ∀ l, l ≤ w.1.jn → okB w.1.jn (btL (CM w) mn k s l)
  | 0, _ => h
  | l + 1, hl => okB_T ok hk (by omega) (okB_L ok hk h l (by omega))
theorem okB_K {w : Vw} (ok : okW w) {mn : Nat} {s : BS} (h : okB w.1.jn s) : ∀ k, k ≤ w.1.jn → okB w.1.jn (btK (CM w) mn w.1.jn s k)
  | 0, _ => h
  | k + 1, hk => by
    have := okB_K (mn := mn) ok h k (by omega)
    unfold btK
    split
    · exact this
    · exact okB_L ok (by omega) this _ (Nat.le_refl _)
set_option maxHeartbeats 4000000 in
theorem l_stepL {d : Nat} {w : Vw} {mn k : Nat} (hmn : mn ≤ 2) (σ0 : mx_S) (hw0 : vwX w σ0) (hk : k < w.1.jn) (s : BS) (okS : okB w.1.jn s) : ∀ m l (σ : mx_S) (lx ly : Option Value), l + m = w.1.jn → scX σ0 σ →
    ∃ (σ' : mx_S) (lx' ly' : Option Value), (∀ q, mx_run (d + 3) m_X6_takeStep 40 [some (.ref 0), some (.int (nI mn)), some (.int (iN (btL (CM w) mn k s l).1)), some (.int (bF (btL (CM w) mn k s l))), some (.int (bG (btL (CM w) mn k s l))), some (.int (bz (btL (CM w) mn k s l).2.isSome)), some (.int (nI k)), some (.int (nI l)), lx, ly] [] σ q
      ↔ mx_run (d + 3) m_X6_takeStep 117 [some (.ref 0), some (.int (nI mn)), some (.int (iN (btL (CM w) mn k s w.1.jn).1)), some (.int (bF (btL (CM w) mn k s w.1.jn))), some (.int (bG (btL (CM w) mn k s w.1.jn))), some (.int (bz (btL (CM w) mn k s w.1.jn).2.isSome)), some (.int (nI k)), some (.int (nI w.1.jn)), lx', ly'] [] σ' q) ∧ scX σ0 σ' := by
  have hn := hw0.1.1.1
  intro m
  induction m with
  | zero =>
    intro l σ lx ly hl sc
    have e : l = w.1.jn := by omega
    subst e
    obtain ⟨S1, S2, S3, S4, S5⟩ := vwX_now (sc.vw hw0)
    refine ⟨σ, lx, ly, fun q => ?_, sc⟩
    rw [E_X6_takeStep_40]
    simp (disch := omega) only [true_and, and_true, and_self, exists_eq_left, Option.toList_some, Option.toList_none, List.cons_append, List.nil_append, List.append_nil, i2_i, i2_r, i2_n, nz0, nz1, true_or, or_true, Nat.reduceAdd, Nat.le_refl, Nat.reduceLT, Nat.reduceLeDiff, ↓E_X6_takeStep_0, ↓E_X6_takeStep_1, ↓E_X6_takeStep_4, ↓E_X6_takeStep_5, ↓E_X6_takeStep_6, ↓E_X6_takeStep_7, ↓E_X6_takeStep_8, ↓E_X6_takeStep_10, ↓E_X6_takeStep_11, ↓E_X6_takeStep_13, ↓E_X6_takeStep_14, ↓E_X6_takeStep_18, ↓E_X6_takeStep_19, ↓E_X6_takeStep_22, ↓E_X6_takeStep_25, ↓E_X6_takeStep_28, ↓E_X6_takeStep_30, ↓E_X6_takeStep_33, ↓E_X6_takeStep_34, ↓E_X6_takeStep_37, ↓E_X6_takeStep_38, ↓E_X6_takeStep_42, ↓E_X6_takeStep_43, ↓E_X6_takeStep_46, ↓E_X6_takeStep_49, ↓E_X6_takeStep_52, ↓E_X6_takeStep_53, ↓E_X6_takeStep_54, ↓E_X6_takeStep_57, ↓E_X6_takeStep_59, ↓E_X6_takeStep_61, ↓E_X6_takeStep_62, ↓E_X6_takeStep_63, ↓E_X6_takeStep_66, ↓E_X6_takeStep_67, ↓E_X6_takeStep_70, ↓E_X6_takeStep_71, ↓E_X6_takeStep_73, ↓E_X6_takeStep_75, ↓E_X6_takeStep_78, ↓E_X6_takeStep_79, ↓E_X6_takeStep_81, ↓E_X6_takeStep_83, ↓E_X6_takeStep_86, ↓E_X6_takeStep_89, ↓E_X6_takeStep_90, ↓E_X6_takeStep_92, ↓E_X6_takeStep_94, ↓E_X6_takeStep_95, ↓E_X6_takeStep_98, ↓E_X6_takeStep_100, ↓E_X6_takeStep_101, ↓E_X6_takeStep_103, ↓E_X6_takeStep_104, ↓E_X6_takeStep_106, ↓E_X6_takeStep_108, ↓E_X6_takeStep_109, ↓E_X6_takeStep_111, ↓E_X6_takeStep_114, ↓E_X6_takeStep_120, ↓E_X6_takeStep_123, ↓E_X6_takeStep_125, ↓E_X6_takeStep_128, ↓E_X6_takeStep_129, ↓E_X6_takeStep_132, ↓E_X6_takeStep_133, ↓E_X6_takeStep_136, ↓E_X6_takeStep_139, ↓E_X6_takeStep_140, ↓E_X6_takeStep_142, ↓E_X6_takeStep_145, ↓E_X6_takeStep_147, kd_3, S1, leN, if_true]
  | succ m ih =>
    intro l σ lx ly hl sc
    have hw := sc.vw hw0
    obtain ⟨S1, S2, S3, S4, S5⟩ := vwX_now hw
    have st : btL (CM w) mn k s (l + 1) = btT (CM w) mn k l (btL (CM w) mn k s l) := rfl
    obtain ⟨okL, -⟩ := okB_L (mn := mn) hw.1 hk okS l (by omega)
    generalize btL (CM w) mn k s l = z at *
    by_cases ho : mn = 2 ∨ l = k + 1
    · obtain ⟨σ1, c1, f1, f2⟩ := s_movedCost (d := d) (k := k) (l := l) hw hk (by omega)
      have sc1 : scX σ0 σ1 := sc.tr ⟨fun i hi => f1 i (by omega) (by omega), f2⟩
      obtain ⟨σ', lx', ly', r, sc'⟩ := ih (l + 1) σ1 (some (.int 1)) (some (.int (iN (CM w k l)))) (by omega) sc1
      refine ⟨σ', lx', ly', fun q => ?_, sc'⟩
      rw [← r q, st]
      have b1 := CM_le hw.1 (k := k) (l := l) hk (by omega)
      have c1' : ∀ q, mx_call (d + 3) m_X6_movedCost [.ref 0, .int (nI k), .int (nI l)] σ q ↔ q = (some (.int (iN (CM w k l))), σ1) := mx_one c1
      have t1 : ∀ {A B : Prop}, (if nI mn = 2 then A else if nI l = nI (k + 1) then A else B) = A := by
        intro A B
        by_cases h2 : mn = 2
        · subst h2; rw [if_pos (by decide)]
        · rw [if_neg (by rw [show (2 : Int32) = nI 2 from rfl, nI_eq (by omega) (by omega)]; exact h2), if_pos (by rw [ho.resolve_left h2])]
      rw [E_X6_takeStep_40]
      simp (disch := omega) only [true_and, and_true, and_self, exists_eq_left, Option.toList_some, Option.toList_none, List.cons_append, List.nil_append, List.append_nil, i2_i, i2_r, i2_n, nz0, nz1, true_or, or_true, Nat.reduceAdd, Nat.le_refl, Nat.reduceLT, Nat.reduceLeDiff, ↓E_X6_takeStep_0, ↓E_X6_takeStep_1, ↓E_X6_takeStep_4, ↓E_X6_takeStep_5, ↓E_X6_takeStep_6, ↓E_X6_takeStep_7, ↓E_X6_takeStep_8, ↓E_X6_takeStep_10, ↓E_X6_takeStep_11, ↓E_X6_takeStep_13, ↓E_X6_takeStep_14, ↓E_X6_takeStep_18, ↓E_X6_takeStep_19, ↓E_X6_takeStep_22, ↓E_X6_takeStep_25, ↓E_X6_takeStep_28, ↓E_X6_takeStep_30, ↓E_X6_takeStep_33, ↓E_X6_takeStep_34, ↓E_X6_takeStep_37, ↓E_X6_takeStep_38, ↓E_X6_takeStep_42, ↓E_X6_takeStep_43, ↓E_X6_takeStep_46, ↓E_X6_takeStep_49, ↓E_X6_takeStep_52, ↓E_X6_takeStep_53, ↓E_X6_takeStep_54, ↓E_X6_takeStep_57, ↓E_X6_takeStep_59, ↓E_X6_takeStep_61, ↓E_X6_takeStep_62, ↓E_X6_takeStep_63, ↓E_X6_takeStep_66, ↓E_X6_takeStep_67, ↓E_X6_takeStep_70, ↓E_X6_takeStep_71, ↓E_X6_takeStep_73, ↓E_X6_takeStep_75, ↓E_X6_takeStep_78, ↓E_X6_takeStep_79, ↓E_X6_takeStep_81, ↓E_X6_takeStep_83, ↓E_X6_takeStep_86, ↓E_X6_takeStep_89, ↓E_X6_takeStep_90, ↓E_X6_takeStep_92, ↓E_X6_takeStep_94, ↓E_X6_takeStep_95, ↓E_X6_takeStep_98, ↓E_X6_takeStep_100, ↓E_X6_takeStep_101, ↓E_X6_takeStep_103, ↓E_X6_takeStep_104, ↓E_X6_takeStep_106, ↓E_X6_takeStep_108, ↓E_X6_takeStep_109, ↓E_X6_takeStep_111, ↓E_X6_takeStep_114, ↓E_X6_takeStep_120, ↓E_X6_takeStep_123, ↓E_X6_takeStep_125, ↓E_X6_takeStep_128, ↓E_X6_takeStep_129, ↓E_X6_takeStep_132, ↓E_X6_takeStep_133, ↓E_X6_takeStep_136, ↓E_X6_takeStep_139, ↓E_X6_takeStep_140, ↓E_X6_takeStep_142, ↓E_X6_takeStep_145, ↓E_X6_takeStep_147, kd_3, S1, leN, nI_1, c1', iN_le, iN_lt, if_neg (show ¬ (1 : Int32) = 0 by decide), if_true]
      rw [if_neg (by omega), t1]
      by_cases e : CM w k l < z.1
      · have hT : btT (CM w) mn k l z = (CM w k l, some (k, l)) := if_pos (And.intro ho e)
        rw [hT]
        first | rw [if_pos e] | rw [if_neg (show ¬ z.1 ≤ CM w k l by omega)]
        rfl
      · have hT : btT (CM w) mn k l z = z := if_neg (fun y => e y.2)
        rw [hT]
        first | rw [if_neg e] | rw [if_pos (show z.1 ≤ CM w k l by omega)]
    · obtain ⟨σ', lx', ly', r, sc'⟩ := ih (l + 1) σ (some (.int 0)) (some (.int (iN z.1))) (by omega) sc
      refine ⟨σ', lx', ly', fun q => ?_, sc'⟩
      rw [← r q, st]
      have t1 : ∀ {A B : Prop}, (if nI mn = 2 then A else if nI l = nI (k + 1) then A else B) = B := by
        intro A B
        rw [if_neg (by rw [show (2 : Int32) = nI 2 from rfl, nI_eq (by omega) (by omega)]; exact fun z => ho (Or.inl z)), if_neg (by rw [nI_eq (by omega) (by omega)]; exact fun z => ho (Or.inr z))]
      rw [E_X6_takeStep_40]
      simp (disch := omega) only [true_and, and_true, and_self, exists_eq_left, Option.toList_some, Option.toList_none, List.cons_append, List.nil_append, List.append_nil, i2_i, i2_r, i2_n, nz0, nz1, true_or, or_true, Nat.reduceAdd, Nat.le_refl, Nat.reduceLT, Nat.reduceLeDiff, ↓E_X6_takeStep_0, ↓E_X6_takeStep_1, ↓E_X6_takeStep_4, ↓E_X6_takeStep_5, ↓E_X6_takeStep_6, ↓E_X6_takeStep_7, ↓E_X6_takeStep_8, ↓E_X6_takeStep_10, ↓E_X6_takeStep_11, ↓E_X6_takeStep_13, ↓E_X6_takeStep_14, ↓E_X6_takeStep_18, ↓E_X6_takeStep_19, ↓E_X6_takeStep_22, ↓E_X6_takeStep_25, ↓E_X6_takeStep_28, ↓E_X6_takeStep_30, ↓E_X6_takeStep_33, ↓E_X6_takeStep_34, ↓E_X6_takeStep_37, ↓E_X6_takeStep_38, ↓E_X6_takeStep_42, ↓E_X6_takeStep_43, ↓E_X6_takeStep_46, ↓E_X6_takeStep_49, ↓E_X6_takeStep_52, ↓E_X6_takeStep_53, ↓E_X6_takeStep_54, ↓E_X6_takeStep_57, ↓E_X6_takeStep_59, ↓E_X6_takeStep_61, ↓E_X6_takeStep_62, ↓E_X6_takeStep_63, ↓E_X6_takeStep_66, ↓E_X6_takeStep_67, ↓E_X6_takeStep_70, ↓E_X6_takeStep_71, ↓E_X6_takeStep_73, ↓E_X6_takeStep_75, ↓E_X6_takeStep_78, ↓E_X6_takeStep_79, ↓E_X6_takeStep_81, ↓E_X6_takeStep_83, ↓E_X6_takeStep_86, ↓E_X6_takeStep_89, ↓E_X6_takeStep_90, ↓E_X6_takeStep_92, ↓E_X6_takeStep_94, ↓E_X6_takeStep_95, ↓E_X6_takeStep_98, ↓E_X6_takeStep_100, ↓E_X6_takeStep_101, ↓E_X6_takeStep_103, ↓E_X6_takeStep_104, ↓E_X6_takeStep_106, ↓E_X6_takeStep_108, ↓E_X6_takeStep_109, ↓E_X6_takeStep_111, ↓E_X6_takeStep_114, ↓E_X6_takeStep_120, ↓E_X6_takeStep_123, ↓E_X6_takeStep_125, ↓E_X6_takeStep_128, ↓E_X6_takeStep_129, ↓E_X6_takeStep_132, ↓E_X6_takeStep_133, ↓E_X6_takeStep_136, ↓E_X6_takeStep_139, ↓E_X6_takeStep_140, ↓E_X6_takeStep_142, ↓E_X6_takeStep_145, ↓E_X6_takeStep_147, kd_3, S1, leN, nI_1, iN_le, iN_lt, if_neg (show ¬ (1 : Int32) = 0 by decide), if_true]
      have hT : btT (CM w) mn k l z = z := if_neg (fun y => ho y.1)
      rw [if_neg (by omega), t1, hT]
      first | rw [if_pos (Int.le_refl _)] | rw [if_neg (Int.lt_irrefl _)]
set_option maxHeartbeats 4000000 in
theorem l_stepK {d : Nat} {w : Vw} {mn : Nat} (hmn : mn ≤ 2) (σ0 : mx_S) (hw0 : vwX w σ0) (s : BS) (okS : okB w.1.jn s) : ∀ m k (σ : mx_S) (lx ly lz : Option Value), k + m = w.1.jn → scX σ0 σ →
    ∃ (σ' : mx_S) (L : mx_L), (∀ q, mx_run (d + 3) m_X6_takeStep 16 [some (.ref 0), some (.int (nI mn)), some (.int (iN (btK (CM w) mn w.1.jn s k).1)), some (.int (bF (btK (CM w) mn w.1.jn s k))), some (.int (bG (btK (CM w) mn w.1.jn s k))), some (.int (bz (btK (CM w) mn w.1.jn s k).2.isSome)), some (.int (nI k)), lx, ly, lz] [] σ q
      ↔ mx_run (d + 3) m_X6_takeStep 123 (some (.ref 0) :: some (.int (nI mn)) :: some (.int (iN (btK (CM w) mn w.1.jn s w.1.jn).1)) :: some (.int (bF (btK (CM w) mn w.1.jn s w.1.jn))) :: some (.int (bG (btK (CM w) mn w.1.jn s w.1.jn))) :: some (.int (bz (btK (CM w) mn w.1.jn s w.1.jn).2.isSome)) :: L) [] σ' q) ∧ scX σ0 σ' := by
  have hn := hw0.1.1.1
  have hmn0 : (nI mn = 0) = (mn = 0) := eqN (b := 0) (by omega) (by omega)
  intro m
  induction m with
  | zero =>
    intro k σ lx ly lz hk sc
    have e : k = w.1.jn := by omega
    subst e
    obtain ⟨S1, S2, S3, S4, S5⟩ := vwX_now (sc.vw hw0)
    refine ⟨σ, [some (.int (nI w.1.jn)), lx, ly, lz], fun q => ?_, sc⟩
    rw [E_X6_takeStep_16]
    simp (disch := omega) only [true_and, and_true, and_self, exists_eq_left, Option.toList_some, Option.toList_none, List.cons_append, List.nil_append, List.append_nil, i2_i, i2_r, i2_n, nz0, nz1, true_or, or_true, Nat.reduceAdd, Nat.le_refl, Nat.reduceLT, Nat.reduceLeDiff, ↓E_X6_takeStep_0, ↓E_X6_takeStep_1, ↓E_X6_takeStep_4, ↓E_X6_takeStep_5, ↓E_X6_takeStep_6, ↓E_X6_takeStep_7, ↓E_X6_takeStep_8, ↓E_X6_takeStep_10, ↓E_X6_takeStep_11, ↓E_X6_takeStep_13, ↓E_X6_takeStep_14, ↓E_X6_takeStep_18, ↓E_X6_takeStep_19, ↓E_X6_takeStep_22, ↓E_X6_takeStep_25, ↓E_X6_takeStep_28, ↓E_X6_takeStep_30, ↓E_X6_takeStep_33, ↓E_X6_takeStep_34, ↓E_X6_takeStep_37, ↓E_X6_takeStep_38, ↓E_X6_takeStep_42, ↓E_X6_takeStep_43, ↓E_X6_takeStep_46, ↓E_X6_takeStep_49, ↓E_X6_takeStep_52, ↓E_X6_takeStep_53, ↓E_X6_takeStep_54, ↓E_X6_takeStep_57, ↓E_X6_takeStep_59, ↓E_X6_takeStep_61, ↓E_X6_takeStep_62, ↓E_X6_takeStep_63, ↓E_X6_takeStep_66, ↓E_X6_takeStep_67, ↓E_X6_takeStep_70, ↓E_X6_takeStep_71, ↓E_X6_takeStep_73, ↓E_X6_takeStep_75, ↓E_X6_takeStep_78, ↓E_X6_takeStep_79, ↓E_X6_takeStep_81, ↓E_X6_takeStep_83, ↓E_X6_takeStep_86, ↓E_X6_takeStep_89, ↓E_X6_takeStep_90, ↓E_X6_takeStep_92, ↓E_X6_takeStep_94, ↓E_X6_takeStep_95, ↓E_X6_takeStep_98, ↓E_X6_takeStep_100, ↓E_X6_takeStep_101, ↓E_X6_takeStep_103, ↓E_X6_takeStep_104, ↓E_X6_takeStep_106, ↓E_X6_takeStep_108, ↓E_X6_takeStep_109, ↓E_X6_takeStep_111, ↓E_X6_takeStep_114, ↓E_X6_takeStep_117, ↓E_X6_takeStep_120, ↓E_X6_takeStep_125, ↓E_X6_takeStep_128, ↓E_X6_takeStep_129, ↓E_X6_takeStep_132, ↓E_X6_takeStep_133, ↓E_X6_takeStep_136, ↓E_X6_takeStep_139, ↓E_X6_takeStep_140, ↓E_X6_takeStep_142, ↓E_X6_takeStep_145, ↓E_X6_takeStep_147, kd_3, S1, leN, if_true]
  | succ m ih =>
    intro k σ lx ly lz hk sc
    have hw := sc.vw hw0
    obtain ⟨S1, S2, S3, S4, S5⟩ := vwX_now hw
    have st : btK (CM w) mn w.1.jn s (k + 1) = if mn = 0 ∧ (btK (CM w) mn w.1.jn s k).2.isSome = true then btK (CM w) mn w.1.jn s k else btL (CM w) mn k (btK (CM w) mn w.1.jn s k) w.1.jn := rfl
    have okZ := okB_K (mn := mn) hw.1 okS k (by omega)
    by_cases hs : mn = 0 ∧ (btK (CM w) mn w.1.jn s k).2.isSome = true
    · have all : ∀ j, k ≤ j → btK (CM w) mn w.1.jn s j = btK (CM w) mn w.1.jn s k := by
        intro j hj
        induction j with
        | zero => rw [show k = 0 by omega]
        | succ j ihj =>
          by_cases e : k = j + 1
          · rw [e]
          · have e9 : btK (CM w) mn w.1.jn s (j + 1) = if mn = 0 ∧ (btK (CM w) mn w.1.jn s j).2.isSome = true then btK (CM w) mn w.1.jn s j else btL (CM w) mn j (btK (CM w) mn w.1.jn s j) w.1.jn := rfl
            rw [e9, ihj (by omega), if_pos hs]
      refine ⟨σ, [some (.int (nI k)), lx, ly, lz], fun q => ?_, sc⟩
      rw [E_X6_takeStep_16]
      simp (disch := omega) only [true_and, and_true, and_self, exists_eq_left, Option.toList_some, Option.toList_none, List.cons_append, List.nil_append, List.append_nil, i2_i, i2_r, i2_n, nz0, nz1, true_or, or_true, Nat.reduceAdd, Nat.le_refl, Nat.reduceLT, Nat.reduceLeDiff, ↓E_X6_takeStep_0, ↓E_X6_takeStep_1, ↓E_X6_takeStep_4, ↓E_X6_takeStep_5, ↓E_X6_takeStep_6, ↓E_X6_takeStep_7, ↓E_X6_takeStep_8, ↓E_X6_takeStep_10, ↓E_X6_takeStep_11, ↓E_X6_takeStep_13, ↓E_X6_takeStep_14, ↓E_X6_takeStep_18, ↓E_X6_takeStep_19, ↓E_X6_takeStep_22, ↓E_X6_takeStep_25, ↓E_X6_takeStep_28, ↓E_X6_takeStep_30, ↓E_X6_takeStep_33, ↓E_X6_takeStep_34, ↓E_X6_takeStep_37, ↓E_X6_takeStep_38, ↓E_X6_takeStep_42, ↓E_X6_takeStep_43, ↓E_X6_takeStep_46, ↓E_X6_takeStep_49, ↓E_X6_takeStep_52, ↓E_X6_takeStep_53, ↓E_X6_takeStep_54, ↓E_X6_takeStep_57, ↓E_X6_takeStep_59, ↓E_X6_takeStep_61, ↓E_X6_takeStep_62, ↓E_X6_takeStep_63, ↓E_X6_takeStep_66, ↓E_X6_takeStep_67, ↓E_X6_takeStep_70, ↓E_X6_takeStep_71, ↓E_X6_takeStep_73, ↓E_X6_takeStep_75, ↓E_X6_takeStep_78, ↓E_X6_takeStep_79, ↓E_X6_takeStep_81, ↓E_X6_takeStep_83, ↓E_X6_takeStep_86, ↓E_X6_takeStep_89, ↓E_X6_takeStep_90, ↓E_X6_takeStep_92, ↓E_X6_takeStep_94, ↓E_X6_takeStep_95, ↓E_X6_takeStep_98, ↓E_X6_takeStep_100, ↓E_X6_takeStep_101, ↓E_X6_takeStep_103, ↓E_X6_takeStep_104, ↓E_X6_takeStep_106, ↓E_X6_takeStep_108, ↓E_X6_takeStep_109, ↓E_X6_takeStep_111, ↓E_X6_takeStep_114, ↓E_X6_takeStep_117, ↓E_X6_takeStep_120, ↓E_X6_takeStep_125, ↓E_X6_takeStep_128, ↓E_X6_takeStep_129, ↓E_X6_takeStep_132, ↓E_X6_takeStep_133, ↓E_X6_takeStep_136, ↓E_X6_takeStep_139, ↓E_X6_takeStep_140, ↓E_X6_takeStep_142, ↓E_X6_takeStep_145, ↓E_X6_takeStep_147, kd_3, S1, leN, hs.2, bz_t, if_neg (show ¬ (1 : Int32) = 0 by decide), hmn0]
      rw [if_neg (by omega), if_pos hs.1, all w.1.jn (by omega), hs.2]
      rfl
    · rw [if_neg hs] at st
      obtain ⟨σ1, lx1, ly1, r1, sc1⟩ := l_stepL (d := d) hmn σ0 hw0 (show k < w.1.jn by omega) (btK (CM w) mn w.1.jn s k) okZ w.1.jn 0 σ ly lz (by omega) sc
      obtain ⟨σ', L, r2, sc2⟩ := ih (k + 1) σ1 (some (.int (nI w.1.jn))) lx1 ly1 (by omega) sc1
      refine ⟨σ', L, fun q => ?_, sc2⟩
      rw [← r2 q, st]
      have r1 := r1 q
      have e0 : btL (CM w) mn k (btK (CM w) mn w.1.jn s k) 0 = btK (CM w) mn w.1.jn s k := rfl
      rw [e0] at r1
      rw [E_X6_takeStep_16]
      simp (disch := omega) only [true_and, and_true, and_self, exists_eq_left, Option.toList_some, Option.toList_none, List.cons_append, List.nil_append, List.append_nil, i2_i, i2_r, i2_n, nz0, nz1, true_or, or_true, Nat.reduceAdd, Nat.le_refl, Nat.reduceLT, Nat.reduceLeDiff, ↓E_X6_takeStep_0, ↓E_X6_takeStep_1, ↓E_X6_takeStep_4, ↓E_X6_takeStep_5, ↓E_X6_takeStep_6, ↓E_X6_takeStep_7, ↓E_X6_takeStep_8, ↓E_X6_takeStep_10, ↓E_X6_takeStep_11, ↓E_X6_takeStep_13, ↓E_X6_takeStep_14, ↓E_X6_takeStep_18, ↓E_X6_takeStep_19, ↓E_X6_takeStep_22, ↓E_X6_takeStep_25, ↓E_X6_takeStep_28, ↓E_X6_takeStep_30, ↓E_X6_takeStep_33, ↓E_X6_takeStep_34, ↓E_X6_takeStep_37, ↓E_X6_takeStep_38, ↓E_X6_takeStep_42, ↓E_X6_takeStep_43, ↓E_X6_takeStep_46, ↓E_X6_takeStep_49, ↓E_X6_takeStep_52, ↓E_X6_takeStep_53, ↓E_X6_takeStep_54, ↓E_X6_takeStep_57, ↓E_X6_takeStep_59, ↓E_X6_takeStep_61, ↓E_X6_takeStep_62, ↓E_X6_takeStep_63, ↓E_X6_takeStep_66, ↓E_X6_takeStep_67, ↓E_X6_takeStep_70, ↓E_X6_takeStep_71, ↓E_X6_takeStep_73, ↓E_X6_takeStep_75, ↓E_X6_takeStep_78, ↓E_X6_takeStep_79, ↓E_X6_takeStep_81, ↓E_X6_takeStep_83, ↓E_X6_takeStep_86, ↓E_X6_takeStep_89, ↓E_X6_takeStep_90, ↓E_X6_takeStep_92, ↓E_X6_takeStep_94, ↓E_X6_takeStep_95, ↓E_X6_takeStep_98, ↓E_X6_takeStep_100, ↓E_X6_takeStep_101, ↓E_X6_takeStep_103, ↓E_X6_takeStep_104, ↓E_X6_takeStep_106, ↓E_X6_takeStep_108, ↓E_X6_takeStep_109, ↓E_X6_takeStep_111, ↓E_X6_takeStep_114, ↓E_X6_takeStep_117, ↓E_X6_takeStep_120, ↓E_X6_takeStep_125, ↓E_X6_takeStep_128, ↓E_X6_takeStep_129, ↓E_X6_takeStep_132, ↓E_X6_takeStep_133, ↓E_X6_takeStep_136, ↓E_X6_takeStep_139, ↓E_X6_takeStep_140, ↓E_X6_takeStep_142, ↓E_X6_takeStep_145, ↓E_X6_takeStep_147, kd_3, S1, leN, bz_0, hmn0]
      rw [if_neg (by omega)]
      have t2 : (mx_run (d + 3) m_X6_takeStep 117 [some (.ref 0), some (.int (nI mn)), some (.int (iN (btL (CM w) mn k (btK (CM w) mn w.1.jn s k) w.1.jn).1)), some (.int (bF (btL (CM w) mn k (btK (CM w) mn w.1.jn s k) w.1.jn))), some (.int (bG (btL (CM w) mn k (btK (CM w) mn w.1.jn s k) w.1.jn))), some (.int (bz (btL (CM w) mn k (btK (CM w) mn w.1.jn s k) w.1.jn).2.isSome)), some (.int (nI k)), some (.int (nI w.1.jn)), lx1, ly1] [] σ1 q) ↔ mx_run (d + 3) m_X6_takeStep 16 [some (.ref 0), some (.int (nI mn)), some (.int (iN (btL (CM w) mn k (btK (CM w) mn w.1.jn s k) w.1.jn).1)), some (.int (bF (btL (CM w) mn k (btK (CM w) mn w.1.jn s k) w.1.jn))), some (.int (bG (btL (CM w) mn k (btK (CM w) mn w.1.jn s k) w.1.jn))), some (.int (bz (btL (CM w) mn k (btK (CM w) mn w.1.jn s k) w.1.jn).2.isSome)), some (.int (nI (k + 1))), some (.int (nI w.1.jn)), lx1, ly1] [] σ1 q := by
        simp (disch := omega) only [true_and, and_true, and_self, exists_eq_left, Option.toList_some, Option.toList_none, List.cons_append, List.nil_append, List.append_nil, i2_i, i2_r, i2_n, nz0, nz1, true_or, or_true, Nat.reduceAdd, Nat.le_refl, Nat.reduceLT, Nat.reduceLeDiff, ↓E_X6_takeStep_0, ↓E_X6_takeStep_1, ↓E_X6_takeStep_4, ↓E_X6_takeStep_5, ↓E_X6_takeStep_6, ↓E_X6_takeStep_7, ↓E_X6_takeStep_8, ↓E_X6_takeStep_10, ↓E_X6_takeStep_11, ↓E_X6_takeStep_13, ↓E_X6_takeStep_14, ↓E_X6_takeStep_18, ↓E_X6_takeStep_19, ↓E_X6_takeStep_22, ↓E_X6_takeStep_25, ↓E_X6_takeStep_28, ↓E_X6_takeStep_30, ↓E_X6_takeStep_33, ↓E_X6_takeStep_34, ↓E_X6_takeStep_37, ↓E_X6_takeStep_38, ↓E_X6_takeStep_42, ↓E_X6_takeStep_43, ↓E_X6_takeStep_46, ↓E_X6_takeStep_49, ↓E_X6_takeStep_52, ↓E_X6_takeStep_53, ↓E_X6_takeStep_54, ↓E_X6_takeStep_57, ↓E_X6_takeStep_59, ↓E_X6_takeStep_61, ↓E_X6_takeStep_62, ↓E_X6_takeStep_63, ↓E_X6_takeStep_66, ↓E_X6_takeStep_67, ↓E_X6_takeStep_70, ↓E_X6_takeStep_71, ↓E_X6_takeStep_73, ↓E_X6_takeStep_75, ↓E_X6_takeStep_78, ↓E_X6_takeStep_79, ↓E_X6_takeStep_81, ↓E_X6_takeStep_83, ↓E_X6_takeStep_86, ↓E_X6_takeStep_89, ↓E_X6_takeStep_90, ↓E_X6_takeStep_92, ↓E_X6_takeStep_94, ↓E_X6_takeStep_95, ↓E_X6_takeStep_98, ↓E_X6_takeStep_100, ↓E_X6_takeStep_101, ↓E_X6_takeStep_103, ↓E_X6_takeStep_104, ↓E_X6_takeStep_106, ↓E_X6_takeStep_108, ↓E_X6_takeStep_109, ↓E_X6_takeStep_111, ↓E_X6_takeStep_114, ↓E_X6_takeStep_117, ↓E_X6_takeStep_120, ↓E_X6_takeStep_125, ↓E_X6_takeStep_128, ↓E_X6_takeStep_129, ↓E_X6_takeStep_132, ↓E_X6_takeStep_133, ↓E_X6_takeStep_136, ↓E_X6_takeStep_139, ↓E_X6_takeStep_140, ↓E_X6_takeStep_142, ↓E_X6_takeStep_145, ↓E_X6_takeStep_147, nI_1]
      rw [t2] at r1
      rw [← r1]
      by_cases h1 : (btK (CM w) mn w.1.jn s k).2.isSome = false
      · simp only [if_pos h1]; rfl
      · have h2 : ¬ mn = 0 := fun z => hs ⟨z, eq_true_of_ne_false h1⟩
        simp only [if_neg h1, if_neg h2]; rfl
set_option maxHeartbeats 4000000 in
theorem s_takeStep {d : Nat} {σ : mx_S} {w : Vw} {mn : Nat} (hw : vwX w σ) (hmn : mn ≤ 2) (hj : w.1.jn ≠ 0) : ∃ σ', mx_call (d + 4) m_X6_takeStep [.ref 0, .int (nI mn)] σ (some (.int (bz (BT w mn).isSome)), σ') ∧ hiS σ σ' ∧ vwX (match BT w mn with | none => w | some x => setShp w w.1.jn w.1.md w.1.am w.1.V (mv w.1.O x.1 x.2)) σ' := by
  have hn := hw.1.1.1
  obtain ⟨σ1, c1, f1, f2⟩ := s_planCost (d := d) hw
  have sc1 := sc47 f1 f2
  have ok0 : okB w.1.jn (C0 w, none) := ⟨C0_le hw.1, fun x hx => by cases hx⟩
  obtain ⟨σ2, L, r, sc2⟩ := l_stepK (d := d) hmn σ hw (C0 w, none) ok0 w.1.jn 0 σ1 none none none (by omega) sc1
  have okE := okB_K (mn := mn) hw.1 ok0 w.1.jn (Nat.le_refl _)
  have hw2 := sc2.vw hw
  obtain ⟨S1, S2, S3, S4, S5⟩ := vwX_now hw2
  have c1' : ∀ q, mx_call (d + 3) m_X6_planCost [.ref 0] σ q ↔ q = (some (.int (iN (C0 w))), σ1) := mx_one c1
  have r0 : ∀ q, mx_run (d + 3) m_X6_takeStep 16 [some (.ref 0), some (.int (nI mn)), some (.int (iN (C0 w))), some (.int 0), some (.int 0), some (.int 0), some (.int 0), none, none, none] [] σ1 q ↔ _ := fun q => r q
  simp (disch := omega) only [C_X6_takeStep, true_and, and_true, and_self, exists_eq_left, Option.toList_some, Option.toList_none, List.cons_append, List.nil_append, List.append_nil, i2_i, i2_r, i2_n, nz0, nz1, true_or, or_true, Nat.reduceAdd, Nat.le_refl, Nat.reduceLT, Nat.reduceLeDiff, ↓E_X6_takeStep_0, ↓E_X6_takeStep_1, ↓E_X6_takeStep_4, ↓E_X6_takeStep_5, ↓E_X6_takeStep_6, ↓E_X6_takeStep_7, ↓E_X6_takeStep_8, ↓E_X6_takeStep_10, ↓E_X6_takeStep_11, ↓E_X6_takeStep_13, ↓E_X6_takeStep_14, ↓E_X6_takeStep_18, ↓E_X6_takeStep_19, ↓E_X6_takeStep_22, ↓E_X6_takeStep_25, ↓E_X6_takeStep_28, ↓E_X6_takeStep_30, ↓E_X6_takeStep_33, ↓E_X6_takeStep_34, ↓E_X6_takeStep_37, ↓E_X6_takeStep_38, ↓E_X6_takeStep_40, ↓E_X6_takeStep_42, ↓E_X6_takeStep_43, ↓E_X6_takeStep_46, ↓E_X6_takeStep_49, ↓E_X6_takeStep_52, ↓E_X6_takeStep_53, ↓E_X6_takeStep_54, ↓E_X6_takeStep_57, ↓E_X6_takeStep_59, ↓E_X6_takeStep_61, ↓E_X6_takeStep_62, ↓E_X6_takeStep_63, ↓E_X6_takeStep_66, ↓E_X6_takeStep_67, ↓E_X6_takeStep_70, ↓E_X6_takeStep_71, ↓E_X6_takeStep_73, ↓E_X6_takeStep_75, ↓E_X6_takeStep_78, ↓E_X6_takeStep_79, ↓E_X6_takeStep_81, ↓E_X6_takeStep_83, ↓E_X6_takeStep_86, ↓E_X6_takeStep_89, ↓E_X6_takeStep_90, ↓E_X6_takeStep_92, ↓E_X6_takeStep_94, ↓E_X6_takeStep_95, ↓E_X6_takeStep_98, ↓E_X6_takeStep_100, ↓E_X6_takeStep_101, ↓E_X6_takeStep_103, ↓E_X6_takeStep_104, ↓E_X6_takeStep_106, ↓E_X6_takeStep_108, ↓E_X6_takeStep_109, ↓E_X6_takeStep_111, ↓E_X6_takeStep_114, ↓E_X6_takeStep_117, ↓E_X6_takeStep_120, ↓E_X6_takeStep_125, ↓E_X6_takeStep_128, ↓E_X6_takeStep_129, ↓E_X6_takeStep_132, ↓E_X6_takeStep_133, ↓E_X6_takeStep_136, ↓E_X6_takeStep_139, ↓E_X6_takeStep_140, ↓E_X6_takeStep_142, ↓E_X6_takeStep_145, ↓E_X6_takeStep_147, c1', r0]
  unfold BT
  generalize btK (CM w) mn w.1.jn (C0 w, none) w.1.jn = z at *
  obtain ⟨z1, z2⟩ := z
  cases z2 with
  | none =>
    simp (disch := omega) only [true_and, and_true, and_self, exists_eq_left, Option.toList_some, Option.toList_none, List.cons_append, List.nil_append, List.append_nil, i2_i, i2_r, i2_n, nz0, nz1, true_or, or_true, Nat.reduceAdd, Nat.le_refl, Nat.reduceLT, Nat.reduceLeDiff, ↓E_X6_takeStep_0, ↓E_X6_takeStep_1, ↓E_X6_takeStep_4, ↓E_X6_takeStep_5, ↓E_X6_takeStep_6, ↓E_X6_takeStep_7, ↓E_X6_takeStep_8, ↓E_X6_takeStep_10, ↓E_X6_takeStep_11, ↓E_X6_takeStep_13, ↓E_X6_takeStep_14, ↓E_X6_takeStep_18, ↓E_X6_takeStep_19, ↓E_X6_takeStep_22, ↓E_X6_takeStep_25, ↓E_X6_takeStep_28, ↓E_X6_takeStep_30, ↓E_X6_takeStep_33, ↓E_X6_takeStep_34, ↓E_X6_takeStep_37, ↓E_X6_takeStep_38, ↓E_X6_takeStep_40, ↓E_X6_takeStep_42, ↓E_X6_takeStep_43, ↓E_X6_takeStep_46, ↓E_X6_takeStep_49, ↓E_X6_takeStep_52, ↓E_X6_takeStep_53, ↓E_X6_takeStep_54, ↓E_X6_takeStep_57, ↓E_X6_takeStep_59, ↓E_X6_takeStep_61, ↓E_X6_takeStep_62, ↓E_X6_takeStep_63, ↓E_X6_takeStep_66, ↓E_X6_takeStep_67, ↓E_X6_takeStep_70, ↓E_X6_takeStep_71, ↓E_X6_takeStep_73, ↓E_X6_takeStep_75, ↓E_X6_takeStep_78, ↓E_X6_takeStep_79, ↓E_X6_takeStep_81, ↓E_X6_takeStep_83, ↓E_X6_takeStep_86, ↓E_X6_takeStep_89, ↓E_X6_takeStep_90, ↓E_X6_takeStep_92, ↓E_X6_takeStep_94, ↓E_X6_takeStep_95, ↓E_X6_takeStep_98, ↓E_X6_takeStep_100, ↓E_X6_takeStep_101, ↓E_X6_takeStep_103, ↓E_X6_takeStep_104, ↓E_X6_takeStep_106, ↓E_X6_takeStep_108, ↓E_X6_takeStep_109, ↓E_X6_takeStep_111, ↓E_X6_takeStep_114, ↓E_X6_takeStep_117, ↓E_X6_takeStep_120, ↓E_X6_takeStep_123, ↓E_X6_takeStep_125, ↓E_X6_takeStep_128, ↓E_X6_takeStep_129, ↓E_X6_takeStep_132, ↓E_X6_takeStep_133, ↓E_X6_takeStep_136, ↓E_X6_takeStep_139, ↓E_X6_takeStep_140, ↓E_X6_takeStep_142, ↓E_X6_takeStep_145, ↓E_X6_takeStep_147, Option.isSome_none, bz_f, if_true]
    exact ⟨σ2, rfl, sc2.hi, hw2⟩
  | some x =>
    obtain ⟨k, l⟩ := x
    obtain ⟨hk, hl⟩ := okE.2 (k, l) rfl
    have eF : bF (z1, some (k, l)) = nI k := rfl
    have eG : bG (z1, some (k, l)) = nI l := rfl
    simp (disch := omega) only [true_and, and_true, and_self, exists_eq_left, Option.toList_some, Option.toList_none, List.cons_append, List.nil_append, List.append_nil, i2_i, i2_r, i2_n, nz0, nz1, true_or, or_true, Nat.reduceAdd, Nat.le_refl, Nat.reduceLT, Nat.reduceLeDiff, ↓E_X6_takeStep_0, ↓E_X6_takeStep_1, ↓E_X6_takeStep_4, ↓E_X6_takeStep_5, ↓E_X6_takeStep_6, ↓E_X6_takeStep_7, ↓E_X6_takeStep_8, ↓E_X6_takeStep_10, ↓E_X6_takeStep_11, ↓E_X6_takeStep_13, ↓E_X6_takeStep_14, ↓E_X6_takeStep_18, ↓E_X6_takeStep_19, ↓E_X6_takeStep_22, ↓E_X6_takeStep_25, ↓E_X6_takeStep_28, ↓E_X6_takeStep_30, ↓E_X6_takeStep_33, ↓E_X6_takeStep_34, ↓E_X6_takeStep_37, ↓E_X6_takeStep_38, ↓E_X6_takeStep_40, ↓E_X6_takeStep_42, ↓E_X6_takeStep_43, ↓E_X6_takeStep_46, ↓E_X6_takeStep_49, ↓E_X6_takeStep_52, ↓E_X6_takeStep_53, ↓E_X6_takeStep_54, ↓E_X6_takeStep_57, ↓E_X6_takeStep_59, ↓E_X6_takeStep_61, ↓E_X6_takeStep_62, ↓E_X6_takeStep_63, ↓E_X6_takeStep_66, ↓E_X6_takeStep_67, ↓E_X6_takeStep_70, ↓E_X6_takeStep_71, ↓E_X6_takeStep_73, ↓E_X6_takeStep_75, ↓E_X6_takeStep_78, ↓E_X6_takeStep_79, ↓E_X6_takeStep_81, ↓E_X6_takeStep_83, ↓E_X6_takeStep_86, ↓E_X6_takeStep_89, ↓E_X6_takeStep_90, ↓E_X6_takeStep_92, ↓E_X6_takeStep_94, ↓E_X6_takeStep_95, ↓E_X6_takeStep_98, ↓E_X6_takeStep_100, ↓E_X6_takeStep_101, ↓E_X6_takeStep_103, ↓E_X6_takeStep_104, ↓E_X6_takeStep_106, ↓E_X6_takeStep_108, ↓E_X6_takeStep_109, ↓E_X6_takeStep_111, ↓E_X6_takeStep_114, ↓E_X6_takeStep_117, ↓E_X6_takeStep_120, ↓E_X6_takeStep_123, ↓E_X6_takeStep_125, ↓E_X6_takeStep_128, ↓E_X6_takeStep_129, ↓E_X6_takeStep_132, ↓E_X6_takeStep_133, ↓E_X6_takeStep_136, ↓E_X6_takeStep_139, ↓E_X6_takeStep_140, ↓E_X6_takeStep_142, ↓E_X6_takeStep_145, ↓E_X6_takeStep_147, Option.isSome_some, bz_t, if_neg (show ¬ (1 : Int32) = 0 by decide), kd_3, eF, eG, s_shiftJob (h := 1) (a := 9) (Or.inl rfl) (Or.inl rfl) hn S1 hk hl]
    have hO := hw.1.1.2.2.2.2.1
    have vO := vwX_O (O := mv w.1.O k l) (g := fun p => σ2.1 9 (mvI k l p)) hw2 (okO_mv hO hk hl) (fun p hp => S5 _ (mvI_lt hk hl hp))
    exact ⟨_, rfl, sc2.hi.tr vO.2, vO.1⟩
/-- steps, n at most -/
def stN (mn : Nat) : Nat → Vw → Nat × Vw
  | 0, w => (0, w)
  | m + 1, w => match BT w mn with
    | none => (0, w)
    | some x => ((stN mn m (setShp w w.1.jn w.1.md w.1.am w.1.V (mv w.1.O x.1 x.2))).1 + 1, (stN mn m (setShp w w.1.jn w.1.md w.1.am w.1.V (mv w.1.O x.1 x.2))).2)
def F_step (w : Vw) (mn n : Int32) : Int32 × Vw := if ibI mn 3 = false ∨ inI n 100 = false then (-2, w) else if w.1.jn = 0 then (-3, w) else (nI (stN (ixI mn) (ixI n) w).1, (stN (ixI mn) (ixI n) w).2)
set_option maxHeartbeats 4000000 in
theorem l_step {d : Nat} {mn n : Nat} (hmn : mn ≤ 2) (hn : n ≤ 100) : ∀ m t (σ : mx_S) (w : Vw), t + m = n → vwX w σ → w.1.jn ≠ 0 → ∃ σ', mx_run (d + 4) m_X6_step 36 [some (.ref 0), some (.int (nI mn)), some (.int (nI n)), some (.int (nI t))] [] σ (some (.int (nI (t + (stN mn m w).1))), σ') ∧ vwX (stN mn m w).2 σ' ∧ hiS σ σ' := by
  intro m
  induction m with
  | zero =>
    intro t σ w ht hw hj
    have e : t = n := by omega
    subst e
    simp only [E_X6_step_36]
    simp (disch := omega) only [true_and, and_true, and_self, exists_eq_left, Option.toList_some, Option.toList_none, List.cons_append, List.nil_append, List.append_nil, i2_i, i2_r, i2_n, nz0, nz1, true_or, or_true, Nat.reduceAdd, Nat.le_refl, Nat.reduceLT, Nat.reduceLeDiff, ↓E_X6_step_0, ↓E_X6_step_1, ↓E_X6_step_2, ↓E_X6_step_5, ↓E_X6_step_8, ↓E_X6_step_9, ↓E_X6_step_12, ↓E_X6_step_13, ↓E_X6_step_15, ↓E_X6_step_18, ↓E_X6_step_20, ↓E_X6_step_21, ↓E_X6_step_22, ↓E_X6_step_25, ↓E_X6_step_28, ↓E_X6_step_31, ↓E_X6_step_33, ↓E_X6_step_34, ↓E_X6_step_35, ↓E_X6_step_37, ↓E_X6_step_38, ↓E_X6_step_41, ↓E_X6_step_42, ↓E_X6_step_43, ↓E_X6_step_46, ↓E_X6_step_49, ↓E_X6_step_52, ↓E_X6_step_55, ↓E_X6_step_56, leN, if_true]
    exact ⟨σ, rfl, hw, hiS.rf⟩
  | succ m ih =>
    intro t σ w ht hw hj
    obtain ⟨σ1, c1, hi1, hw1⟩ := s_takeStep (d := d) hw hmn hj
    simp only [E_X6_step_36]
    simp (disch := omega) only [true_and, and_true, and_self, exists_eq_left, Option.toList_some, Option.toList_none, List.cons_append, List.nil_append, List.append_nil, i2_i, i2_r, i2_n, nz0, nz1, true_or, or_true, Nat.reduceAdd, Nat.le_refl, Nat.reduceLT, Nat.reduceLeDiff, ↓E_X6_step_0, ↓E_X6_step_1, ↓E_X6_step_2, ↓E_X6_step_5, ↓E_X6_step_8, ↓E_X6_step_9, ↓E_X6_step_12, ↓E_X6_step_13, ↓E_X6_step_15, ↓E_X6_step_18, ↓E_X6_step_20, ↓E_X6_step_21, ↓E_X6_step_22, ↓E_X6_step_25, ↓E_X6_step_28, ↓E_X6_step_31, ↓E_X6_step_33, ↓E_X6_step_34, ↓E_X6_step_35, ↓E_X6_step_37, ↓E_X6_step_38, ↓E_X6_step_41, ↓E_X6_step_42, ↓E_X6_step_43, ↓E_X6_step_46, ↓E_X6_step_49, ↓E_X6_step_52, ↓E_X6_step_55, ↓E_X6_step_56, leN, mx_one c1, bz_0, nI_1, if_neg (show ¬ n ≤ t by omega)]
    unfold stN
    cases hB : BT w mn with
    | none =>
      rw [hB] at hw1
      simp only [Option.isSome_none, if_true]
      exact ⟨σ1, rfl, hw1, hi1⟩
    | some x =>
      rw [hB] at hw1
      simp only [Option.isSome_some, if_neg (show ¬ true = false by decide)]
      obtain ⟨σ2, r, hw2, hi2⟩ := ih (t + 1) σ1 _ (by omega) hw1 hj
      refine ⟨σ2, ?_, hw2, hi1.tr hi2⟩
      rw [show t + ((stN mn m (setShp w w.1.jn w.1.md w.1.am w.1.V (mv w.1.O x.1 x.2))).1 + 1) = t + 1 + (stN mn m (setShp w w.1.jn w.1.md w.1.am w.1.V (mv w.1.O x.1 x.2))).1 by omega]
      exact r
