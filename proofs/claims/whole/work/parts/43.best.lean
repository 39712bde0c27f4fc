/-! ===== the best of all orders, in plain numbers ===== -/
def ofL (L : List Nat) (p : Nat) : Nat := L.getD p 0
def catN {α : Type} (g : Nat → List α) : Nat → List α
  | 0 => []
  | j + 1 => catN g j ++ g j
/-- all orders that begin so, in the order of words -/
def cps (n : Nat) : Nat → List Nat → List (List Nat)
  | 0, L => [L]
  | m + 1, L => catN (fun j => if L.contains j = true then [] else cps n m (L ++ [j])) n
def upB (c : List Nat → Int) (s : Int × List Nat) (L : List Nat) : Int × List Nat := if c L < s.1 then (c L, L) else s
def cst (V : Nat → Nat → Nat) (md am : Nat) (L : List Nat) : Int := CST V md am (ofL L) L.length
def bst (c : List Nat → Int) (n : Nat) : Int × List Nat := (cps n n []).foldl (upB c) (1000000, [])
theorem mem_catN {α : Type} {g : Nat → List α} {x : α} : ∀ n, x ∈ catN g n → ∃ j, j < n ∧ x ∈ g j
  | 0, h => by simp [catN] at h
  | n + 1, h => by
    rcases List.mem_append.mp h with h | h
    · obtain ⟨j, hj, e⟩ := mem_catN n h
      exact ⟨j, by omega, e⟩
    · exact ⟨n, by omega, h⟩
theorem cps_pre {n : Nat} : ∀ m L L', L' ∈ cps n m L → ∃ M, L' = L ++ M ∧ M.length = m ∧ ∀ x ∈ M, x < n
  | 0, L, L', h => ⟨[], by simpa [cps] using h, rfl, fun x hx => by simp at hx⟩
  | m + 1, L, L', h => by
    obtain ⟨j, hj, h1⟩ := mem_catN n h
    by_cases e : L.contains j = true
    · rw [if_pos e] at h1
      simp at h1
    · rw [if_neg e] at h1
      obtain ⟨M, e1, e2, e3⟩ := cps_pre m _ L' h1
      refine ⟨j :: M, by rw [e1]; simp, by rw [List.length_cons, e2], fun x hx => ?_⟩
      rcases List.mem_cons.mp hx with h | h
      · rw [h]; exact hj
      · exact e3 x h
theorem ofL_app {L M : List Nat} {p : Nat} (h : p < L.length) : ofL (L ++ M) p = ofL L p := by
  unfold ofL
  rw [List.getD_eq_getElem?_getD, List.getD_eq_getElem?_getD, List.getElem?_append_left h]
theorem ofL_end {L : List Nat} {j : Nat} : ofL (L ++ [j]) L.length = j := by
  unfold ofL
  rw [List.getD_eq_getElem?_getD, List.getElem?_append_right (Nat.le_refl _), Nat.sub_self]
  rfl
theorem ofL_lt {L : List Nat} {n : Nat} (hn : 0 < n) (h : ∀ x ∈ L, x < n) (p : Nat) : ofL L p < n := by
  unfold ofL
  rw [List.getD_eq_getElem?_getD]
  by_cases e : p < L.length
  · rw [List.getElem?_eq_getElem e]
    exact h _ (List.getElem_mem e)
  · rw [List.getElem?_eq_none (by omega)]
    exact hn
theorem TS_pre {V : Nat → Nat → Nat} {md : Nat} {O O' : Nat → Nat} : ∀ p, (∀ i, i < p → O i = O' i) → TS V md O p = TS V md O' p
  | 0, _ => rfl
  | p + 1, h => by
    unfold TS
    rw [TS_pre p (fun i hi => h i (by omega)), h p (by omega)]
theorem EN_pre {V : Nat → Nat → Nat} {md p : Nat} {O O' : Nat → Nat} (h : ∀ i, i < p + 1 → O i = O' i) : EN V md O p = EN V md O' p := by
  unfold EN
  rw [TS_pre p (fun i hi => h i (by omega)), h p (by omega)]
theorem EL_pre {V : Nat → Nat → Nat} {md : Nat} {O O' : Nat → Nat} : ∀ p, (∀ i, i < p → O i = O' i) → EL V md O p = EL V md O' p
  | 0, _ => rfl
  | p + 1, h => EN_pre h
theorem FL_pre {V : Nat → Nat → Nat} {md : Nat} {O O' : Nat → Nat} : ∀ p, (∀ i, i < p → O i = O' i) → FL V md O p = FL V md O' p
  | 0, _ => rfl
  | p + 1, h => by
    unfold FL
    rw [FL_pre p (fun i hi => h i (by omega)), EN_pre h]
theorem LT_pre {V : Nat → Nat → Nat} {md : Nat} {O O' : Nat → Nat} : ∀ p, (∀ i, i < p → O i = O' i) → LT V md O p = LT V md O' p
  | 0, _ => rfl
  | p + 1, h => by
    unfold LT
    rw [LT_pre p (fun i hi => h i (by omega)), EN_pre h, h p (by omega)]
theorem CST_pre {V : Nat → Nat → Nat} {md am p : Nat} {O O' : Nat → Nat} (h : ∀ i, i < p → O i = O' i) : CST V md am O p = CST V md am O' p := by
  unfold CST
  rw [EL_pre p h, FL_pre p h, LT_pre p h]
theorem EL_TS {V : Nat → Nat → Nat} {md : Nat} {O : Nat → Nat} : ∀ p, EL V md O p ≤ (TS V md O p).2.1
  | 0 => Nat.le_refl _
  | p + 1 => by
    show EN V md O p ≤ EN V md O p + V (O p) 4
    omega
theorem EL_mono {V : Nat → Nat → Nat} {md : Nat} {O : Nat → Nat} (p : Nat) : EL V md O p ≤ EL V md O (p + 1) := by
  have h := EL_TS (V := V) (md := md) (O := O) p
  show _ ≤ tBa V md (O p) (TS V md O p) + V (O p) 2
  unfold tBa
  omega
theorem CST_mono1 {V : Nat → Nat → Nat} {md am : Nat} {O : Nat → Nat} (p : Nat) : CST V md am O p ≤ CST V md am O (p + 1) := by
  unfold CST
  split
  · exact Int.ofNat_le.mpr (EL_mono p)
  · split
    · show ((FL V md O p : Nat) : Int) ≤ ((FL V md O p + EN V md O p : Nat) : Int)
      omega
    · show _ ≤ max (LT V md O p) _
      omega
theorem CST_mono {V : Nat → Nat → Nat} {md am : Nat} {O : Nat → Nat} {p : Nat} : ∀ m, CST V md am O p ≤ CST V md am O (p + m)
  | 0 => Int.le_refl _
  | m + 1 => Int.le_trans (CST_mono m) (CST_mono1 (p + m))
theorem cst_mono {V : Nat → Nat → Nat} {md am n m : Nat} {L L' : List Nat} (h : L' ∈ cps n m L) : cst V md am L ≤ cst V md am L' := by
  obtain ⟨M, e1, e2, e3⟩ := cps_pre m L L' h
  subst e1
  unfold cst
  rw [CST_pre (O := ofL L) (O' := ofL (L ++ M)) (fun i hi => (ofL_app hi).symm), List.length_append]
  exact CST_mono _
theorem fold_skip {c : List Nat → Int} {s : Int × List Nat} : ∀ l : List (List Nat), (∀ L ∈ l, s.1 ≤ c L) → l.foldl (upB c) s = s
  | [], _ => rfl
  | L :: l, h => by
    have h1 := h L (List.mem_cons_self ..)
    have e : upB c s L = s := if_neg (by omega)
    rw [List.foldl_cons, e]
    exact fold_skip l (fun L hL => h L (List.mem_cons_of_mem _ hL))
theorem CST_leP {n p : Nat} {V : Nat → Nat → Nat} {md am : Nat} {O : Nat → Nat} (hn : n ≤ 6) (hV : okV n V) (hO : ∀ p, p < n → O p < n) (hp : p ≤ n) : -2147483648 ≤ CST V md am O p ∧ CST V md am O p ≤ 20000 := by
  have h1 := EL_le (md := md) hV hO p hp
  have h2 := FL_le (md := md) hn hV hO p hp
  have h3 := LT_le (md := md) hn hV hO p hp
  unfold CST
  split
  · omega
  · split <;> omega
theorem cst_le {n : Nat} {V : Nat → Nat → Nat} {md am : Nat} {L : List Nat} (hn : n ≤ 6) (h0 : 0 < n) (hV : okV n V) (hL : ∀ x ∈ L, x < n) (hl : L.length ≤ n) : -2147483648 ≤ cst V md am L ∧ cst V md am L ≤ 20000 := CST_leP hn hV (fun p _ => ofL_lt h0 hL p) hl
theorem upB_le {n : Nat} {V : Nat → Nat → Nat} {md am : Nat} {s : Int × List Nat} (hn : n ≤ 6) (h0 : 0 < n) (hV : okV n V) (hs : -2147483648 ≤ s.1 ∧ s.1 ≤ 2147483647) : ∀ l : List (List Nat), (∀ L ∈ l, (∀ x ∈ L, x < n) ∧ L.length ≤ n) → -2147483648 ≤ (l.foldl (upB (cst V md am)) s).1 ∧ (l.foldl (upB (cst V md am)) s).1 ≤ 2147483647 := by
  intro l
  induction l generalizing s with
  | nil => intro _; exact hs
  | cons L l ih =>
    intro h
    rw [List.foldl_cons]
    refine ih ?_ (fun L hL => h L (List.mem_cons_of_mem _ hL))
    have := h L (List.mem_cons_self ..)
    have := cst_le (md := md) (am := am) hn h0 hV this.1 this.2
    unfold upB
    split
    · exact ⟨this.1, by show cst V md am L ≤ _; omega⟩
    · exact hs
def idL (n : Nat) : List Nat := List.range n
theorem cps_id : ∀ n, n ≤ 6 → (cps n n []).head? = some (idL n) := by decide +kernel
theorem fold_or {c : List Nat → Int} : ∀ (l : List (List Nat)) (s : Int × List Nat), l.foldl (upB c) s = s ∨ ∃ L ∈ l, l.foldl (upB c) s = (c L, L)
  | [], s => Or.inl rfl
  | L :: l, s => by
    rw [List.foldl_cons]
    rcases fold_or l (upB c s L) with h | ⟨L', h1, h2⟩
    · rw [h]
      unfold upB
      split
      · exact Or.inr ⟨L, List.mem_cons_self .., rfl⟩
      · exact Or.inl rfl
    · exact Or.inr ⟨L', List.mem_cons_of_mem _ h1, h2⟩
theorem cps_cons {n : Nat} (hn : n ≤ 6) : ∃ r, cps n n [] = idL n :: r := by
  have h := cps_id n hn
  cases e : cps n n [] with
  | nil => rw [e] at h; cases h
  | cons a r => rw [e] at h; cases h; exact ⟨r, rfl⟩
/-- the best is an order -/
theorem bst_ok {n : Nat} {V : Nat → Nat → Nat} {md am : Nat} (hn : n ≤ 6) (h0 : 0 < n) (hV : okV n V) : (bst (cst V md am) n).2 ∈ cps n n [] ∧ (bst (cst V md am) n).1 = cst V md am (bst (cst V md am) n).2 := by
  obtain ⟨r, e⟩ := cps_cons hn
  have hi : idL n ∈ cps n n [] := by rw [e]; exact List.mem_cons_self ..
  obtain ⟨M, e1, e2, e3⟩ := cps_pre n [] _ hi
  rw [List.nil_append] at e1
  have hc := cst_le (md := md) (am := am) hn h0 hV (L := idL n) (by rw [e1]; exact e3) (by rw [e1]; omega)
  have e4 : upB (cst V md am) (1000000, []) (idL n) = (cst V md am (idL n), idL n) := if_pos (by show _ < (1000000 : Int); omega)
  have e5 : bst (cst V md am) n = r.foldl (upB (cst V md am)) (cst V md am (idL n), idL n) := by
    unfold bst
    rw [e, List.foldl_cons, e4]
  rw [e5, e]
  rcases fold_or r (c := cst V md am) (cst V md am (idL n), idL n) with h | ⟨L', h1, h2⟩
  · rw [h]; exact ⟨List.mem_cons_self .., rfl⟩
  · rw [h2]; exact ⟨List.mem_cons_of_mem _ h1, rfl⟩
