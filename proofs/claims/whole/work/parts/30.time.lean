/-! ===== times, in plain numbers: s = first hall free, second hall free, arrival ahead ===== -/
def tDn (V : Nat → Nat → Nat) (j : Nat) (s : Nat × Nat × Nat) : Nat := s.1 + V j 0
def tAr (V : Nat → Nat → Nat) (md j : Nat) (s : Nat × Nat × Nat) : Nat := (if md = 1 then max (tDn V j s) s.2.2 else tDn V j s) + V j 1
def tBa (V : Nat → Nat → Nat) (md j : Nat) (s : Nat × Nat × Nat) : Nat := max (tAr V md j s) s.2.1
def tEn (V : Nat → Nat → Nat) (md j : Nat) (s : Nat × Nat × Nat) : Nat := tBa V md j s + V j 2
def tLv (V : Nat → Nat → Nat) (md j : Nat) (s : Nat × Nat × Nat) : Nat := if md = 2 then tBa V md j s - V j 1 else tDn V j s
def tNx (V : Nat → Nat → Nat) (md j : Nat) (s : Nat × Nat × Nat) : Nat × Nat × Nat := (tLv V md j s + V j 3, tEn V md j s + V j 4, tAr V md j s)
def okV (n : Nat) (V : Nat → Nat → Nat) : Prop := ∀ j k, j < n → k < 6 → V j k ≤ 99
theorem t_le {V : Nat → Nat → Nat} {md j B : Nat} {s : Nat × Nat × Nat} (hV : ∀ k, k < 6 → V j k ≤ 99) (h1 : s.1 ≤ B) (h2 : s.2.1 ≤ B) (h3 : s.2.2 ≤ B) : tDn V j s ≤ B + 99 ∧ tAr V md j s ≤ B + 198 ∧ tBa V md j s ≤ B + 198 ∧ tEn V md j s ≤ B + 297 ∧ tLv V md j s ≤ B + 198 ∧ V j 1 ≤ tBa V md j s := by
  have v0 := hV 0 (by omega)
  have v1 := hV 1 (by omega)
  have v2 := hV 2 (by omega)
  have d1 : tDn V j s ≤ B + 99 := by unfold tDn; omega
  have d2 : tAr V md j s ≤ B + 198 ∧ V j 1 ≤ tAr V md j s := by unfold tAr; split <;> omega
  have d3 : tBa V md j s ≤ B + 198 ∧ V j 1 ≤ tBa V md j s := by unfold tBa; omega
  have d4 : tEn V md j s ≤ B + 297 := by unfold tEn; omega
  have d5 : tLv V md j s ≤ B + 198 := by unfold tLv; split <;> omega
  exact ⟨d1, d2.1, d3.1, d4, d5, d3.2⟩
def iN (x : Int) : Int32 := Int32.ofInt x
theorem iN_nI (n : Nat) : nI n = iN (n : Int) := rfl
theorem iN_toInt {x : Int} (h1 : -2147483648 ≤ x) (h2 : x < 2147483648) : (iN x).toInt = x := Int32.toInt_ofInt_of_le h1 h2
theorem iN_sub {a b : Nat} : nI a - nI b = iN ((a : Int) - (b : Int)) := by
  unfold iN
  rw [Int32.ofInt_sub]
  rfl
theorem iN_lt {a b : Int} (h1 : -2147483648 ≤ a) (h2 : a < 2147483648) (h3 : -2147483648 ≤ b) (h4 : b < 2147483648) : (iN a < iN b) = (a < b) := by rw [l32, iN_toInt h1 h2, iN_toInt h3 h4]
theorem iN_max {a b : Int} (h1 : -2147483648 ≤ a) (h2 : a < 2147483648) (h3 : -2147483648 ≤ b) (h4 : b < 2147483648) : (if iN a < iN b then iN b else iN a) = iN (max a b) := by
  by_cases h : a < b
  · rw [if_pos (by rw [iN_lt h1 h2 h3 h4]; exact h), Int.max_eq_right (by omega)]
  · rw [if_neg (by rw [iN_lt h1 h2 h3 h4]; exact h), Int.max_eq_left (by omega)]
theorem nI_max {a b : Nat} (ha : a < 2147483648) (hb : b < 2147483648) : (if nI a < nI b then nI b else nI a) = nI (max a b) := by
  by_cases h : a < b
  · rw [if_pos (nI_lt h hb), Nat.max_eq_right (by omega)]
  · rw [if_neg (nI_nlt (by omega) ha), Nat.max_eq_left (by omega)]
theorem nI_min {a b : Nat} (ha : a < 2147483648) (hb : b < 2147483648) : (if nI b < nI a then nI b else nI a) = nI (min a b) := by
  by_cases h : b < a
  · rw [if_pos (nI_lt h ha), Nat.min_eq_right (by omega)]
  · rw [if_neg (nI_nlt (by omega) hb), Nat.min_eq_left (by omega)]
/-- behind p jobs of an order -/
def TS (V : Nat → Nat → Nat) (md : Nat) (O : Nat → Nat) : Nat → Nat × Nat × Nat
  | 0 => (0, 0, 0)
  | p + 1 => tNx V md (O p) (TS V md O p)
def EN (V : Nat → Nat → Nat) (md : Nat) (O : Nat → Nat) (p : Nat) : Nat := tEn V md (O p) (TS V md O p)
def EL (V : Nat → Nat → Nat) (md : Nat) (O : Nat → Nat) : Nat → Nat
  | 0 => 0
  | p + 1 => EN V md O p
def FL (V : Nat → Nat → Nat) (md : Nat) (O : Nat → Nat) : Nat → Nat
  | 0 => 0
  | p + 1 => FL V md O p + EN V md O p
def LT (V : Nat → Nat → Nat) (md : Nat) (O : Nat → Nat) : Nat → Int
  | 0 => -1000000
  | p + 1 => max (LT V md O p) ((EN V md O p : Int) - (V (O p) 5 : Int))
def CST (V : Nat → Nat → Nat) (md am : Nat) (O : Nat → Nat) (n : Nat) : Int := if am = 0 then (EL V md O n : Int) else if am = 1 then (FL V md O n : Int) else LT V md O n
theorem TS_le {n : Nat} {V : Nat → Nat → Nat} {md : Nat} {O : Nat → Nat} (hV : okV n V) (hO : ∀ p, p < n → O p < n) : ∀ p, p ≤ n → (TS V md O p).1 ≤ 400 * p ∧ (TS V md O p).2.1 ≤ 400 * p ∧ (TS V md O p).2.2 ≤ 400 * p
  | 0, _ => by simp [TS]
  | p + 1, hp => by
    obtain ⟨h1, h2, h3⟩ := TS_le (md := md) hV hO p (by omega)
    obtain ⟨g1, g2, g3, g4, g5, g6⟩ := t_le (md := md) (hV (O p) · (hO p (by omega))) h1 h2 h3
    have v3 := hV (O p) 3 (hO p (by omega)) (by omega)
    have v4 := hV (O p) 4 (hO p (by omega)) (by omega)
    unfold TS tNx
    refine ⟨?_, ?_, ?_⟩ <;> simp only <;> omega
theorem EN_le {n : Nat} {V : Nat → Nat → Nat} {md : Nat} {O : Nat → Nat} (hV : okV n V) (hO : ∀ p, p < n → O p < n) {p : Nat} (hp : p < n) : EN V md O p ≤ 400 * (p + 1) := by
  obtain ⟨h1, h2, h3⟩ := TS_le (md := md) hV hO p (by omega)
  obtain ⟨g1, g2, g3, g4, g5, g6⟩ := t_le (md := md) (hV (O p) · (hO p (by omega))) h1 h2 h3
  unfold EN
  omega
theorem EL_le {n : Nat} {V : Nat → Nat → Nat} {md : Nat} {O : Nat → Nat} (hV : okV n V) (hO : ∀ p, p < n → O p < n) : ∀ p, p ≤ n → EL V md O p ≤ 400 * p
  | 0, _ => by simp [EL]
  | p + 1, hp => EN_le hV hO (by omega)
theorem FL_le {n : Nat} {V : Nat → Nat → Nat} {md : Nat} {O : Nat → Nat} (hn : n ≤ 6) (hV : okV n V) (hO : ∀ p, p < n → O p < n) : ∀ p, p ≤ n → FL V md O p ≤ 2400 * p
  | 0, _ => by simp [FL]
  | p + 1, hp => by
    have h1 := FL_le (md := md) hn hV hO p (by omega)
    have h2 := EN_le (md := md) hV hO (p := p) (by omega)
    unfold FL
    omega
theorem LT_le {n : Nat} {V : Nat → Nat → Nat} {md : Nat} {O : Nat → Nat} (hn : n ≤ 6) (hV : okV n V) (hO : ∀ p, p < n → O p < n) : ∀ p, p ≤ n → -2147483648 ≤ LT V md O p ∧ LT V md O p ≤ 2400
  | 0, _ => by simp [LT]
  | p + 1, hp => by
    have h1 := LT_le (md := md) hn hV hO p (by omega)
    have h2 := EN_le (md := md) hV hO (p := p) (by omega)
    have h3 := hV (O p) 5 (hO p (by omega)) (by omega)
    unfold LT
    omega
/-- the times depend on what stands there alone -/
theorem TS_congr {n : Nat} {V V' : Nat → Nat → Nat} {md : Nat} {O O' : Nat → Nat} (hV : ∀ p k, p < n → k < 6 → V (O p) k = V' (O' p) k) : ∀ p, p ≤ n → TS V md O p = TS V' md O' p
  | 0, _ => rfl
  | p + 1, hp => by
    have h := TS_congr (md := md) hV p (by omega)
    have v := fun k hk => hV p k (by omega) hk
    unfold TS tNx tLv tEn tBa tAr tDn
    rw [h, v 0 (by omega), v 1 (by omega), v 2 (by omega), v 3 (by omega), v 4 (by omega)]
