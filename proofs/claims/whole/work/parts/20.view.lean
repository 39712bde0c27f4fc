/-! ===== what both objects hold, in plain numbers ===== -/
/-- jobs, mode, aim, values of a job, plan, seen, events, book -/
abbrev Cfg : Type := Nat × Nat × Nat × (Nat → Nat → Nat) × (Nat → Nat) × List (Nat × Nat) × List (Nat × Nat) × List (Nat × Nat)
abbrev Cfg.jn (c : Cfg) : Nat := c.1
abbrev Cfg.md (c : Cfg) : Nat := c.2.1
abbrev Cfg.am (c : Cfg) : Nat := c.2.2.1
abbrev Cfg.V (c : Cfg) : Nat → Nat → Nat := c.2.2.2.1
abbrev Cfg.O (c : Cfg) : Nat → Nat := c.2.2.2.2.1
abbrev Cfg.se (c : Cfg) : List (Nat × Nat) := c.2.2.2.2.2.1
abbrev Cfg.ev (c : Cfg) : List (Nat × Nat) := c.2.2.2.2.2.2.1
abbrev Cfg.bk (c : Cfg) : List (Nat × Nat) := c.2.2.2.2.2.2.2
/-- now, the image, the text, the tapes (sort, size, items) -/
abbrev Vw : Type := Cfg × Option Cfg × List Nat × (Nat → Int32 × Nat × (Nat → Int64))
def lim (k : Nat) : Nat := match k with
  | 0 => 30
  | 1 => 30
  | 2 => 30
  | 3 => 9
  | 4 => 9
  | _ => 99
def okO (n : Nat) (O : Nat → Nat) : Prop := (∀ p, p < n → O p < n) ∧ ∀ p q, p < n → q < n → O p = O q → p = q
def okC (c : Cfg) : Prop := c.jn ≤ 6 ∧ c.md ≤ 2 ∧ c.am ≤ 2 ∧ (∀ j k, j < c.jn → k < 6 → c.V j k ≤ lim k) ∧ okO c.jn c.O ∧ (c.se.length ≤ 5 ∧ ∀ x ∈ c.se, x.1 < c.jn ∧ x.2 < 6) ∧ (c.ev.length ≤ 8 ∧ ∀ x ∈ c.ev, x.1 ≤ 3 ∧ (x.1 ≠ 2 → x.2 < c.jn) ∧ (x.1 = 2 → x.2 ≤ 2)) ∧ (c.bk.length ≤ 8 ∧ ∀ x ∈ c.bk, x.1 < c.jn ∧ x.2 < 6)
def okT (t : Int32 × Nat × (Nat → Int64)) : Prop := (t.1 = -1 ∧ t.2.1 = 0) ∨ ((∃ k : Nat, k ≤ 4 ∧ t.1 = nI k) ∧ t.2.1 ≤ 60)
def okW (w : Vw) : Prop := okC w.1 ∧ (∀ c, w.2.1 = some c → okC c) ∧ (w.2.2.1.length ≤ 100 ∧ ∀ x ∈ w.2.2.1, x < 128) ∧ ∀ t, t < 6 → okT (w.2.2.2 t)
def rowX (l : List (Nat × Nat)) (a : Nat) (f : Nat → Nat → Int32) : Prop := f a 2 = nI l.length ∧ ∀ i, i < l.length → f (a + 1) i = nI (l.getD i (0, 0)).1 ∧ f (a + 2) i = nI (l.getD i (0, 0)).2
def shpX (n md am : Nat) (V : Nat → Nat → Nat) (O : Nat → Nat) (h : Nat) (f : Nat → Nat → Int32) : Prop := f h 0 = nI n ∧ f h 1 = nI md ∧ f h 2 = nI am ∧ (∀ j k, j < n → k < 6 → f (h + 2 + j) k = nI (V j k)) ∧ ∀ p, p < n → f (h + 8) p = nI (O p)
def cfgX (c : Cfg) (h s e b : Nat) (f : Nat → Nat → Int32) : Prop := shpX c.jn c.md c.am c.V c.O h f ∧ rowX c.se s f ∧ rowX c.ev e f ∧ rowX c.bk b f
def imgX (o : Option Cfg) (f : Nat → Nat → Int32) : Prop := match o with
  | none => f 0 8 = 0
  | some c => f 0 8 = 1 ∧ cfgX c 19 28 31 34 f
def txtX (l : List Nat) (f : Nat → Nat → Int32) : Prop := f 60 2 = nI l.length ∧ ∀ i, i < l.length → f 61 i = nI (l.getD i 0)
def tapX (T : Nat → Int32 × Nat × (Nat → Int64)) (σ : mx_S) : Prop := ∀ t, t < 6 → σ.1 (76 + 2 * t) 1 = (T t).1 ∧ σ.1 (76 + 2 * t) 2 = nI (T t).2.1 ∧ ∀ i, i < 60 → σ.2 (77 + 2 * t) i = (T t).2.2 i
def vwX (w : Vw) (σ : mx_S) : Prop := okW w ∧ cfgX w.1 1 10 13 16 σ.1 ∧ imgX w.2.1 σ.1 ∧ txtX w.2.2.1 σ.1 ∧ tapX w.2.2.2 σ ∧ ∀ j, j < 6 → σ.1 52 j = 0
def rowM (l : List (Nat × Nat)) (k a b : Nat) (f : Nat → Nat → Int32) : Prop := f 88 k = nI l.length ∧ ∀ i, i < l.length → f a i = nI (l.getD i (0, 0)).1 ∧ f b i = nI (l.getD i (0, 0)).2
def cfgM (c : Cfg) (f : Nat → Nat → Int32) : Prop := (f 88 0 = nI c.jn ∧ f 88 1 = nI c.md ∧ f 88 2 = nI c.am ∧ (∀ j k, j < c.jn → k < 6 → f 89 (6 * j + k) = nI (c.V j k)) ∧ ∀ p, p < c.jn → f 90 p = nI (c.O p)) ∧ rowM c.se 11 91 92 f ∧ rowM c.ev 12 93 94 f ∧ rowM c.bk 13 95 96 f
def rowI (l : List (Nat × Nat)) (k a b : Nat) (g : Nat → Int32) : Prop := g k = nI l.length ∧ ∀ i, i < l.length → g (a + i) = nI (l.getD i (0, 0)).1 ∧ g (b + i) = nI (l.getD i (0, 0)).2
def cfgI (c : Cfg) (g : Nat → Int32) : Prop := (g 0 = nI c.jn ∧ g 1 = nI c.md ∧ g 2 = nI c.am ∧ (∀ j k, j < c.jn → k < 6 → g (6 + (6 * j + k)) = nI (c.V j k)) ∧ ∀ p, p < c.jn → g (42 + p) = nI (c.O p)) ∧ rowI c.se 3 48 53 g ∧ rowI c.ev 4 58 66 g ∧ rowI c.bk 5 74 82 g
def imgM (o : Option Cfg) (f : Nat → Nat → Int32) : Prop := match o with
  | none => f 88 17 = 0
  | some c => f 88 17 = 1 ∧ cfgI c (f 98)
def txtM (l : List Nat) (f : Nat → Nat → Int32) : Prop := f 88 15 = nI l.length ∧ ∀ i, i < l.length → f 97 i = nI (l.getD i 0)
def tapM (T : Nat → Int32 × Nat × (Nat → Int64)) (σ : mx_S) : Prop := ∀ t, t < 6 → σ.1 111 t = (T t).1 ∧ σ.1 112 t = nI (T t).2.1 ∧ ∀ i, i < 60 → σ.2 (105 + t) i = (T t).2.2 i
def vwM (w : Vw) (σ : mx_S) : Prop := okW w ∧ cfgM w.1 σ.1 ∧ imgM w.2.1 σ.1 ∧ txtM w.2.2.1 σ.1 ∧ tapM w.2.2.2 σ
/-- nothing of the reference has changed; nothing of the class has -/
def hiS (σ σ' : mx_S) : Prop := ∀ i, 88 ≤ i → σ'.1 i = σ.1 i ∧ σ'.2 i = σ.2 i
def loS (σ σ' : mx_S) : Prop := ∀ i, i < 88 → σ'.1 i = σ.1 i ∧ σ'.2 i = σ.2 i
theorem hiS.rf {σ : mx_S} : hiS σ σ := fun _ _ => ⟨rfl, rfl⟩
theorem loS.rf {σ : mx_S} : loS σ σ := fun _ _ => ⟨rfl, rfl⟩
theorem hiS.tr {a b c : mx_S} (h : hiS a b) (g : hiS b c) : hiS a c := fun i hi => ⟨(g i hi).1.trans (h i hi).1, (g i hi).2.trans (h i hi).2⟩
theorem loS.tr {a b c : mx_S} (h : loS a b) (g : loS b c) : loS a c := fun i hi => ⟨(g i hi).1.trans (h i hi).1, (g i hi).2.trans (h i hi).2⟩
theorem hiS.u {σ : mx_S} {a k : Nat} {x : Int32} (h : a < 88) : hiS σ (mx_u σ.1 a k x, σ.2) := fun i hi => ⟨mx_u_ne (by omega), rfl⟩
theorem loS.u {σ : mx_S} {a k : Nat} {x : Int32} (h : 88 ≤ a) : loS σ (mx_u σ.1 a k x, σ.2) := fun i hi => ⟨mx_u_ne (by omega), rfl⟩
theorem hiS.ul {σ : mx_S} {a k : Nat} {x : Int64} (h : a < 88) : hiS σ (σ.1, mx_u σ.2 a k x) := fun i hi => ⟨rfl, mx_u_ne (by omega)⟩
theorem loS.ul {σ : mx_S} {a k : Nat} {x : Int64} (h : 88 ≤ a) : loS σ (σ.1, mx_u σ.2 a k x) := fun i hi => ⟨rfl, mx_u_ne (by omega)⟩
/-! an int within 0 .. m -/
def inI (x : Int32) (m : Nat) : Bool := decide (0 ≤ x.toInt) && decide (x.toInt ≤ m)
def ixI (x : Int32) : Nat := x.toInt.toNat
theorem inI_of {x : Int32} {m : Nat} (h : inI x m = true) : x = nI (ixI x) ∧ ixI x ≤ m ∧ ixI x < 2147483648 := by
  simp only [inI, Bool.and_eq_true, decide_eq_true_eq] at h
  have hb : x.toInt < 2147483648 := x.toInt_lt
  refine ⟨?_, ?_, ?_⟩
  · apply Int32.toInt_inj.mp
    rw [nI_toInt (by unfold ixI; omega)]
    unfold ixI
    omega
  · unfold ixI; omega
  · unfold ixI; omega
theorem inI_nI {j m : Nat} (h : j < 2147483648) : inI (nI j) m = decide (j ≤ m) := by
  simp only [inI, nI_toInt h]
  by_cases hj : j ≤ m
  · simp [hj]
  · simp [hj]
theorem ixI_nI {j : Nat} (h : j < 2147483648) : ixI (nI j) = j := by
  unfold ixI
  rw [nI_toInt h]
  omega
def bz (b : Bool) : Int32 := if b = true then 1 else 0
theorem bz_0 {b : Bool} : (bz b = 0) = (b = false) := by cases b <;> simp [bz]
theorem nzb {b : Bool} : narrow .boolean (.int (bz b)) = .int (bz b) := by cases b <;> rfl
theorem bz_t : bz true = 1 := rfl
theorem bz_f : bz false = 0 := rfl
theorem l32 {x y : Int32} : (x < y) = (x.toInt < y.toInt) := propext Int32.lt_iff_toInt_lt
theorem le32 {x y : Int32} : (x ≤ y) = (x.toInt ≤ y.toInt) := propext Int32.le_iff_toInt_le
theorem eq32 {x y : Int32} : (x = y) = (x.toInt = y.toInt) := propext Int32.toInt_inj.symm
theorem l64 {x y : Int64} : (x < y) = (x.toInt < y.toInt) := propext Int64.lt_iff_toInt_lt
theorem le64 {x y : Int64} : (x ≤ y) = (x.toInt ≤ y.toInt) := propext Int64.le_iff_toInt_le
theorem eq64 {x y : Int64} : (x = y) = (x.toInt = y.toInt) := propext Int64.toInt_inj.symm
theorem nI0 : (0 : Int32) = nI 0 := rfl
theorem tI {j : Nat} (h : j < 2147483648) : (nI j).toInt = (j : Int) := nI_toInt h
