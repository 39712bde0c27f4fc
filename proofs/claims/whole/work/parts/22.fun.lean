/-! ===== what the calls do, in plain numbers ===== -/
def upV (V : Nat → Nat → Nat) (j : Nat) (g : Nat → Nat) : Nat → Nat → Nat := fun i k => if i = j then g k else V i k
def upV1 (V : Nat → Nat → Nat) (j k x : Nat) : Nat → Nat → Nat := fun i l => if i = j ∧ l = k then x else V i l
def upO (O : Nat → Nat) (p x : Nat) : Nat → Nat := fun i => if i = p then x else O i
def newRow (a m b : Nat) (k : Nat) : Nat := match k with
  | 0 => a
  | 1 => m
  | 2 => b
  | 3 => 0
  | 4 => 0
  | _ => 99
def setShp (w : Vw) (n md am : Nat) (V : Nat → Nat → Nat) (O : Nat → Nat) : Vw := ((n, md, am, V, O, w.1.se, w.1.ev, w.1.bk), w.2)
def setSe (w : Vw) (l : List (Nat × Nat)) : Vw := ((w.1.jn, w.1.md, w.1.am, w.1.V, w.1.O, l, w.1.ev, w.1.bk), w.2)
def setEv (w : Vw) (l : List (Nat × Nat)) : Vw := ((w.1.jn, w.1.md, w.1.am, w.1.V, w.1.O, w.1.se, l, w.1.bk), w.2)
def setBk (w : Vw) (l : List (Nat × Nat)) : Vw := ((w.1.jn, w.1.md, w.1.am, w.1.V, w.1.O, w.1.se, w.1.ev, l), w.2)
def setTx (w : Vw) (l : List Nat) : Vw := (w.1, w.2.1, l, w.2.2.2)
def setTp (w : Vw) (t : Nat) (z : Int32 × Nat × (Nat → Int64)) : Vw := (w.1, w.2.1, w.2.2.1, fun i => if i = t then z else w.2.2.2 i)
def plc (O : Nat → Nat) (j : Nat) : Nat → Nat
  | 0 => 0
  | n + 1 => if plc O j n < n then plc O j n else if O n = j then n else n + 1
def mvI (k l p : Nat) : Nat := if p = l then k else if k ≤ p ∧ p < l then p + 1 else if l < p ∧ p ≤ k then p - 1 else p
def mv (O : Nat → Nat) (k l : Nat) : Nat → Nat := fun p => O (mvI k l p)
def F_job (w : Vw) (a m b : Int32) : Int32 × Vw :=
  if (inI a 30 && inI m 30 && inI b 30) = false then (-2, w) else if w.1.jn = 6 then (-4, w)
  else (nI w.1.jn, setShp w (w.1.jn + 1) w.1.md w.1.am (upV w.1.V w.1.jn (newRow (ixI a) (ixI m) (ixI b))) (upO w.1.O w.1.jn w.1.jn))
def F_renew (w : Vw) (j k v : Int32) : Int32 × Vw :=
  if (ibI j w.1.jn && ibI k 6) = false then (-1, w) else if inI v (lim (ixI k)) = false then (-2, w)
  else (nI (w.1.V (ixI j) (ixI k)), setShp w w.1.jn w.1.md w.1.am (upV1 w.1.V (ixI j) (ixI k) (ixI v)) w.1.O)
def F_of (w : Vw) (j k : Int32) : Int32 :=
  if ibI j w.1.jn = false then -1 else if k = 6 then nI (plc w.1.O (ixI j) w.1.jn) else if ibI k 6 = false then -1 else nI (w.1.V (ixI j) (ixI k))
def F_set (w : Vw) (x v : Int32) : Int32 × Vw :=
  if ibI x 2 = false then (-1, w) else if ibI v 3 = false then (-2, w)
  else if x = 0 then (nI w.1.md, setShp w w.1.jn (ixI v) w.1.am w.1.V w.1.O) else (nI w.1.am, setShp w w.1.jn w.1.md (ixI v) w.1.V w.1.O)
def F_feed (w : Vw) (s : Int32) : Int32 × Vw :=
  if ibI s 128 = false then (-2, w) else if w.2.2.1.length = 100 then (-4, w) else (nI (w.2.2.1.length + 1), setTx w (w.2.2.1 ++ [ixI s]))
def F_at (w : Vw) (p : Int32) : Int32 := if ibI p w.1.jn = false then -1 else nI (w.1.O (ixI p))
def F_count (w : Vw) (x : Int32) : Int32 := if x = 0 then nI w.1.jn else if x = 1 then nI w.1.se.length else if x = 2 then nI w.1.ev.length else if x = 3 then nI w.1.bk.length else if x = 4 then nI w.2.2.1.length else -2
def F_move (w : Vw) (j p : Int32) : Int32 × Vw :=
  if ibI j w.1.jn = false then (-1, w) else if ibI p w.1.jn = false then (-2, w)
  else (nI (plc w.1.O (ixI j) w.1.jn), setShp w w.1.jn w.1.md w.1.am w.1.V (mv w.1.O (plc w.1.O (ixI j) w.1.jn) (ixI p)))
def F_swap (w : Vw) (k : Int32) : Int32 × Vw :=
  if ibI k (w.1.jn - 1) = false then (-1, w) else (nI (w.1.O (ixI k + 1)), setShp w w.1.jn w.1.md w.1.am w.1.V (mv w.1.O (ixI k) (ixI k + 1)))
def F_see (w : Vw) (j p : Int32) : Int32 × Vw :=
  if j = -1 then (0, setSe w []) else if ibI j w.1.jn = false then (-1, w) else if ibI p 6 = false then (-2, w)
  else if w.1.se.length = 5 then (-4, w) else (nI (w.1.se.length + 1), setSe w (w.1.se ++ [(ixI j, ixI p)]))
def F_book (w : Vw) (j p : Int32) : Int32 × Vw :=
  if j = -1 then (0, setBk w []) else if ibI j w.1.jn = false then (-1, w) else if ibI p 6 = false then (-2, w)
  else if w.1.bk.length = 8 then (-4, w) else (nI (w.1.bk.length + 1), setBk w (w.1.bk ++ [(ixI j, ixI p)]))
def F_event (w : Vw) (x n : Int32) : Int32 × Vw :=
  if x = -1 then (0, setEv w []) else if ibI x 4 = false then (-1, w) else if ¬ x = 2 ∧ ibI n w.1.jn = false then (-1, w) else if x = 2 ∧ ibI n 3 = false then (-2, w)
  else if w.1.ev.length = 8 then (-4, w) else (nI (w.1.ev.length + 1), setEv w (w.1.ev ++ [(ixI x, ixI n)]))
def F_image (w : Vw) : Int32 × Vw := (nI w.1.jn, (w.1, some w.1, w.2.2))
def F_undo (w : Vw) : Int32 × Vw := match w.2.1 with
  | none => (-3, w)
  | some c => (nI c.jn, (c, w.2))
def fitL (s : Int32) (v : Int64) : Int64 := if s = 0 then v.toInt32.toInt8.toInt32.toInt64 else if s = 1 then v.toInt32.toInt16.toInt32.toInt64 else if s = 2 then v.toInt32.toInt64 else if s = 3 then v else if v = 0 then 0 else 1
def F_tape (w : Vw) (t s n : Int32) : Int32 × Vw :=
  if ibI t 6 = false then (-1, w) else if s = -1 then (1, setTp w (ixI t) (-1, 0, fun _ => 0)) else if ibI s 5 = false ∨ 60 < n.toInt then (-2, w) else if n.toInt < 0 then (-14, w)
  else (1, setTp w (ixI t) (s, ixI n, fun _ => 0))
def F_item (w : Vw) (t i : Int32) (v : Int64) : Int32 × Vw :=
  if ibI t 6 = false then (-1, w) else if (w.2.2.2 (ixI t)).1 = -1 then (-11, w) else if ibI i (w.2.2.2 (ixI t)).2.1 = false then (-13, w)
  else (1, setTp w (ixI t) ((w.2.2.2 (ixI t)).1, (w.2.2.2 (ixI t)).2.1, fun k => if k = ixI i then fitL (w.2.2.2 (ixI t)).1 v else (w.2.2.2 (ixI t)).2.2 k))
def F_peek (w : Vw) (t i : Int32) : Int64 := if ibI t 6 = false then -9223372036854775808 else if ibI i (w.2.2.2 (ixI t)).2.1 = false then -9223372036854775808 else (w.2.2.2 (ixI t)).2.2 (ixI i)
def runI (n i : Int32) (s : Nat) : Bool := decide (0 ≤ n.toInt) && decide (0 ≤ i.toInt) && decide (n.toInt + i.toInt ≤ s)
def F_shift (w : Vw) (t i u j n : Int32) : Int32 × Vw :=
  if (ibI t 6 && ibI u 6) = false then (-1, w) else if (w.2.2.2 (ixI t)).1 = -1 ∨ (w.2.2.2 (ixI u)).1 = -1 then (-11, w) else if ¬ (w.2.2.2 (ixI t)).1 = (w.2.2.2 (ixI u)).1 then (-12, w)
  else if (runI n i (w.2.2.2 (ixI t)).2.1 && runI n j (w.2.2.2 (ixI u)).2.1) = false then (-13, w)
  else (n, setTp w (ixI u) ((w.2.2.2 (ixI u)).1, (w.2.2.2 (ixI u)).2.1, va_cpy (w.2.2.2 (ixI t)).2.2 (w.2.2.2 (ixI u)).2.2 (ixI i) (ixI j) (ixI n)))
/-! what is kept -/
theorem okC_shp {c : Cfg} (h : okC c) {md am : Nat} {V : Nat → Nat → Nat} {O : Nat → Nat} (h2 : md ≤ 2) (h3 : am ≤ 2) (h4 : ∀ j k, j < c.jn → k < 6 → V j k ≤ lim k) (h5 : okO c.jn O) : okC (c.jn, md, am, V, O, c.se, c.ev, c.bk) := ⟨h.1, h2, h3, h4, h5, h.2.2.2.2.2⟩
theorem okC_grow {c : Cfg} (h : okC c) {V : Nat → Nat → Nat} {O : Nat → Nat} (h1 : c.jn < 6) (h4 : ∀ j k, j < c.jn + 1 → k < 6 → V j k ≤ lim k) (h5 : okO (c.jn + 1) O) : okC (c.jn + 1, c.md, c.am, V, O, c.se, c.ev, c.bk) := by
  obtain ⟨-, g2, g3, -, -, ⟨g6, g7⟩, ⟨g8, g9⟩, g10, g11⟩ := h
  refine ⟨h1, g2, g3, h4, h5, ⟨g6, fun x hx => ?_⟩, ⟨g8, fun x hx => ?_⟩, g10, fun x hx => ?_⟩
  · have := g7 x hx; exact ⟨Nat.lt_succ_of_lt this.1, this.2⟩
  · have := g9 x hx; exact ⟨this.1, fun z => Nat.lt_succ_of_lt (this.2.1 z), this.2.2⟩
  · have := g11 x hx; exact ⟨Nat.lt_succ_of_lt this.1, this.2⟩
theorem okO_grow {n : Nat} {O : Nat → Nat} (h : okO n O) : okO (n + 1) (upO O n n) := by
  refine ⟨fun p hp => ?_, fun p q hp hq e => ?_⟩
  · unfold upO
    by_cases hpn : p = n
    · rw [if_pos hpn]; omega
    · rw [if_neg hpn]; have := h.1 p (by omega); omega
  · unfold upO at e
    by_cases hpn : p = n <;> by_cases hqn : q = n
    · omega
    · rw [if_pos hpn, if_neg hqn] at e; have := h.1 q (by omega); omega
    · rw [if_neg hpn, if_pos hqn] at e; have := h.1 p (by omega); omega
    · rw [if_neg hpn, if_neg hqn] at e; exact h.2 p q (by omega) (by omega) e
theorem mvI_lt {n k l p : Nat} (hk : k < n) (hl : l < n) (hp : p < n) : mvI k l p < n := by
  unfold mvI
  split
  · exact hk
  · split
    · omega
    · split <;> omega
theorem mvI_inj {k l p q : Nat} (e : mvI k l p = mvI k l q) : p = q := by
  have h1 : ∀ x, (x = l ∧ mvI k l x = k) ∨ (x ≠ l ∧ k ≤ x ∧ x < l ∧ mvI k l x = x + 1) ∨ (x ≠ l ∧ l < x ∧ x ≤ k ∧ mvI k l x = x - 1) ∨ (x ≠ l ∧ ¬ (k ≤ x ∧ x < l) ∧ ¬ (l < x ∧ x ≤ k) ∧ mvI k l x = x) := by
    intro x
    unfold mvI
    split
    · omega
    · split
      · omega
      · split <;> omega
  have hp := h1 p
  have hq := h1 q
  omega
theorem okO_mv {n : Nat} {O : Nat → Nat} (h : okO n O) {k l : Nat} (hk : k < n) (hl : l < n) : okO n (mv O k l) :=
  ⟨fun p hp => h.1 _ (mvI_lt hk hl hp), fun p q hp hq e => mvI_inj (h.2 _ _ (mvI_lt hk hl hp) (mvI_lt hk hl hq) e)⟩
/-- each job stands somewhere -/
theorem okO_sur : ∀ (n : Nat) (O : Nat → Nat), okO n O → ∀ j, j < n → ∃ p, p < n ∧ O p = j := by
  intro n
  induction n with
  | zero => intro O _ j hj; omega
  | succ n ih =>
    intro O h j hj
    have hO' : okO n (fun p => if O p = n then O n else O p) := by
      refine ⟨fun p hp => ?_, fun p q hp hq e => ?_⟩
      · show (if O p = n then O n else O p) < n
        by_cases hpn : O p = n
        · rw [if_pos hpn]
          have h1 := h.1 n (by omega)
          have h2 : O n ≠ n := fun z => by have := h.2 p n (by omega) (by omega) (by omega); omega
          omega
        · rw [if_neg hpn]
          have h1 := h.1 p (by omega)
          omega
      · have e : (if O p = n then O n else O p) = (if O q = n then O n else O q) := e
        by_cases hpn : O p = n <;> by_cases hqn : O q = n
        · exact h.2 p q (by omega) (by omega) (by omega)
        · rw [if_pos hpn, if_neg hqn] at e; have := h.2 n q (by omega) (by omega) e; omega
        · rw [if_neg hpn, if_pos hqn] at e; have := h.2 p n (by omega) (by omega) e; omega
        · rw [if_neg hpn, if_neg hqn] at e; exact h.2 p q (by omega) (by omega) e
    by_cases hjn : O n = j
    · exact ⟨n, by omega, hjn⟩
    · by_cases hj2 : j = n
      · subst hj2
        have h1 := h.1 j (by omega)
        obtain ⟨p, hp, e⟩ := ih _ hO' (O j) (by omega)
        have e : (if O p = j then O j else O p) = O j := e
        by_cases hpn : O p = j
        · exact ⟨p, by omega, hpn⟩
        · rw [if_neg hpn] at e
          have := h.2 p j (by omega) (by omega) e
          omega
      · obtain ⟨p, hp, e⟩ := ih _ hO' j (by omega)
        have e : (if O p = n then O n else O p) = j := e
        by_cases hpn : O p = n
        · rw [if_pos hpn] at e; exact absurd e hjn
        · rw [if_neg hpn] at e; exact ⟨p, by omega, e⟩
theorem plc_le (O : Nat → Nat) (j : Nat) : ∀ n, plc O j n ≤ n
  | 0 => Nat.le_refl _
  | n + 1 => by
    unfold plc
    split
    · omega
    · split <;> omega
theorem plc_bel (O : Nat → Nat) (j : Nat) : ∀ n p, p < plc O j n → O p ≠ j
  | 0, p, h => by simp [plc] at h
  | n + 1, p, h => by
    unfold plc at h
    split at h
    · exact plc_bel O j n p h
    · split at h
      · exact plc_bel O j n p (by omega)
      · rename_i h1 h2
        by_cases hp : p = n
        · subst hp; exact h2
        · exact plc_bel O j n p (by have := plc_le O j n; omega)
theorem plc_at (O : Nat → Nat) (j : Nat) : ∀ n, plc O j n < n → O (plc O j n) = j
  | 0, h => by simp [plc] at h
  | n + 1, h => by
    unfold plc at h ⊢
    split
    · rename_i h1; exact plc_at O j n h1
    · split
      · rename_i h1 h2; exact h2
      · rename_i h1 h2; rw [if_neg h1, if_neg h2] at h; omega
theorem plc_ok {n : Nat} {O : Nat → Nat} (h : okO n O) {j : Nat} (hj : j < n) : plc O j n < n ∧ O (plc O j n) = j := by
  obtain ⟨p, hp, e⟩ := okO_sur n O h j hj
  have h1 : ¬ p < plc O j n := fun z => plc_bel O j n p z e
  have h2 : plc O j n < n := by omega
  exact ⟨h2, plc_at O j n h2⟩
