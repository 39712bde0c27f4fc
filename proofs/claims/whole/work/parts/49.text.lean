/-! ===== set-ups, in plain numbers ===== -/
def isD (x : Nat) : Bool := decide (48 ≤ x) && decide (x ≤ 57)
/-- a digit stands there; a sign stands there -/
def dgB (l : List Nat) (i : Nat) : Bool := decide (i < l.length) && isD (l.getD i 0)
def sgB (l : List Nat) (c i : Nat) : Bool := decide (i < l.length) && decide (l.getD i 0 = c)
/-- a number of most digits: its value, the place behind it -/
def nmV (l : List Nat) (most i : Nat) : Nat := if dgB l i = false then 0 else if most = 2 ∧ dgB l (i + 1) = true then 10 * (l.getD i 0 - 48) + (l.getD (i + 1) 0 - 48) else l.getD i 0 - 48
def nmP (l : List Nat) (most i : Nat) : Nat := if dgB l i = false then i else if most = 2 ∧ dgB l (i + 1) = true then i + 2 else i + 1
theorem nmP_f {l : List Nat} {most i : Nat} (h : dgB l i = false) : nmP l most i = i := if_pos h
theorem nmP_le {l : List Nat} {most i : Nat} (h : i ≤ l.length) : nmP l most i ≤ l.length := by
  unfold nmP
  split
  · exact h
  · rename_i h1
    have : i < l.length := by
      have := eq_true_of_ne_false h1
      unfold dgB at this
      rw [Bool.and_eq_true] at this
      exact of_decide_eq_true this.1
    split
    · rename_i h2
      have := h2.2
      unfold dgB at this
      rw [Bool.and_eq_true] at this
      have := of_decide_eq_true this.1
      omega
    · omega
theorem sgB_lt {l : List Nat} {c i : Nat} (h : sgB l c i = true) : i < l.length := by
  unfold sgB at h
  rw [Bool.and_eq_true] at h
  exact of_decide_eq_true h.1
theorem nmV_le {l : List Nat} {most i : Nat} : nmV l most i ≤ 99 := by
  have h : ∀ i, dgB l i = true → l.getD i 0 - 48 ≤ 9 := fun i h => by
    unfold dgB isD at h
    simp only [Bool.and_eq_true, decide_eq_true_eq] at h
    omega
  unfold nmV
  split
  · omega
  · rename_i h1
    have g1 := h i (eq_true_of_ne_false h1)
    split
    · rename_i h2
      have g2 := h (i + 1) h2.2
      omega
    · omega
abbrev Cl : Type := Nat × Nat × Nat × Nat
/-- places in a clause j A , M , B behind its letter -/
def jp1 (l : List Nat) (i : Nat) : Nat := nmP l 2 i
def jp2 (l : List Nat) (i : Nat) : Nat := nmP l 2 (jp1 l i + 1)
def jp3 (l : List Nat) (i : Nat) : Nat := nmP l 2 (jp2 l i + 1)
def tkJ (l : List Nat) (i : Nat) : Option Cl × Nat :=
  if dgB l i = false then (none, i) else if sgB l 44 (jp1 l i) = false then (none, jp1 l i)
  else if dgB l (jp1 l i + 1) = false then (none, jp1 l i + 1) else if sgB l 44 (jp2 l i) = false then (none, jp2 l i)
  else if dgB l (jp2 l i + 1) = false then (none, jp2 l i + 1) else (some (106, nmV l 2 i, nmV l 2 (jp1 l i + 1), nmV l 2 (jp2 l i + 1)), jp3 l i)
def tkQ (l : List Nat) (i : Nat) : Option Cl × Nat :=
  if dgB l i = false then (none, i) else if dgB l (i + 1) = false then (none, i + 1) else if dgB l (i + 2) = false then (none, i + 2)
  else (some (99, nmV l 1 i, nmV l 1 (i + 1), nmV l 1 (i + 2)), i + 3)
def tkD (l : List Nat) (i : Nat) : Option Cl × Nat :=
  if dgB l i = false then (none, i) else if dgB l (i + 1) = false then (none, i + 1) else (some (100, nmV l 1 i, nmV l 2 (i + 1), 0), nmP l 2 (i + 1))
def tkM (l : List Nat) (c i : Nat) : Option Cl × Nat := if dgB l i = false then (none, i) else (some (c, nmV l 1 i, 0, 0), i + 1)
/-- a clause -/
def tkC (l : List Nat) (i : Nat) : Option Cl × Nat :=
  if l.length ≤ i then (none, i) else if l.getD i 0 = 106 then tkJ l (i + 1) else if l.getD i 0 = 99 then tkQ l (i + 1) else if l.getD i 0 = 100 then tkD l (i + 1)
  else if l.getD i 0 = 109 then tkM l 109 (i + 1) else if l.getD i 0 = 97 then tkM l 97 (i + 1) else (none, i)
/-- clauses, m more at most -/
def prs (l : List Nat) : Nat → Nat → List Cl → Option (List Cl) × Nat
  | 0, i, cs => (if i = l.length then some cs else none, i)
  | m + 1, i, cs => match tkC l i with
    | (none, p) => (none, p)
    | (some c, p) => if m ≠ 0 ∧ sgB l 59 p = true then prs l m (p + 1) (cs ++ [c]) else (if p = l.length then some (cs ++ [c]) else none, p)
theorem dgB_lt {l : List Nat} {i : Nat} (h : ¬ dgB l i = false) : i < l.length := by
  have h := eq_true_of_ne_false h
  unfold dgB at h
  rw [Bool.and_eq_true] at h
  exact of_decide_eq_true h.1
theorem nm1P {l : List Nat} {i : Nat} (h : ¬ dgB l i = false) : nmP l 1 i = i + 1 := by
  unfold nmP
  rw [if_neg h, if_neg (fun z => absurd z.1 (by decide))]
theorem tkC_le {l : List Nat} {i : Nat} (h : i ≤ l.length) : (tkC l i).2 ≤ l.length := by
  unfold tkC
  by_cases h0 : l.length ≤ i
  · rw [if_pos h0]; exact h
  rw [if_neg h0]
  by_cases h1 : l.getD i 0 = 106
  · rw [if_pos h1]
    unfold tkJ
    have a1 : jp1 l (i + 1) ≤ l.length := nmP_le (by omega)
    by_cases e1 : dgB l (i + 1) = false
    · rw [if_pos e1]; show i + 1 ≤ _; omega
    rw [if_neg e1]
    by_cases e2 : sgB l 44 (jp1 l (i + 1)) = false
    · rw [if_pos e2]; exact a1
    rw [if_neg e2]
    have b1 := sgB_lt (eq_true_of_ne_false e2)
    have a2 : jp2 l (i + 1) ≤ l.length := nmP_le (by omega)
    by_cases e3 : dgB l (jp1 l (i + 1) + 1) = false
    · rw [if_pos e3]; exact b1
    rw [if_neg e3]
    by_cases e4 : sgB l 44 (jp2 l (i + 1)) = false
    · rw [if_pos e4]; exact a2
    rw [if_neg e4]
    have b2 := sgB_lt (eq_true_of_ne_false e4)
    have a3 : jp3 l (i + 1) ≤ l.length := nmP_le (by omega)
    by_cases e5 : dgB l (jp2 l (i + 1) + 1) = false
    · rw [if_pos e5]; exact b2
    rw [if_neg e5]; exact a3
  rw [if_neg h1]
  by_cases h2 : l.getD i 0 = 99
  · rw [if_pos h2]
    unfold tkQ
    by_cases e1 : dgB l (i + 1) = false
    · rw [if_pos e1]; show i + 1 ≤ _; omega
    rw [if_neg e1]
    have := dgB_lt e1
    by_cases e2 : dgB l (i + 1 + 1) = false
    · rw [if_pos e2]; show i + 1 + 1 ≤ _; omega
    rw [if_neg e2]
    have := dgB_lt e2
    by_cases e3 : dgB l (i + 1 + 2) = false
    · rw [if_pos e3]; show i + 1 + 2 ≤ _; omega
    rw [if_neg e3]
    have := dgB_lt e3
    show i + 1 + 3 ≤ _
    omega
  rw [if_neg h2]
  by_cases h3 : l.getD i 0 = 100
  · rw [if_pos h3]
    unfold tkD
    by_cases e1 : dgB l (i + 1) = false
    · rw [if_pos e1]; show i + 1 ≤ _; omega
    rw [if_neg e1]
    have := dgB_lt e1
    by_cases e2 : dgB l (i + 1 + 1) = false
    · rw [if_pos e2]; show i + 1 + 1 ≤ _; omega
    rw [if_neg e2]
    exact nmP_le (by omega)
  rw [if_neg h3]
  have m : ∀ c, (tkM l c (i + 1)).2 ≤ l.length := fun c => by
    unfold tkM
    by_cases e1 : dgB l (i + 1) = false
    · rw [if_pos e1]; show i + 1 ≤ _; omega
    · rw [if_neg e1]
      have := dgB_lt e1
      show i + 1 + 1 ≤ _
      omega
  by_cases h4 : l.getD i 0 = 109
  · rw [if_pos h4]; exact m 109
  rw [if_neg h4]
  by_cases h5 : l.getD i 0 = 97
  · rw [if_pos h5]; exact m 97
  rw [if_neg h5]
  exact h
/-- what a clause does; whether it was taken -/
def doC (w : Vw) (c : Cl) : Bool × Vw :=
  if c.1 = 99 then (if (F_renew w (nI c.2.1) 3 (nI c.2.2.1)).1 < 0 then (false, (F_renew w (nI c.2.1) 3 (nI c.2.2.1)).2) else (decide (¬ (F_renew (F_renew w (nI c.2.1) 3 (nI c.2.2.1)).2 (nI c.2.1) 4 (nI c.2.2.2)).1 < 0), (F_renew (F_renew w (nI c.2.1) 3 (nI c.2.2.1)).2 (nI c.2.1) 4 (nI c.2.2.2)).2))
  else if c.1 = 100 then (decide (¬ (F_renew w (nI c.2.1) 5 (nI c.2.2.1)).1 < 0), (F_renew w (nI c.2.1) 5 (nI c.2.2.1)).2)
  else if c.1 = 106 then (decide (¬ (F_job w (nI c.2.1) (nI c.2.2.1) (nI c.2.2.2)).1 < 0), (F_job w (nI c.2.1) (nI c.2.2.1) (nI c.2.2.2)).2)
  else if c.1 = 109 then (decide (¬ (F_set w 0 (nI c.2.1)).1 < 0), (F_set w 0 (nI c.2.1)).2)
  else (decide (¬ (F_set w 1 (nI c.2.1)).1 < 0), (F_set w 1 (nI c.2.1)).2)
def doS (s : Nat × Vw) (c : Cl) : Nat × Vw := (s.1 + (if (doC s.2 c).1 = true then 1 else 0), (doC s.2 c).2)
def F_read (w : Vw) : Int32 × Vw := match prs w.2.2.1 12 0 [] with
  | (none, p) => (-10 - nI p, setTx w [])
  | (some cs, _) => (nI (cs.foldl doS (0, setTx w [])).1, (cs.foldl doS (0, setTx w [])).2)
