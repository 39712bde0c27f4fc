/-! ===== the cells of the two objects as a world of the kit ===== -/
def mx_fs (adr : Nat → Nat) (σ : mx_S) (i c : Nat) : List Value := (List.range (mx_nF c)).map (fun k => if mx_off c k = 0 then .int (σ.1 i k) else .ref (adr (i + mx_off c k)))
def mx_cell (adr : Nat → Nat) (ca : Nat → ClassId) (σ : mx_S) (i : Nat) : va_E :=
  if mx_kd i < 8 then .inr (mx_kd i, mx_fs adr σ i (mx_kd i))
  else if mx_kd i = 11 then .inl (ca 11, mx_ln i, .inr (.inl (σ.2 i)))
  else if mx_kd i < 11 then .inl (ca (mx_kd i), mx_ln i, .inl (σ.1 i))
  else .inl (ca (mx_kd i), mx_ln i, .inr (.inr (.inr (.inr (fun j => if j < mx_ln i then some (adr (mx_ptr i j)) else none)))))
def mx_ws (adr : Nat → Nat) (ca : Nat → ClassId) (σ : mx_S) : va_W := (List.range 114).map (fun i => (adr i, mx_cell adr ca σ i))
def mx_tys (ca : Nat → ClassId) : List (ClassId × FieldType) := [(ca 8, .int), (ca 9, .byte), (ca 10, .boolean), (ca 11, .long), (ca 12, .array .int), (ca 13, .object RX0), (ca 14, .object RX4), (ca 15, .array .long)]
theorem mx_kd_lt {a : Nat} (h : mx_kd a < 16) : a < 114 := by
  by_cases h1 : a < 115
  · have h2 : a ≠ 114 := fun e => by subst e; exact absurd h (by decide)
    omega
  · exfalso
    have : mx_kd a = 99 := by
      unfold mx_kd
      rw [List.getD_eq_getElem?_getD, List.getElem?_eq_none (by show 115 ≤ a; omega)]
      rfl
    omega
theorem mx_ws_at {adr : Nat → Nat} {ca : Nat → ClassId} {σ : mx_S} {i : Nat} (h : i < 114) : (mx_ws adr ca σ)[i]? = some (adr i, mx_cell adr ca σ i) := by
  simp [mx_ws, h]
theorem mx_at_obj {adr : Nat → Nat} {ca : Nat → ClassId} {σ : mx_S} {i c : Nat} (hk : mx_kd i = c) (hc : c < 8) : (mx_ws adr ca σ)[i]? = some (adr i, .inr (c, mx_fs adr σ i c)) := by
  subst hk
  rw [mx_ws_at (mx_kd_lt (by omega))]
  simp [mx_cell, hc]
theorem mx_at_int {adr : Nat → Nat} {ca : Nat → ClassId} {σ : mx_S} {i k : Nat} (hk : mx_kd i = k) (h : k = 8 ∨ k = 9 ∨ k = 10) : (mx_ws adr ca σ)[i]? = some (adr i, .inl (ca k, mx_ln i, .inl (σ.1 i))) := by
  subst hk
  rw [mx_ws_at (mx_kd_lt (by omega))]
  rw [mx_cell, if_neg (by omega), if_neg (by omega), if_pos (by omega)]
theorem mx_at_long {adr : Nat → Nat} {ca : Nat → ClassId} {σ : mx_S} {i : Nat} (hk : mx_kd i = 11) : (mx_ws adr ca σ)[i]? = some (adr i, .inl (ca 11, mx_ln i, .inr (.inl (σ.2 i)))) := by
  rw [mx_ws_at (mx_kd_lt (by omega))]
  rw [mx_cell, if_neg (by omega), if_pos hk]
theorem mx_at_ref {adr : Nat → Nat} {ca : Nat → ClassId} {σ : mx_S} {i k : Nat} (hk : mx_kd i = k) (h : 12 ≤ k) (h2 : k < 16) : (mx_ws adr ca σ)[i]? = some (adr i, .inl (ca k, mx_ln i, .inr (.inr (.inr (.inr (fun j => if j < mx_ln i then some (adr (mx_ptr i j)) else none)))))) := by
  subst hk
  rw [mx_ws_at (mx_kd_lt (by omega))]
  rw [mx_cell, if_neg (by omega), if_neg (by omega), if_neg (by omega)]
theorem mx_ws_set {adr : Nat → Nat} {ca : Nat → ClassId} {σ σ' : mx_S} {i : Nat} {x : va_E} (hi : i < 114) (hx : mx_cell adr ca σ' i = x) (h : ∀ j, j ≠ i → mx_cell adr ca σ' j = mx_cell adr ca σ j) : (mx_ws adr ca σ).set i (adr i, x) = mx_ws adr ca σ' := by
  apply List.ext_getElem?
  intro j
  by_cases hj : j = i
  · subst hj
    rw [List.getElem?_set_self (by simpa [mx_ws] using hi), mx_ws_at hi, hx]
  · rw [List.getElem?_set_ne (Ne.symm hj)]
    by_cases hl : j < 114
    · rw [mx_ws_at hl, mx_ws_at hl, h j hj]
    · simp [mx_ws, hl]
theorem mx_cell_ne {adr : Nat → Nat} {ca : Nat → ClassId} {σ σ' : mx_S} {i : Nat} (h1 : σ'.1 i = σ.1 i) (h2 : σ'.2 i = σ.2 i) : mx_cell adr ca σ' i = mx_cell adr ca σ i := by
  unfold mx_cell mx_fs
  rw [h1, h2]
theorem mx_u_ne {α : Type} {f : Nat → Nat → α} {a k : Nat} {x : α} {i : Nat} (h : i ≠ a) : mx_u f a k x i = f i := by
  funext j
  simp [mx_u, h]
theorem mx_u_eq {f : Nat → Nat → Int32} {a k : Nat} {x : Int32} : mx_u f a k x a = upd (f a) k x := by
  funext j
  simp [mx_u, upd]
theorem mx_u_eqL {f : Nat → Nat → Int64} {a k : Nat} {x : Int64} : mx_u f a k x a = vp_updL (f a) k x := by
  funext j
  simp [mx_u, vp_updL]
theorem mx_c_ne {α : Type} {f : Nat → Nat → α} {a : Nat} {g : Nat → α} {i : Nat} (h : i ≠ a) : mx_c f a g i = f i := by
  funext j
  simp [mx_c, h]
theorem mx_c_eq {α : Type} {f : Nat → Nat → α} {a : Nat} {g : Nat → α} : mx_c f a g a = g := by
  funext j
  simp [mx_c]
theorem mx_D {A : Nat → Prop} {adr : Nat → Nat} {ca : Nat → ClassId} {σ σ' : mx_S} (h : va_D A (mx_ws adr ca σ)) : va_D A (mx_ws adr ca σ') := by
  have key : ∀ (k : Nat) (q : Nat × va_E), (mx_ws adr ca σ')[k]? = some q → (mx_ws adr ca σ)[k]? = some (q.1, mx_cell adr ca σ k) := by
    intro k q hq
    have hk : k < 114 := by
      have := (List.getElem?_eq_some_iff.mp hq).1
      simpa [mx_ws] using this
    rw [mx_ws_at hk] at hq ⊢
    cases hq
    rfl
  exact ⟨fun i j p q hi hj e => h.1 i j (p.1, mx_cell adr ca σ i) (q.1, mx_cell adr ca σ j) (key i p hi) (key j q hj) e, fun k q hq => h.2 k (q.1, mx_cell adr ca σ k) (key k q hq)⟩
/-- a field of an object becomes v -/
theorem mx_setF {adr : Nat → Nat} {ca : Nat → ClassId} {σ : mx_S} {h c k : Nat} {v : Int32} (hk : mx_kd h = c) (hc : c < 8) (ho : mx_off c k = 0) (hn : k < mx_nF c) : (mx_ws adr ca σ).set h (adr h, .inr (c, (mx_fs adr σ h c).set k (.int v))) = mx_ws adr ca (mx_u σ.1 h k v, σ.2) := by
  refine mx_ws_set (mx_kd_lt (by omega)) ?_ (fun j hj => mx_cell_ne (mx_u_ne hj) rfl)
  subst hk
  rw [mx_cell, if_pos hc]
  refine congrArg (fun z => Sum.inr (mx_kd h, z)) ?_
  apply List.ext_getElem?
  intro j
  by_cases hj : j = k
  · subst hj
    rw [List.getElem?_set_self (by simpa [mx_fs] using hn)]
    simp [mx_fs, hn, ho, mx_u]
  · rw [List.getElem?_set_ne (Ne.symm hj)]
    by_cases hl : j < mx_nF (mx_kd h)
    · simp [mx_fs, hl, mx_u, hj]
    · simp [mx_fs, hl]
theorem mx_setI {adr : Nat → Nat} {ca : Nat → ClassId} {σ : mx_S} {a k j : Nat} {v : Int32} (hk : mx_kd a = k) (h : k = 8 ∨ k = 9 ∨ k = 10) : (mx_ws adr ca σ).set a (adr a, .inl (ca k, mx_ln a, .inl (upd (σ.1 a) j v))) = mx_ws adr ca (mx_u σ.1 a j v, σ.2) := by
  refine mx_ws_set (mx_kd_lt (by omega)) ?_ (fun j hj => mx_cell_ne (mx_u_ne hj) rfl)
  subst hk
  rw [mx_cell, if_neg (by omega), if_neg (by omega), if_pos (by omega)]
  dsimp only
  rw [mx_u_eq]
theorem mx_setL {adr : Nat → Nat} {ca : Nat → ClassId} {σ : mx_S} {a j : Nat} {v : Int64} (hk : mx_kd a = 11) : (mx_ws adr ca σ).set a (adr a, .inl (ca 11, mx_ln a, .inr (.inl (vp_updL (σ.2 a) j v)))) = mx_ws adr ca (σ.1, mx_u σ.2 a j v) := by
  refine mx_ws_set (mx_kd_lt (by omega)) ?_ (fun j hj => mx_cell_ne rfl (mx_u_ne hj))
  rw [mx_cell, if_neg (by omega), if_pos hk]
  dsimp only
  rw [mx_u_eqL]
theorem mx_setCI {adr : Nat → Nat} {ca : Nat → ClassId} {σ : mx_S} {a : Nat} {g : Nat → Int32} (hk : mx_kd a = 8) : (mx_ws adr ca σ).set a (adr a, .inl (ca 8, mx_ln a, .inl g)) = mx_ws adr ca (mx_c σ.1 a g, σ.2) := by
  refine mx_ws_set (mx_kd_lt (by omega)) ?_ (fun j hj => mx_cell_ne (mx_c_ne hj) rfl)
  rw [mx_cell, if_neg (by omega), if_neg (by omega), if_pos (by omega), hk]
  dsimp only
  rw [mx_c_eq]
theorem mx_setCL {adr : Nat → Nat} {ca : Nat → ClassId} {σ : mx_S} {a : Nat} {g : Nat → Int64} (hk : mx_kd a = 11) : (mx_ws adr ca σ).set a (adr a, .inl (ca 11, mx_ln a, .inr (.inl g))) = mx_ws adr ca (σ.1, mx_c σ.2 a g) := by
  refine mx_ws_set (mx_kd_lt (by omega)) ?_ (fun j hj => mx_cell_ne rfl (mx_c_ne hj))
  rw [mx_cell, if_neg (by omega), if_pos hk]
  dsimp only
  rw [mx_c_eq]
/-! ===== locals ===== -/
def mx_cv (adr : Nat → Nat) (v : Value) : Value := match v with
  | .ref a => .ref (adr a)
  | v => v
theorem mx_cv_cat (adr : Nat → Nat) (v : Value) : (mx_cv adr v).category = v.category := by cases v <;> rfl
def mx_as (adr : Nat → Nat) : Nat → mx_L → List (Nat × Value)
  | _, [] => []
  | i, none :: t => mx_as adr (i + 1) t
  | i, some v :: t => (i, mx_cv adr v) :: mx_as adr (i + 1) t
theorem mx_as_mem (adr : Nat → Nat) : ∀ (ls : mx_L) (i : Nat) (q : Nat × Value), q ∈ mx_as adr i ls ↔ ∃ k v, ls[k]? = some (some v) ∧ q = (i + k, mx_cv adr v)
  | [], i, q => by simp [mx_as]
  | none :: t, i, q => by
    rw [mx_as, mx_as_mem adr t (i + 1) q]
    constructor
    · rintro ⟨k, v, h, rfl⟩
      exact ⟨k + 1, v, by simpa using h, by rw [Nat.add_assoc, Nat.add_comm 1 k]⟩
    · rintro ⟨k, v, h, rfl⟩
      cases k with
      | zero => simp at h
      | succ k => exact ⟨k, v, by simpa using h, by rw [Nat.add_assoc, Nat.add_comm 1 k]⟩
  | some w :: t, i, q => by
    rw [mx_as, List.mem_cons, mx_as_mem adr t (i + 1) q]
    constructor
    · rintro (rfl | ⟨k, v, h, rfl⟩)
      · exact ⟨0, w, by simp, rfl⟩
      · exact ⟨k + 1, v, by simpa using h, by rw [Nat.add_assoc, Nat.add_comm 1 k]⟩
    · rintro ⟨k, v, h, rfl⟩
      cases k with
      | zero =>
        simp at h
        subst h
        exact Or.inl rfl
      | succ k => exact Or.inr ⟨k, v, by simpa using h, by rw [Nat.add_assoc, Nat.add_comm 1 k]⟩
theorem mx_as_mem0 {adr : Nat → Nat} {ls : mx_L} {q : Nat × Value} : q ∈ mx_as adr 0 ls ↔ ∃ k v, ls[k]? = some (some v) ∧ q = (k, mx_cv adr v) := by
  rw [mx_as_mem]
  constructor <;> rintro ⟨k, v, h, e⟩ <;> exact ⟨k, v, h, by simpa using e⟩
theorem mx_get {adr : Nat → Nat} {ls : Array Slot} {als : mx_L} {n k : Nat} {v : Value} (hl : lv_has ls n (mx_as adr 0 als)) (h : als[k]? = some (some v)) : ls[k]? = some (.val (mx_cv adr v)) := hl.2.2 (k, mx_cv adr v) (mx_as_mem0.mpr ⟨k, v, h, rfl⟩)
theorem mx_st1 {adr : Nat → Nat} {ls : Array Slot} {als : mx_L} {n k : Nat} {v : Value} (hl : lv_has ls n ((k, mx_cv adr v) :: (mx_as adr 0 als).filter (fun q => !(q.1 == k) && !(q.1 + 1 == k && q.2.category == 2)))) (hk : k < als.length) (hp : mx_pv als k = false) : lv_has ls n (mx_as adr 0 (als.set k (some v))) := by
  refine ⟨hl.1, hl.2.1, fun q hq => hl.2.2 q ?_⟩
  obtain ⟨j, w, hj, rfl⟩ := mx_as_mem0.mp hq
  by_cases hjk : j = k
  · subst hjk
    rw [List.getElem?_set_self hk] at hj
    cases hj
    exact List.mem_cons_self
  · rw [List.getElem?_set_ne (Ne.symm hjk)] at hj
    refine List.mem_cons_of_mem _ (List.mem_filter.mpr ⟨mx_as_mem0.mpr ⟨j, w, hj, rfl⟩, ?_⟩)
    simp only [Bool.and_eq_true, Bool.not_eq_true', beq_eq_false_iff_ne, ne_eq, Bool.and_eq_false_iff]
    refine ⟨hjk, ?_⟩
    by_cases h1 : j + 1 = k
    · subst h1
      right
      have : mx_is2 als[j]? = false := hp
      rw [hj] at this
      rw [mx_cv_cat]
      simpa [mx_is2] using this
    · exact Or.inl h1
theorem mx_st2 {adr : Nat → Nat} {ls : Array Slot} {als : mx_L} {n k : Nat} {v : Value} (hl : lv_has ls n ((k, mx_cv adr v) :: (mx_as adr 0 als).filter (fun q => !(q.1 == k) && (!(q.1 == k + 1) && !(q.1 + 1 == k && q.2.category == 2))))) (hk : k + 1 < als.length) (hp : mx_pv als k = false) : lv_has ls n (mx_as adr 0 ((als.set k (some v)).set (k + 1) none)) := by
  refine ⟨hl.1, hl.2.1, fun q hq => hl.2.2 q ?_⟩
  obtain ⟨j, w, hj, rfl⟩ := mx_as_mem0.mp hq
  by_cases hj1 : j = k + 1
  · subst hj1
    rw [List.getElem?_set_self (by simpa using hk)] at hj
    cases hj
  · rw [List.getElem?_set_ne (Ne.symm hj1)] at hj
    by_cases hjk : j = k
    · subst hjk
      rw [List.getElem?_set_self (by omega)] at hj
      cases hj
      exact List.mem_cons_self
    · rw [List.getElem?_set_ne (Ne.symm hjk)] at hj
      refine List.mem_cons_of_mem _ (List.mem_filter.mpr ⟨mx_as_mem0.mpr ⟨j, w, hj, rfl⟩, ?_⟩)
      simp only [Bool.and_eq_true, Bool.not_eq_true', beq_eq_false_iff_ne, ne_eq, Bool.and_eq_false_iff]
      refine ⟨hjk, hj1, ?_⟩
      by_cases h1 : j + 1 = k
      · subst h1
        right
        have : mx_is2 als[j]? = false := hp
        rw [hj] at this
        rw [mx_cv_cat]
        simpa [mx_is2] using this
      · exact Or.inl h1
theorem mx_sl_args (adr : Nat → Nat) : ∀ (as : List Value) (i : Nat) (q : Nat × Value), q ∈ mx_as adr i (mx_sl as) → q ∈ lv_args i (as.map (mx_cv adr))
  | [], i, q, h => by simp [mx_sl, mx_as] at h
  | v :: t, i, q, h => by
    have e : mx_sl (v :: t) = (if v.category = 2 then [some v, none] else [some v]) ++ mx_sl t := by simp [mx_sl]
    rw [e] at h
    rw [List.map_cons, lv_args, mx_cv_cat]
    by_cases hc : v.category = 2
    · rw [if_pos hc] at h ⊢
      rcases List.mem_cons.mp h with h | h
      · exact List.mem_cons.mpr (Or.inl h)
      · exact List.mem_cons_of_mem _ (mx_sl_args adr t _ q h)
    · rw [if_neg hc] at h ⊢
      rcases List.mem_cons.mp h with h | h
      · exact List.mem_cons.mpr (Or.inl h)
      · exact List.mem_cons_of_mem _ (mx_sl_args adr t _ q h)
theorem mx_sl_len (adr : Nat → Nat) : ∀ as : List Value, (lg_sl (as.map (mx_cv adr))).length = (mx_sl as).length
  | [] => rfl
  | v :: t => by
    have e : mx_sl (v :: t) = (if v.category = 2 then [some v, none] else [some v]) ++ mx_sl t := by simp [mx_sl]
    have e2 : lg_sl ((v :: t).map (mx_cv adr)) = (if (mx_cv adr v).category = 2 then [.val (mx_cv adr v), .second] else [.val (mx_cv adr v)]) ++ lg_sl (t.map (mx_cv adr)) := by simp [lg_sl]
    rw [e, e2, List.length_append, List.length_append, mx_sl_len adr t, mx_cv_cat]
    by_cases hc : v.category = 2
    · rw [if_pos hc, if_pos hc]; rfl
    · rw [if_neg hc, if_neg hc]; rfl
theorem mx_entry {adr : Nat → Nat} {as : List Value} {n : Nat} {ls : Array Slot} (hl : lv_has ls n (lv_args 0 (as.map (mx_cv adr)))) : lv_has ls n (mx_as adr 0 (mx_ent n as)) := by
  refine ⟨hl.1, hl.2.1, fun q hq => hl.2.2 q (mx_sl_args adr as 0 q ?_)⟩
  obtain ⟨k, v, h, rfl⟩ := mx_as_mem0.mp hq
  refine mx_as_mem0.mpr ⟨k, v, ?_, rfl⟩
  unfold mx_ent at h
  by_cases hk : k < (mx_sl as).length
  · rwa [List.getElem?_append_left hk] at h
  · rw [List.getElem?_append_right (by omega)] at h
    have := List.eq_of_mem_replicate (List.mem_of_getElem? h)
    cases this
theorem mx_ent_len {as : List Value} {n : Nat} (h : (mx_sl as).length ≤ n) : (mx_ent n as).length = n := by
  simp [mx_ent]
  omega
