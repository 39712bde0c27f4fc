/-! ===== rules of the small machine's runs ===== -/
section MXR
variable {d : Nat} {M : mx_M} {cc : ByteArray} {pc pc' : Nat} {ls ls' : mx_L} {st : List Value} {σ : mx_S} {r : mx_R}
theorem mx_es {C : mx_M → List Value → mx_S → mx_R → Prop} {i : Instr} {len n : Nat} (hM : M.2.2.1 = cc) (hd : decode cc pc = .ok (i, len)) : mx_exec C M (n + 1) pc ls st σ r ↔ mx_stp C M i len pc ls st σ r (fun pc ls st σ => mx_exec C M n pc ls st σ r) := by
  subst hM
  constructor
  · rintro ⟨i', len', h1, h2⟩
    rw [hd] at h1
    cases h1
    exact h2
  · intro h
    exact ⟨i, len, hd, h⟩
theorem mx_go {ls' : mx_L} {st' : List Value} {σ' : mx_S} (h : ∀ n, mx_exec (mx_call d) M (n + 1) pc ls st σ r ↔ mx_exec (mx_call d) M n pc' ls' st' σ' r) : mx_run d M pc ls st σ r ↔ mx_run d M pc' ls' st' σ' r := by
  constructor
  · rintro ⟨n, hn⟩
    cases n with
    | zero => exact False.elim hn
    | succ n => exact ⟨n, (h n).mp hn⟩
  · rintro ⟨n, hn⟩
    exact ⟨n + 1, (h n).mpr hn⟩
theorem mx_goP {ls' : mx_L} {st' : List Value} {σ' : mx_S} {B : Prop} (h : ∀ n, mx_exec (mx_call d) M (n + 1) pc ls st σ r ↔ B ∧ mx_exec (mx_call d) M n pc' ls' st' σ' r) : mx_run d M pc ls st σ r ↔ B ∧ mx_run d M pc' ls' st' σ' r := by
  constructor
  · rintro ⟨n, hn⟩
    cases n with
    | zero => exact False.elim hn
    | succ n => exact ⟨((h n).mp hn).1, n, ((h n).mp hn).2⟩
  · rintro ⟨hB, n, hn⟩
    exact ⟨n + 1, (h n).mpr ⟨hB, hn⟩⟩
theorem mx_end {B : Prop} (h : ∀ n, mx_exec (mx_call d) M (n + 1) pc ls st σ r ↔ B) : mx_run d M pc ls st σ r ↔ B := by
  constructor
  · rintro ⟨n, hn⟩
    cases n with
    | zero => exact False.elim hn
    | succ n => exact (h n).mp hn
  · intro hB
    exact ⟨1, (h 0).mpr hB⟩
theorem mx_goI {c : Prop} [Decidable c] {st' : List Value} {pt : Nat} (h : ∀ n, mx_exec (mx_call d) M (n + 1) pc ls st σ r ↔ ((c → mx_exec (mx_call d) M n pt ls st' σ r) ∧ (¬ c → mx_exec (mx_call d) M n pc' ls st' σ r))) : mx_run d M pc ls st σ r ↔ if c then mx_run d M pt ls st' σ r else mx_run d M pc' ls st' σ r := by
  by_cases hc : c
  · rw [if_pos hc]
    exact mx_go (fun n => by rw [h n]; exact ⟨fun z => z.1 hc, fun z => ⟨fun _ => z, fun y => absurd hc y⟩⟩)
  · rw [if_neg hc]
    exact mx_go (fun n => by rw [h n]; exact ⟨fun z => z.2 hc, fun z => ⟨fun y => absurd y hc, fun _ => z⟩⟩)
theorem R_iconst {n : Int} {v : Int32} (hM : M.2.2.1 = cc) (hd : decode cc pc = .ok (.iconst n, 1)) (hp : pc + 1 = pc') (hv : Int32.ofInt n = v) : mx_run d M pc ls st σ r ↔ mx_run d M pc' ls (.int v :: st) σ r := by
  subst hp
  exact mx_go (fun n => by rw [mx_es hM hd]; simp [mx_stp, and_assoc, hv])
theorem R_bipush {n : Int} {v : Int32} (hM : M.2.2.1 = cc) (hd : decode cc pc = .ok (.bipush n, 2)) (hp : pc + 2 = pc') (hv : (Int8.ofInt n).toInt32 = v) : mx_run d M pc ls st σ r ↔ mx_run d M pc' ls (.int v :: st) σ r := by
  subst hp
  exact mx_go (fun n => by rw [mx_es hM hd]; simp [mx_stp, and_assoc, hv])
theorem R_sipush {n : Int} {v : Int32} (hM : M.2.2.1 = cc) (hd : decode cc pc = .ok (.sipush n, 3)) (hp : pc + 3 = pc') (hv : (Int16.ofInt n).toInt32 = v) : mx_run d M pc ls st σ r ↔ mx_run d M pc' ls (.int v :: st) σ r := by
  subst hp
  exact mx_go (fun n => by rw [mx_es hM hd]; simp [mx_stp, and_assoc, hv])
theorem R_lconst {n : Fin 2} {v : Int64} (hM : M.2.2.1 = cc) (hd : decode cc pc = .ok (.lconst n, 1)) (hp : pc + 1 = pc') (hv : Int64.ofNat (n : Nat) = v) : mx_run d M pc ls st σ r ↔ mx_run d M pc' ls (.long v :: st) σ r := by
  subst hp
  exact mx_go (fun n => by rw [mx_es hM hd]; simp [mx_stp, and_assoc, hv])
theorem R_ldc {x : Nat} {v : Int32} (hM : M.2.2.1 = cc) (hd : decode cc pc = .ok (.ldc x, 2)) (hp : pc + 2 = pc') (hv : mx_kT M.1 x = some v) : mx_run d M pc ls st σ r ↔ mx_run d M pc' ls (.int v :: st) σ r := by
  subst hp
  exact mx_go (fun n => by rw [mx_es hM hd]; simp [mx_stp, and_assoc, hv])
theorem R_ldc2_w {x : Nat} {v : Int64} (hM : M.2.2.1 = cc) (hd : decode cc pc = .ok (.ldc2_w x, 3)) (hp : pc + 3 = pc') (hv : mx_jT M.1 x = some v) : mx_run d M pc ls st σ r ↔ mx_run d M pc' ls (.long v :: st) σ r := by
  subst hp
  exact mx_go (fun n => by rw [mx_es hM hd]; simp [mx_stp, and_assoc, hv])
theorem R_iload_n {k : Fin 4} {x : Int32} (hM : M.2.2.1 = cc) (hd : decode cc pc = .ok (.iload_n k, 1)) (hp : pc + 1 = pc') (hl : ls[(k : Nat)]? = some (some (.int x))) : mx_run d M pc ls st σ r ↔ mx_run d M pc' ls (.int x :: st) σ r := by
  subst hp
  exact mx_go (fun n => by rw [mx_es hM hd]; simp [mx_stp, and_assoc, hl])
theorem R_iload {k : Nat} {x : Int32} (hM : M.2.2.1 = cc) (hd : decode cc pc = .ok (.iload k, 2)) (hp : pc + 2 = pc') (hl : ls[k]? = some (some (.int x))) : mx_run d M pc ls st σ r ↔ mx_run d M pc' ls (.int x :: st) σ r := by
  subst hp
  exact mx_go (fun n => by rw [mx_es hM hd]; simp [mx_stp, and_assoc, hl])
theorem R_lload_n {k : Fin 4} {x : Int64} (hM : M.2.2.1 = cc) (hd : decode cc pc = .ok (.lload_n k, 1)) (hp : pc + 1 = pc') (hl : ls[(k : Nat)]? = some (some (.long x))) : mx_run d M pc ls st σ r ↔ mx_run d M pc' ls (.long x :: st) σ r := by
  subst hp
  exact mx_go (fun n => by rw [mx_es hM hd]; simp [mx_stp, and_assoc, hl])
theorem R_lload {k : Nat} {x : Int64} (hM : M.2.2.1 = cc) (hd : decode cc pc = .ok (.lload k, 2)) (hp : pc + 2 = pc') (hl : ls[k]? = some (some (.long x))) : mx_run d M pc ls st σ r ↔ mx_run d M pc' ls (.long x :: st) σ r := by
  subst hp
  exact mx_go (fun n => by rw [mx_es hM hd]; simp [mx_stp, and_assoc, hl])
theorem R_aload_n {k : Fin 4} {x : Nat} (hM : M.2.2.1 = cc) (hd : decode cc pc = .ok (.aload_n k, 1)) (hp : pc + 1 = pc') (hl : ls[(k : Nat)]? = some (some (.ref x))) : mx_run d M pc ls st σ r ↔ mx_run d M pc' ls (.ref x :: st) σ r := by
  subst hp
  exact mx_go (fun n => by rw [mx_es hM hd]; simp [mx_stp, and_assoc, hl])
theorem R_aload {k : Nat} {x : Nat} (hM : M.2.2.1 = cc) (hd : decode cc pc = .ok (.aload k, 2)) (hp : pc + 2 = pc') (hl : ls[k]? = some (some (.ref x))) : mx_run d M pc ls st σ r ↔ mx_run d M pc' ls (.ref x :: st) σ r := by
  subst hp
  exact mx_go (fun n => by rw [mx_es hM hd]; simp [mx_stp, and_assoc, hl])
theorem R_istore_n {k : Fin 4} {x : Int32} {b : Bool} (hM : M.2.2.1 = cc) (hd : decode cc pc = .ok (.istore_n k, 1)) (hp : pc + 1 = pc') (hk : (k : Nat) < ls.length) (hb : mx_pv ls k = b) (hs : ls.set k (some (.int x)) = ls') : mx_run d M pc ls (.int x :: st) σ r ↔ b = false ∧ mx_run d M pc' ls' st σ r := by
  subst hp
  exact mx_goP (fun n => by rw [mx_es hM hd]; simp [mx_stp, and_assoc, hk, hb, hs])
theorem R_istore {k : Nat} {x : Int32} {b : Bool} (hM : M.2.2.1 = cc) (hd : decode cc pc = .ok (.istore k, 2)) (hp : pc + 2 = pc') (hk : k < ls.length) (hb : mx_pv ls k = b) (hs : ls.set k (some (.int x)) = ls') : mx_run d M pc ls (.int x :: st) σ r ↔ b = false ∧ mx_run d M pc' ls' st σ r := by
  subst hp
  exact mx_goP (fun n => by rw [mx_es hM hd]; simp [mx_stp, and_assoc, hk, hb, hs])
theorem R_astore_n {k : Fin 4} {x : Nat} {b : Bool} (hM : M.2.2.1 = cc) (hd : decode cc pc = .ok (.astore_n k, 1)) (hp : pc + 1 = pc') (hk : (k : Nat) < ls.length) (hb : mx_pv ls k = b) (hs : ls.set k (some (.ref x)) = ls') : mx_run d M pc ls (.ref x :: st) σ r ↔ b = false ∧ mx_run d M pc' ls' st σ r := by
  subst hp
  exact mx_goP (fun n => by rw [mx_es hM hd]; simp [mx_stp, and_assoc, hk, hb, hs])
theorem R_astore {k : Nat} {x : Nat} {b : Bool} (hM : M.2.2.1 = cc) (hd : decode cc pc = .ok (.astore k, 2)) (hp : pc + 2 = pc') (hk : k < ls.length) (hb : mx_pv ls k = b) (hs : ls.set k (some (.ref x)) = ls') : mx_run d M pc ls (.ref x :: st) σ r ↔ b = false ∧ mx_run d M pc' ls' st σ r := by
  subst hp
  exact mx_goP (fun n => by rw [mx_es hM hd]; simp [mx_stp, and_assoc, hk, hb, hs])
theorem R_lstore_n {k : Fin 4} {x : Int64} {b : Bool} (hM : M.2.2.1 = cc) (hd : decode cc pc = .ok (.lstore_n k, 1)) (hp : pc + 1 = pc') (hk : (k : Nat) + 1 < ls.length) (hb : mx_pv ls k = b) (hs : (ls.set k (some (.long x))).set (k + 1) none = ls') : mx_run d M pc ls (.long x :: st) σ r ↔ b = false ∧ mx_run d M pc' ls' st σ r := by
  subst hp
  exact mx_goP (fun n => by rw [mx_es hM hd]; simp [mx_stp, and_assoc, hk, hb, hs])
theorem R_lstore {k : Nat} {x : Int64} {b : Bool} (hM : M.2.2.1 = cc) (hd : decode cc pc = .ok (.lstore k, 2)) (hp : pc + 2 = pc') (hk : k + 1 < ls.length) (hb : mx_pv ls k = b) (hs : (ls.set k (some (.long x))).set (k + 1) none = ls') : mx_run d M pc ls (.long x :: st) σ r ↔ b = false ∧ mx_run d M pc' ls' st σ r := by
  subst hp
  exact mx_goP (fun n => by rw [mx_es hM hd]; simp [mx_stp, and_assoc, hk, hb, hs])
theorem R_iinc {k : Nat} {z : Int} {x v : Int32} {b : Bool} (hM : M.2.2.1 = cc) (hd : decode cc pc = .ok (.iinc k z, 3)) (hp : pc + 3 = pc') (hl : ls[k]? = some (some (.int x))) (hv : Int32.ofInt z = v) (hb : mx_pv ls k = b) (hs : ls.set k (some (.int (x + v))) = ls') : mx_run d M pc ls st σ r ↔ b = false ∧ mx_run d M pc' ls' st σ r := by
  subst hp
  exact mx_goP (fun n => by rw [mx_es hM hd]; simp [mx_stp, and_assoc, hl, hb, hv, hs])
theorem R_iadd {x y : Int32} (hM : M.2.2.1 = cc) (hd : decode cc pc = .ok (.iadd, 1)) (hp : pc + 1 = pc')  : mx_run d M pc ls (.int y :: .int x :: st) σ r ↔ mx_run d M pc' ls (.int (x + y) :: st) σ r := by
  subst hp
  exact mx_go (fun n => by rw [mx_es hM hd]; simp [mx_stp, and_assoc])
theorem R_isub {x y : Int32} (hM : M.2.2.1 = cc) (hd : decode cc pc = .ok (.isub, 1)) (hp : pc + 1 = pc')  : mx_run d M pc ls (.int y :: .int x :: st) σ r ↔ mx_run d M pc' ls (.int (x - y) :: st) σ r := by
  subst hp
  exact mx_go (fun n => by rw [mx_es hM hd]; simp [mx_stp, and_assoc])
theorem R_imul {x y : Int32} (hM : M.2.2.1 = cc) (hd : decode cc pc = .ok (.imul, 1)) (hp : pc + 1 = pc')  : mx_run d M pc ls (.int y :: .int x :: st) σ r ↔ mx_run d M pc' ls (.int (x * y) :: st) σ r := by
  subst hp
  exact mx_go (fun n => by rw [mx_es hM hd]; simp [mx_stp, and_assoc])
theorem R_ior {x y : Int32} (hM : M.2.2.1 = cc) (hd : decode cc pc = .ok (.ior, 1)) (hp : pc + 1 = pc')  : mx_run d M pc ls (.int y :: .int x :: st) σ r ↔ mx_run d M pc' ls (.int (x ||| y) :: st) σ r := by
  subst hp
  exact mx_go (fun n => by rw [mx_es hM hd]; simp [mx_stp, and_assoc])
theorem R_ishr {x y : Int32} (hM : M.2.2.1 = cc) (hd : decode cc pc = .ok (.ishr, 1)) (hp : pc + 1 = pc')  : mx_run d M pc ls (.int y :: .int x :: st) σ r ↔ mx_run d M pc' ls (.int (x >>> (y &&& 31)) :: st) σ r := by
  subst hp
  exact mx_go (fun n => by rw [mx_es hM hd]; simp [mx_stp, and_assoc])
theorem R_iushr {x y : Int32} (hM : M.2.2.1 = cc) (hd : decode cc pc = .ok (.iushr, 1)) (hp : pc + 1 = pc')  : mx_run d M pc ls (.int y :: .int x :: st) σ r ↔ mx_run d M pc' ls (.int (x.toUInt32 >>> (y.toUInt32 &&& Int32.toUInt32 31)).toInt32 :: st) σ r := by
  subst hp
  exact mx_go (fun n => by rw [mx_es hM hd]; simp [mx_stp, and_assoc])
theorem R_idiv {x y : Int32} (hM : M.2.2.1 = cc) (hd : decode cc pc = .ok (.idiv, 1)) (hp : pc + 1 = pc')  : mx_run d M pc ls (.int y :: .int x :: st) σ r ↔ ¬ y = 0 ∧ mx_run d M pc' ls (.int (x / y) :: st) σ r := by
  subst hp
  exact mx_goP (fun n => by rw [mx_es hM hd]; simp [mx_stp, and_assoc])
theorem R_irem {x y : Int32} (hM : M.2.2.1 = cc) (hd : decode cc pc = .ok (.irem, 1)) (hp : pc + 1 = pc')  : mx_run d M pc ls (.int y :: .int x :: st) σ r ↔ ¬ y = 0 ∧ mx_run d M pc' ls (.int (x - x / y * y) :: st) σ r := by
  subst hp
  exact mx_goP (fun n => by rw [mx_es hM hd]; simp [mx_stp, and_assoc])
theorem R_ldiv {x y : Int64} (hM : M.2.2.1 = cc) (hd : decode cc pc = .ok (.ldiv, 1)) (hp : pc + 1 = pc')  : mx_run d M pc ls (.long y :: .long x :: st) σ r ↔ ¬ y = 0 ∧ mx_run d M pc' ls (.long (x / y) :: st) σ r := by
  subst hp
  exact mx_goP (fun n => by rw [mx_es hM hd]; simp [mx_stp, and_assoc])
theorem R_lrem {x y : Int64} (hM : M.2.2.1 = cc) (hd : decode cc pc = .ok (.lrem, 1)) (hp : pc + 1 = pc')  : mx_run d M pc ls (.long y :: .long x :: st) σ r ↔ ¬ y = 0 ∧ mx_run d M pc' ls (.long (x - x / y * y) :: st) σ r := by
  subst hp
  exact mx_goP (fun n => by rw [mx_es hM hd]; simp [mx_stp, and_assoc])
theorem R_ineg {x : Int32} (hM : M.2.2.1 = cc) (hd : decode cc pc = .ok (.ineg, 1)) (hp : pc + 1 = pc')  : mx_run d M pc ls (.int x :: st) σ r ↔ mx_run d M pc' ls (.int (-x) :: st) σ r := by
  subst hp
  exact mx_go (fun n => by rw [mx_es hM hd]; simp [mx_stp, and_assoc])
theorem R_lcmp {x y : Int64} (hM : M.2.2.1 = cc) (hd : decode cc pc = .ok (.lcmp, 1)) (hp : pc + 1 = pc')  : mx_run d M pc ls (.long y :: .long x :: st) σ r ↔ mx_run d M pc' ls (.int (lg_cmp x y) :: st) σ r := by
  subst hp
  exact mx_go (fun n => by rw [mx_es hM hd]; simp [mx_stp, and_assoc])
theorem R_i2l {x : Int32} (hM : M.2.2.1 = cc) (hd : decode cc pc = .ok (.i2l, 1)) (hp : pc + 1 = pc')  : mx_run d M pc ls (.int x :: st) σ r ↔ mx_run d M pc' ls (.long x.toInt64 :: st) σ r := by
  subst hp
  exact mx_go (fun n => by rw [mx_es hM hd]; simp [mx_stp, and_assoc])
theorem R_l2i {x : Int64} (hM : M.2.2.1 = cc) (hd : decode cc pc = .ok (.l2i, 1)) (hp : pc + 1 = pc')  : mx_run d M pc ls (.long x :: st) σ r ↔ mx_run d M pc' ls (.int x.toInt32 :: st) σ r := by
  subst hp
  exact mx_go (fun n => by rw [mx_es hM hd]; simp [mx_stp, and_assoc])
theorem R_i2b {x : Int32} (hM : M.2.2.1 = cc) (hd : decode cc pc = .ok (.i2b, 1)) (hp : pc + 1 = pc')  : mx_run d M pc ls (.int x :: st) σ r ↔ mx_run d M pc' ls (.int x.toInt8.toInt32 :: st) σ r := by
  subst hp
  exact mx_go (fun n => by rw [mx_es hM hd]; simp [mx_stp, and_assoc])
theorem R_i2s {x : Int32} (hM : M.2.2.1 = cc) (hd : decode cc pc = .ok (.i2s, 1)) (hp : pc + 1 = pc')  : mx_run d M pc ls (.int x :: st) σ r ↔ mx_run d M pc' ls (.int x.toInt16.toInt32 :: st) σ r := by
  subst hp
  exact mx_go (fun n => by rw [mx_es hM hd]; simp [mx_stp, and_assoc])
theorem R_dup {v : Value} (hM : M.2.2.1 = cc) (hd : decode cc pc = .ok (.dup, 1)) (hp : pc + 1 = pc') (hv : v.category = 1) : mx_run d M pc ls (v :: st) σ r ↔ mx_run d M pc' ls (v :: v :: st) σ r := by
  subst hp
  exact mx_go (fun n => by rw [mx_es hM hd]; simp [mx_stp, and_assoc, hv])
theorem R_pop {v : Value} (hM : M.2.2.1 = cc) (hd : decode cc pc = .ok (.pop, 1)) (hp : pc + 1 = pc') (hv : v.category = 1) : mx_run d M pc ls (v :: st) σ r ↔ mx_run d M pc' ls st σ r := by
  subst hp
  exact mx_go (fun n => by rw [mx_es hM hd]; simp [mx_stp, and_assoc, hv])
theorem R_goto {off : Int} (hM : M.2.2.1 = cc) (hd : decode cc pc = .ok (.goto off, 3)) (h0 : 0 ≤ (pc : Int) + off) (hp : mx_tg pc off = pc') : mx_run d M pc ls st σ r ↔ mx_run d M pc' ls st σ r := by
  subst hp
  exact mx_go (fun n => by rw [mx_es hM hd]; simp [mx_stp, h0])
theorem R_if_eq {x : Int32} {off : Int} {pt : Nat} (hM : M.2.2.1 = cc) (hd : decode cc pc = .ok (.ifCond .eq off, 3)) (h0 : 0 ≤ (pc : Int) + off) (ht : mx_tg pc off = pt) (hp : pc + 3 = pc') : mx_run d M pc ls (.int x :: st) σ r ↔ if x = 0 then mx_run d M pt ls st σ r else mx_run d M pc' ls st σ r := by
  subst hp
  subst ht
  exact mx_goI (fun n => by rw [mx_es hM hd]; simp [mx_stp, h0, mx_c2, and_assoc])
theorem R_icmp_eq {x y : Int32} {off : Int} {pt : Nat} (hM : M.2.2.1 = cc) (hd : decode cc pc = .ok (.if_icmp .eq off, 3)) (h0 : 0 ≤ (pc : Int) + off) (ht : mx_tg pc off = pt) (hp : pc + 3 = pc') : mx_run d M pc ls (.int y :: .int x :: st) σ r ↔ if x = y then mx_run d M pt ls st σ r else mx_run d M pc' ls st σ r := by
  subst hp
  subst ht
  exact mx_goI (fun n => by rw [mx_es hM hd]; simp [mx_stp, h0, mx_c2, and_assoc])
theorem R_if_ne {x : Int32} {off : Int} {pt : Nat} (hM : M.2.2.1 = cc) (hd : decode cc pc = .ok (.ifCond .ne off, 3)) (h0 : 0 ≤ (pc : Int) + off) (ht : mx_tg pc off = pt) (hp : pc + 3 = pc') : mx_run d M pc ls (.int x :: st) σ r ↔ if x = 0 then mx_run d M pc' ls st σ r else mx_run d M pt ls st σ r := by
  subst hp
  subst ht
  exact mx_goI (fun n => by rw [mx_es hM hd]; simp [mx_stp, h0, mx_c2, and_assoc]; exact and_comm)
theorem R_icmp_ne {x y : Int32} {off : Int} {pt : Nat} (hM : M.2.2.1 = cc) (hd : decode cc pc = .ok (.if_icmp .ne off, 3)) (h0 : 0 ≤ (pc : Int) + off) (ht : mx_tg pc off = pt) (hp : pc + 3 = pc') : mx_run d M pc ls (.int y :: .int x :: st) σ r ↔ if x = y then mx_run d M pc' ls st σ r else mx_run d M pt ls st σ r := by
  subst hp
  subst ht
  exact mx_goI (fun n => by rw [mx_es hM hd]; simp [mx_stp, h0, mx_c2, and_assoc]; exact and_comm)
theorem R_if_lt {x : Int32} {off : Int} {pt : Nat} (hM : M.2.2.1 = cc) (hd : decode cc pc = .ok (.ifCond .lt off, 3)) (h0 : 0 ≤ (pc : Int) + off) (ht : mx_tg pc off = pt) (hp : pc + 3 = pc') : mx_run d M pc ls (.int x :: st) σ r ↔ if x < 0 then mx_run d M pt ls st σ r else mx_run d M pc' ls st σ r := by
  subst hp
  subst ht
  exact mx_goI (fun n => by rw [mx_es hM hd]; simp [mx_stp, h0, mx_c2, and_assoc])
theorem R_icmp_lt {x y : Int32} {off : Int} {pt : Nat} (hM : M.2.2.1 = cc) (hd : decode cc pc = .ok (.if_icmp .lt off, 3)) (h0 : 0 ≤ (pc : Int) + off) (ht : mx_tg pc off = pt) (hp : pc + 3 = pc') : mx_run d M pc ls (.int y :: .int x :: st) σ r ↔ if x < y then mx_run d M pt ls st σ r else mx_run d M pc' ls st σ r := by
  subst hp
  subst ht
  exact mx_goI (fun n => by rw [mx_es hM hd]; simp [mx_stp, h0, mx_c2, and_assoc])
theorem R_if_ge {x : Int32} {off : Int} {pt : Nat} (hM : M.2.2.1 = cc) (hd : decode cc pc = .ok (.ifCond .ge off, 3)) (h0 : 0 ≤ (pc : Int) + off) (ht : mx_tg pc off = pt) (hp : pc + 3 = pc') : mx_run d M pc ls (.int x :: st) σ r ↔ if 0 ≤ x then mx_run d M pt ls st σ r else mx_run d M pc' ls st σ r := by
  subst hp
  subst ht
  exact mx_goI (fun n => by rw [mx_es hM hd]; simp [mx_stp, h0, mx_c2, and_assoc])
theorem R_icmp_ge {x y : Int32} {off : Int} {pt : Nat} (hM : M.2.2.1 = cc) (hd : decode cc pc = .ok (.if_icmp .ge off, 3)) (h0 : 0 ≤ (pc : Int) + off) (ht : mx_tg pc off = pt) (hp : pc + 3 = pc') : mx_run d M pc ls (.int y :: .int x :: st) σ r ↔ if y ≤ x then mx_run d M pt ls st σ r else mx_run d M pc' ls st σ r := by
  subst hp
  subst ht
  exact mx_goI (fun n => by rw [mx_es hM hd]; simp [mx_stp, h0, mx_c2, and_assoc])
theorem R_if_gt {x : Int32} {off : Int} {pt : Nat} (hM : M.2.2.1 = cc) (hd : decode cc pc = .ok (.ifCond .gt off, 3)) (h0 : 0 ≤ (pc : Int) + off) (ht : mx_tg pc off = pt) (hp : pc + 3 = pc') : mx_run d M pc ls (.int x :: st) σ r ↔ if 0 < x then mx_run d M pt ls st σ r else mx_run d M pc' ls st σ r := by
  subst hp
  subst ht
  exact mx_goI (fun n => by rw [mx_es hM hd]; simp [mx_stp, h0, mx_c2, and_assoc])
theorem R_icmp_gt {x y : Int32} {off : Int} {pt : Nat} (hM : M.2.2.1 = cc) (hd : decode cc pc = .ok (.if_icmp .gt off, 3)) (h0 : 0 ≤ (pc : Int) + off) (ht : mx_tg pc off = pt) (hp : pc + 3 = pc') : mx_run d M pc ls (.int y :: .int x :: st) σ r ↔ if y < x then mx_run d M pt ls st σ r else mx_run d M pc' ls st σ r := by
  subst hp
  subst ht
  exact mx_goI (fun n => by rw [mx_es hM hd]; simp [mx_stp, h0, mx_c2, and_assoc])
theorem R_if_le {x : Int32} {off : Int} {pt : Nat} (hM : M.2.2.1 = cc) (hd : decode cc pc = .ok (.ifCond .le off, 3)) (h0 : 0 ≤ (pc : Int) + off) (ht : mx_tg pc off = pt) (hp : pc + 3 = pc') : mx_run d M pc ls (.int x :: st) σ r ↔ if x ≤ 0 then mx_run d M pt ls st σ r else mx_run d M pc' ls st σ r := by
  subst hp
  subst ht
  exact mx_goI (fun n => by rw [mx_es hM hd]; simp [mx_stp, h0, mx_c2, and_assoc])
theorem R_icmp_le {x y : Int32} {off : Int} {pt : Nat} (hM : M.2.2.1 = cc) (hd : decode cc pc = .ok (.if_icmp .le off, 3)) (h0 : 0 ≤ (pc : Int) + off) (ht : mx_tg pc off = pt) (hp : pc + 3 = pc') : mx_run d M pc ls (.int y :: .int x :: st) σ r ↔ if x ≤ y then mx_run d M pt ls st σ r else mx_run d M pc' ls st σ r := by
  subst hp
  subst ht
  exact mx_goI (fun n => by rw [mx_es hM hd]; simp [mx_stp, h0, mx_c2, and_assoc])
theorem R_getI {x h c k : Nat} (hM : M.2.2.1 = cc) (hd : decode cc pc = .ok (.getfield x, 3)) (hp : pc + 3 = pc') (hf : mx_fT M.1 x = some (c, k)) (ho : mx_off c k = 0) : mx_run d M pc ls (.ref h :: st) σ r ↔ mx_kd h = c ∧ mx_run d M pc' ls (.int (σ.1 h k) :: st) σ r := by
  subst hp
  exact mx_goP (fun n => by rw [mx_es hM hd]; simp [mx_stp, hf, ho])
theorem R_getA {x h c k f : Nat} (hM : M.2.2.1 = cc) (hd : decode cc pc = .ok (.getfield x, 3)) (hp : pc + 3 = pc') (hf : mx_fT M.1 x = some (c, k)) (ho : mx_off c k = f) (h0 : f ≠ 0) : mx_run d M pc ls (.ref h :: st) σ r ↔ mx_kd h = c ∧ mx_run d M pc' ls (.ref (h + f) :: st) σ r := by
  subst hp
  exact mx_goP (fun n => by rw [mx_es hM hd]; simp [mx_stp, hf, ho, h0])
theorem R_putI {x h c k : Nat} {v : Int32} (hM : M.2.2.1 = cc) (hd : decode cc pc = .ok (.putfield x, 3)) (hp : pc + 3 = pc') (hf : mx_fT M.1 x = some (c, k)) (ho : mx_off c k = 0) (hb : mx_bl c k = false) : mx_run d M pc ls (.int v :: .ref h :: st) σ r ↔ mx_kd h = c ∧ mx_run d M pc' ls st (mx_u σ.1 h k v, σ.2) r := by
  subst hp
  exact mx_goP (fun n => by rw [mx_es hM hd]; simp [mx_stp, hf, ho, hb, and_assoc])
theorem R_putZ {x h c k : Nat} {v : Int32} (hM : M.2.2.1 = cc) (hd : decode cc pc = .ok (.putfield x, 3)) (hp : pc + 3 = pc') (hf : mx_fT M.1 x = some (c, k)) (ho : mx_off c k = 0) (hb : mx_bl c k = true) : mx_run d M pc ls (.int v :: .ref h :: st) σ r ↔ (mx_kd h = c ∧ (v = 0 ∨ v = 1)) ∧ mx_run d M pc' ls st (mx_u σ.1 h k v, σ.2) r := by
  subst hp
  exact mx_goP (fun n => by rw [mx_es hM hd]; simp [mx_stp, hf, ho, hb, and_assoc])
theorem R_getstatic {x : Nat} (hM : M.2.2.1 = cc) (hd : decode cc pc = .ok (.getstatic x, 3)) (hp : pc + 3 = pc') (hf : (M.1 = 6 ∧ x = 316) ∨ (M.1 = 3 ∧ x = 36)) : mx_run d M pc ls st σ r ↔ mx_run d M pc' ls (.ref 114 :: st) σ r := by
  subst hp
  exact mx_go (fun n => by rw [mx_es hM hd]; simp [mx_stp, hf])
theorem R_iaload {i : Int32} {a : Nat} (hM : M.2.2.1 = cc) (hd : decode cc pc = .ok (.iaload, 1)) (hp : pc + 1 = pc') (h9 : a ≠ 114) : mx_run d M pc ls (.int i :: .ref a :: st) σ r ↔ (vp_in i (mx_ln a) ∧ mx_kd a = 8) ∧ mx_run d M pc' ls (.int (σ.1 a i.toNatClampNeg) :: st) σ r := by
  subst hp
  exact mx_goP (fun n => by rw [mx_es hM hd]; simp [mx_stp, h9, and_assoc])
theorem R_ialoadT {i : Int32} (hM : M.2.2.1 = cc) (hd : decode cc pc = .ok (.iaload, 1)) (hp : pc + 1 = pc') : mx_run d M pc ls (.int i :: .ref 114 :: st) σ r ↔ vp_in i 6 ∧ mx_run d M pc' ls (.int (mx_tab i.toNatClampNeg) :: st) σ r := by
  subst hp
  have e1 : mx_ln 114 = 6 := rfl
  have e2 : mx_kd 114 = 16 := rfl
  exact mx_goP (fun n => by rw [mx_es hM hd]; simp [mx_stp, e1, e2])
theorem R_baload {i : Int32} {a : Nat} (hM : M.2.2.1 = cc) (hd : decode cc pc = .ok (.baload, 1)) (hp : pc + 1 = pc') : mx_run d M pc ls (.int i :: .ref a :: st) σ r ↔ (vp_in i (mx_ln a) ∧ (mx_kd a = 9 ∨ mx_kd a = 10)) ∧ mx_run d M pc' ls (.int (σ.1 a i.toNatClampNeg) :: st) σ r := by
  subst hp
  exact mx_goP (fun n => by rw [mx_es hM hd]; simp [mx_stp, and_assoc])
theorem R_laload {i : Int32} {a : Nat} (hM : M.2.2.1 = cc) (hd : decode cc pc = .ok (.laload, 1)) (hp : pc + 1 = pc') : mx_run d M pc ls (.int i :: .ref a :: st) σ r ↔ (vp_in i (mx_ln a) ∧ mx_kd a = 11) ∧ mx_run d M pc' ls (.long (σ.2 a i.toNatClampNeg) :: st) σ r := by
  subst hp
  exact mx_goP (fun n => by rw [mx_es hM hd]; simp [mx_stp, and_assoc])
theorem R_aaload {i : Int32} {a : Nat} (hM : M.2.2.1 = cc) (hd : decode cc pc = .ok (.aaload, 1)) (hp : pc + 1 = pc') : mx_run d M pc ls (.int i :: .ref a :: st) σ r ↔ (vp_in i (mx_ln a) ∧ (mx_kd a = 12 ∨ mx_kd a = 13 ∨ mx_kd a = 14 ∨ mx_kd a = 15)) ∧ mx_run d M pc' ls (.ref (mx_ptr a i.toNatClampNeg) :: st) σ r := by
  subst hp
  exact mx_goP (fun n => by rw [mx_es hM hd]; simp [mx_stp, and_assoc])
theorem R_iastore {i v : Int32} {a : Nat} (hM : M.2.2.1 = cc) (hd : decode cc pc = .ok (.iastore, 1)) (hp : pc + 1 = pc') : mx_run d M pc ls (.int v :: .int i :: .ref a :: st) σ r ↔ (vp_in i (mx_ln a) ∧ mx_kd a = 8) ∧ mx_run d M pc' ls st (mx_u σ.1 a i.toNatClampNeg v, σ.2) r := by
  subst hp
  exact mx_goP (fun n => by rw [mx_es hM hd]; simp [mx_stp, and_assoc])
theorem R_bastoreB {i v : Int32} {a : Nat} (hM : M.2.2.1 = cc) (hd : decode cc pc = .ok (.bastore, 1)) (hp : pc + 1 = pc') (h9 : mx_kd a = 9) : mx_run d M pc ls (.int v :: .int i :: .ref a :: st) σ r ↔ vp_in i (mx_ln a) ∧ mx_run d M pc' ls st (mx_u σ.1 a i.toNatClampNeg v.toInt8.toInt32, σ.2) r := by
  subst hp
  exact mx_goP (fun n => by rw [mx_es hM hd]; simp [mx_stp, h9, and_assoc])
theorem R_bastoreZ {i v : Int32} {a : Nat} (hM : M.2.2.1 = cc) (hd : decode cc pc = .ok (.bastore, 1)) (hp : pc + 1 = pc') (h9 : mx_kd a = 10) : mx_run d M pc ls (.int v :: .int i :: .ref a :: st) σ r ↔ (vp_in i (mx_ln a) ∧ (v = 0 ∨ v = 1)) ∧ mx_run d M pc' ls st (mx_u σ.1 a i.toNatClampNeg v, σ.2) r := by
  subst hp
  exact mx_goP (fun n => by rw [mx_es hM hd]; simp [mx_stp, h9, and_assoc])
theorem R_lastore {i : Int32} {v : Int64} {a : Nat} (hM : M.2.2.1 = cc) (hd : decode cc pc = .ok (.lastore, 1)) (hp : pc + 1 = pc') : mx_run d M pc ls (.long v :: .int i :: .ref a :: st) σ r ↔ (vp_in i (mx_ln a) ∧ mx_kd a = 11) ∧ mx_run d M pc' ls st (σ.1, mx_u σ.2 a i.toNatClampNeg v) r := by
  subst hp
  exact mx_goP (fun n => by rw [mx_es hM hd]; simp [mx_stp, and_assoc])
theorem R_arraylength {a : Nat} (hM : M.2.2.1 = cc) (hd : decode cc pc = .ok (.arraylength, 1)) (hp : pc + 1 = pc') : mx_run d M pc ls (.ref a :: st) σ r ↔ (8 ≤ mx_kd a ∧ mx_kd a < 16) ∧ mx_run d M pc' ls (.int (nI (mx_ln a)) :: st) σ r := by
  subst hp
  exact mx_goP (fun n => by rw [mx_es hM hd]; simp [mx_stp, and_assoc, nI])
theorem R_iretI {x : Int32} (hM : M.2.2.1 = cc) (hd : decode cc pc = .ok (.ireturn, 1)) (ht : M.2.2.2.2 = some .int) : mx_run d M pc ls [.int x] σ r ↔ r = (some (.int x), σ) := mx_end (fun n => by rw [mx_es hM hd]; simp [mx_stp, ht, narrow])
theorem R_iretZ {x : Int32} (hM : M.2.2.1 = cc) (hd : decode cc pc = .ok (.ireturn, 1)) (ht : M.2.2.2.2 = some .boolean) : mx_run d M pc ls [.int x] σ r ↔ narrow .boolean (.int x) = .int x ∧ r = (some (.int x), σ) := mx_end (fun n => by rw [mx_es hM hd]; simp [mx_stp, ht])
theorem R_lret {x : Int64} (hM : M.2.2.1 = cc) (hd : decode cc pc = .ok (.lreturn, 1)) (ht : M.2.2.2.2 = some .long) : mx_run d M pc ls [.long x] σ r ↔ r = (some (.long x), σ) := mx_end (fun n => by rw [mx_es hM hd]; simp [mx_stp, ht])
theorem R_vret (hM : M.2.2.1 = cc) (hd : decode cc pc = .ok (.return_, 1)) (ht : M.2.2.2.2 = none) : mx_run d M pc ls [] σ r ↔ r = (none, σ) := mx_end (fun n => by rw [mx_es hM hd]; simp [mx_stp, ht])
theorem R_virt {x h n : Nat} {M' : mx_M} {As st0 : List Value} (hM : M.2.2.1 = cc) (hd : decode cc pc = .ok (.invokevirtual x, 3)) (hp : pc + 3 = pc') (hc : mx_cTb M.1 x = some (0, M', n)) (hn : As.length = n) (hs : st0 = As.reverse ++ .ref h :: st) (hw : mx_cat st ≤ 8) : mx_run d M pc ls st0 σ r ↔ mx_kd h = M'.1 ∧ ∃ q, mx_call d M' (.ref h :: As) σ q ∧ mx_run d M pc' ls (q.1.toList ++ st) q.2 r := by
  subst hp
  subst hs
  constructor
  · rintro ⟨z, hz⟩
    cases z with
    | zero => exact False.elim hz
    | succ z =>
      obtain ⟨-, M2, n2, As2, h2, st2, q, h3, h4, h5, h6, h7, h8, h9⟩ := (mx_es hM hd).mp hz
      rw [hc] at h3
      cases h3
      obtain ⟨e1, e2⟩ := List.append_inj h4 (by simp [hn, h5])
      cases e2
      cases List.reverse_inj.mp e1
      exact ⟨h6, q, h8, z, h9⟩
  · rintro ⟨h6, q, h8, z, h9⟩
    exact ⟨z + 1, (mx_es hM hd).mpr ⟨rfl, M', n, As, h, st, q, hc, rfl, hn, h6, hw, h8, h9⟩⟩
theorem R_stat {x n : Nat} {M' : mx_M} {As st0 : List Value} (hM : M.2.2.1 = cc) (hd : decode cc pc = .ok (.invokestatic x, 3)) (hp : pc + 3 = pc') (hc : mx_cTb M.1 x = some (1, M', n)) (hc2 : mx_dT M.1 x = none) (hn : As.length = n) (hs : st0 = As.reverse ++ st) (hw : mx_cat st ≤ 8) : mx_run d M pc ls st0 σ r ↔ ∃ q, mx_call d M' As σ q ∧ mx_run d M pc' ls (q.1.toList ++ st) q.2 r := by
  subst hp
  subst hs
  constructor
  · rintro ⟨z, hz⟩
    cases z with
    | zero => exact False.elim hz
    | succ z =>
      obtain ⟨-, h | h | h | h⟩ := (mx_es hM hd).mp hz
      · obtain ⟨M2, n2, As2, st2, q, h3, h4, h5, h7, h8, h9⟩ := h
        rw [hc] at h3
        cases h3
        obtain ⟨e1, e2⟩ := List.append_inj h4 (by simp [hn, h5])
        cases e2
        cases List.reverse_inj.mp e1
        exact ⟨q, h8, z, h9⟩
      · obtain ⟨a, b, st', h3, -⟩ := h
        rw [hc2] at h3
        cases h3
      · obtain ⟨a, b, st', h3, -⟩ := h
        rw [hc2] at h3
        cases h3
      · obtain ⟨a, b, b3, b4, b5, st', h3, -⟩ := h
        rw [hc2] at h3
        cases h3
  · rintro ⟨q, h8, z, h9⟩
    exact ⟨z + 1, (mx_es hM hd).mpr ⟨rfl, Or.inl ⟨M', n, As, st, q, hc, rfl, hn, hw, h8, h9⟩⟩⟩
theorem R_max {x : Nat} {a b : Int32} (hM : M.2.2.1 = cc) (hd : decode cc pc = .ok (.invokestatic x, 3)) (hp : pc + 3 = pc') (hc : mx_cTb M.1 x = none) (hc2 : mx_dT M.1 x = some 2) (hw : mx_cat st ≤ 8) : mx_run d M pc ls (.int b :: .int a :: st) σ r ↔ mx_run d M pc' ls (.int (if a < b then b else a) :: st) σ r := by
  subst hp
  exact mx_go (fun n => by rw [mx_es hM hd]; simp [mx_stp, hc, hc2, hw, and_assoc])
theorem R_min {x : Nat} {a b : Int32} (hM : M.2.2.1 = cc) (hd : decode cc pc = .ok (.invokestatic x, 3)) (hp : pc + 3 = pc') (hc : mx_cTb M.1 x = none) (hc2 : mx_dT M.1 x = some 3) (hw : mx_cat st ≤ 8) : mx_run d M pc ls (.int b :: .int a :: st) σ r ↔ mx_run d M pc' ls (.int (if b < a then b else a) :: st) σ r := by
  subst hp
  exact mx_go (fun n => by rw [mx_es hM hd]; simp [mx_stp, hc, hc2, hw, and_assoc])
def mx_cpOK (sp dp n : Int32) (b a k : Nat) : Prop := ¬ sp < 0 ∧ ¬ dp < 0 ∧ ¬ n < 0 ∧ sp.toNatClampNeg + n.toNatClampNeg ≤ mx_ln b ∧ dp.toNatClampNeg + n.toNatClampNeg ≤ mx_ln a ∧ mx_kd a = k ∧ mx_kd b = k
theorem R_copyI {x a b : Nat} {n dp sp : Int32} (hM : M.2.2.1 = cc) (hd : decode cc pc = .ok (.invokestatic x, 3)) (hp : pc + 3 = pc') (hc : mx_cTb M.1 x = none) (hc2 : mx_dT M.1 x = some 4) (hw : mx_cat st ≤ 8) (ha : mx_kd a = 8) : mx_run d M pc ls (.int n :: .int dp :: .ref a :: .int sp :: .ref b :: st) σ r ↔ mx_cpOK sp dp n b a 8 ∧ mx_run d M pc' ls st (mx_c σ.1 a (va_cpy (σ.1 b) (σ.1 a) sp.toNatClampNeg dp.toNatClampNeg n.toNatClampNeg), σ.2) r := by
  subst hp
  exact mx_goP (fun z => by rw [mx_es hM hd]; simp [mx_stp, hc, hc2, hw, ha, mx_cpOK, and_assoc])
theorem R_copyL {x a b : Nat} {n dp sp : Int32} (hM : M.2.2.1 = cc) (hd : decode cc pc = .ok (.invokestatic x, 3)) (hp : pc + 3 = pc') (hc : mx_cTb M.1 x = none) (hc2 : mx_dT M.1 x = some 4) (hw : mx_cat st ≤ 8) (ha : mx_kd a = 11) : mx_run d M pc ls (.int n :: .int dp :: .ref a :: .int sp :: .ref b :: st) σ r ↔ mx_cpOK sp dp n b a 11 ∧ mx_run d M pc' ls st (σ.1, mx_c σ.2 a (va_cpy (σ.2 b) (σ.2 a) sp.toNatClampNeg dp.toNatClampNeg n.toNatClampNeg)) r := by
  subst hp
  exact mx_goP (fun z => by rw [mx_es hM hd]; simp [mx_stp, hc, hc2, hw, ha, mx_cpOK, and_assoc])
/-- a table of jumps, place by place -/
def mx_sw (d : Nat) (M : mx_M) (ls : mx_L) (st : List Value) (σ : mx_S) (r : mx_R) (x : Int32) (dflt : Nat) : List (Int32 × Nat) → Prop
  | [] => mx_run d M dflt ls st σ r
  | (k, t) :: rest => if x = k then mx_run d M t ls st σ r else mx_sw d M ls st σ r x dflt rest
theorem R_jump {x : Int32} {pt : Nat} (h : ∀ n, mx_exec (mx_call d) M (n + 1) pc ls (.int x :: st) σ r ↔ mx_exec (mx_call d) M n pt ls st σ r) : mx_run d M pc ls (.int x :: st) σ r ↔ mx_run d M pt ls st σ r := mx_go h
theorem R_tsOut {dflt lo hi : Int} {offs : Array Int} {len : Nat} {x : Int32} {pt : Nat} (hM : M.2.2.1 = cc) (hd : decode cc pc = .ok (.tableswitch dflt lo hi offs, len)) (hx : x.toInt < lo ∨ hi < x.toInt) (h0 : 0 ≤ (pc : Int) + dflt) (ht : mx_tg pc dflt = pt) : mx_run d M pc ls (.int x :: st) σ r ↔ mx_run d M pt ls st σ r := by
  subst ht
  refine mx_go (fun n => ?_)
  rw [mx_es hM hd]
  constructor
  · rintro ⟨x2, st2, e, h, -⟩
    cases e
    exact (h hx).2
  · intro h
    exact ⟨x, st, rfl, fun _ => ⟨h0, h⟩, fun z => absurd hx z⟩
theorem R_tsIn {dflt lo hi off : Int} {offs : Array Int} {len : Nat} {x : Int32} {pt : Nat} (hM : M.2.2.1 = cc) (hd : decode cc pc = .ok (.tableswitch dflt lo hi offs, len)) (h1 : ¬ (x.toInt < lo ∨ hi < x.toInt)) (ho : offs[(x.toInt - lo).toNat]? = some off) (h0 : 0 ≤ (pc : Int) + off) (ht : mx_tg pc off = pt) : mx_run d M pc ls (.int x :: st) σ r ↔ mx_run d M pt ls st σ r := by
  subst ht
  refine mx_go (fun n => ?_)
  rw [mx_es hM hd]
  constructor
  · rintro ⟨x2, st2, e, -, h⟩
    cases e
    obtain ⟨off2, h3, -, h4⟩ := h h1
    rw [ho] at h3
    cases h3
    exact h4
  · intro h
    exact ⟨x, st, rfl, fun z => absurd z h1, fun _ => ⟨off, ho, h0, h⟩⟩
theorem R_lsw {dflt off : Int} {ps : Array (Int × Int)} {len : Nat} {x : Int32} {pt : Nat} (hM : M.2.2.1 = cc) (hd : decode cc pc = .ok (.lookupswitch dflt ps, len)) (h1 : (ps.toList.zip (ps.toList.drop 1)).all (fun (a, next) => a.1 < next.1) = true) (ho : Op.lookupswitch.offset ps.toList dflt x.toInt = off) (h0 : 0 ≤ (pc : Int) + off) (ht : mx_tg pc off = pt) : mx_run d M pc ls (.int x :: st) σ r ↔ mx_run d M pt ls st σ r := by
  subst ht
  subst ho
  refine mx_go (fun n => ?_)
  rw [mx_es hM hd]
  constructor
  · rintro ⟨-, x2, st2, e, -, h⟩
    cases e
    exact h
  · intro h
    exact ⟨h1, x, st, rfl, h0, h⟩
/-- a call is its body's run -/
theorem R_call {n : Nat} {as : List Value} (hn : M.2.2.2.1 = n) (hl : (mx_sl as).length ≤ n) (he : mx_ent n as = ls) : mx_call (d + 1) M as σ r ↔ mx_run d M 0 ls [] σ r := by
  subst hn
  subst he
  exact ⟨fun h => h.2, fun h => ⟨hl, h⟩⟩
end MXR
