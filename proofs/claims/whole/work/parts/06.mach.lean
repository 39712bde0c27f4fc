/-! ===== a small machine over the cells of the two objects: what the rows of the kit prove of it once, holds of every method ===== -/
abbrev mx_S : Type := (Nat → Nat → Int32) × (Nat → Nat → Int64)
abbrev mx_R : Type := Option Value × mx_S
abbrev mx_L : Type := List (Option Value)
/-- one place of one row becomes x -/
def mx_u {α : Type} (f : Nat → Nat → α) (a k : Nat) (x : α) : Nat → Nat → α := fun i j => if i = a ∧ j = k then x else f i j
/-- one row becomes g -/
def mx_c {α : Type} (f : Nat → Nat → α) (a : Nat) (g : Nat → α) : Nat → Nat → α := fun i j => if i = a then g j else f i j
def mx_is2 (o : Option (Option Value)) : Bool := match o with
  | some (some v) => v.category == 2
  | _ => false
/-- a long stands just ahead of place k -/
def mx_pv (ls : mx_L) (k : Nat) : Bool := match k with
  | 0 => false
  | j + 1 => mx_is2 ls[j]?
def mx_tab (j : Nat) : Int32 := match j with
  | 0 => 30
  | 1 => 30
  | 2 => 30
  | 3 => 9
  | 4 => 9
  | _ => 99
def mx_cat (st : List Value) : Nat := (st.map fun v => v.category).sum
def mx_sl (as : List Value) : mx_L := as.flatMap fun v => if v.category = 2 then [some v, none] else [some v]
def mx_ent (n : Nat) (as : List Value) : mx_L := mx_sl as ++ List.replicate (n - (mx_sl as).length) none
def mx_tg (pc : Nat) (off : Int) : Nat := ((pc : Int) + off).toNat
def mx_c2 (c : ClassFile.Cond) (x y : Int32) : Prop := match c with
  | .eq => x = y
  | .ne => ¬ x = y
  | .lt => x < y
  | .ge => y ≤ x
  | .gt => y < x
  | .le => x ≤ y
def mx_stp (C : mx_M → List Value → mx_S → mx_R → Prop) (M : mx_M) (i : Instr) (len pc : Nat) (ls : mx_L) (st : List Value) (σ : mx_S) (r : mx_R) (K : Nat → mx_L → List Value → mx_S → Prop) : Prop := match i with
  | .iconst n => len = 1 ∧ K (pc + 1) ls (.int (Int32.ofInt n) :: st) σ
  | .bipush n => len = 2 ∧ K (pc + 2) ls (.int (Int8.ofInt n).toInt32 :: st) σ
  | .sipush n => len = 3 ∧ K (pc + 3) ls (.int (Int16.ofInt n).toInt32 :: st) σ
  | .lconst n => len = 1 ∧ K (pc + 1) ls (.long (Int64.ofNat (n : Nat)) :: st) σ
  | .ldc x => len = 2 ∧ ∃ v, mx_kT M.1 x = some v ∧ K (pc + 2) ls (.int v :: st) σ
  | .ldc2_w x => len = 3 ∧ ∃ v, mx_jT M.1 x = some v ∧ K (pc + 3) ls (.long v :: st) σ
  | .iload_n k => len = 1 ∧ ∃ x, ls[(k : Nat)]? = some (some (.int x)) ∧ K (pc + 1) ls (.int x :: st) σ
  | .iload k => len = 2 ∧ ∃ x, ls[k]? = some (some (.int x)) ∧ K (pc + 2) ls (.int x :: st) σ
  | .lload_n k => len = 1 ∧ ∃ x, ls[(k : Nat)]? = some (some (.long x)) ∧ K (pc + 1) ls (.long x :: st) σ
  | .lload k => len = 2 ∧ ∃ x, ls[k]? = some (some (.long x)) ∧ K (pc + 2) ls (.long x :: st) σ
  | .aload_n k => len = 1 ∧ ∃ x, ls[(k : Nat)]? = some (some (.ref x)) ∧ K (pc + 1) ls (.ref x :: st) σ
  | .aload k => len = 2 ∧ ∃ x, ls[k]? = some (some (.ref x)) ∧ K (pc + 2) ls (.ref x :: st) σ
  | .istore_n k => len = 1 ∧ ∃ x st', st = .int x :: st' ∧ (k : Nat) < ls.length ∧ mx_pv ls k = false ∧ K (pc + 1) (ls.set k (some (.int x))) st' σ
  | .istore k => len = 2 ∧ ∃ x st', st = .int x :: st' ∧ k < ls.length ∧ mx_pv ls k = false ∧ K (pc + 2) (ls.set k (some (.int x))) st' σ
  | .astore_n k => len = 1 ∧ ∃ x st', st = .ref x :: st' ∧ (k : Nat) < ls.length ∧ mx_pv ls k = false ∧ K (pc + 1) (ls.set k (some (.ref x))) st' σ
  | .astore k => len = 2 ∧ ∃ x st', st = .ref x :: st' ∧ k < ls.length ∧ mx_pv ls k = false ∧ K (pc + 2) (ls.set k (some (.ref x))) st' σ
  | .lstore_n k => len = 1 ∧ ∃ x st', st = .long x :: st' ∧ (k : Nat) + 1 < ls.length ∧ mx_pv ls k = false ∧ K (pc + 1) ((ls.set k (some (.long x))).set (k + 1) none) st' σ
  | .lstore k => len = 2 ∧ ∃ x st', st = .long x :: st' ∧ k + 1 < ls.length ∧ mx_pv ls k = false ∧ K (pc + 2) ((ls.set k (some (.long x))).set (k + 1) none) st' σ
  | .iinc k n => len = 3 ∧ ∃ x, ls[k]? = some (some (.int x)) ∧ mx_pv ls k = false ∧ K (pc + 3) (ls.set k (some (.int (x + Int32.ofInt n)))) st σ
  | .iadd => len = 1 ∧ ∃ x y st', st = .int y :: .int x :: st' ∧ K (pc + 1) ls (.int (x + y) :: st') σ
  | .isub => len = 1 ∧ ∃ x y st', st = .int y :: .int x :: st' ∧ K (pc + 1) ls (.int (x - y) :: st') σ
  | .imul => len = 1 ∧ ∃ x y st', st = .int y :: .int x :: st' ∧ K (pc + 1) ls (.int (x * y) :: st') σ
  | .ior => len = 1 ∧ ∃ x y st', st = .int y :: .int x :: st' ∧ K (pc + 1) ls (.int (x ||| y) :: st') σ
  | .idiv => len = 1 ∧ ∃ x y st', st = .int y :: .int x :: st' ∧ ¬ y = 0 ∧ K (pc + 1) ls (.int (x / y) :: st') σ
  | .irem => len = 1 ∧ ∃ x y st', st = .int y :: .int x :: st' ∧ ¬ y = 0 ∧ K (pc + 1) ls (.int (x - x / y * y) :: st') σ
  | .ldiv => len = 1 ∧ ∃ x y st', st = .long y :: .long x :: st' ∧ ¬ y = 0 ∧ K (pc + 1) ls (.long (x / y) :: st') σ
  | .lrem => len = 1 ∧ ∃ x y st', st = .long y :: .long x :: st' ∧ ¬ y = 0 ∧ K (pc + 1) ls (.long (x - x / y * y) :: st') σ
  | .ineg => len = 1 ∧ ∃ x st', st = .int x :: st' ∧ K (pc + 1) ls (.int (-x) :: st') σ
  | .ishr => len = 1 ∧ ∃ x y st', st = .int y :: .int x :: st' ∧ K (pc + 1) ls (.int (x >>> (y &&& 31)) :: st') σ
  | .iushr => len = 1 ∧ ∃ x y st', st = .int y :: .int x :: st' ∧ K (pc + 1) ls (.int (x.toUInt32 >>> (y.toUInt32 &&& Int32.toUInt32 31)).toInt32 :: st') σ
  | .lcmp => len = 1 ∧ ∃ x y st', st = .long y :: .long x :: st' ∧ K (pc + 1) ls (.int (lg_cmp x y) :: st') σ
  | .i2l => len = 1 ∧ ∃ x st', st = .int x :: st' ∧ K (pc + 1) ls (.long x.toInt64 :: st') σ
  | .l2i => len = 1 ∧ ∃ x st', st = .long x :: st' ∧ K (pc + 1) ls (.int x.toInt32 :: st') σ
  | .i2b => len = 1 ∧ ∃ x st', st = .int x :: st' ∧ K (pc + 1) ls (.int x.toInt8.toInt32 :: st') σ
  | .i2s => len = 1 ∧ ∃ x st', st = .int x :: st' ∧ K (pc + 1) ls (.int x.toInt16.toInt32 :: st') σ
  | .dup => len = 1 ∧ ∃ v st', st = v :: st' ∧ v.category = 1 ∧ K (pc + 1) ls (v :: v :: st') σ
  | .pop => len = 1 ∧ ∃ v st', st = v :: st' ∧ v.category = 1 ∧ K (pc + 1) ls st' σ
  | .ifCond c off => len = 3 ∧ 0 ≤ (pc : Int) + off ∧ ∃ x st', st = .int x :: st' ∧ (mx_c2 c x 0 → K (mx_tg pc off) ls st' σ) ∧ (¬ mx_c2 c x 0 → K (pc + 3) ls st' σ)
  | .if_icmp c off => len = 3 ∧ 0 ≤ (pc : Int) + off ∧ ∃ x y st', st = .int y :: .int x :: st' ∧ (mx_c2 c x y → K (mx_tg pc off) ls st' σ) ∧ (¬ mx_c2 c x y → K (pc + 3) ls st' σ)
  | .goto off => len = 3 ∧ 0 ≤ (pc : Int) + off ∧ K (mx_tg pc off) ls st σ
  | .tableswitch dflt lo hi offs => ∃ x st', st = .int x :: st' ∧ ((x.toInt < lo ∨ hi < x.toInt) → 0 ≤ (pc : Int) + dflt ∧ K (mx_tg pc dflt) ls st' σ) ∧ (¬ (x.toInt < lo ∨ hi < x.toInt) → ∃ off, offs[(x.toInt - lo).toNat]? = some off ∧ 0 ≤ (pc : Int) + off ∧ K (mx_tg pc off) ls st' σ)
  | .lookupswitch dflt ps => (ps.toList.zip (ps.toList.drop 1)).all (fun (a, next) => a.1 < next.1) = true ∧ ∃ x st', st = .int x :: st' ∧ 0 ≤ (pc : Int) + Op.lookupswitch.offset ps.toList dflt x.toInt ∧ K (mx_tg pc (Op.lookupswitch.offset ps.toList dflt x.toInt)) ls st' σ
  | .getfield x => len = 3 ∧ ∃ h st' c k, st = .ref h :: st' ∧ mx_fT M.1 x = some (c, k) ∧ mx_kd h = c ∧ K (pc + 3) ls ((if mx_off c k = 0 then .int (σ.1 h k) else .ref (h + mx_off c k)) :: st') σ
  | .putfield x => len = 3 ∧ ∃ h v st' c k, st = .int v :: .ref h :: st' ∧ mx_fT M.1 x = some (c, k) ∧ mx_kd h = c ∧ mx_off c k = 0 ∧ (mx_bl c k = true → v = 0 ∨ v = 1) ∧ K (pc + 3) ls st' (mx_u σ.1 h k v, σ.2)
  | .getstatic x => len = 3 ∧ ((M.1 = 6 ∧ x = 316) ∨ (M.1 = 3 ∧ x = 36)) ∧ K (pc + 3) ls (.ref 114 :: st) σ
  | .iaload => len = 1 ∧ ∃ i a st', st = .int i :: .ref a :: st' ∧ vp_in i (mx_ln a) ∧ ((mx_kd a = 8 ∧ K (pc + 1) ls (.int (σ.1 a i.toNatClampNeg) :: st') σ) ∨ (a = 114 ∧ K (pc + 1) ls (.int (mx_tab i.toNatClampNeg) :: st') σ))
  | .baload => len = 1 ∧ ∃ i a st', st = .int i :: .ref a :: st' ∧ vp_in i (mx_ln a) ∧ (mx_kd a = 9 ∨ mx_kd a = 10) ∧ K (pc + 1) ls (.int (σ.1 a i.toNatClampNeg) :: st') σ
  | .laload => len = 1 ∧ ∃ i a st', st = .int i :: .ref a :: st' ∧ vp_in i (mx_ln a) ∧ mx_kd a = 11 ∧ K (pc + 1) ls (.long (σ.2 a i.toNatClampNeg) :: st') σ
  | .aaload => len = 1 ∧ ∃ i a st', st = .int i :: .ref a :: st' ∧ vp_in i (mx_ln a) ∧ (mx_kd a = 12 ∨ mx_kd a = 13 ∨ mx_kd a = 14 ∨ mx_kd a = 15) ∧ K (pc + 1) ls (.ref (mx_ptr a i.toNatClampNeg) :: st') σ
  | .iastore => len = 1 ∧ ∃ v i a st', st = .int v :: .int i :: .ref a :: st' ∧ vp_in i (mx_ln a) ∧ mx_kd a = 8 ∧ K (pc + 1) ls st' (mx_u σ.1 a i.toNatClampNeg v, σ.2)
  | .bastore => len = 1 ∧ ∃ v i a st', st = .int v :: .int i :: .ref a :: st' ∧ vp_in i (mx_ln a) ∧ ((mx_kd a = 9 ∧ K (pc + 1) ls st' (mx_u σ.1 a i.toNatClampNeg v.toInt8.toInt32, σ.2)) ∨ (mx_kd a = 10 ∧ (v = 0 ∨ v = 1) ∧ K (pc + 1) ls st' (mx_u σ.1 a i.toNatClampNeg v, σ.2)))
  | .lastore => len = 1 ∧ ∃ v i a st', st = .long v :: .int i :: .ref a :: st' ∧ vp_in i (mx_ln a) ∧ mx_kd a = 11 ∧ K (pc + 1) ls st' (σ.1, mx_u σ.2 a i.toNatClampNeg v)
  | .arraylength => len = 1 ∧ ∃ a st', st = .ref a :: st' ∧ 8 ≤ mx_kd a ∧ mx_kd a < 16 ∧ K (pc + 1) ls (.int (Int32.ofNat (mx_ln a)) :: st') σ
  | .invokevirtual x => len = 3 ∧ ∃ M' n As h st' q, mx_cTb M.1 x = some (0, M', n) ∧ st = As.reverse ++ .ref h :: st' ∧ As.length = n ∧ mx_kd h = M'.1 ∧ mx_cat st' ≤ 8 ∧ C M' (.ref h :: As) σ q ∧ K (pc + 3) ls (q.1.toList ++ st') q.2
  | .invokestatic x => len = 3 ∧ ((∃ M' n As st' q, mx_cTb M.1 x = some (1, M', n) ∧ st = As.reverse ++ st' ∧ As.length = n ∧ mx_cat st' ≤ 8 ∧ C M' As σ q ∧ K (pc + 3) ls (q.1.toList ++ st') q.2)
      ∨ (∃ a b st', mx_dT M.1 x = some 2 ∧ st = .int b :: .int a :: st' ∧ mx_cat st' ≤ 8 ∧ K (pc + 3) ls (.int (if a < b then b else a) :: st') σ)
      ∨ (∃ a b st', mx_dT M.1 x = some 3 ∧ st = .int b :: .int a :: st' ∧ mx_cat st' ≤ 8 ∧ K (pc + 3) ls (.int (if b < a then b else a) :: st') σ)
      ∨ (∃ n dp a sp b st', mx_dT M.1 x = some 4 ∧ st = .int n :: .int dp :: .ref a :: .int sp :: .ref b :: st' ∧ mx_cat st' ≤ 8 ∧ ¬ sp < 0 ∧ ¬ dp < 0 ∧ ¬ n < 0 ∧ sp.toNatClampNeg + n.toNatClampNeg ≤ mx_ln b ∧ dp.toNatClampNeg + n.toNatClampNeg ≤ mx_ln a
          ∧ ((mx_kd a = 8 ∧ mx_kd b = 8 ∧ K (pc + 3) ls st' (mx_c σ.1 a (va_cpy (σ.1 b) (σ.1 a) sp.toNatClampNeg dp.toNatClampNeg n.toNatClampNeg), σ.2))
            ∨ (mx_kd a = 11 ∧ mx_kd b = 11 ∧ K (pc + 3) ls st' (σ.1, mx_c σ.2 a (va_cpy (σ.2 b) (σ.2 a) sp.toNatClampNeg dp.toNatClampNeg n.toNatClampNeg))))))
  | .ireturn => len = 1 ∧ ∃ x ty, st = [.int x] ∧ M.2.2.2.2 = some ty ∧ narrow ty (.int x) = .int x ∧ r = (some (.int x), σ)
  | .lreturn => len = 1 ∧ ∃ x, st = [.long x] ∧ M.2.2.2.2 = some .long ∧ r = (some (.long x), σ)
  | .return_ => len = 1 ∧ st = [] ∧ M.2.2.2.2 = none ∧ r = (none, σ)
  | _ => False
def mx_exec (C : mx_M → List Value → mx_S → mx_R → Prop) (M : mx_M) : Nat → Nat → mx_L → List Value → mx_S → mx_R → Prop
  | 0, _, _, _, _, _ => False
  | n + 1, pc, ls, st, σ, r => ∃ i len, decode M.2.2.1 pc = .ok (i, len) ∧ mx_stp C M i len pc ls st σ r (fun pc ls st σ => mx_exec C M n pc ls st σ r)
def mx_call : Nat → mx_M → List Value → mx_S → mx_R → Prop
  | 0, _, _, _, _ => False
  | d + 1, M, as, σ, r => (mx_sl as).length ≤ M.2.2.2.1 ∧ ∃ n, mx_exec (mx_call d) M n 0 (mx_ent M.2.2.2.1 as) [] σ r
def mx_run (d : Nat) (M : mx_M) (pc : Nat) (ls : mx_L) (st : List Value) (σ : mx_S) (r : mx_R) : Prop := ∃ n, mx_exec (mx_call d) M n pc ls st σ r
