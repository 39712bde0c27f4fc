/-! ===== new T[n][m]: an own row (the printed one names words that no file of the kit has): the rows lie behind the outer array ===== -/
def cn_out (h i : Nat) : Nat → Value := fun j => if j < i then .ref (h + 1 + j) else .null
theorem cn_out_up (h i : Nat) : updV (cn_out h i) i (.ref (h + 1 + i)) = cn_out h (i + 1) := by
  funext j
  unfold updV cn_out
  by_cases e : j = i
  · subst e
    rw [if_pos rfl, if_pos (Nat.lt_succ_self _)]
  · rw [if_neg e]
    by_cases g : j < i
    · rw [if_pos g, if_pos (by omega)]
    · rw [if_neg g, if_neg (by omega)]
def cn_mk (cA cy : ClassId) (N K : Nat) (dv : Value) (T : State) : Nat → State
  | 0 => T.pushCell (arrV cA N (cn_out T.heap.size 0))
  | i + 1 => ((cn_mk cA cy N K dv T i).pushCell (arrV cy K (fun _ => dv))).setCell T.heap.size (arrV cA N (cn_out T.heap.size (i + 1)))
theorem cn_size1 (T : State) (x : Cell) : (T.pushCell x).heap.size = T.heap.size + 1 := by
  show (T.heap.push x).size = _
  simp
theorem cn_size2 (T : State) (a : Nat) (x : Cell) : (T.setCell a x).heap.size = T.heap.size := size_setCell _ _ _
theorem cn_mk_size (cA cy : ClassId) (N K : Nat) (dv : Value) (T : State) : ∀ i, (cn_mk cA cy N K dv T i).heap.size = T.heap.size + 1 + i
  | 0 => cn_size1 _ _
  | i + 1 => by
    show (State.setCell _ _ _).heap.size = _
    rw [cn_size2, cn_size1, cn_mk_size cA cy N K dv T i]
    omega
theorem cn_mk_vm (cA cy : ClassId) (N K : Nat) (dv : Value) (T : State) : ∀ i, (cn_mk cA cy N K dv T i).vm = T.vm
  | 0 => rfl
  | i + 1 => cn_mk_vm cA cy N K dv T i
theorem cn_mk_top (cA cy : ClassId) (N K : Nat) (dv : Value) (T : State) (f : JFrame) : ∀ i, cn_mk cA cy N K dv (T.setTop f) i = (cn_mk cA cy N K dv T i).setTop f
  | 0 => by simp only [cn_mk, State.heap_setTop, State.pushCell_setTop]
  | i + 1 => by simp only [cn_mk, cn_mk_top cA cy N K dv T f i, State.heap_setTop, State.pushCell_setTop, State.setCell_setTop]
theorem cn_a1 (a i : Nat) : a < a + 1 + i := by omega
theorem cn_a2 (a i : Nat) : a < a + 1 + i + 1 := by omega
theorem cn_a3 (q a i : Nat) (h : q < a) : q < a + 1 + i := by omega
theorem cn_a4 (q a : Nat) (h : q < a) : a ≠ q := by omega
theorem cn_a5 (a j : Nat) : a ≠ a + 1 + j := by omega
theorem cn_a6 (a i j : Nat) (h : j < i) : a + 1 + j < a + 1 + i := by omega
theorem cn_mk_out (cA cy : ClassId) (N K : Nat) (dv : Value) (T : State) : ∀ i, (cn_mk cA cy N K dv T i).heap[T.heap.size]? = some (arrV cA N (cn_out T.heap.size i))
  | 0 => State.heap_pushCell_size _ _
  | i + 1 => by
    refine heapAt_setCell_self _ ?_
    rw [cn_size1, cn_mk_size]
    exact cn_a2 _ _
theorem cn_mk_old (cA cy : ClassId) (N K : Nat) (dv : Value) (T : State) {q : Nat} (hq : q < T.heap.size) : ∀ i, (cn_mk cA cy N K dv T i).heap[q]? = T.heap[q]?
  | 0 => State.heap_pushCell_of_lt _ _ hq
  | i + 1 => by
    refine (heapAt_setCell_ne _ (cn_a4 _ _ hq)).trans ?_
    refine (State.heap_pushCell_of_lt _ _ ?_).trans (cn_mk_old cA cy N K dv T hq i)
    rw [cn_mk_size]
    exact cn_a3 _ _ _ hq
theorem cn_mk_row (cA cy : ClassId) (N K : Nat) (dv : Value) (T : State) {j : Nat} : ∀ i, j < i → (cn_mk cA cy N K dv T i).heap[T.heap.size + 1 + j]? = some (arrV cy K (fun _ => dv))
  | 0, h => absurd h (Nat.not_lt_zero _)
  | i + 1, h => by
    refine (heapAt_setCell_ne _ (cn_a5 _ _)).trans ?_
    by_cases e : j < i
    · refine (State.heap_pushCell_of_lt _ _ ?_).trans (cn_mk_row cA cy N K dv T i e)
      rw [cn_mk_size]
      exact cn_a6 _ _ _ e
    · have e2 : T.heap.size + 1 + j = (cn_mk cA cy N K dv T i).heap.size := by
        rw [cn_mk_size]
        omega
      rw [e2]
      exact State.heap_pushCell_size _ _
section CNM
variable {p : Program} {l : Launch} {e : Env} {R : Room} {s : State} {m : MethodId} {args : Array Value} {below : List Frame} {meth : Method} {c : Code} {T : State} {locs : List Loc} {cells slots : Nat}
theorem cn_stand (X : Stand p l e R s m args below meth c T locs cells slots) (cA cy : ClassId) (N K : Nat) (dv : Value) : ∀ i, Stand p l e R s m args below meth c (cn_mk cA cy N K dv T i) locs (cells + 1 + i) (slots + N + i * K)
  | 0 => by
    have h := X.pushed (arrV cA N (cn_out T.heap.size 0))
    rw [arrV_size] at h
    simpa [cn_mk] using h
  | i + 1 => by
    have h1 := (cn_stand X cA cy N K dv i).pushed (arrV cy K (fun _ => dv))
    rw [arrV_size] at h1
    have hc : ((cn_mk cA cy N K dv T i).pushCell (arrV cy K (fun _ => dv))).heap[T.heap.size]? = some (arrV cA N (cn_out T.heap.size i)) := by
      refine (State.heap_pushCell_of_lt _ _ ?_).trans (cn_mk_out cA cy N K dv T i)
      rw [cn_mk_size]
      exact cn_a1 _ _
    have h2 := h1.stored hc i (.ref (T.heap.size + 1 + i))
    rw [arrV_store, cn_out_up] at h2
    have h3 := h2.dropFresh (fun x hx => by rw [List.mem_singleton.mp hx]; exact X.heapGrown)
    have e3 : slots + N + (i + 1) * K = slots + N + i * K + K := by rw [Nat.succ_mul]; omega
    rw [e3]
    exact h3
theorem cn_wp {E : CtlPost} {d : Bool} {acts : List Action} {T : State} {cA cy cc : ClassId} {kA kC : Class} {ty : FieldType} {n k : Int32} (X : Stand p l e R s m args below meth c T locs cells slots) (f : JFrame)
    (hA : T.vm.classes[cA]? = some kA) (hkA : kA.kind = .array cy (.array ty)) (hC : T.vm.classes[cy]? = some kC) (hkC : kC.kind = .array cc ty) (hn : ¬ n < 0) (hk : ¬ k < 0)
    (hb1 : n.toNatClampNeg * 4 ≤ 536870912) (hb2 : k.toNatClampNeg * componentBytes ty ≤ 536870912) (hb3 : k.toNatClampNeg ≤ 536870912) (hdf : fits ty (defaultValue ty) = true)
    (hcells : cells + (1 + n.toNatClampNeg) ≤ R.cells) (hslots : slots + (n.toNatClampNeg + n.toNatClampNeg * k.toNatClampNeg) ≤ R.slots) {Q : Addr → Pre}
    (hq : ∀ d' acts', Q T.heap.size d' acts' ((cn_mk cA cy n.toNatClampNeg k.toNatClampNeg (defaultValue ty) T n.toNatClampNeg).setTop f)) : wp (multianewarray.make cA [n, k]) Q E e d acts (T.setTop f) := by
  have hl1 : ¬ n.toNatClampNeg > e.platform.arrayLengthLimit := by rw [Launch.admits_arrayLengthLimit X.admits]; omega
  have hh1 : ¬ n.toNatClampNeg * componentBytes (.array ty) > e.platform.maxHeapBytes := by
    rw [Launch.admits_maxHeapBytes X.admits]
    show ¬ n.toNatClampNeg * 4 > 536870912
    omega
  have hl2 : ¬ k.toNatClampNeg > e.platform.arrayLengthLimit := by rw [Launch.admits_arrayLengthLimit X.admits]; omega
  have hh2 : ¬ k.toNatClampNeg * componentBytes ty > e.platform.maxHeapBytes := by rw [Launch.admits_maxHeapBytes X.admits]; omega
  have hnf : ([k].find? (· < 0)) = none := by simp [hk]
  have r0 := X.roomAbove (a := 1) (b := n.toNatClampNeg) (by omega) (by have := Nat.zero_le (n.toNatClampNeg * k.toNatClampNeg); omega)
  rw [multianewarray.make]
  simp only [wp_bind', W.ite, hn, if_false, wp_pure', W.theClass, State.vm_setTop, hA, hkA, Option.some.injEq, exists_eq_left']
  refine W.newArray_of (k := kA) (comp := cy) (type := .array ty) hA hkA hl1 hh1 (by show T.heap.size < _; omega) (by show T.slotsUsed + _ ≤ _; exact r0.2) rfl (fun acts' => ?_)
  simp only [hnf]
  rw [ite_self, wp_bind', Std.Legacy.Range.forIn_eq_forIn_range']
  have hsz : ([:n.toNatClampNeg] : Std.Legacy.Range).size = n.toNatClampNeg := by simp [Std.Legacy.Range.size]
  rw [hsz]
  show wp (forIn (List.range' 0 n.toNatClampNeg 1) PUnit.unit _) _ E e d acts' _
  refine wp_forIn_inv (fun rest s' => ∃ i, i ≤ n.toNatClampNeg ∧ rest = List.range' i (n.toNatClampNeg - i) ∧ s' = (cn_mk cA cy n.toNatClampNeg k.toNatClampNeg (defaultValue ty) T i).setTop f) _ _ ⟨0, Nat.zero_le _, rfl, ?_⟩ ?_ ?_
  · rw [arrV_new]
    rfl
  · rintro x rest s' d' acts' Q' ⟨i, hi, hl, rfl⟩ hnext
    have hlt : i < n.toNatClampNeg := by
      rcases Nat.lt_or_ge i n.toNatClampNeg with h | h
      · exact h
      · rw [show n.toNatClampNeg - i = 0 from by omega] at hl
        cases hl
    rw [show n.toNatClampNeg - i = (n.toNatClampNeg - (i + 1)) + 1 from by omega, List.range'_succ] at hl
    obtain ⟨rfl, hrest⟩ := List.cons.inj hl
    have Xi := cn_stand X cA cy n.toNatClampNeg k.toNatClampNeg (defaultValue ty) x
    have hmul : x * k.toNatClampNeg + k.toNatClampNeg ≤ n.toNatClampNeg * k.toNatClampNeg := by
      have := Nat.mul_le_mul_right k.toNatClampNeg (show x + 1 ≤ n.toNatClampNeg from hlt)
      rw [Nat.succ_mul] at this
      exact this
    have r1 := Xi.roomAbove (a := 1) (b := k.toNatClampNeg) (by omega) (by omega)
    have hv := cn_mk_vm cA cy n.toNatClampNeg k.toNatClampNeg (defaultValue ty) T x
    generalize hU : cn_mk cA cy n.toNatClampNeg k.toNatClampNeg (defaultValue ty) T x = U at *
    have hz : U.heap.size = T.heap.size + 1 + x := by rw [← hU, cn_mk_size]
    have ho : U.heap[T.heap.size]? = some (arrV cA n.toNatClampNeg (cn_out T.heap.size x)) := by rw [← hU, cn_mk_out]
    rw [wp_bind', multianewarray.make]
    simp only [wp_bind', W.ite, hk, if_false, wp_pure', W.theClass, State.vm_setTop, hv, hC, hkC, Option.some.injEq, exists_eq_left']
    refine W.newArray_of (k := kC) (comp := cc) (type := ty) (by rw [State.vm_setTop, hv]; exact hC) hkC hl2 hh2 (by show U.heap.size < _; omega) (by show U.slotsUsed + _ ≤ _; exact r1.2) hdf (fun acts'' => ?_)
    rw [arrV_new]
    simp only [wp_bind', W.writeLoc, wp_pure']
    refine ⟨arrV cA n.toNatClampNeg (cn_out T.heap.size x), ?_, (fun h => by cases h), by rw [arrV_size]; exact hlt, ?_, hnext _ _ _ ⟨x + 1, hlt, hrest, ?_⟩⟩
    · refine Eq.trans (State.heap_pushCell_of_lt _ _ ?_) ho
      show T.heap.size < U.heap.size
      rw [hz]
      exact cn_a1 _ _
    · simp [arrV, State.fitsSlot, State.slotType?, hv, hA, hkA, fits]
    · rw [arrV_store]
      show _ = State.setTop (State.setCell ((cn_mk _ _ _ _ _ _ _).pushCell _) _ _) _
      rw [hU, ← cn_out_up, ← hz]
      simp only [State.heap_setTop, State.pushCell_setTop, State.setCell_setTop]
  · rintro s' d' acts' ⟨i, hi, hl, rfl⟩
    have hiN : i = n.toNatClampNeg := by
      rcases Nat.lt_or_ge i n.toNatClampNeg with h | h
      · rw [show n.toNatClampNeg - i = (n.toNatClampNeg - (i + 1)) + 1 from by omega, List.range'_succ] at hl
        cases hl
      · omega
    subst hiN
    simp only [wp_pure']
    exact hq _ _
end CNM
section CNW
variable {p : Program} {l : Launch} {e : Env} {R : Room} {s : State} {m : MethodId} {args : Array Value} {below : List Frame} {meth : Method} {c : Code} {T : State} {locs : List Loc} {cells slots : Nat} {H : Heap} {Q : State → Prop}
/-- what the tables say of T[][]: its class's component is the class of T[] -/
def cn_A2 (U : State) (cA cy : ClassId) (ty : FieldType) : Prop := (∃ kA, U.vm.classes[cA]? = some kA ∧ kA.kind = .array cy (.array ty)) ∧ U.vm.findClass ("[" ++ (FieldType.array ty).toString) = some cA
theorem cn_A2.moved {u U : State} {cA cy : ClassId} {ty : FieldType} (hvm : u.vm.Alike U.vm) (h : cn_A2 u cA cy ty) : cn_A2 U cA cy ty := by
  obtain ⟨⟨k, h1, h2⟩, h3⟩ := h
  obtain ⟨k', hk', he⟩ := hvm.2.2 _ _ h1
  exact ⟨⟨k', hk', by rw [he]; exact h2⟩, by rw [hvm.findClass]; exact h3⟩
theorem cn_mna {cc : ByteArray} {pc : Nat} {ls : Array Slot} {rest : List Value} (hexec : p.tables.exec = Jvm.exec) (hb : c.code = cc) {own : String} {index : Nat} {ty : FieldType} {cA cy : ClassId} (hown : s.vm.findClass own = some m.cls) (hclink : (Cond.classLink own index ("[" ++ (FieldType.array ty).toString)).before args s = true) (hA2 : cn_A2 s cA cy ty) (hcy : ∃ kC cd, s.vm.classes[cy]? = some kC ∧ kC.kind = .array cd ty)
    {n k : Int32} {N K : Nat} (hn : ¬ n < 0) (hk : ¬ k < 0) (hN : n.toNatClampNeg = N) (hM : k.toNatClampNeg = K) (hb1 : N * 4 ≤ 536870912) (hb2 : K * componentBytes ty ≤ 536870912) (hb3 : K ≤ 536870912) (hdf : fits ty (defaultValue ty) = true) (hcells : cells + (1 + N) ≤ R.cells) (hslots : slots + (N + N * K) ≤ R.slots) (hdg : decode cc pc = .ok (.multianewarray index 2, 4))
    (kk : ∀ H1 : Heap, H1.size = H.size + 1 + N → (∀ q, q < H.size → H1[q]? = H[q]?) → H1[H.size]? = some (arrV cA N (cn_out H.size N)) → (∀ j, j < N → H1[H.size + 1 + j]? = some (arrV cy K (fun _ => defaultValue ty))) → W p l e R s m args below meth c H1 locs (cells + 1 + N) (slots + N + N * K) Q (F0 m (pc + 4) ls (.ref H.size :: rest))) : W p l e R s m args below meth c H locs cells slots Q (F0 m pc ls (.int k :: .int n :: rest)) := by
  subst hN
  subst hM
  subst hb
  intro T hT X
  subst hT
  have hpl : e.platform.magicAccessors = ({} : Platform).magicAccessors := by rw [X.admits.platform]
  obtain ⟨⟨kA, hkA, hkindA⟩, hnameA⟩ := hA2
  obtain ⟨kC, cd, hkC, hkindC⟩ := hcy
  obtain ⟨c0, hfc0, hcl⟩ := Cond.classLink_spec hown hclink e.platform hpl
  cases hnameA.symm.trans hfc0
  obtain ⟨hg₁, hwarm₁, hready₁⟩ := State.classEntry (e := e) X.warmed hcl
  generalize T.vm.noted m.cls index (.cls cA) = vm₁ at hg₁ hwarm₁ hready₁
  have hal : s.vm.Alike vm₁ := hwarm₁.alike
  obtain ⟨kA₁, hkA₁, heA⟩ := hal.2.2 _ _ hkA
  obtain ⟨kC₁, hkC₁, heC⟩ := hal.2.2 _ _ hkC
  have hkindA₁ : kA₁.kind = .array cy (.array ty) := by rw [heA]; exact hkindA
  have hkindC₁ : kC₁.kind = .array cd ty := by rw [heC]; exact hkindC
  have X₁ := X.noted hwarm₁
  have XF := cn_stand X₁ cA cy n.toNatClampNeg k.toNatClampNeg (defaultValue ty) n.toNatClampNeg
  obtain ⟨t, a1, b1⟩ := kk (cn_mk cA cy n.toNatClampNeg k.toNatClampNeg (defaultValue ty) (T.setVm vm₁) n.toNatClampNeg).heap (cn_mk_size _ _ _ _ _ (T.setVm vm₁) _) (fun q hq => cn_mk_old _ _ _ _ _ (T.setVm vm₁) hq _) (cn_mk_out _ _ _ _ _ (T.setVm vm₁) _) (fun j hj => cn_mk_row _ _ _ _ _ (T.setVm vm₁) _ hj) _ rfl XF
  refine ⟨t, ?_, b1⟩
  jvm_step X.here [hexec, hdg]
  simp only [multianewarray.sem, wp_bind', W.resolveClassAt_links (t := T.setTop (F0 m pc ls (.int k :: .int n :: rest))) (State.method?_setTop (F0 m pc ls (.int k :: .int n :: rest)) X.here.top) hg₁]
  rw [W.popN, if_neg (by decide)]
  refine ⟨F0 m pc ls (.int k :: .int n :: rest), State.topJava?_setTop' (s := T.setVm vm₁) _ X.here.top, [.int n, .int k], rest, rfl, rfl, ?_⟩
  simp only [List.mapM_cons, List.mapM_nil, wp_bind', wp_pure']
  have eS : ((T.setTop (F0 m pc ls (.int k :: .int n :: rest))).setVm vm₁).setTop (F0 m pc ls rest) = (T.setVm vm₁).setTop (F0 m pc ls rest) := by
    show ((T.setVm vm₁).setTop _).setTop _ = _
    rw [State.setTop_setTop]
  show wp _ _ _ _ _ _ (State.setTop (State.setVm (State.setTop _ _) _) (F0 m pc ls rest))
  rw [eS]
  refine cn_wp (kA := kA₁) (kC := kC₁) (cc := cd) X₁ (F0 m pc ls rest) hkA₁ hkindA₁ hkC₁ hkindC₁ hn hk hb1 hb2 hb3 hdf hcells hslots (fun d' acts' => ?_)
  simp only [wp_bind', W.mark, W.pushRef, State.topJava?_setTop' _ XF.here.top, Option.some.injEq, exists_eq_left', State.setTop_setTop, State.heap_setTop]
  intro acts
  simp [jvm, XF.here.top]
  exact a1
end CNW
