section CNP
variable {p : Program} {l : Launch} {e : Env} {R : Room} {s : State} {m : MethodId} {args : Array Value} {below : List Frame} {meth : Method} {c : Code} {H : Heap} {locs : List Loc} {cells slots : Nat} {Q : State → Prop}
variable {ca : Nat → ClassId} {D : va_G} {A : Nat → Prop} {pc : Nat} {ls : Array Slot} {rest : List Value} {ws : va_W} {M : mx_M} {h0 d mc ms : Nat}
/-- what holds all along a constructor's body -/
def cn_fx (p : Program) (s : State) (m : MethodId) (args : Array Value) (meth : Method) (c : Code) (ca : Nat → ClassId) (D : va_G) (M : mx_M) : Prop := cn_cx p s m args c ca D M.2.2.1 M.2.2.2.1 (mx_cS M.1) ∧ meth.sig.returnType = none ∧ meth.locks = false ∧ meth.name = "<init>"
theorem cn_intro {n : Nat} (ok : cn_okI M n) {fs as : List Value} {B : Nat → va_W → Prop} (hlen : ∀ h0, (lg_sl (.ref h0 :: as)).length ≤ M.2.2.2.1)
    (body : ∀ (h0 : Nat) (p : Program) (e : Env) (s : State) (m : MethodId) (args : Array Value) (below : List Frame) (meth : Method) (c : Code) (ls : Array Slot), cn_fx p s m args meth c ca D M → lv_has ls M.2.2.2.1 (lv_args 0 (.ref h0 :: as)) → cn_St D (cn_A h0 s.heap.size) s.heap [(h0, .inr (M.1, fs))] s.heap [] → W p l e (cn_rm d mc ms) s m args below meth c s.heap [] 0 0 (MQ below (cn_Qc D h0 s.heap.size (B h0)) args s mc ms (cn_A h0 s.heap.size)) (F0 m 0 ls [])) : cn_Met l D ca M d mc ms fs as B := by
  intro h0 sz
  obtain ⟨⟨o1, o2, o3, o4, o5, o6, o7⟩, p1, p2, p3, p4, p5⟩ := ok
  refine Met.ofW (cc := M.2.2.1) (maxL := M.2.2.2.1) (ret := none) o3 (by rw [mx_w, p5]) ?_
  intro p e s m args below meth c s₁ B0 hml hv
  obtain ⟨rfl, hsz, hP, hK⟩ := hv
  subst hsz
  have hts := atoms_spec (ws := mx_w M) B0.pre
  have hown : s.vm.findClass M.2.1.cls = some m.cls := findClass_of_methodNamed B0.named
  rw [o6] at hown
  have hl := lv_entry (.ref h0 :: as) (n := M.2.2.2.1) (hlen h0)
  rw [lg_entry_eq]
  generalize (lg_sl (.ref h0 :: as) ++ List.replicate (M.2.2.2.1 - (lg_sl (.ref h0 :: as)).length) Slot.unset).toArray = ls at hl ⊢
  refine body h0 p e s m _ below meth c ls ⟨⟨B0.exec, B0.bytes, hml, hown, fun w hw => hts w (List.mem_cons_of_mem _ hw), hK⟩, B0.returns, B0.notSynchronized, ?_⟩ hl ⟨hP, ⟨fun i j x y hx hy _ => ?_, fun k x hx => ?_⟩, va_S.rf⟩
  · rw [← p2]
    exact (name_of_methodNamed B0.named B0.method).1
  · have h1 : i < 1 := (List.getElem?_eq_some_iff.mp hx).1
    have h2 : j < 1 := (List.getElem?_eq_some_iff.mp hy).1
    omega
  · have h1 : k < 1 := (List.getElem?_eq_some_iff.mp hx).1
    rw [show k = 0 by omega] at hx
    cases hx
    exact Or.inl rfl
theorem cn_ret {B : va_W → Prop} (F : cn_fx p s m args meth c ca D M) (hc : cells ≤ mc) (hs : slots ≤ ms) (hdg : decode M.2.2.1 pc = .ok (.return_, 1)) (hw : cn_St D (cn_A h0 s.heap.size) s.heap ws H locs) (hB : B ws) : W p l e R s m args below meth c H locs cells slots (MQ below (cn_Qc D h0 s.heap.size B) args s mc ms (cn_A h0 s.heap.size)) (F0 m pc ls []) := by
  obtain ⟨⟨hx, hb, hml, hown, hts, hK⟩, hr, hlocks, hin⟩ := F
  refine W.widen (k := mc) (n := ms) hc hs ?_
  exact W.vret hx hb hr (fun t ht hW => ⟨rfl, ⟨ws, hB, by rw [ht]; exact hw.1, hw.2.1⟩, hw.2.2.F ht⟩) hw.2.2.2.2 hdg hlocks
theorem cn_obj (F : cn_fx p s m args meth c ca D M) {index : Nat} {a : Addr} (h1 : Cond.methodLink (mx_cS M.1) index objectInit ∈ mx_G) (hsz : ls.size = M.2.2.2.1) (hdg : decode M.2.2.1 pc = .ok (.invokespecial index, 3)) (kk : W p l e (cn_rm (d + 1) mc ms) s m args below meth c H locs cells slots Q (F0 m (pc + 3) ls [])) : W p l e (cn_rm (d + 1) mc ms) s m args below meth c H locs cells slots Q (F0 m pc ls [.ref a]) := by
  obtain ⟨⟨hx, hb, hml, hown, hts, hK⟩, hr, hlocks, hin⟩ := F
  have hroom := lv_room (m := m) (pc := pc) (ls := ls) (rest := [.ref a]) (st := []) (Nat.zero_le _)
  refine W.objInit hx hb hown (hts _ h1) (hts _ (mx_inG (mx_at 19 (by decide +kernel)) rfl)) (hts _ (mx_inG (mx_at 20 (by decide +kernel)) rfl)) rfl (by rw [hml]; exact hsz) rfl hdg (by show 1 ≤ d + 1; omega) ?_ kk
  show 2 * _ + _ + 12 ≤ 40 * (d + 1)
  omega
theorem cn_put (F : cn_fx p s m args meth c ca D M) (hM : M.1 < 8) {index k : Nat} (hf : mx_fT M.1 index = some (M.1, k)) (hdecl : (mx_cT M.1 k).1 = mx_cS M.1) {v : Value} {fs : List Value} {Rw : va_W} (hn : narrow (mx_cY M.1 k) v = v) (hfit : fits (mx_cY M.1 k) v = true) (hl : k < fs.length) (hdg : decode M.2.2.1 pc = .ok (.putfield index, 3)) (hw : cn_St D A s.heap ((h0, .inr (M.1, fs)) :: Rw) H locs)
    (kk : ∀ (H1 : Heap) (locs1 : List Loc), cn_St D A s.heap ((h0, .inr (M.1, fs.set k v)) :: Rw) H1 locs1 → W p l e R s m args below meth c H1 locs1 cells slots Q (F0 m (pc + 3) ls rest)) : W p l e R s m args below meth c H locs cells slots Q (F0 m pc ls (v :: .ref h0 :: rest)) := by
  obtain ⟨⟨hx, hb, hml, hown, hts, hK⟩, hr, hlocks, hin⟩ := F
  obtain ⟨hP, hD, hS⟩ := hw
  obtain ⟨f1, f2, f3⟩ := mx_fT_ok hf
  have hT := mx_inT M.1 hM
  have hI := mx_inF M.1 hM
  cases hfin : (mx_cT M.1 k).2.2.2 with
  | false => exact va_put (C := mx_cS M.1) (T := mx_cT M.1) (N := mx_nF M.1) (ci := M.1) hx hb hts (mx_layG hM) (mx_cY M.1) hI.1 hI.2 hown hK.1 hP hD hS 0 rfl hT.1 k f3 (hts _ f1) (fun x hx => hx) hfin (hI.1 k f3) hn hfit hl hdg (fun H1 locs1 hP hD hS => kk H1 locs1 ⟨hP, hD, hS⟩)
  | true => exact va_putF (C := mx_cS M.1) (T := mx_cT M.1) (N := mx_nF M.1) (ci := M.1) hx hb hts (mx_layG hM) (mx_cY M.1) hI.1 hI.2 hown hK.1 hP hD hS 0 rfl hT.1 k f3 (hts _ f1) (fun x hx => hx) hfin hin hdecl (hI.1 k f3) hn hfit hl hdg (fun H1 locs1 hP hD hS => kk H1 locs1 ⟨hP, hD, hS⟩)
end CNP
/-! ===== the leaves' constructors ===== -/
def cn_z (n : Nat) : List Value := List.replicate n (.int 0)
section CNL
variable {l : Launch} {D : va_G} {ca : Nat → ClassId}
theorem c_X0 : cn_Met l D ca m_X0_init 1 0 0 (cn_z 10) [] (fun h0 w1 => w1 = [(h0, .inr (0, cn_z 10))]) := by
  refine cn_intro ck_X0 (fun _ => Nat.le_of_ble_eq_true rfl) ?_
  intro h0 p e s m args below meth c ls F hl hw
  obtain ⟨hx, hb, -⟩ := F.1
  have hl : lv_has ls 1 [(0, .ref h0)] := hl
  refine lv_aload_n hx hb dX0_init_0 rfl (lv_at hl 0 rfl) ?_
  refine cn_obj F (index := 3) (mx_inG (mx_at 77 (by decide +kernel)) rfl) hl.1 dX0_init_1 ?_
  exact cn_ret F (Nat.le_refl _) (Nat.le_refl _) dX0_init_4 hw rfl
theorem c_X1 (n : Nat) (hn : n < 100) : cn_Met l D ca m_X1_init 1 2 (n + n) [.null, .null, .int 0] [.int (nI n)] (fun h0 w1 => ∃ (q1 q2 : Nat), w1 = [(h0, .inr (1, [.ref q1, .ref q2, .int 0])), (q1, .inl (ca 8, n, .inl (fun _ => 0))), (q2, .inl (ca 8, n, .inl (fun _ => 0)))]) := by
  refine cn_intro ck_X1 (fun _ => Nat.le_of_ble_eq_true rfl) ?_
  intro h0 p e s m args below meth c ls F hl hw
  obtain ⟨hx, hb, -⟩ := F.1
  have hA : ∀ q, s.heap.size ≤ q → cn_A h0 s.heap.size q := fun q h => Or.inr h
  have hl : lv_has ls 2 [(0, .ref h0), (1, .int (nI n))] := hl
  have e1 : ¬ nI n < 0 := by rw [l32, nI_toInt (by omega)]; show ¬ (n : Int) < 0; omega
  have e2 : (nI n).toNatClampNeg = n := clN (by omega)
  refine lv_aload_n hx hb dX1_init_0 rfl (lv_at hl 0 rfl) ?_
  refine cn_obj F (index := 1) (mx_inG (mx_at 58 (by decide +kernel)) rfl) hl.1 dX1_init_1 ?_
  refine lv_aload_n hx hb dX1_init_4 rfl (lv_at hl 0 rfl) ?_
  refine lv_iload_n hx hb dX1_init_5 rfl (lv_at hl 1 rfl) ?_
  refine cn_newa F.1 hA (atype := .int) (ty := .int) (k := 8) (t0 := 0) rfl rfl (fun _ h => h) (mx_inG (mx_at 52 (by decide +kernel)) rfl) (N := n) (a0 := (n, .inl (fun _ => 0))) (fun _ => rfl) e1 e2 (by show n * 4 ≤ _; omega) (Nat.le_of_ble_eq_true rfl) (by show 0 + n ≤ n + n; omega) dX1_init_6 hw (fun q1 H hw => ?_)
  refine cn_put F (by decide) (k := 0) (by decide +kernel) rfl rfl rfl (Nat.le_of_ble_eq_true rfl) dX1_init_8 hw (fun H locs hw => ?_)
  refine lv_aload_n hx hb dX1_init_11 rfl (lv_at hl 0 rfl) ?_
  refine lv_iload_n hx hb dX1_init_12 rfl (lv_at hl 1 rfl) ?_
  refine cn_newa F.1 hA (atype := .int) (ty := .int) (k := 8) (t0 := 0) rfl rfl (fun _ h => h) (mx_inG (mx_at 52 (by decide +kernel)) rfl) (N := n) (a0 := (n, .inl (fun _ => 0))) (fun _ => rfl) e1 e2 (by show n * 4 ≤ _; omega) (Nat.le_of_ble_eq_true rfl) (by show 0 + n + n ≤ n + n; omega) dX1_init_13 hw (fun q2 H hw => ?_)
  refine cn_put F (by decide) (k := 1) (by decide +kernel) rfl rfl rfl (Nat.le_of_ble_eq_true rfl) dX1_init_15 hw (fun H locs hw => ?_)
  exact cn_ret F (Nat.le_of_ble_eq_true rfl) (by omega) dX1_init_18 hw ⟨q1, q2, rfl⟩
theorem c_X3 : cn_Met l D ca m_X3_init 1 8 48 [.int 0, .int 0, .int 0, .null, .null] [] (fun h0 w1 => ∃ (q1 q8 : Nat) (r : Nat → Nat), w1 = (h0, .inr (3, [.int 0, .int 0, .int 0, .ref q1, .ref q8])) :: (((q1, .inl (ca 12, 6, .inr (.inr (.inr (.inr (fun j => if j < 6 then some (r j) else none)))))) :: (List.range 6).map (fun j => (r j, .inl (ca 8, 6, .inl (fun _ => 0))))) ++ [(q8, .inl (ca 8, 6, .inl (fun _ => 0)))])) := by
  refine cn_intro ck_X3 (fun _ => Nat.le_of_ble_eq_true rfl) ?_
  intro h0 p e s m args below meth c ls F hl hw
  obtain ⟨hx, hb, hml, hown, hts, hK⟩ := id F.1
  have hA : ∀ q, s.heap.size ≤ q → cn_A h0 s.heap.size q := fun q h => Or.inr h
  have hl : lv_has ls 1 [(0, .ref h0)] := hl
  refine lv_aload_n hx hb dX3_init_0 rfl (lv_at hl 0 rfl) ?_
  refine cn_obj F (index := 3) (mx_inG (mx_at 26 (by decide +kernel)) rfl) hl.1 dX3_init_1 ?_
  refine lv_aload_n hx hb dX3_init_4 rfl (lv_at hl 0 rfl) ?_
  refine lv_bipush (v := 6) hx hb dX3_init_5 (by decide) ?_
  refine lv_bipush (v := 6) hx hb dX3_init_7 (by decide) ?_
  refine cn_newm F.1 hA (kA := 12) (ky := 8) (t0 := 0) rfl hK.2.1 (mx_inG (mx_at 27 (by decide +kernel)) rfl) (N := 6) (K := 6) (a0 := (6, .inl (fun _ => 0))) rfl (by decide) (by decide) rfl rfl (by decide) (by decide) (by decide) rfl (Nat.le_of_ble_eq_true rfl) (Nat.le_of_ble_eq_true rfl) dX3_init_9 hw (fun q1 r H hw => ?_)
  refine cn_put F (by decide) (k := 3) (by decide +kernel) rfl rfl rfl (Nat.le_of_ble_eq_true rfl) dX3_init_13 hw (fun H locs hw => ?_)
  refine lv_aload_n hx hb dX3_init_16 rfl (lv_at hl 0 rfl) ?_
  refine lv_bipush (v := 6) hx hb dX3_init_17 (by decide) ?_
  refine cn_newa F.1 hA (atype := .int) (ty := .int) (k := 8) (t0 := 0) rfl rfl (fun _ h => h) (mx_inG (mx_at 52 (by decide +kernel)) rfl) (N := 6) (a0 := (6, .inl (fun _ => 0))) (fun _ => rfl) (by decide) rfl (by decide) (Nat.le_of_ble_eq_true rfl) (Nat.le_of_ble_eq_true rfl) dX3_init_19 hw (fun q8 H hw => ?_)
  refine cn_put F (by decide) (k := 4) (by decide +kernel) rfl rfl rfl (Nat.le_of_ble_eq_true rfl) dX3_init_21 hw (fun H locs hw => ?_)
  exact cn_ret F (Nat.le_of_ble_eq_true rfl) (Nat.le_of_ble_eq_true rfl) dX3_init_24 hw ⟨q1, q8, r, rfl⟩
theorem c_X4 : cn_Met l D ca m_X4_init 1 1 60 [.null, .int 0, .int 0] [] (fun h0 w1 => ∃ (q1 : Nat), w1 = [(h0, .inr (4, [.ref q1, .int (-1), .int 0])), (q1, .inl (ca 11, 60, .inr (.inl (fun _ => 0))))]) := by
  refine cn_intro ck_X4 (fun _ => Nat.le_of_ble_eq_true rfl) ?_
  intro h0 p e s m args below meth c ls F hl hw
  obtain ⟨hx, hb, -⟩ := F.1
  have hA : ∀ q, s.heap.size ≤ q → cn_A h0 s.heap.size q := fun q h => Or.inr h
  have hl : lv_has ls 1 [(0, .ref h0)] := hl
  refine lv_aload_n hx hb dX4_init_0 rfl (lv_at hl 0 rfl) ?_
  refine cn_obj F (index := 1) (mx_inG (mx_at 180 (by decide +kernel)) rfl) hl.1 dX4_init_1 ?_
  refine lv_aload_n hx hb dX4_init_4 rfl (lv_at hl 0 rfl) ?_
  refine lv_bipush (v := 60) hx hb dX4_init_5 (by decide) ?_
  refine cn_newa F.1 hA (atype := .long) (ty := .long) (k := 11) (t0 := 3) rfl rfl (fun _ h => h) (mx_inG (mx_at 193 (by decide +kernel)) rfl) (N := 60) (a0 := (60, .inr (.inl (fun _ => 0)))) (fun _ => rfl) (by decide) rfl (by decide) (Nat.le_of_ble_eq_true rfl) (Nat.le_of_ble_eq_true rfl) dX4_init_7 hw (fun q1 H hw => ?_)
  refine cn_put F (by decide) (k := 0) (by decide +kernel) rfl rfl rfl (Nat.le_of_ble_eq_true rfl) dX4_init_9 hw (fun H locs hw => ?_)
  refine lv_aload_n hx hb dX4_init_12 rfl (lv_at hl 0 rfl) ?_
  refine lv_iconst (v := -1) hx hb dX4_init_13 (by decide) ?_
  refine cn_put F (by decide) (k := 1) (by decide +kernel) rfl rfl rfl (Nat.le_of_ble_eq_true rfl) dX4_init_14 hw (fun H locs hw => ?_)
  exact cn_ret F (Nat.le_of_ble_eq_true rfl) (Nat.le_of_ble_eq_true rfl) dX4_init_17 hw ⟨q1, rfl⟩
theorem c_X5 : cn_Met l D ca m_X5_init 1 14 160 [.null, .null, .int 0, .int 0, .int 0] [] (fun h0 w1 => ∃ (q1 q2 : Nat) (r : Nat → Nat), w1 = (h0, .inr (5, [.ref q1, .ref q2, .int 0, .int 0, .int 0])) :: (q1, .inl (ca 9, 100, .inl (fun _ => 0))) :: (q2, .inl (ca 12, 12, .inr (.inr (.inr (.inr (fun j => if j < 12 then some (r j) else none)))))) :: (List.range 12).map (fun j => (r j, .inl (ca 8, 4, .inl (fun _ => 0))))) := by
  refine cn_intro ck_X5 (fun _ => Nat.le_of_ble_eq_true rfl) ?_
  intro h0 p e s m args below meth c ls F hl hw
  obtain ⟨hx, hb, hml, hown, hts, hK⟩ := id F.1
  have hA : ∀ q, s.heap.size ≤ q → cn_A h0 s.heap.size q := fun q h => Or.inr h
  have hl : lv_has ls 1 [(0, .ref h0)] := hl
  refine lv_aload_n hx hb dX5_init_0 rfl (lv_at hl 0 rfl) ?_
  refine cn_obj F (index := 1) (mx_inG (mx_at 151 (by decide +kernel)) rfl) hl.1 dX5_init_1 ?_
  refine lv_aload_n hx hb dX5_init_4 rfl (lv_at hl 0 rfl) ?_
  refine lv_bipush (v := 100) hx hb dX5_init_5 (by decide) ?_
  refine cn_newa F.1 hA (atype := .byte) (ty := .byte) (k := 9) (t0 := 1) rfl rfl (fun _ h => h) (mx_inG (mx_at 173 (by decide +kernel)) rfl) (N := 100) (a0 := (100, .inl (fun _ => 0))) (fun _ => rfl) (by decide) rfl (by decide) (Nat.le_of_ble_eq_true rfl) (Nat.le_of_ble_eq_true rfl) dX5_init_7 hw (fun q1 H hw => ?_)
  refine cn_put F (by decide) (k := 0) (by decide +kernel) rfl rfl rfl (Nat.le_of_ble_eq_true rfl) dX5_init_9 hw (fun H locs hw => ?_)
  refine lv_aload_n hx hb dX5_init_12 rfl (lv_at hl 0 rfl) ?_
  refine lv_bipush (v := 12) hx hb dX5_init_13 (by decide) ?_
  refine lv_iconst (v := 4) hx hb dX5_init_15 (by decide) ?_
  refine cn_newm F.1 hA (kA := 12) (ky := 8) (t0 := 0) rfl hK.2.1 (mx_inG (mx_at 152 (by decide +kernel)) rfl) (N := 12) (K := 4) (a0 := (4, .inl (fun _ => 0))) rfl (by decide) (by decide) rfl rfl (by decide) (by decide) (by decide) rfl (Nat.le_of_ble_eq_true rfl) (Nat.le_of_ble_eq_true rfl) dX5_init_16 hw (fun q2 r H hw => ?_)
  refine cn_put F (by decide) (k := 1) (by decide +kernel) rfl rfl rfl (Nat.le_of_ble_eq_true rfl) dX5_init_20 hw (fun H locs hw => ?_)
  exact cn_ret F (Nat.le_of_ble_eq_true rfl) (Nat.le_of_ble_eq_true rfl) dX5_init_23 hw ⟨q1, q2, r, rfl⟩
end CNL
