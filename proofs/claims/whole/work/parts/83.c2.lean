/-! ===== constructors: what all of them share ===== -/
def m_X0_init : mx_M := (0, yX0_init, cX0_init, 1, none)
def m_X1_init : mx_M := (1, yX1_init, cX1_init, 2, none)
def m_X2_init : mx_M := (2, yX2_init, cX2_init, 2, none)
def m_X3_init : mx_M := (3, yX3_init, cX3_init, 1, none)
def m_X4_init : mx_M := (4, yX4_init, cX4_init, 1, none)
def m_X5_init : mx_M := (5, yX5_init, cX5_init, 1, none)
def m_X6_init : mx_M := (6, yX6_init, cX6_init, 2, none)
def m_X7_init : mx_M := (7, yX7_init, cX7_init, 1, none)
/-- a constructor: its words stand in the tables -/
def cn_okI (M : mx_M) (n : Nat) : Prop := mx_okM M ∧ Cond.instanceMethod M.2.1 ∈ lw_tbl ∧ M.2.1.name = "<init>" ∧ (parseMethodDescriptor M.2.1.desc).map (fun d => d.parameters.length) = some n ∧ M.1 < 8 ∧ M.2.2.2.2 = none
theorem ck_X0 : cn_okI m_X0_init 0 := ⟨⟨mx_at 76 (by decide +kernel), mx_at 4 (by decide +kernel), by decide +kernel, by decide +kernel, by decide +kernel, by decide +kernel, by decide⟩, mx_at 75 (by decide +kernel), rfl, by decide +kernel, by decide, rfl⟩
theorem ck_X1 : cn_okI m_X1_init 1 := ⟨⟨mx_at 57 (by decide +kernel), mx_at 3 (by decide +kernel), by decide +kernel, by decide +kernel, by decide +kernel, by decide +kernel, by decide⟩, mx_at 56 (by decide +kernel), rfl, by decide +kernel, by decide, rfl⟩
theorem ck_X2 : cn_okI m_X2_init 0 := ⟨⟨mx_at 116 (by decide +kernel), mx_at 5 (by decide +kernel), by decide +kernel, by decide +kernel, by decide +kernel, by decide +kernel, by decide⟩, mx_at 115 (by decide +kernel), rfl, by decide +kernel, by decide, rfl⟩
theorem ck_X3 : cn_okI m_X3_init 0 := ⟨⟨mx_at 25 (by decide +kernel), mx_at 2 (by decide +kernel), by decide +kernel, by decide +kernel, by decide +kernel, by decide +kernel, by decide⟩, mx_at 24 (by decide +kernel), rfl, by decide +kernel, by decide, rfl⟩
theorem ck_X4 : cn_okI m_X4_init 0 := ⟨⟨mx_at 179 (by decide +kernel), mx_at 7 (by decide +kernel), by decide +kernel, by decide +kernel, by decide +kernel, by decide +kernel, by decide⟩, mx_at 178 (by decide +kernel), rfl, by decide +kernel, by decide, rfl⟩
theorem ck_X5 : cn_okI m_X5_init 0 := ⟨⟨mx_at 150 (by decide +kernel), mx_at 6 (by decide +kernel), by decide +kernel, by decide +kernel, by decide +kernel, by decide +kernel, by decide⟩, mx_at 149 (by decide +kernel), rfl, by decide +kernel, by decide, rfl⟩
theorem ck_X6 : cn_okI m_X6_init 0 := ⟨⟨mx_at 17 (by decide +kernel), mx_at 1 (by decide +kernel), by decide +kernel, by decide +kernel, by decide +kernel, by decide +kernel, by decide⟩, mx_at 16 (by decide +kernel), rfl, by decide +kernel, by decide, rfl⟩
theorem ck_X7 : cn_okI m_X7_init 0 := ⟨⟨mx_at 609 (by decide +kernel), mx_at 8 (by decide +kernel), by decide +kernel, by decide +kernel, by decide +kernel, by decide +kernel, by decide⟩, mx_at 608 (by decide +kernel), rfl, by decide +kernel, by decide, rfl⟩
/-- what no list of words may hold: classes, arrays over classes, links of nest mates -/
def cn_K (D : va_G) (ca : Nat → ClassId) (U : State) : Prop := va_K D vwCl (mx_tys ca) U ∧ cn_A2 U (ca 12) (ca 8) .int ∧ cn_A2 U (ca 15) (ca 11) .long ∧ va_AO RX0 U ∧ va_AO RX4 U ∧ va_Nw (.methodLinkNest RX6 11 yX3_init RX6) U ∧ va_Nw (.methodLinkNest RX6 54 yX0_init RX6) U ∧ va_Nw (.methodLinkNest RX2 28 yX0_init RX6) U ∧ va_Nw (.methodLinkNest RX6 68 yX5_init RX6) U ∧ va_Nw (.methodLinkNest RX6 79 yX4_init RX6) U
theorem cn_K.warm {D : va_G} {ca : Nat → ClassId} {s U : State} (hW : s.WarmedH U.vm) (h : cn_K D ca s) : cn_K D ca U := by
  obtain ⟨h1, h2, h3, h4, h5, h6, h7, h8, h9, h10⟩ := h
  exact ⟨va_K.moved hW.alike h1, h2.moved hW.alike, h3.moved hW.alike, va_AO.moved hW.alike h4, va_AO.moved hW.alike h5, va_Nw.warmM hW h6, va_Nw.warmM hW h7, va_Nw.warmM hW h8, va_Nw.warmM hW h9, va_Nw.warmM hW h10⟩
theorem cn_K.call {D : va_G} {ca : Nat → ClassId} {U : State} {g : JFrame} {mk : MethodId} {a : Array Value} (h : cn_K D ca U) : cn_K D ca (U.calling g mk a) := by
  obtain ⟨h1, h2, h3, h4, h5, h6, h7, h8, h9, h10⟩ := h
  have hv : U.vm.Alike (U.calling g mk a).vm := Vm.Alike.refl U.vm
  exact ⟨va_K.moved hv h1, h2.moved hv, h3.moved hv, va_AO.moved hv h4, va_AO.moved hv h5, va_Nw.same rfl (u := U) rfl h6, va_Nw.same rfl (u := U) rfl h7, va_Nw.same rfl (u := U) rfl h8, va_Nw.same rfl (u := U) rfl h9, va_Nw.same rfl (u := U) rfl h10⟩
/-- which cells a constructor may change: its object's, and those that it makes -/
def cn_A (h0 sz : Nat) : Nat → Prop := fun q => q = h0 ∨ sz ≤ q
def cn_rm (d mc ms : Nat) : Room := { frames := d, cells := mc, slots := ms, locals := 40 * d }
def cn_Pc (D : va_G) (ca : Nat → ClassId) (h0 sz c : Nat) (fs as : List Value) : Array Value → State → Prop := fun v U => v = (Value.ref h0 :: as).toArray ∧ U.heap.size = sz ∧ va_P D vwCl [(h0, .inr (c, fs))] U.heap ∧ cn_K D ca U
def cn_Qc (D : va_G) (h0 sz : Nat) (B : va_W → Prop) : Array Value → State → Outcome → State → Prop := fun _ st o t => o = .returned none ∧ (∃ w1, B w1 ∧ va_P D vwCl w1 t.heap ∧ va_D (cn_A h0 sz) w1) ∧ va_F (cn_A h0 sz) st t
/-- a constructor's contract: of the new object's cell it makes the cells that B says; all else stays -/
def cn_Met (l : Launch) (D : va_G) (ca : Nat → ClassId) (M : mx_M) (d mc ms : Nat) (fs as : List Value) (B : Nat → va_W → Prop) : Prop := ∀ h0 sz, Met l M.2.1 (mx_w M) (cn_rm d mc ms) (cn_Pc D ca h0 sz M.1 fs as) (cn_Qc D h0 sz (B h0)) mc ms (cn_A h0 sz)
theorem cn_blind {D : va_G} {ca : Nat → ClassId} {h0 sz c : Nat} {fs as : List Value} : FrameBlind (cn_Pc D ca h0 sz c fs as) := by
  intro a U g mk q
  obtain ⟨q0, q1, qP, qK⟩ := q
  exact ⟨q0, q1, qP, qK.call⟩
/-- the world, apart, and nothing else changed -/
def cn_St (D : va_G) (A : Nat → Prop) (H0 : Heap) (ws : va_W) (H : Heap) (locs : List Loc) : Prop := va_P D vwCl ws H ∧ va_D A ws ∧ va_S A H0 H locs
theorem cn_join {D : va_G} {A : Nat → Prop} {H0 H H1 : Heap} {ws w1 : va_W} {q : Nat} {x : va_E} {locs locs1 : List Loc} (hA : ∀ q, H0.size ≤ q → A q) (hw : cn_St D A H0 (ws ++ [(q, x)]) H locs) (hk : ∀ z : Nat, z < H.size → ¬ cn_A q H.size z → H1[z]? = H[z]?) (hS : va_S A H0 H1 locs1) (hP1 : va_P D vwCl w1 H1) (hD1 : va_D (cn_A q H.size) w1) : cn_St D A H0 (ws ++ w1) H1 locs1 := by
  obtain ⟨hP, hD, hS0⟩ := hw
  have hl : (ws ++ [(q, x)])[ws.length]? = some (q, x) := by simp
  have apart : ∀ (k : Nat) (z : Nat × va_E), ws[k]? = some z → (ws ++ [(q, x)])[k]? = some z ∧ z.1 < H.size ∧ ¬ cn_A q H.size z.1 := by
    intro k z hz
    have hk := (List.getElem?_eq_some_iff.mp hz).1
    have hz2 : (ws ++ [(q, x)])[k]? = some z := by rw [List.getElem?_append_left hk]; exact hz
    have hlt := (hP k z hz2).lt
    refine ⟨hz2, hlt, fun h => ?_⟩
    rcases h with h | h
    · have := hD.1 k ws.length z (q, x) hz2 hl h
      omega
    · omega
  refine ⟨va_P.app (fun k z hz => ?_) hP1, va_D.app ⟨fun i j a b ha hb e => hD.1 i j a b (apart i a ha).1 (apart j b hb).1 e, fun k z hz => hD.2 k z (apart k z hz).1⟩ (hD1.weaken (fun k z hz h => ?_)) (fun i j a b ha hb e => ?_), hS⟩
  · obtain ⟨a1, a2, a3⟩ := apart k z hz
    exact (hP k z a1).kept (hk z.1 a2 a3)
  · rcases h with h | h
    · rw [h]
      exact hD.2 ws.length (q, x) hl
    · exact hA _ (Nat.le_trans hS0.1 h)
  · exact (apart i a ha).2.2 (by rw [e]; exact hD1.2 j b hb)
section CNR
variable {p : Program} {l : Launch} {e : Env} {R : Room} {s : State} {m : MethodId} {args : Array Value} {below : List Frame} {meth : Method} {c : Code} {H : Heap} {locs : List Loc} {cells slots : Nat} {Q : State → Prop}
variable {ca : Nat → ClassId} {D : va_G} {A : Nat → Prop} {cc : ByteArray} {nL pc : Nat} {own : String} {ls : Array Slot} {rest : List Value} {ws : va_W} {H0 : Heap}
def cn_cx (p : Program) (s : State) (m : MethodId) (args : Array Value) (c : Code) (ca : Nat → ClassId) (D : va_G) (cc : ByteArray) (nL : Nat) (own : String) : Prop :=
  p.tables.exec = Jvm.exec ∧ c.code = cc ∧ c.maxLocals = nL ∧ s.vm.findClass own = some m.cls ∧ (∀ w ∈ mx_G, w.before args s = true) ∧ cn_K D ca s
/-- new -/
theorem cn_new (X : cn_cx p s m args c ca D cc nL own) (hA : ∀ q, H0.size ≤ q → A q) {ci index : Nat} (hci : ci < 8) (h1 : Cond.classLink own index (mx_cS ci) ∈ mx_G) (h2 : Cond.instantiable (mx_cS ci) (mx_nF ci) ∈ mx_G) (h3 : Cond.initialized (mx_cS ci) ∈ mx_G) {fs : List Value} (hfs : ∀ j, j < mx_nF ci → defaultValue (mx_cY ci j) = vp_V fs j)
    (hcells : cells + 1 ≤ R.cells) (hslots : slots + mx_nF ci ≤ R.slots) (hdg : decode cc pc = .ok (.new index, 3)) (hw : cn_St D A H0 ws H locs)
    (kk : ∀ (q : Nat) (H1 : Heap), cn_St D A H0 (ws ++ [(q, .inr (ci, fs))]) H1 locs → W p l e R s m args below meth c H1 locs (cells + 1) (slots + mx_nF ci) Q (F0 m (pc + 3) ls (.ref q :: rest))) : W p l e R s m args below meth c H locs cells slots Q (F0 m pc ls rest) := by
  obtain ⟨hx, hb, hml, hown, hts, hK⟩ := X
  obtain ⟨hP, hD, hS⟩ := hw
  exact va_new (ci := ci) (fs := fs) (C := mx_cS ci) (T := mx_cT ci) (N := mx_nF ci) hx hb hts (mx_layG hci) (mx_cY ci) (mx_inF ci hci).1 hown (hts _ h1) (hts _ h2) (hts _ h3) hK.1 hP hD hS hA (mx_inT ci hci).1 hfs hcells hslots hdg (fun q H1 hP hD hS => kk q H1 ⟨hP, hD, hS⟩)
theorem cn_cb {M' : mx_M} {index n d mc ms : Nat} (hts : ∀ w ∈ mx_G, w.before args s = true) (hl : Cond.methodLink own index M'.2.1 ∈ mx_G) (ok : cn_okI M' n) (hR : d + 1 ≤ R.frames ∧ 8 + (M'.2.2.2.1 + 11) + 40 * d ≤ R.locals) : CallB R s args own index M'.2.1 M'.2.2.1 M'.2.2.2.1 none (mx_w M') (cn_rm d mc ms) mc ms n ∧ M'.2.1.name = "<init>" ∧ (Cond.instanceMethod M'.2.1).before args s = true := by
  obtain ⟨⟨o1, o2, o3, o4, o5, o6, o7⟩, p1, p2, p3, p4, p5⟩ := ok
  refine ⟨callB_of n hts (mx_good (fun w hw => ?_)) (by rw [mx_w, p5]) rfl rfl (hts _ (mx_inG o2 rfl)) (hts _ hl) ⟨o4, o5, p3⟩ hR, p2, hts _ (mx_inG p1 rfl)⟩
  rcases List.mem_cons.mp hw with rfl | h
  · exact mx_inG o1 rfl
  · exact h
theorem cn_cbN {M' : mx_M} {host : String} {index n d mc ms : Nat} (hts : ∀ w ∈ mx_G, w.before args s = true) (hl : va_Nw (.methodLinkNest own index M'.2.1 host) s) (ok : cn_okI M' n) (hR : d + 1 ≤ R.frames ∧ 8 + (M'.2.2.2.1 + 11) + 40 * d ≤ R.locals) : va_CN R s args own index M'.2.1 host M'.2.2.1 M'.2.2.2.1 none (mx_w M') (cn_rm d mc ms) mc ms n ∧ M'.2.1.name = "<init>" ∧ (Cond.instanceMethod M'.2.1).before args s = true := by
  obtain ⟨⟨o1, o2, o3, o4, o5, o6, o7⟩, p1, p2, p3, p4, p5⟩ := ok
  refine ⟨va_cnB n hts (mx_good (fun w hw => ?_)) (by rw [mx_w, p5]) rfl rfl hl (hts _ (mx_inG o2 rfl)) ⟨o4, o5, p3⟩ hR, p2, hts _ (mx_inG p1 rfl)⟩
  rcases List.mem_cons.mp hw with rfl | h
  · exact mx_inG o1 rfl
  · exact h
theorem cn_goOn {q d mc ms n : Nat} {M' : mx_M} {fs as : List Value} {B : Nat → va_W → Prop} {st0 : List Value} {av : Array Value} (hA : ∀ q, H0.size ≤ q → A q) (hw : cn_St D A H0 (ws ++ [(q, .inr (M'.1, fs))]) H locs) (hr : va_Run p l e R s m args below meth c H locs cells slots mc ms (F0 m pc ls st0) rest (cn_Qc D q H.size (B q) av) (cn_A q H.size))
    (kk : ∀ (H1 : Heap) (locs1 : List Loc) (w1 : va_W), B q w1 → cn_St D A H0 (ws ++ w1) H1 locs1 → W p l e R s m args below meth c H1 locs1 (cells + mc) (slots + ms) Q (F0 m (pc + 3) ls rest)) : W p l e R s m args below meth c H locs cells slots Q (F0 m pc ls st0) := by
  intro T hT X
  obtain ⟨v, st₀, t, T', L, h0, X', hL, e1, e2, ⟨hv, ⟨w1, hB, hP1, hD1⟩, hz, hk⟩, st⟩ := hr T hT X
  cases hv
  rw [h0] at hz hk
  have hS := hw.2.2
  have hqA : A q := hw.2.1.2 ws.length (q, .inr (M'.1, fs)) (by simp)
  have hin : ∀ z, cn_A q H.size z → A z := fun z h => by
    rcases h with h | h
    · rw [h]; exact hqA
    · exact hA _ (Nat.le_trans hS.1 h)
  have hS1 : va_S A H0 T'.heap (locs ++ L) := ⟨Nat.le_trans hS.1 (by rw [e1]; exact hz), fun z h1 h2 => by rw [e1, hk z (Nat.lt_of_lt_of_le h1 hS.1) (fun h => h2 (hin z h))]; exact hS.2.1 z h1 h2, fun z hz => by
      rcases List.mem_append.mp hz with h | h
      · exact hS.2.2 z h
      · exact hin _ (hL z h)⟩
  obtain ⟨t2, a1, b1⟩ := kk T'.heap (locs ++ L) w1 hB (cn_join hA hw (fun z h1 h2 => by rw [e1]; exact hk z h1 h2) hS1 (by rw [e1]; exact hP1) hD1) T' rfl X'
  exact ⟨t2, st t2 a1, b1⟩
theorem cn_pre {q : Nat} {M' : mx_M} {fs as : List Value} (hK : cn_K D ca s) (hP : va_P D vwCl (ws ++ [(q, .inr (M'.1, fs))]) H) : PreS s H (cn_Pc D ca q H.size M'.1 fs as) (.ref q :: as) := by
  refine ⟨cn_blind, fun U hU hW => ⟨rfl, by rw [hU], ?_, hK.warm hW⟩⟩
  rw [hU]
  intro k z hz
  refine hP (ws.length + k) z ?_
  rw [List.getElem?_append_right (Nat.le_add_right _ _), Nat.add_sub_cancel_left]
  exact hz
/-- invokespecial of a constructor of ours on the object that stands last in the world -/
theorem cn_call (X : cn_cx p s m args c ca D cc nL own) (hA : ∀ q, H0.size ≤ q → A q) {q index d mc ms n : Nat} {M' : mx_M} {fs as : List Value} {B : Nat → va_W → Prop} (hM : cn_Met l D ca M' d mc ms fs as B) (ok : cn_okI M' n) (hn : as.length = n) (hl : Cond.methodLink own index M'.2.1 ∈ mx_G) (hR : d + 1 ≤ R.frames ∧ 8 + (M'.2.2.2.1 + 11) + 40 * d ≤ R.locals) (hsz : ls.size = nL) (hcat : (rest.map fun v => v.category).sum ≤ 8) (hdg : decode cc pc = .ok (.invokespecial index, 3)) (hf : cells + mc ≤ R.cells ∧ slots + ms ≤ R.slots)
    (hw : cn_St D A H0 (ws ++ [(q, .inr (M'.1, fs))]) H locs)
    (kk : ∀ (H1 : Heap) (locs1 : List Loc) (w1 : va_W), B q w1 → cn_St D A H0 (ws ++ w1) H1 locs1 → W p l e R s m args below meth c H1 locs1 (cells + mc) (slots + ms) Q (F0 m (pc + 3) ls rest)) : W p l e R s m args below meth c H locs cells slots Q (F0 m pc ls (as.reverse ++ .ref q :: rest)) := by
  obtain ⟨hx, hb, hml, hown, hts, hK⟩ := X
  exact cn_goOn (M' := M') (fs := fs) (as := as) (n := n) (d := d) hA hw (va_runI (As := as) (rest := rest) ⟨hx, hb, hml, hown, hts⟩ (hM q H.size) (cn_cb hts hl ok hR) (cn_pre hK hw.1) rfl hn hsz rfl (lv_room hcat) hdg hf) kk
theorem cn_callN (X : cn_cx p s m args c ca D cc nL own) (hA : ∀ q, H0.size ≤ q → A q) {q index d mc ms n : Nat} {host : String} {M' : mx_M} {fs as : List Value} {B : Nat → va_W → Prop} (hM : cn_Met l D ca M' d mc ms fs as B) (ok : cn_okI M' n) (hn : as.length = n) (hl : va_Nw (.methodLinkNest own index M'.2.1 host) s) (hR : d + 1 ≤ R.frames ∧ 8 + (M'.2.2.2.1 + 11) + 40 * d ≤ R.locals) (hsz : ls.size = nL) (hcat : (rest.map fun v => v.category).sum ≤ 8) (hdg : decode cc pc = .ok (.invokespecial index, 3)) (hf : cells + mc ≤ R.cells ∧ slots + ms ≤ R.slots)
    (hw : cn_St D A H0 (ws ++ [(q, .inr (M'.1, fs))]) H locs)
    (kk : ∀ (H1 : Heap) (locs1 : List Loc) (w1 : va_W), B q w1 → cn_St D A H0 (ws ++ w1) H1 locs1 → W p l e R s m args below meth c H1 locs1 (cells + mc) (slots + ms) Q (F0 m (pc + 3) ls rest)) : W p l e R s m args below meth c H locs cells slots Q (F0 m pc ls (as.reverse ++ .ref q :: rest)) := by
  obtain ⟨hx, hb, hml, hown, hts, hK⟩ := X
  exact cn_goOn (M' := M') (fs := fs) (as := as) (n := n) (d := d) hA hw (va_runIN (As := as) (rest := rest) ⟨hx, hb, hml, hown, hts⟩ (hM q H.size) (cn_cbN hts hl ok hR) (cn_pre hK hw.1) rfl hn hsz rfl (lv_room hcat) hdg hf) kk
/-- a new array of numbers -/
theorem cn_newa (X : cn_cx p s m args c ca D cc nL own) (hA : ∀ q, H0.size ≤ q → A q) {atype : ArrayType} {ty : FieldType} {k t0 : Nat} (hty : newarray.typeOf atype = ty) (ht : (mx_tys ca)[t0]? = some (ca k, ty)) (hRA : ∀ cA, va_RA s cA ty → s.vm.findClass ("[" ++ ty.toString) = some cA) (harr : Cond.arrayClass ty ∈ mx_G) {n : Int32} {N : Nat} {a0 : vp_A} (ha : ∀ cA : ClassId, vp_cell cA a0 = arrV cA N (fun _ => defaultValue ty)) (hn : ¬ n < 0) (hN : n.toNatClampNeg = N) (hbytes : N * componentBytes ty ≤ 536870912) (hcells : cells + 1 ≤ R.cells) (hslots : slots + N ≤ R.slots) (hdg : decode cc pc = .ok (.newarray atype, 2)) (hw : cn_St D A H0 ws H locs)
    (kk : ∀ (q : Nat) (H1 : Heap), cn_St D A H0 (ws ++ [(q, .inl (ca k, a0))]) H1 locs → W p l e R s m args below meth c H1 locs (cells + 1) (slots + N) Q (F0 m (pc + 2) ls (.ref q :: rest))) : W p l e R s m args below meth c H locs cells slots Q (F0 m pc ls (.int n :: rest)) := by
  obtain ⟨hx, hb, hml, hown, hts, hK⟩ := X
  obtain ⟨hP, hD, hS⟩ := hw
  refine va_newa hx hb (atype := atype) (by rw [hty]; exact hts _ harr) hty hK.1 hP hD hS hA ha hn hN hbytes hcells hslots hdg (fun q cA H1 hK1 hP hD hS => ?_)
  have e1 := hRA _ (hK1.2 (mx_tys ca).length (cA, ty) (by simp)).2
  have e2 := hRA _ (hK.1.2 t0 (ca k, ty) ht).2
  cases e1.symm.trans e2
  exact kk q H1 ⟨hP, hD, hS⟩
/-- a new array of references to objects -/
theorem cn_newq (X : cn_cx p s m args c ca D cc nL own) (hA : ∀ q, H0.size ≤ q → A q) {C : String} {index k t0 : Nat} (ht : (mx_tys ca)[t0]? = some (ca k, .object C)) (hAO : va_AO C s) (hl : Cond.classLink own index C ∈ mx_G) {n : Int32} {N : Nat} (hn : ¬ n < 0) (hN : n.toNatClampNeg = N) (hbytes : N * 4 ≤ 536870912) (hcells : cells + 1 ≤ R.cells) (hslots : slots + N ≤ R.slots) (hdg : decode cc pc = .ok (.anewarray index, 3)) (hw : cn_St D A H0 ws H locs)
    (kk : ∀ (q : Nat) (H1 : Heap), cn_St D A H0 (ws ++ [(q, .inl (ca k, N, .inr (.inr (.inr (.inr (fun _ => none))))))]) H1 locs → W p l e R s m args below meth c H1 locs (cells + 1) (slots + N) Q (F0 m (pc + 3) ls (.ref q :: rest))) : W p l e R s m args below meth c H locs cells slots Q (F0 m pc ls (.int n :: rest)) := by
  obtain ⟨hx, hb, hml, hown, hts, hK⟩ := X
  obtain ⟨hP, hD, hS⟩ := hw
  refine va_newq hx hb hown (hts _ hl) hAO hK.1 hP hD hS hA hn hN hbytes hcells hslots hdg (fun q cA H1 hK1 hP hD hS => ?_)
  obtain ⟨-, -, -, -, -, e1⟩ := (hK1.2 (mx_tys ca).length (cA, .object C) (by simp)).2
  obtain ⟨-, -, -, -, -, e2⟩ := (hK.1.2 t0 (ca k, .object C) ht).2
  cases e1.symm.trans e2
  exact kk q H1 ⟨hP, hD, hS⟩
theorem cn_size {i : Nat} (r : Nat → Nat) (f : Nat → va_E) {k : Nat} {z : Nat × va_E} (h : ((List.range i).map (fun j => (r j, f j)))[k]? = some z) : k < i ∧ z = (r k, f k) := by
  have hk : k < i := by simpa using (List.getElem?_eq_some_iff.mp h).1
  refine ⟨hk, ?_⟩
  simpa [hk] using h.symm
/-- new T[n][m]: the outer array, and its rows behind it -/
theorem cn_newm (X : cn_cx p s m args c ca D cc nL own) (hA : ∀ q, H0.size ≤ q → A q) {ty : FieldType} {index kA ky t0 : Nat} (ht : (mx_tys ca)[t0]? = some (ca ky, ty)) (hA2 : cn_A2 s (ca kA) (ca ky) ty) (hl : Cond.classLink own index ("[" ++ (FieldType.array ty).toString) ∈ mx_G) {n k : Int32} {N K : Nat} {a0 : vp_A} (ha : vp_cell (ca ky) a0 = arrV (ca ky) K (fun _ => defaultValue ty)) (hn : ¬ n < 0) (hk : ¬ k < 0) (hN : n.toNatClampNeg = N) (hM : k.toNatClampNeg = K) (hb1 : N * 4 ≤ 536870912) (hb2 : K * componentBytes ty ≤ 536870912) (hb3 : K ≤ 536870912) (hdf : fits ty (defaultValue ty) = true) (hcells : cells + (1 + N) ≤ R.cells) (hslots : slots + (N + N * K) ≤ R.slots) (hdg : decode cc pc = .ok (.multianewarray index 2, 4)) (hw : cn_St D A H0 ws H locs)
    (kk : ∀ (q : Nat) (r : Nat → Nat) (H1 : Heap), cn_St D A H0 (ws ++ ((q, .inl (ca kA, N, .inr (.inr (.inr (.inr (fun j => if j < N then some (r j) else none)))))) :: (List.range N).map (fun j => (r j, .inl (ca ky, a0))))) H1 locs → W p l e R s m args below meth c H1 locs (cells + 1 + N) (slots + N + N * K) Q (F0 m (pc + 4) ls (.ref q :: rest))) : W p l e R s m args below meth c H locs cells slots Q (F0 m pc ls (.int k :: .int n :: rest)) := by
  obtain ⟨hx, hb, hml, hown, hts, hK⟩ := X
  obtain ⟨hP, hD, hS⟩ := hw
  have hcy : ∃ kC cd, s.vm.classes[ca ky]? = some kC ∧ kC.kind = .array cd ty := by
    obtain ⟨-, kC, h1, cd, h2⟩ := (hK.1.2 t0 (ca ky, ty) ht).1 0 (fun _ => .null)
    exact ⟨kC, cd, h1, h2⟩
  refine cn_mna hx hb hown (hts _ hl) hA2 hcy hn hk hN hM hb1 hb2 hb3 hdf hcells hslots hdg (fun H1 z1 o1 e1 r1 => ?_)
  refine kk H.size (fun j => H.size + 1 + j) H1 ⟨va_P.app (hP.kept fun k x hx => o1 x.1 (hP k x hx).lt) ?_, va_D.app hD ⟨?_, ?_⟩ ?_, Nat.le_trans hS.1 (by omega), fun x h1 h2 => (o1 x (Nat.lt_of_lt_of_le h1 hS.1)).trans (hS.2.1 x h1 h2), hS.2.2⟩
  · intro k z hz
    cases k with
    | zero =>
      cases hz
      show H1[H.size]? = some (vp_cell _ _)
      rw [e1, vp_cell_q]
      congr 2
      funext j
      unfold cn_out
      by_cases hj : j < N
      · rw [if_pos hj, if_pos hj]; rfl
      · rw [if_neg hj, if_neg hj]; rfl
    | succ k =>
      obtain ⟨h1, rfl⟩ := cn_size _ _ hz
      show H1[H.size + 1 + k]? = some (vp_cell _ _)
      rw [ha]
      exact r1 k h1
  · intro i j a b ha hb e
    cases i with
    | zero =>
      cases ha
      cases j with
      | zero => rfl
      | succ j =>
        obtain ⟨h1, rfl⟩ := cn_size _ _ hb
        dsimp only at e
        omega
    | succ i =>
      obtain ⟨h0, rfl⟩ := cn_size _ _ ha
      cases j with
      | zero =>
        cases hb
        dsimp only at e
        omega
      | succ j =>
        obtain ⟨h1, rfl⟩ := cn_size _ _ hb
        dsimp only at e
        omega
  · intro k z hz
    cases k with
    | zero => cases hz; exact hA _ hS.1
    | succ k =>
      obtain ⟨h1, rfl⟩ := cn_size _ _ hz
      exact hA _ (Nat.le_trans hS.1 (by show H.size ≤ H.size + 1 + k; omega))
  · intro i j a b ha hb e
    have h1 := (hP i a ha).lt
    cases j with
    | zero => cases hb; dsimp only at e; omega
    | succ j =>
      obtain ⟨h1, rfl⟩ := cn_size _ _ hb
      dsimp only at e
      omega
end CNR
