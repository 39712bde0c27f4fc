/-! THE CLAIM OUT OF ONE WALK OF THE LAW'S BODY. Your part is whole_start (and what it stands on); all else here is the same for every law, but numbers. -/
def R_law : String := "PressHallsLaw"
def lw_P (b : Addr) (xs : List Int32) (args : Array Value) (s : State) : Prop := args = #[.ref b] ∧ s.IntsAt b xs ∧ xs.length ≤ 3072 ∧ (Jvm.Cond.and given_1 narrow_1).before args s = true
def lw_Q (_ : Array Value) (s : State) (o : Outcome) (t : State) : Prop := o = .returned (some (.int 1)) ∧ Framed s o t [] 600000 7302249
def lw_Z (below : List Frame) (a : Array Value) (s : State) : State → Prop := fun t => ∃ o, t.status = .running ∧ Ended t below o ∧ lw_Q a s o t
/-- the law's own end, with 1 on the stack, nothing written that was there before, its room as the claim has it -/
theorem lw_ret {p : Program} {l : Launch} {e : Env} {s : State} {m : MethodId} {below : List Frame} {meth : Method} {c : Code} {b : Nat} (hx : p.tables.exec = Jvm.exec) (hb : c.code = code) (hr : meth.sig.returnType = ret) (hlocks : meth.locks = false) {pc : Nat} {H : Heap} {ls : Array Slot} (hdg : decode code pc = .ok (.ireturn, 1)) : W p l e room_1 s m #[Value.ref b] below meth c H [] 600000 7302249 (lw_Z below #[Value.ref b] s) (F0 m pc ls [.int 1]) := by
  intro T hT X
  obtain ⟨fs, hret, hrun, hended, hW, hframe⟩ := X.leave (v := some (.int 1)) (hlocks := hlocks) (fun h => by rw [hr] at h; cases h)
  have hmeth' : T.vm.method? m = some meth := X.method'
  refine ⟨T.setFrames fs, ?_, .returned (some (.int 1)), hrun, hended, rfl, ⟨_, rfl⟩, hW, hframe⟩
  jvm_step X.here [X.here.top, hx, hb, hdg, hmeth', hr, ret, narrow_b1]
  (try refine ⟨rfl, ?_⟩); (try refine ⟨rfl, ?_⟩)
  first | (intro acts; rw [hret _ acts rfl rfl rfl]) | rw [hret _ _ rfl rfl rfl]
  exact Steps.refl _
/-- what holds at the law's entry: the machine, the code, the tables' words (any of lw_tbl by 'hts w (by decide +kernel)'), the script of L ints xs at the cell b, what the Statement gives of the start (any of its parts by flat_of_before) -/
def lw_At (p : Program) (s : State) (m : MethodId) (meth : Method) (c : Code) (b L : Nat) (xs : Nat → Int32) : Prop :=
  p.tables.exec = Jvm.exec ∧ c.code = code ∧ meth.sig.returnType = ret ∧ c.maxLocals = 4 ∧ s.vm.findClass R_law = some m.cls ∧ (∀ w ∈ lw_tbl, w.before #[Value.ref b] s = true) ∧ va_X b L xs s s.heap ∧ b < s.heap.size ∧ meth.locks = false ∧ (Jvm.Cond.and given_1 narrow_1).before #[Value.ref b] s = true
/-! ===== the law: what holds all along, its calls, the ints that it reads ===== -/
theorem vwM.hi {w : Vw} {σ σ' : mx_S} (h : vwM w σ) (g : hiS σ σ') : vwM w σ' := by
  obtain ⟨ok, h1, h2, h3, h4⟩ := h
  have e : ∀ i, 88 ≤ i → σ'.1 i = σ.1 i := fun i hi => (g i hi).1
  have e2 : ∀ i, 88 ≤ i → σ'.2 i = σ.2 i := fun i hi => (g i hi).2
  have f88 := e 88 (by decide)
  refine ⟨ok, ?_, ?_, ?_, ?_⟩
  · unfold cfgM rowM at h1 ⊢
    rw [f88, e 89 (by decide), e 90 (by decide), e 91 (by decide), e 92 (by decide), e 93 (by decide), e 94 (by decide), e 95 (by decide), e 96 (by decide)]
    exact h1
  · cases hc : w.2.1 with
    | none =>
      rw [hc] at h2
      show σ'.1 88 17 = 0
      rw [f88]
      exact h2
    | some c =>
      rw [hc] at h2
      show σ'.1 88 17 = 1 ∧ cfgI c (σ'.1 98)
      rw [f88, e 98 (by decide)]
      exact h2
  · unfold txtM at h3 ⊢
    rw [f88, e 97 (by decide)]
    exact h3
  · unfold tapM at h4 ⊢
    intro t ht
    rw [e 111 (by decide), e 112 (by decide), e2 (105 + t) (by omega)]
    exact h4 t ht
theorem shpX.cg {n md am : Nat} {V : Nat → Nat → Nat} {O : Nat → Nat} {h : Nat} {f f' : Nat → Nat → Int32} (H : shpX n md am V O h f) (hn : n ≤ 6) (e : ∀ i, i ≤ h + 8 → f' i = f i) : shpX n md am V O h f' := by
  obtain ⟨h1, h2, h3, h4, h5⟩ := H
  refine ⟨by rw [e h (by omega)]; exact h1, by rw [e h (by omega)]; exact h2, by rw [e h (by omega)]; exact h3, fun j k hj hk => ?_, fun p hp => ?_⟩
  · rw [e _ (by omega)]
    exact h4 j k hj hk
  · rw [e _ (by omega)]
    exact h5 p hp
theorem rowX.cg {l : List (Nat × Nat)} {a : Nat} {f f' : Nat → Nat → Int32} (H : rowX l a f) (e : ∀ i, i ≤ a + 2 → f' i = f i) : rowX l a f' := by
  unfold rowX at H ⊢
  rw [e a (by omega), e (a + 1) (by omega), e (a + 2) (by omega)]
  exact H
theorem cfgX.cg {c : Cfg} {h s ee b : Nat} {f f' : Nat → Nat → Int32} (H : cfgX c h s ee b f) (hn : c.jn ≤ 6) (e : ∀ i, i < 88 → f' i = f i) (b1 : h < 79) (b2 : s < 85) (b3 : ee < 85) (b4 : b < 85) : cfgX c h s ee b f' := by
  obtain ⟨h1, h2, h3, h4⟩ := H
  exact ⟨h1.cg hn (fun i hi => e i (by omega)), h2.cg (fun i hi => e i (by omega)), h3.cg (fun i hi => e i (by omega)), h4.cg (fun i hi => e i (by omega))⟩
theorem vwX.lo {w : Vw} {σ σ' : mx_S} (h : vwX w σ) (g : loS σ σ') : vwX w σ' := by
  obtain ⟨ok, h1, h2, h3, h4, h5⟩ := h
  have e : ∀ i, i < 88 → σ'.1 i = σ.1 i := fun i hi => (g i hi).1
  have e2 : ∀ i, i < 88 → σ'.2 i = σ.2 i := fun i hi => (g i hi).2
  refine ⟨ok, h1.cg ok.1.1 e (by decide) (by decide) (by decide) (by decide), ?_, ?_, ?_, ?_⟩
  · cases hc : w.2.1 with
    | none =>
      rw [hc] at h2
      show σ'.1 0 8 = 0
      rw [e 0 (by decide)]
      exact h2
    | some c =>
      rw [hc] at h2
      refine ⟨by rw [e 0 (by decide)]; exact h2.1, h2.2.cg (ok.2.1 c hc).1 e (by decide) (by decide) (by decide) (by decide)⟩
  · unfold txtX at h3 ⊢
    rw [e 60 (by decide), e 61 (by decide)]
    exact h3
  · unfold tapX at h4 ⊢
    intro t ht
    rw [e (76 + 2 * t) (by omega), e2 (77 + 2 * t) (by omega)]
    exact h4 t ht
  · rw [e 52 (by decide)]
    exact h5
section LW
variable {p : Program} {l : Launch} {e : Env} {s : State} {m : MethodId} {below : List Frame} {meth : Method} {c : Code} {H : Heap} {locs : List Loc} {Q : State → Prop}
variable {adr : Nat → Nat} {ca : Nat → ClassId} {D : va_G} {pc b L i : Nat} {xs : Nat → Int32} {ls : Array Slot} {rest : List Value} {σ : mx_S}
abbrev lw_A (s : State) : Nat → Prop := fun q => s.heap.size ≤ q
/-- what holds all along the law's loop -/
def lw_fx (p : Program) (s : State) (m : MethodId) (c : Code) (b L : Nat) (xs : Nat → Int32) (adr : Nat → Nat) (ca : Nat → ClassId) (D : va_G) : Prop :=
  p.tables.exec = Jvm.exec ∧ c.code = cL_law ∧ c.maxLocals = 4 ∧ s.vm.findClass R_law = some m.cls ∧ (∀ w ∈ lw_tbl, w.before #[Value.ref b] s = true) ∧ va_X b L xs s s.heap ∧ b < s.heap.size ∧ va_K D vwCl (mx_tys ca) s ∧ mx_Z adr (lw_A s) s
/-- the world of both objects, and nothing old changed -/
def lw_st (s : State) (adr : Nat → Nat) (ca : Nat → ClassId) (D : va_G) (σ : mx_S) (H : Heap) (locs : List Loc) : Prop := va_P D vwCl (mx_ws adr ca σ) H ∧ va_D (lw_A s) (mx_ws adr ca σ) ∧ va_S (lw_A s) s.heap H locs
def lw_lv (b : Nat) (adr : Nat → Nat) (i : Nat) : List (Nat × Value) := [(0, .ref b), (1, .ref (adr 0)), (2, .ref (adr 88)), (3, .int (nI i))]
def lw_ar (xs : Nat → Int32) (i : Nat) (ks : List Nat) : List Value := ks.map (fun k => .int (xs (i + k)))
set_option maxHeartbeats 4000000 in
set_option maxRecDepth 100000 in
/-- a call of one of our methods, on an object that stands in cell h -/
theorem lw_virt (F : lw_fx p s m c b L xs adr ca D) {d : Nat} {q : mx_R} {M' : mx_M} {n h x : Nat} {As : List Value} (ok : mx_okV M' n) (hl : Cond.methodLink R_law x M'.2.1 ∈ lw_tbl) (hn : As.length = n) (hk : mx_kd h = M'.1) (hcat : mx_cat rest ≤ 8) (hd20 : d ≤ 20) (hC : mx_call d M' (.ref h :: As) σ q) (hd : decode cL_law pc = .ok (.invokevirtual x, 3)) (hsz : ls.size = 4) (eA : As.map (mx_cv adr) = As)
    (hw : lw_st s adr ca D σ H locs)
    (kk : ∀ (H1 : Heap) (locs1 : List Loc), lw_st s adr ca D q.2 H1 locs1 → W p l e room_1 s m #[Value.ref b] below meth c H1 locs1 600000 7302249 Q (F0 m (pc + 3) ls ((q.1.map (mx_cv adr)).toList ++ rest))) :
    W p l e room_1 s m #[Value.ref b] below meth c H locs 600000 7302249 Q (F0 m pc ls (As.reverse ++ .ref (adr h) :: rest)) := by
  obtain ⟨hx, hb, hml, hown, hts, hX, hbl, hK, hZ⟩ := F
  obtain ⟨hP, hD, hS⟩ := hw
  obtain ⟨ok, t3, t4, t5, t6⟩ := ok
  have hvw := (mx_inT M'.1 t6).1
  have hcls : M'.2.1.cls = mx_cS M'.1 := ok.2.2.2.2.2.1
  have hM := mx_sound l adr ca D (lw_A s) d M' (.ref h :: As) σ q ok hC
  have hcat' : (rest.map fun v => v.category).sum ≤ 8 := hcat
  have o1 := ok.1
  have o2 := ok.2.1
  have cb : CallB room_1 s #[Value.ref b] R_law x M'.2.1 M'.2.2.1 M'.2.2.2.1 M'.2.2.2.2 (mx_w M') (mx_rm d) 0 0 n := by
    obtain ⟨-, -, o3, o4, o5, o6, o7⟩ := ok
    refine callB_of n hts (Ts := lw_tbl) (fun w hw => ?_) rfl rfl rfl (hts _ o2) (hts _ hl) ⟨o4, o5, t5⟩ ⟨?_, ?_⟩
    · rcases List.mem_cons.mp hw with rfl | h
      · exact ⟨o1, good_of_word rfl⟩
      · exact ⟨(List.mem_filter.mp h).1, good_of_word (List.mem_filter.mp h).2⟩
    · show d + 1 ≤ 2048
      omega
    · show 8 + (M'.2.2.2.1 + 11) + 40 * d ≤ 84000
      omega
  have hr := va_runV (p := p) (l := l) (e := e) (R := room_1) (s := s) (m := m) (args := #[Value.ref b]) (below := below) (meth := meth) (c := c) (H := H) (locs := locs) (cells := 600000) (slots := 7302249) (cc := cL_law) (nL := 4) (Ts := lw_tbl) (own := R_law) (g := F0 m pc ls (As.reverse ++ .ref (adr h) :: rest)) (rest := rest) (C := M'.2.1.cls) (As := As) (b := adr h) ⟨hx, hb, hml, hown, hts⟩ hM ⟨cb, hts _ t3, hts _ t4⟩ ⟨mx_blind, by
      rw [hcls]
      exact va_recv hK hP hvw (mx_at_obj hk t6), by
      have h9 := mx_pre (as := .ref h :: As) hK hZ hP hD hS
      have e9 : ((.ref h :: As).map (mx_cv adr)) = .ref (adr h) :: As := by rw [List.map_cons, eA]; rfl
      rw [e9] at h9
      exact h9⟩ rfl hn hsz rfl (lv_room hcat') hd ⟨Nat.le_refl _, Nat.le_refl _⟩
  intro T hT X
  obtain ⟨v, st₀, t, T', L9, h0, X', hL, e1, e2, ⟨hv, hp, hz, hk⟩, st⟩ := hr T hT X
  cases hv
  rw [h0] at hz hk
  obtain ⟨t2, a1, b1⟩ := kk T'.heap (locs ++ L9) ⟨by rw [e1]; exact hp, mx_D hD,
    ⟨Nat.le_trans hS.1 (by rw [e1]; exact hz), fun q h1 h2 => by rw [e1, hk q (Nat.lt_of_lt_of_le h1 hS.1) h2]; exact hS.2.1 q h1 h2, fun q hq => by
      rcases List.mem_append.mp hq with h | h
      · exact hS.2.2 q h
      · exact hL q h⟩⟩ T' rfl X'
  exact ⟨t2, st t2 a1, b1⟩
/-- script[i + k] -/
theorem lw_arg (F : lw_fx p s m c b L xs adr ca D) (hL : L ≤ 3072) (hi : i + 6 ≤ L) (hl : lv_has ls 4 (lw_lv b adr i)) {k : Nat} (hk : k ≤ 5) {kz : Int} (hkz : Int32.ofInt kz = nI k) (hS : va_S (lw_A s) s.heap H locs)
    (d0 : decode cL_law pc = .ok (.aload_n 0, 1)) (d1 : decode cL_law (pc + 1) = .ok (.iload_n 3, 1)) (d2 : decode cL_law (pc + 1 + 1) = .ok (.iconst kz, 1)) (d3 : decode cL_law (pc + 1 + 1 + 1) = .ok (.iadd, 1)) (d4 : decode cL_law (pc + 1 + 1 + 1 + 1) = .ok (.iaload, 1))
    (kk : W p l e room_1 s m #[Value.ref b] below meth c H locs 600000 7302249 Q (F0 m (pc + 5) ls (.int (xs (i + k)) :: rest))) : W p l e room_1 s m #[Value.ref b] below meth c H locs 600000 7302249 Q (F0 m pc ls rest) := by
  obtain ⟨hx, hb, hml, hown, hts, hX, hbl, hK, hZ⟩ := F
  refine lv_aload_n hx hb d0 rfl (lv_at hl 0 rfl) ?_
  refine lv_iload_n hx hb d1 rfl (lv_at hl 3 rfl) ?_
  refine lv_iconst hx hb d2 hkz ?_
  refine lv_iadd hx hb d3 ?_
  rw [nI_add]
  refine va_sld hx hb hX hbl (Nat.not_le.mpr hbl) hS (nI_in (by omega) (by omega)) d4 ?_
  rw [nI_clamp (by omega)]
  exact kk
end LW
