/-! ===== a run of the small machine is a run of the machine ===== -/
section MXX
variable {p : Program} {l : Launch} {e : Env} {s : State} {m : MethodId} {args : Array Value} {below : List Frame} {meth : Method} {c : Code}
variable {adr : Nat → Nat} {ca : Nat → ClassId} {D : va_G} {A : Nat → Prop} {M : mx_M} {d : Nat}
/-- what holds all along a method's body -/
def mx_fix (p : Program) (s : State) (m : MethodId) (args : Array Value) (meth : Method) (c : Code) (adr : Nat → Nat) (ca : Nat → ClassId) (D : va_G) (A : Nat → Prop) (M : mx_M) : Prop :=
  p.tables.exec = Jvm.exec ∧ c.code = M.2.2.1 ∧ meth.sig.returnType = M.2.2.2.2 ∧ c.maxLocals = M.2.2.2.1 ∧ s.vm.findClass (mx_cS M.1) = some m.cls ∧ (∀ w ∈ mx_G, w.before args s = true) ∧ va_K D vwCl (mx_tys ca) s ∧ mx_Z adr A s ∧ meth.locks = false
abbrev mx_ih (l : Launch) (adr : Nat → Nat) (ca : Nat → ClassId) (D : va_G) (A : Nat → Prop) (d : Nat) : Prop := ∀ (M : mx_M) (as : List Value) (σ : mx_S) (r : mx_R), mx_okM M → mx_call d M as σ r → Met l M.2.1 (mx_w M) (mx_rm d) (mx_Pc adr ca D A as σ) (mx_Qc adr ca D A r) 0 0 A
theorem mx_cb {index n : Nat} {M' : mx_M} (hts : ∀ w ∈ mx_G, w.before args s = true) (hl : Cond.methodLink (mx_cS M.1) index M'.2.1 ∈ lw_tbl) (ok : mx_okM M') (hn : (parseMethodDescriptor M'.2.1.desc).map (fun d => d.parameters.length) = some n) : CallB (mx_rm (d + 1)) s args (mx_cS M.1) index M'.2.1 M'.2.2.1 M'.2.2.2.1 M'.2.2.2.2 (mx_w M') (mx_rm d) 0 0 n := by
  obtain ⟨o1, o2, o3, o4, o5, o6, o7⟩ := ok
  refine callB_of n hts (mx_good (fun w hw => ?_)) rfl rfl rfl (hts _ (mx_inG o2 rfl)) (hts _ (mx_inG hl rfl)) ⟨o4, o5, hn⟩ ⟨Nat.le_refl _, ?_⟩
  · rcases List.mem_cons.mp hw with rfl | h
    · exact mx_inG o1 rfl
    · exact h
  · show 8 + (M'.2.2.2.1 + 11) + 40 * d ≤ 40 * (d + 1)
    omega
theorem mx_pre {H : Heap} {locs : List Loc} {as : List Value} {σ : mx_S} (hK : va_K D vwCl (mx_tys ca) s) (hZ : mx_Z adr A s) (hP : va_P D vwCl (mx_ws adr ca σ) H) (hD : va_D A (mx_ws adr ca σ)) (hS : va_S A s.heap H locs) : ∀ U : State, U.heap = H → s.WarmedH U.vm → mx_Pc adr ca D A as σ (as.map (mx_cv adr)).toArray U := by
  intro U hU hW
  refine ⟨rfl, by rw [hU]; exact hP, va_K.moved hW.alike hK, hD, ?_, ?_, va_Nw.warmF hW hZ.2.2⟩
  · rw [hU]
    exact va_Z.moved hW.alike (va_Z.kept hZ.1 hS.2.1)
  · rw [hU]
    exact va_T.moved hW.alike (va_T.kept hZ.2.1 hS.2.1)
set_option maxHeartbeats 4000000 in
set_option maxRecDepth 100000 in
theorem mx_virt {H : Heap} {locs : List Loc} {Q : State → Prop} (F : mx_fix p s m args meth c adr ca D A M) (ih : mx_ih l adr ca D A d) {σ : mx_S} {q : mx_R} {M' : mx_M} {n h x pc : Nat} {As st' : List Value} {ls : Array Slot} (hc : mx_cTb M.1 x = some (0, M', n)) (hn : As.length = n) (hk : mx_kd h = M'.1) (hcat : mx_cat st' ≤ 8) (hC : mx_call d M' (.ref h :: As) σ q) (hd : decode M.2.2.1 pc = .ok (.invokevirtual x, 3)) (hsz : ls.size = M.2.2.2.1)
    (hP : va_P D vwCl (mx_ws adr ca σ) H) (hD : va_D A (mx_ws adr ca σ)) (hS : va_S A s.heap H locs)
    (kk : ∀ (H1 : Heap) (locs1 : List Loc), va_P D vwCl (mx_ws adr ca q.2) H1 → va_S A s.heap H1 locs1 → W p l e (mx_rm (d + 1)) s m args below meth c H1 locs1 0 0 Q (F0 m (pc + 3) ls ((q.1.map (mx_cv adr)).toList ++ st'.map (mx_cv adr)))) :
    W p l e (mx_rm (d + 1)) s m args below meth c H locs 0 0 Q (F0 m pc ls ((As.reverse ++ .ref h :: st').map (mx_cv adr))) := by
  obtain ⟨hx, hb, hr, hml, hown, hts, hK, hZ, hlocks⟩ := F
  obtain ⟨t1, t2⟩ := mx_cT_ok hc
  rw [if_pos rfl] at t2
  obtain ⟨ok, t3, t4, t5, t6⟩ := t2
  have hvw := (mx_inT M'.1 t6).1
  have hcls : M'.2.1.cls = mx_cS M'.1 := ok.2.2.2.2.2.1
  have hM := ih M' (.ref h :: As) σ q ok hC
  have hcat' : ((st'.map (mx_cv adr)).map fun v => v.category).sum ≤ 8 := by
    rw [List.map_map]
    have : ((fun v : Value => v.category) ∘ mx_cv adr) = (fun v : Value => v.category) := funext fun v => mx_cv_cat adr v
    rw [this]
    exact hcat
  refine mx_callrow (q := q) (rest := st'.map (mx_cv adr)) (va_runV (C := M'.2.1.cls) (As := As.map (mx_cv adr)) (b := adr h) ⟨hx, hb, hml, hown, hts⟩ hM ⟨mx_cb hts t1 ok t5, hts _ (mx_inG t3 rfl), hts _ (mx_inG t4 rfl)⟩ ⟨mx_blind, ?_, mx_pre (as := .ref h :: As) hK hZ hP hD hS⟩ rfl (by simp [hn]) hsz ?_ (lv_room hcat') hd ⟨Nat.le_refl _, Nat.le_refl _⟩) hS kk
  · rw [hcls]
    exact va_recv hK hP hvw (mx_at_obj hk t6)
  · show (As.reverse ++ .ref h :: st').map (mx_cv adr) = _
    simp [mx_cv]
set_option maxHeartbeats 4000000 in
set_option maxRecDepth 100000 in
theorem mx_stat {H : Heap} {locs : List Loc} {Q : State → Prop} (F : mx_fix p s m args meth c adr ca D A M) (ih : mx_ih l adr ca D A d) {σ : mx_S} {q : mx_R} {M' : mx_M} {n x pc : Nat} {As st' : List Value} {ls : Array Slot} (hc : mx_cTb M.1 x = some (1, M', n)) (hn : As.length = n) (hcat : mx_cat st' ≤ 8) (hC : mx_call d M' As σ q) (hd : decode M.2.2.1 pc = .ok (.invokestatic x, 3)) (hsz : ls.size = M.2.2.2.1)
    (hP : va_P D vwCl (mx_ws adr ca σ) H) (hD : va_D A (mx_ws adr ca σ)) (hS : va_S A s.heap H locs)
    (kk : ∀ (H1 : Heap) (locs1 : List Loc), va_P D vwCl (mx_ws adr ca q.2) H1 → va_S A s.heap H1 locs1 → W p l e (mx_rm (d + 1)) s m args below meth c H1 locs1 0 0 Q (F0 m (pc + 3) ls ((q.1.map (mx_cv adr)).toList ++ st'.map (mx_cv adr)))) :
    W p l e (mx_rm (d + 1)) s m args below meth c H locs 0 0 Q (F0 m pc ls ((As.reverse ++ st').map (mx_cv adr))) := by
  obtain ⟨hx, hb, hr, hml, hown, hts, hK, hZ, hlocks⟩ := F
  obtain ⟨t1, t2⟩ := mx_cT_ok hc
  rw [if_neg (by decide)] at t2
  obtain ⟨ok, t3, t5⟩ := t2
  have hM := ih M' As σ q ok hC
  have hcat' : ((st'.map (mx_cv adr)).map fun v => v.category).sum ≤ 8 := by
    rw [List.map_map]
    have : ((fun v : Value => v.category) ∘ mx_cv adr) = (fun v : Value => v.category) := funext fun v => mx_cv_cat adr v
    rw [this]
    exact hcat
  refine mx_callrow (q := q) (rest := st'.map (mx_cv adr)) (va_runS (As := As.map (mx_cv adr)) ⟨hx, hb, hml, hown, hts⟩ hM ⟨mx_cb hts t1 ok t5, hts _ (mx_inG t3 rfl)⟩ ⟨mx_blind, mx_pre (as := As) hK hZ hP hD hS⟩ rfl (by simp [hn]) hsz ?_ (lv_room hcat') hd ⟨Nat.le_refl _, Nat.le_refl _⟩) hS kk
  show (As.reverse ++ st').map (mx_cv adr) = _
  simp
end MXX
