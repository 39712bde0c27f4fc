/-! ===== what the kit's rows prove of the small machine ===== -/
def mx_G : List Cond := lw_tbl.filter goodWord
theorem mx_inG {w : Cond} (h : w ∈ lw_tbl) (g : goodWord w = true) : w ∈ mx_G := List.mem_filter.mpr ⟨h, g⟩
theorem mx_good {L : List Cond} (h : ∀ w ∈ L, w ∈ mx_G) : GoodIn mx_G L := fun w hw => ⟨h w hw, good_of_word (List.mem_filter.mp (h w hw)).2⟩
def mx_w (M : mx_M) : List Cond := Cond.code M.2.1 M.2.2.1 M.2.2.2.1 M.2.2.2.2 :: mx_G
def mx_rm (d : Nat) : Room := { frames := d, cells := 0, slots := 0, locals := 40 * d }
abbrev mx_Z (adr : Nat → Nat) (A : Nat → Prop) (U : State) : Prop := va_Z "PressHalls" "MOST_OF_VALUE" "[I" (.ref (adr 114)) A U U.heap ∧ va_T .int (adr 114) 6 (fun j => .int (mx_tab j)) A U U.heap ∧ va_Nw (.fieldLinkNest "PressHalls$Shop" 36 "PressHalls" "MOST_OF_VALUE" "[I" "PressHalls") U
def mx_Pc (adr : Nat → Nat) (ca : Nat → ClassId) (D : va_G) (A : Nat → Prop) (as : List Value) (σ : mx_S) : Array Value → State → Prop := fun v U => v = (as.map (mx_cv adr)).toArray ∧ va_P D vwCl (mx_ws adr ca σ) U.heap ∧ va_K D vwCl (mx_tys ca) U ∧ va_D A (mx_ws adr ca σ) ∧ mx_Z adr A U
def mx_Qc (adr : Nat → Nat) (ca : Nat → ClassId) (D : va_G) (A : Nat → Prop) (r : mx_R) : Array Value → State → Outcome → State → Prop := fun _ st o t => o = .returned (r.1.map (mx_cv adr)) ∧ va_P D vwCl (mx_ws adr ca r.2) t.heap ∧ va_F A st t
theorem mx_blind {adr : Nat → Nat} {ca : Nat → ClassId} {D : va_G} {A : Nat → Prop} {as : List Value} {σ : mx_S} : FrameBlind (mx_Pc adr ca D A as σ) := by
  intro a U g mk q
  obtain ⟨q0, qP, qK, qD, qZ, qT, qN⟩ := q
  exact ⟨q0, qP, va_K.moved (u := U) (U := U.calling g mk a) (Vm.Alike.refl U.vm) qK, qD, va_Z.moved (u := U) (U := U.calling g mk a) (Vm.Alike.refl U.vm) qZ, va_T.moved (u := U) (U := U.calling g mk a) (Vm.Alike.refl U.vm) qT, va_Nw.same rfl (u := U) (U := U.calling g mk a) rfl qN⟩
theorem mx_find {α : Type} {L : List (Nat × Nat × α)} {c i : Nat} {r : Nat × Nat × α} (h : L.find? (fun r => r.1 == c && r.2.1 == i) = some r) : r ∈ L ∧ r.1 = c ∧ r.2.1 = i := by
  have h1 := List.mem_of_find?_eq_some h
  have h2 := List.find?_some h
  simp only [Bool.and_eq_true, beq_iff_eq] at h2
  exact ⟨h1, h2⟩
theorem mx_fT_ok {c i a k : Nat} (h : mx_fT c i = some (a, k)) : Cond.fieldLink (mx_cS c) i (mx_cT a k).1 (mx_cT a k).2.1 (mx_cT a k).2.2.1 ∈ mx_G ∧ a < 8 ∧ k < mx_nF a := by
  unfold mx_fT at h
  obtain ⟨r, hr, he⟩ := Option.map_eq_some_iff.mp h
  obtain ⟨h1, h2, h3⟩ := mx_find hr
  have ok := mx_fL_ok r h1
  cases he
  subst h2
  subst h3
  exact ⟨mx_inG (mx_at _ ok.1) rfl, ok.2⟩
theorem mx_kT_ok {c i : Nat} {v : Int32} (h : mx_kT c i = some v) : Cond.constant (mx_cS c) i v ∈ mx_G := by
  unfold mx_kT at h
  obtain ⟨r, hr, he⟩ := Option.map_eq_some_iff.mp h
  obtain ⟨h1, h2, h3⟩ := mx_find hr
  have ok := mx_kL_ok r h1
  subst he
  subst h2
  subst h3
  exact mx_inG (mx_at _ ok) rfl
theorem mx_jT_ok {c i : Nat} {v : Int64} (h : mx_jT c i = some v) : Cond.constantLong (mx_cS c) i v ∈ mx_G := by
  unfold mx_jT at h
  obtain ⟨r, hr, he⟩ := Option.map_eq_some_iff.mp h
  obtain ⟨h1, h2, h3⟩ := mx_find hr
  have ok := mx_jL_ok r h1
  subst he
  subst h2
  subst h3
  exact mx_inG (mx_at _ ok) rfl
theorem mx_dT_ok {c i k : Nat} (h : mx_dT c i = some k) : Cond.methodLink (mx_cS c) i (mx_dN k) ∈ mx_G := by
  unfold mx_dT at h
  obtain ⟨r, hr, he⟩ := Option.map_eq_some_iff.mp h
  obtain ⟨h1, h2, h3⟩ := mx_find hr
  have ok := (mx_dL_ok r h1).1
  subst he
  subst h2
  subst h3
  exact mx_inG (mx_at _ ok) rfl
theorem mx_cT_ok {c i k n : Nat} {M : mx_M} (h : mx_cTb c i = some (k, M, n)) : Cond.methodLink (mx_cS c) i M.2.1 ∈ lw_tbl ∧ if k = 0 then mx_okV M n else mx_okS M n := by
  unfold mx_cTb at h
  obtain ⟨r, hr, he⟩ := Option.map_eq_some_iff.mp h
  obtain ⟨h1, h2, h3⟩ := mx_find hr
  have ok := mx_cL_ok r h1
  obtain ⟨r1, r2, r3, r4, r5⟩ := r
  cases he
  subst h2
  subst h3
  exact ok
theorem mx_inT : ∀ c, c < 8 → vwCl[c]? = some (mx_cS c, mx_cT c, mx_nF c) ∧ (∀ w ∈ u_ws (mx_cS c) (mx_cT c) (mx_nF c), w ∈ lw_tbl) := by
  intro c hc
  match c, hc with
  | 0, _ => exact ⟨rfl, mx_in0⟩
  | 1, _ => exact ⟨rfl, mx_in1⟩
  | 2, _ => exact ⟨rfl, mx_in2⟩
  | 3, _ => exact ⟨rfl, mx_in3⟩
  | 4, _ => exact ⟨rfl, mx_in4⟩
  | 5, _ => exact ⟨rfl, mx_in5⟩
  | 6, _ => exact ⟨rfl, mx_in6⟩
  | 7, _ => exact ⟨rfl, mx_in7⟩
theorem mx_inF : ∀ c, c < 8 → (∀ k, k < mx_nF c → parseFieldDescriptor (mx_cT c k).2.2.1 = some (mx_cY c k)) ∧ (∀ a, a < mx_nF c → ∀ b, b < mx_nF c → a ≠ b → (mx_cT c a).2.1 ≠ (mx_cT c b).2.1) := by
  intro c hc
  match c, hc with
  | 0, _ => exact ⟨tyX0_ok, nmX0⟩
  | 1, _ => exact ⟨tyX1_ok, nmX1⟩
  | 2, _ => exact ⟨tyX2_ok, nmX2⟩
  | 3, _ => exact ⟨tyX3_ok, nmX3⟩
  | 4, _ => exact ⟨tyX4_ok, nmX4⟩
  | 5, _ => exact ⟨tyX5_ok, nmX5⟩
  | 6, _ => exact ⟨tyX6_ok, nmX6⟩
  | 7, _ => exact ⟨tyX7_ok, nmX7⟩
/-- an int field: int, or boolean where mx_bl says so; not final -/
theorem mx_intF : ∀ c, c < 8 → ∀ k, k < mx_nF c → mx_off c k = 0 → (mx_cT c k).2.2.2 = false ∧ (mx_cY c k = .int ∨ (mx_cY c k = .boolean ∧ mx_bl c k = true)) := by decide +kernel
theorem mx_layG {c : Nat} (hc : c < 8) : ∀ w ∈ u_ws (mx_cS c) (mx_cT c) (mx_nF c), w ∈ mx_G := by
  intro w hw
  refine mx_inG ((mx_inT c hc).2 w hw) ?_
  obtain ⟨k, -, rfl⟩ := List.mem_map.mp hw
  unfold u_lay
  split <;> rfl
section MXW
variable {p : Program} {l : Launch} {e : Env} {R : Room} {s : State} {m : MethodId} {args : Array Value} {below : List Frame} {meth : Method} {c : Code} {H : Heap} {locs : List Loc} {cells slots : Nat} {Q : State → Prop}
variable {adr : Nat → Nat} {ca : Nat → ClassId} {D : va_G} {A : Nat → Prop}
theorem mx_callrow {pc : Nat} {ls : Array Slot} {rest st0 : List Value} {a : Array Value} {q : mx_R} (hr : va_Run p l e R s m args below meth c H locs 0 0 0 0 (F0 m pc ls st0) rest (mx_Qc adr ca D A q a) A) (hS : va_S A s.heap H locs)
    (kk : ∀ (H1 : Heap) (locs1 : List Loc), va_P D vwCl (mx_ws adr ca q.2) H1 → va_S A s.heap H1 locs1 → W p l e R s m args below meth c H1 locs1 0 0 Q (F0 m (pc + 3) ls ((q.1.map (mx_cv adr)).toList ++ rest))) : W p l e R s m args below meth c H locs 0 0 Q (F0 m pc ls st0) := by
  intro T hT X
  obtain ⟨v, st₀, t, T', L, h0, X', hL, e1, e2, ⟨hv, hp, hz, hk⟩, st⟩ := hr T hT X
  cases hv
  rw [h0] at hz hk
  obtain ⟨t2, a1, b1⟩ := kk T'.heap (locs ++ L) (by rw [e1]; exact hp)
    ⟨Nat.le_trans hS.1 (by rw [e1]; exact hz), fun q h1 h2 => by rw [e1, hk q (Nat.lt_of_lt_of_le h1 hS.1) h2]; exact hS.2.1 q h1 h2, fun q hq => by
      rcases List.mem_append.mp hq with h | h
      · exact hS.2.2 q h
      · exact hL q h⟩ T' rfl X'
  exact ⟨t2, st t2 a1, b1⟩
theorem mx_if {pc : Nat} {ls : Array Slot} {rest : List Value} {cc : ByteArray} (hx : p.tables.exec = Jvm.exec) (hb : c.code = cc) {x : Int32} {k : ClassFile.Cond} {off : Int} (hd : decode cc pc = .ok (.ifCond k off, 3)) (h0 : 0 ≤ (pc : Int) + off)
    (kt : mx_c2 k x 0 → W p l e R s m args below meth c H locs cells slots Q (F0 m (mx_tg pc off) ls rest)) (kf : ¬ mx_c2 k x 0 → W p l e R s m args below meth c H locs cells slots Q (F0 m (pc + 3) ls rest)) : W p l e R s m args below meth c H locs cells slots Q (F0 m pc ls (.int x :: rest)) := by
  have ht : (pc : Int) + off = (mx_tg pc off : Int) := (Int.toNat_of_nonneg h0).symm
  cases k with
  | eq => exact lv_if_eq hx hb hd ht kt kf
  | ne => exact lv_if_ne hx hb hd ht kt (fun h => kf (fun z => z h))
  | lt => exact lv_if_lt hx hb hd ht kt kf
  | ge => exact lv_if_ge hx hb hd ht kt kf
  | gt => exact lv_if_gt hx hb hd ht kt kf
  | le => exact lv_if_le hx hb hd ht kt kf
theorem mx_icmp {pc : Nat} {ls : Array Slot} {rest : List Value} {cc : ByteArray} (hx : p.tables.exec = Jvm.exec) (hb : c.code = cc) {x y : Int32} {k : ClassFile.Cond} {off : Int} (hd : decode cc pc = .ok (.if_icmp k off, 3)) (h0 : 0 ≤ (pc : Int) + off)
    (kt : mx_c2 k x y → W p l e R s m args below meth c H locs cells slots Q (F0 m (mx_tg pc off) ls rest)) (kf : ¬ mx_c2 k x y → W p l e R s m args below meth c H locs cells slots Q (F0 m (pc + 3) ls rest)) : W p l e R s m args below meth c H locs cells slots Q (F0 m pc ls (.int y :: .int x :: rest)) := by
  have ht : (pc : Int) + off = (mx_tg pc off : Int) := (Int.toNat_of_nonneg h0).symm
  cases k with
  | eq => exact lv_icmp_eq hx hb hd ht kt kf
  | ne => exact lv_icmp_ne hx hb hd ht kt (fun h => kf (fun z => z h))
  | lt => exact lv_icmp_lt hx hb hd ht kt kf
  | ge => exact lv_icmp_ge hx hb hd ht kt kf
  | gt => exact lv_icmp_gt hx hb hd ht kt kf
  | le => exact lv_icmp_le hx hb hd ht kt kf
end MXW
