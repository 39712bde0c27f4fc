/-! ===== the law from its entry ===== -/
section ST
variable {args : Array Value} {s : State}
theorem st_arr {ty : FieldType} (h : (Cond.arrayClass ty).before args s = true) : ∃ cA : ClassId, ArrOfT s cA ty ∧ s.vm.findClass ("[" ++ ty.toString) = some cA := by
  obtain ⟨c, k, comp, h1, h2, h3⟩ := Cond.arrayClass_spec h
  exact ⟨c, fun n z => ⟨fun k h => (by cases h), k, h2, comp, h3⟩, h1⟩
theorem st_arrO {C : String} (h : (Cond.arrayOver (.object C)).before args s = true) : ∃ cA : ClassId, ArrOfT s cA (.object C) ∧ va_RA s cA (.object C) := by
  obtain ⟨comp, c, k, h1, h2, h3, h4, h5⟩ := Cond.arrayOver_spec h
  exact ⟨c, fun n z => ⟨fun k h => (by cases h), k, h3, comp, h4⟩, k, comp, h3, h4, h1, h5⟩
theorem st_arrA {t : FieldType} (h : (Cond.arrayOver (.array t)).before args s = true) : ∃ (comp c : ClassId) (k : Class), s.vm.findClass (FieldType.array t).toString = some comp ∧ s.vm.classes[c]? = some k ∧ k.kind = .array comp (.array t) ∧ s.vm.findClass ("[" ++ (FieldType.array t).toString) = some c := by
  simp only [Cond.before, Cond.holds, Cond.value, beq_iff_eq] at h
  cases hc : s.vm.findClass (FieldType.array t).toString with
  | none => rw [hc] at h; cases h
  | some comp =>
    rw [hc, Option.bind_some] at h
    obtain ⟨c, hi, h⟩ := Option.bind_eq_some_iff.mp h
    obtain ⟨k, hk, h⟩ := Option.map_eq_some_iff.mp h
    obtain ⟨hlt, hp, -⟩ := Array.findIdx?_eq_some_iff_getElem.mp hi
    have hkk : s.vm.classes[c] = k := (Array.getElem?_eq_some_iff.mp hk).2
    rw [hkk] at hp
    refine ⟨comp, c, k, rfl, hk, ?_⟩
    cases hkind : k.kind with
    | array cp ty =>
      rw [hkind] at h hp
      have hp2 : cp = comp := by simpa using hp
      have h2 : ty = .array t ∧ s.vm.findClass ("[" ++ (FieldType.array t).toString) = some c := by simpa using h
      exact ⟨by rw [hp2, h2.1], h2.2⟩
    | _ => rw [hkind] at h; cases h
end ST
theorem cn_f6 : ∀ j, j < mx_nF 6 → defaultValue (mx_cY 6 j) = vp_V [.null, .null, .null, .null, .null, .null, .null, .null, .int 0, .null, .null, .null, .null, .null, .null] j := by
  show ∀ j, j < 15 → _
  decide +kernel
/-- the classes, as the tables have them -/
theorem st_D {args : Array Value} {s : State} (hts : ∀ w ∈ lw_tbl, w.before args s = true) : ∃ D : va_G, ∀ (k : Nat) (q : vw_C), vwCl[k]? = some q → u_Kn s q.1 q.2.1 q.2.2 (D.1 k) (D.2 k) := by
  obtain ⟨c0, i0, k0⟩ := u_known (C := RX0) (T := TX0) (N := 10) (n := 10) hts mx_in0 (hts _ (mx_at 73 (by decide +kernel)))
  obtain ⟨c1, i1, k1⟩ := u_known (C := RX1) (T := TX1) (N := 3) (n := 3) hts mx_in1 (hts _ (mx_at 54 (by decide +kernel)))
  obtain ⟨c2, i2, k2⟩ := u_known (C := RX2) (T := TX2) (N := 7) (n := 7) hts mx_in2 (hts _ (mx_at 113 (by decide +kernel)))
  obtain ⟨c3, i3, k3⟩ := u_known (C := RX3) (T := TX3) (N := 5) (n := 5) hts mx_in3 (hts _ (mx_at 22 (by decide +kernel)))
  obtain ⟨c4, i4, k4⟩ := u_known (C := RX4) (T := TX4) (N := 3) (n := 3) hts mx_in4 (hts _ (mx_at 176 (by decide +kernel)))
  obtain ⟨c5, i5, k5⟩ := u_known (C := RX5) (T := TX5) (N := 5) (n := 5) hts mx_in5 (hts _ (mx_at 147 (by decide +kernel)))
  obtain ⟨c6, i6, k6⟩ := u_known (C := RX6) (T := TX6) (N := 15) (n := 15) hts mx_in6 (hts _ (mx_at 14 (by decide +kernel)))
  obtain ⟨c7, i7, k7⟩ := u_known (C := RX7) (T := TX7) (N := 33) (n := 33) hts mx_in7 (hts _ (mx_at 606 (by decide +kernel)))
  refine ⟨(fun k => match k with | 0 => c0 | 1 => c1 | 2 => c2 | 3 => c3 | 4 => c4 | 5 => c5 | 6 => c6 | _ => c7, fun k => match k with | 0 => i0 | 1 => i1 | 2 => i2 | 3 => i3 | 4 => i4 | 5 => i5 | 6 => i6 | _ => i7), ?_⟩
  intro k q hq
  match k, hq with
  | 0, hq => cases hq; exact k0
  | 1, hq => cases hq; exact k1
  | 2, hq => cases hq; exact k2
  | 3, hq => cases hq; exact k3
  | 4, hq => cases hq; exact k4
  | 5, hq => cases hq; exact k5
  | 6, hq => cases hq; exact k6
  | 7, hq => cases hq; exact k7
  | k + 8, hq => cases hq
theorem st_K {args : Array Value} {s : State} (hts : ∀ w ∈ lw_tbl, w.before args s = true) : ∃ (D : va_G) (ca : Nat → ClassId), cn_K D ca s := by
  obtain ⟨D, hKc⟩ := st_D hts
  obtain ⟨a8, A8, F8⟩ := st_arr (ty := .int) (hts _ (mx_at 52 (by decide +kernel)))
  obtain ⟨a9, A9, F9⟩ := st_arr (ty := .byte) (hts _ (mx_at 173 (by decide +kernel)))
  obtain ⟨a10, A10, F10⟩ := st_arr (ty := .boolean) (hts _ (mx_at 145 (by decide +kernel)))
  obtain ⟨a11, A11, F11⟩ := st_arr (ty := .long) (hts _ (mx_at 193 (by decide +kernel)))
  obtain ⟨p12, a12, k12, f12, g12, h12, F12⟩ := st_arrA (t := .int) (hts _ (mx_at 28 (by decide +kernel)))
  obtain ⟨a13, A13, F13⟩ := st_arrO (C := RX0) (hts _ (mx_at 119 (by decide +kernel)))
  obtain ⟨a14, A14, F14⟩ := st_arrO (C := RX4) (hts _ (mx_at 175 (by decide +kernel)))
  obtain ⟨p15, a15, k15, f15, g15, h15, F15⟩ := st_arrA (t := .long) (hts _ (mx_at 612 (by decide +kernel)))
  have e12 : p12 = a8 := Option.some.inj (f12.symm.trans F8)
  have e15 : p15 = a11 := Option.some.inj (f15.symm.trans F11)
  subst e12
  subst e15
  have A12 : ArrOfT s a12 (.array .int) := fun n z => ⟨fun k h => (by cases h), k12, g12, _, h12⟩
  have A15 : ArrOfT s a15 (.array .long) := fun n z => ⟨fun k h => (by cases h), k15, g15, _, h15⟩
  refine ⟨D, fun k => match k with | 8 => p12 | 9 => a9 | 10 => a10 | 11 => p15 | 12 => a12 | 13 => a13 | 14 => a14 | _ => a15, ⟨hKc, ?_⟩, ⟨⟨k12, g12, h12⟩, F12⟩, ⟨⟨k15, g15, h15⟩, F15⟩, va_AO.of (hts _ (mx_at 119 (by decide +kernel))), va_AO.of (hts _ (mx_at 175 (by decide +kernel))), va_Nw.of rfl (hts _ (mx_at 23 (by decide +kernel))), va_Nw.of rfl (hts _ (mx_at 74 (by decide +kernel))), va_Nw.of rfl (hts _ (mx_at 120 (by decide +kernel))), va_Nw.of rfl (hts _ (mx_at 148 (by decide +kernel))), va_Nw.of rfl (hts _ (mx_at 177 (by decide +kernel)))⟩
  intro k q hq
  match k, hq with
  | 0, hq => cases hq; exact ⟨A8, F8⟩
  | 1, hq => cases hq; exact ⟨A9, F9⟩
  | 2, hq => cases hq; exact ⟨A10, F10⟩
  | 3, hq => cases hq; exact ⟨A11, F11⟩
  | 4, hq => cases hq; exact ⟨A12, F12⟩
  | 5, hq => cases hq; exact ⟨A13, F13⟩
  | 6, hq => cases hq; exact ⟨A14, F14⟩
  | 7, hq => cases hq; exact ⟨A15, F15⟩
  | k + 8, hq => cases hq
abbrev st_tm : Term := .static "PressHalls" "MOST_OF_VALUE" "[I"
theorem st_Z {args : Array Value} {s : State} (hts : ∀ w ∈ lw_tbl, w.before args s = true) (hgv : (Jvm.Cond.and given_1 narrow_1).before args s = true) : ∃ t : Nat, ∀ adr : Nat → Nat, adr 114 = t → mx_Z adr (lw_A s) s := by
  have hs := flat_of_before _ hgv
  have hNo : ∀ a : Nat, a < s.heap.size → ¬ lw_A s a := fun a h => Nat.not_le.mpr h
  obtain ⟨t, ht, hT⟩ := va_Tof (tm := st_tm) (ty := .int) (N := 6) (f := fun j => .int (mx_tab j)) (A := lw_A s) (by decide) (hs (.arrayOf st_tm .int) (by decide +kernel)) (va_eqt (z := 6) (hs (.eq (.length st_tm) (.int 6)) (by decide +kernel))) (fun j hj => by
    rcases (show j = 0 ∨ j = 1 ∨ j = 2 ∨ j = 3 ∨ j = 4 ∨ j = 5 by omega) with rfl | rfl | rfl | rfl | rfl | rfl
    · exact va_eqt (z := 30) (hs (.eq (.elem st_tm (.int 0)) (.int 30)) (by decide +kernel))
    · exact va_eqt (z := 30) (hs (.eq (.elem st_tm (.int 1)) (.int 30)) (by decide +kernel))
    · exact va_eqt (z := 30) (hs (.eq (.elem st_tm (.int 2)) (.int 30)) (by decide +kernel))
    · exact va_eqt (z := 9) (hs (.eq (.elem st_tm (.int 3)) (.int 9)) (by decide +kernel))
    · exact va_eqt (z := 9) (hs (.eq (.elem st_tm (.int 4)) (.int 9)) (by decide +kernel))
    · exact va_eqt (z := 99) (hs (.eq (.elem st_tm (.int 5)) (.int 99)) (by decide +kernel))) hNo
  refine ⟨t, fun adr e => ?_⟩
  subst e
  exact ⟨va_Zof (hts _ (mx_at 248 (by decide +kernel))) (hts _ (mx_at 1 (by decide +kernel))) ht hNo, hT, va_Nw.of rfl (hts _ (mx_at 253 (by decide +kernel)))⟩
set_option maxHeartbeats 4000000 in
set_option maxRecDepth 100000 in
/-- THE LAW, from its entry -/
theorem whole_start {p : Program} {e : Env} {s : State} {m : MethodId} {below : List Frame} {meth : Method} {c : Code} (l : Launch) (hflags : l.flags = flags0) {b L : Nat} {xs : Nat → Int32} (hL : L ≤ 3072) (C0 : lw_At p s m meth c b L xs) : W p l e room_1 s m #[Value.ref b] below meth c s.heap [] 0 0 (lw_Z below #[Value.ref b] s) (entryFrame m ([Value.ref b] : List Value).toArray 4) := by
  obtain ⟨hx, hb, hr, hml, hown, hts, hX, hbl, hlocks, hgv⟩ := id C0
  have hA : ∀ q : Nat, s.heap.size ≤ q → lw_A s q := fun _ h => h
  obtain ⟨D, ca, hK⟩ := st_K hts
  obtain ⟨t, hZ⟩ := st_Z hts hgv
  have hl := lv_entry ([.ref b]) (n := 4) (Nat.le_of_ble_eq_true rfl)
  rw [lg_entry_eq]
  generalize (lg_sl ([.ref b]) ++ List.replicate (4 - (lg_sl ([.ref b])).length) Slot.unset).toArray = ls at hl ⊢
  have hl : lv_has ls 4 [(0, .ref b)] := hl
  have X : cn_cx p s m #[Value.ref b] c ca D cL_law 4 R_law := ⟨hx, hb, hml, hown, fun w hw => hts w (List.mem_filter.mp hw).1, hK⟩
  have hw0 : cn_St D (lw_A s) s.heap [] s.heap [] := ⟨fun k q h => (by cases h), ⟨fun i j p q h => (by cases h), fun k q h => (by cases h)⟩, va_S.rf⟩
  refine cn_new X hA (ci := 6) (index := 7) (by decide) (mx_inG (mx_at 13 (by decide +kernel)) rfl) (mx_inG (mx_at 14 (by decide +kernel)) rfl) (mx_inG (mx_at 1 (by decide +kernel)) rfl) cn_f6 (Nat.le_of_ble_eq_true rfl) (Nat.le_of_ble_eq_true rfl) dL_law_0 hw0 (fun q6 H hw => ?_)
  refine lv_dup hx hb dL_law_3 rfl ?_
  refine cn_call X hA (M' := m_X6_init) (as := []) (rest := [.ref q6]) (c_X6 (l := l) (D := D) (ca := ca)) ck_X6 rfl (mx_inG (mx_at 15 (by decide +kernel)) rfl) ⟨Nat.le_of_ble_eq_true rfl, Nat.le_of_ble_eq_true rfl⟩ hl.1 (Nat.le_of_ble_eq_true rfl) dL_law_4 ⟨Nat.le_of_ble_eq_true rfl, Nat.le_of_ble_eq_true rfl⟩ hw (fun H locs w6 hc hw => ?_)
  refine lv_astore_n (lv' := [(1, .ref q6), (0, .ref b)]) hx hb dL_law_7 rfl hl (by decide) rfl (fun ls hl => ?_)
  refine cn_new X hA (ci := 7) (index := 10) (by decide) (mx_inG (mx_at 605 (by decide +kernel)) rfl) (mx_inG (mx_at 606 (by decide +kernel)) rfl) (mx_inG (mx_at 8 (by decide +kernel)) rfl) cn_f7 (Nat.le_of_ble_eq_true rfl) (Nat.le_of_ble_eq_true rfl) dL_law_8 hw (fun q7 H hw => ?_)
  refine lv_dup hx hb dL_law_11 rfl ?_
  refine cn_call X hA (M' := m_X7_init) (as := []) (rest := [.ref q7]) (c_X7 (l := l) (D := D) (ca := ca)) ck_X7 rfl (mx_inG (mx_at 607 (by decide +kernel)) rfl) ⟨Nat.le_of_ble_eq_true rfl, Nat.le_of_ble_eq_true rfl⟩ hl.1 (Nat.le_of_ble_eq_true rfl) dL_law_12 ⟨Nat.le_of_ble_eq_true rfl, Nat.le_of_ble_eq_true rfl⟩ hw (fun H locs w7 hm hw => ?_)
  refine lv_astore_n (lv' := [(2, .ref q7), (1, .ref q6), (0, .ref b)]) hx hb dL_law_15 rfl hl (by decide) rfl (fun ls hl => ?_)
  refine lv_iconst (v := 0) hx hb dL_law_16 (by decide) ?_
  refine lv_istore_n (lv' := [(3, .int 0), (2, .ref q7), (1, .ref q6), (0, .ref b)]) hx hb dL_law_17 rfl hl (by decide) rfl (fun ls hl => ?_)
  refine W.widen (k := 600000) (n := 7302249) (Nat.le_of_ble_eq_true rfl) (Nat.le_of_ble_eq_true rfl) ?_
  obtain ⟨adr, e0, e88, e114, ew⟩ := cn_world (t := t) hc hm
  have hwz : cn_St D (lw_A s) s.heap (w6 ++ w7) H locs := hw
  rw [← ew] at hwz
  have hZz := hZ adr e114
  have hlz := hl
  subst e0
  subst e88
  exact lw_loop (adr := adr) (ca := ca) (D := D) ⟨hx, hb, hml, hown, hts, hX, hbl, hK.1, hZz⟩ hL hr hlocks (L + 1) 0 (Nat.zero_le _) (by omega) sg0 w00 H locs ls (lv_sub hlz [3, 2, 1, 0] rfl) vwX00 vwM00 hwz
