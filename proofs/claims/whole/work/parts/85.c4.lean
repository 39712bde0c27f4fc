section CNS
variable {p : Program} {l : Launch} {e : Env} {R : Room} {s : State} {m : MethodId} {args : Array Value} {below : List Frame} {meth : Method} {c : Code} {H : Heap} {locs : List Loc} {cells slots : Nat} {Q : State → Prop}
variable {ca : Nat → ClassId} {D : va_G} {A : Nat → Prop} {pc : Nat} {ls : Array Slot} {rest : List Value} {ws : va_W} {M : mx_M} {h0 d mc ms : Nat}
theorem cn_get (F : cn_fx p s m args meth c ca D M) (hM : M.1 < 8) {index k : Nat} (hf : mx_fT M.1 index = some (M.1, k)) {v : Value} {fs : List Value} {Rw : va_W} (hv : fs[k]? = some v) (hdg : decode M.2.2.1 pc = .ok (.getfield index, 3)) (hw : cn_St D A s.heap ((h0, .inr (M.1, fs)) :: Rw) H locs)
    (kk : W p l e R s m args below meth c H locs cells slots Q (F0 m (pc + 3) ls (v :: rest))) : W p l e R s m args below meth c H locs cells slots Q (F0 m pc ls (.ref h0 :: rest)) := by
  obtain ⟨⟨hx, hb, hml, hown, hts, hK⟩, hr, hlocks, hin⟩ := F
  obtain ⟨f1, f2, f3⟩ := mx_fT_ok hf
  exact va_get (C := mx_cS M.1) (T := mx_cT M.1) (N := mx_nF M.1) (ci := M.1) hx hb hts (mx_layG hM) hown hK.1 hw.1 0 rfl (mx_inT M.1 hM).1 k f3 (hts _ f1) (fun x hx => hx) hv hdg kk
theorem cn_ast (F : cn_fx p s m args meth c ca D M) {q0 qk t0 ci a v n : Nat} {cA : ClassId} {vs : List Value} {f : Nat → Option Nat} {i : Int32} (hc : ci < 8) (ha : ws[q0]? = some (a, .inl (cA, n, .inr (.inr (.inr (.inr f)))))) (ht : (mx_tys ca)[t0]? = some (cA, .object (mx_cS ci))) (hv : ws[qk]? = some (v, .inr (ci, vs))) (hin : vp_in i n) (hdg : decode M.2.2.1 pc = .ok (.aastore, 1)) (hw : cn_St D A s.heap ws H locs)
    (kk : ∀ (H1 : Heap) (locs1 : List Loc), cn_St D A s.heap (ws.set q0 (a, .inl (cA, n, .inr (.inr (.inr (.inr (va_up f i.toNatClampNeg (some v)))))))) H1 locs1 → W p l e R s m args below meth c H1 locs1 cells slots Q (F0 m (pc + 1) ls rest)) : W p l e R s m args below meth c H locs cells slots Q (F0 m pc ls (.ref v :: .int i :: .ref a :: rest)) := by
  obtain ⟨⟨hx, hb, hml, hown, hts, hK⟩, hr, hlocks, hin2⟩ := F
  obtain ⟨hP, hD, hS⟩ := hw
  exact va_astq (r := (mx_cS ci, mx_cT ci, mx_nF ci)) hx hb hK.1 hP hD hS q0 t0 qk ci ha ht hv (mx_inT ci hc).1 hin hdg (fun H1 locs1 hP hD hS => kk H1 locs1 ⟨hP, hD, hS⟩)
end CNS
def cn_up (r : Nat → Nat) (i q : Nat) : Nat → Nat := fun j => if j = i then q else r j
theorem cn_rng {r : Nat → Nat} {f : Nat → va_E} {i q : Nat} : (List.range (i + 1)).map (fun j => (cn_up r i q j, f j)) = (List.range i).map (fun j => (r j, f j)) ++ [(q, f i)] := by
  rw [List.range_succ, List.map_append]
  congr 1
  · refine List.map_congr_left (fun j hj => ?_)
    have := List.mem_range.mp hj
    rw [cn_up, if_neg (by omega)]
  · simp [cn_up]
theorem cn_upf {r : Nat → Nat} {i q : Nat} (h : i < 2147483648) : va_up (fun j => if j < i then some (r j) else none) (nI i).toNatClampNeg (some q) = fun j => if j < i + 1 then some (cn_up r i q j) else none := by
  rw [clN h]
  funext j
  unfold va_up cn_up
  by_cases e : j = i
  · subst e
    rw [if_pos rfl, if_pos (Nat.lt_succ_self _), if_pos rfl]
  · rw [if_neg e]
    dsimp only
    by_cases g : j < i
    · rw [if_pos g, if_pos (by omega), if_neg e]
    · rw [if_neg g, if_neg (by omega)]
theorem cn_f0 : ∀ j, j < mx_nF 0 → defaultValue (mx_cY 0 j) = vp_V (cn_z 10) j := by
  intro j hj
  have hj : j < 10 := hj
  rcases j with _ | _ | _ | _ | _ | _ | _ | _ | _ | _ | j <;> first | rfl | omega
theorem cn_f1 : ∀ j, j < mx_nF 1 → defaultValue (mx_cY 1 j) = vp_V [.null, .null, .int 0] j := by
  intro j hj
  have hj : j < 3 := hj
  rcases j with _ | _ | _ | j <;> first | rfl | omega
theorem cn_f2 : ∀ j, j < mx_nF 2 → defaultValue (mx_cY 2 j) = vp_V [.null, .null, .null, .null, .int 0, .int 0, .int 0] j := by
  intro j hj
  have hj : j < 7 := hj
  rcases j with _ | _ | _ | _ | _ | _ | _ | j <;> first | rfl | omega
theorem cn_f3 : ∀ j, j < mx_nF 3 → defaultValue (mx_cY 3 j) = vp_V [.int 0, .int 0, .int 0, .null, .null] j := by
  intro j hj
  have hj : j < 5 := hj
  rcases j with _ | _ | _ | _ | _ | j <;> first | rfl | omega
theorem cn_f4 : ∀ j, j < mx_nF 4 → defaultValue (mx_cY 4 j) = vp_V [.null, .int 0, .int 0] j := by
  intro j hj
  have hj : j < 3 := hj
  rcases j with _ | _ | _ | j <;> first | rfl | omega
theorem cn_f5 : ∀ j, j < mx_nF 5 → defaultValue (mx_cY 5 j) = vp_V [.null, .null, .int 0, .int 0, .int 0] j := by
  intro j hj
  have hj : j < 5 := hj
  rcases j with _ | _ | _ | _ | _ | j <;> first | rfl | omega
section CNQ
variable {p : Program} {l : Launch} {e : Env} {s : State} {m : MethodId} {args : Array Value} {below : List Frame} {meth : Method} {c : Code} {D : va_G} {ca : Nat → ClassId} {h0 q1 q2 q3 q4 : Nat}
def cn_search (ca : Nat → ClassId) (h0 q1 q2 q3 q4 : Nat) (r : Nat → Nat) (i : Nat) : va_W := (h0, .inr (2, [.ref q1, .ref q2, .ref q3, .ref q4, .int 0, .int 0, .int 0])) :: (q1, .inl (ca 13, 7, .inr (.inr (.inr (.inr (fun j => if j < i then some (r j) else none)))))) :: (q2, .inl (ca 8, 6, .inl (fun _ => 0))) :: (q3, .inl (ca 8, 6, .inl (fun _ => 0))) :: (q4, .inl (ca 10, 6, .inl (fun _ => 0))) :: (List.range i).map (fun j => (r j, .inr (0, cn_z 10)))
theorem cn_search1 {r : Nat → Nat} {i q : Nat} (h : i < 2147483648) : List.set (cn_search ca h0 q1 q2 q3 q4 r i ++ [((q, .inr (0, cn_z 10)) : Nat × va_E)]) 1 ((q1, .inl (ca 13, 7, .inr (.inr (.inr (.inr (va_up (fun j => if j < i then some (r j) else none) (nI i).toNatClampNeg (some q))))))) : Nat × va_E) = cn_search ca h0 q1 q2 q3 q4 (cn_up r i q) (i + 1) := by
  rw [cn_upf h]
  unfold cn_search
  rw [cn_rng]
  rfl
theorem c_X2_loop (F : cn_fx p s m args meth c ca D m_X2_init) : ∀ (n i : Nat), i ≤ 7 → 8 ≤ i + n → ∀ (r : Nat → Nat) (H : Heap) (locs : List Loc) (ls : Array Slot) (cells slots : Nat), lv_has ls 2 [(0, .ref h0), (1, .int (nI i))] → cn_St D (cn_A h0 s.heap.size) s.heap (cn_search ca h0 q1 q2 q3 q4 r i) H locs → cells + (7 - i) ≤ 11 → slots + 10 * (7 - i) ≤ 95 → W p l e (cn_rm 2 11 95) s m args below meth c H locs cells slots (MQ below (cn_Qc D h0 s.heap.size (fun w1 => ∃ (q1 q2 q3 q4 : Nat) (r : Nat → Nat), w1 = cn_search ca h0 q1 q2 q3 q4 r 7)) args s 11 95 (cn_A h0 s.heap.size)) (F0 m 39 ls []) := by
  obtain ⟨hx, hb, hml, hown, hts, hK⟩ := id F.1
  have hA : ∀ q, s.heap.size ≤ q → cn_A h0 s.heap.size q := fun q h => Or.inr h
  intro n
  induction n with
  | zero => intro i h1 h2; exact absurd h2 (by omega)
  | succ n ih =>
    intro i hi hin r H locs ls cells slots hl hw hc hs
    refine lv_iload_n hx hb dX2_init_39 rfl (lv_at hl 1 rfl) ?_
    refine lv_bipush (v := 6) hx hb dX2_init_40 (by decide) ?_
    refine lv_icmp_gt (tgt := 64) hx hb dX2_init_42 (by decide) (fun hgt => ?_) (fun hgt => ?_)
    · have h7 : i = 7 := by
        have h6 : (6 : Int32).toInt = 6 := rfl
        rw [l32, nI_toInt (by omega), h6] at hgt
        omega
      subst h7
      exact cn_ret F (by omega) (by omega) dX2_init_64 hw ⟨q1, q2, q3, q4, r, rfl⟩
    · have hlt : i < 7 := by
        have h6 : (6 : Int32).toInt = 6 := rfl
        rw [l32, nI_toInt (by omega), h6] at hgt
        omega
      refine lv_aload_n hx hb dX2_init_45 rfl (lv_at hl 0 rfl) ?_
      refine cn_get F (by decide) (k := 0) (by decide +kernel) rfl dX2_init_46 hw ?_
      refine lv_iload_n hx hb dX2_init_49 rfl (lv_at hl 1 rfl) ?_
      refine cn_new F.1 hA (ci := 0) (by decide) (mx_inG (mx_at 118 (by decide +kernel)) rfl) (mx_inG (mx_at 73 (by decide +kernel)) rfl) (mx_inG (mx_at 4 (by decide +kernel)) rfl) cn_f0 (by show cells + 1 ≤ 11; omega) (by show slots + 10 ≤ 95; omega) dX2_init_50 hw (fun q H hw => ?_)
      refine lv_dup hx hb dX2_init_53 rfl ?_
      refine cn_callN F.1 hA (M' := m_X0_init) (as := []) (rest := [.ref q, .int (nI i), .ref q1]) (c_X0 (ca := ca) (D := D)) ck_X0 rfl hK.2.2.2.2.2.2.2.1 (by decide) hl.1 (Nat.le_of_ble_eq_true rfl) dX2_init_54 ⟨by show cells + 1 + 0 ≤ 11; omega, by show slots + 10 + 0 ≤ 95; omega⟩ hw (fun H locs w1 hB hw => ?_)
      subst hB
      refine cn_ast F (ci := 0) (q0 := 1) (t0 := 5) (qk := (cn_search ca h0 q1 q2 q3 q4 r i).length) (by decide) rfl rfl (by rw [List.getElem?_append_right (Nat.le_refl _), Nat.sub_self]; rfl) (nI_in hlt (by decide)) dX2_init_57 hw (fun H locs hw => ?_)
      rw [cn_search1 (show i < 2147483648 by omega)] at hw
      refine lv_iinc (v := nI (i + 1)) (lv' := [(1, .int (nI (i + 1))), (0, .ref h0)]) hx hb dX2_init_58 hl (k := 1) rfl (nI_1 i) (by decide) rfl (fun ls hl => ?_)
      refine lv_goto (tgt := 39) hx hb dX2_init_61 (by decide) ?_
      exact ih (i + 1) hlt (by omega) _ _ _ _ _ _ (lv_sub hl [1, 0] rfl) hw (by show cells + 1 + 0 + (7 - (i + 1)) ≤ 11; omega) (by show slots + 10 + 0 + 10 * (7 - (i + 1)) ≤ 95; omega)
theorem c_X2 : cn_Met l D ca m_X2_init 2 11 95 [.null, .null, .null, .null, .int 0, .int 0, .int 0] [] (fun h0 w1 => ∃ (q1 q2 q3 q4 : Nat) (r : Nat → Nat), w1 = cn_search ca h0 q1 q2 q3 q4 r 7) := by
  refine cn_intro ck_X2 (fun _ => Nat.le_of_ble_eq_true rfl) ?_
  intro h0 p e s m args below meth c ls F hl hw
  obtain ⟨hx, hb, hml, hown, hts, hK⟩ := id F.1
  have hA : ∀ q, s.heap.size ≤ q → cn_A h0 s.heap.size q := fun q h => Or.inr h
  have hl : lv_has ls 2 [(0, .ref h0)] := hl
  refine lv_aload_n hx hb dX2_init_0 rfl (lv_at hl 0 rfl) ?_
  refine cn_obj F (index := 3) (mx_inG (mx_at 117 (by decide +kernel)) rfl) hl.1 dX2_init_1 ?_
  refine lv_aload_n hx hb dX2_init_4 rfl (lv_at hl 0 rfl) ?_
  refine lv_bipush (v := 7) hx hb dX2_init_5 (by decide) ?_
  refine cn_newq F.1 hA (C := RX0) (k := 13) (t0 := 5) rfl hK.2.2.2.1 (mx_inG (mx_at 118 (by decide +kernel)) rfl) (N := 7) (by decide) rfl (by decide) (Nat.le_of_ble_eq_true rfl) (Nat.le_of_ble_eq_true rfl) dX2_init_7 hw (fun q1 H hw => ?_)
  refine cn_put F (by decide) (k := 0) (by decide +kernel) rfl rfl rfl (Nat.le_of_ble_eq_true rfl) dX2_init_10 hw (fun H locs hw => ?_)
  refine lv_aload_n hx hb dX2_init_13 rfl (lv_at hl 0 rfl) ?_
  refine lv_bipush (v := 6) hx hb dX2_init_14 (by decide) ?_
  refine cn_newa F.1 hA (atype := .int) (ty := .int) (k := 8) (t0 := 0) rfl rfl (fun _ h => h) (mx_inG (mx_at 52 (by decide +kernel)) rfl) (N := 6) (a0 := (6, .inl (fun _ => 0))) (fun _ => rfl) (by decide) rfl (by decide) (Nat.le_of_ble_eq_true rfl) (Nat.le_of_ble_eq_true rfl) dX2_init_16 hw (fun q2 H hw => ?_)
  refine cn_put F (by decide) (k := 1) (by decide +kernel) rfl rfl rfl (Nat.le_of_ble_eq_true rfl) dX2_init_18 hw (fun H locs hw => ?_)
  refine lv_aload_n hx hb dX2_init_21 rfl (lv_at hl 0 rfl) ?_
  refine lv_bipush (v := 6) hx hb dX2_init_22 (by decide) ?_
  refine cn_newa F.1 hA (atype := .int) (ty := .int) (k := 8) (t0 := 0) rfl rfl (fun _ h => h) (mx_inG (mx_at 52 (by decide +kernel)) rfl) (N := 6) (a0 := (6, .inl (fun _ => 0))) (fun _ => rfl) (by decide) rfl (by decide) (Nat.le_of_ble_eq_true rfl) (Nat.le_of_ble_eq_true rfl) dX2_init_24 hw (fun q3 H hw => ?_)
  refine cn_put F (by decide) (k := 2) (by decide +kernel) rfl rfl rfl (Nat.le_of_ble_eq_true rfl) dX2_init_26 hw (fun H locs hw => ?_)
  refine lv_aload_n hx hb dX2_init_29 rfl (lv_at hl 0 rfl) ?_
  refine lv_bipush (v := 6) hx hb dX2_init_30 (by decide) ?_
  refine cn_newa F.1 hA (atype := .boolean) (ty := .boolean) (k := 10) (t0 := 2) rfl rfl (fun _ h => h) (mx_inG (mx_at 145 (by decide +kernel)) rfl) (N := 6) (a0 := (6, .inl (fun _ => 0))) (fun _ => rfl) (by decide) rfl (by decide) (Nat.le_of_ble_eq_true rfl) (Nat.le_of_ble_eq_true rfl) dX2_init_32 hw (fun q4 H hw => ?_)
  refine cn_put F (by decide) (k := 3) (by decide +kernel) rfl rfl rfl (Nat.le_of_ble_eq_true rfl) dX2_init_34 hw (fun H locs hw => ?_)
  refine lv_iconst (v := 0) hx hb dX2_init_37 (by decide) ?_
  refine lv_istore_n (lv' := [(1, .int (nI 0)), (0, .ref h0)]) hx hb dX2_init_38 rfl hl (by decide) rfl (fun ls hl => ?_)
  refine c_X2_loop (q1 := q1) (q2 := q2) (q3 := q3) (q4 := q4) F 8 0 (by decide) (by decide) (fun _ => 0) _ _ _ _ _ (lv_sub hl [1, 0] rfl) ?_ (by decide) (by decide)
  have e9 : (fun _ => none : Nat → Option Nat) = (fun j => if j < 0 then some ((fun _ : Nat => 0) j) else none) := by
    funext j
    rw [if_neg (Nat.not_lt_zero _)]
  have hw : cn_St D (cn_A h0 s.heap.size) s.heap ((h0, .inr (2, [.ref q1, .ref q2, .ref q3, .ref q4, .int 0, .int 0, .int 0])) :: (q1, .inl (ca 13, 7, .inr (.inr (.inr (.inr (fun _ => none)))))) :: (q2, .inl (ca 8, 6, .inl (fun _ => 0))) :: (q3, .inl (ca 8, 6, .inl (fun _ => 0))) :: (q4, .inl (ca 10, 6, .inl (fun _ => 0))) :: []) H locs := hw
  rw [e9] at hw
  exact hw
end CNQ
