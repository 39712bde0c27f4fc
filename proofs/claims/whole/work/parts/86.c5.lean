/-! ===== what each constructor makes, by name ===== -/
def cb_halls (_ : Nat → ClassId) (h0 : Nat) (w1 : va_W) : Prop := w1 = [(h0, .inr (0, cn_z 10))]
def cb_rows (ca : Nat → ClassId) (n h0 : Nat) (w1 : va_W) : Prop := ∃ (q1 q2 : Nat), w1 = [(h0, .inr (1, [.ref q1, .ref q2, .int 0])), (q1, .inl (ca 8, n, .inl (fun _ => 0))), (q2, .inl (ca 8, n, .inl (fun _ => 0)))]
def cb_shop (ca : Nat → ClassId) (h0 : Nat) (w1 : va_W) : Prop := ∃ (q1 q8 : Nat) (r : Nat → Nat), w1 = (h0, .inr (3, [.int 0, .int 0, .int 0, .ref q1, .ref q8])) :: (((q1, .inl (ca 12, 6, .inr (.inr (.inr (.inr (fun j => if j < 6 then some (r j) else none)))))) :: (List.range 6).map (fun j => (r j, .inl (ca 8, 6, .inl (fun _ => 0))))) ++ [(q8, .inl (ca 8, 6, .inl (fun _ => 0)))])
def cb_text (ca : Nat → ClassId) (h0 : Nat) (w1 : va_W) : Prop := ∃ (q1 q2 : Nat) (r : Nat → Nat), w1 = (h0, .inr (5, [.ref q1, .ref q2, .int 0, .int 0, .int 0])) :: (q1, .inl (ca 9, 100, .inl (fun _ => 0))) :: (q2, .inl (ca 12, 12, .inr (.inr (.inr (.inr (fun j => if j < 12 then some (r j) else none)))))) :: (List.range 12).map (fun j => (r j, .inl (ca 8, 4, .inl (fun _ => 0))))
def cb_search (ca : Nat → ClassId) (h0 : Nat) (w1 : va_W) : Prop := ∃ (q1 q2 q3 q4 : Nat) (r : Nat → Nat), w1 = cn_search ca h0 q1 q2 q3 q4 r 7
def cn_tapes (ca : Nat → ClassId) (r u : Nat → Nat) (i : Nat) : va_W := (List.range i).flatMap (fun j => [(r j, .inr (4, [.ref (u j), .int (-1), .int 0])), (u j, .inl (ca 11, 60, .inr (.inl (fun _ => 0))))])
theorem cn_tapes1 {ca : Nat → ClassId} {r u : Nat → Nat} {i q v : Nat} : cn_tapes ca r u i ++ [(q, .inr (4, [.ref v, .int (-1), .int 0])), (v, .inl (ca 11, 60, .inr (.inl (fun _ => 0))))] = cn_tapes ca (cn_up r i q) (cn_up u i v) (i + 1) := by
  unfold cn_tapes
  rw [List.range_succ, List.flatMap_append]
  congr 1
  · rw [List.flatMap_def, List.flatMap_def]
    refine congrArg List.flatten (List.map_congr_left (fun j hj => ?_))
    have := List.mem_range.mp hj
    rw [cn_up, cn_up, if_neg (by omega), if_neg (by omega)]
  · simp [cn_up]
theorem cn_mid1 {X T w1 : va_W} {a : Nat × va_E} : (((X ++ [a]) ++ T) ++ w1)[X.length]? = some a := by
  rw [List.append_assoc, List.append_assoc, List.getElem?_append_right (Nat.le_refl _), Nat.sub_self]
  rfl
theorem cn_mid2 {X T w1 : va_W} {a b : Nat × va_E} : (((X ++ [a]) ++ T) ++ w1).set X.length b = (X ++ [b]) ++ (T ++ w1) := by
  rw [List.append_assoc, List.append_assoc, List.append_assoc, List.set_append_right _ _ (Nat.le_refl _), Nat.sub_self]
  rfl
section CN6
variable {p : Program} {l : Launch} {e : Env} {s : State} {m : MethodId} {args : Array Value} {below : List Frame} {meth : Method} {c : Code} {D : va_G} {ca : Nat → ClassId} {h0 qt : Nat}
theorem c_X6_loop (F : cn_fx p s m args meth c ca D m_X6_init) {fs : List Value} {Rw : va_W} {B : va_W → Prop} (hfs : fs[14]? = some (.ref qt)) (hB : ∀ r u : Nat → Nat, B ((((h0, .inr (6, fs)) :: Rw) ++ [(qt, .inl (ca 14, 6, .inr (.inr (.inr (.inr (fun j => if j < 6 then some (r j) else none))))))]) ++ cn_tapes ca r u 6)) : ∀ (n i : Nat), i ≤ 6 → 7 ≤ i + n → ∀ (r u : Nat → Nat) (H : Heap) (locs : List Loc) (ls : Array Slot) (cells slots : Nat), lv_has ls 2 [(0, .ref h0), (1, .int (nI i))] → cn_St D (cn_A h0 s.heap.size) s.heap ((((h0, .inr (6, fs)) :: Rw) ++ [(qt, .inl (ca 14, 6, .inr (.inr (.inr (.inr (fun j => if j < i then some (r j) else none))))))]) ++ cn_tapes ca r u i) H locs → cells + 2 * (6 - i) ≤ 87 → slots + 63 * (6 - i) ≤ 928 → W p l e (cn_rm 3 87 928) s m args below meth c H locs cells slots (MQ below (cn_Qc D h0 s.heap.size B) args s 87 928 (cn_A h0 s.heap.size)) (F0 m 165 ls []) := by
  obtain ⟨hx, hb, hml, hown, hts, hK⟩ := id F.1
  have hA : ∀ q, s.heap.size ≤ q → cn_A h0 s.heap.size q := fun q h => Or.inr h
  intro n
  induction n with
  | zero => intro i h1 h2; exact absurd h2 (by omega)
  | succ n ih =>
    intro i hi hin r u H locs ls cells slots hl hw hc hs
    refine lv_iload_n hx hb dX6_init_165 rfl (lv_at hl 1 rfl) ?_
    refine lv_bipush (v := 6) hx hb dX6_init_166 (by decide) ?_
    refine lv_icmp_ge (tgt := 190) hx hb dX6_init_168 (by decide) (fun hgt => ?_) (fun hgt => ?_)
    · have h7 : i = 6 := by
        have h6 : (6 : Int32).toInt = 6 := rfl
        rw [le32, nI_toInt (by omega), h6] at hgt
        omega
      subst h7
      exact cn_ret F (by omega) (by omega) dX6_init_190 hw (hB r u)
    · have hlt : i < 6 := by
        have h6 : (6 : Int32).toInt = 6 := rfl
        rw [le32, nI_toInt (by omega), h6] at hgt
        omega
      refine lv_aload_n hx hb dX6_init_171 rfl (lv_at hl 0 rfl) ?_
      refine cn_get F (by decide) (k := 14) (by decide +kernel) hfs dX6_init_172 hw ?_
      refine lv_iload_n hx hb dX6_init_175 rfl (lv_at hl 1 rfl) ?_
      refine cn_new F.1 hA (ci := 4) (by decide) (mx_inG (mx_at 174 (by decide +kernel)) rfl) (mx_inG (mx_at 176 (by decide +kernel)) rfl) (mx_inG (mx_at 7 (by decide +kernel)) rfl) cn_f4 (by show cells + 1 ≤ 87; omega) (by show slots + 3 ≤ 928; omega) dX6_init_176 hw (fun q H hw => ?_)
      refine lv_dup hx hb dX6_init_179 rfl ?_
      refine cn_callN F.1 hA (M' := m_X4_init) (as := []) (rest := [.ref q, .int (nI i), .ref qt]) (c_X4 (ca := ca) (D := D)) ck_X4 rfl hK.2.2.2.2.2.2.2.2.2 (by decide) hl.1 (Nat.le_of_ble_eq_true rfl) dX6_init_180 ⟨by show cells + 1 + 1 ≤ 87; omega, by show slots + 3 + 60 ≤ 928; omega⟩ hw (fun H locs w1 hB1 hw => ?_)
      obtain ⟨v, rfl⟩ := hB1
      refine cn_ast F (ci := 4) (q0 := ((h0, (.inr (6, fs) : va_E)) :: Rw).length) (t0 := 6) (qk := ((((h0, (.inr (6, fs) : va_E)) :: Rw) ++ [((qt, .inl (ca 14, 6, .inr (.inr (.inr (.inr (fun j => if j < i then some (r j) else none)))))) : Nat × va_E)]) ++ cn_tapes ca r u i).length) (by decide) cn_mid1 rfl (by rw [List.getElem?_append_right (Nat.le_refl _), Nat.sub_self]; rfl) (nI_in hlt (by decide)) dX6_init_183 hw (fun H locs hw => ?_)
      rw [cn_mid2, cn_upf (by omega), cn_tapes1] at hw
      refine lv_iinc (v := nI (i + 1)) (lv' := [(1, .int (nI (i + 1))), (0, .ref h0)]) hx hb dX6_init_184 hl (k := 1) rfl (nI_1 i) (by decide) rfl (fun ls hl => ?_)
      refine lv_goto (tgt := 165) hx hb dX6_init_187 (by decide) ?_
      exact ih (i + 1) hlt (by omega) _ _ _ _ _ _ _ (lv_sub hl [1, 0] rfl) hw (by show cells + 1 + 1 + 2 * (6 - (i + 1)) ≤ 87; omega) (by show slots + 3 + 60 + 63 * (6 - (i + 1)) ≤ 928; omega)
/-- what PressHalls() makes -/
def cb_class (ca : Nat → ClassId) (h0 : Nat) (wz : va_W) : Prop := ∃ (q0 q1 q2 q3 q4 q5 q6 q7 q8 q9 q10 q11 q12 q13 : Nat) (w0 w1 w2 w3 w4 w5 w6 w7 w8 w10 w11 w12 : va_W) (r u : Nat → Nat), cb_shop ca q0 w0 ∧ cb_rows ca 5 q1 w1 ∧ cb_rows ca 8 q2 w2 ∧ cb_rows ca 8 q3 w3 ∧ cb_shop ca q4 w4 ∧ cb_rows ca 5 q5 w5 ∧ cb_rows ca 8 q6 w6 ∧ cb_rows ca 8 q7 w7 ∧ cb_shop ca q8 w8 ∧ cb_halls ca q10 w10 ∧ cb_search ca q11 w11 ∧ cb_text ca q12 w12 ∧ wz = ((((h0, .inr (6, [.ref q0, .ref q1, .ref q2, .ref q3, .ref q4, .ref q5, .ref q6, .ref q7, .int 0, .ref q8, .ref q9, .ref q10, .ref q11, .ref q12, .ref q13])) :: ((((((((((((w0 ++ w1) ++ w2) ++ w3) ++ w4) ++ w5) ++ w6) ++ w7) ++ w8) ++ [(q9, .inl (ca 8, 6, .inl (fun _ => 0)))]) ++ w10) ++ w11) ++ w12)) ++ [(q13, .inl (ca 14, 6, .inr (.inr (.inr (.inr (fun j => if j < 6 then some (r j) else none))))))]) ++ cn_tapes ca r u 6)
set_option maxHeartbeats 8000000 in
set_option maxRecDepth 100000 in
theorem c_X6 : cn_Met l D ca m_X6_init 3 87 928 [.null, .null, .null, .null, .null, .null, .null, .null, .int 0, .null, .null, .null, .null, .null, .null] [] (cb_class ca) := by
  refine cn_intro ck_X6 (fun _ => Nat.le_of_ble_eq_true rfl) ?_
  intro h0 p e s m args below meth c ls F hl hw
  obtain ⟨hx, hb, hml, hown, hts, hK⟩ := id F.1
  have hA : ∀ q, s.heap.size ≤ q → cn_A h0 s.heap.size q := fun q h => Or.inr h
  have hl : lv_has ls 2 [(0, .ref h0)] := hl
  refine lv_aload_n hx hb dX6_init_0 rfl (lv_at hl 0 rfl) ?_
  refine cn_obj F (index := 3) (mx_inG (mx_at 18 (by decide +kernel)) rfl) hl.1 dX6_init_1 ?_
  refine lv_aload_n hx hb dX6_init_4 rfl (lv_at hl 0 rfl) ?_
  refine cn_new F.1 hA (ci := 3) (by decide) (mx_inG (mx_at 21 (by decide +kernel)) rfl) (mx_inG (mx_at 22 (by decide +kernel)) rfl) (mx_inG (mx_at 2 (by decide +kernel)) rfl) cn_f3 (Nat.le_of_ble_eq_true rfl) (Nat.le_of_ble_eq_true rfl) dX6_init_5 hw (fun q0 H hw => ?_)
  refine lv_dup hx hb dX6_init_8 rfl ?_
  refine cn_callN F.1 hA (M' := m_X3_init) (as := []) (rest := [.ref q0, .ref h0]) (c_X3 (ca := ca) (D := D)) ck_X3 rfl hK.2.2.2.2.2.1 (by decide) hl.1 (Nat.le_of_ble_eq_true rfl) dX6_init_9 ⟨(Nat.le_of_ble_eq_true rfl), (Nat.le_of_ble_eq_true rfl)⟩ hw (fun H locs w0 B0 hw => ?_)
  have B0 : cb_shop ca q0 w0 := B0
  refine cn_put F (by decide) (k := 0) (by decide +kernel) rfl rfl rfl (Nat.le_of_ble_eq_true rfl) dX6_init_12 hw (fun H locs hw => ?_)
  have hw : cn_St D (cn_A h0 s.heap.size) s.heap ((h0, .inr (6, [.ref q0, .null, .null, .null, .null, .null, .null, .null, .int 0, .null, .null, .null, .null, .null, .null])) :: w0) H locs := hw
  refine lv_aload_n hx hb dX6_init_15 rfl (lv_at hl 0 rfl) ?_
  refine cn_new F.1 hA (ci := 1) (by decide) (mx_inG (mx_at 53 (by decide +kernel)) rfl) (mx_inG (mx_at 54 (by decide +kernel)) rfl) (mx_inG (mx_at 3 (by decide +kernel)) rfl) cn_f1 (Nat.le_of_ble_eq_true rfl) (Nat.le_of_ble_eq_true rfl) dX6_init_16 hw (fun q1 H hw => ?_)
  refine lv_dup hx hb dX6_init_19 rfl ?_
  refine lv_iconst (v := 5) hx hb dX6_init_20 (by decide) ?_
  refine cn_call F.1 hA (M' := m_X1_init) (as := [.int (nI 5)]) (rest := [.ref q1, .ref h0]) (c_X1 5 (by decide) (ca := ca) (D := D)) ck_X1 rfl (mx_inG (mx_at 55 (by decide +kernel)) rfl) (by decide) hl.1 (Nat.le_of_ble_eq_true rfl) dX6_init_21 ⟨(Nat.le_of_ble_eq_true rfl), (Nat.le_of_ble_eq_true rfl)⟩ hw (fun H locs w1 B1 hw => ?_)
  have B1 : cb_rows ca 5 q1 w1 := B1
  refine cn_put F (by decide) (k := 1) (by decide +kernel) rfl rfl rfl (Nat.le_of_ble_eq_true rfl) dX6_init_24 hw (fun H locs hw => ?_)
  have hw : cn_St D (cn_A h0 s.heap.size) s.heap ((h0, .inr (6, [.ref q0, .ref q1, .null, .null, .null, .null, .null, .null, .int 0, .null, .null, .null, .null, .null, .null])) :: (w0 ++ w1)) H locs := hw
  refine lv_aload_n hx hb dX6_init_27 rfl (lv_at hl 0 rfl) ?_
  refine cn_new F.1 hA (ci := 1) (by decide) (mx_inG (mx_at 53 (by decide +kernel)) rfl) (mx_inG (mx_at 54 (by decide +kernel)) rfl) (mx_inG (mx_at 3 (by decide +kernel)) rfl) cn_f1 (Nat.le_of_ble_eq_true rfl) (Nat.le_of_ble_eq_true rfl) dX6_init_28 hw (fun q2 H hw => ?_)
  refine lv_dup hx hb dX6_init_31 rfl ?_
  refine lv_bipush (v := 8) hx hb dX6_init_32 (by decide) ?_
  refine cn_call F.1 hA (M' := m_X1_init) (as := [.int (nI 8)]) (rest := [.ref q2, .ref h0]) (c_X1 8 (by decide) (ca := ca) (D := D)) ck_X1 rfl (mx_inG (mx_at 55 (by decide +kernel)) rfl) (by decide) hl.1 (Nat.le_of_ble_eq_true rfl) dX6_init_34 ⟨(Nat.le_of_ble_eq_true rfl), (Nat.le_of_ble_eq_true rfl)⟩ hw (fun H locs w2 B2 hw => ?_)
  have B2 : cb_rows ca 8 q2 w2 := B2
  refine cn_put F (by decide) (k := 2) (by decide +kernel) rfl rfl rfl (Nat.le_of_ble_eq_true rfl) dX6_init_37 hw (fun H locs hw => ?_)
  have hw : cn_St D (cn_A h0 s.heap.size) s.heap ((h0, .inr (6, [.ref q0, .ref q1, .ref q2, .null, .null, .null, .null, .null, .int 0, .null, .null, .null, .null, .null, .null])) :: ((w0 ++ w1) ++ w2)) H locs := hw
  refine lv_aload_n hx hb dX6_init_40 rfl (lv_at hl 0 rfl) ?_
  refine cn_new F.1 hA (ci := 1) (by decide) (mx_inG (mx_at 53 (by decide +kernel)) rfl) (mx_inG (mx_at 54 (by decide +kernel)) rfl) (mx_inG (mx_at 3 (by decide +kernel)) rfl) cn_f1 (Nat.le_of_ble_eq_true rfl) (Nat.le_of_ble_eq_true rfl) dX6_init_41 hw (fun q3 H hw => ?_)
  refine lv_dup hx hb dX6_init_44 rfl ?_
  refine lv_bipush (v := 8) hx hb dX6_init_45 (by decide) ?_
  refine cn_call F.1 hA (M' := m_X1_init) (as := [.int (nI 8)]) (rest := [.ref q3, .ref h0]) (c_X1 8 (by decide) (ca := ca) (D := D)) ck_X1 rfl (mx_inG (mx_at 55 (by decide +kernel)) rfl) (by decide) hl.1 (Nat.le_of_ble_eq_true rfl) dX6_init_47 ⟨(Nat.le_of_ble_eq_true rfl), (Nat.le_of_ble_eq_true rfl)⟩ hw (fun H locs w3 B3 hw => ?_)
  have B3 : cb_rows ca 8 q3 w3 := B3
  refine cn_put F (by decide) (k := 3) (by decide +kernel) rfl rfl rfl (Nat.le_of_ble_eq_true rfl) dX6_init_50 hw (fun H locs hw => ?_)
  have hw : cn_St D (cn_A h0 s.heap.size) s.heap ((h0, .inr (6, [.ref q0, .ref q1, .ref q2, .ref q3, .null, .null, .null, .null, .int 0, .null, .null, .null, .null, .null, .null])) :: (((w0 ++ w1) ++ w2) ++ w3)) H locs := hw
  refine lv_aload_n hx hb dX6_init_53 rfl (lv_at hl 0 rfl) ?_
  refine cn_new F.1 hA (ci := 3) (by decide) (mx_inG (mx_at 21 (by decide +kernel)) rfl) (mx_inG (mx_at 22 (by decide +kernel)) rfl) (mx_inG (mx_at 2 (by decide +kernel)) rfl) cn_f3 (Nat.le_of_ble_eq_true rfl) (Nat.le_of_ble_eq_true rfl) dX6_init_54 hw (fun q4 H hw => ?_)
  refine lv_dup hx hb dX6_init_57 rfl ?_
  refine cn_callN F.1 hA (M' := m_X3_init) (as := []) (rest := [.ref q4, .ref h0]) (c_X3 (ca := ca) (D := D)) ck_X3 rfl hK.2.2.2.2.2.1 (by decide) hl.1 (Nat.le_of_ble_eq_true rfl) dX6_init_58 ⟨(Nat.le_of_ble_eq_true rfl), (Nat.le_of_ble_eq_true rfl)⟩ hw (fun H locs w4 B4 hw => ?_)
  have B4 : cb_shop ca q4 w4 := B4
  refine cn_put F (by decide) (k := 4) (by decide +kernel) rfl rfl rfl (Nat.le_of_ble_eq_true rfl) dX6_init_61 hw (fun H locs hw => ?_)
  have hw : cn_St D (cn_A h0 s.heap.size) s.heap ((h0, .inr (6, [.ref q0, .ref q1, .ref q2, .ref q3, .ref q4, .null, .null, .null, .int 0, .null, .null, .null, .null, .null, .null])) :: ((((w0 ++ w1) ++ w2) ++ w3) ++ w4)) H locs := hw
  refine lv_aload_n hx hb dX6_init_64 rfl (lv_at hl 0 rfl) ?_
  refine cn_new F.1 hA (ci := 1) (by decide) (mx_inG (mx_at 53 (by decide +kernel)) rfl) (mx_inG (mx_at 54 (by decide +kernel)) rfl) (mx_inG (mx_at 3 (by decide +kernel)) rfl) cn_f1 (Nat.le_of_ble_eq_true rfl) (Nat.le_of_ble_eq_true rfl) dX6_init_65 hw (fun q5 H hw => ?_)
  refine lv_dup hx hb dX6_init_68 rfl ?_
  refine lv_iconst (v := 5) hx hb dX6_init_69 (by decide) ?_
  refine cn_call F.1 hA (M' := m_X1_init) (as := [.int (nI 5)]) (rest := [.ref q5, .ref h0]) (c_X1 5 (by decide) (ca := ca) (D := D)) ck_X1 rfl (mx_inG (mx_at 55 (by decide +kernel)) rfl) (by decide) hl.1 (Nat.le_of_ble_eq_true rfl) dX6_init_70 ⟨(Nat.le_of_ble_eq_true rfl), (Nat.le_of_ble_eq_true rfl)⟩ hw (fun H locs w5 B5 hw => ?_)
  have B5 : cb_rows ca 5 q5 w5 := B5
  refine cn_put F (by decide) (k := 5) (by decide +kernel) rfl rfl rfl (Nat.le_of_ble_eq_true rfl) dX6_init_73 hw (fun H locs hw => ?_)
  have hw : cn_St D (cn_A h0 s.heap.size) s.heap ((h0, .inr (6, [.ref q0, .ref q1, .ref q2, .ref q3, .ref q4, .ref q5, .null, .null, .int 0, .null, .null, .null, .null, .null, .null])) :: (((((w0 ++ w1) ++ w2) ++ w3) ++ w4) ++ w5)) H locs := hw
  refine lv_aload_n hx hb dX6_init_76 rfl (lv_at hl 0 rfl) ?_
  refine cn_new F.1 hA (ci := 1) (by decide) (mx_inG (mx_at 53 (by decide +kernel)) rfl) (mx_inG (mx_at 54 (by decide +kernel)) rfl) (mx_inG (mx_at 3 (by decide +kernel)) rfl) cn_f1 (Nat.le_of_ble_eq_true rfl) (Nat.le_of_ble_eq_true rfl) dX6_init_77 hw (fun q6 H hw => ?_)
  refine lv_dup hx hb dX6_init_80 rfl ?_
  refine lv_bipush (v := 8) hx hb dX6_init_81 (by decide) ?_
  refine cn_call F.1 hA (M' := m_X1_init) (as := [.int (nI 8)]) (rest := [.ref q6, .ref h0]) (c_X1 8 (by decide) (ca := ca) (D := D)) ck_X1 rfl (mx_inG (mx_at 55 (by decide +kernel)) rfl) (by decide) hl.1 (Nat.le_of_ble_eq_true rfl) dX6_init_83 ⟨(Nat.le_of_ble_eq_true rfl), (Nat.le_of_ble_eq_true rfl)⟩ hw (fun H locs w6 B6 hw => ?_)
  have B6 : cb_rows ca 8 q6 w6 := B6
  refine cn_put F (by decide) (k := 6) (by decide +kernel) rfl rfl rfl (Nat.le_of_ble_eq_true rfl) dX6_init_86 hw (fun H locs hw => ?_)
  have hw : cn_St D (cn_A h0 s.heap.size) s.heap ((h0, .inr (6, [.ref q0, .ref q1, .ref q2, .ref q3, .ref q4, .ref q5, .ref q6, .null, .int 0, .null, .null, .null, .null, .null, .null])) :: ((((((w0 ++ w1) ++ w2) ++ w3) ++ w4) ++ w5) ++ w6)) H locs := hw
  refine lv_aload_n hx hb dX6_init_89 rfl (lv_at hl 0 rfl) ?_
  refine cn_new F.1 hA (ci := 1) (by decide) (mx_inG (mx_at 53 (by decide +kernel)) rfl) (mx_inG (mx_at 54 (by decide +kernel)) rfl) (mx_inG (mx_at 3 (by decide +kernel)) rfl) cn_f1 (Nat.le_of_ble_eq_true rfl) (Nat.le_of_ble_eq_true rfl) dX6_init_90 hw (fun q7 H hw => ?_)
  refine lv_dup hx hb dX6_init_93 rfl ?_
  refine lv_bipush (v := 8) hx hb dX6_init_94 (by decide) ?_
  refine cn_call F.1 hA (M' := m_X1_init) (as := [.int (nI 8)]) (rest := [.ref q7, .ref h0]) (c_X1 8 (by decide) (ca := ca) (D := D)) ck_X1 rfl (mx_inG (mx_at 55 (by decide +kernel)) rfl) (by decide) hl.1 (Nat.le_of_ble_eq_true rfl) dX6_init_96 ⟨(Nat.le_of_ble_eq_true rfl), (Nat.le_of_ble_eq_true rfl)⟩ hw (fun H locs w7 B7 hw => ?_)
  have B7 : cb_rows ca 8 q7 w7 := B7
  refine cn_put F (by decide) (k := 7) (by decide +kernel) rfl rfl rfl (Nat.le_of_ble_eq_true rfl) dX6_init_99 hw (fun H locs hw => ?_)
  have hw : cn_St D (cn_A h0 s.heap.size) s.heap ((h0, .inr (6, [.ref q0, .ref q1, .ref q2, .ref q3, .ref q4, .ref q5, .ref q6, .ref q7, .int 0, .null, .null, .null, .null, .null, .null])) :: (((((((w0 ++ w1) ++ w2) ++ w3) ++ w4) ++ w5) ++ w6) ++ w7)) H locs := hw
  refine lv_aload_n hx hb dX6_init_102 rfl (lv_at hl 0 rfl) ?_
  refine cn_new F.1 hA (ci := 3) (by decide) (mx_inG (mx_at 21 (by decide +kernel)) rfl) (mx_inG (mx_at 22 (by decide +kernel)) rfl) (mx_inG (mx_at 2 (by decide +kernel)) rfl) cn_f3 (Nat.le_of_ble_eq_true rfl) (Nat.le_of_ble_eq_true rfl) dX6_init_103 hw (fun q8 H hw => ?_)
  refine lv_dup hx hb dX6_init_106 rfl ?_
  refine cn_callN F.1 hA (M' := m_X3_init) (as := []) (rest := [.ref q8, .ref h0]) (c_X3 (ca := ca) (D := D)) ck_X3 rfl hK.2.2.2.2.2.1 (by decide) hl.1 (Nat.le_of_ble_eq_true rfl) dX6_init_107 ⟨(Nat.le_of_ble_eq_true rfl), (Nat.le_of_ble_eq_true rfl)⟩ hw (fun H locs w8 B8 hw => ?_)
  have B8 : cb_shop ca q8 w8 := B8
  refine cn_put F (by decide) (k := 9) (by decide +kernel) rfl rfl rfl (Nat.le_of_ble_eq_true rfl) dX6_init_110 hw (fun H locs hw => ?_)
  have hw : cn_St D (cn_A h0 s.heap.size) s.heap ((h0, .inr (6, [.ref q0, .ref q1, .ref q2, .ref q3, .ref q4, .ref q5, .ref q6, .ref q7, .int 0, .ref q8, .null, .null, .null, .null, .null])) :: ((((((((w0 ++ w1) ++ w2) ++ w3) ++ w4) ++ w5) ++ w6) ++ w7) ++ w8)) H locs := hw
  refine lv_aload_n hx hb dX6_init_113 rfl (lv_at hl 0 rfl) ?_
  refine lv_bipush (v := 6) hx hb dX6_init_114 (by decide) ?_
  refine cn_newa F.1 hA (atype := .int) (ty := .int) (k := 8) (t0 := 0) rfl rfl (fun _ h => h) (mx_inG (mx_at 52 (by decide +kernel)) rfl) (N := 6) (a0 := (6, .inl (fun _ => 0))) (fun _ => rfl) (by decide) rfl (by decide) (Nat.le_of_ble_eq_true rfl) (Nat.le_of_ble_eq_true rfl) dX6_init_116 hw (fun q9 H hw => ?_)
  refine cn_put F (by decide) (k := 10) (by decide +kernel) rfl rfl rfl (Nat.le_of_ble_eq_true rfl) dX6_init_118 hw (fun H locs hw => ?_)
  have hw : cn_St D (cn_A h0 s.heap.size) s.heap ((h0, .inr (6, [.ref q0, .ref q1, .ref q2, .ref q3, .ref q4, .ref q5, .ref q6, .ref q7, .int 0, .ref q8, .ref q9, .null, .null, .null, .null])) :: (((((((((w0 ++ w1) ++ w2) ++ w3) ++ w4) ++ w5) ++ w6) ++ w7) ++ w8) ++ [(q9, .inl (ca 8, 6, .inl (fun _ => 0)))])) H locs := hw
  refine lv_aload_n hx hb dX6_init_121 rfl (lv_at hl 0 rfl) ?_
  refine cn_new F.1 hA (ci := 0) (by decide) (mx_inG (mx_at 72 (by decide +kernel)) rfl) (mx_inG (mx_at 73 (by decide +kernel)) rfl) (mx_inG (mx_at 4 (by decide +kernel)) rfl) cn_f0 (Nat.le_of_ble_eq_true rfl) (Nat.le_of_ble_eq_true rfl) dX6_init_122 hw (fun q10 H hw => ?_)
  refine lv_dup hx hb dX6_init_125 rfl ?_
  refine cn_callN F.1 hA (M' := m_X0_init) (as := []) (rest := [.ref q10, .ref h0]) (c_X0 (ca := ca) (D := D)) ck_X0 rfl hK.2.2.2.2.2.2.1 (by decide) hl.1 (Nat.le_of_ble_eq_true rfl) dX6_init_126 ⟨(Nat.le_of_ble_eq_true rfl), (Nat.le_of_ble_eq_true rfl)⟩ hw (fun H locs w10 B10 hw => ?_)
  have B10 : cb_halls ca q10 w10 := B10
  refine cn_put F (by decide) (k := 11) (by decide +kernel) rfl rfl rfl (Nat.le_of_ble_eq_true rfl) dX6_init_129 hw (fun H locs hw => ?_)
  have hw : cn_St D (cn_A h0 s.heap.size) s.heap ((h0, .inr (6, [.ref q0, .ref q1, .ref q2, .ref q3, .ref q4, .ref q5, .ref q6, .ref q7, .int 0, .ref q8, .ref q9, .ref q10, .null, .null, .null])) :: ((((((((((w0 ++ w1) ++ w2) ++ w3) ++ w4) ++ w5) ++ w6) ++ w7) ++ w8) ++ [(q9, .inl (ca 8, 6, .inl (fun _ => 0)))]) ++ w10)) H locs := hw
  refine lv_aload_n hx hb dX6_init_132 rfl (lv_at hl 0 rfl) ?_
  refine cn_new F.1 hA (ci := 2) (by decide) (mx_inG (mx_at 112 (by decide +kernel)) rfl) (mx_inG (mx_at 113 (by decide +kernel)) rfl) (mx_inG (mx_at 5 (by decide +kernel)) rfl) cn_f2 (Nat.le_of_ble_eq_true rfl) (Nat.le_of_ble_eq_true rfl) dX6_init_133 hw (fun q11 H hw => ?_)
  refine lv_dup hx hb dX6_init_136 rfl ?_
  refine cn_call F.1 hA (M' := m_X2_init) (as := []) (rest := [.ref q11, .ref h0]) (c_X2 (ca := ca) (D := D)) ck_X2 rfl (mx_inG (mx_at 114 (by decide +kernel)) rfl) (by decide) hl.1 (Nat.le_of_ble_eq_true rfl) dX6_init_137 ⟨(Nat.le_of_ble_eq_true rfl), (Nat.le_of_ble_eq_true rfl)⟩ hw (fun H locs w11 B11 hw => ?_)
  have B11 : cb_search ca q11 w11 := B11
  refine cn_put F (by decide) (k := 12) (by decide +kernel) rfl rfl rfl (Nat.le_of_ble_eq_true rfl) dX6_init_140 hw (fun H locs hw => ?_)
  have hw : cn_St D (cn_A h0 s.heap.size) s.heap ((h0, .inr (6, [.ref q0, .ref q1, .ref q2, .ref q3, .ref q4, .ref q5, .ref q6, .ref q7, .int 0, .ref q8, .ref q9, .ref q10, .ref q11, .null, .null])) :: (((((((((((w0 ++ w1) ++ w2) ++ w3) ++ w4) ++ w5) ++ w6) ++ w7) ++ w8) ++ [(q9, .inl (ca 8, 6, .inl (fun _ => 0)))]) ++ w10) ++ w11)) H locs := hw
  refine lv_aload_n hx hb dX6_init_143 rfl (lv_at hl 0 rfl) ?_
  refine cn_new F.1 hA (ci := 5) (by decide) (mx_inG (mx_at 146 (by decide +kernel)) rfl) (mx_inG (mx_at 147 (by decide +kernel)) rfl) (mx_inG (mx_at 6 (by decide +kernel)) rfl) cn_f5 (Nat.le_of_ble_eq_true rfl) (Nat.le_of_ble_eq_true rfl) dX6_init_144 hw (fun q12 H hw => ?_)
  refine lv_dup hx hb dX6_init_147 rfl ?_
  refine cn_callN F.1 hA (M' := m_X5_init) (as := []) (rest := [.ref q12, .ref h0]) (c_X5 (ca := ca) (D := D)) ck_X5 rfl hK.2.2.2.2.2.2.2.2.1 (by decide) hl.1 (Nat.le_of_ble_eq_true rfl) dX6_init_148 ⟨(Nat.le_of_ble_eq_true rfl), (Nat.le_of_ble_eq_true rfl)⟩ hw (fun H locs w12 B12 hw => ?_)
  have B12 : cb_text ca q12 w12 := B12
  refine cn_put F (by decide) (k := 13) (by decide +kernel) rfl rfl rfl (Nat.le_of_ble_eq_true rfl) dX6_init_151 hw (fun H locs hw => ?_)
  have hw : cn_St D (cn_A h0 s.heap.size) s.heap ((h0, .inr (6, [.ref q0, .ref q1, .ref q2, .ref q3, .ref q4, .ref q5, .ref q6, .ref q7, .int 0, .ref q8, .ref q9, .ref q10, .ref q11, .ref q12, .null])) :: ((((((((((((w0 ++ w1) ++ w2) ++ w3) ++ w4) ++ w5) ++ w6) ++ w7) ++ w8) ++ [(q9, .inl (ca 8, 6, .inl (fun _ => 0)))]) ++ w10) ++ w11) ++ w12)) H locs := hw
  refine lv_aload_n hx hb dX6_init_154 rfl (lv_at hl 0 rfl) ?_
  refine lv_bipush (v := 6) hx hb dX6_init_155 (by decide) ?_
  refine cn_newq F.1 hA (C := RX4) (k := 14) (t0 := 6) rfl hK.2.2.2.2.1 (mx_inG (mx_at 174 (by decide +kernel)) rfl) (N := 6) (by decide) rfl (by decide) (Nat.le_of_ble_eq_true rfl) (Nat.le_of_ble_eq_true rfl) dX6_init_157 hw (fun q13 H hw => ?_)
  refine cn_put F (by decide) (k := 14) (by decide +kernel) rfl rfl rfl (Nat.le_of_ble_eq_true rfl) dX6_init_160 hw (fun H locs hw => ?_)
  have hw : cn_St D (cn_A h0 s.heap.size) s.heap ((h0, .inr (6, [.ref q0, .ref q1, .ref q2, .ref q3, .ref q4, .ref q5, .ref q6, .ref q7, .int 0, .ref q8, .ref q9, .ref q10, .ref q11, .ref q12, .ref q13])) :: (((((((((((((w0 ++ w1) ++ w2) ++ w3) ++ w4) ++ w5) ++ w6) ++ w7) ++ w8) ++ [(q9, .inl (ca 8, 6, .inl (fun _ => 0)))]) ++ w10) ++ w11) ++ w12) ++ [(q13, .inl (ca 14, 6, .inr (.inr (.inr (.inr (fun _ => none))))))])) H locs := hw
  refine lv_iconst (v := 0) hx hb dX6_init_163 (by decide) ?_
  refine lv_istore_n (lv' := [(1, .int (nI 0)), (0, .ref h0)]) hx hb dX6_init_164 rfl hl (by decide) rfl (fun ls hl => ?_)
  have e9 : (fun _ => none : Nat → Option Nat) = (fun j => if j < 0 then some ((fun _ : Nat => 0) j) else none) := by
    funext j
    rw [if_neg (Nat.not_lt_zero _)]
  rw [e9] at hw
  refine c_X6_loop (h0 := h0) (qt := q13) F rfl (fun r u => ⟨q0, q1, q2, q3, q4, q5, q6, q7, q8, q9, q10, q11, q12, q13, w0, w1, w2, w3, w4, w5, w6, w7, w8, w10, w11, w12, r, u, B0, B1, B2, B3, B4, B5, B6, B7, B8, B10, B11, B12, rfl⟩) 7 0 (by decide) (by decide) (fun _ => 0) (fun _ => 0) _ _ _ _ _ (lv_sub hl [1, 0] rfl) ?_ (Nat.le_of_ble_eq_true rfl) (Nat.le_of_ble_eq_true rfl)
  have e8 : ∀ Y : va_W, Y ++ cn_tapes ca (fun _ => 0) (fun _ => 0) 0 = Y := fun Y => List.append_nil Y
  rw [e8]
  exact hw
end CN6
