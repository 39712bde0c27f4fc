section CN7
variable {p : Program} {l : Launch} {e : Env} {R : Room} {s : State} {m : MethodId} {args : Array Value} {below : List Frame} {meth : Method} {c : Code} {D : va_G} {ca : Nat → ClassId} {A : Nat → Prop} {M : mx_M} {H : Heap} {locs : List Loc} {cells slots pc : Nat} {ls : Array Slot} {rest : List Value} {Q : State → Prop}
theorem cn_mid3 {X : va_W} {a : Nat × va_E} : (X ++ [a])[X.length]? = some a := by
  rw [List.getElem?_append_right (Nat.le_refl _), Nat.sub_self]
  rfl
theorem cn_mid4 {X : va_W} {a b : Nat × va_E} : (X ++ [a]).set X.length b = X ++ [b] := by
  rw [List.set_append_right _ _ (Nat.le_refl _), Nat.sub_self]
  rfl
theorem cn_iast (F : cn_fx p s m args meth c ca D M) {X : va_W} {a n : Nat} {f : Nat → Int32} {i x : Int32} (hin : vp_in i n) (hdg : decode M.2.2.1 pc = .ok (.iastore, 1)) (hw : cn_St D A s.heap (X ++ [(a, .inl (ca 8, n, .inl f))]) H locs)
    (kk : ∀ (H1 : Heap) (locs1 : List Loc), cn_St D A s.heap (X ++ [(a, .inl (ca 8, n, .inl (upd f i.toNatClampNeg x)))]) H1 locs1 → W p l e R s m args below meth c H1 locs1 cells slots Q (F0 m (pc + 1) ls rest)) : W p l e R s m args below meth c H locs cells slots Q (F0 m pc ls (.int x :: .int i :: .ref a :: rest)) := by
  obtain ⟨⟨hx, hb, hml, hown, hts, hK⟩, hr, hlocks, hin2⟩ := F
  obtain ⟨hP, hD, hS⟩ := hw
  refine va_iast hx hb hK.1 hP hD hS X.length 0 (cA := ca 8) (n := n) (f := f) cn_mid3 rfl hin hdg (fun H1 locs1 hP hD hS => ?_)
  rw [cn_mid4] at hP hD
  exact kk H1 locs1 ⟨hP, hD, hS⟩
theorem cn_f7 : ∀ j, j < mx_nF 7 → defaultValue (mx_cY 7 j) = vp_V [.int 0, .int 0, .int 0, .null, .null, .null, .null, .null, .null, .null, .null, .int 0, .int 0, .int 0, .null, .int 0, .null, .int 0, .int 0, .int 0, .int 0, .int 0, .int 0, .int 0, .null, .null, .null, .null, .null, .null, .null, .null, .null] j := by
  show ∀ j, j < 33 → _
  decide +kernel
abbrev cn_ci (ca : Nat → ClassId) (q n : Nat) : va_W := [(q, .inl (ca 8, n, .inl (fun _ => 0)))]
abbrev cn_cl (ca : Nat → ClassId) (q n : Nat) : va_W := [(q, .inl (ca 11, n, .inr (.inl (fun _ => 0))))]
abbrev cn_cm (ca : Nat → ClassId) (q : Nat) (r : Nat → Nat) : va_W := (q, .inl (ca 15, 6, .inr (.inr (.inr (.inr (fun j => if j < 6 then some (r j) else none)))))) :: (List.range 6).map (fun j => (r j, .inl (ca 11, 60, .inr (.inl (fun _ => 0)))))
def cn_neg : Nat → Int32 := upd (upd (upd (upd (upd (upd (fun _ => 0) 0 (-1)) 1 (-1)) 2 (-1)) 3 (-1)) 4 (-1)) 5 (-1)
abbrev cn_cn (ca : Nat → ClassId) (q : Nat) : va_W := [(q, .inl (ca 8, 6, .inl cn_neg))]
/-- what PressHallsModel() makes -/
def cb_model (ca : Nat → ClassId) (h0 : Nat) (wz : va_W) : Prop := ∃ (q0 q1 q2 q3 q4 q5 q6 q7 q8 q9 q10 q11 q12 q13 q14 q15 q16 q17 q18 : Nat) (r : Nat → Nat), wz = (h0, .inr (7, [.int 0, .int 0, .int 0, .ref q0, .ref q1, .ref q2, .ref q3, .ref q4, .ref q5, .ref q6, .ref q7, .int 0, .int 0, .int 0, .ref q8, .int 0, .ref q9, .int 0, .int 0, .int 0, .int 0, .int 0, .int 0, .int 0, .ref q10, .ref q11, .ref q12, .ref q13, .ref q14, .ref q15, .ref q16, .ref q17, .ref q18])) :: ((((((((((((((((((cn_ci ca q0 36 ++ cn_ci ca q1 6) ++ cn_ci ca q2 5) ++ cn_ci ca q3 5) ++ cn_ci ca q4 8) ++ cn_ci ca q5 8) ++ cn_ci ca q6 8) ++ cn_ci ca q7 8) ++ cn_ci ca q8 100) ++ cn_ci ca q9 100) ++ cn_ci ca q10 36) ++ cn_ci ca q11 6) ++ cn_ci ca q12 6) ++ cn_ci ca q13 6) ++ cn_ci ca q14 36) ++ cn_cm ca q15 r) ++ cn_cn ca q16) ++ cn_ci ca q17 6) ++ cn_cl ca q18 60)
set_option maxHeartbeats 8000000 in
set_option maxRecDepth 100000 in
theorem c_X7 : cn_Met l D ca m_X7_init 1 25 812 [.int 0, .int 0, .int 0, .null, .null, .null, .null, .null, .null, .null, .null, .int 0, .int 0, .int 0, .null, .int 0, .null, .int 0, .int 0, .int 0, .int 0, .int 0, .int 0, .int 0, .null, .null, .null, .null, .null, .null, .null, .null, .null] [] (cb_model ca) := by
  refine cn_intro ck_X7 (fun _ => Nat.le_of_ble_eq_true rfl) ?_
  intro h0 p e s m args below meth c ls F hl hw
  obtain ⟨hx, hb, hml, hown, hts, hK⟩ := id F.1
  have hA : ∀ q, s.heap.size ≤ q → cn_A h0 s.heap.size q := fun q h => Or.inr h
  have hl : lv_has ls 1 [(0, .ref h0)] := hl
  refine lv_aload_n hx hb dX7_init_0 rfl (lv_at hl 0 rfl) ?_
  refine cn_obj F (index := 3) (mx_inG (mx_at 610 (by decide +kernel)) rfl) hl.1 dX7_init_1 ?_
  refine lv_aload_n hx hb dX7_init_4 rfl (lv_at hl 0 rfl) ?_
  refine lv_bipush (v := 36) hx hb dX7_init_5 (by decide) ?_
  refine cn_newa F.1 hA (atype := .int) (ty := .int) (k := 8) (t0 := 0) rfl rfl (fun _ h => h) (mx_inG (mx_at 52 (by decide +kernel)) rfl) (N := 36) (a0 := (36, .inl (fun _ => 0))) (fun _ => rfl) (by decide) rfl (by decide) (Nat.le_of_ble_eq_true rfl) (Nat.le_of_ble_eq_true rfl) dX7_init_7 hw (fun q0 H hw => ?_)
  refine cn_put F (by decide) (k := 3) (by decide +kernel) rfl rfl rfl (by simp) dX7_init_9 hw (fun H locs hw => ?_)
  refine lv_aload_n hx hb dX7_init_12 rfl (lv_at hl 0 rfl) ?_
  refine lv_bipush (v := 6) hx hb dX7_init_13 (by decide) ?_
  refine cn_newa F.1 hA (atype := .int) (ty := .int) (k := 8) (t0 := 0) rfl rfl (fun _ h => h) (mx_inG (mx_at 52 (by decide +kernel)) rfl) (N := 6) (a0 := (6, .inl (fun _ => 0))) (fun _ => rfl) (by decide) rfl (by decide) (Nat.le_of_ble_eq_true rfl) (Nat.le_of_ble_eq_true rfl) dX7_init_15 hw (fun q1 H hw => ?_)
  refine cn_put F (by decide) (k := 4) (by decide +kernel) rfl rfl rfl (by simp) dX7_init_17 hw (fun H locs hw => ?_)
  refine lv_aload_n hx hb dX7_init_20 rfl (lv_at hl 0 rfl) ?_
  refine lv_iconst (v := 5) hx hb dX7_init_21 (by decide) ?_
  refine cn_newa F.1 hA (atype := .int) (ty := .int) (k := 8) (t0 := 0) rfl rfl (fun _ h => h) (mx_inG (mx_at 52 (by decide +kernel)) rfl) (N := 5) (a0 := (5, .inl (fun _ => 0))) (fun _ => rfl) (by decide) rfl (by decide) (Nat.le_of_ble_eq_true rfl) (Nat.le_of_ble_eq_true rfl) dX7_init_22 hw (fun q2 H hw => ?_)
  refine cn_put F (by decide) (k := 5) (by decide +kernel) rfl rfl rfl (by simp) dX7_init_24 hw (fun H locs hw => ?_)
  refine lv_aload_n hx hb dX7_init_27 rfl (lv_at hl 0 rfl) ?_
  refine lv_iconst (v := 5) hx hb dX7_init_28 (by decide) ?_
  refine cn_newa F.1 hA (atype := .int) (ty := .int) (k := 8) (t0 := 0) rfl rfl (fun _ h => h) (mx_inG (mx_at 52 (by decide +kernel)) rfl) (N := 5) (a0 := (5, .inl (fun _ => 0))) (fun _ => rfl) (by decide) rfl (by decide) (Nat.le_of_ble_eq_true rfl) (Nat.le_of_ble_eq_true rfl) dX7_init_29 hw (fun q3 H hw => ?_)
  refine cn_put F (by decide) (k := 6) (by decide +kernel) rfl rfl rfl (by simp) dX7_init_31 hw (fun H locs hw => ?_)
  refine lv_aload_n hx hb dX7_init_34 rfl (lv_at hl 0 rfl) ?_
  refine lv_bipush (v := 8) hx hb dX7_init_35 (by decide) ?_
  refine cn_newa F.1 hA (atype := .int) (ty := .int) (k := 8) (t0 := 0) rfl rfl (fun _ h => h) (mx_inG (mx_at 52 (by decide +kernel)) rfl) (N := 8) (a0 := (8, .inl (fun _ => 0))) (fun _ => rfl) (by decide) rfl (by decide) (Nat.le_of_ble_eq_true rfl) (Nat.le_of_ble_eq_true rfl) dX7_init_37 hw (fun q4 H hw => ?_)
  refine cn_put F (by decide) (k := 7) (by decide +kernel) rfl rfl rfl (by simp) dX7_init_39 hw (fun H locs hw => ?_)
  refine lv_aload_n hx hb dX7_init_42 rfl (lv_at hl 0 rfl) ?_
  refine lv_bipush (v := 8) hx hb dX7_init_43 (by decide) ?_
  refine cn_newa F.1 hA (atype := .int) (ty := .int) (k := 8) (t0 := 0) rfl rfl (fun _ h => h) (mx_inG (mx_at 52 (by decide +kernel)) rfl) (N := 8) (a0 := (8, .inl (fun _ => 0))) (fun _ => rfl) (by decide) rfl (by decide) (Nat.le_of_ble_eq_true rfl) (Nat.le_of_ble_eq_true rfl) dX7_init_45 hw (fun q5 H hw => ?_)
  refine cn_put F (by decide) (k := 8) (by decide +kernel) rfl rfl rfl (by simp) dX7_init_47 hw (fun H locs hw => ?_)
  refine lv_aload_n hx hb dX7_init_50 rfl (lv_at hl 0 rfl) ?_
  refine lv_bipush (v := 8) hx hb dX7_init_51 (by decide) ?_
  refine cn_newa F.1 hA (atype := .int) (ty := .int) (k := 8) (t0 := 0) rfl rfl (fun _ h => h) (mx_inG (mx_at 52 (by decide +kernel)) rfl) (N := 8) (a0 := (8, .inl (fun _ => 0))) (fun _ => rfl) (by decide) rfl (by decide) (Nat.le_of_ble_eq_true rfl) (Nat.le_of_ble_eq_true rfl) dX7_init_53 hw (fun q6 H hw => ?_)
  refine cn_put F (by decide) (k := 9) (by decide +kernel) rfl rfl rfl (by simp) dX7_init_55 hw (fun H locs hw => ?_)
  refine lv_aload_n hx hb dX7_init_58 rfl (lv_at hl 0 rfl) ?_
  refine lv_bipush (v := 8) hx hb dX7_init_59 (by decide) ?_
  refine cn_newa F.1 hA (atype := .int) (ty := .int) (k := 8) (t0 := 0) rfl rfl (fun _ h => h) (mx_inG (mx_at 52 (by decide +kernel)) rfl) (N := 8) (a0 := (8, .inl (fun _ => 0))) (fun _ => rfl) (by decide) rfl (by decide) (Nat.le_of_ble_eq_true rfl) (Nat.le_of_ble_eq_true rfl) dX7_init_61 hw (fun q7 H hw => ?_)
  refine cn_put F (by decide) (k := 10) (by decide +kernel) rfl rfl rfl (by simp) dX7_init_63 hw (fun H locs hw => ?_)
  refine lv_aload_n hx hb dX7_init_66 rfl (lv_at hl 0 rfl) ?_
  refine lv_bipush (v := 100) hx hb dX7_init_67 (by decide) ?_
  refine cn_newa F.1 hA (atype := .int) (ty := .int) (k := 8) (t0 := 0) rfl rfl (fun _ h => h) (mx_inG (mx_at 52 (by decide +kernel)) rfl) (N := 100) (a0 := (100, .inl (fun _ => 0))) (fun _ => rfl) (by decide) rfl (by decide) (Nat.le_of_ble_eq_true rfl) (Nat.le_of_ble_eq_true rfl) dX7_init_69 hw (fun q8 H hw => ?_)
  refine cn_put F (by decide) (k := 14) (by decide +kernel) rfl rfl rfl (by simp) dX7_init_71 hw (fun H locs hw => ?_)
  refine lv_aload_n hx hb dX7_init_74 rfl (lv_at hl 0 rfl) ?_
  refine lv_bipush (v := 100) hx hb dX7_init_75 (by decide) ?_
  refine cn_newa F.1 hA (atype := .int) (ty := .int) (k := 8) (t0 := 0) rfl rfl (fun _ h => h) (mx_inG (mx_at 52 (by decide +kernel)) rfl) (N := 100) (a0 := (100, .inl (fun _ => 0))) (fun _ => rfl) (by decide) rfl (by decide) (Nat.le_of_ble_eq_true rfl) (Nat.le_of_ble_eq_true rfl) dX7_init_77 hw (fun q9 H hw => ?_)
  refine cn_put F (by decide) (k := 16) (by decide +kernel) rfl rfl rfl (by simp) dX7_init_79 hw (fun H locs hw => ?_)
  refine lv_aload_n hx hb dX7_init_82 rfl (lv_at hl 0 rfl) ?_
  refine lv_bipush (v := 36) hx hb dX7_init_83 (by decide) ?_
  refine cn_newa F.1 hA (atype := .int) (ty := .int) (k := 8) (t0 := 0) rfl rfl (fun _ h => h) (mx_inG (mx_at 52 (by decide +kernel)) rfl) (N := 36) (a0 := (36, .inl (fun _ => 0))) (fun _ => rfl) (by decide) rfl (by decide) (Nat.le_of_ble_eq_true rfl) (Nat.le_of_ble_eq_true rfl) dX7_init_85 hw (fun q10 H hw => ?_)
  refine cn_put F (by decide) (k := 24) (by decide +kernel) rfl rfl rfl (by simp) dX7_init_87 hw (fun H locs hw => ?_)
  refine lv_aload_n hx hb dX7_init_90 rfl (lv_at hl 0 rfl) ?_
  refine lv_bipush (v := 6) hx hb dX7_init_91 (by decide) ?_
  refine cn_newa F.1 hA (atype := .int) (ty := .int) (k := 8) (t0 := 0) rfl rfl (fun _ h => h) (mx_inG (mx_at 52 (by decide +kernel)) rfl) (N := 6) (a0 := (6, .inl (fun _ => 0))) (fun _ => rfl) (by decide) rfl (by decide) (Nat.le_of_ble_eq_true rfl) (Nat.le_of_ble_eq_true rfl) dX7_init_93 hw (fun q11 H hw => ?_)
  refine cn_put F (by decide) (k := 25) (by decide +kernel) rfl rfl rfl (by simp) dX7_init_95 hw (fun H locs hw => ?_)
  refine lv_aload_n hx hb dX7_init_98 rfl (lv_at hl 0 rfl) ?_
  refine lv_bipush (v := 6) hx hb dX7_init_99 (by decide) ?_
  refine cn_newa F.1 hA (atype := .int) (ty := .int) (k := 8) (t0 := 0) rfl rfl (fun _ h => h) (mx_inG (mx_at 52 (by decide +kernel)) rfl) (N := 6) (a0 := (6, .inl (fun _ => 0))) (fun _ => rfl) (by decide) rfl (by decide) (Nat.le_of_ble_eq_true rfl) (Nat.le_of_ble_eq_true rfl) dX7_init_101 hw (fun q12 H hw => ?_)
  refine cn_put F (by decide) (k := 26) (by decide +kernel) rfl rfl rfl (by simp) dX7_init_103 hw (fun H locs hw => ?_)
  refine lv_aload_n hx hb dX7_init_106 rfl (lv_at hl 0 rfl) ?_
  refine lv_bipush (v := 6) hx hb dX7_init_107 (by decide) ?_
  refine cn_newa F.1 hA (atype := .int) (ty := .int) (k := 8) (t0 := 0) rfl rfl (fun _ h => h) (mx_inG (mx_at 52 (by decide +kernel)) rfl) (N := 6) (a0 := (6, .inl (fun _ => 0))) (fun _ => rfl) (by decide) rfl (by decide) (Nat.le_of_ble_eq_true rfl) (Nat.le_of_ble_eq_true rfl) dX7_init_109 hw (fun q13 H hw => ?_)
  refine cn_put F (by decide) (k := 27) (by decide +kernel) rfl rfl rfl (by simp) dX7_init_111 hw (fun H locs hw => ?_)
  refine lv_aload_n hx hb dX7_init_114 rfl (lv_at hl 0 rfl) ?_
  refine lv_bipush (v := 36) hx hb dX7_init_115 (by decide) ?_
  refine cn_newa F.1 hA (atype := .int) (ty := .int) (k := 8) (t0 := 0) rfl rfl (fun _ h => h) (mx_inG (mx_at 52 (by decide +kernel)) rfl) (N := 36) (a0 := (36, .inl (fun _ => 0))) (fun _ => rfl) (by decide) rfl (by decide) (Nat.le_of_ble_eq_true rfl) (Nat.le_of_ble_eq_true rfl) dX7_init_117 hw (fun q14 H hw => ?_)
  refine cn_put F (by decide) (k := 28) (by decide +kernel) rfl rfl rfl (by simp) dX7_init_119 hw (fun H locs hw => ?_)
  refine lv_aload_n hx hb dX7_init_122 rfl (lv_at hl 0 rfl) ?_
  refine lv_bipush (v := 6) hx hb dX7_init_123 (by decide) ?_
  refine lv_bipush (v := 60) hx hb dX7_init_125 (by decide) ?_
  refine cn_newm F.1 hA (kA := 15) (ky := 11) (t0 := 3) rfl hK.2.2.1 (mx_inG (mx_at 611 (by decide +kernel)) rfl) (N := 6) (K := 60) (a0 := (60, .inr (.inl (fun _ => 0)))) rfl (by decide) (by decide) rfl rfl (by decide) (by decide) (by decide) rfl (Nat.le_of_ble_eq_true rfl) (Nat.le_of_ble_eq_true rfl) dX7_init_127 hw (fun q15 r H hw => ?_)
  refine cn_put F (by decide) (k := 29) (by decide +kernel) rfl rfl rfl (by simp) dX7_init_131 hw (fun H locs hw => ?_)
  refine lv_aload_n hx hb dX7_init_134 rfl (lv_at hl 0 rfl) ?_
  refine lv_bipush (v := 6) hx hb dX7_init_135 (by decide) ?_
  refine cn_newa F.1 hA (atype := .int) (ty := .int) (k := 8) (t0 := 0) rfl rfl (fun _ h => h) (mx_inG (mx_at 52 (by decide +kernel)) rfl) (N := 6) (a0 := (6, .inl (fun _ => 0))) (fun _ => rfl) (by decide) rfl (by decide) (Nat.le_of_ble_eq_true rfl) (Nat.le_of_ble_eq_true rfl) dX7_init_137 hw (fun q16 H hw => ?_)
  refine lv_dup hx hb dX7_init_139 rfl ?_
  refine lv_iconst (v := 0) hx hb dX7_init_140 (by decide) ?_
  refine lv_iconst (v := (-1)) hx hb dX7_init_141 (by decide) ?_
  refine cn_iast F (nI_in (c := 0) (by decide) (by decide)) dX7_init_142 hw (fun H locs hw => ?_)
  refine lv_dup hx hb dX7_init_143 rfl ?_
  refine lv_iconst (v := 1) hx hb dX7_init_144 (by decide) ?_
  refine lv_iconst (v := (-1)) hx hb dX7_init_145 (by decide) ?_
  refine cn_iast F (nI_in (c := 1) (by decide) (by decide)) dX7_init_146 hw (fun H locs hw => ?_)
  refine lv_dup hx hb dX7_init_147 rfl ?_
  refine lv_iconst (v := 2) hx hb dX7_init_148 (by decide) ?_
  refine lv_iconst (v := (-1)) hx hb dX7_init_149 (by decide) ?_
  refine cn_iast F (nI_in (c := 2) (by decide) (by decide)) dX7_init_150 hw (fun H locs hw => ?_)
  refine lv_dup hx hb dX7_init_151 rfl ?_
  refine lv_iconst (v := 3) hx hb dX7_init_152 (by decide) ?_
  refine lv_iconst (v := (-1)) hx hb dX7_init_153 (by decide) ?_
  refine cn_iast F (nI_in (c := 3) (by decide) (by decide)) dX7_init_154 hw (fun H locs hw => ?_)
  refine lv_dup hx hb dX7_init_155 rfl ?_
  refine lv_iconst (v := 4) hx hb dX7_init_156 (by decide) ?_
  refine lv_iconst (v := (-1)) hx hb dX7_init_157 (by decide) ?_
  refine cn_iast F (nI_in (c := 4) (by decide) (by decide)) dX7_init_158 hw (fun H locs hw => ?_)
  refine lv_dup hx hb dX7_init_159 rfl ?_
  refine lv_iconst (v := 5) hx hb dX7_init_160 (by decide) ?_
  refine lv_iconst (v := (-1)) hx hb dX7_init_161 (by decide) ?_
  refine cn_iast F (nI_in (c := 5) (by decide) (by decide)) dX7_init_162 hw (fun H locs hw => ?_)
  refine cn_put F (by decide) (k := 30) (by decide +kernel) rfl rfl rfl (by simp) dX7_init_163 hw (fun H locs hw => ?_)
  refine lv_aload_n hx hb dX7_init_166 rfl (lv_at hl 0 rfl) ?_
  refine lv_bipush (v := 6) hx hb dX7_init_167 (by decide) ?_
  refine cn_newa F.1 hA (atype := .int) (ty := .int) (k := 8) (t0 := 0) rfl rfl (fun _ h => h) (mx_inG (mx_at 52 (by decide +kernel)) rfl) (N := 6) (a0 := (6, .inl (fun _ => 0))) (fun _ => rfl) (by decide) rfl (by decide) (Nat.le_of_ble_eq_true rfl) (Nat.le_of_ble_eq_true rfl) dX7_init_169 hw (fun q17 H hw => ?_)
  refine cn_put F (by decide) (k := 31) (by decide +kernel) rfl rfl rfl (by simp) dX7_init_171 hw (fun H locs hw => ?_)
  refine lv_aload_n hx hb dX7_init_174 rfl (lv_at hl 0 rfl) ?_
  refine lv_bipush (v := 60) hx hb dX7_init_175 (by decide) ?_
  refine cn_newa F.1 hA (atype := .long) (ty := .long) (k := 11) (t0 := 3) rfl rfl (fun _ h => h) (mx_inG (mx_at 193 (by decide +kernel)) rfl) (N := 60) (a0 := (60, .inr (.inl (fun _ => 0)))) (fun _ => rfl) (by decide) rfl (by decide) (Nat.le_of_ble_eq_true rfl) (Nat.le_of_ble_eq_true rfl) dX7_init_177 hw (fun q18 H hw => ?_)
  refine cn_put F (by decide) (k := 32) (by decide +kernel) rfl rfl rfl (by simp) dX7_init_179 hw (fun H locs hw => ?_)
  exact cn_ret F (Nat.le_of_ble_eq_true rfl) (Nat.le_of_ble_eq_true rfl) dX7_init_182 hw ⟨q0, q1, q2, q3, q4, q5, q6, q7, q8, q9, q10, q11, q12, q13, q14, q15, q16, q17, q18, r, rfl⟩
end CN7
