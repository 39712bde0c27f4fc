section MXY
variable {p : Program} {l : Launch} {e : Env} {s : State} {m : MethodId} {args : Array Value} {below : List Frame} {meth : Method} {c : Code}
variable {adr : Nat → Nat} {ca : Nat → ClassId} {D : va_G} {A : Nat → Prop} {M : mx_M} {d : Nat}
theorem mx_catS {st : List Value} (h : mx_cat st ≤ 8) : ((st.map (mx_cv adr)).map fun v => v.category).sum ≤ 8 := by
  rw [List.map_map]
  have : ((fun v : Value => v.category) ∘ mx_cv adr) = (fun v : Value => v.category) := funext fun v => mx_cv_cat adr v
  rw [this]
  exact h
theorem mx_aald {H : Heap} {locs : List Loc} {Q : State → Prop} {R : Room} {cells slots : Nat} {pc : Nat} {ls : Array Slot} {rest : List Value} {cc : ByteArray} (hx : p.tables.exec = Jvm.exec) (hb : c.code = cc) (hK : va_K D vwCl (mx_tys ca) s) {σ : mx_S} (hP : va_P D vwCl (mx_ws adr ca σ) H) {a : Nat} (hk : mx_kd a = 12 ∨ mx_kd a = 13 ∨ mx_kd a = 14 ∨ mx_kd a = 15) {i : Int32} (hin : vp_in i (mx_ln a)) (hd : decode cc pc = .ok (.aaload, 1))
    (kk : W p l e R s m args below meth c H locs cells slots Q (F0 m (pc + 1) ls (.ref (adr (mx_ptr a i.toNatClampNeg)) :: rest))) : W p l e R s m args below meth c H locs cells slots Q (F0 m pc ls (.int i :: .ref (adr a) :: rest)) := by
  obtain ⟨ty, t0, ht, hty⟩ : ∃ (ty : FieldType) (t0 : Nat), (mx_tys ca)[t0]? = some (ca (mx_kd a), ty) ∧ ty.isReference = true := by
    rcases hk with h | h | h | h
    · exact ⟨.array .int, 4, by rw [h]; rfl, rfl⟩
    · exact ⟨.object RX0, 5, by rw [h]; rfl, rfl⟩
    · exact ⟨.object RX4, 6, by rw [h]; rfl, rfl⟩
    · exact ⟨.array .long, 7, by rw [h]; rfl, rfl⟩
  have hat := hP a _ (mx_at_ref (k := mx_kd a) rfl (by omega) (by omega))
  have hcell : H[adr a]? = some (vp_cell (ca (mx_kd a)) (mx_ln a, .inr (.inr (.inr (.inr (fun j => if j < mx_ln a then some (adr (mx_ptr a j)) else none)))))) := hat
  rw [vp_cell_q] at hcell
  have hlt : i.toNatClampNeg < mx_ln a := by
    unfold vp_in at hin
    omega
  refine W.aald hx hb hcell ((hK.2 t0 _ ht).1 _ _) hty (by simp [arrV]) ?_ (v := .ref (adr (mx_ptr a i.toNatClampNeg))) ?_ rfl rfl hd kk
  · simpa [arrV, vp_in] using hin
  · simp [arrV, hlt, va_rf]
set_option maxHeartbeats 40000000 in
set_option maxRecDepth 100000 in
theorem mx_sexec (F : mx_fix p s m args meth c adr ca D A M) (ih : mx_ih l adr ca D A d) : ∀ (n pc : Nat) (als : mx_L) (st : List Value) (σ : mx_S) (r : mx_R), mx_exec (mx_call d) M n pc als st σ r → als.length = M.2.2.2.1 →
    ∀ (ls : Array Slot) (H : Heap) (locs : List Loc), lv_has ls M.2.2.2.1 (mx_as adr 0 als) → va_P D vwCl (mx_ws adr ca σ) H → va_D A (mx_ws adr ca σ) → va_S A s.heap H locs → W p l e (mx_rm (d + 1)) s m args below meth c H locs 0 0 (MQ below (mx_Qc adr ca D A r) args s 0 0 A) (F0 m pc ls (st.map (mx_cv adr))) := by
  have F0' := F
  obtain ⟨hx, hb, hr, hml, hown, hts, hK, hZ, hlocks⟩ := F
  intro n
  induction n with
  | zero => intro pc als st σ r h; exact False.elim h
  | succ n ihn =>
    intro pc als st σ r h hlen ls H locs hl hP hD hS
    obtain ⟨i, len, hd, h⟩ := h
    have hls : ls.size = M.2.2.2.1 := hl.1
    have hml' : c.maxLocals = ls.size := by rw [hml, hls]
    have hR1 : 1 ≤ (mx_rm (d + 1)).frames := Nat.succ_le_succ (Nat.zero_le d)
    have hR2 : 40 ≤ (mx_rm (d + 1)).locals := by show 40 ≤ 40 * (d + 1); omega
    cases i
    case iconst => obtain ⟨rfl, hk⟩ := h; exact lv_iconst hx hb hd rfl (ihn _ _ _ _ _ hk hlen _ _ _ hl hP hD hS)
    case bipush => obtain ⟨rfl, hk⟩ := h; exact lv_bipush hx hb hd rfl (ihn _ _ _ _ _ hk hlen _ _ _ hl hP hD hS)
    case sipush => obtain ⟨rfl, hk⟩ := h; exact lv_sipush hx hb hd rfl (ihn _ _ _ _ _ hk hlen _ _ _ hl hP hD hS)
    case lconst => obtain ⟨rfl, hk⟩ := h; exact lv_lconst hx hb hd rfl (ihn _ _ _ _ _ hk hlen _ _ _ hl hP hD hS)
    case ldc => obtain ⟨rfl, v, hv, hk⟩ := h; exact lv_ldc hx hb hown (hts _ (mx_kT_ok hv)) hd (ihn _ _ _ _ _ hk hlen _ _ _ hl hP hD hS)
    case ldc2_w => obtain ⟨rfl, v, hv, hk⟩ := h; exact lv_ldc2 hx hb hown (hts _ (mx_jT_ok hv)) hd (ihn _ _ _ _ _ hk hlen _ _ _ hl hP hD hS)
    case iload_n => obtain ⟨rfl, x, hg, hk⟩ := h; exact lv_iload_n hx hb hd rfl (mx_get hl hg) (ihn _ _ _ _ _ hk hlen _ _ _ hl hP hD hS)
    case iload => obtain ⟨rfl, x, hg, hk⟩ := h; exact lv_iload hx hb hd (mx_get hl hg) (ihn _ _ _ _ _ hk hlen _ _ _ hl hP hD hS)
    case lload_n => obtain ⟨rfl, x, hg, hk⟩ := h; exact lv_lload_n hx hb hd rfl (mx_get hl hg) (ihn _ _ _ _ _ hk hlen _ _ _ hl hP hD hS)
    case lload => obtain ⟨rfl, x, hg, hk⟩ := h; exact lv_lload hx hb hd (mx_get hl hg) (ihn _ _ _ _ _ hk hlen _ _ _ hl hP hD hS)
    case aload_n => obtain ⟨rfl, x, hg, hk⟩ := h; exact lv_aload_n hx hb hd rfl (mx_get hl hg) (ihn _ _ _ _ _ hk hlen _ _ _ hl hP hD hS)
    case aload => obtain ⟨rfl, x, hg, hk⟩ := h; exact lv_aload hx hb hd (mx_get hl hg) (ihn _ _ _ _ _ hk hlen _ _ _ hl hP hD hS)
    case istore_n => obtain ⟨rfl, x, st', rfl, h1, h2, hk⟩ := h; exact lv_istore_n hx hb hd rfl hl (by rw [← hlen]; exact h1) rfl (fun ls' hl' => ihn _ _ _ _ _ hk (by rw [List.length_set]; exact hlen) _ _ _ (mx_st1 (v := .int x) hl' h1 h2) hP hD hS)
    case istore => obtain ⟨rfl, x, st', rfl, h1, h2, hk⟩ := h; exact lv_istore hx hb hd hl (by rw [← hlen]; exact h1) rfl (fun ls' hl' => ihn _ _ _ _ _ hk (by rw [List.length_set]; exact hlen) _ _ _ (mx_st1 (v := .int x) hl' h1 h2) hP hD hS)
    case astore_n => obtain ⟨rfl, x, st', rfl, h1, h2, hk⟩ := h; exact lv_astore_n hx hb hd rfl hl (by rw [← hlen]; exact h1) rfl (fun ls' hl' => ihn _ _ _ _ _ hk (by rw [List.length_set]; exact hlen) _ _ _ (mx_st1 (v := .ref x) hl' h1 h2) hP hD hS)
    case astore => obtain ⟨rfl, x, st', rfl, h1, h2, hk⟩ := h; exact lv_astore hx hb hd hl (by rw [← hlen]; exact h1) rfl (fun ls' hl' => ihn _ _ _ _ _ hk (by rw [List.length_set]; exact hlen) _ _ _ (mx_st1 (v := .ref x) hl' h1 h2) hP hD hS)
    case lstore_n => obtain ⟨rfl, x, st', rfl, h1, h2, hk⟩ := h; exact lv_lstore_n hx hb hd rfl hl (by rw [← hlen]; exact h1) rfl (fun ls' hl' => ihn _ _ _ _ _ hk (by rw [List.length_set, List.length_set]; exact hlen) _ _ _ (mx_st2 (v := .long x) hl' h1 h2) hP hD hS)
    case lstore => obtain ⟨rfl, x, st', rfl, h1, h2, hk⟩ := h; exact lv_lstore hx hb hd hl (by rw [← hlen]; exact h1) rfl (fun ls' hl' => ihn _ _ _ _ _ hk (by rw [List.length_set, List.length_set]; exact hlen) _ _ _ (mx_st2 (v := .long x) hl' h1 h2) hP hD hS)
    case iinc k z =>
      obtain ⟨rfl, x, hg, h2, hk⟩ := h
      have h1 : k < als.length := (List.getElem?_eq_some_iff.mp hg).1
      obtain ⟨k9, hk9⟩ := List.getElem?_of_mem (mx_as_mem0.mpr ⟨k, .int x, hg, rfl⟩ : (k, mx_cv adr (.int x)) ∈ mx_as adr 0 als)
      exact lv_iinc hx hb hd hl hk9 rfl (by rw [← hlen]; exact h1) rfl (fun ls' hl' => ihn _ _ _ _ _ hk (by rw [List.length_set]; exact hlen) _ _ _ (mx_st1 (v := .int (x + Int32.ofInt z)) hl' h1 h2) hP hD hS)
    case iadd => obtain ⟨rfl, x, y, st', rfl, hk⟩ := h; exact lv_iadd hx hb hd (ihn _ _ _ _ _ hk hlen _ _ _ hl hP hD hS)
    case isub => obtain ⟨rfl, x, y, st', rfl, hk⟩ := h; exact lv_isub hx hb hd (ihn _ _ _ _ _ hk hlen _ _ _ hl hP hD hS)
    case imul => obtain ⟨rfl, x, y, st', rfl, hk⟩ := h; exact lv_imul hx hb hd (ihn _ _ _ _ _ hk hlen _ _ _ hl hP hD hS)
    case ior => obtain ⟨rfl, x, y, st', rfl, hk⟩ := h; exact lv_ior hx hb hd (ihn _ _ _ _ _ hk hlen _ _ _ hl hP hD hS)
    case idiv => obtain ⟨rfl, x, y, st', rfl, h0, hk⟩ := h; exact lv_idiv hx hb hd h0 (ihn _ _ _ _ _ hk hlen _ _ _ hl hP hD hS)
    case irem => obtain ⟨rfl, x, y, st', rfl, h0, hk⟩ := h; exact lv_irem hx hb hd h0 (ihn _ _ _ _ _ hk hlen _ _ _ hl hP hD hS)
    case ldiv => obtain ⟨rfl, x, y, st', rfl, h0, hk⟩ := h; exact lv_ldiv hx hb hd h0 (ihn _ _ _ _ _ hk hlen _ _ _ hl hP hD hS)
    case lrem => obtain ⟨rfl, x, y, st', rfl, h0, hk⟩ := h; exact lv_lrem hx hb hd h0 (ihn _ _ _ _ _ hk hlen _ _ _ hl hP hD hS)
    case ineg => obtain ⟨rfl, x, st', rfl, hk⟩ := h; exact lv_ineg hx hb hd (ihn _ _ _ _ _ hk hlen _ _ _ hl hP hD hS)
    case ishr => obtain ⟨rfl, x, y, st', rfl, hk⟩ := h; exact lv_ishr hx hb hd (ihn _ _ _ _ _ hk hlen _ _ _ hl hP hD hS)
    case iushr => obtain ⟨rfl, x, y, st', rfl, hk⟩ := h; exact lv_iushr hx hb hd rfl (ihn _ _ _ _ _ hk hlen _ _ _ hl hP hD hS)
    case lcmp => obtain ⟨rfl, x, y, st', rfl, hk⟩ := h; exact W.lcmp hx hb hd (ihn _ _ _ _ _ hk hlen _ _ _ hl hP hD hS)
    case i2l => obtain ⟨rfl, x, st', rfl, hk⟩ := h; exact lv_i2l hx hb hd rfl (ihn _ _ _ _ _ hk hlen _ _ _ hl hP hD hS)
    case l2i => obtain ⟨rfl, x, st', rfl, hk⟩ := h; exact lv_l2i hx hb hd rfl (ihn _ _ _ _ _ hk hlen _ _ _ hl hP hD hS)
    case i2b => obtain ⟨rfl, x, st', rfl, hk⟩ := h; exact lv_i2b hx hb hd rfl (ihn _ _ _ _ _ hk hlen _ _ _ hl hP hD hS)
    case i2s => obtain ⟨rfl, x, st', rfl, hk⟩ := h; exact lv_i2s hx hb hd rfl (ihn _ _ _ _ _ hk hlen _ _ _ hl hP hD hS)
    case dup => obtain ⟨rfl, v, st', rfl, hv, hk⟩ := h; exact lv_dup hx hb hd (by rw [mx_cv_cat]; exact hv) (ihn _ _ _ _ _ hk hlen _ _ _ hl hP hD hS)
    case pop => obtain ⟨rfl, v, st', rfl, hv, hk⟩ := h; exact lv_pop hx hb hd (by rw [mx_cv_cat]; exact hv) (ihn _ _ _ _ _ hk hlen _ _ _ hl hP hD hS)
    case ifCond => obtain ⟨rfl, h0, x, st', rfl, ht, hf⟩ := h; exact mx_if hx hb hd h0 (fun z => ihn _ _ _ _ _ (ht z) hlen _ _ _ hl hP hD hS) (fun z => ihn _ _ _ _ _ (hf z) hlen _ _ _ hl hP hD hS)
    case if_icmp => obtain ⟨rfl, h0, x, y, st', rfl, ht, hf⟩ := h; exact mx_icmp hx hb hd h0 (fun z => ihn _ _ _ _ _ (ht z) hlen _ _ _ hl hP hD hS) (fun z => ihn _ _ _ _ _ (hf z) hlen _ _ _ hl hP hD hS)
    case goto => obtain ⟨rfl, h0, hk⟩ := h; exact lv_goto hx hb hd (Int.toNat_of_nonneg h0).symm (ihn _ _ _ _ _ hk hlen _ _ _ hl hP hD hS)
    case tableswitch dflt lo hi offs =>
      obtain ⟨x, st', rfl, h1, h2⟩ := h
      by_cases hx2 : x.toInt < lo ∨ hi < x.toInt
      · obtain ⟨h0, hk⟩ := h1 hx2
        exact lv_tableOut hx hb hd hx2 (Int.toNat_of_nonneg h0).symm (ihn _ _ _ _ _ hk hlen _ _ _ hl hP hD hS)
      · obtain ⟨off, ho, h0, hk⟩ := h2 hx2
        exact lv_tableIn hx hb hd (fun z => hx2 (Or.inl z)) (fun z => hx2 (Or.inr z)) ho (Int.toNat_of_nonneg h0).symm (ihn _ _ _ _ _ hk hlen _ _ _ hl hP hD hS)
    case lookupswitch dflt ps =>
      obtain ⟨hp, x, st', rfl, h0, hk⟩ := h
      exact lv_lookup hx hb hd hp rfl (Int.toNat_of_nonneg h0).symm (ihn _ _ _ _ _ hk hlen _ _ _ hl hP hD hS)
    case getfield x =>
      obtain ⟨rfl, h, st', ci, k, rfl, hf, hkd, hk⟩ := h
      obtain ⟨f1, f2, f3⟩ := mx_fT_ok hf
      refine va_get hx hb hts (mx_layG f2) hown hK hP h (mx_at_obj hkd f2) (mx_inT ci f2).1 k f3 (hts _ f1) (fun _ h9 => h9) (v := mx_cv adr (if mx_off ci k = 0 then .int (σ.1 h k) else .ref (h + mx_off ci k))) ?_ hd (ihn _ _ _ _ _ hk hlen _ _ _ hl hP hD hS)
      by_cases ho : mx_off ci k = 0
      · simp [mx_fs, f3, ho, mx_cv]
      · simp [mx_fs, f3, ho, mx_cv]
    case putfield x =>
      obtain ⟨rfl, h, v, st', ci, k, rfl, hf, hkd, ho, hbl, hk⟩ := h
      obtain ⟨f1, f2, f3⟩ := mx_fT_ok hf
      obtain ⟨g1, g2⟩ := mx_inF ci f2
      obtain ⟨i1, i2⟩ := mx_intF ci f2 k f3 ho
      have hnar : narrow (mx_cY ci k) (.int v) = .int v ∧ fits (mx_cY ci k) (.int v) = true := by
        rcases i2 with i2 | ⟨i2, i3⟩
        · rw [i2]; exact ⟨rfl, rfl⟩
        · rw [i2]
          rcases hbl i3 with rfl | rfl
          · exact ⟨rfl, rfl⟩
          · exact ⟨rfl, rfl⟩
      refine va_put hx hb hts (mx_layG f2) (mx_cY ci) g1 g2 hown hK hP hD hS h (mx_at_obj hkd f2) (mx_inT ci f2).1 k f3 (hts _ f1) (fun _ h9 => h9) i1 (g1 k f3) (v := .int v) hnar.1 hnar.2 (by simpa [mx_fs] using f3) hd (fun H1 locs1 hP1 hD1 hS1 => ?_)
      rw [mx_setF hkd f2 ho f3] at hP1
      exact ihn _ _ _ _ _ hk hlen _ _ _ hl hP1 (mx_D hD) hS1
    case getstatic x =>
      obtain ⟨rfl, hcs, hk⟩ := h
      rcases hcs with ⟨h1, rfl⟩ | ⟨h1, rfl⟩
      · rw [h1] at hown
        exact va_gets hx hb hZ.1 hS hown (hts _ (mx_inG mx_stL rfl)) (fun _ h9 => h9) hd (ihn _ _ _ _ _ hk hlen _ _ _ hl hP hD hS)
      · rw [h1] at hown
        exact va_getsN hx hb hZ.1 hS hown (va_Nw.use rfl hZ.2.2) (fun _ h9 => h9) hd (ihn _ _ _ _ _ hk hlen _ _ _ hl hP hD hS)
    case iaload =>
      obtain ⟨rfl, i, a, st', rfl, hin, hk | hk⟩ := h
      · exact va_iald hx hb hK hP a 0 (mx_at_int hk.1 (Or.inl rfl)) rfl hin hd (ihn _ _ _ _ _ hk.2 hlen _ _ _ hl hP hD hS)
      · obtain ⟨rfl, hk⟩ := hk
        exact va_ti hx hb hZ.2.1 hS (N := 6) hin rfl hd (ihn _ _ _ _ _ hk hlen _ _ _ hl hP hD hS)
    case baload =>
      obtain ⟨rfl, i, a, st', rfl, hin, h9 | h9, hk⟩ := h
      · exact va_bald hx hb hK hP a 1 (mx_at_int h9 (Or.inr (Or.inl rfl))) rfl hin hd (ihn _ _ _ _ _ hk hlen _ _ _ hl hP hD hS)
      · exact va_zald hx hb hK hP a 2 (mx_at_int h9 (Or.inr (Or.inr rfl))) rfl hin hd (ihn _ _ _ _ _ hk hlen _ _ _ hl hP hD hS)
    case laload =>
      obtain ⟨rfl, i, a, st', rfl, hin, h9, hk⟩ := h
      exact va_lald hx hb hK hP a 3 (mx_at_long h9) rfl hin hd (ihn _ _ _ _ _ hk hlen _ _ _ hl hP hD hS)
    case aaload =>
      obtain ⟨rfl, i, a, st', rfl, hin, h9, hk⟩ := h
      exact mx_aald hx hb hK hP h9 hin hd (ihn _ _ _ _ _ hk hlen _ _ _ hl hP hD hS)
    case iastore =>
      obtain ⟨rfl, v, i, a, st', rfl, hin, h9, hk⟩ := h
      refine va_iast hx hb hK hP hD hS a 0 (mx_at_int h9 (Or.inl rfl)) rfl hin hd (fun H1 locs1 hP1 hD1 hS1 => ?_)
      rw [mx_setI h9 (Or.inl rfl)] at hP1
      exact ihn _ _ _ _ _ hk hlen _ _ _ hl hP1 (mx_D hD) hS1
    case bastore =>
      obtain ⟨rfl, v, i, a, st', rfl, hin, ⟨h9, hk⟩ | ⟨h9, h8, hk⟩⟩ := h
      · refine va_bast hx hb hK hP hD hS a 1 (mx_at_int h9 (Or.inr (Or.inl rfl))) rfl hin hd (fun H1 locs1 hP1 hD1 hS1 => ?_)
        rw [vp_nar_byte, mx_setI h9 (Or.inr (Or.inl rfl))] at hP1
        exact ihn _ _ _ _ _ hk hlen _ _ _ hl hP1 (mx_D hD) hS1
      · refine va_zast hx hb hK hP hD hS a 2 (mx_at_int h9 (Or.inr (Or.inr rfl))) rfl hin hd (fun H1 locs1 hP1 hD1 hS1 => ?_)
        have e9 : vp_nar .boolean v = v := by rcases h8 with rfl | rfl <;> rfl
        rw [e9, mx_setI h9 (Or.inr (Or.inr rfl))] at hP1
        exact ihn _ _ _ _ _ hk hlen _ _ _ hl hP1 (mx_D hD) hS1
    case lastore =>
      obtain ⟨rfl, v, i, a, st', rfl, hin, h9, hk⟩ := h
      refine va_last hx hb hK hP hD hS a 3 (mx_at_long h9) rfl hin hd (fun H1 locs1 hP1 hD1 hS1 => ?_)
      rw [mx_setL h9] at hP1
      exact ihn _ _ _ _ _ hk hlen _ _ _ hl hP1 (mx_D hD) hS1
    case arraylength =>
      obtain ⟨rfl, a, st', rfl, h8, h9, hk⟩ := h
      by_cases h11 : mx_kd a = 11
      · exact va_alen hx hb hK hP a 3 (mx_at_long h11) rfl rfl hd (ihn _ _ _ _ _ hk hlen _ _ _ hl hP hD hS)
      · by_cases h12 : mx_kd a < 11
        · have hkk : mx_kd a = 8 ∨ mx_kd a = 9 ∨ mx_kd a = 10 := by omega
          rcases hkk with h | h | h
          · exact va_alen hx hb hK hP a 0 (mx_at_int h (Or.inl rfl)) rfl rfl hd (ihn _ _ _ _ _ hk hlen _ _ _ hl hP hD hS)
          · exact va_alen hx hb hK hP a 1 (mx_at_int h (Or.inr (Or.inl rfl))) rfl rfl hd (ihn _ _ _ _ _ hk hlen _ _ _ hl hP hD hS)
          · exact va_alen hx hb hK hP a 2 (mx_at_int h (Or.inr (Or.inr rfl))) rfl rfl hd (ihn _ _ _ _ _ hk hlen _ _ _ hl hP hD hS)
        · have hkk : mx_kd a = 12 ∨ mx_kd a = 13 ∨ mx_kd a = 14 ∨ mx_kd a = 15 := by omega
          rcases hkk with h | h | h | h
          · exact va_alen hx hb hK hP a 4 (mx_at_ref h (by decide) (by decide)) rfl rfl hd (ihn _ _ _ _ _ hk hlen _ _ _ hl hP hD hS)
          · exact va_alen hx hb hK hP a 5 (mx_at_ref h (by decide) (by decide)) rfl rfl hd (ihn _ _ _ _ _ hk hlen _ _ _ hl hP hD hS)
          · exact va_alen hx hb hK hP a 6 (mx_at_ref h (by decide) (by decide)) rfl rfl hd (ihn _ _ _ _ _ hk hlen _ _ _ hl hP hD hS)
          · exact va_alen hx hb hK hP a 7 (mx_at_ref h (by decide) (by decide)) rfl rfl hd (ihn _ _ _ _ _ hk hlen _ _ _ hl hP hD hS)
    case invokevirtual x =>
      obtain ⟨rfl, M', k, As, h, st', q, hc, rfl, hn, hkd, hcat, hC, hk⟩ := h
      refine mx_virt F0' ih hc hn hkd hcat hC hd hls hP hD hS (fun H1 locs1 hP1 hS1 => ?_)
      have hw := ihn _ _ _ _ _ hk hlen _ _ _ hl hP1 (mx_D hD) hS1
      rw [List.map_append] at hw
      have e9 : (q.1.map (mx_cv adr)).toList = q.1.toList.map (mx_cv adr) := by cases q.1 <;> rfl
      rw [e9]
      exact hw
    case invokestatic x =>
      obtain ⟨rfl, h | h | h | h⟩ := h
      · obtain ⟨M', k, As, st', q, hc, rfl, hn, hcat, hC, hk⟩ := h
        refine mx_stat F0' ih hc hn hcat hC hd hls hP hD hS (fun H1 locs1 hP1 hS1 => ?_)
        have hw := ihn _ _ _ _ _ hk hlen _ _ _ hl hP1 (mx_D hD) hS1
        rw [List.map_append] at hw
        have e9 : (q.1.map (mx_cv adr)).toList = q.1.toList.map (mx_cv adr) := by cases q.1 <;> rfl
        rw [e9]
        exact hw
      · obtain ⟨a, b, st', hc, rfl, hcat, hk⟩ := h
        exact va_mmax hx hb hml' hown (hts _ (mx_dT_ok hc)) (hts _ (mx_inG mx_maxS rfl)) (hts _ (mx_inG mx_mathI rfl)) (hts _ (mx_inG mx_max rfl)) hR1 (by have := mx_catS (adr := adr) hcat; omega) (Nat.zero_le _) (Nat.zero_le _) hd (ihn _ _ _ _ _ hk hlen _ _ _ hl hP hD hS)
      · obtain ⟨a, b, st', hc, rfl, hcat, hk⟩ := h
        exact va_mmin hx hb hml' hown (hts _ (mx_dT_ok hc)) (hts _ (mx_inG mx_minS rfl)) (hts _ (mx_inG mx_mathI rfl)) (hts _ (mx_inG mx_min rfl)) hR1 (by have := mx_catS (adr := adr) hcat; omega) (Nat.zero_le _) (Nat.zero_le _) hd (ihn _ _ _ _ _ hk hlen _ _ _ hl hP hD hS)
      · obtain ⟨z, dp, a, sp, b, st', hc, rfl, hcat, h1, h2, h3, h4, h5, h⟩ := h
        have hcl : ((st'.map (mx_cv adr)).map fun v => v.category).sum + (nativeFrameWords "java/lang/System" "arraycopy" 5 + 11) ≤ (mx_rm (d + 1)).locals := by
          have h9 := mx_catS (adr := adr) hcat
          have e9 : nativeFrameWords "java/lang/System" "arraycopy" 5 = 7 := by decide +kernel
          rw [e9]
          omega
        rcases h with hk | hk
        · refine va_copyi hx hb hml' hown (hts _ (mx_dT_ok hc)) (hts _ (mx_inG mx_cpN rfl)) (hts _ (mx_inG mx_cpS rfl)) (hts _ (mx_inG mx_sysI rfl)) hK hP hD hS b a 0 0 (ty := .int) (mx_at_int hk.2.1 (Or.inl rfl)) (mx_at_int hk.1 (Or.inl rfl)) rfl rfl rfl h1 h2 h3 h4 h5 (fun _ _ => rfl) hR1 hcl hd (fun H1 locs1 hP1 hD1 hS1 => ?_)
          rw [mx_setCI hk.1] at hP1
          exact ihn _ _ _ _ _ hk.2.2 hlen _ _ _ hl hP1 (mx_D hD) hS1
        · refine va_copyl hx hb hml' hown (hts _ (mx_dT_ok hc)) (hts _ (mx_inG mx_cpN rfl)) (hts _ (mx_inG mx_cpS rfl)) (hts _ (mx_inG mx_sysI rfl)) hK hP hD hS b a 3 3 (mx_at_long hk.2.1) (mx_at_long hk.1) rfl rfl rfl h1 h2 h3 h4 h5 (fun _ _ => rfl) hR1 hcl hd (fun H1 locs1 hP1 hD1 hS1 => ?_)
          rw [mx_setCL hk.1] at hP1
          exact ihn _ _ _ _ _ hk.2.2 hlen _ _ _ hl hP1 (mx_D hD) hS1
    case ireturn =>
      obtain ⟨rfl, x, ty, rfl, hty, hnar, rfl⟩ := h
      exact W.zret hx hb (by rw [hr]; exact hty) hnar (fun t ht hW => ⟨rfl, by rw [ht]; exact hP, hS.F ht⟩) hS.2.2 hd hlocks
    case lreturn =>
      obtain ⟨rfl, x, rfl, hty, rfl⟩ := h
      exact W.lret hx hb (by rw [hr]; exact hty) (fun t ht hW => ⟨rfl, by rw [ht]; exact hP, hS.F ht⟩) hS.2.2 hd hlocks
    case return_ =>
      obtain ⟨rfl, rfl, hty, rfl⟩ := h
      exact W.vret hx hb (by rw [hr]; exact hty) (fun t ht hW => ⟨rfl, by rw [ht]; exact hP, hS.F ht⟩) hS.2.2 hd hlocks
    all_goals exact False.elim h
set_option maxHeartbeats 4000000 in
/-- what the small machine calls, the machine does -/
theorem mx_sound (l : Launch) (adr : Nat → Nat) (ca : Nat → ClassId) (D : va_G) (A : Nat → Prop) : ∀ d, mx_ih l adr ca D A d := by
  intro d
  induction d with
  | zero => intro M as σ r _ h; exact False.elim h
  | succ d ih =>
    intro M as σ r ok h
    obtain ⟨hle, n, hex⟩ := h
    refine Met.ofW (cc := M.2.2.1) (maxL := M.2.2.2.1) (ret := M.2.2.2.2) ok.2.2.1 rfl ?_
    intro p e s m args below meth c s₁ B hml hv
    obtain ⟨rfl, hP, hK, hD, hZ⟩ := hv
    have hts := atoms_spec (ws := mx_w M) B.pre
    have hown : s.vm.findClass M.2.1.cls = some m.cls := findClass_of_methodNamed B.named
    rw [ok.2.2.2.2.2.1] at hown
    have hl := lv_entry (as.map (mx_cv adr)) (n := M.2.2.2.1) (by rw [mx_sl_len]; exact hle)
    rw [lg_entry_eq]
    generalize (lg_sl (as.map (mx_cv adr)) ++ List.replicate (M.2.2.2.1 - (lg_sl (as.map (mx_cv adr))).length) Slot.unset).toArray = ls at hl ⊢
    exact mx_sexec (d := d) (M := M) ⟨B.exec, B.bytes, B.returns, hml, hown, fun w hw => hts w (List.mem_cons_of_mem _ hw), hK, hZ, B.notSynchronized⟩ ih n 0 _ [] σ r hex (mx_ent_len hle) ls s.heap [] (mx_entry hl) hP hD va_S.rf
end MXY
