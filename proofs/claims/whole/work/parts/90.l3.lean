section LWL
variable {p : Program} {l : Launch} {e : Env} {s : State} {m : MethodId} {below : List Frame} {meth : Method} {c : Code}
variable {adr : Nat → Nat} {ca : Nat → ClassId} {D : va_G} {b L : Nat} {xs : Nat → Int32}
theorem lw_sub6 (hL : L ≤ 3072) : (Int32.ofNat L - 6).toInt = (L : Int) - 6 := pk_sub_toInt (a := L) (b := 6) (by omega) (by omega)
theorem lw_sw (F : lw_fx p s m c b L xs adr ca D) (hL : L ≤ 3072) {i : Nat} (hi : i + 6 ≤ L) {ls : Array Slot} (hl : lv_has ls 4 (lw_lv b adr i)) {σ : mx_S} {w : Vw} {H : Heap} {locs : List Loc} {Q : State → Prop} (hx0 : vwX w σ) (hm0 : vwM w σ) (hw : lw_st s adr ca D σ H locs) (kk : lw_kk p l e s m below meth c adr ca D b ls Q) (y : Int32) : W p l e room_1 s m #[Value.ref b] below meth c H locs 600000 7302249 Q (F0 m 33 ls [.int y]) := by
  obtain ⟨hx, hb, -⟩ := id F
  by_cases ho : y.toInt < 0 ∨ 34 < y.toInt
  · exact lv_tableOut (tgt := 1292) hx hb dL_law_33 ho (by decide) (kk σ w H locs hx0 hm0 hw)
  · have h1 : ¬ y.toInt < 0 := fun h => ho (Or.inl h)
    have h2 : ¬ 34 < y.toInt := fun h => ho (Or.inr h)
    obtain ⟨j, hj⟩ : ∃ j : Nat, y.toInt = (j : Int) := ⟨y.toInt.toNat, by omega⟩
    have hj34 : j ≤ 34 := by omega
    rcases (show j = 0 ∨ j = 1 ∨ j = 2 ∨ j = 3 ∨ j = 4 ∨ j = 5 ∨ j = 6 ∨ j = 7 ∨ j = 8 ∨ j = 9 ∨ j = 10 ∨ j = 11 ∨ j = 12 ∨ j = 13 ∨ j = 14 ∨ j = 15 ∨ j = 16 ∨ j = 17 ∨ j = 18 ∨ j = 19 ∨ j = 20 ∨ j = 21 ∨ j = 22 ∨ j = 23 ∨ j = 24 ∨ j = 25 ∨ j = 26 ∨ j = 27 ∨ j = 28 ∨ j = 29 ∨ j = 30 ∨ j = 31 ∨ j = 32 ∨ j = 33 ∨ j = 34 by omega) with rfl | rfl | rfl | rfl | rfl | rfl | rfl | rfl | rfl | rfl | rfl | rfl | rfl | rfl | rfl | rfl | rfl | rfl | rfl | rfl | rfl | rfl | rfl | rfl | rfl | rfl | rfl | rfl | rfl | rfl | rfl | rfl | rfl | rfl | rfl
    · exact lv_tableIn (off := 155) (tgt := 188) hx hb dL_law_33 h1 h2 (by rw [hj]; rfl) (by decide) (lw_c0 F hL hi hl hx0 hm0 hw kk)
    · exact lv_tableIn (off := 198) (tgt := 231) hx hb dL_law_33 h1 h2 (by rw [hj]; rfl) (by decide) (lw_c1 F hL hi hl hx0 hm0 hw kk)
    · exact lv_tableIn (off := 241) (tgt := 274) hx hb dL_law_33 h1 h2 (by rw [hj]; rfl) (by decide) (lw_c2 F hL hi hl hx0 hm0 hw kk)
    · exact lv_tableIn (off := 274) (tgt := 307) hx hb dL_law_33 h1 h2 (by rw [hj]; rfl) (by decide) (lw_c3 F hL hi hl hx0 hm0 hw kk)
    · exact lv_tableIn (off := 307) (tgt := 340) hx hb dL_law_33 h1 h2 (by rw [hj]; rfl) (by decide) (lw_c4 F hL hi hl hx0 hm0 hw kk)
    · exact lv_tableIn (off := 330) (tgt := 363) hx hb dL_law_33 h1 h2 (by rw [hj]; rfl) (by decide) (lw_c5 F hL hi hl hx0 hm0 hw kk)
    · exact lv_tableIn (off := 343) (tgt := 376) hx hb dL_law_33 h1 h2 (by rw [hj]; rfl) (by decide) (lw_c6 F hL hi hl hx0 hm0 hw kk)
    · exact lv_tableIn (off := 366) (tgt := 399) hx hb dL_law_33 h1 h2 (by rw [hj]; rfl) (by decide) (lw_c7 F hL hi hl hx0 hm0 hw kk)
    · exact lv_tableIn (off := 399) (tgt := 432) hx hb dL_law_33 h1 h2 (by rw [hj]; rfl) (by decide) (lw_c8 F hL hi hl hx0 hm0 hw kk)
    · exact lv_tableIn (off := 422) (tgt := 455) hx hb dL_law_33 h1 h2 (by rw [hj]; rfl) (by decide) (lw_c9 F hL hi hl hx0 hm0 hw kk)
    · exact lv_tableIn (off := 455) (tgt := 488) hx hb dL_law_33 h1 h2 (by rw [hj]; rfl) (by decide) (lw_c10 F hL hi hl hx0 hm0 hw kk)
    · exact lv_tableIn (off := 478) (tgt := 511) hx hb dL_law_33 h1 h2 (by rw [hj]; rfl) (by decide) (lw_c11 F hL hi hl hx0 hm0 hw kk)
    · exact lv_tableIn (off := 512) (tgt := 545) hx hb dL_law_33 h1 h2 (by rw [hj]; rfl) (by decide) (lw_c12 F hL hi hl hx0 hm0 hw kk)
    · exact lv_tableIn (off := 536) (tgt := 569) hx hb dL_law_33 h1 h2 (by rw [hj]; rfl) (by decide) (lw_c13 F hL hi hl hx0 hm0 hw kk)
    · exact lv_tableIn (off := 560) (tgt := 593) hx hb dL_law_33 h1 h2 (by rw [hj]; rfl) (by decide) (lw_c14 F hL hi hl hx0 hm0 hw kk)
    · exact lv_tableIn (off := 593) (tgt := 626) hx hb dL_law_33 h1 h2 (by rw [hj]; rfl) (by decide) (lw_c15 F hL hi hl hx0 hm0 hw kk)
    · exact lv_tableIn (off := 637) (tgt := 670) hx hb dL_law_33 h1 h2 (by rw [hj]; rfl) (by decide) (lw_c16 F hL hi hl hx0 hm0 hw kk)
    · exact lv_tableIn (off := 671) (tgt := 704) hx hb dL_law_33 h1 h2 (by rw [hj]; rfl) (by decide) (lw_c17 F hL hi hl hx0 hm0 hw kk)
    · exact lv_tableIn (off := 714) (tgt := 747) hx hb dL_law_33 h1 h2 (by rw [hj]; rfl) (by decide) (lw_c18 F hL hi hl hx0 hm0 hw kk)
    · exact lv_tableIn (off := 737) (tgt := 770) hx hb dL_law_33 h1 h2 (by rw [hj]; rfl) (by decide) (lw_c19 F hL hi hl hx0 hm0 hw kk)
    · exact lv_tableIn (off := 770) (tgt := 803) hx hb dL_law_33 h1 h2 (by rw [hj]; rfl) (by decide) (lw_c20 F hL hi hl hx0 hm0 hw kk)
    · exact lv_tableIn (off := 803) (tgt := 836) hx hb dL_law_33 h1 h2 (by rw [hj]; rfl) (by decide) (lw_c21 F hL hi hl hx0 hm0 hw kk)
    · exact lv_tableIn (off := 837) (tgt := 870) hx hb dL_law_33 h1 h2 (by rw [hj]; rfl) (by decide) (lw_c22 F hL hi hl hx0 hm0 hw kk)
    · exact lv_tableIn (off := 861) (tgt := 894) hx hb dL_law_33 h1 h2 (by rw [hj]; rfl) (by decide) (lw_c23 F hL hi hl hx0 hm0 hw kk)
    · exact lv_tableIn (off := 894) (tgt := 927) hx hb dL_law_33 h1 h2 (by rw [hj]; rfl) (by decide) (lw_c24 F hL hi hl hx0 hm0 hw kk)
    · exact lv_tableIn (off := 918) (tgt := 951) hx hb dL_law_33 h1 h2 (by rw [hj]; rfl) (by decide) (lw_c25 F hL hi hl hx0 hm0 hw kk)
    · exact lv_tableIn (off := 951) (tgt := 984) hx hb dL_law_33 h1 h2 (by rw [hj]; rfl) (by decide) (lw_c26 F hL hi hl hx0 hm0 hw kk)
    · exact lv_tableIn (off := 964) (tgt := 997) hx hb dL_law_33 h1 h2 (by rw [hj]; rfl) (by decide) (lw_c27 F hL hi hl hx0 hm0 hw kk)
    · exact lv_tableIn (off := 997) (tgt := 1030) hx hb dL_law_33 h1 h2 (by rw [hj]; rfl) (by decide) (lw_c28 F hL hi hl hx0 hm0 hw kk)
    · exact lv_tableIn (off := 1010) (tgt := 1043) hx hb dL_law_33 h1 h2 (by rw [hj]; rfl) (by decide) (lw_c29 F hL hi hl hx0 hm0 hw kk)
    · exact lv_tableIn (off := 1023) (tgt := 1056) hx hb dL_law_33 h1 h2 (by rw [hj]; rfl) (by decide) (lw_c30 F hL hi hl hx0 hm0 hw kk)
    · exact lv_tableIn (off := 1046) (tgt := 1079) hx hb dL_law_33 h1 h2 (by rw [hj]; rfl) (by decide) (lw_c31 F hL hi hl hx0 hm0 hw kk)
    · exact lv_tableIn (off := 1089) (tgt := 1122) hx hb dL_law_33 h1 h2 (by rw [hj]; rfl) (by decide) (lw_c32 F hL hi hl hx0 hm0 hw kk)
    · exact lv_tableIn (off := 1162) (tgt := 1195) hx hb dL_law_33 h1 h2 (by rw [hj]; rfl) (by decide) (lw_c33 F hL hi hl hx0 hm0 hw kk)
    · exact lv_tableIn (off := 1196) (tgt := 1229) hx hb dL_law_33 h1 h2 (by rw [hj]; rfl) (by decide) (lw_c34 F hL hi hl hx0 hm0 hw kk)
set_option maxHeartbeats 4000000 in
/-- THE LAW'S LOOP -/
theorem lw_loop (F : lw_fx p s m c b L xs adr ca D) (hL : L ≤ 3072) (hr : meth.sig.returnType = ret) (hlocks : meth.locks = false) : ∀ (n i : Nat), i ≤ L → L + 1 ≤ i + n → ∀ (σ : mx_S) (w : Vw) (H : Heap) (locs : List Loc) (ls : Array Slot), lv_has ls 4 (lw_lv b adr i) → vwX w σ → vwM w σ → lw_st s adr ca D σ H locs → W p l e room_1 s m #[Value.ref b] below meth c H locs 600000 7302249 (lw_Z below #[Value.ref b] s) (F0 m 18 ls []) := by
  intro n
  induction n with
  | zero => intro i h1 h2; exact absurd h2 (by omega)
  | succ n ih =>
    intro i hi hin σ w H locs ls hl hx0 hm0 hw
    obtain ⟨hx, hb, hml, hown, hts, hX, hbl, hK, hZ⟩ := id F
    have hbA : ¬ lw_A s b := Nat.not_le.mpr hbl
    refine lv_iload_n hx hb dL_law_18 rfl (lv_at hl 3 rfl) ?_
    refine lv_aload_n hx hb dL_law_19 rfl (lv_at hl 0 rfl) ?_
    refine va_slen hx hb hX hbl hbA hw.2.2 dL_law_20 ?_
    refine lv_bipush (v := 6) hx hb dL_law_21 (by decide) ?_
    refine lv_isub hx hb dL_law_23 ?_
    refine lv_icmp_gt (tgt := 1298) hx hb dL_law_24 (by decide) (fun g => ?_) (fun g => ?_)
    · refine lv_iconst (v := 1) hx hb dL_law_1298 (by decide) ?_
      refine va_forget (fun q hq => hw.2.2.2.2 q hq) ?_
      exact lw_ret hx hb hr hlocks dL_law_1299
    · have hi6 : i + 6 ≤ L := by
        rw [l32, lw_sub6 hL, nI_toInt (by omega)] at g
        omega
      refine lv_aload_n hx hb dL_law_27 rfl (lv_at hl 0 rfl) ?_
      refine lv_iload_n hx hb dL_law_28 rfl (lv_at hl 3 rfl) ?_
      refine va_sld hx hb hX hbl hbA hw.2.2 (nI_in (by omega) (by omega)) dL_law_29 ?_
      refine lv_bipush (v := 63) hx hb dL_law_30 (by decide) ?_
      refine lv_iand hx hb dL_law_32 ?_
      refine lw_sw F hL hi6 hl hx0 hm0 hw (fun σ' w' H1 locs1 hx1 hm1 hw1 => ?_) _
      refine lv_iinc (v := nI (i + 6)) (lv' := [(3, .int (nI (i + 6))), (0, .ref b), (1, .ref (adr 0)), (2, .ref (adr 88))]) hx hb dL_law_1292 hl (k := 3) rfl (nI_add i 6) (by decide) rfl (fun ls hl => ?_)
      refine lv_goto (tgt := 18) hx hb dL_law_1295 (by decide) ?_
      exact ih (i + 6) hi6 (by omega) σ' w' H1 locs1 ls (lv_sub hl [1, 2, 3, 0] rfl) hx1 hm1 hw1
end LWL
