/-! ===== the first view: what the constructors make is the small machine's memory, all of it empty ===== -/
def sg0 : mx_S := (fun i k => if i = 111 then cn_neg k else if 76 ≤ i ∧ i < 88 ∧ i % 2 = 0 ∧ k = 1 then -1 else 0, fun _ _ => 0)
def w00 : Vw := ((0, 0, 0, fun _ _ => 0, fun _ => 0, [], [], []), none, [], fun _ => (-1, 0, fun _ => 0))
theorem okC00 : okC w00.1 := ⟨Nat.zero_le _, Nat.zero_le _, Nat.zero_le _, fun j k h => absurd h (Nat.not_lt_zero _), ⟨fun p h => absurd h (Nat.not_lt_zero _), fun p q h => absurd h (Nat.not_lt_zero _)⟩, ⟨Nat.zero_le _, fun x h => absurd h List.not_mem_nil⟩, ⟨Nat.zero_le _, fun x h => absurd h List.not_mem_nil⟩, ⟨Nat.zero_le _, fun x h => absurd h List.not_mem_nil⟩⟩
theorem okW00 : okW w00 := ⟨okC00, fun c h => (by cases h), ⟨Nat.zero_le _, fun x h => absurd h List.not_mem_nil⟩, fun t _ => Or.inl ⟨rfl, rfl⟩⟩
theorem rowX00 {a : Nat} {f : Nat → Nat → Int32} (h : f a 2 = 0) : rowX [] a f := ⟨h, fun i h => absurd h (Nat.not_lt_zero _)⟩
theorem sg0_i {i k : Nat} (h : i < 76 ∨ (88 ≤ i ∧ i ≠ 111)) : sg0.1 i k = 0 := by
  show (if i = 111 then cn_neg k else if 76 ≤ i ∧ i < 88 ∧ i % 2 = 0 ∧ k = 1 then -1 else 0) = 0
  rw [if_neg (by omega), if_neg (by omega)]
theorem vwX00 : vwX w00 sg0 := by
  refine ⟨okW00, ⟨⟨sg0_i (by omega), sg0_i (by omega), sg0_i (by omega), fun j k h => absurd h (Nat.not_lt_zero _), fun p h => absurd h (Nat.not_lt_zero _)⟩, rowX00 (sg0_i (by omega)), rowX00 (sg0_i (by omega)), rowX00 (sg0_i (by omega))⟩, sg0_i (by omega), ⟨sg0_i (by omega), fun i h => absurd h (Nat.not_lt_zero _)⟩, fun t ht => ⟨?_, ?_, fun i _ => rfl⟩, fun j _ => sg0_i (by omega)⟩
  · show (if 76 + 2 * t = 111 then cn_neg 1 else if 76 ≤ 76 + 2 * t ∧ 76 + 2 * t < 88 ∧ (76 + 2 * t) % 2 = 0 ∧ 1 = 1 then -1 else 0) = -1
    rw [if_neg (by omega), if_pos ⟨by omega, by omega, by omega, rfl⟩]
  · show (if 76 + 2 * t = 111 then cn_neg 2 else if 76 ≤ 76 + 2 * t ∧ 76 + 2 * t < 88 ∧ (76 + 2 * t) % 2 = 0 ∧ 2 = 1 then -1 else 0) = 0
    rw [if_neg (by omega), if_neg (by omega)]
theorem neg00 {t : Nat} (h : t < 6) : cn_neg t = -1 := by
  rcases (show t = 0 ∨ t = 1 ∨ t = 2 ∨ t = 3 ∨ t = 4 ∨ t = 5 by omega) with rfl | rfl | rfl | rfl | rfl | rfl <;> rfl
theorem vwM00 : vwM w00 sg0 := by
  refine ⟨okW00, ⟨⟨sg0_i (by omega), sg0_i (by omega), sg0_i (by omega), fun j k h => absurd h (Nat.not_lt_zero _), fun p h => absurd h (Nat.not_lt_zero _)⟩, ⟨sg0_i (by omega), fun i h => absurd h (Nat.not_lt_zero _)⟩, ⟨sg0_i (by omega), fun i h => absurd h (Nat.not_lt_zero _)⟩, ⟨sg0_i (by omega), fun i h => absurd h (Nat.not_lt_zero _)⟩⟩, sg0_i (by omega), ⟨sg0_i (by omega), fun i h => absurd h (Nat.not_lt_zero _)⟩, fun t ht => ⟨neg00 ht, sg0_i (by omega), fun i _ => rfl⟩⟩
theorem cn_cc {α : Type} {a b : α} {l m : List α} (h : a = b) (k : l = m) : a :: l = b :: m := by rw [h, k]
theorem cn_rf {a c n : Nat} {f g : Nat → Nat} (h : ∀ j, j < n → f j = g j) : ((a, .inl (c, n, .inr (.inr (.inr (.inr (fun j => if j < n then some (f j) else none)))))) : Nat × va_E) = (a, .inl (c, n, .inr (.inr (.inr (.inr (fun j => if j < n then some (g j) else none)))))) := by
  have e : (fun j => if j < n then some (f j) else none) = (fun j => if j < n then some (g j) else none) := by
    funext j
    by_cases hj : j < n
    · rw [if_pos hj, if_pos hj, h j hj]
    · rw [if_neg hj, if_neg hj]
  rw [e]
set_option maxRecDepth 100000 in
set_option maxHeartbeats 8000000 in
theorem cn_world {ca : Nat → ClassId} {h0 h7 t : Nat} {wc wm : va_W} (hc : cb_class ca h0 wc) (hm : cb_model ca h7 wm) : ∃ adr : Nat → Nat, adr 0 = h0 ∧ adr 88 = h7 ∧ adr 114 = t ∧ mx_ws adr ca sg0 = wc ++ wm := by
  obtain ⟨q0, q1, q2, q3, q4, q5, q6, q7, q8, q9, q10, q11, q12, q13, w0, w1, w2, w3, w4, w5, w6, w7, w8, w10, w11, w12, r, u, B0, B1, B2, B3, B4, B5, B6, B7, B8, B9, B10, B11, rfl⟩ := hc
  obtain ⟨a0, b0, r0, rfl⟩ := B0
  obtain ⟨a1, b1, rfl⟩ := B1
  obtain ⟨a2, b2, rfl⟩ := B2
  obtain ⟨a3, b3, rfl⟩ := B3
  obtain ⟨a4, b4, r4, rfl⟩ := B4
  obtain ⟨a5, b5, rfl⟩ := B5
  obtain ⟨a6, b6, rfl⟩ := B6
  obtain ⟨a7, b7, rfl⟩ := B7
  obtain ⟨a8, b8, r8, rfl⟩ := B8
  cases B9
  obtain ⟨a11, b11, c11, d11, r11, rfl⟩ := B10
  obtain ⟨a12, b12, r12, rfl⟩ := B11
  obtain ⟨m0, m1, m2, m3, m4, m5, m6, m7, m8, m9, m10, m11, m12, m13, m14, m15, m16, m17, m18, rm, rfl⟩ := hm
  refine ⟨fun i => List.getD [h0, q0, a0, (r0 0), (r0 1), (r0 2), (r0 3), (r0 4), (r0 5), b0, q1, a1, b1, q2, a2, b2, q3, a3, b3, q4, a4, (r4 0), (r4 1), (r4 2), (r4 3), (r4 4), (r4 5), b4, q5, a5, b5, q6, a6, b6, q7, a7, b7, q8, a8, (r8 0), (r8 1), (r8 2), (r8 3), (r8 4), (r8 5), b8, q9, q10, q11, a11, b11, c11, d11, (r11 0), (r11 1), (r11 2), (r11 3), (r11 4), (r11 5), (r11 6), q12, a12, b12, (r12 0), (r12 1), (r12 2), (r12 3), (r12 4), (r12 5), (r12 6), (r12 7), (r12 8), (r12 9), (r12 10), (r12 11), q13, (r 0), (u 0), (r 1), (u 1), (r 2), (u 2), (r 3), (u 3), (r 4), (u 4), (r 5), (u 5), h7, m0, m1, m2, m3, m4, m5, m6, m7, m8, m9, m10, m11, m12, m13, m14, m15, (rm 0), (rm 1), (rm 2), (rm 3), (rm 4), (rm 5), m16, m17, m18] i t, rfl, rfl, rfl, ?_⟩
  exact cn_cc rfl (cn_cc rfl (cn_cc (cn_rf (n := 6) (fun j (hj : j < 6) => by rcases (show j = 0 ∨ j = 1 ∨ j = 2 ∨ j = 3 ∨ j = 4 ∨ j = 5 by omega) with rfl | rfl | rfl | rfl | rfl | rfl <;> rfl)) (cn_cc rfl (cn_cc rfl (cn_cc rfl (cn_cc rfl (cn_cc rfl (cn_cc rfl (cn_cc rfl (cn_cc rfl (cn_cc rfl (cn_cc rfl (cn_cc rfl (cn_cc rfl (cn_cc rfl (cn_cc rfl (cn_cc rfl (cn_cc rfl (cn_cc rfl (cn_cc (cn_rf (n := 6) (fun j (hj : j < 6) => by rcases (show j = 0 ∨ j = 1 ∨ j = 2 ∨ j = 3 ∨ j = 4 ∨ j = 5 by omega) with rfl | rfl | rfl | rfl | rfl | rfl <;> rfl)) (cn_cc rfl (cn_cc rfl (cn_cc rfl (cn_cc rfl (cn_cc rfl (cn_cc rfl (cn_cc rfl (cn_cc rfl (cn_cc rfl (cn_cc rfl (cn_cc rfl (cn_cc rfl (cn_cc rfl (cn_cc rfl (cn_cc rfl (cn_cc rfl (cn_cc rfl (cn_cc (cn_rf (n := 6) (fun j (hj : j < 6) => by rcases (show j = 0 ∨ j = 1 ∨ j = 2 ∨ j = 3 ∨ j = 4 ∨ j = 5 by omega) with rfl | rfl | rfl | rfl | rfl | rfl <;> rfl)) (cn_cc rfl (cn_cc rfl (cn_cc rfl (cn_cc rfl (cn_cc rfl (cn_cc rfl (cn_cc rfl (cn_cc rfl (cn_cc rfl (cn_cc rfl (cn_cc (cn_rf (n := 7) (fun j (hj : j < 7) => by rcases (show j = 0 ∨ j = 1 ∨ j = 2 ∨ j = 3 ∨ j = 4 ∨ j = 5 ∨ j = 6 by omega) with rfl | rfl | rfl | rfl | rfl | rfl | rfl <;> rfl)) (cn_cc rfl (cn_cc rfl (cn_cc rfl (cn_cc rfl (cn_cc rfl (cn_cc rfl (cn_cc rfl (cn_cc rfl (cn_cc rfl (cn_cc rfl (cn_cc rfl (cn_cc rfl (cn_cc (cn_rf (n := 12) (fun j (hj : j < 12) => by rcases (show j = 0 ∨ j = 1 ∨ j = 2 ∨ j = 3 ∨ j = 4 ∨ j = 5 ∨ j = 6 ∨ j = 7 ∨ j = 8 ∨ j = 9 ∨ j = 10 ∨ j = 11 by omega) with rfl | rfl | rfl | rfl | rfl | rfl | rfl | rfl | rfl | rfl | rfl | rfl <;> rfl)) (cn_cc rfl (cn_cc rfl (cn_cc rfl (cn_cc rfl (cn_cc rfl (cn_cc rfl (cn_cc rfl (cn_cc rfl (cn_cc rfl (cn_cc rfl (cn_cc rfl (cn_cc rfl (cn_cc (cn_rf (n := 6) (fun j (hj : j < 6) => by rcases (show j = 0 ∨ j = 1 ∨ j = 2 ∨ j = 3 ∨ j = 4 ∨ j = 5 by omega) with rfl | rfl | rfl | rfl | rfl | rfl <;> rfl)) (cn_cc rfl (cn_cc rfl (cn_cc rfl (cn_cc rfl (cn_cc rfl (cn_cc rfl (cn_cc rfl (cn_cc rfl (cn_cc rfl (cn_cc rfl (cn_cc rfl (cn_cc rfl (cn_cc rfl (cn_cc rfl (cn_cc rfl (cn_cc rfl (cn_cc rfl (cn_cc rfl (cn_cc rfl (cn_cc rfl (cn_cc rfl (cn_cc rfl (cn_cc rfl (cn_cc rfl (cn_cc rfl (cn_cc rfl (cn_cc rfl (cn_cc rfl (cn_cc (cn_rf (n := 6) (fun j (hj : j < 6) => by rcases (show j = 0 ∨ j = 1 ∨ j = 2 ∨ j = 3 ∨ j = 4 ∨ j = 5 by omega) with rfl | rfl | rfl | rfl | rfl | rfl <;> rfl)) (cn_cc rfl (cn_cc rfl (cn_cc rfl (cn_cc rfl (cn_cc rfl (cn_cc rfl (cn_cc rfl (cn_cc rfl (cn_cc rfl (rfl))))))))))))))))))))))))))))))))))))))))))))))))))))))))))))))))))))))))))))))))))))))))))))))))))))))))))))))))))
