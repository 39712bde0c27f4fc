theorem i2_i (x : Int32) : mx_is2 (some (some (.int x))) = false := rfl
theorem i2_r (x : Nat) : mx_is2 (some (some (.ref x))) = false := rfl
theorem i2_n : mx_is2 (some none) = false := rfl
theorem nz0 : narrow .boolean (.int 0) = .int 0 := rfl
theorem nz1 : narrow .boolean (.int 1) = .int 1 := rfl
theorem vin {j n : Nat} (h : j < n) (hn : n < 2147483648) : vp_in (nI j) n = True := eq_true (vp_in_nI h hn)
theorem clN {j : Nat} (h : j < 2147483648) : (nI j).toNatClampNeg = j := nI_clamp h
theorem ltN {a b : Nat} (ha : a < 2147483648) (hb : b < 2147483648) : (nI a < nI b) = (a < b) := propext (nI_ltI ha hb)
theorem leN {a b : Nat} (ha : a < 2147483648) (hb : b < 2147483648) : (nI a ≤ nI b) = (a ≤ b) := propext (nI_leI ha hb)
theorem eqN {a b : Nat} (ha : a < 2147483648) (hb : b < 2147483648) : (nI a = nI b) = (a = b) := propext (nI_eq ha hb)
theorem ptrG {a j : Nat} (h1 : a ≠ 49) (h2 : a ≠ 75) : mx_ptr a j = a + 1 + j := by unfold mx_ptr; rw [if_neg h1, if_neg h2]
theorem uu_same {α : Type} {f : Nat → Nat → α} {a k : Nat} {x : α} : mx_u f a k x a k = x := by simp [mx_u]
theorem uu_row {α : Type} {f : Nat → Nat → α} {a k i j : Nat} {x : α} (h : i ≠ a) : mx_u f a k x i j = f i j := by simp [mx_u, h]
theorem uu_col {α : Type} {f : Nat → Nat → α} {a k i j : Nat} {x : α} (h : j ≠ k) : mx_u f a k x i j = f i j := by simp [mx_u, h]
theorem cc_row {α : Type} {f : Nat → Nat → α} {a i j : Nat} {g : Nat → α} (h : i ≠ a) : mx_c f a g i j = f i j := by simp [mx_c, h]
theorem cc_same {α : Type} {f : Nat → Nat → α} {a j : Nat} {g : Nat → α} : mx_c f a g a j = g j := by simp [mx_c]
theorem cl_0 : (0 : Int32).toNatClampNeg = 0 := rfl
theorem vin_0 {n : Nat} (h : 0 < n) (hn : n < 2147483648) : vp_in 0 n = True := vin (j := 0) h hn
theorem cl_1 : (1 : Int32).toNatClampNeg = 1 := rfl
theorem vin_1 {n : Nat} (h : 1 < n) (hn : n < 2147483648) : vp_in 1 n = True := vin (j := 1) h hn
theorem cl_2 : (2 : Int32).toNatClampNeg = 2 := rfl
theorem vin_2 {n : Nat} (h : 2 < n) (hn : n < 2147483648) : vp_in 2 n = True := vin (j := 2) h hn
theorem cl_3 : (3 : Int32).toNatClampNeg = 3 := rfl
theorem vin_3 {n : Nat} (h : 3 < n) (hn : n < 2147483648) : vp_in 3 n = True := vin (j := 3) h hn
theorem cl_4 : (4 : Int32).toNatClampNeg = 4 := rfl
theorem vin_4 {n : Nat} (h : 4 < n) (hn : n < 2147483648) : vp_in 4 n = True := vin (j := 4) h hn
theorem cl_5 : (5 : Int32).toNatClampNeg = 5 := rfl
theorem vin_5 {n : Nat} (h : 5 < n) (hn : n < 2147483648) : vp_in 5 n = True := vin (j := 5) h hn
theorem cl_6 : (6 : Int32).toNatClampNeg = 6 := rfl
theorem vin_6 {n : Nat} (h : 6 < n) (hn : n < 2147483648) : vp_in 6 n = True := vin (j := 6) h hn
theorem cl_7 : (7 : Int32).toNatClampNeg = 7 := rfl
theorem vin_7 {n : Nat} (h : 7 < n) (hn : n < 2147483648) : vp_in 7 n = True := vin (j := 7) h hn
theorem cl_8 : (8 : Int32).toNatClampNeg = 8 := rfl
theorem vin_8 {n : Nat} (h : 8 < n) (hn : n < 2147483648) : vp_in 8 n = True := vin (j := 8) h hn
theorem cl_9 : (9 : Int32).toNatClampNeg = 9 := rfl
theorem vin_9 {n : Nat} (h : 9 < n) (hn : n < 2147483648) : vp_in 9 n = True := vin (j := 9) h hn
theorem cl_10 : (10 : Int32).toNatClampNeg = 10 := rfl
theorem vin_10 {n : Nat} (h : 10 < n) (hn : n < 2147483648) : vp_in 10 n = True := vin (j := 10) h hn
theorem cl_11 : (11 : Int32).toNatClampNeg = 11 := rfl
theorem vin_11 {n : Nat} (h : 11 < n) (hn : n < 2147483648) : vp_in 11 n = True := vin (j := 11) h hn
theorem cl_12 : (12 : Int32).toNatClampNeg = 12 := rfl
theorem vin_12 {n : Nat} (h : 12 < n) (hn : n < 2147483648) : vp_in 12 n = True := vin (j := 12) h hn
theorem kd_0 {a : Nat} (h : a = 47 ∨ (53 ≤ a ∧ a ≤ 59)) : mx_kd a = 0 := by
  have h9 : ∀ a, a < 114 → (a = 47 ∨ (53 ≤ a ∧ a ≤ 59)) → mx_kd a = 0 := by decide +kernel
  exact h9 a (by omega) h
theorem kd_1 {a : Nat} (h : a = 10 ∨ a = 13 ∨ a = 16 ∨ a = 28 ∨ a = 31 ∨ a = 34) : mx_kd a = 1 := by
  have h9 : ∀ a, a < 114 → (a = 10 ∨ a = 13 ∨ a = 16 ∨ a = 28 ∨ a = 31 ∨ a = 34) → mx_kd a = 1 := by decide +kernel
  exact h9 a (by omega) h
theorem kd_2 {a : Nat} (h : a = 48) : mx_kd a = 2 := by
  have h9 : ∀ a, a < 114 → (a = 48) → mx_kd a = 2 := by decide +kernel
  exact h9 a (by omega) h
theorem kd_3 {a : Nat} (h : a = 1 ∨ a = 19 ∨ a = 37) : mx_kd a = 3 := by
  have h9 : ∀ a, a < 114 → (a = 1 ∨ a = 19 ∨ a = 37) → mx_kd a = 3 := by decide +kernel
  exact h9 a (by omega) h
theorem kd_4 {a : Nat} (h : a = 76 ∨ a = 78 ∨ a = 80 ∨ a = 82 ∨ a = 84 ∨ a = 86) : mx_kd a = 4 := by
  have h9 : ∀ a, a < 114 → (a = 76 ∨ a = 78 ∨ a = 80 ∨ a = 82 ∨ a = 84 ∨ a = 86) → mx_kd a = 4 := by decide +kernel
  exact h9 a (by omega) h
theorem kd_5 {a : Nat} (h : a = 60) : mx_kd a = 5 := by
  have h9 : ∀ a, a < 114 → (a = 60) → mx_kd a = 5 := by decide +kernel
  exact h9 a (by omega) h
theorem kd_6 {a : Nat} (h : a = 0) : mx_kd a = 6 := by
  have h9 : ∀ a, a < 114 → (a = 0) → mx_kd a = 6 := by decide +kernel
  exact h9 a (by omega) h
theorem kd_7 {a : Nat} (h : a = 88) : mx_kd a = 7 := by
  have h9 : ∀ a, a < 114 → (a = 88) → mx_kd a = 7 := by decide +kernel
  exact h9 a (by omega) h
theorem kd_8 {a : Nat} (h : (3 ≤ a ∧ a ≤ 9) ∨ (11 ≤ a ∧ a ≤ 12) ∨ (14 ≤ a ∧ a ≤ 15) ∨ (17 ≤ a ∧ a ≤ 18) ∨ (21 ≤ a ∧ a ≤ 27) ∨ (29 ≤ a ∧ a ≤ 30) ∨ (32 ≤ a ∧ a ≤ 33) ∨ (35 ≤ a ∧ a ≤ 36) ∨ (39 ≤ a ∧ a ≤ 46) ∨ (50 ≤ a ∧ a ≤ 51) ∨ (63 ≤ a ∧ a ≤ 74) ∨ (89 ≤ a ∧ a ≤ 103) ∨ (111 ≤ a ∧ a ≤ 112)) : mx_kd a = 8 := by
  have h9 : ∀ a, a < 114 → ((3 ≤ a ∧ a ≤ 9) ∨ (11 ≤ a ∧ a ≤ 12) ∨ (14 ≤ a ∧ a ≤ 15) ∨ (17 ≤ a ∧ a ≤ 18) ∨ (21 ≤ a ∧ a ≤ 27) ∨ (29 ≤ a ∧ a ≤ 30) ∨ (32 ≤ a ∧ a ≤ 33) ∨ (35 ≤ a ∧ a ≤ 36) ∨ (39 ≤ a ∧ a ≤ 46) ∨ (50 ≤ a ∧ a ≤ 51) ∨ (63 ≤ a ∧ a ≤ 74) ∨ (89 ≤ a ∧ a ≤ 103) ∨ (111 ≤ a ∧ a ≤ 112)) → mx_kd a = 8 := by decide +kernel
  exact h9 a (by omega) h
theorem kd_9 {a : Nat} (h : a = 61) : mx_kd a = 9 := by
  have h9 : ∀ a, a < 114 → (a = 61) → mx_kd a = 9 := by decide +kernel
  exact h9 a (by omega) h
theorem kd_10 {a : Nat} (h : a = 52) : mx_kd a = 10 := by
  have h9 : ∀ a, a < 114 → (a = 52) → mx_kd a = 10 := by decide +kernel
  exact h9 a (by omega) h
theorem kd_11 {a : Nat} (h : a = 77 ∨ a = 79 ∨ a = 81 ∨ a = 83 ∨ a = 85 ∨ a = 87 ∨ (105 ≤ a ∧ a ≤ 110) ∨ a = 113) : mx_kd a = 11 := by
  have h9 : ∀ a, a < 114 → (a = 77 ∨ a = 79 ∨ a = 81 ∨ a = 83 ∨ a = 85 ∨ a = 87 ∨ (105 ≤ a ∧ a ≤ 110) ∨ a = 113) → mx_kd a = 11 := by decide +kernel
  exact h9 a (by omega) h
theorem kd_12 {a : Nat} (h : a = 2 ∨ a = 20 ∨ a = 38 ∨ a = 62) : mx_kd a = 12 := by
  have h9 : ∀ a, a < 114 → (a = 2 ∨ a = 20 ∨ a = 38 ∨ a = 62) → mx_kd a = 12 := by decide +kernel
  exact h9 a (by omega) h
theorem kd_13 {a : Nat} (h : a = 49) : mx_kd a = 13 := by
  have h9 : ∀ a, a < 114 → (a = 49) → mx_kd a = 13 := by decide +kernel
  exact h9 a (by omega) h
theorem kd_14 {a : Nat} (h : a = 75) : mx_kd a = 14 := by
  have h9 : ∀ a, a < 114 → (a = 75) → mx_kd a = 14 := by decide +kernel
  exact h9 a (by omega) h
theorem kd_15 {a : Nat} (h : a = 104) : mx_kd a = 15 := by
  have h9 : ∀ a, a < 114 → (a = 104) → mx_kd a = 15 := by decide +kernel
  exact h9 a (by omega) h
theorem ln_4 {a : Nat} (h : (63 ≤ a ∧ a ≤ 74)) : mx_ln a = 4 := by
  have h9 : ∀ a, a < 114 → ((63 ≤ a ∧ a ≤ 74)) → mx_ln a = 4 := by decide +kernel
  exact h9 a (by omega) h
theorem ln_5 {a : Nat} (h : (11 ≤ a ∧ a ≤ 12) ∨ (29 ≤ a ∧ a ≤ 30) ∨ (91 ≤ a ∧ a ≤ 92)) : mx_ln a = 5 := by
  have h9 : ∀ a, a < 114 → ((11 ≤ a ∧ a ≤ 12) ∨ (29 ≤ a ∧ a ≤ 30) ∨ (91 ≤ a ∧ a ≤ 92)) → mx_ln a = 5 := by decide +kernel
  exact h9 a (by omega) h
theorem ln_6 {a : Nat} (h : (2 ≤ a ∧ a ≤ 9) ∨ (20 ≤ a ∧ a ≤ 27) ∨ (38 ≤ a ∧ a ≤ 46) ∨ (50 ≤ a ∧ a ≤ 52) ∨ a = 75 ∨ a = 90 ∨ (100 ≤ a ∧ a ≤ 102) ∨ a = 104 ∨ (111 ≤ a ∧ a ≤ 112)) : mx_ln a = 6 := by
  have h9 : ∀ a, a < 114 → ((2 ≤ a ∧ a ≤ 9) ∨ (20 ≤ a ∧ a ≤ 27) ∨ (38 ≤ a ∧ a ≤ 46) ∨ (50 ≤ a ∧ a ≤ 52) ∨ a = 75 ∨ a = 90 ∨ (100 ≤ a ∧ a ≤ 102) ∨ a = 104 ∨ (111 ≤ a ∧ a ≤ 112)) → mx_ln a = 6 := by decide +kernel
  exact h9 a (by omega) h
theorem ln_7 {a : Nat} (h : a = 49) : mx_ln a = 7 := by
  have h9 : ∀ a, a < 114 → (a = 49) → mx_ln a = 7 := by decide +kernel
  exact h9 a (by omega) h
theorem ln_8 {a : Nat} (h : (14 ≤ a ∧ a ≤ 15) ∨ (17 ≤ a ∧ a ≤ 18) ∨ (32 ≤ a ∧ a ≤ 33) ∨ (35 ≤ a ∧ a ≤ 36) ∨ (93 ≤ a ∧ a ≤ 96)) : mx_ln a = 8 := by
  have h9 : ∀ a, a < 114 → ((14 ≤ a ∧ a ≤ 15) ∨ (17 ≤ a ∧ a ≤ 18) ∨ (32 ≤ a ∧ a ≤ 33) ∨ (35 ≤ a ∧ a ≤ 36) ∨ (93 ≤ a ∧ a ≤ 96)) → mx_ln a = 8 := by decide +kernel
  exact h9 a (by omega) h
theorem ln_12 {a : Nat} (h : a = 62) : mx_ln a = 12 := by
  have h9 : ∀ a, a < 114 → (a = 62) → mx_ln a = 12 := by decide +kernel
  exact h9 a (by omega) h
theorem ln_36 {a : Nat} (h : a = 89 ∨ a = 99 ∨ a = 103) : mx_ln a = 36 := by
  have h9 : ∀ a, a < 114 → (a = 89 ∨ a = 99 ∨ a = 103) → mx_ln a = 36 := by decide +kernel
  exact h9 a (by omega) h
theorem ln_60 {a : Nat} (h : a = 77 ∨ a = 79 ∨ a = 81 ∨ a = 83 ∨ a = 85 ∨ a = 87 ∨ (105 ≤ a ∧ a ≤ 110) ∨ a = 113) : mx_ln a = 60 := by
  have h9 : ∀ a, a < 114 → (a = 77 ∨ a = 79 ∨ a = 81 ∨ a = 83 ∨ a = 85 ∨ a = 87 ∨ (105 ≤ a ∧ a ≤ 110) ∨ a = 113) → mx_ln a = 60 := by decide +kernel
  exact h9 a (by omega) h
theorem ln_100 {a : Nat} (h : a = 61 ∨ (97 ≤ a ∧ a ≤ 98)) : mx_ln a = 100 := by
  have h9 : ∀ a, a < 114 → (a = 61 ∨ (97 ≤ a ∧ a ≤ 98)) → mx_ln a = 100 := by decide +kernel
  exact h9 a (by omega) h
