/-! ===== the class: costs ===== -/
theorem ptrS {h j : Nat} (hs : h = 1 ∨ h = 19 ∨ h = 37) : mx_ptr (h + 1) j = h + 2 + j := by unfold mx_ptr; rw [if_neg (by omega), if_neg (by omega)]; omega
set_option maxHeartbeats 2000000 in
theorem l_costOf {d : Nat} {h a n md am : Nat} {V : Nat → Nat → Nat} {O : Nat → Nat} (hs : h = 1 ∨ h = 37) (ha : a = 9 ∨ a = 45 ∨ a = 46) (hn : n ≤ 6) (hmd : md ≤ 2) (hV : okV n V) (hO : ∀ p, p < n → O p < n) (σ0 : mx_S) (h0 : σ0.1 h 0 = nI n) (hr : ∀ j k, j < n → k < 6 → σ0.1 (h + 2 + j) k = nI (V j k)) (ho : ∀ p, p < n → σ0.1 a p = nI (O p)) : ∀ m p (σ : mx_S), p + m = n → halX V md O 47 p σ.1 → (∀ i, i ≠ 47 → σ.1 i = σ0.1 i) → σ.2 = σ0.2 →
    ∃ σ', (∀ q, mx_run d m_X6_costOf 10 [some (.ref 0), some (.ref h), some (.ref a), some (.int (nI md)), some (.int (nI am)), some (.int (nI p))] [] σ q ↔ mx_run d m_X6_costOf 45 [some (.ref 0), some (.ref h), some (.ref a), some (.int (nI md)), some (.int (nI am)), some (.int (nI n))] [] σ' q) ∧ halX V md O 47 n σ'.1 ∧ (∀ i, i ≠ 47 → σ'.1 i = σ0.1 i) ∧ σ'.2 = σ0.2 := by
  sorry
