/-! ===== a run has one end ===== -/
set_option maxHeartbeats 4000000 in
theorem mx_stp_det {C : mx_M → List Value → mx_S → mx_R → Prop} (hC : ∀ M as σ q q', C M as σ q → C M as σ q' → q = q') {M : mx_M} {i : Instr} {len pc : Nat} {ls : mx_L} {st : List Value} {σ : mx_S} {r r' : mx_R} {K K' : Nat → mx_L → List Value → mx_S → Prop} (hK : ∀ pc ls st σ, K pc ls st σ → K' pc ls st σ → r = r') (h : mx_stp C M i len pc ls st σ r K) (h' : mx_stp C M i len pc ls st σ r' K') : r = r' := by
  cases i
  case iconst => obtain ⟨-, hk⟩ := h; obtain ⟨-, hk2⟩ := h'; exact hK _ _ _ _ hk hk2
  case bipush => obtain ⟨-, hk⟩ := h; obtain ⟨-, hk2⟩ := h'; exact hK _ _ _ _ hk hk2
  case sipush => obtain ⟨-, hk⟩ := h; obtain ⟨-, hk2⟩ := h'; exact hK _ _ _ _ hk hk2
  case lconst => obtain ⟨-, hk⟩ := h; obtain ⟨-, hk2⟩ := h'; exact hK _ _ _ _ hk hk2
  case ldc => obtain ⟨-, v, hv, hk⟩ := h; obtain ⟨-, v2, hv2, hk2⟩ := h'; rw [hv] at hv2; cases hv2; exact hK _ _ _ _ hk hk2
  case ldc2_w => obtain ⟨-, v, hv, hk⟩ := h; obtain ⟨-, v2, hv2, hk2⟩ := h'; rw [hv] at hv2; cases hv2; exact hK _ _ _ _ hk hk2
  case iload_n => obtain ⟨-, v, hv, hk⟩ := h; obtain ⟨-, v2, hv2, hk2⟩ := h'; rw [hv] at hv2; cases hv2; exact hK _ _ _ _ hk hk2
  case iload => obtain ⟨-, v, hv, hk⟩ := h; obtain ⟨-, v2, hv2, hk2⟩ := h'; rw [hv] at hv2; cases hv2; exact hK _ _ _ _ hk hk2
  case lload_n => obtain ⟨-, v, hv, hk⟩ := h; obtain ⟨-, v2, hv2, hk2⟩ := h'; rw [hv] at hv2; cases hv2; exact hK _ _ _ _ hk hk2
  case lload => obtain ⟨-, v, hv, hk⟩ := h; obtain ⟨-, v2, hv2, hk2⟩ := h'; rw [hv] at hv2; cases hv2; exact hK _ _ _ _ hk hk2
  case aload_n => obtain ⟨-, v, hv, hk⟩ := h; obtain ⟨-, v2, hv2, hk2⟩ := h'; rw [hv] at hv2; cases hv2; exact hK _ _ _ _ hk hk2
  case aload => obtain ⟨-, v, hv, hk⟩ := h; obtain ⟨-, v2, hv2, hk2⟩ := h'; rw [hv] at hv2; cases hv2; exact hK _ _ _ _ hk hk2
  case istore_n => obtain ⟨-, x, st1, rfl, -, -, hk⟩ := h; obtain ⟨-, x2, st2, e, -, -, hk2⟩ := h'; cases e; exact hK _ _ _ _ hk hk2
  case istore => obtain ⟨-, x, st1, rfl, -, -, hk⟩ := h; obtain ⟨-, x2, st2, e, -, -, hk2⟩ := h'; cases e; exact hK _ _ _ _ hk hk2
  case astore_n => obtain ⟨-, x, st1, rfl, -, -, hk⟩ := h; obtain ⟨-, x2, st2, e, -, -, hk2⟩ := h'; cases e; exact hK _ _ _ _ hk hk2
  case astore => obtain ⟨-, x, st1, rfl, -, -, hk⟩ := h; obtain ⟨-, x2, st2, e, -, -, hk2⟩ := h'; cases e; exact hK _ _ _ _ hk hk2
  case lstore_n => obtain ⟨-, x, st1, rfl, -, -, hk⟩ := h; obtain ⟨-, x2, st2, e, -, -, hk2⟩ := h'; cases e; exact hK _ _ _ _ hk hk2
  case lstore => obtain ⟨-, x, st1, rfl, -, -, hk⟩ := h; obtain ⟨-, x2, st2, e, -, -, hk2⟩ := h'; cases e; exact hK _ _ _ _ hk hk2
  case iinc => obtain ⟨-, v, hv, -, hk⟩ := h; obtain ⟨-, v2, hv2, -, hk2⟩ := h'; rw [hv] at hv2; cases hv2; exact hK _ _ _ _ hk hk2
  case iadd => obtain ⟨-, x, y, st1, rfl, hk⟩ := h; obtain ⟨-, x2, y2, st2, e, hk2⟩ := h'; cases e; exact hK _ _ _ _ hk hk2
  case isub => obtain ⟨-, x, y, st1, rfl, hk⟩ := h; obtain ⟨-, x2, y2, st2, e, hk2⟩ := h'; cases e; exact hK _ _ _ _ hk hk2
  case imul => obtain ⟨-, x, y, st1, rfl, hk⟩ := h; obtain ⟨-, x2, y2, st2, e, hk2⟩ := h'; cases e; exact hK _ _ _ _ hk hk2
  case ior => obtain ⟨-, x, y, st1, rfl, hk⟩ := h; obtain ⟨-, x2, y2, st2, e, hk2⟩ := h'; cases e; exact hK _ _ _ _ hk hk2
  case ishr => obtain ⟨-, x, y, st1, rfl, hk⟩ := h; obtain ⟨-, x2, y2, st2, e, hk2⟩ := h'; cases e; exact hK _ _ _ _ hk hk2
  case iushr => obtain ⟨-, x, y, st1, rfl, hk⟩ := h; obtain ⟨-, x2, y2, st2, e, hk2⟩ := h'; cases e; exact hK _ _ _ _ hk hk2
  case lcmp => obtain ⟨-, x, y, st1, rfl, hk⟩ := h; obtain ⟨-, x2, y2, st2, e, hk2⟩ := h'; cases e; exact hK _ _ _ _ hk hk2
  case idiv => obtain ⟨-, x, y, st1, rfl, -, hk⟩ := h; obtain ⟨-, x2, y2, st2, e, -, hk2⟩ := h'; cases e; exact hK _ _ _ _ hk hk2
  case irem => obtain ⟨-, x, y, st1, rfl, -, hk⟩ := h; obtain ⟨-, x2, y2, st2, e, -, hk2⟩ := h'; cases e; exact hK _ _ _ _ hk hk2
  case ldiv => obtain ⟨-, x, y, st1, rfl, -, hk⟩ := h; obtain ⟨-, x2, y2, st2, e, -, hk2⟩ := h'; cases e; exact hK _ _ _ _ hk hk2
  case lrem => obtain ⟨-, x, y, st1, rfl, -, hk⟩ := h; obtain ⟨-, x2, y2, st2, e, -, hk2⟩ := h'; cases e; exact hK _ _ _ _ hk hk2
  case ineg => obtain ⟨-, x, st1, rfl, hk⟩ := h; obtain ⟨-, x2, st2, e, hk2⟩ := h'; cases e; exact hK _ _ _ _ hk hk2
  case i2l => obtain ⟨-, x, st1, rfl, hk⟩ := h; obtain ⟨-, x2, st2, e, hk2⟩ := h'; cases e; exact hK _ _ _ _ hk hk2
  case l2i => obtain ⟨-, x, st1, rfl, hk⟩ := h; obtain ⟨-, x2, st2, e, hk2⟩ := h'; cases e; exact hK _ _ _ _ hk hk2
  case i2b => obtain ⟨-, x, st1, rfl, hk⟩ := h; obtain ⟨-, x2, st2, e, hk2⟩ := h'; cases e; exact hK _ _ _ _ hk hk2
  case i2s => obtain ⟨-, x, st1, rfl, hk⟩ := h; obtain ⟨-, x2, st2, e, hk2⟩ := h'; cases e; exact hK _ _ _ _ hk hk2
  case dup => obtain ⟨-, x, st1, rfl, -, hk⟩ := h; obtain ⟨-, x2, st2, e, -, hk2⟩ := h'; cases e; exact hK _ _ _ _ hk hk2
  case pop => obtain ⟨-, x, st1, rfl, -, hk⟩ := h; obtain ⟨-, x2, st2, e, -, hk2⟩ := h'; cases e; exact hK _ _ _ _ hk hk2
  case ifCond k off =>
    obtain ⟨-, -, x, st1, rfl, ht, hf⟩ := h
    obtain ⟨-, -, x2, st2, e, ht2, hf2⟩ := h'
    cases e
    by_cases hc : mx_c2 k x 0
    · exact hK _ _ _ _ (ht hc) (ht2 hc)
    · exact hK _ _ _ _ (hf hc) (hf2 hc)
  case if_icmp k off =>
    obtain ⟨-, -, x, y, st1, rfl, ht, hf⟩ := h
    obtain ⟨-, -, x2, y2, st2, e, ht2, hf2⟩ := h'
    cases e
    by_cases hc : mx_c2 k x y
    · exact hK _ _ _ _ (ht hc) (ht2 hc)
    · exact hK _ _ _ _ (hf hc) (hf2 hc)
  case goto => obtain ⟨-, -, hk⟩ := h; obtain ⟨-, -, hk2⟩ := h'; exact hK _ _ _ _ hk hk2
  case tableswitch dflt lo hi offs =>
    obtain ⟨x, st1, rfl, h1, h2⟩ := h
    obtain ⟨x2, st2, e, h3, h4⟩ := h'
    cases e
    by_cases hc : x.toInt < lo ∨ hi < x.toInt
    · exact hK _ _ _ _ (h1 hc).2 (h3 hc).2
    · obtain ⟨off, ho, -, hk⟩ := h2 hc
      obtain ⟨off2, ho2, -, hk2⟩ := h4 hc
      rw [ho] at ho2
      cases ho2
      exact hK _ _ _ _ hk hk2
  case lookupswitch dflt ps =>
    obtain ⟨-, x, st1, rfl, -, hk⟩ := h
    obtain ⟨-, x2, st2, e, -, hk2⟩ := h'
    cases e
    exact hK _ _ _ _ hk hk2
  case getfield x =>
    obtain ⟨-, a, st1, ci, k, rfl, hf, -, hk⟩ := h
    obtain ⟨-, a2, st2, ci2, k2, e, hf2, -, hk2⟩ := h'
    cases e
    rw [hf] at hf2
    cases hf2
    exact hK _ _ _ _ hk hk2
  case putfield x =>
    obtain ⟨-, a, v, st1, ci, k, rfl, hf, -, -, -, hk⟩ := h
    obtain ⟨-, a2, v2, st2, ci2, k2, e, hf2, -, -, -, hk2⟩ := h'
    cases e
    rw [hf] at hf2
    cases hf2
    exact hK _ _ _ _ hk hk2
  case getstatic => obtain ⟨-, -, hk⟩ := h; obtain ⟨-, -, hk2⟩ := h'; exact hK _ _ _ _ hk hk2
  case iaload =>
    obtain ⟨-, i, a, st1, rfl, -, hk⟩ := h
    obtain ⟨-, i2, a2, st2, e, -, hk2⟩ := h'
    cases e
    have e2 : mx_kd 114 = 16 := rfl
    rcases hk with ⟨h1, hk⟩ | ⟨rfl, hk⟩
    · rcases hk2 with ⟨h2, hk2⟩ | ⟨rfl, hk2⟩
      · exact hK _ _ _ _ hk hk2
      · rw [e2] at h1; omega
    · rcases hk2 with ⟨h2, hk2⟩ | ⟨-, hk2⟩
      · rw [e2] at h2; omega
      · exact hK _ _ _ _ hk hk2
  case baload => obtain ⟨-, i, a, st1, rfl, -, -, hk⟩ := h; obtain ⟨-, i2, a2, st2, e, -, -, hk2⟩ := h'; cases e; exact hK _ _ _ _ hk hk2
  case laload => obtain ⟨-, i, a, st1, rfl, -, -, hk⟩ := h; obtain ⟨-, i2, a2, st2, e, -, -, hk2⟩ := h'; cases e; exact hK _ _ _ _ hk hk2
  case aaload => obtain ⟨-, i, a, st1, rfl, -, -, hk⟩ := h; obtain ⟨-, i2, a2, st2, e, -, -, hk2⟩ := h'; cases e; exact hK _ _ _ _ hk hk2
  case iastore => obtain ⟨-, v, i, a, st1, rfl, -, -, hk⟩ := h; obtain ⟨-, v2, i2, a2, st2, e, -, -, hk2⟩ := h'; cases e; exact hK _ _ _ _ hk hk2
  case lastore => obtain ⟨-, v, i, a, st1, rfl, -, -, hk⟩ := h; obtain ⟨-, v2, i2, a2, st2, e, -, -, hk2⟩ := h'; cases e; exact hK _ _ _ _ hk hk2
  case bastore =>
    obtain ⟨-, v, i, a, st1, rfl, -, hk⟩ := h
    obtain ⟨-, v2, i2, a2, st2, e, -, hk2⟩ := h'
    cases e
    rcases hk with ⟨h1, hk⟩ | ⟨h1, -, hk⟩
    · rcases hk2 with ⟨h2, hk2⟩ | ⟨h2, -, hk2⟩
      · exact hK _ _ _ _ hk hk2
      · omega
    · rcases hk2 with ⟨h2, hk2⟩ | ⟨h2, -, hk2⟩
      · omega
      · exact hK _ _ _ _ hk hk2
  case arraylength => obtain ⟨-, a, st1, rfl, -, -, hk⟩ := h; obtain ⟨-, a2, st2, e, -, -, hk2⟩ := h'; cases e; exact hK _ _ _ _ hk hk2
  case invokevirtual x =>
    obtain ⟨-, M1, n1, As1, a1, st1, q1, h3, rfl, h5, h6, h7, h8, h9⟩ := h
    obtain ⟨-, M2, n2, As2, a2, st2, q2, g3, g4, g5, g6, g7, g8, g9⟩ := h'
    rw [h3] at g3
    cases g3
    obtain ⟨e1, e2⟩ := List.append_inj g4 (by simp [h5, g5])
    cases e2
    cases List.reverse_inj.mp e1
    cases hC _ _ _ _ _ h8 g8
    exact hK _ _ _ _ h9 g9
  case invokestatic x =>
    have key : ∀ k M' n, mx_dT M.1 x = some k → mx_cTb M.1 x = some (1, M', n) → False := by
      intro k M' n h1 h2
      have t1 := mx_cT_ok h2
      rw [if_neg (by decide)] at t1
      unfold mx_dT at h1
      obtain ⟨z, hz, he⟩ := Option.map_eq_some_iff.mp h1
      obtain ⟨z1, z2, z3⟩ := mx_find hz
      unfold mx_cTb at h2
      obtain ⟨y, hy, -⟩ := Option.map_eq_some_iff.mp h2
      obtain ⟨y1, y2, y3⟩ := mx_find hy
      have hdis : ∀ z ∈ mx_dL, mx_cL.all (fun y => !(y.1 == z.1 && y.2.1 == z.2.1)) = true := by decide +kernel
      have h4 := List.all_eq_true.mp (hdis z z1) y y1
      rw [z2, z3, y2, y3] at h4
      simp at h4
    obtain ⟨-, h | h | h | h⟩ := h <;> obtain ⟨-, g | g | g | g⟩ := h'
    · obtain ⟨M1, n1, As1, st1, q1, h3, rfl, h5, h7, h8, h9⟩ := h
      obtain ⟨M2, n2, As2, st2, q2, g3, g4, g5, g7, g8, g9⟩ := g
      rw [h3] at g3
      cases g3
      obtain ⟨e1, e2⟩ := List.append_inj g4 (by simp [h5, g5])
      cases e2
      cases List.reverse_inj.mp e1
      cases hC _ _ _ _ _ h8 g8
      exact hK _ _ _ _ h9 g9
    · obtain ⟨M1, n1, As1, st1, q1, h3, -⟩ := h; obtain ⟨a, b, st2, g3, -⟩ := g; exact (key _ _ _ g3 h3).elim
    · obtain ⟨M1, n1, As1, st1, q1, h3, -⟩ := h; obtain ⟨a, b, st2, g3, -⟩ := g; exact (key _ _ _ g3 h3).elim
    · obtain ⟨M1, n1, As1, st1, q1, h3, -⟩ := h; obtain ⟨a, b, b1, b2, b3, st2, g3, -⟩ := g; exact (key _ _ _ g3 h3).elim
    · obtain ⟨M1, n1, As1, st1, q1, h3, -⟩ := g; obtain ⟨a, b, st2, g3, -⟩ := h; exact (key _ _ _ g3 h3).elim
    · obtain ⟨a, b, st1, h3, rfl, -, hk⟩ := h; obtain ⟨a2, b2, st2, g3, e, -, hk2⟩ := g; cases e; exact hK _ _ _ _ hk hk2
    · obtain ⟨a, b, st1, h3, -⟩ := h; obtain ⟨a2, b2, st2, g3, -⟩ := g; rw [h3] at g3; cases g3
    · obtain ⟨a, b, st1, h3, -⟩ := h; obtain ⟨a2, b2, b3, b4, b5, st2, g3, -⟩ := g; rw [h3] at g3; cases g3
    · obtain ⟨M1, n1, As1, st1, q1, h3, -⟩ := g; obtain ⟨a, b, st2, g3, -⟩ := h; exact (key _ _ _ g3 h3).elim
    · obtain ⟨a, b, st1, h3, -⟩ := h; obtain ⟨a2, b2, st2, g3, -⟩ := g; rw [h3] at g3; cases g3
    · obtain ⟨a, b, st1, h3, rfl, -, hk⟩ := h; obtain ⟨a2, b2, st2, g3, e, -, hk2⟩ := g; cases e; exact hK _ _ _ _ hk hk2
    · obtain ⟨a, b, st1, h3, -⟩ := h; obtain ⟨a2, b2, b3, b4, b5, st2, g3, -⟩ := g; rw [h3] at g3; cases g3
    · obtain ⟨M1, n1, As1, st1, q1, h3, -⟩ := g; obtain ⟨a, b, b1, b2, b3, st2, g3, -⟩ := h; exact (key _ _ _ g3 h3).elim
    · obtain ⟨a, b, b1, b2, b3, st1, h3, -⟩ := h; obtain ⟨a2, b2, st2, g3, -⟩ := g; rw [h3] at g3; cases g3
    · obtain ⟨a, b, b1, b2, b3, st1, h3, -⟩ := h; obtain ⟨a2, b2, st2, g3, -⟩ := g; rw [h3] at g3; cases g3
    · obtain ⟨n1, dp, a, sp, b, st1, h3, rfl, -, -, -, -, -, -, hk⟩ := h
      obtain ⟨n2, dp2, a2, sp2, b2, st2, g3, e, -, -, -, -, -, -, hk2⟩ := g
      cases e
      rcases hk with ⟨h1, -, hk⟩ | ⟨h1, -, hk⟩
      · rcases hk2 with ⟨h2, -, hk2⟩ | ⟨h2, -, hk2⟩
        · exact hK _ _ _ _ hk hk2
        · omega
      · rcases hk2 with ⟨h2, -, hk2⟩ | ⟨h2, -, hk2⟩
        · omega
        · exact hK _ _ _ _ hk hk2
  case ireturn =>
    obtain ⟨-, x, ty, rfl, -, -, rfl⟩ := h
    obtain ⟨-, x2, ty2, e, -, -, rfl⟩ := h'
    cases e
    rfl
  case lreturn =>
    obtain ⟨-, x, rfl, -, rfl⟩ := h
    obtain ⟨-, x2, e, -, rfl⟩ := h'
    cases e
    rfl
  case return_ =>
    obtain ⟨-, -, -, rfl⟩ := h
    obtain ⟨-, -, -, rfl⟩ := h'
    rfl
  all_goals exact False.elim h
theorem mx_exec_det {C : mx_M → List Value → mx_S → mx_R → Prop} (hC : ∀ M as σ q q', C M as σ q → C M as σ q' → q = q') {M : mx_M} : ∀ (n n' pc : Nat) (ls : mx_L) (st : List Value) (σ : mx_S) (r r' : mx_R), mx_exec C M n pc ls st σ r → mx_exec C M n' pc ls st σ r' → r = r' := by
  intro n
  induction n with
  | zero => intro n' pc ls st σ r r' h; exact False.elim h
  | succ n ih =>
    intro n' pc ls st σ r r' h h'
    cases n' with
    | zero => exact False.elim h'
    | succ n' =>
      obtain ⟨i, len, h1, h2⟩ := h
      obtain ⟨i', len', g1, g2⟩ := h'
      rw [h1] at g1
      cases g1
      exact mx_stp_det hC (fun pc ls st σ a b => ih n' pc ls st σ r r' a b) h2 g2
theorem mx_det : ∀ (d : Nat) (M : mx_M) (as : List Value) (σ : mx_S) (q q' : mx_R), mx_call d M as σ q → mx_call d M as σ q' → q = q' := by
  intro d
  induction d with
  | zero => intro M as σ q q' h; exact False.elim h
  | succ d ih =>
    intro M as σ q q' h h'
    obtain ⟨-, n, h⟩ := h
    obtain ⟨-, n', h'⟩ := h'
    exact mx_exec_det ih n n' 0 _ _ _ _ _ h h'
/-- a call that comes to q comes to q alone -/
theorem mx_one {d : Nat} {M : mx_M} {as : List Value} {σ : mx_S} {q : mx_R} (h : mx_call d M as σ q) : ∀ q', mx_call d M as σ q' ↔ q' = q := fun q' => ⟨fun h' => mx_det d M as σ q' q h' h, fun e => e ▸ h⟩
