/-! ===== the reference: goes, costs ===== -/
/-- the times of a job, by number -/
def whJ (V : Nat → Nat → Nat) (md j : Nat) (s : Nat × Nat × Nat) (f : Nat → Nat → Int32) : Prop :=
  f 99 (6 * j) = nI s.1 ∧ f 99 (6 * j + 1) = nI (tDn V j s) ∧ f 99 (6 * j + 2) = nI (tLv V md j s) ∧ f 99 (6 * j + 3) = nI (tAr V md j s) ∧ f 99 (6 * j + 4) = nI (tBa V md j s) ∧ f 99 (6 * j + 5) = nI (tEn V md j s)
theorem whU_j {f : Nat → Nat → Int32} {j : Nat} {x0 x1 x2 x3 x4 x5 : Int32} : whU f j x0 x1 x2 x3 x4 x5 99 (6 * j) = x0 ∧ whU f j x0 x1 x2 x3 x4 x5 99 (6 * j + 1) = x1 ∧ whU f j x0 x1 x2 x3 x4 x5 99 (6 * j + 2) = x2 ∧ whU f j x0 x1 x2 x3 x4 x5 99 (6 * j + 3) = x3 ∧ whU f j x0 x1 x2 x3 x4 x5 99 (6 * j + 4) = x4 ∧ whU f j x0 x1 x2 x3 x4 x5 99 (6 * j + 5) = x5 := by
  unfold whU
  refine ⟨?_, ?_, ?_, ?_, ?_, ?_⟩ <;> simp (disch := omega) only [uu_col, uu_same]
theorem whU_ne {f : Nat → Nat → Int32} {j i : Nat} {x0 x1 x2 x3 x4 x5 : Int32} (h : i < 6 * j ∨ 6 * j + 5 < i) : whU f j x0 x1 x2 x3 x4 x5 99 i = f 99 i := by
  unfold whU
  simp (disch := omega) only [uu_col]
theorem whU_row {f : Nat → Nat → Int32} {j i : Nat} {x0 x1 x2 x3 x4 x5 : Int32} (h : i ≠ 99) : whU f j x0 x1 x2 x3 x4 x5 i = f i := by
  unfold whU
  simp (disch := assumption) only [mx_u_ne]
set_option maxHeartbeats 2000000 in
theorem goes_s {d a n k j md : Nat} {V : Nat → Nat → Nat} {s : Nat × Nat × Nat} {σ : mx_S} {l7 l8 l9 l10 : Option Value} (ha : a = 90 ∨ a = 100 ∨ a = 101) (hn : n ≤ 6) (hk : k < n) (hj : j < n) (hmd : md ≤ 2) (hV : okV n V) (h0 : σ.1 88 0 = nI n) (ho : σ.1 a k = nI j) (hR : ∀ j k, j < n → k < 6 → σ.1 89 (6 * j + k) = nI (V j k)) (B : s.1 ≤ 3000 ∧ s.2.1 ≤ 3000 ∧ s.2.2 ≤ 3000) :
    ∃ l7' l8' l9' l10', ∀ q, mx_run (d + 1) m_X7_goes 11 [some (.ref 88), some (.ref a), some (.int (nI md)), some (.int (nI s.1)), some (.int (nI s.2.1)), some (.int (nI s.2.2)), some (.int (nI k)), l7, l8, l9, l10] [] σ q
    ↔ mx_run (d + 1) m_X7_goes 11 [some (.ref 88), some (.ref a), some (.int (nI md)), some (.int (nI (tNx V md j s).1)), some (.int (nI (tNx V md j s).2.1)), some (.int (nI (tNx V md j s).2.2)), some (.int (nI (k + 1))), l7', l8', l9', l10'] [] (whU σ.1 j (nI s.1) (nI (tDn V j s)) (nI (tLv V md j s)) (nI (tAr V md j s)) (nI (tBa V md j s)) (nI (tEn V md j s)), σ.2) q := by
  obtain ⟨s1, s2, s3⟩ := s
  have r0 := hR j 0 hj (by omega)
  have r1 := hR j 1 hj (by omega)
  have r2 := hR j 2 hj (by omega)
  have r3 := hR j 3 hj (by omega)
  have r4 := hR j 4 hj (by omega)
  have BB : s1 ≤ 3000 ∧ s2 ≤ 3000 ∧ s3 ≤ 3000 ∧ V j 0 ≤ 99 ∧ V j 1 ≤ 99 ∧ V j 2 ≤ 99 := ⟨B.1, B.2.1, B.2.2, hV j 0 hj (by omega), hV j 1 hj (by omega), hV j 2 hj (by omega)⟩
  rcases (show md = 0 ∨ md = 1 ∨ md = 2 by omega) with rfl | rfl | rfl
  · exact ⟨_, _, _, _, fun q => goes_0 ha hn hk hj h0 ho r0 r1 r2 r3 r4 BB⟩
  · exact ⟨_, _, _, _, fun q => goes_1 ha hn hk hj h0 ho r0 r1 r2 r3 r4 BB⟩
  · exact ⟨_, _, _, _, fun q => goes_2 ha hn hk hj h0 ho r0 r1 r2 r3 r4 BB⟩
set_option maxHeartbeats 4000000 in
theorem m_goes {d a n md : Nat} {V : Nat → Nat → Nat} {O : Nat → Nat} {σ0 : mx_S} (ha : a = 90 ∨ a = 100 ∨ a = 101) (hn : n ≤ 6) (hmd : md ≤ 2) (hV : okV n V) (hO : okO n O) (h0 : σ0.1 88 0 = nI n) (ho : ∀ p, p < n → σ0.1 a p = nI (O p)) (hR : ∀ j k, j < n → k < 6 → σ0.1 89 (6 * j + k) = nI (V j k)) :
    ∃ σ', (∀ q, mx_call (d + 2) m_X7_goes [.ref 88, .ref a, .int (nI md)] σ0 q ↔ q = (none, σ')) ∧ (∀ p, p < n → whJ V md (O p) (TS V md O p) σ'.1) ∧ (∀ i, i ≠ 99 → σ'.1 i = σ0.1 i) ∧ σ'.2 = σ0.2 := by
  have lp : ∀ m k (σ : mx_S) (l7 l8 l9 l10 : Option Value), k + m = n → (∀ p, p < k → whJ V md (O p) (TS V md O p) σ.1) → (∀ i, i ≠ 99 → σ.1 i = σ0.1 i) → σ.2 = σ0.2 → ∃ σ', (∀ q, mx_run (d + 1) m_X7_goes 11 [some (.ref 88), some (.ref a), some (.int (nI md)), some (.int (nI (TS V md O k).1)), some (.int (nI (TS V md O k).2.1)), some (.int (nI (TS V md O k).2.2)), some (.int (nI k)), l7, l8, l9, l10] [] σ q ↔ q = (none, σ')) ∧ (∀ p, p < n → whJ V md (O p) (TS V md O p) σ'.1) ∧ (∀ i, i ≠ 99 → σ'.1 i = σ0.1 i) ∧ σ'.2 = σ0.2 := by
    intro m
    induction m with
    | zero =>
      intro k σ l7 l8 l9 l10 hk hw f g
      have e : k = n := by omega
      subst e
      have h0' : σ.1 88 0 = nI k := by rw [f 88 (by omega)]; exact h0
      refine ⟨σ, fun q => ?_, hw, f, g⟩
      rw [E_X7_goes_11]
      simp (disch := omega) only [true_and, and_true, and_self, exists_eq_left, Option.toList_some, Option.toList_none, List.cons_append, List.nil_append, List.append_nil, i2_i, i2_r, i2_n, nz0, nz1, true_or, or_true, Nat.reduceAdd, Nat.le_refl, Nat.reduceLT, Nat.reduceLeDiff, ↓E_X7_goes_0, ↓E_X7_goes_1, ↓E_X7_goes_2, ↓E_X7_goes_3, ↓E_X7_goes_5, ↓E_X7_goes_6, ↓E_X7_goes_8, ↓E_X7_goes_9, ↓E_X7_goes_13, ↓E_X7_goes_14, ↓E_X7_goes_17, ↓E_X7_goes_20, ↓E_X7_goes_21, ↓E_X7_goes_23, ↓E_X7_goes_24, ↓E_X7_goes_26, ↓E_X7_goes_27, ↓E_X7_goes_28, ↓E_X7_goes_30, ↓E_X7_goes_31, ↓E_X7_goes_34, ↓E_X7_goes_35, ↓E_X7_goes_37, ↓E_X7_goes_38, ↓E_X7_goes_39, ↓E_X7_goes_42, ↓E_X7_goes_44, ↓E_X7_goes_46, ↓E_X7_goes_49, ↓E_X7_goes_52, ↓E_X7_goes_54, ↓E_X7_goes_55, ↓E_X7_goes_57, ↓E_X7_goes_58, ↓E_X7_goes_61, ↓E_X7_goes_62, ↓E_X7_goes_64, ↓E_X7_goes_66, ↓E_X7_goes_68, ↓E_X7_goes_71, ↓E_X7_goes_73, ↓E_X7_goes_74, ↓E_X7_goes_75, ↓E_X7_goes_78, ↓E_X7_goes_80, ↓E_X7_goes_81, ↓E_X7_goes_83, ↓E_X7_goes_84, ↓E_X7_goes_87, ↓E_X7_goes_88, ↓E_X7_goes_91, ↓E_X7_goes_93, ↓E_X7_goes_95, ↓E_X7_goes_96, ↓E_X7_goes_99, ↓E_X7_goes_101, ↓E_X7_goes_103, ↓E_X7_goes_104, ↓E_X7_goes_105, ↓E_X7_goes_106, ↓E_X7_goes_107, ↓E_X7_goes_110, ↓E_X7_goes_112, ↓E_X7_goes_114, ↓E_X7_goes_115, ↓E_X7_goes_116, ↓E_X7_goes_117, ↓E_X7_goes_119, ↓E_X7_goes_120, ↓E_X7_goes_121, ↓E_X7_goes_124, ↓E_X7_goes_126, ↓E_X7_goes_128, ↓E_X7_goes_129, ↓E_X7_goes_130, ↓E_X7_goes_131, ↓E_X7_goes_133, ↓E_X7_goes_134, ↓E_X7_goes_135, ↓E_X7_goes_138, ↓E_X7_goes_140, ↓E_X7_goes_142, ↓E_X7_goes_143, ↓E_X7_goes_144, ↓E_X7_goes_145, ↓E_X7_goes_147, ↓E_X7_goes_148, ↓E_X7_goes_149, ↓E_X7_goes_152, ↓E_X7_goes_154, ↓E_X7_goes_156, ↓E_X7_goes_157, ↓E_X7_goes_158, ↓E_X7_goes_159, ↓E_X7_goes_161, ↓E_X7_goes_162, ↓E_X7_goes_163, ↓E_X7_goes_166, ↓E_X7_goes_168, ↓E_X7_goes_170, ↓E_X7_goes_171, ↓E_X7_goes_172, ↓E_X7_goes_173, ↓E_X7_goes_175, ↓E_X7_goes_176, ↓E_X7_goes_178, ↓E_X7_goes_179, ↓E_X7_goes_182, ↓E_X7_goes_183, ↓E_X7_goes_184, ↓E_X7_goes_186, ↓E_X7_goes_187, ↓E_X7_goes_189, ↓E_X7_goes_190, ↓E_X7_goes_193, ↓E_X7_goes_194, ↓E_X7_goes_195, ↓E_X7_goes_197, ↓E_X7_goes_198, ↓E_X7_goes_200, ↓E_X7_goes_201, ↓E_X7_goes_204, ↓E_X7_goes_205, ↓E_X7_goes_206, ↓E_X7_goes_208, ↓E_X7_goes_209, ↓E_X7_goes_212, ↓E_X7_goes_213, ↓E_X7_goes_215, ↓E_X7_goes_218, ↓E_X7_goes_221, h0', leN, if_true]
    | succ m ih =>
      intro k σ l7 l8 l9 l10 hk hw f g
      have h0' : σ.1 88 0 = nI n := by rw [f 88 (by omega)]; exact h0
      have ho' : σ.1 a k = nI (O k) := by rw [f a (by omega)]; exact ho k (by omega)
      obtain ⟨B1, B2, B3⟩ := TS_le (md := md) hV hO.1 k (by omega)
      obtain ⟨l7', l8', l9', l10', r⟩ := goes_s (d := d) (l7 := l7) (l8 := l8) (l9 := l9) (l10 := l10) (V := V) (s := TS V md O k) ha hn (show k < n by omega) (hO.1 k (by omega)) hmd hV h0' ho' (fun j k hj hk => by rw [f 89 (by omega)]; exact hR j k hj hk) ⟨by omega, by omega, by omega⟩
      obtain ⟨σ', r2, z⟩ := ih (k + 1) (whU σ.1 (O k) (nI (TS V md O k).1) (nI (tDn V (O k) (TS V md O k))) (nI (tLv V md (O k) (TS V md O k))) (nI (tAr V md (O k) (TS V md O k))) (nI (tBa V md (O k) (TS V md O k))) (nI (tEn V md (O k) (TS V md O k))), σ.2) l7' l8' l9' l10' (by omega) (fun p hp => by
        by_cases e : p = k
        · subst e; exact whU_j
        · have hne : O p ≠ O k := fun z => e (hO.2 p k (by omega) (by omega) z)
          obtain ⟨w0, w1, w2, w3, w4, w5⟩ := hw p (by omega)
          unfold whJ
          simp (disch := omega) only [whU_ne]
          exact ⟨w0, w1, w2, w3, w4, w5⟩) (fun i hi => by show whU _ _ _ _ _ _ _ _ i = _; rw [whU_row hi]; exact f i hi) g
      exact ⟨σ', fun q => (r q).trans (r2 q), z⟩
  obtain ⟨σ', r, z⟩ := lp n 0 σ0 none none none none (by omega) (fun p hp => by omega) (fun _ _ => rfl) rfl
  refine ⟨σ', fun q => ?_, z⟩
  rw [← r q]
  simp (disch := omega) only [C_X7_goes, true_and, and_true, and_self, exists_eq_left, Option.toList_some, Option.toList_none, List.cons_append, List.nil_append, List.append_nil, i2_i, i2_r, i2_n, nz0, nz1, true_or, or_true, Nat.reduceAdd, Nat.le_refl, Nat.reduceLT, Nat.reduceLeDiff, ↓E_X7_goes_0, ↓E_X7_goes_1, ↓E_X7_goes_2, ↓E_X7_goes_3, ↓E_X7_goes_5, ↓E_X7_goes_6, ↓E_X7_goes_8, ↓E_X7_goes_9, ↓E_X7_goes_13, ↓E_X7_goes_14, ↓E_X7_goes_17, ↓E_X7_goes_20, ↓E_X7_goes_21, ↓E_X7_goes_23, ↓E_X7_goes_24, ↓E_X7_goes_26, ↓E_X7_goes_27, ↓E_X7_goes_28, ↓E_X7_goes_30, ↓E_X7_goes_31, ↓E_X7_goes_34, ↓E_X7_goes_35, ↓E_X7_goes_37, ↓E_X7_goes_38, ↓E_X7_goes_39, ↓E_X7_goes_42, ↓E_X7_goes_44, ↓E_X7_goes_46, ↓E_X7_goes_49, ↓E_X7_goes_52, ↓E_X7_goes_54, ↓E_X7_goes_55, ↓E_X7_goes_57, ↓E_X7_goes_58, ↓E_X7_goes_61, ↓E_X7_goes_62, ↓E_X7_goes_64, ↓E_X7_goes_66, ↓E_X7_goes_68, ↓E_X7_goes_71, ↓E_X7_goes_73, ↓E_X7_goes_74, ↓E_X7_goes_75, ↓E_X7_goes_78, ↓E_X7_goes_80, ↓E_X7_goes_81, ↓E_X7_goes_83, ↓E_X7_goes_84, ↓E_X7_goes_87, ↓E_X7_goes_88, ↓E_X7_goes_91, ↓E_X7_goes_93, ↓E_X7_goes_95, ↓E_X7_goes_96, ↓E_X7_goes_99, ↓E_X7_goes_101, ↓E_X7_goes_103, ↓E_X7_goes_104, ↓E_X7_goes_105, ↓E_X7_goes_106, ↓E_X7_goes_107, ↓E_X7_goes_110, ↓E_X7_goes_112, ↓E_X7_goes_114, ↓E_X7_goes_115, ↓E_X7_goes_116, ↓E_X7_goes_117, ↓E_X7_goes_119, ↓E_X7_goes_120, ↓E_X7_goes_121, ↓E_X7_goes_124, ↓E_X7_goes_126, ↓E_X7_goes_128, ↓E_X7_goes_129, ↓E_X7_goes_130, ↓E_X7_goes_131, ↓E_X7_goes_133, ↓E_X7_goes_134, ↓E_X7_goes_135, ↓E_X7_goes_138, ↓E_X7_goes_140, ↓E_X7_goes_142, ↓E_X7_goes_143, ↓E_X7_goes_144, ↓E_X7_goes_145, ↓E_X7_goes_147, ↓E_X7_goes_148, ↓E_X7_goes_149, ↓E_X7_goes_152, ↓E_X7_goes_154, ↓E_X7_goes_156, ↓E_X7_goes_157, ↓E_X7_goes_158, ↓E_X7_goes_159, ↓E_X7_goes_161, ↓E_X7_goes_162, ↓E_X7_goes_163, ↓E_X7_goes_166, ↓E_X7_goes_168, ↓E_X7_goes_170, ↓E_X7_goes_171, ↓E_X7_goes_172, ↓E_X7_goes_173, ↓E_X7_goes_175, ↓E_X7_goes_176, ↓E_X7_goes_178, ↓E_X7_goes_179, ↓E_X7_goes_182, ↓E_X7_goes_183, ↓E_X7_goes_184, ↓E_X7_goes_186, ↓E_X7_goes_187, ↓E_X7_goes_189, ↓E_X7_goes_190, ↓E_X7_goes_193, ↓E_X7_goes_194, ↓E_X7_goes_195, ↓E_X7_goes_197, ↓E_X7_goes_198, ↓E_X7_goes_200, ↓E_X7_goes_201, ↓E_X7_goes_204, ↓E_X7_goes_205, ↓E_X7_goes_206, ↓E_X7_goes_208, ↓E_X7_goes_209, ↓E_X7_goes_212, ↓E_X7_goes_213, ↓E_X7_goes_215, ↓E_X7_goes_218, ↓E_X7_goes_221]
  rfl
theorem m_ends {d j : Nat} {σ : mx_S} {q : mx_R} (hj : j < 6) : mx_call (d + 1) m_X7_ends [.ref 88, .int (nI j)] σ q ↔ q = (some (.int (σ.1 99 (6 * j + 5))), σ) := by
  simp (disch := omega) only [C_X7_ends, true_and, and_true, and_self, exists_eq_left, Option.toList_some, Option.toList_none, List.cons_append, List.nil_append, List.append_nil, i2_i, i2_r, i2_n, nz0, nz1, true_or, or_true, Nat.reduceAdd, Nat.le_refl, Nat.reduceLT, Nat.reduceLeDiff, ↓E_X7_ends_0, ↓E_X7_ends_1, ↓E_X7_ends_4, ↓E_X7_ends_6, ↓E_X7_ends_7, ↓E_X7_ends_8, ↓E_X7_ends_9, ↓E_X7_ends_10, ↓E_X7_ends_11, kd_8, ln_36, m6, nI_p5, vin, clN]
/-! costs by jobs are costs by places -/
def mxI (g : Nat → Int) : Nat → Int
  | 0 => -2147483648
  | n + 1 => max (mxI g n) (g n)
theorem mxI_iff {g : Nat → Int} {x : Int} : ∀ n, mxI g n ≤ x ↔ -2147483648 ≤ x ∧ ∀ j, j < n → g j ≤ x
  | 0 => by simp [mxI]
  | n + 1 => by
    have h := mxI_iff (g := g) (x := x) n
    unfold mxI
    constructor
    · intro z
      obtain ⟨h1, h2⟩ := h.mp (by omega)
      refine ⟨h1, fun j hj => ?_⟩
      by_cases e : j = n
      · subst e; omega
      · exact h2 j (by omega)
    · rintro ⟨h1, h2⟩
      have := h.mpr ⟨h1, fun j hj => h2 j (by omega)⟩
      have := h2 n (by omega)
      omega
theorem mxI_O {g : Nat → Int} {n : Nat} {O : Nat → Nat} (hO : okO n O) : mxI (fun p => g (O p)) n = mxI g n := by
  apply Int.le_antisymm
  · obtain ⟨h1, h2⟩ := (mxI_iff (g := g) n).mp (Int.le_refl _)
    exact (mxI_iff n).mpr ⟨h1, fun p hp => h2 _ (hO.1 p hp)⟩
  · obtain ⟨h1, h2⟩ := (mxI_iff (g := fun p => g (O p)) n).mp (Int.le_refl _)
    refine (mxI_iff n).mpr ⟨h1, fun j hj => ?_⟩
    obtain ⟨p, hp, e⟩ := okO_sur n O hO j hj
    have := h2 p hp
    simp only [e] at this
    exact this
theorem mxI_congr {g h : Nat → Int} : ∀ n, (∀ j, j < n → g j = h j) → mxI g n = mxI h n
  | 0, _ => rfl
  | n + 1, e => by unfold mxI; rw [mxI_congr n (fun j hj => e j (by omega)), e n (by omega)]
theorem mxI_le {g : Nat → Int} : ∀ n, (∀ j, j < n → g j ≤ 20000) → -2147483648 ≤ mxI g n ∧ mxI g n ≤ 20000
  | 0, _ => by unfold mxI; omega
  | n + 1, h => by
    have h1 := mxI_le n (fun j hj => h j (by omega))
    have h2 := h n (by omega)
    unfold mxI
    omega
/-- when a job ends -/
def EJ (V : Nat → Nat → Nat) (md n : Nat) (O : Nat → Nat) (j : Nat) : Nat := EN V md O (plc O j n)
theorem plc_O {n : Nat} {O : Nat → Nat} (h : okO n O) {p : Nat} (hp : p < n) : plc O (O p) n = p := by
  obtain ⟨h1, h2⟩ := plc_ok h (h.1 p hp)
  exact h.2 _ _ h1 hp h2
theorem EJ_O {V : Nat → Nat → Nat} {md n p : Nat} {O : Nat → Nat} (h : okO n O) (hp : p < n) : EJ V md n O (O p) = EN V md O p := by
  unfold EJ
  rw [plc_O h hp]
theorem LT_J {V : Nat → Nat → Nat} {md n : Nat} {O : Nat → Nat} (h : okO n O) (h0 : 0 < n) (hV : okV n V) : LT V md O n = mxI (fun j => (EJ V md n O j : Int) - (V j 5 : Int)) n := by
  rw [← mxI_O h]
  have e : ∀ k, k < n → LT V md O (k + 1) = mxI (fun p => (EJ V md n O (O p) : Int) - (V (O p) 5 : Int)) (k + 1) := by
    intro k
    induction k with
    | zero =>
      intro _
      show max (-1000000) ((EN V md O 0 : Int) - (V (O 0) 5 : Int)) = max (-2147483648) ((EJ V md n O (O 0) : Int) - (V (O 0) 5 : Int))
      have := hV (O 0) 5 (h.1 0 h0) (by omega)
      rw [EJ_O h h0]
      omega
    | succ k ih =>
      intro hk
      show max (LT V md O (k + 1)) ((EN V md O (k + 1) : Int) - (V (O (k + 1)) 5 : Int)) = max (mxI (fun p => (EJ V md n O (O p) : Int) - (V (O p) 5 : Int)) (k + 1)) ((EJ V md n O (O (k + 1)) : Int) - (V (O (k + 1)) 5 : Int))
      rw [ih (by omega), EJ_O h hk]
  obtain ⟨k, rfl⟩ : ∃ k, n = k + 1 := ⟨n - 1, by omega⟩
  exact e k (by omega)
theorem FL_J {V : Nat → Nat → Nat} {md n : Nat} {O : Nat → Nat} (h : okO n O) : FL V md O n = smV (EJ V md n O) n := by
  rw [← smV_O (EJ V md n O) n O h]
  have e : ∀ k, k ≤ n → FL V md O k = smV (fun p => EJ V md n O (O p)) k := by
    intro k
    induction k with
    | zero => intro _; rfl
    | succ k ih =>
      intro hk
      unfold FL smV
      rw [ih (by omega), EJ_O h (by omega)]
  exact e n (Nat.le_refl _)
theorem EL_J {V : Nat → Nat → Nat} {md n : Nat} {O : Nat → Nat} (h : okO n O) (h0 : 0 < n) : (EL V md O n : Int) = mxI (fun j => (EJ V md n O j : Int)) n := by
  rw [← mxI_O h]
  have e : ∀ k, k < n → (EL V md O (k + 1) : Int) = mxI (fun p => (EJ V md n O (O p) : Int)) (k + 1) := by
    intro k
    induction k with
    | zero =>
      intro _
      show (EN V md O 0 : Int) = max (-2147483648) (EJ V md n O (O 0) : Int)
      rw [EJ_O h (by omega)]
      omega
    | succ k ih =>
      intro hk
      have e1 : mxI (fun p => (EJ V md n O (O p) : Int)) (k + 1 + 1) = max (mxI (fun p => (EJ V md n O (O p) : Int)) (k + 1)) (EJ V md n O (O (k + 1)) : Int) := rfl
      rw [e1, ← ih (by omega), EJ_O h (by omega)]
      have := EL_mono (V := V) (md := md) (O := O) (k + 1)
      have e2 : EL V md O (k + 1 + 1) = EN V md O (k + 1) := rfl
      rw [e2] at this ⊢
      omega
  obtain ⟨k, rfl⟩ : ∃ k, n = k + 1 := ⟨n - 1, by omega⟩
  exact e k (by omega)
