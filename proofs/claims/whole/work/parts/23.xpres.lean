/-! ===== how the class's cells may change ===== -/
theorem vwX_shp {w : Vw} {σ σ' : mx_S} {n md am : Nat} {V : Nat → Nat → Nat} {O : Nat → Nat} (H : vwX w σ) (ok : okC (n, md, am, V, O, w.1.se, w.1.ev, w.1.bk)) (hS : shpX n md am V O 1 σ'.1) (ha : ∀ i, (i = 0 ∨ 9 < i) → σ'.1 i = σ.1 i) (h2 : σ'.2 = σ.2) : vwX (setShp w n md am V O) σ' := by
  obtain ⟨H1, H2, H3, H4, H5, H6⟩ := H
  exact ⟨⟨ok, H1.2⟩, ⟨hS, rowX_agr (fun i _ _ => ha i (by omega)) H2.2.1, rowX_agr (fun i _ _ => ha i (by omega)) H2.2.2.1, rowX_agr (fun i _ _ => ha i (by omega)) H2.2.2.2⟩, imgX_agr H1.2.1 (ha 0 (by omega)) (fun i _ _ => ha i (by omega)) H3, txtX_agr (by rw [ha 60 (by omega)]) (ha 61 (by omega)) H4, tapX_agr (fun i _ _ => ha i (by omega)) (fun i _ _ => by rw [h2]) H5, fun j hj => by rw [ha 52 (by omega)]; exact H6 j hj⟩
theorem vwX_se {w : Vw} {σ σ' : mx_S} {l : List (Nat × Nat)} (H : vwX w σ) (ok : l.length ≤ 5 ∧ ∀ x ∈ l, x.1 < w.1.jn ∧ x.2 < 6) (hS : rowX l 10 σ'.1) (ha : ∀ i, (i < 10 ∨ 12 < i) → σ'.1 i = σ.1 i) (h2 : σ'.2 = σ.2) : vwX (setSe w l) σ' := by
  obtain ⟨H1, H2, H3, H4, H5, H6⟩ := H
  obtain ⟨⟨o1, o2, o3, o4, o5, -, o7, o8⟩, o9⟩ := H1
  exact ⟨⟨⟨o1, o2, o3, o4, o5, ok, o7, o8⟩, o9⟩, ⟨shpX_agr o1 (fun i _ _ => ha i (by omega)) H2.1, hS, rowX_agr (fun i _ _ => ha i (by omega)) H2.2.2.1, rowX_agr (fun i _ _ => ha i (by omega)) H2.2.2.2⟩, imgX_agr o9.1 (ha 0 (by omega)) (fun i _ _ => ha i (by omega)) H3, txtX_agr (by rw [ha 60 (by omega)]) (ha 61 (by omega)) H4, tapX_agr (fun i _ _ => ha i (by omega)) (fun i _ _ => by rw [h2]) H5, fun j hj => by rw [ha 52 (by omega)]; exact H6 j hj⟩
theorem vwX_ev {w : Vw} {σ σ' : mx_S} {l : List (Nat × Nat)} (H : vwX w σ) (ok : l.length ≤ 8 ∧ ∀ x ∈ l, x.1 ≤ 3 ∧ (x.1 ≠ 2 → x.2 < w.1.jn) ∧ (x.1 = 2 → x.2 ≤ 2)) (hS : rowX l 13 σ'.1) (ha : ∀ i, (i < 13 ∨ 15 < i) → σ'.1 i = σ.1 i) (h2 : σ'.2 = σ.2) : vwX (setEv w l) σ' := by
  obtain ⟨H1, H2, H3, H4, H5, H6⟩ := H
  obtain ⟨⟨o1, o2, o3, o4, o5, o6, -, o8⟩, o9⟩ := H1
  exact ⟨⟨⟨o1, o2, o3, o4, o5, o6, ok, o8⟩, o9⟩, ⟨shpX_agr o1 (fun i _ _ => ha i (by omega)) H2.1, rowX_agr (fun i _ _ => ha i (by omega)) H2.2.1, hS, rowX_agr (fun i _ _ => ha i (by omega)) H2.2.2.2⟩, imgX_agr o9.1 (ha 0 (by omega)) (fun i _ _ => ha i (by omega)) H3, txtX_agr (by rw [ha 60 (by omega)]) (ha 61 (by omega)) H4, tapX_agr (fun i _ _ => ha i (by omega)) (fun i _ _ => by rw [h2]) H5, fun j hj => by rw [ha 52 (by omega)]; exact H6 j hj⟩
theorem vwX_bk {w : Vw} {σ σ' : mx_S} {l : List (Nat × Nat)} (H : vwX w σ) (ok : l.length ≤ 8 ∧ ∀ x ∈ l, x.1 < w.1.jn ∧ x.2 < 6) (hS : rowX l 16 σ'.1) (ha : ∀ i, (i < 16 ∨ 18 < i) → σ'.1 i = σ.1 i) (h2 : σ'.2 = σ.2) : vwX (setBk w l) σ' := by
  obtain ⟨H1, H2, H3, H4, H5, H6⟩ := H
  obtain ⟨⟨o1, o2, o3, o4, o5, o6, o7, -⟩, o9⟩ := H1
  exact ⟨⟨⟨o1, o2, o3, o4, o5, o6, o7, ok⟩, o9⟩, ⟨shpX_agr o1 (fun i _ _ => ha i (by omega)) H2.1, rowX_agr (fun i _ _ => ha i (by omega)) H2.2.1, rowX_agr (fun i _ _ => ha i (by omega)) H2.2.2.1, hS⟩, imgX_agr o9.1 (ha 0 (by omega)) (fun i _ _ => ha i (by omega)) H3, txtX_agr (by rw [ha 60 (by omega)]) (ha 61 (by omega)) H4, tapX_agr (fun i _ _ => ha i (by omega)) (fun i _ _ => by rw [h2]) H5, fun j hj => by rw [ha 52 (by omega)]; exact H6 j hj⟩
theorem vwX_tx {w : Vw} {σ σ' : mx_S} {l : List Nat} (H : vwX w σ) (ok : l.length ≤ 100 ∧ ∀ x ∈ l, x < 128) (hS : txtX l σ'.1) (ha : ∀ i, (i < 60 ∨ 61 < i) → σ'.1 i = σ.1 i) (h2 : σ'.2 = σ.2) : vwX (setTx w l) σ' := by
  obtain ⟨H1, H2, H3, H4, H5, H6⟩ := H
  exact ⟨⟨H1.1, H1.2.1, ok, H1.2.2.2⟩, cfgX_agr H1.1.1 (fun i _ _ => ha i (by omega)) (fun i _ _ => ha i (by omega)) (fun i _ _ => ha i (by omega)) (fun i _ _ => ha i (by omega)) H2, imgX_agr H1.2.1 (ha 0 (by omega)) (fun i _ _ => ha i (by omega)) H3, hS, tapX_agr (fun i _ _ => ha i (by omega)) (fun i _ _ => by rw [h2]) H5, fun j hj => by rw [ha 52 (by omega)]; exact H6 j hj⟩
theorem vwX_tp {w : Vw} {σ σ' : mx_S} {t : Nat} {z : Int32 × Nat × (Nat → Int64)} (H : vwX w σ) (ht : t < 6) (ok : okT z) (h3 : σ'.1 (76 + 2 * t) 1 = z.1 ∧ σ'.1 (76 + 2 * t) 2 = nI z.2.1 ∧ ∀ i, i < 60 → σ'.2 (77 + 2 * t) i = z.2.2 i) (ha : ∀ i, i ≠ 76 + 2 * t → σ'.1 i = σ.1 i) (hb : ∀ i, i ≠ 77 + 2 * t → σ'.2 i = σ.2 i) : vwX (setTp w t z) σ' := by
  obtain ⟨H1, H2, H3, H4, H5, H6⟩ := H
  refine ⟨⟨H1.1, H1.2.1, H1.2.2.1, fun u hu => ?_⟩, cfgX_agr H1.1.1 (fun i _ _ => ha i (by omega)) (fun i _ _ => ha i (by omega)) (fun i _ _ => ha i (by omega)) (fun i _ _ => ha i (by omega)) H2, imgX_agr H1.2.1 (ha 0 (by omega)) (fun i _ _ => ha i (by omega)) H3, txtX_agr (by rw [ha 60 (by omega)]) (ha 61 (by omega)) H4, fun u hu => ?_, fun j hj => by rw [ha 52 (by omega)]; exact H6 j hj⟩
  · show okT (if u = t then z else w.2.2.2 u)
    by_cases e : u = t
    · rw [if_pos e]; exact ok
    · rw [if_neg e]; exact H1.2.2.2 u hu
  · show _ = (if u = t then z else w.2.2.2 u).1 ∧ _ = nI (if u = t then z else w.2.2.2 u).2.1 ∧ ∀ i, i < 60 → _ = (if u = t then z else w.2.2.2 u).2.2 i
    by_cases e : u = t
    · subst e
      simp only [if_pos]
      exact h3
    · simp only [if_neg e]
      rw [ha (76 + 2 * u) (by omega), hb (77 + 2 * u) (by omega)]
      exact H5 u hu
theorem jn_lt {w : Vw} (h : okW w) : w.1.jn < 2147483648 := by have := h.1.1; omega
theorem vwX_now {w : Vw} {σ : mx_S} (hw : vwX w σ) : σ.1 1 0 = nI w.1.jn ∧ σ.1 1 1 = nI w.1.md ∧ σ.1 1 2 = nI w.1.am ∧ (∀ j k, j < w.1.jn → k < 6 → σ.1 (3 + j) k = nI (w.1.V j k)) ∧ (∀ p, p < w.1.jn → σ.1 9 p = nI (w.1.O p)) := hw.2.1.1
theorem shpX_now {n md am : Nat} {V : Nat → Nat → Nat} {O : Nat → Nat} {f : Nat → Nat → Int32} (h : f 1 0 = nI n ∧ f 1 1 = nI md ∧ f 1 2 = nI am ∧ (∀ j k, j < n → k < 6 → f (3 + j) k = nI (V j k)) ∧ (∀ p, p < n → f 9 p = nI (O p))) : shpX n md am V O 1 f := h
