/-! SHELVES: one of them changes -/
section
variable {σ σ' : mj_S} {τ τ' : mj_T} {A : mj_A} {G C s : Nat} {w : Nat → Int32} {e : Nat → Int64}
def mj_sset (A : mj_A) (s : Nat) (w : Nat → Int32) (e : Nat → Int64) : mj_A := (A.1, A.2.1, A.2.2.1, A.2.2.2.1, (fun t => if t = s then w else A.2.2.2.2.1 t), (fun t => if t = s then e else A.2.2.2.2.2.1 t), A.2.2.2.2.2.2)
theorem mj_sset_o {t : Nat} (h : ¬ t = s) : (mj_sset A s w e).2.2.2.2.1 t = A.2.2.2.2.1 t := if_neg h
theorem mj_sset_s : (mj_sset A s w e).2.2.2.2.1 s = w := if_pos rfl
theorem mj_sset_eo {t : Nat} (h : ¬ t = s) : (mj_sset A s w e).2.2.2.2.2.1 t = A.2.2.2.2.2.1 t := if_neg h
theorem mj_sset_es : (mj_sset A s w e).2.2.2.2.2.1 s = e := if_pos rfl
theorem mj_sset_ok (h : mj_sok A G) (hw : w 0 = nI 0 ∨ (w 0 = nI 1 ∧ mj_to (w 1) 3 ∧ mj_to (w 2) 160) ∨ (w 0 = nI 2 ∧ mj_ix (w 3) G)) : mj_sok (mj_sset A s w e) G := by
  intro t ht
  by_cases q : t = s
  · subst q; rw [mj_sset_s]; exact hw
  · rw [mj_sset_o q]; exact h t ht
theorem mj_IX_sh (h : mj_IX σ τ A G C) (hs : s < 8) (h1 : ∀ k, ¬ k = 40 + s → σ' k = σ k) (h2 : ∀ k, ¬ k = 48 + s → τ' k = τ k) (h3 : mj_sok (mj_sset A s w e) G)
    (h4 : (w 0 = nI 0 ∧ σ' (40 + s) 0 = -1 ∧ σ' (40 + s) 1 = -1 ∧ σ' (40 + s) 2 = nI 0) ∨ (w 0 = nI 1 ∧ σ' (40 + s) 0 = w 1 ∧ σ' (40 + s) 1 = -1 ∧ σ' (40 + s) 2 = w 2) ∨ (w 0 = nI 2 ∧ σ' (40 + s) 0 = -1 ∧ σ' (40 + s) 1 = w 3 ∧ σ' (40 + s) 2 = nI 0))
    (h5 : ∀ i, i < 160 → τ' (48 + s) i = e i) : mj_IX σ' τ' (mj_sset A s w e) G C := by
  obtain ⟨a1, a2, a3, a4, a5, a6, a7, a8, a9, a10, a11, a12, a13, a14⟩ := h
  have p : ∀ p, p < 4 → mj_pv (10 * p) p σ' = mj_pv (10 * p) p σ := fun p hp => mj_pv_of (fun j hj => h1 _ (by omega)) (fun i hi => by rw [h1 _ (by omega)])
  refine ⟨a1, by rw [p 1 (by decide)]; exact a2, h3, by rw [p 2 (by decide)]; exact a4, by rw [p 3 (by decide)]; exact a5, by rw [h1 61 (by omega)]; exact a6, by rw [h1 0 (by omega)]; exact a7, by rw [p 3 (by decide), h1 0 (by omega)]; exact a8, fun t ht => ?_, fun t ht i hi => ?_, by rw [h1 59 (by omega)]; exact a11, a12, by rw [h1 60 (by omega)]; exact a13, ?_⟩
  · unfold mj_shX
    by_cases q : t = s
    · subst q; rw [mj_sset_s]; exact h4
    · rw [mj_sset_o q, h1 (40 + t) (by omega)]; exact a9 t ht
  · by_cases q : t = s
    · subst q; rw [mj_sset_es]; exact h5 i hi
    · rw [mj_sset_eo q, h2 (48 + t) (by omega)]; exact a10 t ht i hi
  · unfold mj_kc; rw [h1 90 (by omega), h1 91 (by omega), h1 92 (by omega)]; exact a14
theorem mj_IM_sh (h : mj_IM σ τ A G C) (hs : s < 8) (h1 : ∀ k i, ¬ ((k = 74 ∨ k = 75 ∨ k = 76 ∨ k = 77) ∧ i = s) → σ' k i = σ k i) (h2 : ∀ i, ¬ (160 * s ≤ i ∧ i < 160 * s + 160) → τ' 78 i = τ 78 i) (h3 : mj_sok (mj_sset A s w e) G)
    (h4 : σ' 74 s = w 0 ∧ (w 0 = nI 1 → σ' 75 s = w 1 ∧ σ' 76 s = w 2) ∧ (w 0 = nI 2 → σ' 77 s = w 3))
    (h5 : ∀ i, i < 160 → τ' 78 (160 * s + i) = e i) : mj_IM σ' τ' (mj_sset A s w e) G C := by
  have c : ∀ k, ¬ (k = 74 ∨ k = 75 ∨ k = 76 ∨ k = 77) → σ' k = σ k := fun k hk => by funext i; exact h1 k i (fun z => hk z.1)
  obtain ⟨a1, a2, a3, a4, a5, a6, a7, a8, a9⟩ := h
  unfold mj_IM
  rw [mj_pv_of (σ := σ) (fun j hj => c _ (by omega)) (fun i hi => by rw [c 62 (by omega)]), c 63 (by omega), c 62 (by omega), c 85 (by omega), c 89 (by omega), c 80 (by omega), c 81 (by omega), c 82 (by omega)]
  refine ⟨a1, a2, h3, a4, a5, a6, fun t ht => ?_, fun t ht i hi => ?_, a9⟩
  · by_cases q : t = s
    · subst q; rw [mj_sset_s]; exact h4
    · rw [mj_sset_o q, h1 74 t (fun z => q z.2), h1 75 t (fun z => q z.2), h1 76 t (fun z => q z.2), h1 77 t (fun z => q z.2)]; exact a7 t ht
  · by_cases q : t = s
    · subst q; rw [mj_sset_es]; exact h5 i hi
    · rw [mj_sset_eo q, h2 _ (by omega)]; exact a8 t ht i hi

end
