/-! PARISH: writing back -/
/-- the parish at the arrays B .., the object O is π -/
def mj_wb (B O : Nat) (π : Nat → Nat → Int32) (σ : mj_S) : mj_S := fun k i => if B ≤ k ∧ k < B + 10 then π (k - B) i else if k = O ∧ i < 5 then π 10 i else σ k i
/-- a count becomes v -/
def mj_uc (π : Nat → Nat → Int32) (i : Nat) (v : Int32) : Nat → Nat → Int32 := fun j i' => if 10 ≤ j ∧ i' = i then v else π j i'
theorem mj_wb_a {B O j : Nat} {π : Nat → Nat → Int32} {σ : mj_S} (hj : j < 10) : mj_wb B O π σ (B + j) = π j := by
  funext i
  unfold mj_wb
  rw [if_pos ⟨by omega, by omega⟩, show B + j - B = j by omega]
theorem mj_wb_o {B O i : Nat} {π : Nat → Nat → Int32} {σ : mj_S} (hO : ¬ (B ≤ O ∧ O < B + 10)) (hi : i < 5) : mj_wb B O π σ O i = π 10 i := by
  unfold mj_wb
  rw [if_neg hO, if_pos ⟨rfl, hi⟩]
theorem mj_wb_o5 {B O i : Nat} {π : Nat → Nat → Int32} {σ : mj_S} (hO : ¬ (B ≤ O ∧ O < B + 10)) (hi : 5 ≤ i) : mj_wb B O π σ O i = σ O i := by
  unfold mj_wb
  rw [if_neg hO, if_neg (fun z => by omega)]
theorem mj_wb_ne {B O k : Nat} {π : Nat → Nat → Int32} {σ : mj_S} (h1 : ¬ (B ≤ k ∧ k < B + 10)) (h2 : ¬ k = O) : mj_wb B O π σ k = σ k := by
  funext i
  unfold mj_wb
  rw [if_neg h1, if_neg (fun z => h2 z.1)]
theorem mj_wb_ua {B O j i : Nat} {π : Nat → Nat → Int32} {σ : mj_S} {v : Int32} (hj : j < 10) : mj_up (mj_wb B O π σ) (B + j) i v = mj_wb B O (mj_up π j i v) σ := by
  funext k i'
  unfold mj_up mj_wb
  by_cases h : B ≤ k ∧ k < B + 10
  · rw [if_pos h, if_pos h]
    by_cases hk : k = B + j
    · subst hk; rw [show B + j - B = j by omega]; simp
    · simp [hk, show ¬ k - B = j by omega]
  · rw [if_neg h, if_neg h, if_neg (fun z => h (by omega))]
    simp [show ¬ (10 = j) by omega]
theorem mj_wb_uo {B O i : Nat} {π : Nat → Nat → Int32} {σ : mj_S} {v : Int32} (hO : ¬ (B ≤ O ∧ O < B + 10)) (hi : i < 5) : mj_up (mj_wb B O π σ) O i v = mj_wb B O (mj_uc π i v) σ := by
  funext k i'
  unfold mj_up mj_wb mj_uc
  by_cases h : B ≤ k ∧ k < B + 10
  · rw [if_pos h, if_pos h, if_neg (show ¬ (k = O ∧ i' = i) from fun z => hO (z.1 ▸ h)), if_neg (by omega)]
  · rw [if_neg h, if_neg h]
    by_cases hk : k = O
    · subst hk
      by_cases hii : i' = i
      · subst hii; simp [hi]
      · simp [hii]
    · simp [hk]
theorem mj_wb_un {B O k i : Nat} {π : Nat → Nat → Int32} {σ : mj_S} {v : Int32} (h1 : ¬ (B ≤ k ∧ k < B + 10)) (h2 : ¬ k = O) : mj_up (mj_wb B O π σ) k i v = mj_wb B O π (mj_up σ k i v) := by
  funext k' i'
  unfold mj_up mj_wb
  by_cases h : B ≤ k' ∧ k' < B + 10
  · rw [if_pos h, if_pos h, if_neg (show ¬ (k' = k ∧ i' = i) from fun z => h1 (z.1 ▸ h))]
  · rw [if_neg h, if_neg h]
    by_cases hk : k' = k
    · subst hk; simp [h2]
    · simp [hk]
theorem mj_wb_pv {B O : Nat} {σ : mj_S} : mj_wb B O (mj_pv B O σ) σ = σ := by
  funext k i
  unfold mj_wb mj_pv
  by_cases h : B ≤ k ∧ k < B + 10
  · rw [if_pos h, if_pos (by omega), show B + (k - B) = k by omega]
  · rw [if_neg h]
    by_cases hk : k = O ∧ i < 5
    · rw [if_pos hk, if_neg (by omega), if_pos hk.2, hk.1]
    · rw [if_neg hk]
theorem mj_wb_wb {B O : Nat} {π ρ : Nat → Nat → Int32} {σ : mj_S} : mj_wb B O π (mj_wb B O ρ σ) = mj_wb B O π σ := by
  funext k i
  unfold mj_wb
  split
  · rfl
  · split <;> rfl
theorem mj_pv_wb {B O G C : Nat} {π : Nat → Nat → Int32} {σ : mj_S} (hO : ¬ (B ≤ O ∧ O < B + 10)) (h : mj_wf π G C) : mj_pv B O (mj_wb B O π σ) = π := by
  funext j i
  unfold mj_pv
  split
  · rename_i hj; rw [mj_wb_a hj]
  · rename_i hj
    rw [h.2.2.2.2.2.2.2.2 j i (by omega)]
    split
    · rename_i hi; rw [mj_wb_o hO hi]
    · rfl
theorem mj_up_wb {B O j i : Nat} {σ : mj_S} {v : Int32} (hj : j < 10) : mj_up σ (B + j) i v = mj_wb B O (mj_up (mj_pv B O σ) j i v) σ := by
  rw [← mj_wb_ua hj, mj_wb_pv]
theorem mj_ch_wb {p : Nat} {π : Nat → Nat → Int32} {σ : mj_S} (h1 : 1 ≤ p) (h2 : p ≤ 3) {a b d e : Int32} : mj_ch (mj_wb (10 * p) p π σ) (p + 3) a b d e = mj_wb (10 * p) p π (mj_ch σ (p + 3) a b d e) := by
  funext k i
  by_cases hk : k = p + 3
  · subst hk
    have q1 : ¬ (10 * p ≤ p + 3 ∧ p + 3 < 10 * p + 10) := by omega
    have q2 : ¬ (p + 3 = p ∧ i < 5) := by omega
    simp only [mj_ch, mj_wb, if_true, if_neg q1, if_neg q2]
  · simp only [mj_ch, mj_wb, if_neg hk]
theorem mj_pv_up9 {π : Nat → Nat → Int32} {j i : Nat} {v : Int32} {j' : Nat} (h : ¬ j' = j) : mj_up π j i v j' = π j' := by funext x; simp [mj_up, h]
theorem mj_up_at {π : Nat → Nat → Int32} {j i : Nat} {v : Int32} : mj_up π j i v j i = v := by simp [mj_up]
theorem mj_up_at2 {π : Nat → Nat → Int32} {j i i' : Nat} {v : Int32} (h : ¬ i' = i) : mj_up π j i v j i' = π j i' := by simp [mj_up, h]
theorem mj_uc_lo {π : Nat → Nat → Int32} {i j : Nat} {v : Int32} (h : j < 10) : mj_uc π i v j = π j := by funext x; simp [mj_uc]; omega
theorem mj_uc_at {π : Nat → Nat → Int32} {i : Nat} {v : Int32} : mj_uc π i v 10 i = v := by simp [mj_uc]
theorem mj_uc_ne {π : Nat → Nat → Int32} {i i' : Nat} {v : Int32} (h : ¬ i' = i) : mj_uc π i v 10 i' = π 10 i' := by simp [mj_uc, h]
/-! what stays well -/
theorem mj_wf_nz {π : Nat → Nat → Int32} {j i : Nat} {v : Int32} (hj : j < 10) (hi : i < mj_ln_ j) (h : (∀ j i, j < 10 → mj_ln_ j ≤ i → π j i = 0) ∧ (∀ j i, 10 ≤ j → π j i = if i < 5 then π 10 i else 0)) : (∀ j' i', j' < 10 → mj_ln_ j' ≤ i' → mj_up π j i v j' i' = 0) ∧ (∀ j' i', 10 ≤ j' → mj_up π j i v j' i' = if i' < 5 then mj_up π j i v 10 i' else 0) := by
  refine ⟨fun j' i' h1 h2 => ?_, fun j' i' h1 => ?_⟩
  · unfold mj_up
    rw [if_neg (fun z => by obtain ⟨rfl, rfl⟩ := z; omega)]
    exact h.1 j' i' h1 h2
  · rw [mj_pv_up9 (by omega), mj_pv_up9 (by omega)]
    exact h.2 j' i' h1
theorem mj_up_or {π : Nat → Nat → Int32} {j i i' : Nat} {v : Int32} {P : Int32 → Prop} (hv : P v) (h : P (π j i')) : P (mj_up π j i v j i') := by
  by_cases hi : i' = i
  · subst hi; rw [mj_up_at]; exact hv
  · rw [mj_up_at2 hi]; exact h
theorem mj_wf_up9 {π : Nat → Nat → Int32} {G C c g : Nat} {v : Int32} (h : mj_wf π G C) (hc : c < C) (hg : g < G) (hv : mj_to v 99) : mj_wf (mj_up π 9 (8 * c + g) v) G C := by
  obtain ⟨⟨a1, a2, a3, a4, a5⟩, b, d, e, f, k, l, m⟩ := h
  have n : ∀ j, ¬ j = 9 → mj_up π 9 (8 * c + g) v j = π j := fun j hj => mj_pv_up9 hj
  refine ⟨⟨a1, a2, by rw [n 10 (by decide)]; exact a3, by rw [n 10 (by decide)]; exact a4, by rw [n 10 (by decide)]; exact a5⟩, fun g hg => ?_, fun c hc => ?_, fun i hi => mj_up_or (P := fun x => mj_to x 99) hv (e i hi), fun c hc => ?_, fun g' h1 h2 => ⟨?_, fun c' hc' => ?_⟩, fun c' h1 h2 => ⟨?_, fun g' hg' => ?_⟩, mj_wf_nz (by decide) (by show 8 * c + g < 48; omega) m⟩
  · rw [n 0 (by decide), n 1 (by decide), n 2 (by decide), n 3 (by decide), n 4 (by decide)]; exact b g hg
  · rw [n 5 (by decide), n 6 (by decide), n 7 (by decide), n 8 (by decide)]; exact d c hc
  · rw [n 8 (by decide)]; exact f c hc
  · rw [n 4 (by decide)]; exact (k g' h1 h2).1
  · rw [mj_up_at2 (by omega)]; exact (k g' h1 h2).2 c' hc'
  · rw [n 7 (by decide)]; exact (l c' h1 h2).1
  · rw [mj_up_at2 (by omega)]; exact (l c' h1 h2).2 g' hg'
theorem mj_wf_up7 {π : Nat → Nat → Int32} {G C c : Nat} {v : Int32} (h : mj_wf π G C) (hc : c < C) (hv : mj_to v 30) : mj_wf (mj_up π 7 c v) G C := by
  obtain ⟨⟨a1, a2, a3, a4, a5⟩, b, d, e, f, k, l, m⟩ := h
  have n : ∀ j, ¬ j = 7 → mj_up π 7 c v j = π j := fun j hj => mj_pv_up9 hj
  refine ⟨⟨a1, a2, by rw [n 10 (by decide)]; exact a3, by rw [n 10 (by decide)]; exact a4, by rw [n 10 (by decide)]; exact a5⟩, fun g hg => ?_, fun c hc => ?_, fun i hi => ?_, fun c hc => ?_, fun g' h1 h2 => ⟨?_, fun c' hc' => ?_⟩, fun c' h1 h2 => ⟨?_, fun g' hg' => ?_⟩, mj_wf_nz (by decide) (by show c < 6; omega) m⟩
  · rw [n 0 (by decide), n 1 (by decide), n 2 (by decide), n 3 (by decide), n 4 (by decide)]; exact b g hg
  · rw [n 5 (by decide), n 6 (by decide), n 8 (by decide)]
    exact ⟨(d c hc).1, (d c hc).2.1, mj_up_or (P := fun x => mj_to x 30) hv (d c hc).2.2.1, (d c hc).2.2.2⟩
  · rw [n 9 (by decide)]; exact e i hi
  · rw [n 8 (by decide)]; exact f c hc
  · rw [n 4 (by decide)]; exact (k g' h1 h2).1
  · rw [n 9 (by decide)]; exact (k g' h1 h2).2 c' hc'
  · rw [mj_up_at2 (by omega)]; exact (l c' h1 h2).1
  · rw [n 9 (by decide)]; exact (l c' h1 h2).2 g' hg'
theorem mj_wf_up4 {π : Nat → Nat → Int32} {G C g : Nat} {v : Int32} (h : mj_wf π G C) (hg : g < G) (hv : mj_to v 99) : mj_wf (mj_up π 4 g v) G C := by
  obtain ⟨⟨a1, a2, a3, a4, a5⟩, b, d, e, f, k, l, m⟩ := h
  have n : ∀ j, ¬ j = 4 → mj_up π 4 g v j = π j := fun j hj => mj_pv_up9 hj
  refine ⟨⟨a1, a2, by rw [n 10 (by decide)]; exact a3, by rw [n 10 (by decide)]; exact a4, by rw [n 10 (by decide)]; exact a5⟩, fun g hg => ?_, fun c hc => ?_, fun i hi => ?_, fun c hc => ?_, fun g' h1 h2 => ⟨?_, fun c' hc' => ?_⟩, fun c' h1 h2 => ⟨?_, fun g' hg' => ?_⟩, mj_wf_nz (by decide) (by show g < 8; omega) m⟩
  · rw [n 0 (by decide), n 1 (by decide), n 2 (by decide), n 3 (by decide)]
    exact ⟨(b g hg).1, (b g hg).2.1, (b g hg).2.2.1, (b g hg).2.2.2.1, mj_up_or (P := fun x => mj_to x 99) hv (b g hg).2.2.2.2⟩
  · rw [n 5 (by decide), n 6 (by decide), n 7 (by decide), n 8 (by decide)]; exact d c hc
  · rw [n 9 (by decide)]; exact e i hi
  · rw [n 8 (by decide)]; exact f c hc
  · rw [mj_up_at2 (by omega)]; exact (k g' h1 h2).1
  · rw [n 9 (by decide)]; exact (k g' h1 h2).2 c' hc'
  · rw [n 7 (by decide)]; exact (l c' h1 h2).1
  · rw [n 9 (by decide)]; exact (l c' h1 h2).2 g' hg'
theorem mj_wf_up8 {π : Nat → Nat → Int32} {G C c : Nat} {v : Int32} (h : mj_wf π G C) (hc : c < C) (hv : mj_to v 255) (hb : ∃ g, g < G ∧ mj_bt v g = nI 1) : mj_wf (mj_up π 8 c v) G C := by
  obtain ⟨⟨a1, a2, a3, a4, a5⟩, b, d, e, f, k, l, m⟩ := h
  have n : ∀ j, ¬ j = 8 → mj_up π 8 c v j = π j := fun j hj => mj_pv_up9 hj
  refine ⟨⟨a1, a2, by rw [n 10 (by decide)]; exact a3, by rw [n 10 (by decide)]; exact a4, by rw [n 10 (by decide)]; exact a5⟩, fun g hg => ?_, fun c hc => ?_, fun i hi => ?_, fun c' hc' => ?_, fun g' h1 h2 => ⟨?_, fun c' hc' => ?_⟩, fun c' h1 h2 => ⟨?_, fun g' hg' => ?_⟩, mj_wf_nz (by decide) (by show c < 6; omega) m⟩
  · rw [n 0 (by decide), n 1 (by decide), n 2 (by decide), n 3 (by decide), n 4 (by decide)]; exact b g hg
  · rw [n 5 (by decide), n 6 (by decide), n 7 (by decide)]
    exact ⟨(d c hc).1, (d c hc).2.1, (d c hc).2.2.1, mj_up_or (P := fun x => mj_to x 255) hv (d c hc).2.2.2⟩
  · rw [n 9 (by decide)]; exact e i hi
  · exact mj_up_or (P := fun x => ∃ g, g < G ∧ mj_bt x g = nI 1) hb (f c' hc')
  · rw [n 4 (by decide)]; exact (k g' h1 h2).1
  · rw [n 9 (by decide)]; exact (k g' h1 h2).2 c' hc'
  · rw [n 7 (by decide)]; exact (l c' h1 h2).1
  · rw [n 9 (by decide)]; exact (l c' h1 h2).2 g' hg'
theorem mj_wf_uc {π : Nat → Nat → Int32} {G C i : Nat} {v : Int32} (h : mj_wf π G C) (hi : 2 ≤ i) (hi5 : i < 5) (hv : i = 2 → mj_to v 9) : mj_wf (mj_uc π i v) G C := by
  obtain ⟨⟨a1, a2, a3, a4, a5⟩, b, d, e, f, k, l, m⟩ := h
  have n : ∀ j, j < 10 → mj_uc π i v j = π j := fun j hj => mj_uc_lo hj
  refine ⟨⟨a1, a2, by rw [mj_uc_ne (by omega)]; exact a3, by rw [mj_uc_ne (by omega)]; exact a4, ?_⟩, fun g hg => ?_, fun c hc => ?_, fun i hi => ?_, fun c hc => ?_, fun g' h1 h2 => ⟨?_, fun c' hc' => ?_⟩, fun c' h1 h2 => ⟨?_, fun g' hg' => ?_⟩, fun j i' hj hl => ?_, fun j i' hj => ?_⟩
  · by_cases h2 : i = 2
    · subst h2; rw [mj_uc_at]; exact hv rfl
    · rw [mj_uc_ne (by omega)]; exact a5
  · rw [n 0 (by decide), n 1 (by decide), n 2 (by decide), n 3 (by decide), n 4 (by decide)]; exact b g hg
  · rw [n 5 (by decide), n 6 (by decide), n 7 (by decide), n 8 (by decide)]; exact d c hc
  · rw [n 9 (by decide)]; exact e i hi
  · rw [n 8 (by decide)]; exact f c hc
  · rw [n 4 (by decide)]; exact (k g' h1 h2).1
  · rw [n 9 (by decide)]; exact (k g' h1 h2).2 c' hc'
  · rw [n 7 (by decide)]; exact (l c' h1 h2).1
  · rw [n 9 (by decide)]; exact (l c' h1 h2).2 g' hg'
  · rw [n j hj]; exact m.1 j i' hj hl
  · unfold mj_uc
    by_cases hii : i' = i
    · subst hii; rw [if_pos ⟨hj, rfl⟩, if_pos hi5, if_pos ⟨by omega, rfl⟩]
    · rw [if_neg (show ¬ (10 ≤ j ∧ i' = i) from fun z => hii z.2), if_neg (show ¬ (10 ≤ 10 ∧ i' = i) from fun z => hii z.2)]; exact m.2 j i' hj
