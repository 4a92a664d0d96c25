/-! PARISH: the text, pure -/
section
variable {T : Nat → Int32} {n p : Nat} {π : Nat → Nat → Int32} {G C : Nat}
def pp_off (w : Nat) : Nat := if w = 0 then 0 else if w = 1 then 7 else if w = 2 then 14 else if w = 3 then 20 else 25
def pp_len (w : Nat) : Nat := if w = 2 then 4 else if w = 3 then 3 else 5
def pp_let (w j : Nat) : Int32 := mj_wds.getD (pp_off w + j) 0
/-- how many letters from the j-th on are alike, of r -/
def pp_al (T : Nat → Int32) (n p w : Nat) : Nat → Nat → Nat
  | 0, _ => 0
  | r + 1, j => if p + j < n ∧ T (p + j) = pp_let w j then pp_al T n p w r (j + 1) + 1 else 0
theorem pp_al_le {w : Nat} : ∀ r j, pp_al T n p w r j ≤ r := by
  intro r
  induction r with
  | zero => intro j; exact Nat.le_refl _
  | succ r ih =>
    intro j
    rw [pp_al]
    split
    · have := ih (j + 1); omega
    · omega
theorem pp_al_s {w : Nat} : ∀ r j, pp_al T n p w (r + 1) j = if pp_al T n p w r j = r then r + (if p + (j + r) < n ∧ T (p + (j + r)) = pp_let w (j + r) then 1 else 0) else pp_al T n p w r j := by
  intro r
  induction r with
  | zero =>
    intro j
    rw [pp_al, pp_al, if_pos rfl, Nat.add_zero]
    rw [pp_al, Nat.zero_add, Nat.zero_add]
    rfl
  | succ r ih =>
    intro j
    rw [pp_al, ih (j + 1), show pp_al T n p w (r + 1) j = if p + j < n ∧ T (p + j) = pp_let w j then pp_al T n p w r (j + 1) + 1 else 0 from rfl]
    by_cases h : p + j < n ∧ T (p + j) = pp_let w j
    · rw [if_pos h, if_pos h, show j + 1 + r = j + (r + 1) by omega]
      by_cases h2 : pp_al T n p w r (j + 1) = r
      · have h3 : pp_al T n p w r (j + 1) + 1 = r + 1 := by omega
        rw [if_pos h2, if_pos h3]
        exact Nat.add_right_comm _ _ _
      · have h3 : ¬ pp_al T n p w r (j + 1) + 1 = r + 1 := by omega
        rw [if_neg h2, if_neg h3]
    · rw [if_neg h, if_neg h, if_neg (by omega)]
/-- the letters of w; with its blank -/
def pp_a (T : Nat → Int32) (n p w : Nat) : Nat := pp_al T n p w (pp_len w) 0
def pp_b (T : Nat → Int32) (n p w : Nat) : Nat := pp_al T n p w (pp_len w + 1) 0
def pp_bl (T : Nat → Int32) (n p : Nat) : Prop := p < n ∧ T p = nI 32
theorem pp_let_bl {w : Nat} (hw : w < 5) : pp_let w (pp_len w) = nI 32 := by
  rcases (show w = 0 ∨ w = 1 ∨ w = 2 ∨ w = 3 ∨ w = 4 by omega) with rfl | rfl | rfl | rfl | rfl <;> decide
theorem pp_b_no {w : Nat} (h : ¬ pp_a T n p w = pp_len w) : pp_b T n p w = pp_a T n p w := by
  unfold pp_b; rw [pp_al_s]; exact if_neg h
theorem pp_b_yes {w : Nat} (hw : w < 5) (h : pp_a T n p w = pp_len w) (hb : pp_bl T n (p + pp_len w)) : pp_b T n p w = pp_len w + 1 := by
  unfold pp_b
  unfold pp_a at h
  unfold pp_bl at hb
  rw [pp_al_s, if_pos h, Nat.zero_add, pp_let_bl hw]
  rw [if_pos hb]
theorem pp_b_nb {w : Nat} (hw : w < 5) (h : pp_a T n p w = pp_len w) (hb : ¬ pp_bl T n (p + pp_len w)) : pp_b T n p w = pp_len w := by
  unfold pp_b
  unfold pp_a at h
  unfold pp_bl at hb
  rw [pp_al_s, if_pos h, Nat.zero_add, pp_let_bl hw]
  rw [if_neg hb]; rfl
/-- two letters stand there: no other word is there -/
theorem pp_al_2 {w : Nat} {r : Nat} (h : pp_al T n p w (r + 2) 0 = r + 2) : (p + 0 < n ∧ T (p + 0) = pp_let w 0) ∧ (p + (0 + 1) < n ∧ T (p + (0 + 1)) = pp_let w (0 + 1)) := by
  rw [pp_al] at h
  split at h
  · rename_i h1
    rw [pp_al] at h
    split at h
    · rename_i h2
      exact ⟨h1, h2⟩
    · omega
  · omega
theorem pp_al_u {w v : Nat} {r k : Nat} (h : pp_al T n p w (r + 2) 0 = r + 2) (hne : ¬ pp_let w 0 = pp_let v 0 ∨ ¬ pp_let w (0 + 1) = pp_let v (0 + 1)) : pp_al T n p v (k + 2) 0 ≤ 1 := by
  obtain ⟨⟨-, h1⟩, -, h2⟩ := pp_al_2 h
  rw [pp_al]
  split
  · rename_i q1
    rw [pp_al]
    split
    · rename_i q2
      rcases hne with z | z
      · exact absurd (h1.symm.trans q1.2) z
      · exact absurd (h2.symm.trans q2.2) z
    · omega
  · omega
theorem pp_else {w v : Nat} (hw : w < 5) (hv : v < 5) (hne : ¬ v = w) (h : pp_a T n p w = pp_len w) : pp_b T n p v ≤ 1 ∧ pp_a T n p v ≤ 1 := by
  have hl : ∃ r, pp_len w = r + 2 := by
    refine ⟨pp_len w - 2, ?_⟩
    rcases (show w = 0 ∨ w = 1 ∨ w = 2 ∨ w = 3 ∨ w = 4 by omega) with rfl | rfl | rfl | rfl | rfl <;> decide
  have hk : ∃ k, pp_len v = k + 2 := by
    refine ⟨pp_len v - 2, ?_⟩
    rcases (show v = 0 ∨ v = 1 ∨ v = 2 ∨ v = 3 ∨ v = 4 by omega) with rfl | rfl | rfl | rfl | rfl <;> decide
  have hd : ¬ pp_let w 0 = pp_let v 0 ∨ ¬ pp_let w (0 + 1) = pp_let v (0 + 1) := by
    have z : ∀ w, w < 5 → ∀ v, v < 5 → ¬ v = w → ¬ pp_let w 0 = pp_let v 0 ∨ ¬ pp_let w (0 + 1) = pp_let v (0 + 1) := by decide
    exact z w hw v hv hne
  obtain ⟨r, er⟩ := hl
  obtain ⟨k, ek⟩ := hk
  unfold pp_a at h ⊢
  unfold pp_b
  rw [er] at h
  rw [ek]
  exact ⟨pp_al_u (k := k + 1) h hd, pp_al_u (k := k) h hd⟩
def pp_max (a b : Nat) : Nat := if a < b then b else a
/-- the word that stands there; how far the farthest -/
def pp_fw (T : Nat → Int32) (n p : Nat) : Option Nat := if pp_a T n p 0 = 5 then some 0 else if pp_a T n p 1 = 5 then some 1 else if pp_a T n p 2 = 4 then some 2 else if pp_a T n p 3 = 3 then some 3 else if pp_a T n p 4 = 5 then some 4 else none
def pp_lo (T : Nat → Int32) (n p : Nat) : Nat := pp_max (pp_max (pp_max (pp_max (pp_max 0 (pp_a T n p 0)) (pp_a T n p 1)) (pp_a T n p 2)) (pp_a T n p 3)) (pp_a T n p 4)
theorem pp_fw_s {w : Nat} (h : pp_fw T n p = some w) : w < 5 ∧ pp_a T n p w = pp_len w := by
  unfold pp_fw at h
  split at h
  · cases h; exact ⟨by decide, by assumption⟩
  · split at h
    · cases h; exact ⟨by decide, by assumption⟩
    · split at h
      · cases h; exact ⟨by decide, by assumption⟩
      · split at h
        · cases h; exact ⟨by decide, by assumption⟩
        · split at h
          · cases h; exact ⟨by decide, by assumption⟩
          · cases h
theorem pp_fw_n (h : pp_fw T n p = none) : ¬ pp_a T n p 0 = 5 ∧ ¬ pp_a T n p 1 = 5 ∧ ¬ pp_a T n p 2 = 4 ∧ ¬ pp_a T n p 3 = 3 ∧ ¬ pp_a T n p 4 = 5 := by
  unfold pp_fw at h
  split at h
  · cases h
  · split at h
    · cases h
    · split at h
      · cases h
      · split at h
        · cases h
        · split at h
          · cases h
          · exact ⟨by assumption, by assumption, by assumption, by assumption, by assumption⟩
/-- a digit; a number -/
def pp_dg (T : Nat → Int32) (n p : Nat) : Option Nat := if p < n ∧ nI 48 ≤ T p ∧ T p ≤ nI 57 then some ((T p).toNatClampNeg - 48) else none
theorem pp_dg_s {d : Nat} (h : pp_dg T n p = some d) : p < n ∧ T p = nI (48 + d) ∧ d ≤ 9 := by
  unfold pp_dg at h
  split at h
  · rename_i q
    obtain ⟨q1, q2, q3⟩ := q
    have h0 : ¬ T p < 0 := by
      intro z
      exact absurd (Int32.lt_of_le_of_lt q2 z) (by decide)
    obtain ⟨k, hk, e⟩ := nI_of h0
    rw [e] at q2 q3 h ⊢
    rw [nI_leI (by decide) hk] at q2
    rw [nI_leI hk (by decide)] at q3
    rw [nI_clamp hk] at h
    cases h
    exact ⟨q1, by congr 1; omega, by omega⟩
  · cases h
theorem pp_dg_n (h : pp_dg T n p = none) : ¬ (p < n ∧ nI 48 ≤ T p ∧ T p ≤ nI 57) := by
  unfold pp_dg at h
  split at h
  · cases h
  · assumption
def pp_nu (T : Nat → Int32) (n p : Nat) : Option (Nat × Nat) := match pp_dg T n p with
  | none => none
  | some d => match pp_dg T n (p + 1) with
    | none => some (d, p + 1)
    | some e => some (10 * d + e, p + 2)
def pp_mo (G C w i : Nat) : Nat := if w = 0 then (if i = 0 then 7 else if i = 2 then 61 else 10) else if w = 1 then (if i < 2 then 10 else G) else if w = 2 then (if i = 0 then C else if i = 1 then G else 21) else if w = 3 then (if i = 0 then C else 31) else 10
def pp_ba (π : Nat → Nat → Int32) (w i v : Nat) (t : Nat → Nat) : Prop := (w = 2 ∧ i = 1 ∧ π 0 v = nI 4) ∨ (w = 1 ∧ ((i = 3 ∧ v = t 2) ∨ (i = 4 ∧ (v = t 2 ∨ v = t 3))))
def pp_ok (π : Nat → Nat → Int32) (G C w i v : Nat) (t : Nat → Nat) : Prop := v < pp_mo G C w i ∧ ¬ pp_ba π w i v t
def pp_up (t : Nat → Nat) (i v : Nat) : Nat → Nat := fun j => if j = i then v else t j
/-- r numbers from the i-th on -/
noncomputable def pp_ns (T : Nat → Int32) (n : Nat) (π : Nat → Nat → Int32) (G C w : Nat) : Nat → Nat → (Nat → Nat) → Nat → Nat ⊕ ((Nat → Nat) × Nat)
  | 0, _, t, p => .inr (t, p)
  | r + 1, i, t, p => by classical exact if pp_bl T n p then (match pp_nu T n (p + 1) with
      | none => .inl (p + 1)
      | some (v, p2) => if pp_ok π G C w i v t then pp_ns T n π G C w r (i + 1) (pp_up t i v) p2 else .inl (p + 1)) else .inl p
/-- behind the blank -/
noncomputable def pp_n1 (T : Nat → Int32) (n : Nat) (π : Nat → Nat → Int32) (G C w r i : Nat) (t : Nat → Nat) (p : Nat) : Nat ⊕ ((Nat → Nat) × Nat) := by
  classical exact match pp_nu T n p with
      | none => .inl p
      | some (v, p2) => if pp_ok π G C w i v t then pp_ns T n π G C w r (i + 1) (pp_up t i v) p2 else .inl p
theorem pp_ns_y {w r i : Nat} {t : Nat → Nat} (h : pp_bl T n p) : pp_ns T n π G C w (r + 1) i t p = pp_n1 T n π G C w r i t (p + 1) := by
  rw [pp_ns]; exact if_pos h
theorem pp_ns_n {w r i : Nat} {t : Nat → Nat} (h : ¬ pp_bl T n p) : pp_ns T n π G C w (r + 1) i t p = .inl p := by
  rw [pp_ns]; exact if_neg h
theorem pp_n1_0 {w r i : Nat} {t : Nat → Nat} (h : pp_nu T n p = none) : pp_n1 T n π G C w r i t p = .inl p := by
  unfold pp_n1; rw [h]
theorem pp_n1_y {w r i v p2 : Nat} {t : Nat → Nat} (h : pp_nu T n p = some (v, p2)) (h2 : pp_ok π G C w i v t) : pp_n1 T n π G C w r i t p = pp_ns T n π G C w r (i + 1) (pp_up t i v) p2 := by
  unfold pp_n1; rw [h]; exact if_pos h2
theorem pp_n1_n {w r i v p2 : Nat} {t : Nat → Nat} (h : pp_nu T n p = some (v, p2)) (h2 : ¬ pp_ok π G C w i v t) : pp_n1 T n π G C w r i t p = .inl p := by
  unfold pp_n1; rw [h]; exact if_neg h2
theorem pp_nu_P {v p2 : Nat} (h : pp_nu T n p = some (v, p2)) : p < p2 ∧ p2 ≤ n ∧ v ≤ 99 := by
  unfold pp_nu at h
  split at h
  · cases h
  · rename_i d e1
    obtain ⟨a1, -, a3⟩ := pp_dg_s e1
    split at h
    · cases h; exact ⟨by omega, by omega, by omega⟩
    · rename_i d2 e2
      obtain ⟨b1, -, b3⟩ := pp_dg_s e2
      cases h; exact ⟨by omega, by omega, by omega⟩
theorem pp_ok_up {w i j v x : Nat} {t : Nat → Nat} (h : j ≤ i) : pp_ok π G C w j v (pp_up t i x) ↔ pp_ok π G C w j v t := by
  have e : ∀ k, k < j → pp_up t i x k = t k := fun k hk => if_neg (by omega)
  unfold pp_ok pp_ba
  by_cases h3 : j = 3
  · subst h3
    rw [e 2 (by decide)]
    simp
  · by_cases h4 : j = 4
    · subst h4
      rw [e 2 (by decide), e 3 (by decide)]
    · simp [h3, h4]
theorem pp_ns_P {w : Nat} : ∀ r i (t : Nat → Nat) p t' p', (∀ j, j < i → pp_ok π G C w j (t j) t) → pp_ns T n π G C w r i t p = .inr (t', p') → p ≤ p' ∧ ∀ j, j < i + r → pp_ok π G C w j (t' j) t' := by
  intro r
  induction r with
  | zero =>
    intro i t p t' p' h e
    cases e
    exact ⟨Nat.le_refl _, h⟩
  | succ r ih =>
    intro i t p t' p' h e
    by_cases hb : pp_bl T n p
    · rw [pp_ns_y hb] at e
      cases hn : pp_nu T n (p + 1) with
      | none => rw [pp_n1_0 hn] at e; cases e
      | some q =>
        obtain ⟨v, p2⟩ := q
        by_cases ho : pp_ok π G C w i v t
        · rw [pp_n1_y hn ho] at e
          obtain ⟨h1, -, -⟩ := pp_nu_P hn
          have := ih (i + 1) (pp_up t i v) p2 t' p' (fun j hj => by
            rw [pp_ok_up (by omega)]
            by_cases hji : j = i
            · subst hji
              rw [show pp_up t j v j = v from if_pos rfl]; exact ho
            · rw [show pp_up t i v j = t j from if_neg hji]; exact h j (by omega)) e
          exact ⟨by omega, fun j hj => this.2 j (by omega)⟩
        · rw [pp_n1_n hn ho] at e; cases e
    · rw [pp_ns_n hb] at e; cases e
/-- how many numbers; what an item makes -/
def pp_nm (w : Nat) : Nat := if w = 0 then 4 else if w = 1 then 5 else if w = 2 then 3 else if w = 3 then 2 else 1
def pp_tp (π : Nat → Nat → Int32) (G C w : Nat) (t : Nat → Nat) : Nat → Nat → Int32 :=
  if w = 0 then mj_ag π G (nI (t 0)) (nI (t 1)) (nI (t 2)) (nI (t 3)) else if w = 1 then mj_ac π C (nI (t 0)) (nI (t 1)) (mj_m3 (t 2) (t 3) (t 4)) else if w = 2 then mj_gi π (t 0) (t 1) (nI (t 2)) else if w = 3 then mj_up π 7 (t 0) (nI (t 1)) else mj_uc π 2 (nI (t 0))
def pp_tg (G w : Nat) : Nat := if w = 0 then G + 1 else G
def pp_tc (C w : Nat) : Nat := if w = 1 then C + 1 else C
def pp_rm (G C w : Nat) : Prop := (w = 0 → G < 8) ∧ (w = 1 → C < 6)
theorem pp_tell_wf (h : mj_wf π G C) {w : Nat} (hw : w < 5) (hr : pp_rm G C w) {t : Nat → Nat} (ho : ∀ j, j < pp_nm w → pp_ok π G C w j (t j) t) : mj_wf (pp_tp π G C w t) (pp_tg G w) (pp_tc C w) := by
  have b : ∀ j, j < pp_nm w → t j < pp_mo G C w j := fun j hj => (ho j hj).1
  have hG := h.1.1
  rcases (show w = 0 ∨ w = 1 ∨ w = 2 ∨ w = 3 ∨ w = 4 by omega) with rfl | rfl | rfl | rfl | rfl
  · have b0 : t 0 < 7 := b 0 (by decide)
    have b1 : t 1 < 10 := b 1 (by decide)
    have b2 : t 2 < 61 := b 2 (by decide)
    have b3 : t 3 < 10 := b 3 (by decide)
    exact mj_wf_ag h (hr.1 rfl) ⟨t 0, by omega, rfl⟩ ⟨t 1, by omega, rfl⟩ ⟨t 2, by omega, rfl⟩ ⟨t 3, by omega, rfl⟩
  · have b0 : t 0 < 10 := b 0 (by decide)
    have b1 : t 1 < 10 := b 1 (by decide)
    have b2 : t 2 < G := b 2 (by decide)
    have b3 : t 3 < G := b 3 (by decide)
    have b4 : t 4 < G := b 4 (by decide)
    have n3 := (ho 3 (by decide)).2
    have n4 := (ho 4 (by decide)).2
    have d1 : ¬ t 2 = t 3 := fun z => n3 (Or.inr ⟨rfl, Or.inl ⟨rfl, z.symm⟩⟩)
    have d2 : ¬ t 2 = t 4 := fun z => n4 (Or.inr ⟨rfl, Or.inr ⟨rfl, Or.inl z.symm⟩⟩)
    have d3 : ¬ t 3 = t 4 := fun z => n4 (Or.inr ⟨rfl, Or.inr ⟨rfl, Or.inr z.symm⟩⟩)
    obtain ⟨m1, m2, -⟩ := mj_m3P (show t 2 < 8 by omega) (show t 3 < 8 by omega) (show t 4 < 8 by omega) d1 d2 d3
    exact mj_wf_ac h (hr.2 rfl) ⟨t 0, by omega, rfl⟩ ⟨t 1, by omega, rfl⟩ m1 ⟨t 2, b2, m2⟩
  · have b0 : t 0 < C := b 0 (by decide)
    have b1 : t 1 < G := b 1 (by decide)
    have b2 : t 2 < 21 := b 2 (by decide)
    exact mj_wf_gi h b0 b1 (by omega)
  · have b0 : t 0 < C := b 0 (by decide)
    have b1 : t 1 < 31 := b 1 (by decide)
    exact mj_wf_up7 h b0 ⟨t 1, by omega, rfl⟩
  · have b0 : t 0 < 10 := b 0 (by decide)
    exact mj_wf_uc h (by decide) (by decide) (fun _ => ⟨t 0, by omega, rfl⟩)
/-- an item: the fault, or the parish behind it and the place -/
noncomputable def pp_it (T : Nat → Int32) (n : Nat) (π : Nat → Nat → Int32) (G C p : Nat) : Nat ⊕ ((Nat → Nat → Int32) × Nat × Nat × Nat) := by
  classical exact match pp_fw T n p with
    | none => .inl (p + pp_lo T n p)
    | some w => if pp_rm G C w then (match pp_ns T n π G C w (pp_nm w) 0 (fun _ => 0) (p + pp_len w) with
        | .inl f => .inl f
        | .inr (t, p') => .inr (pp_tp π G C w t, pp_tg G w, pp_tc C w, p')) else .inl p
theorem pp_it_0 (h : pp_fw T n p = none) : pp_it T n π G C p = .inl (p + pp_lo T n p) := by unfold pp_it; rw [h]
theorem pp_it_r {w : Nat} (h : pp_fw T n p = some w) (hr : ¬ pp_rm G C w) : pp_it T n π G C p = .inl p := by unfold pp_it; rw [h]; exact if_neg hr
theorem pp_it_f {w f : Nat} (h : pp_fw T n p = some w) (hr : pp_rm G C w) (hn : pp_ns T n π G C w (pp_nm w) 0 (fun _ => 0) (p + pp_len w) = .inl f) : pp_it T n π G C p = .inl f := by
  unfold pp_it; rw [h]; refine (if_pos hr).trans ?_; rw [hn]
theorem pp_it_y {w p' : Nat} {t : Nat → Nat} (h : pp_fw T n p = some w) (hr : pp_rm G C w) (hn : pp_ns T n π G C w (pp_nm w) 0 (fun _ => 0) (p + pp_len w) = .inr (t, p')) : pp_it T n π G C p = .inr (pp_tp π G C w t, pp_tg G w, pp_tc C w, p') := by
  unfold pp_it; rw [h]; refine (if_pos hr).trans ?_; rw [hn]
theorem pp_it_P (h : mj_wf π G C) {π' : Nat → Nat → Int32} {G' C' p' : Nat} (e : pp_it T n π G C p = .inr (π', G', C', p')) : mj_wf π' G' C' ∧ p < p' ∧ G ≤ G' := by
  cases hf : pp_fw T n p with
  | none => rw [pp_it_0 hf] at e; cases e
  | some w =>
    obtain ⟨hw, -⟩ := pp_fw_s hf
    by_cases hr : pp_rm G C w
    · cases hn : pp_ns T n π G C w (pp_nm w) 0 (fun _ => 0) (p + pp_len w) with
      | inl f => rw [pp_it_f hf hr hn] at e; cases e
      | inr q =>
        obtain ⟨t, p2⟩ := q
        rw [pp_it_y hf hr hn] at e
        cases e
        obtain ⟨h1, h2⟩ := pp_ns_P _ _ _ _ _ _ (fun j hj => absurd hj (Nat.not_lt_zero j)) hn
        refine ⟨pp_tell_wf h hw hr (fun j hj => h2 j (by omega)), ?_, ?_⟩
        · have : 1 ≤ pp_len w := by
            rcases (show w = 0 ∨ w = 1 ∨ w = 2 ∨ w = 3 ∨ w = 4 by omega) with rfl | rfl | rfl | rfl | rfl <;> decide
          omega
        · unfold pp_tg; split <;> omega
    · rw [pp_it_r hf hr] at e; cases e
/-- the whole text: fuel, parish, place, items ahead -/
noncomputable def pp_all (T : Nat → Int32) (n : Nat) : Nat → (Nat → Nat → Int32) → Nat → Nat → Nat → Nat → Nat ⊕ ((Nat → Nat → Int32) × Nat × Nat × Nat)
  | 0, _, _, _, p, _ => .inl p
  | k + 1, π, G, C, p, m => match pp_it T n π G C p with
    | .inl f => .inl f
    | .inr (π', G', C', p') => if p' < n then (if T p' = nI 59 then pp_all T n k π' G' C' (p' + 1) (m + 1) else .inl p') else .inr (π', G', C', m + 1)
end

