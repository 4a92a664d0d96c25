/-! PICKS, pure -/
theorem mj_bt_or {a b : Int32} {g : Nat} : mj_bt (a ||| b) g = mj_bt a g ||| mj_bt b g := by
  unfold mj_bt
  apply Int32.toBitVec_inj.mp
  simp only [Int32.toBitVec_and, Int32.toBitVec_or, Int32.toBitVec_shiftRight, BitVec.sshiftRight_eq', BitVec.sshiftRight_or_distrib]
  exact BitVec.eq_of_getElem_eq (fun i hi => by simp only [BitVec.getElem_and, BitVec.getElem_or, Bool.and_or_distrib_right])
theorem mj_bt_orP {a b : Int32} {g : Nat} : mj_bt (a ||| b) g = nI 0 ↔ (mj_bt a g = nI 0 ∧ mj_bt b g = nI 0) := by
  rw [mj_bt_or]
  rcases mj_bt01 a g with h | h <;> rcases mj_bt01 b g with q | q <;> rw [h, q] <;> decide
/-- a bit more -/
theorem mj_rb_chk : (List.range 256).all (fun r => (List.range 8).all (fun g => !(decide (mj_bt (nI r) g = nI 0)) || (decide (nI r ||| (nI 1 <<< (nI g &&& 31)) = nI (r + 2 ^ g)) && decide (nI r + (nI 1 <<< (nI g &&& 31)) = nI (r + 2 ^ g)) && decide (r + 2 ^ g < 256) && (List.range 8).all (fun h => decide (mj_bt (nI (r + 2 ^ g)) h = if h = g then nI 1 else mj_bt (nI r) h))))) = true := by decide +kernel
theorem mj_rbP {r g : Nat} (hr : r < 256) (hg : g < 8) (h : mj_bt (nI r) g = nI 0) : nI r ||| (nI 1 <<< (nI g &&& 31)) = nI (r + 2 ^ g) ∧ nI r + (nI 1 <<< (nI g &&& 31)) = nI (r + 2 ^ g) ∧ r + 2 ^ g < 256 ∧ ∀ k, k < 8 → mj_bt (nI (r + 2 ^ g)) k = if k = g then nI 1 else mj_bt (nI r) k := by
  have q := List.all_eq_true.mp (List.all_eq_true.mp mj_rb_chk r (List.mem_range.mpr hr)) g (List.mem_range.mpr hg)
  rw [decide_eq_true h] at q
  simp only [Bool.not_true, Bool.false_or, Bool.and_eq_true, decide_eq_true_eq, List.all_eq_true, List.mem_range] at q
  exact ⟨q.1.1.1, q.1.1.2, q.1.2, q.2⟩
section
variable {π : Nat → Nat → Int32} {G C c g : Nat} {P R : Nat → Int32}
/-- whom c likes most of those it may ask -/
def mj_bw (π : Nat → Nat → Int32) (c : Nat) (r : Int32) : Nat → Int32 × Int32
  | 0 => (-1, -1)
  | n + 1 => if mj_bt (π 8 c ||| r) n = nI 0 then (if mj_pl π c n ≤ (mj_bw π c r n).2 then mj_bw π c r n else (nI n, mj_pl π c n)) else mj_bw π c r n
theorem mj_pl_nn (h : mj_wf π G C) (hc : c < 6) (hg : g < 8) : ¬ mj_pl π c g ≤ -1 := (mj_to_m1 (mj_pull_to9 h hc hg) (by decide)).1
theorem mj_bwP (h : mj_wf π G C) (hc : c < 6) {r : Int32} : ∀ n, n ≤ 8 → mj_bw π c r n = (-1, -1) ∨ ∃ b, b < n ∧ mj_bt (π 8 c ||| r) b = nI 0 ∧ mj_bw π c r n = (nI b, mj_pl π c b) := by
  intro n
  induction n with
  | zero => intro _; exact Or.inl rfl
  | succ n ih =>
    intro hn
    rw [mj_bw]
    by_cases h1 : mj_bt (π 8 c ||| r) n = nI 0
    · rw [if_pos h1]
      by_cases h2 : mj_pl π c n ≤ (mj_bw π c r n).2
      · rw [if_pos h2]
        rcases ih (by omega) with q | ⟨b, hb, q1, q2⟩
        · rw [q] at h2
          exact absurd h2 (mj_pl_nn h hc (by omega))
        · exact Or.inr ⟨b, by omega, q1, q2⟩
      · rw [if_neg h2]
        exact Or.inr ⟨n, by omega, h1, rfl⟩
    · rw [if_neg h1]
      rcases ih (by omega) with q | ⟨b, hb, q1, q2⟩
      · exact Or.inl q
      · exact Or.inr ⟨b, by omega, q1, q2⟩
/-- how many hold g -/
def mj_hn (P : Nat → Int32) (g : Nat) : Nat → Nat
  | 0 => 0
  | n + 1 => mj_hn P g n + (if P n = nI g then 1 else 0)
theorem mj_hn_le : ∀ n, mj_hn P g n ≤ n := by
  intro n
  induction n with
  | zero => exact Nat.le_refl _
  | succ n ih => rw [mj_hn]; split <;> omega
def mj_qv (π : Nat → Nat → Int32) (g c : Nat) : Nat := (π 9 (8 * c + g)).toNatClampNeg
theorem mj_qvP (h : mj_wf π G C) (hc : c < 6) (hg : g < 8) : π 9 (8 * c + g) = nI (mj_qv π g c) ∧ mj_qv π g c ≤ 99 := by
  obtain ⟨l, hl, e⟩ := h.2.2.2.1 (8 * c + g) (by omega)
  unfold mj_qv
  rw [e, nI_clamp (by omega)]
  exact ⟨rfl, hl⟩
/-- a is liked better than b -/
def mj_qb (π : Nat → Nat → Int32) (g a b : Nat) : Prop := mj_qv π g b < mj_qv π g a ∨ (mj_qv π g a = mj_qv π g b ∧ a < b)
/-- the least liked, the class's way (from a on); the model's -/
noncomputable def mj_qw (π : Nat → Nat → Int32) (P : Nat → Int32) (g a : Nat) : Nat → Nat
  | 0 => a
  | n + 1 => by classical exact if P n = nI g ∧ mj_qb π g (mj_qw π P g a n) n then n else mj_qw π P g a n
def mj_qm (π : Nat → Nat → Int32) (P : Nat → Int32) (g : Nat) : Nat → Option Nat
  | 0 => none
  | n + 1 => if P n = nI g then (match mj_qm π P g n with | none => some n | some i => if mj_qv π g n ≤ mj_qv π g i then some n else some i) else mj_qm π P g n
theorem mj_qw_y {a n : Nat} (h : P n = nI g ∧ mj_qb π g (mj_qw π P g a n) n) : mj_qw π P g a (n + 1) = n := by rw [mj_qw]; exact if_pos h
theorem mj_qw_n {a n : Nat} (h : ¬ (P n = nI g ∧ mj_qb π g (mj_qw π P g a n) n)) : mj_qw π P g a (n + 1) = mj_qw π P g a n := by rw [mj_qw]; exact if_neg h
theorem mj_qw_le {a : Nat} (ha : a < C) : ∀ n, n ≤ C → mj_qw π P g a n < C := by
  intro n
  induction n with
  | zero => intro _; exact ha
  | succ n ih =>
    intro hn
    by_cases h : P n = nI g ∧ mj_qb π g (mj_qw π P g a n) n
    · rw [mj_qw_y h]; omega
    · rw [mj_qw_n h]; exact ih (by omega)
theorem mj_qw_P {a : Nat} (ha : P a = nI g) : ∀ n, P (mj_qw π P g a n) = nI g := by
  intro n
  induction n with
  | zero => exact ha
  | succ n ih =>
    by_cases h : P n = nI g ∧ mj_qb π g (mj_qw π P g a n) n
    · rw [mj_qw_y h]; exact h.1
    · rw [mj_qw_n h]; exact ih
theorem mj_qm_lt : ∀ n i, mj_qm π P g n = some i → i < n := by
  intro n
  induction n with
  | zero => intro i h; cases h
  | succ n ih =>
    intro i h
    rw [mj_qm] at h
    split at h
    · split at h
      · cases h; omega
      · rename_i j e
        have := ih j e
        split at h
        · cases h; omega
        · cases h; omega
    · have := ih i h; omega
theorem mj_qw_inv {a : Nat} (ha : P a = nI g) : ∀ n, (mj_qm π P g n = none ∧ mj_qw π P g a n = a ∧ n ≤ a) ∨ ∃ i, mj_qm π P g n = some i ∧ ((mj_qb π g a i ∧ mj_qw π P g a n = i) ∨ (¬ mj_qb π g a i ∧ mj_qw π P g a n = a)) ∧ (a < n → (a = i ∨ mj_qb π g a i)) := by
  intro n
  induction n with
  | zero => exact Or.inl ⟨rfl, rfl, Nat.zero_le _⟩
  | succ n ih =>
    by_cases hP : P n = nI g
    · have hm : mj_qm π P g (n + 1) = (match mj_qm π P g n with | none => some n | some i => if mj_qv π g n ≤ mj_qv π g i then some n else some i) := by rw [mj_qm, if_pos hP]
      rcases ih with ⟨i1, i2, i3⟩ | ⟨i, i1, i2, i3⟩
      · rw [i1] at hm
        refine Or.inr ⟨n, hm, ?_, ?_⟩
        · by_cases hb : mj_qb π g a n
          · exact Or.inl ⟨hb, mj_qw_y ⟨hP, by rw [i2]; exact hb⟩⟩
          · exact Or.inr ⟨hb, (mj_qw_n (by rw [i2]; exact fun z => hb z.2)).trans i2⟩
        · intro h; exact Or.inl (by omega)
      · have hi := mj_qm_lt n i i1
        rw [i1] at hm
        by_cases hv : mj_qv π g n ≤ mj_qv π g i
        · have hm2 : mj_qm π P g (n + 1) = some n := hm.trans (if_pos hv)
          have hin : mj_qb π g i n := by unfold mj_qb; omega
          refine Or.inr ⟨n, hm2, ?_, ?_⟩
          · rcases i2 with ⟨b1, b2⟩ | ⟨b1, b2⟩
            · left
              refine ⟨?_, mj_qw_y ⟨hP, by rw [b2]; exact hin⟩⟩
              unfold mj_qb at b1 hin ⊢; omega
            · by_cases hb : mj_qb π g a n
              · exact Or.inl ⟨hb, mj_qw_y ⟨hP, by rw [b2]; exact hb⟩⟩
              · exact Or.inr ⟨hb, (mj_qw_n (by rw [b2]; exact fun z => hb z.2)).trans b2⟩
          · intro h
            by_cases han : a = n
            · exact Or.inl han
            · right
              rcases i3 (by omega) with z | z
              · rw [z]; exact hin
              · unfold mj_qb at z hin ⊢; omega
        · have hm2 : mj_qm π P g (n + 1) = some i := hm.trans (if_neg hv)
          refine Or.inr ⟨i, hm2, ?_, ?_⟩
          · rcases i2 with ⟨b1, b2⟩ | ⟨b1, b2⟩
            · refine Or.inl ⟨b1, (mj_qw_n (by rw [b2]; rintro ⟨-, z⟩; unfold mj_qb at z; omega)).trans b2⟩
            · refine Or.inr ⟨b1, (mj_qw_n (by rw [b2]; rintro ⟨-, z⟩; unfold mj_qb at z b1; omega)).trans b2⟩
          · intro h
            by_cases han : a = n
            · right
              unfold mj_qb
              rw [han]; omega
            · exact i3 (by omega)
    · have hm : mj_qm π P g (n + 1) = mj_qm π P g n := by rw [mj_qm, if_neg hP]
      have hw : mj_qw π P g a (n + 1) = mj_qw π P g a n := mj_qw_n (fun z => hP z.1)
      have hne : ¬ a = n := fun z => hP (z ▸ ha)
      rw [hm, hw]
      rcases ih with ⟨i1, i2, i3⟩ | ⟨i, i1, i2, i3⟩
      · exact Or.inl ⟨i1, i2, by omega⟩
      · exact Or.inr ⟨i, i1, i2, fun h => i3 (by omega)⟩
theorem mj_qw_eq {a : Nat} (ha : P a = nI g) (hC : a < C) : mj_qm π P g C = some (mj_qw π P g a C) := by
  rcases mj_qw_inv (π := π) ha C with ⟨-, -, h⟩ | ⟨i, i1, i2, i3⟩
  · omega
  · rw [i1]
    rcases i2 with ⟨-, b⟩ | ⟨b1, b⟩
    · rw [b]
    · rcases i3 hC with z | z
      · rw [b, z]
      · exact absurd z b1

/-- places, who refused, whether one asked -/
abbrev mj_Q3 : Type := (Nat → Int32) × (Nat → Int32) × Nat
noncomputable def mj_qs (π : Nat → Nat → Int32) (G C c : Nat) (q : mj_Q3) : mj_Q3 :=
  if q.1 c = -1 then
    if (mj_bw π c (q.2.1 c) G).1 = -1 then q
    else if nI (mj_hn (upd q.1 c (mj_bw π c (q.2.1 c) G).1) (mj_bw π c (q.2.1 c) G).1.toNatClampNeg C) ≤ π 2 (mj_bw π c (q.2.1 c) G).1.toNatClampNeg / nI 5 then (upd q.1 c (mj_bw π c (q.2.1 c) G).1, q.2.1, 1)
    else (upd (upd q.1 c (mj_bw π c (q.2.1 c) G).1) (mj_qw π (upd q.1 c (mj_bw π c (q.2.1 c) G).1) (mj_bw π c (q.2.1 c) G).1.toNatClampNeg c C) (-1),
      upd q.2.1 (mj_qw π (upd q.1 c (mj_bw π c (q.2.1 c) G).1) (mj_bw π c (q.2.1 c) G).1.toNatClampNeg c C) (q.2.1 (mj_qw π (upd q.1 c (mj_bw π c (q.2.1 c) G).1) (mj_bw π c (q.2.1 c) G).1.toNatClampNeg c C) ||| (nI 1 <<< ((mj_bw π c (q.2.1 c) G).1 &&& 31))), 1)
  else q
def mj_qi (G : Nat) (q : mj_Q3) : Prop := (∀ c, c < 6 → ∃ r, r < 256 ∧ q.2.1 c = nI r) ∧ ∀ c, c < 6 → q.1 c = -1 ∨ ∃ g, g < G ∧ q.1 c = nI g ∧ mj_bt (q.2.1 c) g = nI 0
theorem mj_qsP (h : mj_wf π G C) (hc : c < C) {q : mj_Q3} (hi : mj_qi G q) :
    (¬ q.1 c = -1 ∧ mj_qs π G C c q = q) ∨ (q.1 c = -1 ∧ (mj_bw π c (q.2.1 c) G).1 = -1 ∧ mj_qs π G C c q = q) ∨
    ∃ g, g < G ∧ q.1 c = -1 ∧ (mj_bw π c (q.2.1 c) G).1 = nI g ∧ mj_bt (q.2.1 c) g = nI 0 ∧
      ((nI (mj_hn (upd q.1 c (nI g)) g C) ≤ π 2 g / nI 5 ∧ mj_qs π G C c q = (upd q.1 c (nI g), q.2.1, 1)) ∨
       ∃ t r, t < C ∧ r < 256 ∧ t = mj_qw π (upd q.1 c (nI g)) g c C ∧ upd q.1 c (nI g) t = nI g ∧ q.2.1 t = nI r ∧ mj_bt (nI r) g = nI 0 ∧ ¬ nI (mj_hn (upd q.1 c (nI g)) g C) ≤ π 2 g / nI 5 ∧ mj_qs π G C c q = (upd (upd q.1 c (nI g)) t (-1), upd q.2.1 t (nI (r + 2 ^ g)), 1)) := by
  have hC6 := h.1.2.1
  have hG8 := h.1.1
  unfold mj_qs
  by_cases h1 : q.1 c = -1
  · rw [if_pos h1]
    rcases mj_bwP h (show c < 6 by omega) (r := q.2.1 c) G hG8 with e | ⟨g, hg, hb, e⟩
    · rw [e, if_pos rfl]
      exact Or.inr (Or.inl ⟨h1, rfl, rfl⟩)
    · right; right
      have hn := (mj_to_m1 (mj_to_n g) (by omega)).2
      have hb2 := (mj_bt_orP.mp hb).2
      rw [e, if_neg hn]
      simp only
      rw [nI_clamp (by omega)]
      refine ⟨g, hg, h1, rfl, hb2, ?_⟩
      by_cases h2 : nI (mj_hn (upd q.1 c (nI g)) g C) ≤ π 2 g / nI 5
      · rw [if_pos h2]
        exact Or.inl ⟨h2, rfl⟩
      · rw [if_neg h2]
        right
        have ha : upd q.1 c (nI g) c = nI g := by simp [upd]
        have ht := mj_qw_le (π := π) (P := upd q.1 c (nI g)) (g := g) hc C (Nat.le_refl C)
        have hP := mj_qw_P (π := π) ha C
        generalize mj_qw π (upd q.1 c (nI g)) g c C = t at ht hP ⊢
        obtain ⟨r, hr, er⟩ := hi.1 t (by omega)
        have hbt : mj_bt (nI r) g = nI 0 := by
          rw [← er]
          by_cases htc : t = c
          · rw [htc]; exact hb2
          · have hP2 : q.1 t = nI g := by simpa [upd, htc] using hP
            rcases hi.2 t (by omega) with z | ⟨g2, hg2, z, z2⟩
            · rw [z] at hP2; exact absurd hP2.symm hn
            · rw [z, nI_eq (by omega) (by omega)] at hP2
              rw [← hP2]; exact z2
        refine ⟨t, r, ht, hr, rfl, hP, er, hbt, h2, ?_⟩
        rw [er, (mj_rbP hr (by omega) hbt).1]
  · rw [if_neg h1]
    exact Or.inl ⟨h1, rfl⟩
theorem mj_qs_i (h : mj_wf π G C) (hc : c < C) {q : mj_Q3} (hi : mj_qi G q) : mj_qi G (mj_qs π G C c q) := by
  have hC6 := h.1.2.1
  have hG8 := h.1.1
  rcases mj_qsP h hc hi with ⟨-, e⟩ | ⟨-, -, e⟩ | ⟨g, hg, h1, h2, h3, ⟨-, e⟩ | ⟨t, r, ht, hr, -, hP, er, hb, -, e⟩⟩
  · rw [e]; exact hi
  · rw [e]; exact hi
  · rw [e]
    refine ⟨hi.1, fun k hk => ?_⟩
    by_cases hkc : k = c
    · subst hkc
      exact Or.inr ⟨g, hg, by simp [upd], h3⟩
    · have : upd q.1 c (nI g) k = q.1 k := by simp [upd, hkc]
      show upd q.1 c (nI g) k = -1 ∨ _
      rw [this]
      rcases hi.2 k hk with z | ⟨g2, z1, z2, z3⟩
      · exact Or.inl z
      · exact Or.inr ⟨g2, z1, this.trans z2, z3⟩
  · rw [e]
    obtain ⟨-, -, r2, -⟩ := mj_rbP hr (show g < 8 by omega) hb
    refine ⟨fun k hk => ?_, fun k hk => ?_⟩
    · show ∃ r', r' < 256 ∧ upd q.2.1 t (nI (r + 2 ^ g)) k = nI r'
      by_cases hkt : k = t
      · exact ⟨r + 2 ^ g, r2, by simp [upd, hkt]⟩
      · obtain ⟨r', z1, z2⟩ := hi.1 k hk
        exact ⟨r', z1, by simpa [upd, hkt] using z2⟩
    · show upd (upd q.1 c (nI g)) t (-1) k = -1 ∨ ∃ g', g' < G ∧ upd (upd q.1 c (nI g)) t (-1) k = nI g' ∧ mj_bt (upd q.2.1 t (nI (r + 2 ^ g)) k) g' = nI 0
      by_cases hkt : k = t
      · exact Or.inl (by simp [upd, hkt])
      · have e1 : upd (upd q.1 c (nI g)) t (-1) k = upd q.1 c (nI g) k := by simp [upd, hkt]
        have e2 : upd q.2.1 t (nI (r + 2 ^ g)) k = q.2.1 k := by simp [upd, hkt]
        rw [e1, e2]
        by_cases hkc : k = c
        · subst hkc
          exact Or.inr ⟨g, hg, by simp [upd], h3⟩
        · have : upd q.1 c (nI g) k = q.1 k := by simp [upd, hkc]
          rw [this]
          exact hi.2 k hk

/-- how many pairs have been asked -/
def mj_ns (f : Nat → Nat) : Nat → Nat
  | 0 => 0
  | n + 1 => mj_ns f n + f n
theorem mj_ns_ext {f f' : Nat → Nat} : ∀ n, (∀ i, i < n → f' i = f i) → mj_ns f' n = mj_ns f n := by
  intro n
  induction n with
  | zero => intro _; rfl
  | succ n ih =>
    intro h
    rw [mj_ns, mj_ns, ih (fun i hi => h i (by omega)), h n (by omega)]
theorem mj_ns_add {f f' : Nat → Nat} {j : Nat} (hj : f' j = f j + 1) : ∀ n, j < n → (∀ i, i < n → ¬ i = j → f' i = f i) → mj_ns f' n = mj_ns f n + 1 := by
  intro n
  induction n with
  | zero => intro h; omega
  | succ n ih =>
    intro h h2
    rw [mj_ns, mj_ns]
    by_cases hn : j = n
    · subst hn
      rw [mj_ns_ext j (fun i hi => h2 i (by omega) (by omega)), hj]
      omega
    · rw [ih (by omega) (fun i hi => h2 i (by omega)), h2 n (by omega) (fun z => hn z.symm)]
      omega
theorem mj_ns_le {f : Nat → Nat} {b : Nat} : ∀ n, (∀ i, i < n → f i ≤ b) → mj_ns f n ≤ b * n := by
  intro n
  induction n with
  | zero => intro _; exact Nat.le_refl _
  | succ n ih =>
    intro h
    rw [mj_ns, Nat.mul_succ]
    exact Nat.add_le_add (ih (fun i hi => h i (by omega))) (h n (by omega))
noncomputable def mj_qc (p r : Int32) (g : Nat) : Nat := by classical exact if mj_bt r g = nI 1 ∨ p = nI g then 1 else 0
theorem mj_qc_1 {p r : Int32} (h : mj_bt r g = nI 1 ∨ p = nI g) : mj_qc p r g = 1 := by unfold mj_qc; exact if_pos h
theorem mj_qc_0 {p r : Int32} (h : ¬ (mj_bt r g = nI 1 ∨ p = nI g)) : mj_qc p r g = 0 := by unfold mj_qc; exact if_neg h
theorem mj_qc_le {p r : Int32} : mj_qc p r g ≤ 1 := by
  by_cases h : mj_bt r g = nI 1 ∨ p = nI g
  · rw [mj_qc_1 h]; exact Nat.le_refl 1
  · rw [mj_qc_0 h]; decide
theorem mj_qc_if {p r p' r' : Int32} (h : (mj_bt r' g = nI 1 ∨ p' = nI g) ↔ (mj_bt r g = nI 1 ∨ p = nI g)) : mj_qc p' r' g = mj_qc p r g := by
  by_cases q : mj_bt r g = nI 1 ∨ p = nI g
  · rw [mj_qc_1 q, mj_qc_1 (h.mpr q)]
  · rw [mj_qc_0 q, mj_qc_0 (fun z => q (h.mp z))]
noncomputable def mj_qk (q : mj_Q3) : Nat := mj_ns (fun c => mj_ns (mj_qc (q.1 c) (q.2.1 c)) 8) 6
theorem mj_qk_le {q : mj_Q3} : mj_qk q ≤ 48 := mj_ns_le 6 (fun c _ => mj_ns_le (b := 1) 8 (fun g _ => mj_qc_le))
theorem mj_m1n {k : Nat} (hk : k < 1000) : ¬ (-1 : Int32) = nI k := fun e => (mj_to_m1 (mj_to_n k) (by omega)).2 e.symm
theorem mj_qs_k (h : mj_wf π G C) (hc : c < C) {q : mj_Q3} (hi : mj_qi G q) : ((mj_qs π G C c q).2.2 = q.2.2 ∧ mj_qk (mj_qs π G C c q) = mj_qk q) ∨ ((mj_qs π G C c q).2.2 = 1 ∧ mj_qk (mj_qs π G C c q) = mj_qk q + 1) := by
  have hC6 := h.1.2.1
  have hG8 := h.1.1
  rcases mj_qsP h hc hi with ⟨-, e⟩ | ⟨-, -, e⟩ | ⟨g, hg, h1, h2, h3, ⟨-, e⟩ | ⟨t, r, ht, hr, -, hP, er, hb, -, e⟩⟩
  · rw [e]; exact Or.inl ⟨rfl, rfl⟩
  · rw [e]; exact Or.inl ⟨rfl, rfl⟩
  · rw [e]
    refine Or.inr ⟨rfl, mj_ns_add (j := c) ?_ 6 (by omega) (fun i hi hne => ?_)⟩
    · show mj_ns (mj_qc (upd q.1 c (nI g) c) (q.2.1 c)) 8 = mj_ns (mj_qc (q.1 c) (q.2.1 c)) 8 + 1
      have e1 : upd q.1 c (nI g) c = nI g := by simp [upd]
      rw [e1, h1]
      refine mj_ns_add (j := g) ?_ 8 (by omega) (fun k hk hne => mj_qc_if ?_)
      · rw [mj_qc_1 (Or.inr rfl), mj_qc_0]
        rintro (z | z)
        · rw [h3] at z; exact absurd z (by decide)
        · exact mj_m1n (by omega) z
      · constructor
        · rintro (z | z)
          · exact Or.inl z
          · rw [nI_eq (by omega) (by omega)] at z; exact absurd z.symm hne
        · rintro (z | z)
          · exact Or.inl z
          · exact absurd z (mj_m1n (by omega))
    · show mj_ns (mj_qc (upd q.1 c (nI g) i) (q.2.1 i)) 8 = _
      rw [show upd q.1 c (nI g) i = q.1 i by simp [upd, hne]]
  · rw [e]
    obtain ⟨-, -, -, r3⟩ := mj_rbP hr (show g < 8 by omega) hb
    have one : ∀ k, k < 8 → ((mj_bt (nI (r + 2 ^ g)) k = nI 1) ↔ (mj_bt (nI r) k = nI 1 ∨ k = g)) := by
      intro k hk
      rw [r3 k hk]
      by_cases hkg : k = g
      · rw [if_pos hkg]; exact ⟨fun _ => Or.inr hkg, fun _ => rfl⟩
      · rw [if_neg hkg]; exact ⟨Or.inl, fun z => z.elim id (fun z => absurd z hkg)⟩
    refine Or.inr ⟨rfl, mj_ns_add (j := c) ?_ 6 (by omega) (fun i hi6 hne => ?_)⟩
    · show mj_ns (mj_qc (upd (upd q.1 c (nI g)) t (-1) c) (upd q.2.1 t (nI (r + 2 ^ g)) c)) 8 = mj_ns (mj_qc (q.1 c) (q.2.1 c)) 8 + 1
      rw [h1]
      by_cases htc : c = t
      · subst htc
        rw [show upd (upd q.1 c (nI g)) c (-1) c = -1 by simp [upd], show upd q.2.1 c (nI (r + 2 ^ g)) c = nI (r + 2 ^ g) by simp [upd], er]
        refine mj_ns_add (j := g) ?_ 8 (by omega) (fun k hk hne => mj_qc_if ?_)
        · rw [mj_qc_1 (Or.inl ((one g (by omega)).mpr (Or.inr rfl))), mj_qc_0]
          rintro (z | z)
          · rw [hb] at z; exact absurd z (by decide)
          · exact mj_m1n (by omega) z
        · rw [one k hk]
          constructor
          · rintro ((z | z) | z)
            · exact Or.inl z
            · exact absurd z hne
            · exact Or.inr z
          · rintro (z | z)
            · exact Or.inl (Or.inl z)
            · exact Or.inr z
      · rw [show upd (upd q.1 c (nI g)) t (-1) c = nI g by simp [upd, htc], show upd q.2.1 t (nI (r + 2 ^ g)) c = q.2.1 c by simp [upd, htc]]
        refine mj_ns_add (j := g) ?_ 8 (by omega) (fun k hk hne => mj_qc_if ?_)
        · rw [mj_qc_1 (Or.inr rfl), mj_qc_0]
          rintro (z | z)
          · rw [h3] at z; exact absurd z (by decide)
          · exact mj_m1n (by omega) z
        · constructor
          · rintro (z | z)
            · exact Or.inl z
            · rw [nI_eq (by omega) (by omega)] at z; exact absurd z.symm hne
          · rintro (z | z)
            · exact Or.inl z
            · exact absurd z (mj_m1n (by omega))
    · show mj_ns (mj_qc (upd (upd q.1 c (nI g)) t (-1) i) (upd q.2.1 t (nI (r + 2 ^ g)) i)) 8 = mj_ns (mj_qc (q.1 i) (q.2.1 i)) 8
      by_cases hit : i = t
      · subst hit
        have hP2 : q.1 i = nI g := by simpa [upd, hne] using hP
        rw [show upd (upd q.1 c (nI g)) i (-1) i = -1 by simp [upd], show upd q.2.1 i (nI (r + 2 ^ g)) i = nI (r + 2 ^ g) by simp [upd], er, hP2]
        refine mj_ns_ext 8 (fun k hk => mj_qc_if ?_)
        rw [one k hk]
        constructor
        · rintro ((z | z) | z)
          · exact Or.inl z
          · exact Or.inr (by rw [z])
          · exact absurd z (mj_m1n (by omega))
        · rintro (z | z)
          · exact Or.inl (Or.inl z)
          · rw [nI_eq (by omega) (by omega)] at z; exact Or.inl (Or.inr z.symm)
      · rw [show upd (upd q.1 c (nI g)) t (-1) i = q.1 i by simp [upd, hit, hne], show upd q.2.1 t (nI (r + 2 ^ g)) i = q.2.1 i by simp [upd, hit]]
/-- a round; rounds -/
noncomputable def mj_qr (π : Nat → Nat → Int32) (G C : Nat) : Nat → Nat → mj_Q3 → mj_Q3
  | 0, _, q => q
  | n + 1, c, q => mj_qr π G C n (c + 1) (mj_qs π G C c q)
theorem mj_qr_P (h : mj_wf π G C) : ∀ n c (q : mj_Q3), c + n = C → mj_qi G q → mj_qi G (mj_qr π G C n c q) ∧ (((mj_qr π G C n c q).2.2 = q.2.2 ∧ mj_qk (mj_qr π G C n c q) = mj_qk q) ∨ ((mj_qr π G C n c q).2.2 = 1 ∧ mj_qk q + 1 ≤ mj_qk (mj_qr π G C n c q))) := by
  intro n
  induction n with
  | zero => intro c q _ hi; exact ⟨hi, Or.inl ⟨rfl, rfl⟩⟩
  | succ n ih =>
    intro c q hc hi
    obtain ⟨a, b⟩ := ih (c + 1) _ (by omega) (mj_qs_i h (show c < C by omega) hi)
    refine ⟨a, ?_⟩
    rw [mj_qr]
    rcases mj_qs_k h (show c < C by omega) hi with ⟨k1, k2⟩ | ⟨k1, k2⟩
    · rcases b with ⟨b1, b2⟩ | ⟨b1, b2⟩
      · exact Or.inl ⟨b1.trans k1, b2.trans k2⟩
      · exact Or.inr ⟨b1, by omega⟩
    · rcases b with ⟨b1, b2⟩ | ⟨b1, b2⟩
      · exact Or.inr ⟨b1.trans k1, by omega⟩
      · exact Or.inr ⟨b1, by omega⟩
noncomputable def mj_qp (π : Nat → Nat → Int32) (G C : Nat) : Nat → mj_Q3 → mj_Q3
  | 0, q => q
  | n + 1, q => if (mj_qr π G C C 0 (q.1, q.2.1, 0)).2.2 = 0 then mj_qr π G C C 0 (q.1, q.2.1, 0) else mj_qp π G C n (mj_qr π G C C 0 (q.1, q.2.1, 0))
end

