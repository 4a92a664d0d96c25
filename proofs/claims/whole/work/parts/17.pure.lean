/-! PURE: bounds; CHOOSING's fold; writing a parish back -/
theorem mj_to_add {x y : Int32} {a b : Nat} (hx : mj_to x a) (hy : mj_to y b) : mj_to (x + y) (a + b) := by
  obtain ⟨i, hi, rfl⟩ := hx
  obtain ⟨j, hj, rfl⟩ := hy
  exact ⟨i + j, by omega, nI_add i j⟩
theorem mj_to_mul {x y : Int32} {a b : Nat} (hx : mj_to x a) (hy : mj_to y b) : mj_to (x * y) (a * b) := by
  obtain ⟨i, hi, rfl⟩ := hx
  obtain ⟨j, hj, rfl⟩ := hy
  exact ⟨i * j, Nat.mul_le_mul hi hj, pk_mul i j⟩
theorem mj_to_div {x : Int32} {a d : Nat} (hx : mj_to x a) (ha : a < 2 ^ 31) (h0 : 0 < d) (hd : d < 2 ^ 31) : mj_to (x / nI d) (a / d) := by
  obtain ⟨i, hi, rfl⟩ := hx
  exact ⟨i / d, Nat.div_le_div_right hi, pk_div (by omega) h0 hd⟩
theorem mj_to_le {x : Int32} {a b : Nat} (hx : mj_to x a) (h : a ≤ b) : mj_to x b := by
  obtain ⟨i, hi, e⟩ := hx
  exact ⟨i, by omega, e⟩
theorem mj_to_n (n : Nat) : mj_to (nI n) n := ⟨n, Nat.le_refl n, rfl⟩
theorem mj_to_mx {x y : Int32} {a b : Nat} (hx : mj_to x a) (hy : mj_to y b) (ha : a < 2 ^ 30) (hb : b < 2 ^ 30) : mj_to (if nI 0 < x - y then x - y else nI 0) a := by
  obtain ⟨i, hi, rfl⟩ := hx
  obtain ⟨j, hj, rfl⟩ := hy
  by_cases h : j ≤ i
  · rw [pk_sub h]
    split
    · exact ⟨i - j, by omega, rfl⟩
    · exact ⟨0, by omega, rfl⟩
  · have h2 := pk_sneg (a := i) (b := j) (by omega) (by omega)
    rw [if_neg (fun z => by
      rw [Int32.lt_iff_toInt_lt] at z h2
      rw [show (nI 0).toInt = 0 from rfl] at z
      rw [Int32.toInt_zero] at h2
      omega)]
    exact ⟨0, by omega, rfl⟩
theorem mj_to_lt {x : Int32} {a : Nat} (hx : mj_to x a) (ha : a < 2 ^ 31) : ¬ x < 0 := by
  obtain ⟨i, hi, rfl⟩ := hx
  exact nI_pos (by omega)
theorem mj_to_m1 {x : Int32} {a : Nat} (hx : mj_to x a) (ha : a < 2 ^ 31) : ¬ x ≤ -1 ∧ ¬ x = -1 := by
  obtain ⟨i, hi, rfl⟩ := hx
  have h := nI_toInt (n := i) (by omega)
  refine ⟨fun z => ?_, fun z => ?_⟩
  · rw [Int32.le_iff_toInt_le, h, show (-1 : Int32).toInt = -1 from rfl] at z; omega
  · rw [z, show (-1 : Int32).toInt = -1 from rfl] at h; omega
theorem mj_pull_to {π : Nat → Nat → Int32} {G C c g : Nat} (h : mj_wf π G C) (hc : c < 6) (hg : g < 8) {l : Int32} (hl : mj_to l 99) : mj_to (mj_pull π c g l) 400 := by
  obtain ⟨k0, k1, k2, k3, k4⟩ := h.2.1 g hg
  obtain ⟨t5, t6, t7, t8⟩ := h.2.2.1 c hc
  have hf := h.1.2.2.2.2
  have plain : mj_to (l + π 3 g * π 5 c) 180 := mj_to_add hl (mj_to_mul k3 t5)
  have st : mj_to (if π 6 c < π 5 c then nI 3 * π 1 g else nI 0) 27 := by
    split
    · exact mj_to_mul (mj_to_n 3) k1
    · exact mj_to_le (mj_to_n 0) (by omega)
  have gr : mj_to (if nI 0 < l + π 3 g * π 5 c + π 1 g + π 2 g / nI 3 - nI 2 * π 4 g then l + π 3 g * π 5 c + π 1 g + π 2 g / nI 3 - nI 2 * π 4 g else nI 0) 209 :=
    mj_to_mx (mj_to_add (mj_to_add plain k1) (mj_to_div (d := 3) k2 (by decide) (by decide) (by decide))) (mj_to_mul (mj_to_n 2) k4) (by decide) (by decide)
  unfold mj_pull
  split
  · exact mj_to_le (mj_to_add plain k1) (by decide)
  · split
    · exact mj_to_le (mj_to_add plain st) (by decide)
    · split
      · exact mj_to_le gr (by decide)
      · split
        · exact mj_to_le (mj_to_add hl t7) (by decide)
        · split
          · exact mj_to_le (mj_to_add (mj_to_add plain st) (mj_to_mul hf k1)) (by decide)
          · split
            · split
              · exact mj_to_le (mj_to_n 0) (by decide)
              · exact mj_to_le gr (by decide)
            · exact mj_to_le plain (by decide)
theorem mj_pull_to9 {π : Nat → Nat → Int32} {G C c g : Nat} (h : mj_wf π G C) (hc : c < 6) (hg : g < 8) : mj_to (mj_pull π c g (π 9 (8 * c + g))) 400 := mj_pull_to h hc hg (h.2.2.2.1 _ (by omega))
theorem mj_bt_ne {m : Int32} {g : Nat} : ¬ mj_bt m g = nI 1 ↔ mj_bt m g = nI 0 := by
  rcases mj_bt01 m g with h | h
  · rw [h]; exact ⟨fun _ => rfl, fun _ z => absurd z (by decide)⟩
  · rw [h]; exact ⟨fun z => absurd rfl z, fun z => absurd z (by decide)⟩
/-- what the fold knows of its own -/
def mj_fi (π : Nat → Nat → Int32) (c n : Nat) (s : mj_Q6) : Prop :=
  ((s.1 = -1 ∧ s.2.1 = -1 ∧ s.2.2.2.2.1 = -1 ∧ ∀ g, g < n → mj_bt (π 8 c) g = nI 0) ∨ ((∃ k, k < n ∧ s.1 = nI k ∧ mj_bt (π 8 c) k = nI 1) ∧ (∃ k, k < n ∧ s.2.1 = nI k ∧ mj_bt (π 8 c) k = nI 1) ∧ mj_to s.2.2.2.2.1 400)) ∧
  ((s.2.2.1 = -1 ∧ s.2.2.2.2.2 = -1 ∧ ∀ g, g < n → mj_bt (π 8 c) g = nI 1) ∨ ((∃ k, k < n ∧ s.2.2.1 = nI k ∧ mj_bt (π 8 c) k = nI 0) ∧ mj_to s.2.2.2.2.2 400))
theorem mj_fi_step {π : Nat → Nat → Int32} {G C c n : Nat} (h : mj_wf π G C) (hc : c < 6) (hn : n < 8) {s : mj_Q6} (hs : mj_fi π c n s) : mj_fi π c (n + 1) (mj_wst π c n s) := by
  obtain ⟨d, kp, t, le, mo, oo⟩ := s
  have hp := mj_pull_to9 h hc hn
  have hm := mj_to_m1 hp (by decide)
  unfold mj_wst
  generalize mj_pull π c n (π 9 (8 * c + n)) = pl at hp hm
  obtain ⟨ha, hb⟩ := hs
  dsimp only at ha hb ⊢
  by_cases ho : mj_bt (π 8 c) n = nI 1
  · rw [if_pos ho]
    refine ⟨Or.inr ?_, ?_⟩
    · dsimp only
      rcases ha with ⟨rfl, rfl, rfl, h0⟩ | ⟨⟨k, k1, k2, k3⟩, ⟨j, j1, j2, j3⟩, h4⟩
      · rw [if_pos rfl, if_neg hm.1, if_neg hm.1]
        exact ⟨⟨n, by omega, rfl, ho⟩, ⟨n, by omega, rfl, ho⟩, hp⟩
      · refine ⟨?_, ?_, ?_⟩
        · split
          · exact ⟨n, by omega, rfl, ho⟩
          · split
            · exact ⟨k, by omega, k2, k3⟩
            · exact ⟨n, by omega, rfl, ho⟩
        · split
          · exact ⟨j, by omega, j2, j3⟩
          · exact ⟨n, by omega, rfl, ho⟩
        · split
          · exact h4
          · exact hp
    · dsimp only
      rcases hb with ⟨rfl, rfl, h0⟩ | ⟨⟨k, k1, k2, k3⟩, h4⟩
      · refine Or.inl ⟨rfl, rfl, fun g hg => ?_⟩
        rcases (show g < n ∨ g = n by omega) with z | rfl
        · exact h0 g z
        · exact ho
      · exact Or.inr ⟨⟨k, by omega, k2, k3⟩, h4⟩
  · rw [if_neg ho]
    have ho0 := mj_bt_ne.mp ho
    refine ⟨?_, Or.inr ?_⟩
    · dsimp only
      rcases ha with ⟨rfl, rfl, rfl, h0⟩ | ⟨⟨k, k1, k2, k3⟩, ⟨j, j1, j2, j3⟩, h4⟩
      · refine Or.inl ⟨rfl, rfl, rfl, fun g hg => ?_⟩
        rcases (show g < n ∨ g = n by omega) with z | rfl
        · exact h0 g z
        · exact ho0
      · exact Or.inr ⟨⟨k, by omega, k2, k3⟩, ⟨j, by omega, j2, j3⟩, h4⟩
    · dsimp only
      rcases hb with ⟨rfl, rfl, h0⟩ | ⟨⟨k, k1, k2, k3⟩, h4⟩
      · rw [if_neg hm.1, if_neg hm.1]
        exact ⟨⟨n, by omega, rfl, ho0⟩, hp⟩
      · refine ⟨?_, ?_⟩
        · split
          · exact ⟨k, by omega, k2, k3⟩
          · exact ⟨n, by omega, rfl, ho0⟩
        · split
          · exact h4
          · exact hp
theorem mj_fi_all {π : Nat → Nat → Int32} {G C c : Nat} (h : mj_wf π G C) (hc : c < 6) : ∀ n, n ≤ 8 → mj_fi π c n (mj_wfo π c n) := by
  intro n
  induction n with
  | zero => intro _; exact ⟨Or.inl ⟨rfl, rfl, rfl, fun g hg => absurd hg (by omega)⟩, Or.inl ⟨rfl, rfl, fun g hg => absurd hg (by omega)⟩⟩
  | succ n ih => intro hn; exact mj_fi_step h hc (by omega) (ih (by omega))
/-- a child's choice: whom it keeps; and gives up and takes, or neither -/
theorem mj_choice {π : Nat → Nat → Int32} {G C c : Nat} (h : mj_wf π G C) (hc : c < C) : (∃ k, k < G ∧ mj_kp π G c = nI k ∧ mj_bt (π 8 c) k = nI 1) ∧
    ((mj_gv π G c = -1 ∧ mj_tk π G c = -1 ∧ mj_th π G c = π 8 c) ∨ ∃ d t, d < G ∧ t < G ∧ mj_gv π G c = nI d ∧ mj_tk π G c = nI t ∧ mj_bt (π 8 c) d = nI 1 ∧ mj_bt (π 8 c) t = nI 0 ∧ mj_th π G c = (π 8 c ^^^ (nI 1 <<< (nI d &&& 31))) ||| (nI 1 <<< (nI t &&& 31))) := by
  have hC := h.1.2.1
  have hG := h.1.1
  obtain ⟨ha, hb⟩ := mj_fi_all h (show c < 6 by omega) G hG
  obtain ⟨g, hg, hbt⟩ := h.2.2.2.2.1 c hc
  unfold mj_kp mj_gv mj_tk mj_th mj_sgv mj_sth
  generalize mj_wfo π c G = s at ha hb
  rcases ha with ⟨-, -, -, h0⟩ | ⟨⟨d, d1, d2, d3⟩, ⟨k, k1, k2, k3⟩, -⟩
  · rw [h0 g hg] at hbt; exact absurd hbt (by decide)
  · refine ⟨⟨k, k1, k2, k3⟩, ?_⟩
    rcases hb with ⟨t1, -, -⟩ | ⟨⟨t, t1, t2, t3⟩, -⟩
    · rw [if_pos t1, if_pos t1]; exact Or.inl ⟨rfl, t1, rfl⟩
    · have n1 : ∀ k, k < 8 → ¬ nI k = -1 := fun k hk => (mj_to_m1 (mj_to_n k) (by omega)).2
      rw [t2, d2, if_neg (n1 t (by omega)), if_neg (n1 d (by omega)), if_neg (n1 t (by omega)), if_neg (n1 d (by omega))]
      exact Or.inr ⟨d, t, d1, t1, rfl, rfl, d3, t3, rfl⟩
