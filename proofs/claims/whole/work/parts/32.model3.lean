/-! THE MODEL: by whom, CHARGE then -/
def mj_mny (x : Int32) : Int32 := mj_sum (fun k => mj_bt x k) 8
def mj_byM (π : Nat → Nat → Int32) (G g w : Nat) : Nat → Int32
  | 0 => nI 0
  | n + 1 => if mj_wh π G n w = nI g then mj_byM π G g w n + (nI 1 <<< (nI n &&& 31)) else mj_byM π G g w n
def mj_cnt (π : Nat → Nat → Int32) (G g w : Nat) : Nat → Nat
  | 0 => 0
  | n + 1 => mj_cnt π G g w n + (if mj_wh π G n w = nI g then 1 else 0)
set_option maxRecDepth 100000 in
theorem mj_or_chk : (List.range 6).all (fun n => (List.range (2 ^ n)).all (fun k => decide (nI k ||| (nI 1 <<< (nI n &&& 31)) = nI (k + 2 ^ n)) && decide (nI k + (nI 1 <<< (nI n &&& 31)) = nI (k + 2 ^ n)) && decide (mj_mny (nI (k + 2 ^ n)) = mj_mny (nI k) + nI 1))) = true := by decide +kernel
set_option maxRecDepth 100000 in
theorem mj_bcn_chk : (List.range 64).all (fun k => decide (mj_bcn (nI k) = mj_mny (nI k))) = true := by decide +kernel
theorem mj_or0 (x : Int32) : x ||| nI 0 = x := by
  rw [nI_0]; exact Int32.or_zero
theorem mj_by_eq {π : Nat → Nat → Int32} {G g w : Nat} : ∀ n, n ≤ 6 → ∃ k, k < 2 ^ n ∧ mj_by π G g w n = nI k ∧ mj_byM π G g w n = nI k ∧ mj_mny (nI k) = nI (mj_cnt π G g w n) ∧ mj_bcn (nI k) = mj_mny (nI k) := by
  intro n
  induction n with
  | zero => intro _; exact ⟨0, by decide, rfl, rfl, (by decide +kernel : mj_mny (nI 0) = nI 0), by decide +kernel⟩
  | succ n ih =>
    intro hn
    obtain ⟨k, hk, e1, e2, e3, e4⟩ := ih (by omega)
    rw [mj_by, mj_byM, mj_cnt]
    have h64 : 2 ^ (n + 1) ≤ 64 := by
      rcases (show n = 0 ∨ n = 1 ∨ n = 2 ∨ n = 3 ∨ n = 4 ∨ n = 5 by omega) with rfl | rfl | rfl | rfl | rfl | rfl <;> decide
    have hp : 2 ^ (n + 1) = 2 ^ n + 2 ^ n := by rw [Nat.pow_succ]; omega
    by_cases h : mj_wh π G n w = nI g
    · rw [if_pos h, if_pos h, if_pos h, e1, e2]
      have q := List.all_eq_true.mp (List.all_eq_true.mp mj_or_chk n (List.mem_range.mpr (by omega))) k (List.mem_range.mpr hk)
      simp only [Bool.and_eq_true, decide_eq_true_eq] at q
      refine ⟨k + 2 ^ n, by omega, q.1.1, q.1.2, by rw [q.2, e3, nI_add], ?_⟩
      exact of_decide_eq_true (List.all_eq_true.mp mj_bcn_chk (k + 2 ^ n) (List.mem_range.mpr (by omega)))
    · rw [if_neg h, if_neg h, if_neg h, mj_or0]
      exact ⟨k, by omega, e1, e2, e3, e4⟩
theorem mj_ct_eq {π : Nat → Nat → Int32} {G C g : Nat} (h : mj_wf π G C) (hg : g < 8) : ∀ n, n ≤ C → ∃ A B D, mj_cg π g n = nI A ∧ mj_ct π G g n = nI D ∧ mj_cnt π G g 0 n + B = A ∧ A + mj_cnt π G g 2 n = D + mj_cnt π G g 0 n ∧ A ≤ n ∧ D ≤ 2 * n := by
  intro n
  have hC := h.1.2.1
  have hG := h.1.1
  induction n with
  | zero => intro _; exact ⟨0, 0, 0, rfl, rfl, rfl, rfl, Nat.le_refl _, Nat.le_refl _⟩
  | succ n ih =>
    intro hn
    obtain ⟨A, B, D, e1, e2, e3, e4, e5, e6⟩ := ih (by omega)
    rw [mj_cg, mj_ct, mj_cnt, mj_cnt, e1, e2]
    have w0 : mj_wh π G n 0 = mj_gv π G n := rfl
    have w2 : mj_wh π G n 2 = mj_tk π G n := rfl
    rw [w0, w2]
    have bt : ∀ x : Int32, (∃ b, b ≤ 1 ∧ mj_bt x g = nI b) := fun x => (mj_bt01 x g).elim (fun q => ⟨0, by decide, q⟩) (fun q => ⟨1, by decide, q⟩)
    have ng : ¬ (-1 : Int32) = nI g := fun z => (mj_to_m1 (mj_to_n g) (by omega)).2 z.symm
    rcases (mj_choice h (show n < C by omega)).2 with ⟨q1, q2, q3⟩ | ⟨d, t, hd, ht, q1, q2, b1, b2, q3⟩
    · rw [q1, q2, q3, if_neg ng]
      obtain ⟨b, hb, eb⟩ := bt (π 8 n)
      rw [eb, nI_add, nI_add]
      exact ⟨A + b, B + b, D + b, rfl, rfl, by omega, by omega, by omega, by omega⟩
    · obtain ⟨m, hm, e8⟩ := (h.2.2.1 n (by omega)).2.2.2
      rw [q1, q2, q3, e8]
      rw [e8] at b1 b2
      obtain ⟨-, -, -, m4⟩ := mj_mkP (by omega) (by omega) (by omega) b1 b2
      have m4 := m4 g hg
      unfold mj_mk at m4
      rw [m4]
      have hdt : d ≠ t := fun z => by rw [z, b2] at b1; exact absurd b1 (by decide)
      have nd : (nI d = nI g) = (d = g) := mj_nIeq (by omega) (by omega)
      have nt : (nI t = nI g) = (t = g) := mj_nIeq (by omega) (by omega)
      simp only [nd, nt]
      by_cases gt : g = t
      · subst gt
        rw [b2, if_pos rfl, if_neg hdt, if_pos rfl, nI_add, nI_add]
        exact ⟨A + 0, B, D + 1, rfl, rfl, by omega, by omega, by omega, by omega⟩
      · by_cases gd : g = d
        · subst gd
          rw [b1, if_neg gt, if_pos rfl, if_pos rfl, if_neg (fun z => gt z.symm), nI_add, nI_add]
          exact ⟨A + 1, B, D + 0, rfl, rfl, by omega, by omega, by omega, by omega⟩
        · rw [if_neg gt, if_neg gd, if_neg (fun z => gd z.symm), if_neg (fun z => gt z.symm)]
          obtain ⟨b, hb, eb⟩ := bt (nI m)
          rw [eb, nI_add, nI_add]
          exact ⟨A + b, B + b, D + b, rfl, rfl, by omega, by omega, by omega, by omega⟩
/-- CHARGE then, told both ways -/
theorem mj_ct_m {π : Nat → Nat → Int32} {G C g : Nat} (h : mj_wf π G C) (hg : g < 8) : mj_cg π g C - mj_mny (mj_byM π G g 0 C) + mj_mny (mj_byM π G g 2 C) = mj_ct π G g C := by
  have hC := h.1.2.1
  obtain ⟨A, B, D, e1, e2, e3, e4, e5, e6⟩ := mj_ct_eq h hg C (Nat.le_refl C)
  obtain ⟨k0, -, -, f0, g0, -⟩ := mj_by_eq (π := π) (G := G) (g := g) (w := 0) C hC
  obtain ⟨k2, -, -, f2, g2, -⟩ := mj_by_eq (π := π) (G := G) (g := g) (w := 2) C hC
  rw [e1, e2, f0, f2, g0, g2, pk_sub (by omega), nI_add]
  exact congrArg nI (by omega)
section
variable {σ : mj_S} {τ : mj_T} {c g G C : Nat} {π : Nat → Nat → Int32}
theorem s_X8_many {x : Int32} : mj_C 162 [.ref 62, .int x] σ τ = some (some (.int (mj_mny x)), σ, τ) := by
  have loop : ∀ n i, i + n = 8 → mj_E 162 4 [some (.ref 62), some (.int x), some (.int (mj_sum (fun k => mj_bt x k) i)), some (.int (nI i))] [] σ τ = some (some (.int (mj_mny x)), σ, τ) := by
    intro n
    induction n with
    | zero =>
      intro i hi
      obtain rfl : i = 8 := by omega
      simp (maxSteps := 1000000) (disch := first | assumption | omega) only [c162, ↓e162_0, ↓e162_1, ↓e162_2, ↓e162_3, ↓e162_4, ↓e162_5, ↓e162_7, ↓e162_10, ↓e162_11, ↓e162_12, ↓e162_13, ↓e162_14, ↓e162_15, ↓e162_16, ↓e162_17, ↓e162_18, ↓e162_21, ↓e162_24, ↓e162_25, li_p0, li_p1, li_p2, li_p3, li_p4, li_p5, li_p6, li_p7, li_p8, li_p9, li_10, li_11, li_12, li_13, li_14, li_15, li_16, li_17, li_18, li_19, li_20, li_21, li_22, li_23, li_24, li_25, li_26, li_27, li_28, li_29, li_30, li_31, li_32, li_33, li_34, li_35, li_36, li_37, li_38, li_39, li_56, li_57, li_58, li_60, li_61, li_63, li_64, li_65, li_66, li_67, li_68, li_69, li_70, li_71, li_72, li_73, li_74, li_75, li_76, li_77, li_80, li_81, li_82, li_83, li_84, li_85, li_86, li_87, li_88, li_89, li_90, li_91, li_92, lw_q0, lw_q1, lw_q2, lw_q3, lw_q4, lw_q5, lw_q6, lw_q7, lw_q8, lw_q9, lw_10, lw_11, lw_12, lw_13, lw_14, lw_15, lw_16, lw_17, lw_18, lw_19, lw_20, lw_21, lw_22, lw_23, lw_24, lw_25, lw_26, lw_27, lw_28, lw_29, lw_30, lw_31, lw_32, lw_33, lw_34, lw_35, lw_36, lw_37, lw_38, lw_39, lw_56, lw_57, lw_58, lw_60, lw_61, lw_63, lw_64, lw_65, lw_66, lw_67, lw_68, lw_69, lw_70, lw_71, lw_72, lw_73, lw_74, lw_75, lw_76, lw_77, lw_80, lw_81, lw_82, lw_83, lw_84, lw_85, lw_86, lw_87, lw_88, lw_89, ll_78, ll_79, ll_s, rc6, rc2, rc3, rc5, rc7, rc1, rc0, rc4, rcs_0, rcs_1, rcs_2, rcs_3, rcs_4, mj_ib_nI, ↓reduceIte, mj_bdK, mj_ls, mj_ln, nI_clamp, nI_add, pk_mul, mj_nIeq0, mj_nIlt0, mj_nIle0, mj_nIeq, mj_nIle, mj_nIlt, mj_ok0, mj_ok1, mj_okb, mj_b0, mj_bR, mj_bR2, Nat.reduceEqDiff, Nat.le_refl]
      rfl
    | succ n ih =>
      intro i hi
      have hn : ¬ 8 ≤ i := by omega
      rw [e162_4]
      have := ih (i + 1) (by omega)
      rw [mj_sum] at this
      simp (maxSteps := 1000000) (disch := first | assumption | omega) only [c162, ↓e162_0, ↓e162_1, ↓e162_2, ↓e162_3, ↓e162_5, ↓e162_7, ↓e162_10, ↓e162_11, ↓e162_12, ↓e162_13, ↓e162_14, ↓e162_15, ↓e162_16, ↓e162_17, ↓e162_18, ↓e162_21, ↓e162_24, ↓e162_25, li_p0, li_p1, li_p2, li_p3, li_p4, li_p5, li_p6, li_p7, li_p8, li_p9, li_10, li_11, li_12, li_13, li_14, li_15, li_16, li_17, li_18, li_19, li_20, li_21, li_22, li_23, li_24, li_25, li_26, li_27, li_28, li_29, li_30, li_31, li_32, li_33, li_34, li_35, li_36, li_37, li_38, li_39, li_56, li_57, li_58, li_60, li_61, li_63, li_64, li_65, li_66, li_67, li_68, li_69, li_70, li_71, li_72, li_73, li_74, li_75, li_76, li_77, li_80, li_81, li_82, li_83, li_84, li_85, li_86, li_87, li_88, li_89, li_90, li_91, li_92, lw_q0, lw_q1, lw_q2, lw_q3, lw_q4, lw_q5, lw_q6, lw_q7, lw_q8, lw_q9, lw_10, lw_11, lw_12, lw_13, lw_14, lw_15, lw_16, lw_17, lw_18, lw_19, lw_20, lw_21, lw_22, lw_23, lw_24, lw_25, lw_26, lw_27, lw_28, lw_29, lw_30, lw_31, lw_32, lw_33, lw_34, lw_35, lw_36, lw_37, lw_38, lw_39, lw_56, lw_57, lw_58, lw_60, lw_61, lw_63, lw_64, lw_65, lw_66, lw_67, lw_68, lw_69, lw_70, lw_71, lw_72, lw_73, lw_74, lw_75, lw_76, lw_77, lw_80, lw_81, lw_82, lw_83, lw_84, lw_85, lw_86, lw_87, lw_88, lw_89, ll_78, ll_79, ll_s, rc6, rc2, rc3, rc5, rc7, rc1, rc0, rc4, rcs_0, rcs_1, rcs_2, rcs_3, rcs_4, mj_ib_nI, ↓reduceIte, mj_bdK, mj_ls, mj_ln, nI_clamp, nI_add, pk_mul, mj_nIeq0, mj_nIlt0, mj_nIle0, mj_nIeq, mj_nIle, mj_nIlt, mj_ok0, mj_ok1, mj_okb, mj_b0, mj_bR, mj_bR2, Nat.reduceEqDiff, hn]
      exact this
  have h0 := loop 8 0 (by omega)
  simp (maxSteps := 1000000) (disch := first | assumption | omega) only [c162, ↓e162_0, ↓e162_1, ↓e162_2, ↓e162_3, ↓e162_5, ↓e162_7, ↓e162_10, ↓e162_11, ↓e162_12, ↓e162_13, ↓e162_14, ↓e162_15, ↓e162_16, ↓e162_17, ↓e162_18, ↓e162_21, ↓e162_24, ↓e162_25, li_p0, li_p1, li_p2, li_p3, li_p4, li_p5, li_p6, li_p7, li_p8, li_p9, li_10, li_11, li_12, li_13, li_14, li_15, li_16, li_17, li_18, li_19, li_20, li_21, li_22, li_23, li_24, li_25, li_26, li_27, li_28, li_29, li_30, li_31, li_32, li_33, li_34, li_35, li_36, li_37, li_38, li_39, li_56, li_57, li_58, li_60, li_61, li_63, li_64, li_65, li_66, li_67, li_68, li_69, li_70, li_71, li_72, li_73, li_74, li_75, li_76, li_77, li_80, li_81, li_82, li_83, li_84, li_85, li_86, li_87, li_88, li_89, li_90, li_91, li_92, lw_q0, lw_q1, lw_q2, lw_q3, lw_q4, lw_q5, lw_q6, lw_q7, lw_q8, lw_q9, lw_10, lw_11, lw_12, lw_13, lw_14, lw_15, lw_16, lw_17, lw_18, lw_19, lw_20, lw_21, lw_22, lw_23, lw_24, lw_25, lw_26, lw_27, lw_28, lw_29, lw_30, lw_31, lw_32, lw_33, lw_34, lw_35, lw_36, lw_37, lw_38, lw_39, lw_56, lw_57, lw_58, lw_60, lw_61, lw_63, lw_64, lw_65, lw_66, lw_67, lw_68, lw_69, lw_70, lw_71, lw_72, lw_73, lw_74, lw_75, lw_76, lw_77, lw_80, lw_81, lw_82, lw_83, lw_84, lw_85, lw_86, lw_87, lw_88, lw_89, ll_78, ll_79, ll_s, rc6, rc2, rc3, rc5, rc7, rc1, rc0, rc4, rcs_0, rcs_1, rcs_2, rcs_3, rcs_4, mj_ib_nI, ↓reduceIte, mj_bdK, mj_ls, mj_ln, nI_clamp, nI_add, pk_mul, mj_nIeq0, mj_nIlt0, mj_nIle0, mj_nIeq, mj_nIle, mj_nIlt, mj_ok0, mj_ok1, mj_okb, mj_b0, mj_bR, mj_bR2, Nat.reduceEqDiff]
  exact h0
theorem s_X8_chosen {w : Nat} (hw : w < 3) {a b d : Int32} : mj_C 159 [.ref 62, .int (nI w)] (mj_s3 σ a b d) τ = some (some (.int (if w = 0 then a else if w = 1 then b else d)), mj_s3 σ a b d, τ) := by
  rcases (show w = 0 ∨ w = 1 ∨ w = 2 by omega) with rfl | rfl | rfl <;> simp (maxSteps := 1000000) (disch := first | assumption | omega) only [c159, ↓e159_0, ↓e159_1, ↓e159_4, ↓e159_5, ↓e159_8, ↓e159_11, ↓e159_12, ↓e159_13, ↓e159_16, ↓e159_17, ↓e159_20, ↓e159_23, ↓e159_24, ↓e159_27, li_p0, li_p1, li_p2, li_p3, li_p4, li_p5, li_p6, li_p7, li_p8, li_p9, li_10, li_11, li_12, li_13, li_14, li_15, li_16, li_17, li_18, li_19, li_20, li_21, li_22, li_23, li_24, li_25, li_26, li_27, li_28, li_29, li_30, li_31, li_32, li_33, li_34, li_35, li_36, li_37, li_38, li_39, li_56, li_57, li_58, li_60, li_61, li_63, li_64, li_65, li_66, li_67, li_68, li_69, li_70, li_71, li_72, li_73, li_74, li_75, li_76, li_77, li_80, li_81, li_82, li_83, li_84, li_85, li_86, li_87, li_88, li_89, li_90, li_91, li_92, lw_q0, lw_q1, lw_q2, lw_q3, lw_q4, lw_q5, lw_q6, lw_q7, lw_q8, lw_q9, lw_10, lw_11, lw_12, lw_13, lw_14, lw_15, lw_16, lw_17, lw_18, lw_19, lw_20, lw_21, lw_22, lw_23, lw_24, lw_25, lw_26, lw_27, lw_28, lw_29, lw_30, lw_31, lw_32, lw_33, lw_34, lw_35, lw_36, lw_37, lw_38, lw_39, lw_56, lw_57, lw_58, lw_60, lw_61, lw_63, lw_64, lw_65, lw_66, lw_67, lw_68, lw_69, lw_70, lw_71, lw_72, lw_73, lw_74, lw_75, lw_76, lw_77, lw_80, lw_81, lw_82, lw_83, lw_84, lw_85, lw_86, lw_87, lw_88, lw_89, ll_78, ll_79, ll_s, rc6, rc2, rc3, rc5, rc7, rc1, rc0, rc4, rcs_0, rcs_1, rcs_2, rcs_3, rcs_4, mj_ib_nI, ↓reduceIte, mj_bdK, mj_ls, mj_ln, nI_clamp, nI_add, pk_mul, mj_nIeq0, mj_nIlt0, mj_nIle0, mj_nIeq, mj_nIle, mj_nIlt, mj_ok0, mj_ok1, mj_okb, mj_b0, mj_bR, mj_bR2, Nat.reduceEqDiff, mj_s3_5, mj_s3_6, mj_s3_7]
theorem s_X8_setBy (h : mj_wm σ G C) {w : Nat} (hw : w < 3) : ∃ a b d, mj_C 161 [.ref 62, .int (nI g), .int (nI w)] σ τ = some (some (.int (mj_byM (mj_pv 64 62 σ) G g w C)), mj_s3 σ a b d, τ) := by
  obtain ⟨hC, hC6⟩ := mj_wm_C h
  have hCc : ∀ a b d, mj_s3 σ a b d 62 1 = nI C := fun a b d => by rw [mj_s3_f (by omega)]; exact hC
  have loop : ∀ (n i : Nat) (a b d : Int32), i + n = C → ∃ a2 b2 d2, mj_E 161 5 [some (.ref 62), some (.int (nI g)), some (.int (nI w)), some (.int (mj_byM (mj_pv 64 62 σ) G g w i)), some (.int (nI i))] [] (mj_s3 σ a b d) τ = some (some (.int (mj_byM (mj_pv 64 62 σ) G g w C)), mj_s3 σ a2 b2 d2, τ) := by
    intro n
    induction n with
    | zero =>
      intro i a b d hi
      obtain rfl : i = C := by omega
      refine ⟨a, b, d, ?_⟩
      simp (maxSteps := 1000000) (disch := first | assumption | omega) only [c161, ↓e161_0, ↓e161_1, ↓e161_2, ↓e161_3, ↓e161_5, ↓e161_7, ↓e161_8, ↓e161_11, ↓e161_14, ↓e161_15, ↓e161_17, ↓e161_20, ↓e161_21, ↓e161_22, ↓e161_25, ↓e161_26, ↓e161_29, ↓e161_30, ↓e161_31, ↓e161_33, ↓e161_34, ↓e161_35, ↓e161_36, ↓e161_39, ↓e161_42, ↓e161_43, li_p0, li_p1, li_p2, li_p3, li_p4, li_p5, li_p6, li_p7, li_p8, li_p9, li_10, li_11, li_12, li_13, li_14, li_15, li_16, li_17, li_18, li_19, li_20, li_21, li_22, li_23, li_24, li_25, li_26, li_27, li_28, li_29, li_30, li_31, li_32, li_33, li_34, li_35, li_36, li_37, li_38, li_39, li_56, li_57, li_58, li_60, li_61, li_63, li_64, li_65, li_66, li_67, li_68, li_69, li_70, li_71, li_72, li_73, li_74, li_75, li_76, li_77, li_80, li_81, li_82, li_83, li_84, li_85, li_86, li_87, li_88, li_89, li_90, li_91, li_92, lw_q0, lw_q1, lw_q2, lw_q3, lw_q4, lw_q5, lw_q6, lw_q7, lw_q8, lw_q9, lw_10, lw_11, lw_12, lw_13, lw_14, lw_15, lw_16, lw_17, lw_18, lw_19, lw_20, lw_21, lw_22, lw_23, lw_24, lw_25, lw_26, lw_27, lw_28, lw_29, lw_30, lw_31, lw_32, lw_33, lw_34, lw_35, lw_36, lw_37, lw_38, lw_39, lw_56, lw_57, lw_58, lw_60, lw_61, lw_63, lw_64, lw_65, lw_66, lw_67, lw_68, lw_69, lw_70, lw_71, lw_72, lw_73, lw_74, lw_75, lw_76, lw_77, lw_80, lw_81, lw_82, lw_83, lw_84, lw_85, lw_86, lw_87, lw_88, lw_89, ll_78, ll_79, ll_s, rc6, rc2, rc3, rc5, rc7, rc1, rc0, rc4, rcs_0, rcs_1, rcs_2, rcs_3, rcs_4, mj_ib_nI, ↓reduceIte, mj_bdK, mj_ls, mj_ln, nI_clamp, nI_add, pk_mul, mj_nIeq0, mj_nIlt0, mj_nIle0, mj_nIeq, mj_nIle, mj_nIlt, mj_ok0, mj_ok1, mj_okb, mj_b0, mj_bR, mj_bR2, Nat.reduceEqDiff, hCc, Nat.le_refl]
    | succ n ih =>
      intro i a b d hi
      have hn : ¬ C ≤ i := by omega
      have hs := s_X8_settles (τ := τ) (mj_wm_s3 h (a := a) (b := b) (c := d)) (show i < 6 by omega)
      rw [mj_pv_s3, mj_s3_s3] at hs
      obtain ⟨a2, b2, d2, hh⟩ := ih (i + 1) (mj_gv (mj_pv 64 62 σ) G i) (mj_kp (mj_pv 64 62 σ) G i) (mj_tk (mj_pv 64 62 σ) G i) (by omega)
      rw [mj_byM] at hh
      refine ⟨a2, b2, d2, ?_⟩
      rw [e161_5]
      by_cases hw0 : mj_wh (mj_pv 64 62 σ) G i w = nI g
      · rw [if_pos hw0] at hh
        unfold mj_wh at hw0
        simp (maxSteps := 1000000) (disch := first | assumption | omega) only [c161, ↓e161_0, ↓e161_1, ↓e161_2, ↓e161_3, ↓e161_7, ↓e161_8, ↓e161_11, ↓e161_14, ↓e161_15, ↓e161_17, ↓e161_20, ↓e161_21, ↓e161_22, ↓e161_25, ↓e161_26, ↓e161_29, ↓e161_30, ↓e161_31, ↓e161_33, ↓e161_34, ↓e161_35, ↓e161_36, ↓e161_39, ↓e161_42, ↓e161_43, li_p0, li_p1, li_p2, li_p3, li_p4, li_p5, li_p6, li_p7, li_p8, li_p9, li_10, li_11, li_12, li_13, li_14, li_15, li_16, li_17, li_18, li_19, li_20, li_21, li_22, li_23, li_24, li_25, li_26, li_27, li_28, li_29, li_30, li_31, li_32, li_33, li_34, li_35, li_36, li_37, li_38, li_39, li_56, li_57, li_58, li_60, li_61, li_63, li_64, li_65, li_66, li_67, li_68, li_69, li_70, li_71, li_72, li_73, li_74, li_75, li_76, li_77, li_80, li_81, li_82, li_83, li_84, li_85, li_86, li_87, li_88, li_89, li_90, li_91, li_92, lw_q0, lw_q1, lw_q2, lw_q3, lw_q4, lw_q5, lw_q6, lw_q7, lw_q8, lw_q9, lw_10, lw_11, lw_12, lw_13, lw_14, lw_15, lw_16, lw_17, lw_18, lw_19, lw_20, lw_21, lw_22, lw_23, lw_24, lw_25, lw_26, lw_27, lw_28, lw_29, lw_30, lw_31, lw_32, lw_33, lw_34, lw_35, lw_36, lw_37, lw_38, lw_39, lw_56, lw_57, lw_58, lw_60, lw_61, lw_63, lw_64, lw_65, lw_66, lw_67, lw_68, lw_69, lw_70, lw_71, lw_72, lw_73, lw_74, lw_75, lw_76, lw_77, lw_80, lw_81, lw_82, lw_83, lw_84, lw_85, lw_86, lw_87, lw_88, lw_89, ll_78, ll_79, ll_s, rc6, rc2, rc3, rc5, rc7, rc1, rc0, rc4, rcs_0, rcs_1, rcs_2, rcs_3, rcs_4, mj_ib_nI, ↓reduceIte, mj_bdK, mj_ls, mj_ln, nI_clamp, nI_add, pk_mul, mj_nIeq0, mj_nIlt0, mj_nIle0, mj_nIeq, mj_nIle, mj_nIlt, mj_ok0, mj_ok1, mj_okb, mj_b0, mj_bR, mj_bR2, Nat.reduceEqDiff, hCc, hn, hs, s_X8_chosen, hw0]
        exact hh
      · rw [if_neg hw0] at hh
        unfold mj_wh at hw0
        simp (maxSteps := 1000000) (disch := first | assumption | omega) only [c161, ↓e161_0, ↓e161_1, ↓e161_2, ↓e161_3, ↓e161_7, ↓e161_8, ↓e161_11, ↓e161_14, ↓e161_15, ↓e161_17, ↓e161_20, ↓e161_21, ↓e161_22, ↓e161_25, ↓e161_26, ↓e161_29, ↓e161_30, ↓e161_31, ↓e161_33, ↓e161_34, ↓e161_35, ↓e161_36, ↓e161_39, ↓e161_42, ↓e161_43, li_p0, li_p1, li_p2, li_p3, li_p4, li_p5, li_p6, li_p7, li_p8, li_p9, li_10, li_11, li_12, li_13, li_14, li_15, li_16, li_17, li_18, li_19, li_20, li_21, li_22, li_23, li_24, li_25, li_26, li_27, li_28, li_29, li_30, li_31, li_32, li_33, li_34, li_35, li_36, li_37, li_38, li_39, li_56, li_57, li_58, li_60, li_61, li_63, li_64, li_65, li_66, li_67, li_68, li_69, li_70, li_71, li_72, li_73, li_74, li_75, li_76, li_77, li_80, li_81, li_82, li_83, li_84, li_85, li_86, li_87, li_88, li_89, li_90, li_91, li_92, lw_q0, lw_q1, lw_q2, lw_q3, lw_q4, lw_q5, lw_q6, lw_q7, lw_q8, lw_q9, lw_10, lw_11, lw_12, lw_13, lw_14, lw_15, lw_16, lw_17, lw_18, lw_19, lw_20, lw_21, lw_22, lw_23, lw_24, lw_25, lw_26, lw_27, lw_28, lw_29, lw_30, lw_31, lw_32, lw_33, lw_34, lw_35, lw_36, lw_37, lw_38, lw_39, lw_56, lw_57, lw_58, lw_60, lw_61, lw_63, lw_64, lw_65, lw_66, lw_67, lw_68, lw_69, lw_70, lw_71, lw_72, lw_73, lw_74, lw_75, lw_76, lw_77, lw_80, lw_81, lw_82, lw_83, lw_84, lw_85, lw_86, lw_87, lw_88, lw_89, ll_78, ll_79, ll_s, rc6, rc2, rc3, rc5, rc7, rc1, rc0, rc4, rcs_0, rcs_1, rcs_2, rcs_3, rcs_4, mj_ib_nI, ↓reduceIte, mj_bdK, mj_ls, mj_ln, nI_clamp, nI_add, pk_mul, mj_nIeq0, mj_nIlt0, mj_nIle0, mj_nIeq, mj_nIle, mj_nIlt, mj_ok0, mj_ok1, mj_okb, mj_b0, mj_bR, mj_bR2, Nat.reduceEqDiff, hCc, hn, hs, s_X8_chosen, hw0]
        exact hh
  obtain ⟨a, b, d, h0⟩ := loop C 0 (σ 62 35) (σ 62 36) (σ 62 37) (by omega)
  rw [mj_s3_eta] at h0
  refine ⟨a, b, d, ?_⟩
  simp (maxSteps := 1000000) (disch := first | assumption | omega) only [c161, ↓e161_0, ↓e161_1, ↓e161_2, ↓e161_3, ↓e161_7, ↓e161_8, ↓e161_11, ↓e161_14, ↓e161_15, ↓e161_17, ↓e161_20, ↓e161_21, ↓e161_22, ↓e161_25, ↓e161_26, ↓e161_29, ↓e161_30, ↓e161_31, ↓e161_33, ↓e161_34, ↓e161_35, ↓e161_36, ↓e161_39, ↓e161_42, ↓e161_43, li_p0, li_p1, li_p2, li_p3, li_p4, li_p5, li_p6, li_p7, li_p8, li_p9, li_10, li_11, li_12, li_13, li_14, li_15, li_16, li_17, li_18, li_19, li_20, li_21, li_22, li_23, li_24, li_25, li_26, li_27, li_28, li_29, li_30, li_31, li_32, li_33, li_34, li_35, li_36, li_37, li_38, li_39, li_56, li_57, li_58, li_60, li_61, li_63, li_64, li_65, li_66, li_67, li_68, li_69, li_70, li_71, li_72, li_73, li_74, li_75, li_76, li_77, li_80, li_81, li_82, li_83, li_84, li_85, li_86, li_87, li_88, li_89, li_90, li_91, li_92, lw_q0, lw_q1, lw_q2, lw_q3, lw_q4, lw_q5, lw_q6, lw_q7, lw_q8, lw_q9, lw_10, lw_11, lw_12, lw_13, lw_14, lw_15, lw_16, lw_17, lw_18, lw_19, lw_20, lw_21, lw_22, lw_23, lw_24, lw_25, lw_26, lw_27, lw_28, lw_29, lw_30, lw_31, lw_32, lw_33, lw_34, lw_35, lw_36, lw_37, lw_38, lw_39, lw_56, lw_57, lw_58, lw_60, lw_61, lw_63, lw_64, lw_65, lw_66, lw_67, lw_68, lw_69, lw_70, lw_71, lw_72, lw_73, lw_74, lw_75, lw_76, lw_77, lw_80, lw_81, lw_82, lw_83, lw_84, lw_85, lw_86, lw_87, lw_88, lw_89, ll_78, ll_79, ll_s, rc6, rc2, rc3, rc5, rc7, rc1, rc0, rc4, rcs_0, rcs_1, rcs_2, rcs_3, rcs_4, mj_ib_nI, ↓reduceIte, mj_bdK, mj_ls, mj_ln, nI_clamp, nI_add, pk_mul, mj_nIeq0, mj_nIlt0, mj_nIle0, mj_nIeq, mj_nIle, mj_nIlt, mj_ok0, mj_ok1, mj_okb, mj_b0, mj_bR, mj_bR2, Nat.reduceEqDiff]
  exact h0
theorem s_X8_chargeThen (h : mj_wm σ G C) (hg : g < 8) : ∃ a b d, mj_C 163 [.ref 62, .int (nI g)] σ τ = some (some (.int (mj_ct (mj_pv 64 62 σ) G g C)), mj_s3 σ a b d, τ) := by
  obtain ⟨a, b, d, h0⟩ := s_X8_setBy (τ := τ) (g := g) h (w := 0) (by decide)
  obtain ⟨a2, b2, d2, h2⟩ := s_X8_setBy (τ := τ) (g := g) (mj_wm_s3 h (a := a) (b := b) (c := d)) (w := 2) (by decide)
  rw [mj_pv_s3, mj_s3_s3] at h2
  refine ⟨a2, b2, d2, ?_⟩
  rw [← mj_ct_m h hg]
  simp (maxSteps := 1000000) (disch := first | assumption | omega) only [c163, ↓e163_0, ↓e163_1, ↓e163_2, ↓e163_5, ↓e163_6, ↓e163_7, ↓e163_8, ↓e163_9, ↓e163_12, ↓e163_15, ↓e163_16, ↓e163_17, ↓e163_18, ↓e163_19, ↓e163_20, ↓e163_23, ↓e163_26, ↓e163_27, li_p0, li_p1, li_p2, li_p3, li_p4, li_p5, li_p6, li_p7, li_p8, li_p9, li_10, li_11, li_12, li_13, li_14, li_15, li_16, li_17, li_18, li_19, li_20, li_21, li_22, li_23, li_24, li_25, li_26, li_27, li_28, li_29, li_30, li_31, li_32, li_33, li_34, li_35, li_36, li_37, li_38, li_39, li_56, li_57, li_58, li_60, li_61, li_63, li_64, li_65, li_66, li_67, li_68, li_69, li_70, li_71, li_72, li_73, li_74, li_75, li_76, li_77, li_80, li_81, li_82, li_83, li_84, li_85, li_86, li_87, li_88, li_89, li_90, li_91, li_92, lw_q0, lw_q1, lw_q2, lw_q3, lw_q4, lw_q5, lw_q6, lw_q7, lw_q8, lw_q9, lw_10, lw_11, lw_12, lw_13, lw_14, lw_15, lw_16, lw_17, lw_18, lw_19, lw_20, lw_21, lw_22, lw_23, lw_24, lw_25, lw_26, lw_27, lw_28, lw_29, lw_30, lw_31, lw_32, lw_33, lw_34, lw_35, lw_36, lw_37, lw_38, lw_39, lw_56, lw_57, lw_58, lw_60, lw_61, lw_63, lw_64, lw_65, lw_66, lw_67, lw_68, lw_69, lw_70, lw_71, lw_72, lw_73, lw_74, lw_75, lw_76, lw_77, lw_80, lw_81, lw_82, lw_83, lw_84, lw_85, lw_86, lw_87, lw_88, lw_89, ll_78, ll_79, ll_s, rc6, rc2, rc3, rc5, rc7, rc1, rc0, rc4, rcs_0, rcs_1, rcs_2, rcs_3, rcs_4, mj_ib_nI, ↓reduceIte, mj_bdK, mj_ls, mj_ln, nI_clamp, nI_add, pk_mul, mj_nIeq0, mj_nIlt0, mj_nIle0, mj_nIeq, mj_nIle, mj_nIlt, mj_ok0, mj_ok1, mj_okb, mj_b0, mj_bR, mj_bR2, Nat.reduceEqDiff, s_X8_charge h hg, h0, s_X8_many, h2]
end

