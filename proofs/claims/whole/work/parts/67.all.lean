/-! THE MODEL'S ROWS FOR A WHOLE PARISH -/
section
variable {π ρ : Nat → Nat → Int32} {σ σm : mj_S} {τ τm : mj_T} {A : mj_A} {G C G2 C2 c s : Nat}
/-- the first f numbers of the cell q are F's -/
def mj_fl (σ : mj_S) (q : Nat) (F : Nat → Int32) (f : Nat) : mj_S := fun k i => if k = q ∧ i < f then F i else σ k i
theorem mj_fl_ne {q k f : Nat} {F : Nat → Int32} (h : ¬ k = q) : mj_fl σ q F f k = σ k := by
  funext i; unfold mj_fl; exact if_neg (fun z => h z.1)
theorem mj_fl_lt {q i f : Nat} {F : Nat → Int32} (h : i < f) : mj_fl σ q F f q i = F i := if_pos ⟨rfl, h⟩
theorem mj_fl_ge {q i f : Nat} {F : Nat → Int32} (h : f ≤ i) : mj_fl σ q F f q i = σ q i := if_neg (by omega)
theorem mj_fl_0 {q : Nat} {F : Nat → Int32} : mj_fl σ q F 0 = σ := by
  funext k i; unfold mj_fl; exact if_neg (by omega)
theorem mj_fl_s {q f : Nat} {F : Nat → Int32} {v : Int32} (h : v = F f) : mj_up (mj_fl σ q F f) q f v = mj_fl σ q F (f + 1) := by
  funext k i
  unfold mj_up mj_fl
  by_cases h1 : k = q ∧ i = f
  · obtain ⟨rfl, rfl⟩ := h1
    rw [if_pos ⟨rfl, rfl⟩, if_pos ⟨rfl, by omega⟩]
    exact h
  · rw [if_neg h1]
    by_cases h2 : k = q ∧ i < f
    · rw [if_pos h2, if_pos ⟨h2.1, by omega⟩]
    · rw [if_neg h2, if_neg (by omega)]
/-- to the row q -/
theorem s_X8_carries_f {a q n f la lq : Nat} {F : Nat → Int32} (ha : ∀ σ, mj_li σ a = some la) (hq : mj_lw q = some lq) (hna : n ≤ la) (hnq : f + n ≤ lq) (hl : lq < 1000) (hla : la < 1000) (hne : ¬ a = q) (hF : ∀ i, i < n → F (f + i) = σ a i) : mj_C 151 [.ref 62, .ref a, .int (nI n), .ref q, .int (nI f), .int (nI 0)] (mj_fl σ q F f) τ = some (some (.int (nI (f + n))), mj_fl σ q F (f + n), τ) := by
  have loop : ∀ k i, i + k = n → mj_E 151 3 [some (.ref 62), some (.ref a), some (.int (nI n)), some (.ref q), some (.int (nI f)), some (.int (nI 0)), some (.int (nI i))] [] (mj_fl σ q F (f + i)) τ = some (some (.int (nI (f + n))), mj_fl σ q F (f + n), τ) := by
    intro k
    induction k with
    | zero =>
      intro i hi
      obtain rfl : i = n := by omega
      simp (maxSteps := 1000000) (disch := first | assumption | omega) only [↓e151_3, ↓e151_5, ↓e151_6, ↓e151_9, ↓e151_11, ↓e151_14, ↓e151_15, ↓e151_17, ↓e151_18, ↓e151_20, ↓e151_22, ↓e151_23, ↓e151_24, ↓e151_25, ↓e151_28, ↓e151_29, ↓e151_31, ↓e151_33, ↓e151_34, ↓e151_35, ↓e151_37, ↓e151_38, ↓e151_39, ↓e151_42, ↓e151_45, ↓e151_47, ↓e151_48, ↓e151_49, li_p0, li_p1, li_p2, li_p3, li_p4, li_p5, li_p6, li_p7, li_p8, li_p9, li_10, li_11, li_12, li_13, li_14, li_15, li_16, li_17, li_18, li_19, li_20, li_21, li_22, li_23, li_24, li_25, li_26, li_27, li_28, li_29, li_30, li_31, li_32, li_33, li_34, li_35, li_36, li_37, li_38, li_39, li_56, li_57, li_58, li_60, li_61, li_63, li_64, li_65, li_66, li_67, li_68, li_69, li_70, li_71, li_72, li_73, li_74, li_75, li_76, li_77, li_80, li_81, li_82, li_83, li_84, li_85, li_86, li_87, li_88, li_89, li_90, li_91, li_92, lw_q0, lw_q1, lw_q2, lw_q3, lw_q4, lw_q5, lw_q6, lw_q7, lw_q8, lw_q9, lw_10, lw_11, lw_12, lw_13, lw_14, lw_15, lw_16, lw_17, lw_18, lw_19, lw_20, lw_21, lw_22, lw_23, lw_24, lw_25, lw_26, lw_27, lw_28, lw_29, lw_30, lw_31, lw_32, lw_33, lw_34, lw_35, lw_36, lw_37, lw_38, lw_39, lw_56, lw_57, lw_58, lw_60, lw_61, lw_63, lw_64, lw_65, lw_66, lw_67, lw_68, lw_69, lw_70, lw_71, lw_72, lw_73, lw_74, lw_75, lw_76, lw_77, lw_80, lw_81, lw_82, lw_83, lw_84, lw_85, lw_86, lw_87, lw_88, lw_89, ll_78, ll_79, ll_s, rc6, rc2, rc3, rc5, rc7, rc1, rc0, rc4, rcs_0, rcs_1, rcs_2, rcs_3, rcs_4, mj_ib_nI, ↓reduceIte, mj_bdK, mj_ls, mj_ln, nI_clamp, nI_add, pk_mul, mj_nIeq0, mj_nIlt0, mj_nIle0, mj_nIeq, mj_nIle, mj_nIlt, mj_ok0, mj_ok1, mj_okb, mj_b0, mj_bR, mj_bR2, Nat.reduceEqDiff, Nat.le_refl]
    | succ k ih =>
      intro i hi
      have hn : ¬ n ≤ i := by omega
      have h1 : ¬ la ≤ i := by omega
      have h2 : ¬ lq ≤ f + i := by omega
      have hs := mj_fl_s (σ := σ) (q := q) (F := F) (hF i (by omega)).symm
      have hr : mj_fl σ q F (f + i) a = σ a := mj_fl_ne hne
      have := ih (i + 1) (by omega)
      rw [← Nat.add_assoc] at this
      rw [e151_3, ← this]
      simp (maxSteps := 1000000) (disch := first | assumption | omega) only [↓e151_5, ↓e151_6, ↓e151_9, ↓e151_11, ↓e151_14, ↓e151_15, ↓e151_17, ↓e151_18, ↓e151_20, ↓e151_22, ↓e151_23, ↓e151_24, ↓e151_25, ↓e151_28, ↓e151_29, ↓e151_31, ↓e151_33, ↓e151_34, ↓e151_35, ↓e151_37, ↓e151_38, ↓e151_39, ↓e151_42, li_p0, li_p1, li_p2, li_p3, li_p4, li_p5, li_p6, li_p7, li_p8, li_p9, li_10, li_11, li_12, li_13, li_14, li_15, li_16, li_17, li_18, li_19, li_20, li_21, li_22, li_23, li_24, li_25, li_26, li_27, li_28, li_29, li_30, li_31, li_32, li_33, li_34, li_35, li_36, li_37, li_38, li_39, li_56, li_57, li_58, li_60, li_61, li_63, li_64, li_65, li_66, li_67, li_68, li_69, li_70, li_71, li_72, li_73, li_74, li_75, li_76, li_77, li_80, li_81, li_82, li_83, li_84, li_85, li_86, li_87, li_88, li_89, li_90, li_91, li_92, lw_q0, lw_q1, lw_q2, lw_q3, lw_q4, lw_q5, lw_q6, lw_q7, lw_q8, lw_q9, lw_10, lw_11, lw_12, lw_13, lw_14, lw_15, lw_16, lw_17, lw_18, lw_19, lw_20, lw_21, lw_22, lw_23, lw_24, lw_25, lw_26, lw_27, lw_28, lw_29, lw_30, lw_31, lw_32, lw_33, lw_34, lw_35, lw_36, lw_37, lw_38, lw_39, lw_56, lw_57, lw_58, lw_60, lw_61, lw_63, lw_64, lw_65, lw_66, lw_67, lw_68, lw_69, lw_70, lw_71, lw_72, lw_73, lw_74, lw_75, lw_76, lw_77, lw_80, lw_81, lw_82, lw_83, lw_84, lw_85, lw_86, lw_87, lw_88, lw_89, ll_78, ll_79, ll_s, rc6, rc2, rc3, rc5, rc7, rc1, rc0, rc4, rcs_0, rcs_1, rcs_2, rcs_3, rcs_4, mj_ib_nI, ↓reduceIte, mj_bdK, mj_ls, mj_ln, nI_clamp, nI_add, pk_mul, mj_nIeq0, mj_nIlt0, mj_nIle0, mj_nIeq, mj_nIle, mj_nIlt, mj_ok0, mj_ok1, mj_okb, mj_b0, mj_bR, mj_bR2, Nat.reduceEqDiff, hn, ha, hq, h1, h2, hr, hs]
  have l0 := loop n 0 (by omega)
  rw [Nat.add_zero] at l0
  simp (maxSteps := 1000000) (disch := first | assumption | omega) only [c151, ↓e151_0, ↓e151_1, ↓e151_5, ↓e151_6, ↓e151_9, ↓e151_11, ↓e151_14, ↓e151_15, ↓e151_17, ↓e151_18, ↓e151_20, ↓e151_22, ↓e151_23, ↓e151_24, ↓e151_25, ↓e151_28, ↓e151_29, ↓e151_31, ↓e151_33, ↓e151_34, ↓e151_35, ↓e151_37, ↓e151_38, ↓e151_39, ↓e151_42, ↓e151_45, ↓e151_47, ↓e151_48, ↓e151_49, li_p0, li_p1, li_p2, li_p3, li_p4, li_p5, li_p6, li_p7, li_p8, li_p9, li_10, li_11, li_12, li_13, li_14, li_15, li_16, li_17, li_18, li_19, li_20, li_21, li_22, li_23, li_24, li_25, li_26, li_27, li_28, li_29, li_30, li_31, li_32, li_33, li_34, li_35, li_36, li_37, li_38, li_39, li_56, li_57, li_58, li_60, li_61, li_63, li_64, li_65, li_66, li_67, li_68, li_69, li_70, li_71, li_72, li_73, li_74, li_75, li_76, li_77, li_80, li_81, li_82, li_83, li_84, li_85, li_86, li_87, li_88, li_89, li_90, li_91, li_92, lw_q0, lw_q1, lw_q2, lw_q3, lw_q4, lw_q5, lw_q6, lw_q7, lw_q8, lw_q9, lw_10, lw_11, lw_12, lw_13, lw_14, lw_15, lw_16, lw_17, lw_18, lw_19, lw_20, lw_21, lw_22, lw_23, lw_24, lw_25, lw_26, lw_27, lw_28, lw_29, lw_30, lw_31, lw_32, lw_33, lw_34, lw_35, lw_36, lw_37, lw_38, lw_39, lw_56, lw_57, lw_58, lw_60, lw_61, lw_63, lw_64, lw_65, lw_66, lw_67, lw_68, lw_69, lw_70, lw_71, lw_72, lw_73, lw_74, lw_75, lw_76, lw_77, lw_80, lw_81, lw_82, lw_83, lw_84, lw_85, lw_86, lw_87, lw_88, lw_89, ll_78, ll_79, ll_s, rc6, rc2, rc3, rc5, rc7, rc1, rc0, rc4, rcs_0, rcs_1, rcs_2, rcs_3, rcs_4, mj_ib_nI, ↓reduceIte, mj_bdK, mj_ls, mj_ln, nI_clamp, nI_add, pk_mul, mj_nIeq0, mj_nIlt0, mj_nIle0, mj_nIeq, mj_nIle, mj_nIlt, mj_ok0, mj_ok1, mj_okb, mj_b0, mj_bR, mj_bR2, Nat.reduceEqDiff, l0]
/-- from the row q back into the cell a -/
theorem s_X8_carries_b {a q n f la lq : Nat} (ha : mj_lw a = some la) (hq : ∀ σ, mj_li σ q = some lq) (hna : n ≤ la) (hnq : f + n ≤ lq) (hl : lq < 1000) (hla : la < 1000) (hne : ¬ q = a) : mj_C 151 [.ref 62, .ref a, .int (nI n), .ref q, .int (nI f), .int (nI 1)] σ τ = some (some (.int (nI (f + n))), mj_fl σ a (fun i => σ q (f + i)) n, τ) := by
  have loop : ∀ k i, i + k = n → mj_E 151 3 [some (.ref 62), some (.ref a), some (.int (nI n)), some (.ref q), some (.int (nI f)), some (.int (nI 1)), some (.int (nI i))] [] (mj_fl σ a (fun i => σ q (f + i)) i) τ = some (some (.int (nI (f + n))), mj_fl σ a (fun i => σ q (f + i)) n, τ) := by
    intro k
    induction k with
    | zero =>
      intro i hi
      obtain rfl : i = n := by omega
      simp (maxSteps := 1000000) (disch := first | assumption | omega) only [↓e151_3, ↓e151_5, ↓e151_6, ↓e151_9, ↓e151_11, ↓e151_14, ↓e151_15, ↓e151_17, ↓e151_18, ↓e151_20, ↓e151_22, ↓e151_23, ↓e151_24, ↓e151_25, ↓e151_28, ↓e151_29, ↓e151_31, ↓e151_33, ↓e151_34, ↓e151_35, ↓e151_37, ↓e151_38, ↓e151_39, ↓e151_42, ↓e151_45, ↓e151_47, ↓e151_48, ↓e151_49, li_p0, li_p1, li_p2, li_p3, li_p4, li_p5, li_p6, li_p7, li_p8, li_p9, li_10, li_11, li_12, li_13, li_14, li_15, li_16, li_17, li_18, li_19, li_20, li_21, li_22, li_23, li_24, li_25, li_26, li_27, li_28, li_29, li_30, li_31, li_32, li_33, li_34, li_35, li_36, li_37, li_38, li_39, li_56, li_57, li_58, li_60, li_61, li_63, li_64, li_65, li_66, li_67, li_68, li_69, li_70, li_71, li_72, li_73, li_74, li_75, li_76, li_77, li_80, li_81, li_82, li_83, li_84, li_85, li_86, li_87, li_88, li_89, li_90, li_91, li_92, lw_q0, lw_q1, lw_q2, lw_q3, lw_q4, lw_q5, lw_q6, lw_q7, lw_q8, lw_q9, lw_10, lw_11, lw_12, lw_13, lw_14, lw_15, lw_16, lw_17, lw_18, lw_19, lw_20, lw_21, lw_22, lw_23, lw_24, lw_25, lw_26, lw_27, lw_28, lw_29, lw_30, lw_31, lw_32, lw_33, lw_34, lw_35, lw_36, lw_37, lw_38, lw_39, lw_56, lw_57, lw_58, lw_60, lw_61, lw_63, lw_64, lw_65, lw_66, lw_67, lw_68, lw_69, lw_70, lw_71, lw_72, lw_73, lw_74, lw_75, lw_76, lw_77, lw_80, lw_81, lw_82, lw_83, lw_84, lw_85, lw_86, lw_87, lw_88, lw_89, ll_78, ll_79, ll_s, rc6, rc2, rc3, rc5, rc7, rc1, rc0, rc4, rcs_0, rcs_1, rcs_2, rcs_3, rcs_4, mj_ib_nI, ↓reduceIte, mj_bdK, mj_ls, mj_ln, nI_clamp, nI_add, pk_mul, mj_nIeq0, mj_nIlt0, mj_nIle0, mj_nIeq, mj_nIle, mj_nIlt, mj_ok0, mj_ok1, mj_okb, mj_b0, mj_bR, mj_bR2, Nat.reduceEqDiff, Nat.le_refl]
    | succ k ih =>
      intro i hi
      have hn : ¬ n ≤ i := by omega
      have h1 : ¬ la ≤ i := by omega
      have h2 : ¬ lq ≤ f + i := by omega
      have hs := mj_fl_s (σ := σ) (q := a) (F := fun i => σ q (f + i)) (f := i) (v := σ q (f + i)) rfl
      have hr : mj_fl σ a (fun i => σ q (f + i)) i q = σ q := mj_fl_ne hne
      have := ih (i + 1) (by omega)
      rw [e151_3, ← this]
      simp (maxSteps := 1000000) (disch := first | assumption | omega) only [↓e151_5, ↓e151_6, ↓e151_9, ↓e151_11, ↓e151_14, ↓e151_15, ↓e151_17, ↓e151_18, ↓e151_20, ↓e151_22, ↓e151_23, ↓e151_24, ↓e151_25, ↓e151_28, ↓e151_29, ↓e151_31, ↓e151_33, ↓e151_34, ↓e151_35, ↓e151_37, ↓e151_38, ↓e151_39, ↓e151_42, li_p0, li_p1, li_p2, li_p3, li_p4, li_p5, li_p6, li_p7, li_p8, li_p9, li_10, li_11, li_12, li_13, li_14, li_15, li_16, li_17, li_18, li_19, li_20, li_21, li_22, li_23, li_24, li_25, li_26, li_27, li_28, li_29, li_30, li_31, li_32, li_33, li_34, li_35, li_36, li_37, li_38, li_39, li_56, li_57, li_58, li_60, li_61, li_63, li_64, li_65, li_66, li_67, li_68, li_69, li_70, li_71, li_72, li_73, li_74, li_75, li_76, li_77, li_80, li_81, li_82, li_83, li_84, li_85, li_86, li_87, li_88, li_89, li_90, li_91, li_92, lw_q0, lw_q1, lw_q2, lw_q3, lw_q4, lw_q5, lw_q6, lw_q7, lw_q8, lw_q9, lw_10, lw_11, lw_12, lw_13, lw_14, lw_15, lw_16, lw_17, lw_18, lw_19, lw_20, lw_21, lw_22, lw_23, lw_24, lw_25, lw_26, lw_27, lw_28, lw_29, lw_30, lw_31, lw_32, lw_33, lw_34, lw_35, lw_36, lw_37, lw_38, lw_39, lw_56, lw_57, lw_58, lw_60, lw_61, lw_63, lw_64, lw_65, lw_66, lw_67, lw_68, lw_69, lw_70, lw_71, lw_72, lw_73, lw_74, lw_75, lw_76, lw_77, lw_80, lw_81, lw_82, lw_83, lw_84, lw_85, lw_86, lw_87, lw_88, lw_89, ll_78, ll_79, ll_s, rc6, rc2, rc3, rc5, rc7, rc1, rc0, rc4, rcs_0, rcs_1, rcs_2, rcs_3, rcs_4, mj_ib_nI, ↓reduceIte, mj_bdK, mj_ls, mj_ln, nI_clamp, nI_add, pk_mul, mj_nIeq0, mj_nIlt0, mj_nIle0, mj_nIeq, mj_nIle, mj_nIlt, mj_ok0, mj_ok1, mj_okb, mj_b0, mj_bR, mj_bR2, Nat.reduceEqDiff, hn, ha, hq, h1, h2, hr, hs]
  have l0 := loop n 0 (by omega)
  rw [mj_fl_0] at l0
  simp (maxSteps := 1000000) (disch := first | assumption | omega) only [c151, ↓e151_0, ↓e151_1, ↓e151_5, ↓e151_6, ↓e151_9, ↓e151_11, ↓e151_14, ↓e151_15, ↓e151_17, ↓e151_18, ↓e151_20, ↓e151_22, ↓e151_23, ↓e151_24, ↓e151_25, ↓e151_28, ↓e151_29, ↓e151_31, ↓e151_33, ↓e151_34, ↓e151_35, ↓e151_37, ↓e151_38, ↓e151_39, ↓e151_42, ↓e151_45, ↓e151_47, ↓e151_48, ↓e151_49, li_p0, li_p1, li_p2, li_p3, li_p4, li_p5, li_p6, li_p7, li_p8, li_p9, li_10, li_11, li_12, li_13, li_14, li_15, li_16, li_17, li_18, li_19, li_20, li_21, li_22, li_23, li_24, li_25, li_26, li_27, li_28, li_29, li_30, li_31, li_32, li_33, li_34, li_35, li_36, li_37, li_38, li_39, li_56, li_57, li_58, li_60, li_61, li_63, li_64, li_65, li_66, li_67, li_68, li_69, li_70, li_71, li_72, li_73, li_74, li_75, li_76, li_77, li_80, li_81, li_82, li_83, li_84, li_85, li_86, li_87, li_88, li_89, li_90, li_91, li_92, lw_q0, lw_q1, lw_q2, lw_q3, lw_q4, lw_q5, lw_q6, lw_q7, lw_q8, lw_q9, lw_10, lw_11, lw_12, lw_13, lw_14, lw_15, lw_16, lw_17, lw_18, lw_19, lw_20, lw_21, lw_22, lw_23, lw_24, lw_25, lw_26, lw_27, lw_28, lw_29, lw_30, lw_31, lw_32, lw_33, lw_34, lw_35, lw_36, lw_37, lw_38, lw_39, lw_56, lw_57, lw_58, lw_60, lw_61, lw_63, lw_64, lw_65, lw_66, lw_67, lw_68, lw_69, lw_70, lw_71, lw_72, lw_73, lw_74, lw_75, lw_76, lw_77, lw_80, lw_81, lw_82, lw_83, lw_84, lw_85, lw_86, lw_87, lw_88, lw_89, ll_78, ll_79, ll_s, rc6, rc2, rc3, rc5, rc7, rc1, rc0, rc4, rcs_0, rcs_1, rcs_2, rcs_3, rcs_4, mj_ib_nI, ↓reduceIte, mj_bdK, mj_ls, mj_ln, nI_clamp, nI_add, pk_mul, mj_nIeq0, mj_nIlt0, mj_nIle0, mj_nIeq, mj_nIle, mj_nIlt, mj_ok0, mj_ok1, mj_okb, mj_b0, mj_bR, mj_bR2, Nat.reduceEqDiff, l0]

theorem s_X8_all_f {q : Nat} (hq : q = 84 ∨ q = 85 ∨ q = 86) : mj_C 152 [.ref 62, .ref q, .int (nI 0)] σ τ = some (none, mj_fl σ q (mj_flat (mj_pv 64 62 σ)) 117, τ) := by
  have r0 : mj_C 151 [.ref 62, .ref 64, .int (nI 8), .ref q, .int (nI 0), .int (nI 0)] (mj_fl σ q (mj_flat (mj_pv 64 62 σ)) 0) τ = some (some (.int (nI 8)), mj_fl σ q (mj_flat (mj_pv 64 62 σ)) 8, τ) := s_X8_carries_f (la := 8) (lq := 130) (fun _ => rfl) (by rcases hq with rfl | rfl | rfl <;> rfl) (by decide) (by decide) (by decide) (by decide) (by omega) (fun i hi => by unfold mj_flat; rw [if_pos (by omega), show (0 + i) / 8 = 0 by omega, show (0 + i) % 8 = i by omega]; rfl)
  have r1 : mj_C 151 [.ref 62, .ref 65, .int (nI 8), .ref q, .int (nI 8), .int (nI 0)] (mj_fl σ q (mj_flat (mj_pv 64 62 σ)) 8) τ = some (some (.int (nI 16)), mj_fl σ q (mj_flat (mj_pv 64 62 σ)) 16, τ) := s_X8_carries_f (la := 8) (lq := 130) (fun _ => rfl) (by rcases hq with rfl | rfl | rfl <;> rfl) (by decide) (by decide) (by decide) (by decide) (by omega) (fun i hi => by unfold mj_flat; rw [if_pos (by omega), show (8 + i) / 8 = 1 by omega, show (8 + i) % 8 = i by omega]; rfl)
  have r2 : mj_C 151 [.ref 62, .ref 66, .int (nI 8), .ref q, .int (nI 16), .int (nI 0)] (mj_fl σ q (mj_flat (mj_pv 64 62 σ)) 16) τ = some (some (.int (nI 24)), mj_fl σ q (mj_flat (mj_pv 64 62 σ)) 24, τ) := s_X8_carries_f (la := 8) (lq := 130) (fun _ => rfl) (by rcases hq with rfl | rfl | rfl <;> rfl) (by decide) (by decide) (by decide) (by decide) (by omega) (fun i hi => by unfold mj_flat; rw [if_pos (by omega), show (16 + i) / 8 = 2 by omega, show (16 + i) % 8 = i by omega]; rfl)
  have r3 : mj_C 151 [.ref 62, .ref 67, .int (nI 8), .ref q, .int (nI 24), .int (nI 0)] (mj_fl σ q (mj_flat (mj_pv 64 62 σ)) 24) τ = some (some (.int (nI 32)), mj_fl σ q (mj_flat (mj_pv 64 62 σ)) 32, τ) := s_X8_carries_f (la := 8) (lq := 130) (fun _ => rfl) (by rcases hq with rfl | rfl | rfl <;> rfl) (by decide) (by decide) (by decide) (by decide) (by omega) (fun i hi => by unfold mj_flat; rw [if_pos (by omega), show (24 + i) / 8 = 3 by omega, show (24 + i) % 8 = i by omega]; rfl)
  have r4 : mj_C 151 [.ref 62, .ref 68, .int (nI 8), .ref q, .int (nI 32), .int (nI 0)] (mj_fl σ q (mj_flat (mj_pv 64 62 σ)) 32) τ = some (some (.int (nI 40)), mj_fl σ q (mj_flat (mj_pv 64 62 σ)) 40, τ) := s_X8_carries_f (la := 8) (lq := 130) (fun _ => rfl) (by rcases hq with rfl | rfl | rfl <;> rfl) (by decide) (by decide) (by decide) (by decide) (by omega) (fun i hi => by unfold mj_flat; rw [if_pos (by omega), show (32 + i) / 8 = 4 by omega, show (32 + i) % 8 = i by omega]; rfl)
  have r5 : mj_C 151 [.ref 62, .ref 69, .int (nI 6), .ref q, .int (nI 40), .int (nI 0)] (mj_fl σ q (mj_flat (mj_pv 64 62 σ)) 40) τ = some (some (.int (nI 46)), mj_fl σ q (mj_flat (mj_pv 64 62 σ)) 46, τ) := s_X8_carries_f (la := 6) (lq := 130) (fun _ => rfl) (by rcases hq with rfl | rfl | rfl <;> rfl) (by decide) (by decide) (by decide) (by decide) (by omega) (fun i hi => by unfold mj_flat; rw [if_neg (by omega), if_pos (by omega), show 5 + (40 + i - 40) / 6 = 5 by omega, show (40 + i - 40) % 6 = i by omega]; rfl)
  have r6 : mj_C 151 [.ref 62, .ref 70, .int (nI 6), .ref q, .int (nI 46), .int (nI 0)] (mj_fl σ q (mj_flat (mj_pv 64 62 σ)) 46) τ = some (some (.int (nI 52)), mj_fl σ q (mj_flat (mj_pv 64 62 σ)) 52, τ) := s_X8_carries_f (la := 6) (lq := 130) (fun _ => rfl) (by rcases hq with rfl | rfl | rfl <;> rfl) (by decide) (by decide) (by decide) (by decide) (by omega) (fun i hi => by unfold mj_flat; rw [if_neg (by omega), if_pos (by omega), show 5 + (46 + i - 40) / 6 = 6 by omega, show (46 + i - 40) % 6 = i by omega]; rfl)
  have r7 : mj_C 151 [.ref 62, .ref 71, .int (nI 6), .ref q, .int (nI 52), .int (nI 0)] (mj_fl σ q (mj_flat (mj_pv 64 62 σ)) 52) τ = some (some (.int (nI 58)), mj_fl σ q (mj_flat (mj_pv 64 62 σ)) 58, τ) := s_X8_carries_f (la := 6) (lq := 130) (fun _ => rfl) (by rcases hq with rfl | rfl | rfl <;> rfl) (by decide) (by decide) (by decide) (by decide) (by omega) (fun i hi => by unfold mj_flat; rw [if_neg (by omega), if_pos (by omega), show 5 + (52 + i - 40) / 6 = 7 by omega, show (52 + i - 40) % 6 = i by omega]; rfl)
  have r8 : mj_C 151 [.ref 62, .ref 72, .int (nI 6), .ref q, .int (nI 58), .int (nI 0)] (mj_fl σ q (mj_flat (mj_pv 64 62 σ)) 58) τ = some (some (.int (nI 64)), mj_fl σ q (mj_flat (mj_pv 64 62 σ)) 64, τ) := s_X8_carries_f (la := 6) (lq := 130) (fun _ => rfl) (by rcases hq with rfl | rfl | rfl <;> rfl) (by decide) (by decide) (by decide) (by decide) (by omega) (fun i hi => by unfold mj_flat; rw [if_neg (by omega), if_pos (by omega), show 5 + (58 + i - 40) / 6 = 8 by omega, show (58 + i - 40) % 6 = i by omega]; rfl)
  have r9 : mj_C 151 [.ref 62, .ref 73, .int (nI 48), .ref q, .int (nI 64), .int (nI 0)] (mj_fl σ q (mj_flat (mj_pv 64 62 σ)) 64) τ = some (some (.int (nI 112)), mj_fl σ q (mj_flat (mj_pv 64 62 σ)) 112, τ) := s_X8_carries_f (la := 48) (lq := 130) (fun _ => rfl) (by rcases hq with rfl | rfl | rfl <;> rfl) (by decide) (by decide) (by decide) (by decide) (by omega) (fun i hi => by unfold mj_flat; rw [if_neg (by omega), if_neg (by omega), if_pos (by omega), show 64 + i - 64 = i by omega]; rfl)
  have w0 : mj_up (mj_fl σ q (mj_flat (mj_pv 64 62 σ)) 112) q 112 (σ 62 0) = mj_fl σ q (mj_flat (mj_pv 64 62 σ)) 113 := mj_fl_s rfl
  have v0 : ∀ f, mj_fl σ q (mj_flat (mj_pv 64 62 σ)) f 62 = σ 62 := fun f => mj_fl_ne (by omega)
  have w1 : mj_up (mj_fl σ q (mj_flat (mj_pv 64 62 σ)) 113) q 113 (σ 62 1) = mj_fl σ q (mj_flat (mj_pv 64 62 σ)) 114 := mj_fl_s rfl
  have w2 : mj_up (mj_fl σ q (mj_flat (mj_pv 64 62 σ)) 114) q 114 (σ 62 2) = mj_fl σ q (mj_flat (mj_pv 64 62 σ)) 115 := mj_fl_s rfl
  have w3 : mj_up (mj_fl σ q (mj_flat (mj_pv 64 62 σ)) 115) q 115 (σ 62 3) = mj_fl σ q (mj_flat (mj_pv 64 62 σ)) 116 := mj_fl_s rfl
  have w4 : mj_up (mj_fl σ q (mj_flat (mj_pv 64 62 σ)) 116) q 116 (σ 62 4) = mj_fl σ q (mj_flat (mj_pv 64 62 σ)) 117 := mj_fl_s rfl
  rw [mj_fl_0] at r0
  have hlw : mj_lw q = some 130 := by rcases hq with rfl | rfl | rfl <;> rfl
  simp (maxSteps := 1000000) (disch := first | assumption | omega) only [c152, ↓e152_0, ↓e152_1, ↓e152_2, ↓e152_5, ↓e152_7, ↓e152_8, ↓e152_9, ↓e152_10, ↓e152_13, ↓e152_14, ↓e152_15, ↓e152_16, ↓e152_19, ↓e152_21, ↓e152_22, ↓e152_23, ↓e152_24, ↓e152_27, ↓e152_28, ↓e152_29, ↓e152_30, ↓e152_33, ↓e152_35, ↓e152_36, ↓e152_37, ↓e152_38, ↓e152_41, ↓e152_42, ↓e152_43, ↓e152_44, ↓e152_47, ↓e152_49, ↓e152_50, ↓e152_51, ↓e152_52, ↓e152_55, ↓e152_56, ↓e152_57, ↓e152_58, ↓e152_61, ↓e152_63, ↓e152_64, ↓e152_65, ↓e152_66, ↓e152_69, ↓e152_70, ↓e152_71, ↓e152_72, ↓e152_75, ↓e152_77, ↓e152_78, ↓e152_79, ↓e152_80, ↓e152_83, ↓e152_84, ↓e152_85, ↓e152_86, ↓e152_89, ↓e152_91, ↓e152_92, ↓e152_93, ↓e152_94, ↓e152_97, ↓e152_98, ↓e152_99, ↓e152_100, ↓e152_103, ↓e152_105, ↓e152_106, ↓e152_107, ↓e152_108, ↓e152_111, ↓e152_112, ↓e152_113, ↓e152_114, ↓e152_117, ↓e152_119, ↓e152_120, ↓e152_121, ↓e152_122, ↓e152_125, ↓e152_126, ↓e152_127, ↓e152_128, ↓e152_131, ↓e152_133, ↓e152_134, ↓e152_135, ↓e152_136, ↓e152_139, ↓e152_140, ↓e152_141, ↓e152_144, ↓e152_145, ↓e152_146, ↓e152_147, ↓e152_148, ↓e152_151, ↓e152_152, ↓e152_153, ↓e152_154, ↓e152_155, ↓e152_156, ↓e152_157, ↓e152_160, ↓e152_161, ↓e152_162, ↓e152_163, ↓e152_164, ↓e152_165, ↓e152_166, ↓e152_169, ↓e152_170, ↓e152_171, ↓e152_172, ↓e152_173, ↓e152_174, ↓e152_175, ↓e152_178, ↓e152_179, ↓e152_180, ↓e152_181, ↓e152_182, ↓e152_183, ↓e152_184, ↓e152_187, ↓e152_190, ↓e152_191, ↓e152_192, ↓e152_193, ↓e152_196, ↓e152_197, ↓e152_198, ↓e152_199, ↓e152_200, ↓e152_201, ↓e152_202, ↓e152_205, ↓e152_206, ↓e152_207, ↓e152_208, ↓e152_209, ↓e152_210, ↓e152_211, ↓e152_214, ↓e152_215, ↓e152_216, ↓e152_217, ↓e152_218, ↓e152_219, ↓e152_220, ↓e152_223, ↓e152_224, ↓e152_225, ↓e152_226, ↓e152_227, ↓e152_228, ↓e152_229, ↓e152_232, ↓e152_233, li_p0, li_p1, li_p2, li_p3, li_p4, li_p5, li_p6, li_p7, li_p8, li_p9, li_10, li_11, li_12, li_13, li_14, li_15, li_16, li_17, li_18, li_19, li_20, li_21, li_22, li_23, li_24, li_25, li_26, li_27, li_28, li_29, li_30, li_31, li_32, li_33, li_34, li_35, li_36, li_37, li_38, li_39, li_56, li_57, li_58, li_60, li_61, li_63, li_64, li_65, li_66, li_67, li_68, li_69, li_70, li_71, li_72, li_73, li_74, li_75, li_76, li_77, li_80, li_81, li_82, li_83, li_84, li_85, li_86, li_87, li_88, li_89, li_90, li_91, li_92, lw_q0, lw_q1, lw_q2, lw_q3, lw_q4, lw_q5, lw_q6, lw_q7, lw_q8, lw_q9, lw_10, lw_11, lw_12, lw_13, lw_14, lw_15, lw_16, lw_17, lw_18, lw_19, lw_20, lw_21, lw_22, lw_23, lw_24, lw_25, lw_26, lw_27, lw_28, lw_29, lw_30, lw_31, lw_32, lw_33, lw_34, lw_35, lw_36, lw_37, lw_38, lw_39, lw_56, lw_57, lw_58, lw_60, lw_61, lw_63, lw_64, lw_65, lw_66, lw_67, lw_68, lw_69, lw_70, lw_71, lw_72, lw_73, lw_74, lw_75, lw_76, lw_77, lw_80, lw_81, lw_82, lw_83, lw_84, lw_85, lw_86, lw_87, lw_88, lw_89, ll_78, ll_79, ll_s, rc6, rc2, rc3, rc5, rc7, rc1, rc0, rc4, rcs_0, rcs_1, rcs_2, rcs_3, rcs_4, mj_ib_nI, ↓reduceIte, mj_bdK, mj_ls, mj_ln, nI_clamp, nI_add, pk_mul, mj_nIeq0, mj_nIlt0, mj_nIle0, mj_nIeq, mj_nIle, mj_nIlt, mj_ok0, mj_ok1, mj_okb, mj_b0, mj_bR, mj_bR2, Nat.reduceEqDiff, r0, r1, r2, r3, r4, r5, r6, r7, r8, r9, hlw, v0, w0, w1, w2, w3, w4]

/-- a cell of a parish, taken whole -/
theorem mj_fl_wb {j n : Nat} {H : Nat → Int32} (hj : j < 10) (h1 : ∀ i, i < n → H i = ρ j i) (h2 : ∀ i, n ≤ i → ρ j i = 0) (h3 : ∀ i, n ≤ i → π j i = 0) : mj_fl (mj_wb 64 62 π σ) (64 + j) H n = mj_wb 64 62 (mj_rp π j (ρ j)) σ := by
  rw [← mj_wb_rp hj]
  funext k i
  unfold mj_fl mj_rp
  by_cases hk : k = 64 + j
  · subst hk
    rw [if_pos rfl]
    by_cases hi : i < n
    · rw [if_pos ⟨rfl, hi⟩, h1 i hi]
    · rw [if_neg (by omega), mj_wb_a hj, h2 i (by omega), h3 i (by omega)]
  · rw [if_neg (by omega), if_neg hk]
/-- the first j cells are ρ's -/
def mj_mx (π ρ : Nat → Nat → Int32) (n : Nat) : Nat → Nat → Int32 := fun j i => if j < n then ρ j i else π j i
theorem mj_mx_s {n : Nat} : mj_rp (mj_mx π ρ n) n (ρ n) = mj_mx π ρ (n + 1) := by
  funext j i
  unfold mj_rp mj_mx
  by_cases h : j = n
  · subst h; rw [if_pos rfl, if_pos (by omega)]
  · rw [if_neg h]
    by_cases h2 : j < n
    · rw [if_pos h2, if_pos (by omega)]
    · rw [if_neg h2, if_neg (by omega)]
theorem mj_mx_0 : mj_mx π ρ 0 = π := by funext j i; unfold mj_mx; exact if_neg (by omega)
theorem mj_flat_ob {σ : mj_S} {i : Nat} : ∀ k, ¬ (64 ≤ k ∧ k < 74) → ¬ k = 62 → mj_wb 64 62 π σ k = σ k := fun k h1 h2 => mj_wb_ne (by omega) h2
theorem s_X8_all_b {q : Nat} (hq : q = 84 ∨ q = 85 ∨ q = 86) (hp : mj_wf π G C) (hr : mj_wf ρ G2 C2) (hf : ∀ i, i < 117 → σ q i = mj_flat ρ i) : mj_C 152 [.ref 62, .ref q, .int (nI 1)] (mj_wb 64 62 π σ) τ = some (none, mj_wb 64 62 ρ σ, τ) := by
  have hli : ∀ σ, mj_li σ q = some 130 := by rcases hq with rfl | rfl | rfl <;> exact fun _ => rfl
  have eq : ∀ ρ, mj_wb 64 62 ρ σ q = σ q := fun ρ => mj_wb_ne (by omega) (by omega)
  have zp := hp.2.2.2.2.2.2.2.1
  have zr := hr.2.2.2.2.2.2.2.1

  have r0 : mj_C 151 [.ref 62, .ref 64, .int (nI 8), .ref q, .int (nI 0), .int (nI 1)] (mj_wb 64 62 (mj_mx π ρ 0) σ) τ = some (some (.int (nI 8)), mj_wb 64 62 (mj_mx π ρ 1) σ, τ) := by
    have z := s_X8_carries_b (σ := mj_wb 64 62 (mj_mx π ρ 0) σ) (τ := τ) (a := 64 + 0) (q := q) (n := 8) (f := 0) (la := 8) (lq := 130) rfl hli (by decide) (by decide) (by decide) (by decide) (by omega)
    have fw := mj_fl_wb (j := 0) (n := 8) (H := fun i => mj_wb 64 62 (mj_mx π ρ 0) σ q (0 + i)) (π := mj_mx π ρ 0) (ρ := ρ) (σ := σ) (by decide) (fun i hi => by
      show mj_wb 64 62 (mj_mx π ρ 0) σ q (0 + i) = _
      rw [eq, hf _ (by omega)]
      unfold mj_flat; rw [if_pos (by omega), show (0 + i) / 8 = 0 by omega, show (0 + i) % 8 = i by omega]) (fun i hi => zr 0 i (by decide) hi) (fun i hi => (if_neg (by omega)).trans (zp 0 i (by decide) hi))
    rw [fw, mj_mx_s] at z
    exact z
  have r1 : mj_C 151 [.ref 62, .ref 65, .int (nI 8), .ref q, .int (nI 8), .int (nI 1)] (mj_wb 64 62 (mj_mx π ρ 1) σ) τ = some (some (.int (nI 16)), mj_wb 64 62 (mj_mx π ρ 2) σ, τ) := by
    have z := s_X8_carries_b (σ := mj_wb 64 62 (mj_mx π ρ 1) σ) (τ := τ) (a := 64 + 1) (q := q) (n := 8) (f := 8) (la := 8) (lq := 130) rfl hli (by decide) (by decide) (by decide) (by decide) (by omega)
    have fw := mj_fl_wb (j := 1) (n := 8) (H := fun i => mj_wb 64 62 (mj_mx π ρ 1) σ q (8 + i)) (π := mj_mx π ρ 1) (ρ := ρ) (σ := σ) (by decide) (fun i hi => by
      show mj_wb 64 62 (mj_mx π ρ 1) σ q (8 + i) = _
      rw [eq, hf _ (by omega)]
      unfold mj_flat; rw [if_pos (by omega), show (8 + i) / 8 = 1 by omega, show (8 + i) % 8 = i by omega]) (fun i hi => zr 1 i (by decide) hi) (fun i hi => (if_neg (by omega)).trans (zp 1 i (by decide) hi))
    rw [fw, mj_mx_s] at z
    exact z
  have r2 : mj_C 151 [.ref 62, .ref 66, .int (nI 8), .ref q, .int (nI 16), .int (nI 1)] (mj_wb 64 62 (mj_mx π ρ 2) σ) τ = some (some (.int (nI 24)), mj_wb 64 62 (mj_mx π ρ 3) σ, τ) := by
    have z := s_X8_carries_b (σ := mj_wb 64 62 (mj_mx π ρ 2) σ) (τ := τ) (a := 64 + 2) (q := q) (n := 8) (f := 16) (la := 8) (lq := 130) rfl hli (by decide) (by decide) (by decide) (by decide) (by omega)
    have fw := mj_fl_wb (j := 2) (n := 8) (H := fun i => mj_wb 64 62 (mj_mx π ρ 2) σ q (16 + i)) (π := mj_mx π ρ 2) (ρ := ρ) (σ := σ) (by decide) (fun i hi => by
      show mj_wb 64 62 (mj_mx π ρ 2) σ q (16 + i) = _
      rw [eq, hf _ (by omega)]
      unfold mj_flat; rw [if_pos (by omega), show (16 + i) / 8 = 2 by omega, show (16 + i) % 8 = i by omega]) (fun i hi => zr 2 i (by decide) hi) (fun i hi => (if_neg (by omega)).trans (zp 2 i (by decide) hi))
    rw [fw, mj_mx_s] at z
    exact z
  have r3 : mj_C 151 [.ref 62, .ref 67, .int (nI 8), .ref q, .int (nI 24), .int (nI 1)] (mj_wb 64 62 (mj_mx π ρ 3) σ) τ = some (some (.int (nI 32)), mj_wb 64 62 (mj_mx π ρ 4) σ, τ) := by
    have z := s_X8_carries_b (σ := mj_wb 64 62 (mj_mx π ρ 3) σ) (τ := τ) (a := 64 + 3) (q := q) (n := 8) (f := 24) (la := 8) (lq := 130) rfl hli (by decide) (by decide) (by decide) (by decide) (by omega)
    have fw := mj_fl_wb (j := 3) (n := 8) (H := fun i => mj_wb 64 62 (mj_mx π ρ 3) σ q (24 + i)) (π := mj_mx π ρ 3) (ρ := ρ) (σ := σ) (by decide) (fun i hi => by
      show mj_wb 64 62 (mj_mx π ρ 3) σ q (24 + i) = _
      rw [eq, hf _ (by omega)]
      unfold mj_flat; rw [if_pos (by omega), show (24 + i) / 8 = 3 by omega, show (24 + i) % 8 = i by omega]) (fun i hi => zr 3 i (by decide) hi) (fun i hi => (if_neg (by omega)).trans (zp 3 i (by decide) hi))
    rw [fw, mj_mx_s] at z
    exact z
  have r4 : mj_C 151 [.ref 62, .ref 68, .int (nI 8), .ref q, .int (nI 32), .int (nI 1)] (mj_wb 64 62 (mj_mx π ρ 4) σ) τ = some (some (.int (nI 40)), mj_wb 64 62 (mj_mx π ρ 5) σ, τ) := by
    have z := s_X8_carries_b (σ := mj_wb 64 62 (mj_mx π ρ 4) σ) (τ := τ) (a := 64 + 4) (q := q) (n := 8) (f := 32) (la := 8) (lq := 130) rfl hli (by decide) (by decide) (by decide) (by decide) (by omega)
    have fw := mj_fl_wb (j := 4) (n := 8) (H := fun i => mj_wb 64 62 (mj_mx π ρ 4) σ q (32 + i)) (π := mj_mx π ρ 4) (ρ := ρ) (σ := σ) (by decide) (fun i hi => by
      show mj_wb 64 62 (mj_mx π ρ 4) σ q (32 + i) = _
      rw [eq, hf _ (by omega)]
      unfold mj_flat; rw [if_pos (by omega), show (32 + i) / 8 = 4 by omega, show (32 + i) % 8 = i by omega]) (fun i hi => zr 4 i (by decide) hi) (fun i hi => (if_neg (by omega)).trans (zp 4 i (by decide) hi))
    rw [fw, mj_mx_s] at z
    exact z
  have r5 : mj_C 151 [.ref 62, .ref 69, .int (nI 6), .ref q, .int (nI 40), .int (nI 1)] (mj_wb 64 62 (mj_mx π ρ 5) σ) τ = some (some (.int (nI 46)), mj_wb 64 62 (mj_mx π ρ 6) σ, τ) := by
    have z := s_X8_carries_b (σ := mj_wb 64 62 (mj_mx π ρ 5) σ) (τ := τ) (a := 64 + 5) (q := q) (n := 6) (f := 40) (la := 6) (lq := 130) rfl hli (by decide) (by decide) (by decide) (by decide) (by omega)
    have fw := mj_fl_wb (j := 5) (n := 6) (H := fun i => mj_wb 64 62 (mj_mx π ρ 5) σ q (40 + i)) (π := mj_mx π ρ 5) (ρ := ρ) (σ := σ) (by decide) (fun i hi => by
      show mj_wb 64 62 (mj_mx π ρ 5) σ q (40 + i) = _
      rw [eq, hf _ (by omega)]
      unfold mj_flat; rw [if_neg (by omega), if_pos (by omega), show 5 + (40 + i - 40) / 6 = 5 by omega, show (40 + i - 40) % 6 = i by omega]) (fun i hi => zr 5 i (by decide) hi) (fun i hi => (if_neg (by omega)).trans (zp 5 i (by decide) hi))
    rw [fw, mj_mx_s] at z
    exact z
  have r6 : mj_C 151 [.ref 62, .ref 70, .int (nI 6), .ref q, .int (nI 46), .int (nI 1)] (mj_wb 64 62 (mj_mx π ρ 6) σ) τ = some (some (.int (nI 52)), mj_wb 64 62 (mj_mx π ρ 7) σ, τ) := by
    have z := s_X8_carries_b (σ := mj_wb 64 62 (mj_mx π ρ 6) σ) (τ := τ) (a := 64 + 6) (q := q) (n := 6) (f := 46) (la := 6) (lq := 130) rfl hli (by decide) (by decide) (by decide) (by decide) (by omega)
    have fw := mj_fl_wb (j := 6) (n := 6) (H := fun i => mj_wb 64 62 (mj_mx π ρ 6) σ q (46 + i)) (π := mj_mx π ρ 6) (ρ := ρ) (σ := σ) (by decide) (fun i hi => by
      show mj_wb 64 62 (mj_mx π ρ 6) σ q (46 + i) = _
      rw [eq, hf _ (by omega)]
      unfold mj_flat; rw [if_neg (by omega), if_pos (by omega), show 5 + (46 + i - 40) / 6 = 6 by omega, show (46 + i - 40) % 6 = i by omega]) (fun i hi => zr 6 i (by decide) hi) (fun i hi => (if_neg (by omega)).trans (zp 6 i (by decide) hi))
    rw [fw, mj_mx_s] at z
    exact z
  have r7 : mj_C 151 [.ref 62, .ref 71, .int (nI 6), .ref q, .int (nI 52), .int (nI 1)] (mj_wb 64 62 (mj_mx π ρ 7) σ) τ = some (some (.int (nI 58)), mj_wb 64 62 (mj_mx π ρ 8) σ, τ) := by
    have z := s_X8_carries_b (σ := mj_wb 64 62 (mj_mx π ρ 7) σ) (τ := τ) (a := 64 + 7) (q := q) (n := 6) (f := 52) (la := 6) (lq := 130) rfl hli (by decide) (by decide) (by decide) (by decide) (by omega)
    have fw := mj_fl_wb (j := 7) (n := 6) (H := fun i => mj_wb 64 62 (mj_mx π ρ 7) σ q (52 + i)) (π := mj_mx π ρ 7) (ρ := ρ) (σ := σ) (by decide) (fun i hi => by
      show mj_wb 64 62 (mj_mx π ρ 7) σ q (52 + i) = _
      rw [eq, hf _ (by omega)]
      unfold mj_flat; rw [if_neg (by omega), if_pos (by omega), show 5 + (52 + i - 40) / 6 = 7 by omega, show (52 + i - 40) % 6 = i by omega]) (fun i hi => zr 7 i (by decide) hi) (fun i hi => (if_neg (by omega)).trans (zp 7 i (by decide) hi))
    rw [fw, mj_mx_s] at z
    exact z
  have r8 : mj_C 151 [.ref 62, .ref 72, .int (nI 6), .ref q, .int (nI 58), .int (nI 1)] (mj_wb 64 62 (mj_mx π ρ 8) σ) τ = some (some (.int (nI 64)), mj_wb 64 62 (mj_mx π ρ 9) σ, τ) := by
    have z := s_X8_carries_b (σ := mj_wb 64 62 (mj_mx π ρ 8) σ) (τ := τ) (a := 64 + 8) (q := q) (n := 6) (f := 58) (la := 6) (lq := 130) rfl hli (by decide) (by decide) (by decide) (by decide) (by omega)
    have fw := mj_fl_wb (j := 8) (n := 6) (H := fun i => mj_wb 64 62 (mj_mx π ρ 8) σ q (58 + i)) (π := mj_mx π ρ 8) (ρ := ρ) (σ := σ) (by decide) (fun i hi => by
      show mj_wb 64 62 (mj_mx π ρ 8) σ q (58 + i) = _
      rw [eq, hf _ (by omega)]
      unfold mj_flat; rw [if_neg (by omega), if_pos (by omega), show 5 + (58 + i - 40) / 6 = 8 by omega, show (58 + i - 40) % 6 = i by omega]) (fun i hi => zr 8 i (by decide) hi) (fun i hi => (if_neg (by omega)).trans (zp 8 i (by decide) hi))
    rw [fw, mj_mx_s] at z
    exact z
  have r9 : mj_C 151 [.ref 62, .ref 73, .int (nI 48), .ref q, .int (nI 64), .int (nI 1)] (mj_wb 64 62 (mj_mx π ρ 9) σ) τ = some (some (.int (nI 112)), mj_wb 64 62 (mj_mx π ρ 10) σ, τ) := by
    have z := s_X8_carries_b (σ := mj_wb 64 62 (mj_mx π ρ 9) σ) (τ := τ) (a := 64 + 9) (q := q) (n := 48) (f := 64) (la := 48) (lq := 130) rfl hli (by decide) (by decide) (by decide) (by decide) (by omega)
    have fw := mj_fl_wb (j := 9) (n := 48) (H := fun i => mj_wb 64 62 (mj_mx π ρ 9) σ q (64 + i)) (π := mj_mx π ρ 9) (ρ := ρ) (σ := σ) (by decide) (fun i hi => by
      show mj_wb 64 62 (mj_mx π ρ 9) σ q (64 + i) = _
      rw [eq, hf _ (by omega)]
      unfold mj_flat; rw [if_neg (by omega), if_neg (by omega), if_pos (by omega), show 64 + i - 64 = i by omega]) (fun i hi => zr 9 i (by decide) hi) (fun i hi => (if_neg (by omega)).trans (zp 9 i (by decide) hi))
    rw [fw, mj_mx_s] at z
    exact z
  have g0 : σ q 112 = ρ 10 0 := (hf 112 (by decide)).trans rfl
  have g1 : σ q 113 = ρ 10 1 := (hf 113 (by decide)).trans rfl
  have g2 : σ q 114 = ρ 10 2 := (hf 114 (by decide)).trans rfl
  have g3 : σ q 115 = ρ 10 3 := (hf 115 (by decide)).trans rfl
  have g4 : σ q 116 = ρ 10 4 := (hf 116 (by decide)).trans rfl
  rw [mj_mx_0] at r0
  have fin : mj_uc (mj_uc (mj_uc (mj_uc (mj_uc (mj_mx π ρ 10) 0 (ρ 10 0)) 1 (ρ 10 1)) 2 (ρ 10 2)) 3 (ρ 10 3)) 4 (ρ 10 4) = ρ := by
    have b1 := hp.2.2.2.2.2.2.2.2
    have b2 := hr.2.2.2.2.2.2.2.2
    funext j i
    by_cases hj : j < 10
    · rw [mj_uc_lo hj, mj_uc_lo hj, mj_uc_lo hj, mj_uc_lo hj, mj_uc_lo hj]
      exact if_pos hj
    · have hj2 : 10 ≤ j := by omega
      rw [b2 j i hj2]
      by_cases h5 : i < 5
      · rw [if_pos h5]
        rcases (show i = 0 ∨ i = 1 ∨ i = 2 ∨ i = 3 ∨ i = 4 by omega) with rfl | rfl | rfl | rfl | rfl <;> simp [mj_uc, hj2]
      · rw [if_neg h5]
        have t : mj_mx π ρ 10 j i = 0 := (if_neg hj).trans ((b1 j i hj2).trans (if_neg h5))
        have i0 : ¬ i = 0 := by omega
        have i1 : ¬ i = 1 := by omega
        have i2 : ¬ i = 2 := by omega
        have i3 : ¬ i = 3 := by omega
        have i4 : ¬ i = 4 := by omega
        simp [mj_uc, i0, i1, i2, i3, i4, t]
  simp (maxSteps := 1000000) (disch := first | assumption | omega) only [c152, ↓e152_0, ↓e152_1, ↓e152_2, ↓e152_5, ↓e152_7, ↓e152_8, ↓e152_9, ↓e152_10, ↓e152_13, ↓e152_14, ↓e152_15, ↓e152_16, ↓e152_19, ↓e152_21, ↓e152_22, ↓e152_23, ↓e152_24, ↓e152_27, ↓e152_28, ↓e152_29, ↓e152_30, ↓e152_33, ↓e152_35, ↓e152_36, ↓e152_37, ↓e152_38, ↓e152_41, ↓e152_42, ↓e152_43, ↓e152_44, ↓e152_47, ↓e152_49, ↓e152_50, ↓e152_51, ↓e152_52, ↓e152_55, ↓e152_56, ↓e152_57, ↓e152_58, ↓e152_61, ↓e152_63, ↓e152_64, ↓e152_65, ↓e152_66, ↓e152_69, ↓e152_70, ↓e152_71, ↓e152_72, ↓e152_75, ↓e152_77, ↓e152_78, ↓e152_79, ↓e152_80, ↓e152_83, ↓e152_84, ↓e152_85, ↓e152_86, ↓e152_89, ↓e152_91, ↓e152_92, ↓e152_93, ↓e152_94, ↓e152_97, ↓e152_98, ↓e152_99, ↓e152_100, ↓e152_103, ↓e152_105, ↓e152_106, ↓e152_107, ↓e152_108, ↓e152_111, ↓e152_112, ↓e152_113, ↓e152_114, ↓e152_117, ↓e152_119, ↓e152_120, ↓e152_121, ↓e152_122, ↓e152_125, ↓e152_126, ↓e152_127, ↓e152_128, ↓e152_131, ↓e152_133, ↓e152_134, ↓e152_135, ↓e152_136, ↓e152_139, ↓e152_140, ↓e152_141, ↓e152_144, ↓e152_145, ↓e152_146, ↓e152_147, ↓e152_148, ↓e152_151, ↓e152_152, ↓e152_153, ↓e152_154, ↓e152_155, ↓e152_156, ↓e152_157, ↓e152_160, ↓e152_161, ↓e152_162, ↓e152_163, ↓e152_164, ↓e152_165, ↓e152_166, ↓e152_169, ↓e152_170, ↓e152_171, ↓e152_172, ↓e152_173, ↓e152_174, ↓e152_175, ↓e152_178, ↓e152_179, ↓e152_180, ↓e152_181, ↓e152_182, ↓e152_183, ↓e152_184, ↓e152_187, ↓e152_190, ↓e152_191, ↓e152_192, ↓e152_193, ↓e152_196, ↓e152_197, ↓e152_198, ↓e152_199, ↓e152_200, ↓e152_201, ↓e152_202, ↓e152_205, ↓e152_206, ↓e152_207, ↓e152_208, ↓e152_209, ↓e152_210, ↓e152_211, ↓e152_214, ↓e152_215, ↓e152_216, ↓e152_217, ↓e152_218, ↓e152_219, ↓e152_220, ↓e152_223, ↓e152_224, ↓e152_225, ↓e152_226, ↓e152_227, ↓e152_228, ↓e152_229, ↓e152_232, ↓e152_233, li_p0, li_p1, li_p2, li_p3, li_p4, li_p5, li_p6, li_p7, li_p8, li_p9, li_10, li_11, li_12, li_13, li_14, li_15, li_16, li_17, li_18, li_19, li_20, li_21, li_22, li_23, li_24, li_25, li_26, li_27, li_28, li_29, li_30, li_31, li_32, li_33, li_34, li_35, li_36, li_37, li_38, li_39, li_56, li_57, li_58, li_60, li_61, li_63, li_64, li_65, li_66, li_67, li_68, li_69, li_70, li_71, li_72, li_73, li_74, li_75, li_76, li_77, li_80, li_81, li_82, li_83, li_84, li_85, li_86, li_87, li_88, li_89, li_90, li_91, li_92, lw_q0, lw_q1, lw_q2, lw_q3, lw_q4, lw_q5, lw_q6, lw_q7, lw_q8, lw_q9, lw_10, lw_11, lw_12, lw_13, lw_14, lw_15, lw_16, lw_17, lw_18, lw_19, lw_20, lw_21, lw_22, lw_23, lw_24, lw_25, lw_26, lw_27, lw_28, lw_29, lw_30, lw_31, lw_32, lw_33, lw_34, lw_35, lw_36, lw_37, lw_38, lw_39, lw_56, lw_57, lw_58, lw_60, lw_61, lw_63, lw_64, lw_65, lw_66, lw_67, lw_68, lw_69, lw_70, lw_71, lw_72, lw_73, lw_74, lw_75, lw_76, lw_77, lw_80, lw_81, lw_82, lw_83, lw_84, lw_85, lw_86, lw_87, lw_88, lw_89, ll_78, ll_79, ll_s, rc6, rc2, rc3, rc5, rc7, rc1, rc0, rc4, rcs_0, rcs_1, rcs_2, rcs_3, rcs_4, mj_ib_nI, ↓reduceIte, mj_bdK, mj_ls, mj_ln, nI_clamp, nI_add, pk_mul, mj_nIeq0, mj_nIlt0, mj_nIle0, mj_nIeq, mj_nIle, mj_nIlt, mj_ok0, mj_ok1, mj_okb, mj_b0, mj_bR, mj_bR2, Nat.reduceEqDiff, r0, r1, r2, r3, r4, r5, r6, r7, r8, r9, hli, eq, g0, g1, g2, g3, g4, uo_0, uo_1, uo_2, uo_3, uo_4, fin]

end
