/-! SUMS, the model's -/
section
variable {σ σm : mj_S} {τ τm : mj_T} {A : mj_A} {G C s : Nat}
theorem s_X8_together (hG8 : G ≤ 8) : mj_C 187 [.ref 62, .ref 68, .int (nI G)] σ τ = some (some (.int (mj_sum (σ 68) G)), σ, τ) := by
  have loop : ∀ n i, i + n = G → mj_E 187 5 [some (.ref 62), some (.ref 68), some (.int (nI G)), some (.int (mj_sum (σ 68) i)), some (.int (nI i))] [] σ τ = some (some (.int (mj_sum (σ 68) G)), σ, τ) := by
    intro n
    induction n with
    | zero =>
      intro i hi
      obtain rfl : i = G := by omega
      simp (maxSteps := 1000000) (disch := first | assumption | omega) only [c187, ↓e187_0, ↓e187_1, ↓e187_2, ↓e187_3, ↓e187_5, ↓e187_7, ↓e187_8, ↓e187_11, ↓e187_12, ↓e187_13, ↓e187_15, ↓e187_16, ↓e187_17, ↓e187_18, ↓e187_21, ↓e187_24, ↓e187_25, li_p0, li_p1, li_p2, li_p3, li_p4, li_p5, li_p6, li_p7, li_p8, li_p9, li_10, li_11, li_12, li_13, li_14, li_15, li_16, li_17, li_18, li_19, li_20, li_21, li_22, li_23, li_24, li_25, li_26, li_27, li_28, li_29, li_30, li_31, li_32, li_33, li_34, li_35, li_36, li_37, li_38, li_39, li_56, li_57, li_58, li_60, li_61, li_63, li_64, li_65, li_66, li_67, li_68, li_69, li_70, li_71, li_72, li_73, li_74, li_75, li_76, li_77, li_80, li_81, li_82, li_83, li_84, li_85, li_86, li_87, li_88, li_89, li_90, li_91, li_92, lw_q0, lw_q1, lw_q2, lw_q3, lw_q4, lw_q5, lw_q6, lw_q7, lw_q8, lw_q9, lw_10, lw_11, lw_12, lw_13, lw_14, lw_15, lw_16, lw_17, lw_18, lw_19, lw_20, lw_21, lw_22, lw_23, lw_24, lw_25, lw_26, lw_27, lw_28, lw_29, lw_30, lw_31, lw_32, lw_33, lw_34, lw_35, lw_36, lw_37, lw_38, lw_39, lw_56, lw_57, lw_58, lw_60, lw_61, lw_63, lw_64, lw_65, lw_66, lw_67, lw_68, lw_69, lw_70, lw_71, lw_72, lw_73, lw_74, lw_75, lw_76, lw_77, lw_80, lw_81, lw_82, lw_83, lw_84, lw_85, lw_86, lw_87, lw_88, lw_89, ll_78, ll_79, ll_s, rc6, rc2, rc3, rc5, rc7, rc1, rc0, rc4, rcs_0, rcs_1, rcs_2, rcs_3, rcs_4, mj_ib_nI, ↓reduceIte, mj_bdK, mj_ls, mj_ln, nI_clamp, nI_add, pk_mul, mj_nIeq0, mj_nIlt0, mj_nIle0, mj_nIeq, mj_nIle, mj_nIlt, mj_ok0, mj_ok1, mj_okb, mj_b0, mj_bR, mj_bR2, Nat.reduceEqDiff, Nat.le_refl]
    | succ n ih =>
      intro i hi
      have hn : ¬ G ≤ i := by omega
      rw [e187_5]
      have := ih (i + 1) (by omega)
      rw [mj_sum] at this
      simp (maxSteps := 1000000) (disch := first | assumption | omega) only [c187, ↓e187_0, ↓e187_1, ↓e187_2, ↓e187_3, ↓e187_7, ↓e187_8, ↓e187_11, ↓e187_12, ↓e187_13, ↓e187_15, ↓e187_16, ↓e187_17, ↓e187_18, ↓e187_21, ↓e187_24, ↓e187_25, li_p0, li_p1, li_p2, li_p3, li_p4, li_p5, li_p6, li_p7, li_p8, li_p9, li_10, li_11, li_12, li_13, li_14, li_15, li_16, li_17, li_18, li_19, li_20, li_21, li_22, li_23, li_24, li_25, li_26, li_27, li_28, li_29, li_30, li_31, li_32, li_33, li_34, li_35, li_36, li_37, li_38, li_39, li_56, li_57, li_58, li_60, li_61, li_63, li_64, li_65, li_66, li_67, li_68, li_69, li_70, li_71, li_72, li_73, li_74, li_75, li_76, li_77, li_80, li_81, li_82, li_83, li_84, li_85, li_86, li_87, li_88, li_89, li_90, li_91, li_92, lw_q0, lw_q1, lw_q2, lw_q3, lw_q4, lw_q5, lw_q6, lw_q7, lw_q8, lw_q9, lw_10, lw_11, lw_12, lw_13, lw_14, lw_15, lw_16, lw_17, lw_18, lw_19, lw_20, lw_21, lw_22, lw_23, lw_24, lw_25, lw_26, lw_27, lw_28, lw_29, lw_30, lw_31, lw_32, lw_33, lw_34, lw_35, lw_36, lw_37, lw_38, lw_39, lw_56, lw_57, lw_58, lw_60, lw_61, lw_63, lw_64, lw_65, lw_66, lw_67, lw_68, lw_69, lw_70, lw_71, lw_72, lw_73, lw_74, lw_75, lw_76, lw_77, lw_80, lw_81, lw_82, lw_83, lw_84, lw_85, lw_86, lw_87, lw_88, lw_89, ll_78, ll_79, ll_s, rc6, rc2, rc3, rc5, rc7, rc1, rc0, rc4, rcs_0, rcs_1, rcs_2, rcs_3, rcs_4, mj_ib_nI, ↓reduceIte, mj_bdK, mj_ls, mj_ln, nI_clamp, nI_add, pk_mul, mj_nIeq0, mj_nIlt0, mj_nIle0, mj_nIeq, mj_nIle, mj_nIlt, mj_ok0, mj_ok1, mj_okb, mj_b0, mj_bR, mj_bR2, Nat.reduceEqDiff, hn]
      exact this
  have h0 := loop G 0 (by omega)
  simp (maxSteps := 1000000) (disch := first | assumption | omega) only [c187, ↓e187_0, ↓e187_1, ↓e187_2, ↓e187_3, ↓e187_7, ↓e187_8, ↓e187_11, ↓e187_12, ↓e187_13, ↓e187_15, ↓e187_16, ↓e187_17, ↓e187_18, ↓e187_21, ↓e187_24, ↓e187_25, li_p0, li_p1, li_p2, li_p3, li_p4, li_p5, li_p6, li_p7, li_p8, li_p9, li_10, li_11, li_12, li_13, li_14, li_15, li_16, li_17, li_18, li_19, li_20, li_21, li_22, li_23, li_24, li_25, li_26, li_27, li_28, li_29, li_30, li_31, li_32, li_33, li_34, li_35, li_36, li_37, li_38, li_39, li_56, li_57, li_58, li_60, li_61, li_63, li_64, li_65, li_66, li_67, li_68, li_69, li_70, li_71, li_72, li_73, li_74, li_75, li_76, li_77, li_80, li_81, li_82, li_83, li_84, li_85, li_86, li_87, li_88, li_89, li_90, li_91, li_92, lw_q0, lw_q1, lw_q2, lw_q3, lw_q4, lw_q5, lw_q6, lw_q7, lw_q8, lw_q9, lw_10, lw_11, lw_12, lw_13, lw_14, lw_15, lw_16, lw_17, lw_18, lw_19, lw_20, lw_21, lw_22, lw_23, lw_24, lw_25, lw_26, lw_27, lw_28, lw_29, lw_30, lw_31, lw_32, lw_33, lw_34, lw_35, lw_36, lw_37, lw_38, lw_39, lw_56, lw_57, lw_58, lw_60, lw_61, lw_63, lw_64, lw_65, lw_66, lw_67, lw_68, lw_69, lw_70, lw_71, lw_72, lw_73, lw_74, lw_75, lw_76, lw_77, lw_80, lw_81, lw_82, lw_83, lw_84, lw_85, lw_86, lw_87, lw_88, lw_89, ll_78, ll_79, ll_s, rc6, rc2, rc3, rc5, rc7, rc1, rc0, rc4, rcs_0, rcs_1, rcs_2, rcs_3, rcs_4, mj_ib_nI, ↓reduceIte, mj_bdK, mj_ls, mj_ln, nI_clamp, nI_add, pk_mul, mj_nIeq0, mj_nIlt0, mj_nIle0, mj_nIeq, mj_nIle, mj_nIlt, mj_ok0, mj_ok1, mj_okb, mj_b0, mj_bR, mj_bR2, Nat.reduceEqDiff]
  exact h0

theorem mj_sum_z {f : Nat → Int32} {a : Nat} : ∀ n, (∀ i, a ≤ i → i < a + n → f i = nI 0) → mj_sum f (a + n) = mj_sum f a := by
  intro n
  induction n with
  | zero => intro _; rfl
  | succ n ih =>
    intro h
    show mj_sum f (a + n) + f (a + n) = mj_sum f a
    rw [ih (fun i h1 h2 => h i h1 (by omega)), h (a + n) (by omega) (by omega), nI_0, Int32.add_zero]
theorem s_X8_allLiking (h : mj_wm σ G C) : mj_C 198 [.ref 62] σ τ = some (some (.int (mj_sum (σ 73) 48)), σ, τ) := by
  obtain ⟨hG, hG8⟩ := mj_wm_G h
  obtain ⟨hC, hC6⟩ := mj_wm_C h
  have z1 : ∀ g, G ≤ g → g < 8 → ∀ c, c < 6 → σ 73 (8 * c + g) = nI 0 := fun g h1 h2 => (h.2.2.2.2.2.1 g h1 h2).2
  have z2 : ∀ c, C ≤ c → c < 6 → ∀ g, g < 8 → σ 73 (8 * c + g) = nI 0 := fun c h1 h2 => (h.2.2.2.2.2.2.1 c h1 h2).2
  have inner : ∀ c, c < 6 → ∀ n i, i + n = G → mj_E 198 14 [some (.ref 62), some (.int (mj_sum (σ 73) (8 * c + i))), some (.int (nI c)), some (.int (nI i))] [] σ τ = mj_E 198 42 [some (.ref 62), some (.int (mj_sum (σ 73) (8 * c + G))), some (.int (nI c)), some (.int (nI G))] [] σ τ := by
    intro c hc n
    induction n with
    | zero =>
      intro i hi
      obtain rfl : i = G := by omega
      simp (maxSteps := 1000000) (disch := first | assumption | omega) only [↓e198_14, ↓e198_15, ↓e198_16, ↓e198_19, li_p0, li_p1, li_p2, li_p3, li_p4, li_p5, li_p6, li_p7, li_p8, li_p9, li_10, li_11, li_12, li_13, li_14, li_15, li_16, li_17, li_18, li_19, li_20, li_21, li_22, li_23, li_24, li_25, li_26, li_27, li_28, li_29, li_30, li_31, li_32, li_33, li_34, li_35, li_36, li_37, li_38, li_39, li_56, li_57, li_58, li_60, li_61, li_63, li_64, li_65, li_66, li_67, li_68, li_69, li_70, li_71, li_72, li_73, li_74, li_75, li_76, li_77, li_80, li_81, li_82, li_83, li_84, li_85, li_86, li_87, li_88, li_89, li_90, li_91, li_92, lw_q0, lw_q1, lw_q2, lw_q3, lw_q4, lw_q5, lw_q6, lw_q7, lw_q8, lw_q9, lw_10, lw_11, lw_12, lw_13, lw_14, lw_15, lw_16, lw_17, lw_18, lw_19, lw_20, lw_21, lw_22, lw_23, lw_24, lw_25, lw_26, lw_27, lw_28, lw_29, lw_30, lw_31, lw_32, lw_33, lw_34, lw_35, lw_36, lw_37, lw_38, lw_39, lw_56, lw_57, lw_58, lw_60, lw_61, lw_63, lw_64, lw_65, lw_66, lw_67, lw_68, lw_69, lw_70, lw_71, lw_72, lw_73, lw_74, lw_75, lw_76, lw_77, lw_80, lw_81, lw_82, lw_83, lw_84, lw_85, lw_86, lw_87, lw_88, lw_89, ll_78, ll_79, ll_s, rc6, rc2, rc3, rc5, rc7, rc1, rc0, rc4, rcs_0, rcs_1, rcs_2, rcs_3, rcs_4, mj_ib_nI, ↓reduceIte, mj_bdK, mj_ls, mj_ln, nI_clamp, nI_add, pk_mul, mj_nIeq0, mj_nIlt0, mj_nIle0, mj_nIeq, mj_nIle, mj_nIlt, mj_ok0, mj_ok1, mj_okb, mj_b0, mj_bR, mj_bR2, Nat.reduceEqDiff, hG, Nat.le_refl]
    | succ n ih =>
      intro i hi
      have hn : ¬ G ≤ i := by omega
      rw [e198_14]
      have := ih (i + 1) (by omega)
      rw [← Nat.add_assoc, mj_sum] at this
      simp (maxSteps := 1000000) (disch := first | assumption | omega) only [↓e198_15, ↓e198_16, ↓e198_19, ↓e198_22, ↓e198_23, ↓e198_24, ↓e198_27, ↓e198_29, ↓e198_30, ↓e198_31, ↓e198_32, ↓e198_33, ↓e198_34, ↓e198_35, ↓e198_36, ↓e198_39, li_p0, li_p1, li_p2, li_p3, li_p4, li_p5, li_p6, li_p7, li_p8, li_p9, li_10, li_11, li_12, li_13, li_14, li_15, li_16, li_17, li_18, li_19, li_20, li_21, li_22, li_23, li_24, li_25, li_26, li_27, li_28, li_29, li_30, li_31, li_32, li_33, li_34, li_35, li_36, li_37, li_38, li_39, li_56, li_57, li_58, li_60, li_61, li_63, li_64, li_65, li_66, li_67, li_68, li_69, li_70, li_71, li_72, li_73, li_74, li_75, li_76, li_77, li_80, li_81, li_82, li_83, li_84, li_85, li_86, li_87, li_88, li_89, li_90, li_91, li_92, lw_q0, lw_q1, lw_q2, lw_q3, lw_q4, lw_q5, lw_q6, lw_q7, lw_q8, lw_q9, lw_10, lw_11, lw_12, lw_13, lw_14, lw_15, lw_16, lw_17, lw_18, lw_19, lw_20, lw_21, lw_22, lw_23, lw_24, lw_25, lw_26, lw_27, lw_28, lw_29, lw_30, lw_31, lw_32, lw_33, lw_34, lw_35, lw_36, lw_37, lw_38, lw_39, lw_56, lw_57, lw_58, lw_60, lw_61, lw_63, lw_64, lw_65, lw_66, lw_67, lw_68, lw_69, lw_70, lw_71, lw_72, lw_73, lw_74, lw_75, lw_76, lw_77, lw_80, lw_81, lw_82, lw_83, lw_84, lw_85, lw_86, lw_87, lw_88, lw_89, ll_78, ll_79, ll_s, rc6, rc2, rc3, rc5, rc7, rc1, rc0, rc4, rcs_0, rcs_1, rcs_2, rcs_3, rcs_4, mj_ib_nI, ↓reduceIte, mj_bdK, mj_ls, mj_ln, nI_clamp, nI_add, pk_mul, mj_nIeq0, mj_nIlt0, mj_nIle0, mj_nIeq, mj_nIle, mj_nIlt, mj_ok0, mj_ok1, mj_okb, mj_b0, mj_bR, mj_bR2, Nat.reduceEqDiff, hG, hn]
      exact this
  have outer : ∀ n c (l : Option Value), c + n = C → mj_E 198 4 [some (.ref 62), some (.int (mj_sum (σ 73) (8 * c))), some (.int (nI c)), l] [] σ τ = some (some (.int (mj_sum (σ 73) (8 * C))), σ, τ) := by
    intro n
    induction n with
    | zero =>
      intro c l hi
      obtain rfl : c = C := by omega
      simp (maxSteps := 1000000) (disch := first | assumption | omega) only [↓e198_4, ↓e198_5, ↓e198_6, ↓e198_9, ↓e198_48, ↓e198_49, li_p0, li_p1, li_p2, li_p3, li_p4, li_p5, li_p6, li_p7, li_p8, li_p9, li_10, li_11, li_12, li_13, li_14, li_15, li_16, li_17, li_18, li_19, li_20, li_21, li_22, li_23, li_24, li_25, li_26, li_27, li_28, li_29, li_30, li_31, li_32, li_33, li_34, li_35, li_36, li_37, li_38, li_39, li_56, li_57, li_58, li_60, li_61, li_63, li_64, li_65, li_66, li_67, li_68, li_69, li_70, li_71, li_72, li_73, li_74, li_75, li_76, li_77, li_80, li_81, li_82, li_83, li_84, li_85, li_86, li_87, li_88, li_89, li_90, li_91, li_92, lw_q0, lw_q1, lw_q2, lw_q3, lw_q4, lw_q5, lw_q6, lw_q7, lw_q8, lw_q9, lw_10, lw_11, lw_12, lw_13, lw_14, lw_15, lw_16, lw_17, lw_18, lw_19, lw_20, lw_21, lw_22, lw_23, lw_24, lw_25, lw_26, lw_27, lw_28, lw_29, lw_30, lw_31, lw_32, lw_33, lw_34, lw_35, lw_36, lw_37, lw_38, lw_39, lw_56, lw_57, lw_58, lw_60, lw_61, lw_63, lw_64, lw_65, lw_66, lw_67, lw_68, lw_69, lw_70, lw_71, lw_72, lw_73, lw_74, lw_75, lw_76, lw_77, lw_80, lw_81, lw_82, lw_83, lw_84, lw_85, lw_86, lw_87, lw_88, lw_89, ll_78, ll_79, ll_s, rc6, rc2, rc3, rc5, rc7, rc1, rc0, rc4, rcs_0, rcs_1, rcs_2, rcs_3, rcs_4, mj_ib_nI, ↓reduceIte, mj_bdK, mj_ls, mj_ln, nI_clamp, nI_add, pk_mul, mj_nIeq0, mj_nIlt0, mj_nIle0, mj_nIeq, mj_nIle, mj_nIlt, mj_ok0, mj_ok1, mj_okb, mj_b0, mj_bR, mj_bR2, Nat.reduceEqDiff, hC, Nat.le_refl]
    | succ n ih =>
      intro c l hi
      have hn : ¬ C ≤ c := by omega
      have q := inner c (by omega) G 0 (by omega)
      have q2 := ih (c + 1) (some (.int (nI G))) (by omega)
      have e : mj_sum (σ 73) (8 * c + G) = mj_sum (σ 73) (8 * (c + 1)) := by
        have q3 := mj_sum_z (f := σ 73) (a := 8 * c + G) (8 - G) (fun i h1 h2 => by
          have q4 := z1 (i - 8 * c) (by omega) (by omega) c (by omega)
          rw [show 8 * c + (i - 8 * c) = i by omega] at q4
          exact q4)
        rw [← q3]; exact congrArg _ (by omega)
      rw [e] at q
      rw [Nat.add_zero] at q
      rw [e198_4]
      simp (maxSteps := 1000000) (disch := first | assumption | omega) only [↓e198_5, ↓e198_6, ↓e198_9, ↓e198_12, ↓e198_13, ↓e198_42, ↓e198_45, li_p0, li_p1, li_p2, li_p3, li_p4, li_p5, li_p6, li_p7, li_p8, li_p9, li_10, li_11, li_12, li_13, li_14, li_15, li_16, li_17, li_18, li_19, li_20, li_21, li_22, li_23, li_24, li_25, li_26, li_27, li_28, li_29, li_30, li_31, li_32, li_33, li_34, li_35, li_36, li_37, li_38, li_39, li_56, li_57, li_58, li_60, li_61, li_63, li_64, li_65, li_66, li_67, li_68, li_69, li_70, li_71, li_72, li_73, li_74, li_75, li_76, li_77, li_80, li_81, li_82, li_83, li_84, li_85, li_86, li_87, li_88, li_89, li_90, li_91, li_92, lw_q0, lw_q1, lw_q2, lw_q3, lw_q4, lw_q5, lw_q6, lw_q7, lw_q8, lw_q9, lw_10, lw_11, lw_12, lw_13, lw_14, lw_15, lw_16, lw_17, lw_18, lw_19, lw_20, lw_21, lw_22, lw_23, lw_24, lw_25, lw_26, lw_27, lw_28, lw_29, lw_30, lw_31, lw_32, lw_33, lw_34, lw_35, lw_36, lw_37, lw_38, lw_39, lw_56, lw_57, lw_58, lw_60, lw_61, lw_63, lw_64, lw_65, lw_66, lw_67, lw_68, lw_69, lw_70, lw_71, lw_72, lw_73, lw_74, lw_75, lw_76, lw_77, lw_80, lw_81, lw_82, lw_83, lw_84, lw_85, lw_86, lw_87, lw_88, lw_89, ll_78, ll_79, ll_s, rc6, rc2, rc3, rc5, rc7, rc1, rc0, rc4, rcs_0, rcs_1, rcs_2, rcs_3, rcs_4, mj_ib_nI, ↓reduceIte, mj_bdK, mj_ls, mj_ln, nI_clamp, nI_add, pk_mul, mj_nIeq0, mj_nIlt0, mj_nIle0, mj_nIeq, mj_nIle, mj_nIlt, mj_ok0, mj_ok1, mj_okb, mj_b0, mj_bR, mj_bR2, Nat.reduceEqDiff, hC, hn, q]
      exact q2
  have h0 := outer C 0 none (by omega)
  rw [show mj_sum (σ 73) (8 * C) = mj_sum (σ 73) 48 by
    have q3 := mj_sum_z (f := σ 73) (a := 8 * C) (48 - 8 * C) (fun i h1 h2 => by
      have q4 := z2 (i / 8) (by omega) (by omega) (i % 8) (by omega)
      rw [show 8 * (i / 8) + i % 8 = i by omega] at q4
      exact q4)
    rw [← q3]; exact congrArg _ (by omega)] at h0
  simp (maxSteps := 1000000) (disch := first | assumption | omega) only [c198, ↓e198_0, ↓e198_1, ↓e198_2, ↓e198_3, ↓e198_5, ↓e198_6, ↓e198_9, ↓e198_12, ↓e198_13, ↓e198_14, ↓e198_15, ↓e198_16, ↓e198_19, ↓e198_22, ↓e198_23, ↓e198_24, ↓e198_27, ↓e198_29, ↓e198_30, ↓e198_31, ↓e198_32, ↓e198_33, ↓e198_34, ↓e198_35, ↓e198_36, ↓e198_39, ↓e198_42, ↓e198_45, ↓e198_48, ↓e198_49, li_p0, li_p1, li_p2, li_p3, li_p4, li_p5, li_p6, li_p7, li_p8, li_p9, li_10, li_11, li_12, li_13, li_14, li_15, li_16, li_17, li_18, li_19, li_20, li_21, li_22, li_23, li_24, li_25, li_26, li_27, li_28, li_29, li_30, li_31, li_32, li_33, li_34, li_35, li_36, li_37, li_38, li_39, li_56, li_57, li_58, li_60, li_61, li_63, li_64, li_65, li_66, li_67, li_68, li_69, li_70, li_71, li_72, li_73, li_74, li_75, li_76, li_77, li_80, li_81, li_82, li_83, li_84, li_85, li_86, li_87, li_88, li_89, li_90, li_91, li_92, lw_q0, lw_q1, lw_q2, lw_q3, lw_q4, lw_q5, lw_q6, lw_q7, lw_q8, lw_q9, lw_10, lw_11, lw_12, lw_13, lw_14, lw_15, lw_16, lw_17, lw_18, lw_19, lw_20, lw_21, lw_22, lw_23, lw_24, lw_25, lw_26, lw_27, lw_28, lw_29, lw_30, lw_31, lw_32, lw_33, lw_34, lw_35, lw_36, lw_37, lw_38, lw_39, lw_56, lw_57, lw_58, lw_60, lw_61, lw_63, lw_64, lw_65, lw_66, lw_67, lw_68, lw_69, lw_70, lw_71, lw_72, lw_73, lw_74, lw_75, lw_76, lw_77, lw_80, lw_81, lw_82, lw_83, lw_84, lw_85, lw_86, lw_87, lw_88, lw_89, ll_78, ll_79, ll_s, rc6, rc2, rc3, rc5, rc7, rc1, rc0, rc4, rcs_0, rcs_1, rcs_2, rcs_3, rcs_4, mj_ib_nI, ↓reduceIte, mj_bdK, mj_ls, mj_ln, nI_clamp, nI_add, pk_mul, mj_nIeq0, mj_nIlt0, mj_nIle0, mj_nIeq, mj_nIle, mj_nIlt, mj_ok0, mj_ok1, mj_okb, mj_b0, mj_bR, mj_bR2, Nat.reduceEqDiff]
  exact h0

end
