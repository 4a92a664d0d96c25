/-! A YEAR, the model's -/
section
variable {π : Nat → Nat → Int32} {σ σm : mj_S} {τ τm : mj_T} {A : mj_A} {G C c s : Nat}
theorem s_X8_pas_in (h : mj_wf π G C) (hc : c < C) : ∀ n i, i + n = G → mj_E 180 37 [some (.ref 62), some (.int (nI c)), some (.int (nI i))] [] (mj_wb 64 62 (mj_tyg π c i) σ) τ = mj_E 180 102 [some (.ref 62), some (.int (nI c)), some (.int (nI G))] [] (mj_wb 64 62 (mj_tyg π c G) σ) τ := by
  have hC := h.1.2.1
  have hG := h.1.1
  intro n
  induction n with
  | zero =>
    intro i hi
    obtain rfl : i = G := by omega
    have hw := mj_wf_tyg h hc i (Nat.le_refl i)
    have h0 := hw.1.2.2.1
    simp (maxSteps := 1000000) (disch := first | assumption | omega) only [↓e180_37, ↓e180_38, ↓e180_39, ↓e180_42, li_p0, li_p1, li_p2, li_p3, li_p4, li_p5, li_p6, li_p7, li_p8, li_p9, li_10, li_11, li_12, li_13, li_14, li_15, li_16, li_17, li_18, li_19, li_20, li_21, li_22, li_23, li_24, li_25, li_26, li_27, li_28, li_29, li_30, li_31, li_32, li_33, li_34, li_35, li_36, li_37, li_38, li_39, li_56, li_57, li_58, li_60, li_61, li_63, li_64, li_65, li_66, li_67, li_68, li_69, li_70, li_71, li_72, li_73, li_74, li_75, li_76, li_77, li_80, li_81, li_82, li_83, li_84, li_85, li_86, li_87, li_88, li_89, li_90, li_91, li_92, lw_q0, lw_q1, lw_q2, lw_q3, lw_q4, lw_q5, lw_q6, lw_q7, lw_q8, lw_q9, lw_10, lw_11, lw_12, lw_13, lw_14, lw_15, lw_16, lw_17, lw_18, lw_19, lw_20, lw_21, lw_22, lw_23, lw_24, lw_25, lw_26, lw_27, lw_28, lw_29, lw_30, lw_31, lw_32, lw_33, lw_34, lw_35, lw_36, lw_37, lw_38, lw_39, lw_56, lw_57, lw_58, lw_60, lw_61, lw_63, lw_64, lw_65, lw_66, lw_67, lw_68, lw_69, lw_70, lw_71, lw_72, lw_73, lw_74, lw_75, lw_76, lw_77, lw_80, lw_81, lw_82, lw_83, lw_84, lw_85, lw_86, lw_87, lw_88, lw_89, ll_78, ll_79, ll_s, rc6, rc2, rc3, rc5, rc7, rc1, rc0, rc4, rcs_0, rcs_1, rcs_2, rcs_3, rcs_4, mj_ib_nI, ↓reduceIte, mj_bdK, mj_ls, mj_ln, nI_clamp, nI_add, pk_mul, mj_nIeq0, mj_nIlt0, mj_nIle0, mj_nIeq, mj_nIle, mj_nIlt, mj_ok0, mj_ok1, mj_okb, mj_b0, mj_bR, mj_bR2, Nat.reduceEqDiff, wo_0, h0, Nat.le_refl]
  | succ n ih =>
    intro i hi
    have hn : ¬ G ≤ i := by omega
    have hi8 : i < 8 := by omega
    have hc6 : c < 6 := by omega
    have hw := mj_wf_tyg h hc i (by omega)
    have h0 := hw.1.2.2.1
    have hpv : ∀ σ, mj_pv 64 62 (mj_wb 64 62 (mj_tyg π c i) σ) = mj_tyg π c i := fun σ => mj_pv_wb (by decide) hw
    have := ih (i + 1) (by omega)
    rw [mj_tyg] at this
    rw [e180_37]
    by_cases ho : mj_bt (mj_tyg π c i 8 c) i = nI 1
    · have ho2 : (mj_tyg π c i 8 c >>> (nI i &&& 31)) &&& nI 1 = nI 1 := ho
      by_cases hd : mj_tyg π c i 0 i = nI 4
      · rw [if_pos ho, if_pos hd] at this
        simp (maxSteps := 1000000) (disch := first | assumption | omega) only [↓e180_38, ↓e180_39, ↓e180_42, ↓e180_45, ↓e180_46, ↓e180_49, ↓e180_50, ↓e180_51, ↓e180_52, ↓e180_53, ↓e180_54, ↓e180_55, ↓e180_56, ↓e180_59, ↓e180_60, ↓e180_63, ↓e180_64, ↓e180_65, ↓e180_66, ↓e180_69, ↓e180_70, ↓e180_73, ↓e180_75, ↓e180_76, ↓e180_77, ↓e180_78, ↓e180_79, ↓e180_80, ↓e180_81, ↓e180_82, ↓e180_83, ↓e180_84, ↓e180_87, ↓e180_88, ↓e180_89, ↓e180_90, ↓e180_91, ↓e180_92, ↓e180_95, ↓e180_96, ↓e180_99, li_p0, li_p1, li_p2, li_p3, li_p4, li_p5, li_p6, li_p7, li_p8, li_p9, li_10, li_11, li_12, li_13, li_14, li_15, li_16, li_17, li_18, li_19, li_20, li_21, li_22, li_23, li_24, li_25, li_26, li_27, li_28, li_29, li_30, li_31, li_32, li_33, li_34, li_35, li_36, li_37, li_38, li_39, li_56, li_57, li_58, li_60, li_61, li_63, li_64, li_65, li_66, li_67, li_68, li_69, li_70, li_71, li_72, li_73, li_74, li_75, li_76, li_77, li_80, li_81, li_82, li_83, li_84, li_85, li_86, li_87, li_88, li_89, li_90, li_91, li_92, lw_q0, lw_q1, lw_q2, lw_q3, lw_q4, lw_q5, lw_q6, lw_q7, lw_q8, lw_q9, lw_10, lw_11, lw_12, lw_13, lw_14, lw_15, lw_16, lw_17, lw_18, lw_19, lw_20, lw_21, lw_22, lw_23, lw_24, lw_25, lw_26, lw_27, lw_28, lw_29, lw_30, lw_31, lw_32, lw_33, lw_34, lw_35, lw_36, lw_37, lw_38, lw_39, lw_56, lw_57, lw_58, lw_60, lw_61, lw_63, lw_64, lw_65, lw_66, lw_67, lw_68, lw_69, lw_70, lw_71, lw_72, lw_73, lw_74, lw_75, lw_76, lw_77, lw_80, lw_81, lw_82, lw_83, lw_84, lw_85, lw_86, lw_87, lw_88, lw_89, ll_78, ll_79, ll_s, rc6, rc2, rc3, rc5, rc7, rc1, rc0, rc4, rcs_0, rcs_1, rcs_2, rcs_3, rcs_4, mj_ib_nI, ↓reduceIte, mj_bdK, mj_ls, mj_ln, nI_clamp, nI_add, pk_mul, mj_nIeq0, mj_nIlt0, mj_nIle0, mj_nIeq, mj_nIle, mj_nIlt, mj_ok0, mj_ok1, mj_okb, mj_b0, mj_bR, mj_bR2, Nat.reduceEqDiff, wo_0, wm_8, wm_0, h0, hn, ho2, hd]
        exact this
      · rw [if_pos ho, if_neg hd] at this
        simp (maxSteps := 1000000) (disch := first | assumption | omega) only [↓e180_38, ↓e180_39, ↓e180_42, ↓e180_45, ↓e180_46, ↓e180_49, ↓e180_50, ↓e180_51, ↓e180_52, ↓e180_53, ↓e180_54, ↓e180_55, ↓e180_56, ↓e180_59, ↓e180_60, ↓e180_63, ↓e180_64, ↓e180_65, ↓e180_66, ↓e180_69, ↓e180_70, ↓e180_73, ↓e180_75, ↓e180_76, ↓e180_77, ↓e180_78, ↓e180_79, ↓e180_80, ↓e180_81, ↓e180_82, ↓e180_83, ↓e180_84, ↓e180_87, ↓e180_88, ↓e180_89, ↓e180_90, ↓e180_91, ↓e180_92, ↓e180_95, ↓e180_96, ↓e180_99, li_p0, li_p1, li_p2, li_p3, li_p4, li_p5, li_p6, li_p7, li_p8, li_p9, li_10, li_11, li_12, li_13, li_14, li_15, li_16, li_17, li_18, li_19, li_20, li_21, li_22, li_23, li_24, li_25, li_26, li_27, li_28, li_29, li_30, li_31, li_32, li_33, li_34, li_35, li_36, li_37, li_38, li_39, li_56, li_57, li_58, li_60, li_61, li_63, li_64, li_65, li_66, li_67, li_68, li_69, li_70, li_71, li_72, li_73, li_74, li_75, li_76, li_77, li_80, li_81, li_82, li_83, li_84, li_85, li_86, li_87, li_88, li_89, li_90, li_91, li_92, lw_q0, lw_q1, lw_q2, lw_q3, lw_q4, lw_q5, lw_q6, lw_q7, lw_q8, lw_q9, lw_10, lw_11, lw_12, lw_13, lw_14, lw_15, lw_16, lw_17, lw_18, lw_19, lw_20, lw_21, lw_22, lw_23, lw_24, lw_25, lw_26, lw_27, lw_28, lw_29, lw_30, lw_31, lw_32, lw_33, lw_34, lw_35, lw_36, lw_37, lw_38, lw_39, lw_56, lw_57, lw_58, lw_60, lw_61, lw_63, lw_64, lw_65, lw_66, lw_67, lw_68, lw_69, lw_70, lw_71, lw_72, lw_73, lw_74, lw_75, lw_76, lw_77, lw_80, lw_81, lw_82, lw_83, lw_84, lw_85, lw_86, lw_87, lw_88, lw_89, ll_78, ll_79, ll_s, rc6, rc2, rc3, rc5, rc7, rc1, rc0, rc4, rcs_0, rcs_1, rcs_2, rcs_3, rcs_4, mj_ib_nI, ↓reduceIte, mj_bdK, mj_ls, mj_ln, nI_clamp, nI_add, pk_mul, mj_nIeq0, mj_nIlt0, mj_nIle0, mj_nIeq, mj_nIle, mj_nIlt, mj_ok0, mj_ok1, mj_okb, mj_b0, mj_bR, mj_bR2, Nat.reduceEqDiff, wo_0, wm_8, wm_0, wm_3, um_9, h0, hn, ho2, hd, s_X8_more, hpv]
        exact this
    · have ho2 : ¬ (mj_tyg π c i 8 c >>> (nI i &&& 31)) &&& nI 1 = nI 1 := ho
      rw [if_neg ho] at this
      simp (maxSteps := 1000000) (disch := first | assumption | omega) only [↓e180_38, ↓e180_39, ↓e180_42, ↓e180_45, ↓e180_46, ↓e180_49, ↓e180_50, ↓e180_51, ↓e180_52, ↓e180_53, ↓e180_54, ↓e180_55, ↓e180_56, ↓e180_59, ↓e180_60, ↓e180_63, ↓e180_64, ↓e180_65, ↓e180_66, ↓e180_69, ↓e180_70, ↓e180_73, ↓e180_75, ↓e180_76, ↓e180_77, ↓e180_78, ↓e180_79, ↓e180_80, ↓e180_81, ↓e180_82, ↓e180_83, ↓e180_84, ↓e180_87, ↓e180_88, ↓e180_89, ↓e180_90, ↓e180_91, ↓e180_92, ↓e180_95, ↓e180_96, ↓e180_99, li_p0, li_p1, li_p2, li_p3, li_p4, li_p5, li_p6, li_p7, li_p8, li_p9, li_10, li_11, li_12, li_13, li_14, li_15, li_16, li_17, li_18, li_19, li_20, li_21, li_22, li_23, li_24, li_25, li_26, li_27, li_28, li_29, li_30, li_31, li_32, li_33, li_34, li_35, li_36, li_37, li_38, li_39, li_56, li_57, li_58, li_60, li_61, li_63, li_64, li_65, li_66, li_67, li_68, li_69, li_70, li_71, li_72, li_73, li_74, li_75, li_76, li_77, li_80, li_81, li_82, li_83, li_84, li_85, li_86, li_87, li_88, li_89, li_90, li_91, li_92, lw_q0, lw_q1, lw_q2, lw_q3, lw_q4, lw_q5, lw_q6, lw_q7, lw_q8, lw_q9, lw_10, lw_11, lw_12, lw_13, lw_14, lw_15, lw_16, lw_17, lw_18, lw_19, lw_20, lw_21, lw_22, lw_23, lw_24, lw_25, lw_26, lw_27, lw_28, lw_29, lw_30, lw_31, lw_32, lw_33, lw_34, lw_35, lw_36, lw_37, lw_38, lw_39, lw_56, lw_57, lw_58, lw_60, lw_61, lw_63, lw_64, lw_65, lw_66, lw_67, lw_68, lw_69, lw_70, lw_71, lw_72, lw_73, lw_74, lw_75, lw_76, lw_77, lw_80, lw_81, lw_82, lw_83, lw_84, lw_85, lw_86, lw_87, lw_88, lw_89, ll_78, ll_79, ll_s, rc6, rc2, rc3, rc5, rc7, rc1, rc0, rc4, rcs_0, rcs_1, rcs_2, rcs_3, rcs_4, mj_ib_nI, ↓reduceIte, mj_bdK, mj_ls, mj_ln, nI_clamp, nI_add, pk_mul, mj_nIeq0, mj_nIlt0, mj_nIle0, mj_nIeq, mj_nIle, mj_nIlt, mj_ok0, mj_ok1, mj_okb, mj_b0, mj_bR, mj_bR2, Nat.reduceEqDiff, wo_0, wm_8, wm_0, h0, hn, ho2]
      exact this

theorem mj_ageP {k : Nat} (h : k ≤ 30) : (30 ≤ k → mj_m30 (nI k + nI 1) = nI (k + 0)) ∧ (¬ 30 ≤ k → mj_m30 (nI k + nI 1) = nI (k + 1)) := by
  have z : ∀ k, k < 31 → (30 ≤ k → mj_m30 (nI k + nI 1) = nI (k + 0)) ∧ (¬ 30 ≤ k → mj_m30 (nI k + nI 1) = nI (k + 1)) := by decide
  exact z k (by omega)
theorem s_X8_pas_1 (h : mj_wf π G C) : ∀ n c l, c + n = C → ∃ l', mj_E 180 2 [some (.ref 62), some (.int (nI c)), l] [] (mj_wb 64 62 (mj_y1 π G c) σ) τ = mj_E 180 108 [some (.ref 62), some (.int (nI C)), l'] [] (mj_wb 64 62 (mj_y1 π G C) σ) τ := by
  have hC := h.1.2.1
  intro n
  induction n with
  | zero =>
    intro c l hi
    obtain rfl : c = C := by omega
    have hw := mj_wf_y1 h c (Nat.le_refl c)
    have h0 := hw.1.2.2.2.1
    exact ⟨l, by simp (maxSteps := 1000000) (disch := first | assumption | omega) only [↓e180_2, ↓e180_3, ↓e180_4, ↓e180_7, li_p0, li_p1, li_p2, li_p3, li_p4, li_p5, li_p6, li_p7, li_p8, li_p9, li_10, li_11, li_12, li_13, li_14, li_15, li_16, li_17, li_18, li_19, li_20, li_21, li_22, li_23, li_24, li_25, li_26, li_27, li_28, li_29, li_30, li_31, li_32, li_33, li_34, li_35, li_36, li_37, li_38, li_39, li_56, li_57, li_58, li_60, li_61, li_63, li_64, li_65, li_66, li_67, li_68, li_69, li_70, li_71, li_72, li_73, li_74, li_75, li_76, li_77, li_80, li_81, li_82, li_83, li_84, li_85, li_86, li_87, li_88, li_89, li_90, li_91, li_92, lw_q0, lw_q1, lw_q2, lw_q3, lw_q4, lw_q5, lw_q6, lw_q7, lw_q8, lw_q9, lw_10, lw_11, lw_12, lw_13, lw_14, lw_15, lw_16, lw_17, lw_18, lw_19, lw_20, lw_21, lw_22, lw_23, lw_24, lw_25, lw_26, lw_27, lw_28, lw_29, lw_30, lw_31, lw_32, lw_33, lw_34, lw_35, lw_36, lw_37, lw_38, lw_39, lw_56, lw_57, lw_58, lw_60, lw_61, lw_63, lw_64, lw_65, lw_66, lw_67, lw_68, lw_69, lw_70, lw_71, lw_72, lw_73, lw_74, lw_75, lw_76, lw_77, lw_80, lw_81, lw_82, lw_83, lw_84, lw_85, lw_86, lw_87, lw_88, lw_89, ll_78, ll_79, ll_s, rc6, rc2, rc3, rc5, rc7, rc1, rc0, rc4, rcs_0, rcs_1, rcs_2, rcs_3, rcs_4, mj_ib_nI, ↓reduceIte, mj_bdK, mj_ls, mj_ln, nI_clamp, nI_add, pk_mul, mj_nIeq0, mj_nIlt0, mj_nIle0, mj_nIeq, mj_nIle, mj_nIlt, mj_ok0, mj_ok1, mj_okb, mj_b0, mj_bR, mj_bR2, Nat.reduceEqDiff, wo_1, h0, Nat.le_refl]⟩
  | succ n ih =>
    intro c l hi
    have hn : ¬ C ≤ c := by omega
    have hc6 : c < 6 := by omega
    have hw := mj_wf_y1 h c (by omega)
    have h0 := hw.1.2.2.2.1
    obtain ⟨k, hk, ek⟩ := (hw.2.2.1 c hc6).2.2.1
    obtain ⟨l', q⟩ := ih (c + 1) (some (.int (nI G))) (by omega)
    rw [mj_y1] at q
    have hw2 : mj_wf (mj_up (mj_y1 π G c) 7 c (mj_m30 (mj_y1 π G c 7 c + nI 1))) G C := mj_wf_up7 hw (by omega) (by rw [ek, nI_add]; exact mj_m30_to (mj_to_n (k + 1)) (by omega))
    have q2 := s_X8_pas_in (σ := σ) (τ := τ) hw2 (show c < C by omega) G 0 (by omega)
    rw [show ∀ ρ, mj_tyg ρ c 0 = ρ from fun _ => rfl] at q2
    rw [ek] at q q2
    refine ⟨l', ?_⟩
    rw [← q, e180_2]
    by_cases h3 : 30 ≤ k
    · rw [(mj_ageP hk).1 h3] at q2 ⊢
      simp (maxSteps := 1000000) (disch := first | assumption | omega) only [↓e180_3, ↓e180_4, ↓e180_7, ↓e180_10, ↓e180_11, ↓e180_14, ↓e180_15, ↓e180_16, ↓e180_17, ↓e180_18, ↓e180_21, ↓e180_22, ↓e180_23, ↓e180_25, ↓e180_28, ↓e180_29, ↓e180_32, ↓e180_33, ↓e180_34, ↓e180_35, ↓e180_36, ↓e180_102, ↓e180_105, li_p0, li_p1, li_p2, li_p3, li_p4, li_p5, li_p6, li_p7, li_p8, li_p9, li_10, li_11, li_12, li_13, li_14, li_15, li_16, li_17, li_18, li_19, li_20, li_21, li_22, li_23, li_24, li_25, li_26, li_27, li_28, li_29, li_30, li_31, li_32, li_33, li_34, li_35, li_36, li_37, li_38, li_39, li_56, li_57, li_58, li_60, li_61, li_63, li_64, li_65, li_66, li_67, li_68, li_69, li_70, li_71, li_72, li_73, li_74, li_75, li_76, li_77, li_80, li_81, li_82, li_83, li_84, li_85, li_86, li_87, li_88, li_89, li_90, li_91, li_92, lw_q0, lw_q1, lw_q2, lw_q3, lw_q4, lw_q5, lw_q6, lw_q7, lw_q8, lw_q9, lw_10, lw_11, lw_12, lw_13, lw_14, lw_15, lw_16, lw_17, lw_18, lw_19, lw_20, lw_21, lw_22, lw_23, lw_24, lw_25, lw_26, lw_27, lw_28, lw_29, lw_30, lw_31, lw_32, lw_33, lw_34, lw_35, lw_36, lw_37, lw_38, lw_39, lw_56, lw_57, lw_58, lw_60, lw_61, lw_63, lw_64, lw_65, lw_66, lw_67, lw_68, lw_69, lw_70, lw_71, lw_72, lw_73, lw_74, lw_75, lw_76, lw_77, lw_80, lw_81, lw_82, lw_83, lw_84, lw_85, lw_86, lw_87, lw_88, lw_89, ll_78, ll_79, ll_s, rc6, rc2, rc3, rc5, rc7, rc1, rc0, rc4, rcs_0, rcs_1, rcs_2, rcs_3, rcs_4, mj_ib_nI, ↓reduceIte, mj_bdK, mj_ls, mj_ln, nI_clamp, nI_add, pk_mul, mj_nIeq0, mj_nIlt0, mj_nIle0, mj_nIeq, mj_nIle, mj_nIlt, mj_ok0, mj_ok1, mj_okb, mj_b0, mj_bR, mj_bR2, Nat.reduceEqDiff, wo_1, wm_7, um_7, h0, hn, ek, h3, q2]
    · rw [(mj_ageP hk).2 h3] at q2 ⊢
      simp (maxSteps := 1000000) (disch := first | assumption | omega) only [↓e180_3, ↓e180_4, ↓e180_7, ↓e180_10, ↓e180_11, ↓e180_14, ↓e180_15, ↓e180_16, ↓e180_17, ↓e180_18, ↓e180_21, ↓e180_22, ↓e180_23, ↓e180_25, ↓e180_28, ↓e180_29, ↓e180_32, ↓e180_33, ↓e180_34, ↓e180_35, ↓e180_36, ↓e180_102, ↓e180_105, li_p0, li_p1, li_p2, li_p3, li_p4, li_p5, li_p6, li_p7, li_p8, li_p9, li_10, li_11, li_12, li_13, li_14, li_15, li_16, li_17, li_18, li_19, li_20, li_21, li_22, li_23, li_24, li_25, li_26, li_27, li_28, li_29, li_30, li_31, li_32, li_33, li_34, li_35, li_36, li_37, li_38, li_39, li_56, li_57, li_58, li_60, li_61, li_63, li_64, li_65, li_66, li_67, li_68, li_69, li_70, li_71, li_72, li_73, li_74, li_75, li_76, li_77, li_80, li_81, li_82, li_83, li_84, li_85, li_86, li_87, li_88, li_89, li_90, li_91, li_92, lw_q0, lw_q1, lw_q2, lw_q3, lw_q4, lw_q5, lw_q6, lw_q7, lw_q8, lw_q9, lw_10, lw_11, lw_12, lw_13, lw_14, lw_15, lw_16, lw_17, lw_18, lw_19, lw_20, lw_21, lw_22, lw_23, lw_24, lw_25, lw_26, lw_27, lw_28, lw_29, lw_30, lw_31, lw_32, lw_33, lw_34, lw_35, lw_36, lw_37, lw_38, lw_39, lw_56, lw_57, lw_58, lw_60, lw_61, lw_63, lw_64, lw_65, lw_66, lw_67, lw_68, lw_69, lw_70, lw_71, lw_72, lw_73, lw_74, lw_75, lw_76, lw_77, lw_80, lw_81, lw_82, lw_83, lw_84, lw_85, lw_86, lw_87, lw_88, lw_89, ll_78, ll_79, ll_s, rc6, rc2, rc3, rc5, rc7, rc1, rc0, rc4, rcs_0, rcs_1, rcs_2, rcs_3, rcs_4, mj_ib_nI, ↓reduceIte, mj_bdK, mj_ls, mj_ln, nI_clamp, nI_add, pk_mul, mj_nIeq0, mj_nIlt0, mj_nIle0, mj_nIeq, mj_nIle, mj_nIlt, mj_ok0, mj_ok1, mj_okb, mj_b0, mj_bR, mj_bR2, Nat.reduceEqDiff, wo_1, wm_7, um_7, h0, hn, ek, h3, q2]

end
