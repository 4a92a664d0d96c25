/-! CHOOSING IN TRUTH, the model's -/
section
variable {π : Nat → Nat → Int32} {σ σm : mj_S} {τ τm : mj_T} {A : mj_A} {G C c s : Nat}
theorem mj_up_cm {j i j' i' : Nat} {v w : Int32} (h : ¬ j = j') : mj_up (mj_up π j i v) j' i' w = mj_up (mj_up π j' i' w) j i v := by
  funext a b
  unfold mj_up
  by_cases h1 : a = j' ∧ b = i'
  · rw [if_pos h1, if_neg (by omega), if_pos h1]
  · rw [if_neg h1, if_neg h1]
theorem s_X8_choosesInTruth (h : mj_wf π G C) (hc : c < C) : ∃ a b d, mj_C 179 [.ref 62, .int (nI c)] (mj_wb 64 62 π σ) τ = some (some (.int (mj_tk π G c)), mj_wb 64 62 (mj_lc π G c) (mj_s3 σ a b d), τ) := by
  have hC := h.1.2.1
  have hG := h.1.1
  have hse := s_X8_settles (τ := τ) (mj_wm_wb (σ := σ) h) (show c < 6 by omega)
  rw [mj_pv_wb (by decide) h, mj_s3_wb] at hse
  refine ⟨mj_gv π G c, mj_kp π G c, mj_tk π G c, ?_⟩
  have r7 : ∀ ρ a b d, mj_wb 64 62 ρ (mj_s3 σ a b d) 62 37 = d := fun ρ a b d => (mj_wb_o5 (by decide) (by decide)).trans mj_s3_7
  have r5 : ∀ ρ a b d, mj_wb 64 62 ρ (mj_s3 σ a b d) 62 35 = a := fun ρ a b d => (mj_wb_o5 (by decide) (by decide)).trans mj_s3_5
  rcases (mj_choice h hc).2 with ⟨e1, e2, -⟩ | ⟨d, t, hd, ht, e1, e2, b1, b2, e3⟩
  · have hl : mj_lc π G c = π := by unfold mj_lc; rw [if_pos e1]
    rw [hl]
    rw [e2] at hse ⊢
    simp (maxSteps := 1000000) (disch := first | assumption | omega) only [c179, ↓e179_0, ↓e179_1, ↓e179_2, ↓e179_5, ↓e179_6, ↓e179_9, ↓e179_10, ↓e179_13, ↓e179_14, ↓e179_15, ↓e179_16, ↓e179_19, ↓e179_20, ↓e179_23, ↓e179_24, ↓e179_25, ↓e179_26, ↓e179_29, ↓e179_30, ↓e179_33, ↓e179_34, ↓e179_36, ↓e179_39, ↓e179_40, ↓e179_43, ↓e179_44, ↓e179_45, ↓e179_46, ↓e179_47, ↓e179_50, ↓e179_51, ↓e179_52, ↓e179_53, ↓e179_54, ↓e179_55, ↓e179_58, ↓e179_59, ↓e179_60, ↓e179_61, ↓e179_64, ↓e179_65, ↓e179_66, ↓e179_67, ↓e179_68, ↓e179_69, ↓e179_72, li_p0, li_p1, li_p2, li_p3, li_p4, li_p5, li_p6, li_p7, li_p8, li_p9, li_10, li_11, li_12, li_13, li_14, li_15, li_16, li_17, li_18, li_19, li_20, li_21, li_22, li_23, li_24, li_25, li_26, li_27, li_28, li_29, li_30, li_31, li_32, li_33, li_34, li_35, li_36, li_37, li_38, li_39, li_56, li_57, li_58, li_60, li_61, li_63, li_64, li_65, li_66, li_67, li_68, li_69, li_70, li_71, li_72, li_73, li_74, li_75, li_76, li_77, li_80, li_81, li_82, li_83, li_84, li_85, li_86, li_87, li_88, li_89, li_90, li_91, li_92, lw_q0, lw_q1, lw_q2, lw_q3, lw_q4, lw_q5, lw_q6, lw_q7, lw_q8, lw_q9, lw_10, lw_11, lw_12, lw_13, lw_14, lw_15, lw_16, lw_17, lw_18, lw_19, lw_20, lw_21, lw_22, lw_23, lw_24, lw_25, lw_26, lw_27, lw_28, lw_29, lw_30, lw_31, lw_32, lw_33, lw_34, lw_35, lw_36, lw_37, lw_38, lw_39, lw_56, lw_57, lw_58, lw_60, lw_61, lw_63, lw_64, lw_65, lw_66, lw_67, lw_68, lw_69, lw_70, lw_71, lw_72, lw_73, lw_74, lw_75, lw_76, lw_77, lw_80, lw_81, lw_82, lw_83, lw_84, lw_85, lw_86, lw_87, lw_88, lw_89, ll_78, ll_79, ll_s, rc6, rc2, rc3, rc5, rc7, rc1, rc0, rc4, rcs_0, rcs_1, rcs_2, rcs_3, rcs_4, mj_ib_nI, ↓reduceIte, mj_bdK, mj_ls, mj_ln, nI_clamp, nI_add, pk_mul, mj_nIeq0, mj_nIlt0, mj_nIle0, mj_nIeq, mj_nIle, mj_nIlt, mj_ok0, mj_ok1, mj_okb, mj_b0, mj_bR, mj_bR2, Nat.reduceEqDiff, hse, r7, r5]
  · have hn1 := (mj_to_m1 (mj_to_n d) (by omega)).2
    have hn2 := (mj_to_m1 (mj_to_n t) (by omega)).2
    have hl : mj_lc π G c = mj_up (mj_up π 8 c (mj_th π G c)) 4 d (mj_mn (π 4 d + nI 1)) := by unfold mj_lc; rw [if_neg (by rw [e1]; exact hn1), e1, nI_clamp (by omega)]
    rw [hl, e3, mj_up_cm (by decide)]
    obtain ⟨m, hm, e8⟩ := (h.2.2.1 c (by omega)).2.2.2
    obtain ⟨v, hv, e4⟩ := (h.2.1 d (by omega)).2.2.2.2
    rw [e8] at b1 b2
    obtain ⟨-, -, m3, -⟩ := mj_mkP (by omega) (by omega) (by omega) b1 b2
    unfold mj_mk at m3
    rw [e8, e4, m3]
    rw [e1, e2] at hse ⊢
    have r4 : ∀ x, mj_up π 4 d x 8 = π 8 := fun x => mj_pv_up9 (by decide)
    have hi1 : d < 8 := by omega
    have hi2 : c < 6 := by omega
    by_cases hv9 : 99 ≤ v
    · obtain rfl : v = 99 := by omega
      have q : mj_mn (nI 99 + nI 1) = nI (99 + 0) := by decide
      rw [q]
      simp (maxSteps := 1000000) (disch := first | assumption | omega) only [c179, ↓e179_0, ↓e179_1, ↓e179_2, ↓e179_5, ↓e179_6, ↓e179_9, ↓e179_10, ↓e179_13, ↓e179_14, ↓e179_15, ↓e179_16, ↓e179_19, ↓e179_20, ↓e179_23, ↓e179_24, ↓e179_25, ↓e179_26, ↓e179_29, ↓e179_30, ↓e179_33, ↓e179_34, ↓e179_36, ↓e179_39, ↓e179_40, ↓e179_43, ↓e179_44, ↓e179_45, ↓e179_46, ↓e179_47, ↓e179_50, ↓e179_51, ↓e179_52, ↓e179_53, ↓e179_54, ↓e179_55, ↓e179_58, ↓e179_59, ↓e179_60, ↓e179_61, ↓e179_64, ↓e179_65, ↓e179_66, ↓e179_67, ↓e179_68, ↓e179_69, ↓e179_72, li_p0, li_p1, li_p2, li_p3, li_p4, li_p5, li_p6, li_p7, li_p8, li_p9, li_10, li_11, li_12, li_13, li_14, li_15, li_16, li_17, li_18, li_19, li_20, li_21, li_22, li_23, li_24, li_25, li_26, li_27, li_28, li_29, li_30, li_31, li_32, li_33, li_34, li_35, li_36, li_37, li_38, li_39, li_56, li_57, li_58, li_60, li_61, li_63, li_64, li_65, li_66, li_67, li_68, li_69, li_70, li_71, li_72, li_73, li_74, li_75, li_76, li_77, li_80, li_81, li_82, li_83, li_84, li_85, li_86, li_87, li_88, li_89, li_90, li_91, li_92, lw_q0, lw_q1, lw_q2, lw_q3, lw_q4, lw_q5, lw_q6, lw_q7, lw_q8, lw_q9, lw_10, lw_11, lw_12, lw_13, lw_14, lw_15, lw_16, lw_17, lw_18, lw_19, lw_20, lw_21, lw_22, lw_23, lw_24, lw_25, lw_26, lw_27, lw_28, lw_29, lw_30, lw_31, lw_32, lw_33, lw_34, lw_35, lw_36, lw_37, lw_38, lw_39, lw_56, lw_57, lw_58, lw_60, lw_61, lw_63, lw_64, lw_65, lw_66, lw_67, lw_68, lw_69, lw_70, lw_71, lw_72, lw_73, lw_74, lw_75, lw_76, lw_77, lw_80, lw_81, lw_82, lw_83, lw_84, lw_85, lw_86, lw_87, lw_88, lw_89, ll_78, ll_79, ll_s, rc6, rc2, rc3, rc5, rc7, rc1, rc0, rc4, rcs_0, rcs_1, rcs_2, rcs_3, rcs_4, mj_ib_nI, ↓reduceIte, mj_bdK, mj_ls, mj_ln, nI_clamp, nI_add, pk_mul, mj_nIeq0, mj_nIlt0, mj_nIle0, mj_nIeq, mj_nIle, mj_nIlt, mj_ok0, mj_ok1, mj_okb, mj_b0, mj_bR, mj_bR2, Nat.reduceEqDiff, hse, r7, r5, hn1, hn2, wm_4, um_4, wm_8, um_8, e4, r4, e8, Nat.le_refl]
    · have q : mj_mn (nI v + nI 1) = nI (v + 1) := by
        have z : ∀ v, v < 99 → mj_mn (nI v + nI 1) = nI (v + 1) := by decide
        exact z v (by omega)
      rw [q]
      simp (maxSteps := 1000000) (disch := first | assumption | omega) only [c179, ↓e179_0, ↓e179_1, ↓e179_2, ↓e179_5, ↓e179_6, ↓e179_9, ↓e179_10, ↓e179_13, ↓e179_14, ↓e179_15, ↓e179_16, ↓e179_19, ↓e179_20, ↓e179_23, ↓e179_24, ↓e179_25, ↓e179_26, ↓e179_29, ↓e179_30, ↓e179_33, ↓e179_34, ↓e179_36, ↓e179_39, ↓e179_40, ↓e179_43, ↓e179_44, ↓e179_45, ↓e179_46, ↓e179_47, ↓e179_50, ↓e179_51, ↓e179_52, ↓e179_53, ↓e179_54, ↓e179_55, ↓e179_58, ↓e179_59, ↓e179_60, ↓e179_61, ↓e179_64, ↓e179_65, ↓e179_66, ↓e179_67, ↓e179_68, ↓e179_69, ↓e179_72, li_p0, li_p1, li_p2, li_p3, li_p4, li_p5, li_p6, li_p7, li_p8, li_p9, li_10, li_11, li_12, li_13, li_14, li_15, li_16, li_17, li_18, li_19, li_20, li_21, li_22, li_23, li_24, li_25, li_26, li_27, li_28, li_29, li_30, li_31, li_32, li_33, li_34, li_35, li_36, li_37, li_38, li_39, li_56, li_57, li_58, li_60, li_61, li_63, li_64, li_65, li_66, li_67, li_68, li_69, li_70, li_71, li_72, li_73, li_74, li_75, li_76, li_77, li_80, li_81, li_82, li_83, li_84, li_85, li_86, li_87, li_88, li_89, li_90, li_91, li_92, lw_q0, lw_q1, lw_q2, lw_q3, lw_q4, lw_q5, lw_q6, lw_q7, lw_q8, lw_q9, lw_10, lw_11, lw_12, lw_13, lw_14, lw_15, lw_16, lw_17, lw_18, lw_19, lw_20, lw_21, lw_22, lw_23, lw_24, lw_25, lw_26, lw_27, lw_28, lw_29, lw_30, lw_31, lw_32, lw_33, lw_34, lw_35, lw_36, lw_37, lw_38, lw_39, lw_56, lw_57, lw_58, lw_60, lw_61, lw_63, lw_64, lw_65, lw_66, lw_67, lw_68, lw_69, lw_70, lw_71, lw_72, lw_73, lw_74, lw_75, lw_76, lw_77, lw_80, lw_81, lw_82, lw_83, lw_84, lw_85, lw_86, lw_87, lw_88, lw_89, ll_78, ll_79, ll_s, rc6, rc2, rc3, rc5, rc7, rc1, rc0, rc4, rcs_0, rcs_1, rcs_2, rcs_3, rcs_4, mj_ib_nI, ↓reduceIte, mj_bdK, mj_ls, mj_ln, nI_clamp, nI_add, pk_mul, mj_nIeq0, mj_nIlt0, mj_nIle0, mj_nIeq, mj_nIle, mj_nIlt, mj_ok0, mj_ok1, mj_okb, mj_b0, mj_bR, mj_bR2, Nat.reduceEqDiff, hse, r7, r5, hn1, hn2, wm_4, um_4, wm_8, um_8, e4, r4, e8, hv9]

end
