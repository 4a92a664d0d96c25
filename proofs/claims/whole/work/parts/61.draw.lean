/-! DRAWS, the model's -/
section
variable {π : Nat → Nat → Int32} {σ σm : mj_S} {τ τm : mj_T} {A : mj_A} {G C s : Nat}
theorem s_X8_draw {n : Nat} (hn : 0 < n) (hn8 : n ≤ 8) : mj_C 186 [.ref 62, .int (nI n)] (mj_wb 64 62 π σ) τ = some (some (.int (nI (mj_dw (π 10 4) n))), mj_wb 64 62 (mj_uc π 4 (mj_sd (π 10 4))) σ, τ) := by
  have hn00 : ¬ n = 0 := by omega
  have hd : (((mj_sd (π 10 4)).toUInt32 >>> ((nI 16).toUInt32 &&& Int32.toUInt32 31)).toInt32) - (((mj_sd (π 10 4)).toUInt32 >>> ((nI 16).toUInt32 &&& Int32.toUInt32 31)).toInt32) / nI n * nI n = nI (mj_dw (π 10 4) n) := by
    have e1 : (((mj_sd (π 10 4)).toUInt32 >>> ((nI 16).toUInt32 &&& Int32.toUInt32 31)).toInt32) = nI ((mj_sd (π 10 4)).toBitVec.toNat / 2 ^ 16) := by
      have h3 := pk_ushr (mj_sd (π 10 4)) (nI 16) 16 (by decide)
      have hb : (mj_sd (π 10 4)).toBitVec.toNat / 2 ^ 16 < 2 ^ 32 := by have := (mj_sd (π 10 4)).toBitVec.isLt; omega
      have h4 := pk_tn hb
      rw [← h4] at h3
      exact Int32.toBitVec_inj.mp (BitVec.eq_of_toNat_eq h3)
    rw [e1, pk_rem (by have := (mj_sd (π 10 4)).toBitVec.isLt; omega) hn (by omega)]
    rfl
  unfold mj_sd at hd ⊢
  simp (maxSteps := 1000000) (disch := first | assumption | omega) only [c186, ↓e186_0, ↓e186_1, ↓e186_2, ↓e186_5, ↓e186_8, ↓e186_9, ↓e186_12, ↓e186_13, ↓e186_16, ↓e186_17, ↓e186_20, ↓e186_22, ↓e186_23, ↓e186_24, ↓e186_25, li_p0, li_p1, li_p2, li_p3, li_p4, li_p5, li_p6, li_p7, li_p8, li_p9, li_10, li_11, li_12, li_13, li_14, li_15, li_16, li_17, li_18, li_19, li_20, li_21, li_22, li_23, li_24, li_25, li_26, li_27, li_28, li_29, li_30, li_31, li_32, li_33, li_34, li_35, li_36, li_37, li_38, li_39, li_56, li_57, li_58, li_60, li_61, li_63, li_64, li_65, li_66, li_67, li_68, li_69, li_70, li_71, li_72, li_73, li_74, li_75, li_76, li_77, li_80, li_81, li_82, li_83, li_84, li_85, li_86, li_87, li_88, li_89, li_90, li_91, li_92, lw_q0, lw_q1, lw_q2, lw_q3, lw_q4, lw_q5, lw_q6, lw_q7, lw_q8, lw_q9, lw_10, lw_11, lw_12, lw_13, lw_14, lw_15, lw_16, lw_17, lw_18, lw_19, lw_20, lw_21, lw_22, lw_23, lw_24, lw_25, lw_26, lw_27, lw_28, lw_29, lw_30, lw_31, lw_32, lw_33, lw_34, lw_35, lw_36, lw_37, lw_38, lw_39, lw_56, lw_57, lw_58, lw_60, lw_61, lw_63, lw_64, lw_65, lw_66, lw_67, lw_68, lw_69, lw_70, lw_71, lw_72, lw_73, lw_74, lw_75, lw_76, lw_77, lw_80, lw_81, lw_82, lw_83, lw_84, lw_85, lw_86, lw_87, lw_88, lw_89, ll_78, ll_79, ll_s, rc6, rc2, rc3, rc5, rc7, rc1, rc0, rc4, rcs_0, rcs_1, rcs_2, rcs_3, rcs_4, mj_ib_nI, ↓reduceIte, mj_bdK, mj_ls, mj_ln, nI_clamp, nI_add, pk_mul, mj_nIeq0, mj_nIlt0, mj_nIle0, mj_nIeq, mj_nIle, mj_nIlt, mj_ok0, mj_ok1, mj_okb, mj_b0, mj_bR, mj_bR2, Nat.reduceEqDiff, wo_4, uo_4, hn00, mj_uc_at, hd]

end
