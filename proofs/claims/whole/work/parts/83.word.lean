/-! PARISH: the class reads a word, an item, a text -/
section
variable {π ρ : Nat → Nat → Int32} {σ σm : mj_S} {τ τm : mj_T} {A : mj_A} {G C c g s n p w : Nat} {T : Nat → Int32} {f pl : Int32} {t : Nat → Int32} {tn : Nat → Nat}
theorem pc_len (hw : w < 5) : mj_C 201 [.ref (93 + w)] σ τ = some (some (.int (nI (pp_len w))), σ, τ) := by
  rcases (show w = 0 ∨ w = 1 ∨ w = 2 ∨ w = 3 ∨ w = 4 by omega) with rfl | rfl | rfl | rfl | rfl
  · exact pc_len_0
  · exact pc_len_1
  · exact pc_len_2
  · exact pc_len_3
  · exact pc_len_4
theorem pc_chr (hw : w < 5) {j : Nat} (hj : j < pp_len w) : mj_C 202 [.ref (93 + w), .int (nI j)] σ τ = some (some (.int (pp_let w j)), σ, τ) := by
  rcases (show w = 0 ∨ w = 1 ∨ w = 2 ∨ w = 3 ∨ w = 4 by omega) with rfl | rfl | rfl | rfl | rfl
  · rcases (show j = 0 ∨ j = 1 ∨ j = 2 ∨ j = 3 ∨ j = 4 by have : j < 5 := hj; omega) with rfl | rfl | rfl | rfl | rfl
    · exact pc_chr_0_0
    · exact pc_chr_0_1
    · exact pc_chr_0_2
    · exact pc_chr_0_3
    · exact pc_chr_0_4
  · rcases (show j = 0 ∨ j = 1 ∨ j = 2 ∨ j = 3 ∨ j = 4 by have : j < 5 := hj; omega) with rfl | rfl | rfl | rfl | rfl
    · exact pc_chr_1_0
    · exact pc_chr_1_1
    · exact pc_chr_1_2
    · exact pc_chr_1_3
    · exact pc_chr_1_4
  · rcases (show j = 0 ∨ j = 1 ∨ j = 2 ∨ j = 3 by have : j < 4 := hj; omega) with rfl | rfl | rfl | rfl
    · exact pc_chr_2_0
    · exact pc_chr_2_1
    · exact pc_chr_2_2
    · exact pc_chr_2_3
  · rcases (show j = 0 ∨ j = 1 ∨ j = 2 by have : j < 3 := hj; omega) with rfl | rfl | rfl
    · exact pc_chr_3_0
    · exact pc_chr_3_1
    · exact pc_chr_3_2
  · rcases (show j = 0 ∨ j = 1 ∨ j = 2 ∨ j = 3 ∨ j = 4 by have : j < 5 := hj; omega) with rfl | rfl | rfl | rfl | rfl
    · exact pc_chr_4_0
    · exact pc_chr_4_1
    · exact pc_chr_4_2
    · exact pc_chr_4_3
    · exact pc_chr_4_4
theorem pp_len_le : pp_len w ≤ 5 := by
  unfold pp_len
  (repeat' split) <;> decide
theorem pc_alike (hs : s < 8) (hn : σ (40 + s) 2 = nI n) (hn2 : n ≤ 160) (hT : ∀ i, i < n → (τ (40 + s + 8) i).toInt32 = T i) (hw : w < 5) (hp : p ≤ 300) : mj_C 49 [.ref 9, .ref (40 + s), .ref (93 + w)] (mj_wb 20 2 π (pp_r σ f (nI p) t)) τ = some (some (.int (nI (pp_a T n p w))), mj_wb 20 2 π (pp_r σ f (nI p) t), τ) := by
  have hr : mj_rcv (93 + w) 20 = true := by
    rcases (show w = 0 ∨ w = 1 ∨ w = 2 ∨ w = 3 ∨ w = 4 by omega) with rfl | rfl | rfl | rfl | rfl <;> rfl
  have hl5 := pp_len_le (w := w)
  have loop : ∀ r j, j + r = pp_len w → mj_E 49 2 [some (.ref 9), some (.ref (40 + s)), some (.ref (93 + w)), some (.int (nI j))] [] (mj_wb 20 2 π (pp_r σ f (nI p) t)) τ = some (some (.int (nI (j + pp_al T n p w r j))), mj_wb 20 2 π (pp_r σ f (nI p) t), τ) := by
    intro r
    induction r with
    | zero =>
      intro j hj
      obtain rfl : j = pp_len w := by omega
      rw [pp_al, Nat.add_zero]
      simp (maxSteps := 1000000) (disch := first | assumption | omega) only [↓e49_2, ↓e49_3, ↓e49_4, ↓e49_7, ↓e49_10, ↓e49_11, ↓e49_12, ↓e49_15, ↓e49_16, ↓e49_17, ↓e49_20, ↓e49_23, ↓e49_24, ↓e49_25, ↓e49_28, ↓e49_29, ↓e49_30, ↓e49_33, ↓e49_34, ↓e49_35, ↓e49_38, ↓e49_41, ↓e49_44, ↓e49_47, ↓e49_48, li_p0, li_p1, li_p2, li_p3, li_p4, li_p5, li_p6, li_p7, li_p8, li_p9, li_10, li_11, li_12, li_13, li_14, li_15, li_16, li_17, li_18, li_19, li_20, li_21, li_22, li_23, li_24, li_25, li_26, li_27, li_28, li_29, li_30, li_31, li_32, li_33, li_34, li_35, li_36, li_37, li_38, li_39, li_56, li_57, li_58, li_60, li_61, li_63, li_64, li_65, li_66, li_67, li_68, li_69, li_70, li_71, li_72, li_73, li_74, li_75, li_76, li_77, li_80, li_81, li_82, li_83, li_84, li_85, li_86, li_87, li_88, li_89, li_90, li_91, li_92, lw_q0, lw_q1, lw_q2, lw_q3, lw_q4, lw_q5, lw_q6, lw_q7, lw_q8, lw_q9, lw_10, lw_11, lw_12, lw_13, lw_14, lw_15, lw_16, lw_17, lw_18, lw_19, lw_20, lw_21, lw_22, lw_23, lw_24, lw_25, lw_26, lw_27, lw_28, lw_29, lw_30, lw_31, lw_32, lw_33, lw_34, lw_35, lw_36, lw_37, lw_38, lw_39, lw_56, lw_57, lw_58, lw_60, lw_61, lw_63, lw_64, lw_65, lw_66, lw_67, lw_68, lw_69, lw_70, lw_71, lw_72, lw_73, lw_74, lw_75, lw_76, lw_77, lw_80, lw_81, lw_82, lw_83, lw_84, lw_85, lw_86, lw_87, lw_88, lw_89, ll_78, ll_79, ll_s, rc6, rc2, rc3, rc5, rc7, rc1, rc0, rc4, rcs_0, rcs_1, rcs_2, rcs_3, rcs_4, mj_ib_nI, ↓reduceIte, mj_bdK, mj_ls, mj_ln, nI_clamp, nI_add, pk_mul, mj_nIeq0, mj_nIlt0, mj_nIle0, mj_nIeq, mj_nIle, mj_nIlt, mj_ok0, mj_ok1, mj_okb, mj_b0, mj_bR, mj_bR2, Nat.reduceEqDiff, hr, pc_len hw, Nat.le_refl]
    | succ r ih =>
      intro j hj
      have h1 : ¬ pp_len w ≤ j := by omega
      have hj2 : j < pp_len w := by omega
      have e := pc_has (π := π) (f := f) (pl := nI p) (t := t) (τ := τ) hs hn hn2 (q := p + j) (by omega)
      have i1 := ih (j + 1) (by omega)
      have len := pc_len (σ := mj_wb 20 2 π (pp_r σ f (nI p) t)) (τ := τ) hw
      have chr := pc_chr (σ := mj_wb 20 2 π (pp_r σ f (nI p) t)) (τ := τ) hw hj2
      rw [pp_al, e49_2]
      by_cases c1 : p + j < n
      · have e2 := pc_num (π := π) (f := f) (pl := nI p) (t := t) (τ := τ) hs hn hn2 hT c1
        rw [mj_bt1 c1] at e
        by_cases c2 : T (p + j) = pp_let w j
        · rw [if_pos ⟨c1, c2⟩, show j + (pp_al T n p w r (j + 1) + 1) = j + 1 + pp_al T n p w r (j + 1) by omega, ← i1]
          simp (maxSteps := 1000000) (disch := first | assumption | omega) only [↓e49_3, ↓e49_4, ↓e49_7, ↓e49_10, ↓e49_11, ↓e49_12, ↓e49_15, ↓e49_16, ↓e49_17, ↓e49_20, ↓e49_23, ↓e49_24, ↓e49_25, ↓e49_28, ↓e49_29, ↓e49_30, ↓e49_33, ↓e49_34, ↓e49_35, ↓e49_38, ↓e49_41, ↓e49_44, li_p0, li_p1, li_p2, li_p3, li_p4, li_p5, li_p6, li_p7, li_p8, li_p9, li_10, li_11, li_12, li_13, li_14, li_15, li_16, li_17, li_18, li_19, li_20, li_21, li_22, li_23, li_24, li_25, li_26, li_27, li_28, li_29, li_30, li_31, li_32, li_33, li_34, li_35, li_36, li_37, li_38, li_39, li_56, li_57, li_58, li_60, li_61, li_63, li_64, li_65, li_66, li_67, li_68, li_69, li_70, li_71, li_72, li_73, li_74, li_75, li_76, li_77, li_80, li_81, li_82, li_83, li_84, li_85, li_86, li_87, li_88, li_89, li_90, li_91, li_92, lw_q0, lw_q1, lw_q2, lw_q3, lw_q4, lw_q5, lw_q6, lw_q7, lw_q8, lw_q9, lw_10, lw_11, lw_12, lw_13, lw_14, lw_15, lw_16, lw_17, lw_18, lw_19, lw_20, lw_21, lw_22, lw_23, lw_24, lw_25, lw_26, lw_27, lw_28, lw_29, lw_30, lw_31, lw_32, lw_33, lw_34, lw_35, lw_36, lw_37, lw_38, lw_39, lw_56, lw_57, lw_58, lw_60, lw_61, lw_63, lw_64, lw_65, lw_66, lw_67, lw_68, lw_69, lw_70, lw_71, lw_72, lw_73, lw_74, lw_75, lw_76, lw_77, lw_80, lw_81, lw_82, lw_83, lw_84, lw_85, lw_86, lw_87, lw_88, lw_89, ll_78, ll_79, ll_s, rc6, rc2, rc3, rc5, rc7, rc1, rc0, rc4, rcs_0, rcs_1, rcs_2, rcs_3, rcs_4, mj_ib_nI, ↓reduceIte, mj_bdK, mj_ls, mj_ln, nI_clamp, nI_add, pk_mul, mj_nIeq0, mj_nIlt0, mj_nIle0, mj_nIeq, mj_nIle, mj_nIlt, mj_ok0, mj_ok1, mj_okb, mj_b0, mj_bR, mj_bR2, Nat.reduceEqDiff, hr, len, h1, pc_p, e, e2, chr, c2]
        · rw [if_neg (fun z => c2 z.2), Nat.add_zero]
          simp (maxSteps := 1000000) (disch := first | assumption | omega) only [↓e49_3, ↓e49_4, ↓e49_7, ↓e49_10, ↓e49_11, ↓e49_12, ↓e49_15, ↓e49_16, ↓e49_17, ↓e49_20, ↓e49_23, ↓e49_24, ↓e49_25, ↓e49_28, ↓e49_29, ↓e49_30, ↓e49_33, ↓e49_34, ↓e49_35, ↓e49_38, ↓e49_41, ↓e49_44, ↓e49_47, ↓e49_48, li_p0, li_p1, li_p2, li_p3, li_p4, li_p5, li_p6, li_p7, li_p8, li_p9, li_10, li_11, li_12, li_13, li_14, li_15, li_16, li_17, li_18, li_19, li_20, li_21, li_22, li_23, li_24, li_25, li_26, li_27, li_28, li_29, li_30, li_31, li_32, li_33, li_34, li_35, li_36, li_37, li_38, li_39, li_56, li_57, li_58, li_60, li_61, li_63, li_64, li_65, li_66, li_67, li_68, li_69, li_70, li_71, li_72, li_73, li_74, li_75, li_76, li_77, li_80, li_81, li_82, li_83, li_84, li_85, li_86, li_87, li_88, li_89, li_90, li_91, li_92, lw_q0, lw_q1, lw_q2, lw_q3, lw_q4, lw_q5, lw_q6, lw_q7, lw_q8, lw_q9, lw_10, lw_11, lw_12, lw_13, lw_14, lw_15, lw_16, lw_17, lw_18, lw_19, lw_20, lw_21, lw_22, lw_23, lw_24, lw_25, lw_26, lw_27, lw_28, lw_29, lw_30, lw_31, lw_32, lw_33, lw_34, lw_35, lw_36, lw_37, lw_38, lw_39, lw_56, lw_57, lw_58, lw_60, lw_61, lw_63, lw_64, lw_65, lw_66, lw_67, lw_68, lw_69, lw_70, lw_71, lw_72, lw_73, lw_74, lw_75, lw_76, lw_77, lw_80, lw_81, lw_82, lw_83, lw_84, lw_85, lw_86, lw_87, lw_88, lw_89, ll_78, ll_79, ll_s, rc6, rc2, rc3, rc5, rc7, rc1, rc0, rc4, rcs_0, rcs_1, rcs_2, rcs_3, rcs_4, mj_ib_nI, ↓reduceIte, mj_bdK, mj_ls, mj_ln, nI_clamp, nI_add, pk_mul, mj_nIeq0, mj_nIlt0, mj_nIle0, mj_nIeq, mj_nIle, mj_nIlt, mj_ok0, mj_ok1, mj_okb, mj_b0, mj_bR, mj_bR2, Nat.reduceEqDiff, hr, len, h1, pc_p, e, e2, chr, c2]
      · rw [if_neg (fun z => c1 z.1), Nat.add_zero]
        rw [mj_bt0 c1] at e
        simp (maxSteps := 1000000) (disch := first | assumption | omega) only [↓e49_3, ↓e49_4, ↓e49_7, ↓e49_10, ↓e49_11, ↓e49_12, ↓e49_15, ↓e49_16, ↓e49_17, ↓e49_20, ↓e49_23, ↓e49_24, ↓e49_25, ↓e49_28, ↓e49_29, ↓e49_30, ↓e49_33, ↓e49_34, ↓e49_35, ↓e49_38, ↓e49_41, ↓e49_44, ↓e49_47, ↓e49_48, li_p0, li_p1, li_p2, li_p3, li_p4, li_p5, li_p6, li_p7, li_p8, li_p9, li_10, li_11, li_12, li_13, li_14, li_15, li_16, li_17, li_18, li_19, li_20, li_21, li_22, li_23, li_24, li_25, li_26, li_27, li_28, li_29, li_30, li_31, li_32, li_33, li_34, li_35, li_36, li_37, li_38, li_39, li_56, li_57, li_58, li_60, li_61, li_63, li_64, li_65, li_66, li_67, li_68, li_69, li_70, li_71, li_72, li_73, li_74, li_75, li_76, li_77, li_80, li_81, li_82, li_83, li_84, li_85, li_86, li_87, li_88, li_89, li_90, li_91, li_92, lw_q0, lw_q1, lw_q2, lw_q3, lw_q4, lw_q5, lw_q6, lw_q7, lw_q8, lw_q9, lw_10, lw_11, lw_12, lw_13, lw_14, lw_15, lw_16, lw_17, lw_18, lw_19, lw_20, lw_21, lw_22, lw_23, lw_24, lw_25, lw_26, lw_27, lw_28, lw_29, lw_30, lw_31, lw_32, lw_33, lw_34, lw_35, lw_36, lw_37, lw_38, lw_39, lw_56, lw_57, lw_58, lw_60, lw_61, lw_63, lw_64, lw_65, lw_66, lw_67, lw_68, lw_69, lw_70, lw_71, lw_72, lw_73, lw_74, lw_75, lw_76, lw_77, lw_80, lw_81, lw_82, lw_83, lw_84, lw_85, lw_86, lw_87, lw_88, lw_89, ll_78, ll_79, ll_s, rc6, rc2, rc3, rc5, rc7, rc1, rc0, rc4, rcs_0, rcs_1, rcs_2, rcs_3, rcs_4, mj_ib_nI, ↓reduceIte, mj_bdK, mj_ls, mj_ln, nI_clamp, nI_add, pk_mul, mj_nIeq0, mj_nIlt0, mj_nIle0, mj_nIeq, mj_nIle, mj_nIlt, mj_ok0, mj_ok1, mj_okb, mj_b0, mj_bR, mj_bR2, Nat.reduceEqDiff, hr, len, h1, pc_p, e]
  have l0 := loop (pp_len w) 0 (by omega)
  rw [Nat.zero_add] at l0
  unfold pp_a
  simp (maxSteps := 1000000) (disch := first | assumption | omega) only [c49, ↓e49_0, ↓e49_1, ↓e49_3, ↓e49_4, ↓e49_7, ↓e49_10, ↓e49_11, ↓e49_12, ↓e49_15, ↓e49_16, ↓e49_17, ↓e49_20, ↓e49_23, ↓e49_24, ↓e49_25, ↓e49_28, ↓e49_29, ↓e49_30, ↓e49_33, ↓e49_34, ↓e49_35, ↓e49_38, ↓e49_41, ↓e49_44, ↓e49_47, ↓e49_48, li_p0, li_p1, li_p2, li_p3, li_p4, li_p5, li_p6, li_p7, li_p8, li_p9, li_10, li_11, li_12, li_13, li_14, li_15, li_16, li_17, li_18, li_19, li_20, li_21, li_22, li_23, li_24, li_25, li_26, li_27, li_28, li_29, li_30, li_31, li_32, li_33, li_34, li_35, li_36, li_37, li_38, li_39, li_56, li_57, li_58, li_60, li_61, li_63, li_64, li_65, li_66, li_67, li_68, li_69, li_70, li_71, li_72, li_73, li_74, li_75, li_76, li_77, li_80, li_81, li_82, li_83, li_84, li_85, li_86, li_87, li_88, li_89, li_90, li_91, li_92, lw_q0, lw_q1, lw_q2, lw_q3, lw_q4, lw_q5, lw_q6, lw_q7, lw_q8, lw_q9, lw_10, lw_11, lw_12, lw_13, lw_14, lw_15, lw_16, lw_17, lw_18, lw_19, lw_20, lw_21, lw_22, lw_23, lw_24, lw_25, lw_26, lw_27, lw_28, lw_29, lw_30, lw_31, lw_32, lw_33, lw_34, lw_35, lw_36, lw_37, lw_38, lw_39, lw_56, lw_57, lw_58, lw_60, lw_61, lw_63, lw_64, lw_65, lw_66, lw_67, lw_68, lw_69, lw_70, lw_71, lw_72, lw_73, lw_74, lw_75, lw_76, lw_77, lw_80, lw_81, lw_82, lw_83, lw_84, lw_85, lw_86, lw_87, lw_88, lw_89, ll_78, ll_79, ll_s, rc6, rc2, rc3, rc5, rc7, rc1, rc0, rc4, rcs_0, rcs_1, rcs_2, rcs_3, rcs_4, mj_ib_nI, ↓reduceIte, mj_bdK, mj_ls, mj_ln, nI_clamp, nI_add, pk_mul, mj_nIeq0, mj_nIlt0, mj_nIle0, mj_nIeq, mj_nIle, mj_nIlt, mj_ok0, mj_ok1, mj_okb, mj_b0, mj_bR, mj_bR2, Nat.reduceEqDiff, l0]
theorem pp_mxI {a b : Nat} : (if a < b then nI b else nI a) = nI (pp_max a b) := by
  unfold pp_max; split <;> rfl
theorem pc_word (hs : s < 8) (hn : σ (40 + s) 2 = nI n) (hn2 : n ≤ 160) (hT : ∀ i, i < n → (τ (40 + s + 8) i).toInt32 = T i) (hp : p ≤ 300) : (∀ w, pp_fw T n p = some w → mj_C 48 [.ref 9, .ref (40 + s)] (mj_wb 20 2 π (pp_r σ f (nI p) t)) τ = some (some (.int (nI w)), mj_wb 20 2 π (pp_r σ f (nI (p + pp_len w)) t), τ)) ∧ (pp_fw T n p = none → mj_C 48 [.ref 9, .ref (40 + s)] (mj_wb 20 2 π (pp_r σ f (nI p) t)) τ = some (some (.int (-1)), mj_wb 20 2 π (pp_r σ (nI (p + pp_lo T n p)) (nI p) t), τ)) := by

  have al0 := pc_alike (π := π) (f := f) (t := t) (w := 0) hs hn hn2 hT (by decide) hp
  have al1 := pc_alike (π := π) (f := f) (t := t) (w := 1) hs hn hn2 hT (by decide) hp
  have al2 := pc_alike (π := π) (f := f) (t := t) (w := 2) hs hn hn2 hT (by decide) hp
  have al3 := pc_alike (π := π) (f := f) (t := t) (w := 3) hs hn hn2 hT (by decide) hp
  have al4 := pc_alike (π := π) (f := f) (t := t) (w := 4) hs hn hn2 hT (by decide) hp
  have b0 : pp_a T n p 0 ≤ 5 := pp_al_le _ _
  have b1 : pp_a T n p 1 ≤ 5 := pp_al_le _ _
  have b2 : pp_a T n p 2 ≤ 5 := Nat.le_trans (pp_al_le _ _) (by decide)
  have b3 : pp_a T n p 3 ≤ 5 := Nat.le_trans (pp_al_le _ _) (by decide)
  have b4 : pp_a T n p 4 ≤ 5 := pp_al_le _ _
  unfold pp_fw pp_lo
  generalize pp_a T n p 0 = a0 at *
  generalize pp_a T n p 1 = a1 at *
  generalize pp_a T n p 2 = a2 at *
  generalize pp_a T n p 3 = a3 at *
  generalize pp_a T n p 4 = a4 at *
  by_cases c0 : a0 = 5
  · rw [if_pos c0]
    refine ⟨fun w hw => ?_, fun z => by cases z⟩
    cases hw
    subst c0
    rw [show pp_len 0 = 5 from rfl]
    simp (maxSteps := 1000000) (disch := first | assumption | omega) only [c48, ↓e48_0, ↓e48_1, ↓e48_2, ↓e48_3, ↓e48_4, ↓e48_5, ↓e48_6, ↓e48_9, ↓e48_10, ↓e48_13, ↓e48_15, ↓e48_16, ↓e48_17, ↓e48_19, ↓e48_22, ↓e48_24, ↓e48_26, ↓e48_28, ↓e48_31, ↓e48_34, ↓e48_35, ↓e48_36, ↓e48_39, ↓e48_41, ↓e48_42, ↓e48_45, ↓e48_46, ↓e48_47, ↓e48_48, ↓e48_50, ↓e48_53, ↓e48_54, ↓e48_57, ↓e48_60, ↓e48_61, ↓e48_62, ↓e48_65, ↓e48_66, ↓e48_67, ↓e48_70, ↓e48_71, ↓e48_72, c50, ↓e50_0, ↓e50_1, ↓e50_32, ↓e50_34, ↓e50_35, ↓e50_37, ↓e50_38, ↓e50_40, ↓e50_41, ↓e50_43, ↓e50_44, ↓e50_46, li_p0, li_p1, li_p2, li_p3, li_p4, li_p5, li_p6, li_p7, li_p8, li_p9, li_10, li_11, li_12, li_13, li_14, li_15, li_16, li_17, li_18, li_19, li_20, li_21, li_22, li_23, li_24, li_25, li_26, li_27, li_28, li_29, li_30, li_31, li_32, li_33, li_34, li_35, li_36, li_37, li_38, li_39, li_56, li_57, li_58, li_60, li_61, li_63, li_64, li_65, li_66, li_67, li_68, li_69, li_70, li_71, li_72, li_73, li_74, li_75, li_76, li_77, li_80, li_81, li_82, li_83, li_84, li_85, li_86, li_87, li_88, li_89, li_90, li_91, li_92, lw_q0, lw_q1, lw_q2, lw_q3, lw_q4, lw_q5, lw_q6, lw_q7, lw_q8, lw_q9, lw_10, lw_11, lw_12, lw_13, lw_14, lw_15, lw_16, lw_17, lw_18, lw_19, lw_20, lw_21, lw_22, lw_23, lw_24, lw_25, lw_26, lw_27, lw_28, lw_29, lw_30, lw_31, lw_32, lw_33, lw_34, lw_35, lw_36, lw_37, lw_38, lw_39, lw_56, lw_57, lw_58, lw_60, lw_61, lw_63, lw_64, lw_65, lw_66, lw_67, lw_68, lw_69, lw_70, lw_71, lw_72, lw_73, lw_74, lw_75, lw_76, lw_77, lw_80, lw_81, lw_82, lw_83, lw_84, lw_85, lw_86, lw_87, lw_88, lw_89, ll_78, ll_79, ll_s, rc6, rc2, rc3, rc5, rc7, rc1, rc0, rc4, rcs_0, rcs_1, rcs_2, rcs_3, rcs_4, mj_ib_nI, ↓reduceIte, mj_bdK, mj_ls, mj_ln, nI_clamp, nI_add, pk_mul, mj_nIeq0, mj_nIlt0, mj_nIle0, mj_nIeq, mj_nIle, mj_nIlt, mj_ok0, mj_ok1, mj_okb, mj_b0, mj_bR, mj_bR2, Nat.reduceEqDiff, al0, pc_len_0, al1, pc_len_1, al2, pc_len_2, al3, pc_len_3, al4, pc_len_4, pc_p, pc_up, Nat.reduceAdd, (by decide : ¬ 4 < 0), (by decide : ¬ 4 < 1), (by decide : ¬ 4 < 2), (by decide : ¬ 4 < 3), (by decide : ¬ 4 < 4), (by decide : 4 < 5)]
  · by_cases c1 : a1 = 5
    · rw [if_neg c0, if_pos c1]
      refine ⟨fun w hw => ?_, fun z => by cases z⟩
      cases hw
      subst c1
      rw [show pp_len 1 = 5 from rfl]
      simp (maxSteps := 1000000) (disch := first | assumption | omega) only [c48, ↓e48_0, ↓e48_1, ↓e48_2, ↓e48_3, ↓e48_4, ↓e48_5, ↓e48_6, ↓e48_9, ↓e48_10, ↓e48_13, ↓e48_15, ↓e48_16, ↓e48_17, ↓e48_19, ↓e48_22, ↓e48_24, ↓e48_26, ↓e48_28, ↓e48_31, ↓e48_34, ↓e48_35, ↓e48_36, ↓e48_39, ↓e48_41, ↓e48_42, ↓e48_45, ↓e48_46, ↓e48_47, ↓e48_48, ↓e48_50, ↓e48_53, ↓e48_54, ↓e48_57, ↓e48_60, ↓e48_61, ↓e48_62, ↓e48_65, ↓e48_66, ↓e48_67, ↓e48_70, ↓e48_71, ↓e48_72, c50, ↓e50_0, ↓e50_1, ↓e50_32, ↓e50_34, ↓e50_35, ↓e50_37, ↓e50_38, ↓e50_40, ↓e50_41, ↓e50_43, ↓e50_44, ↓e50_46, li_p0, li_p1, li_p2, li_p3, li_p4, li_p5, li_p6, li_p7, li_p8, li_p9, li_10, li_11, li_12, li_13, li_14, li_15, li_16, li_17, li_18, li_19, li_20, li_21, li_22, li_23, li_24, li_25, li_26, li_27, li_28, li_29, li_30, li_31, li_32, li_33, li_34, li_35, li_36, li_37, li_38, li_39, li_56, li_57, li_58, li_60, li_61, li_63, li_64, li_65, li_66, li_67, li_68, li_69, li_70, li_71, li_72, li_73, li_74, li_75, li_76, li_77, li_80, li_81, li_82, li_83, li_84, li_85, li_86, li_87, li_88, li_89, li_90, li_91, li_92, lw_q0, lw_q1, lw_q2, lw_q3, lw_q4, lw_q5, lw_q6, lw_q7, lw_q8, lw_q9, lw_10, lw_11, lw_12, lw_13, lw_14, lw_15, lw_16, lw_17, lw_18, lw_19, lw_20, lw_21, lw_22, lw_23, lw_24, lw_25, lw_26, lw_27, lw_28, lw_29, lw_30, lw_31, lw_32, lw_33, lw_34, lw_35, lw_36, lw_37, lw_38, lw_39, lw_56, lw_57, lw_58, lw_60, lw_61, lw_63, lw_64, lw_65, lw_66, lw_67, lw_68, lw_69, lw_70, lw_71, lw_72, lw_73, lw_74, lw_75, lw_76, lw_77, lw_80, lw_81, lw_82, lw_83, lw_84, lw_85, lw_86, lw_87, lw_88, lw_89, ll_78, ll_79, ll_s, rc6, rc2, rc3, rc5, rc7, rc1, rc0, rc4, rcs_0, rcs_1, rcs_2, rcs_3, rcs_4, mj_ib_nI, ↓reduceIte, mj_bdK, mj_ls, mj_ln, nI_clamp, nI_add, pk_mul, mj_nIeq0, mj_nIlt0, mj_nIle0, mj_nIeq, mj_nIle, mj_nIlt, mj_ok0, mj_ok1, mj_okb, mj_b0, mj_bR, mj_bR2, Nat.reduceEqDiff, al0, pc_len_0, al1, pc_len_1, al2, pc_len_2, al3, pc_len_3, al4, pc_len_4, pc_p, pc_up, Nat.reduceAdd, (by decide : ¬ 4 < 0), (by decide : ¬ 4 < 1), (by decide : ¬ 4 < 2), (by decide : ¬ 4 < 3), (by decide : ¬ 4 < 4), (by decide : 4 < 5), c0]
    · by_cases c2 : a2 = 4
      · rw [if_neg c0, if_neg c1, if_pos c2]
        refine ⟨fun w hw => ?_, fun z => by cases z⟩
        cases hw
        subst c2
        rw [show pp_len 2 = 4 from rfl]
        simp (maxSteps := 1000000) (disch := first | assumption | omega) only [c48, ↓e48_0, ↓e48_1, ↓e48_2, ↓e48_3, ↓e48_4, ↓e48_5, ↓e48_6, ↓e48_9, ↓e48_10, ↓e48_13, ↓e48_15, ↓e48_16, ↓e48_17, ↓e48_19, ↓e48_22, ↓e48_24, ↓e48_26, ↓e48_28, ↓e48_31, ↓e48_34, ↓e48_35, ↓e48_36, ↓e48_39, ↓e48_41, ↓e48_42, ↓e48_45, ↓e48_46, ↓e48_47, ↓e48_48, ↓e48_50, ↓e48_53, ↓e48_54, ↓e48_57, ↓e48_60, ↓e48_61, ↓e48_62, ↓e48_65, ↓e48_66, ↓e48_67, ↓e48_70, ↓e48_71, ↓e48_72, c50, ↓e50_0, ↓e50_1, ↓e50_32, ↓e50_34, ↓e50_35, ↓e50_37, ↓e50_38, ↓e50_40, ↓e50_41, ↓e50_43, ↓e50_44, ↓e50_46, li_p0, li_p1, li_p2, li_p3, li_p4, li_p5, li_p6, li_p7, li_p8, li_p9, li_10, li_11, li_12, li_13, li_14, li_15, li_16, li_17, li_18, li_19, li_20, li_21, li_22, li_23, li_24, li_25, li_26, li_27, li_28, li_29, li_30, li_31, li_32, li_33, li_34, li_35, li_36, li_37, li_38, li_39, li_56, li_57, li_58, li_60, li_61, li_63, li_64, li_65, li_66, li_67, li_68, li_69, li_70, li_71, li_72, li_73, li_74, li_75, li_76, li_77, li_80, li_81, li_82, li_83, li_84, li_85, li_86, li_87, li_88, li_89, li_90, li_91, li_92, lw_q0, lw_q1, lw_q2, lw_q3, lw_q4, lw_q5, lw_q6, lw_q7, lw_q8, lw_q9, lw_10, lw_11, lw_12, lw_13, lw_14, lw_15, lw_16, lw_17, lw_18, lw_19, lw_20, lw_21, lw_22, lw_23, lw_24, lw_25, lw_26, lw_27, lw_28, lw_29, lw_30, lw_31, lw_32, lw_33, lw_34, lw_35, lw_36, lw_37, lw_38, lw_39, lw_56, lw_57, lw_58, lw_60, lw_61, lw_63, lw_64, lw_65, lw_66, lw_67, lw_68, lw_69, lw_70, lw_71, lw_72, lw_73, lw_74, lw_75, lw_76, lw_77, lw_80, lw_81, lw_82, lw_83, lw_84, lw_85, lw_86, lw_87, lw_88, lw_89, ll_78, ll_79, ll_s, rc6, rc2, rc3, rc5, rc7, rc1, rc0, rc4, rcs_0, rcs_1, rcs_2, rcs_3, rcs_4, mj_ib_nI, ↓reduceIte, mj_bdK, mj_ls, mj_ln, nI_clamp, nI_add, pk_mul, mj_nIeq0, mj_nIlt0, mj_nIle0, mj_nIeq, mj_nIle, mj_nIlt, mj_ok0, mj_ok1, mj_okb, mj_b0, mj_bR, mj_bR2, Nat.reduceEqDiff, al0, pc_len_0, al1, pc_len_1, al2, pc_len_2, al3, pc_len_3, al4, pc_len_4, pc_p, pc_up, Nat.reduceAdd, (by decide : ¬ 4 < 0), (by decide : ¬ 4 < 1), (by decide : ¬ 4 < 2), (by decide : ¬ 4 < 3), (by decide : ¬ 4 < 4), (by decide : 4 < 5), c0, c1]
      · by_cases c3 : a3 = 3
        · rw [if_neg c0, if_neg c1, if_neg c2, if_pos c3]
          refine ⟨fun w hw => ?_, fun z => by cases z⟩
          cases hw
          subst c3
          rw [show pp_len 3 = 3 from rfl]
          simp (maxSteps := 1000000) (disch := first | assumption | omega) only [c48, ↓e48_0, ↓e48_1, ↓e48_2, ↓e48_3, ↓e48_4, ↓e48_5, ↓e48_6, ↓e48_9, ↓e48_10, ↓e48_13, ↓e48_15, ↓e48_16, ↓e48_17, ↓e48_19, ↓e48_22, ↓e48_24, ↓e48_26, ↓e48_28, ↓e48_31, ↓e48_34, ↓e48_35, ↓e48_36, ↓e48_39, ↓e48_41, ↓e48_42, ↓e48_45, ↓e48_46, ↓e48_47, ↓e48_48, ↓e48_50, ↓e48_53, ↓e48_54, ↓e48_57, ↓e48_60, ↓e48_61, ↓e48_62, ↓e48_65, ↓e48_66, ↓e48_67, ↓e48_70, ↓e48_71, ↓e48_72, c50, ↓e50_0, ↓e50_1, ↓e50_32, ↓e50_34, ↓e50_35, ↓e50_37, ↓e50_38, ↓e50_40, ↓e50_41, ↓e50_43, ↓e50_44, ↓e50_46, li_p0, li_p1, li_p2, li_p3, li_p4, li_p5, li_p6, li_p7, li_p8, li_p9, li_10, li_11, li_12, li_13, li_14, li_15, li_16, li_17, li_18, li_19, li_20, li_21, li_22, li_23, li_24, li_25, li_26, li_27, li_28, li_29, li_30, li_31, li_32, li_33, li_34, li_35, li_36, li_37, li_38, li_39, li_56, li_57, li_58, li_60, li_61, li_63, li_64, li_65, li_66, li_67, li_68, li_69, li_70, li_71, li_72, li_73, li_74, li_75, li_76, li_77, li_80, li_81, li_82, li_83, li_84, li_85, li_86, li_87, li_88, li_89, li_90, li_91, li_92, lw_q0, lw_q1, lw_q2, lw_q3, lw_q4, lw_q5, lw_q6, lw_q7, lw_q8, lw_q9, lw_10, lw_11, lw_12, lw_13, lw_14, lw_15, lw_16, lw_17, lw_18, lw_19, lw_20, lw_21, lw_22, lw_23, lw_24, lw_25, lw_26, lw_27, lw_28, lw_29, lw_30, lw_31, lw_32, lw_33, lw_34, lw_35, lw_36, lw_37, lw_38, lw_39, lw_56, lw_57, lw_58, lw_60, lw_61, lw_63, lw_64, lw_65, lw_66, lw_67, lw_68, lw_69, lw_70, lw_71, lw_72, lw_73, lw_74, lw_75, lw_76, lw_77, lw_80, lw_81, lw_82, lw_83, lw_84, lw_85, lw_86, lw_87, lw_88, lw_89, ll_78, ll_79, ll_s, rc6, rc2, rc3, rc5, rc7, rc1, rc0, rc4, rcs_0, rcs_1, rcs_2, rcs_3, rcs_4, mj_ib_nI, ↓reduceIte, mj_bdK, mj_ls, mj_ln, nI_clamp, nI_add, pk_mul, mj_nIeq0, mj_nIlt0, mj_nIle0, mj_nIeq, mj_nIle, mj_nIlt, mj_ok0, mj_ok1, mj_okb, mj_b0, mj_bR, mj_bR2, Nat.reduceEqDiff, al0, pc_len_0, al1, pc_len_1, al2, pc_len_2, al3, pc_len_3, al4, pc_len_4, pc_p, pc_up, Nat.reduceAdd, (by decide : ¬ 4 < 0), (by decide : ¬ 4 < 1), (by decide : ¬ 4 < 2), (by decide : ¬ 4 < 3), (by decide : ¬ 4 < 4), (by decide : 4 < 5), c0, c1, c2]
        · by_cases c4 : a4 = 5
          · rw [if_neg c0, if_neg c1, if_neg c2, if_neg c3, if_pos c4]
            refine ⟨fun w hw => ?_, fun z => by cases z⟩
            cases hw
            subst c4
            rw [show pp_len 4 = 5 from rfl]
            simp (maxSteps := 1000000) (disch := first | assumption | omega) only [c48, ↓e48_0, ↓e48_1, ↓e48_2, ↓e48_3, ↓e48_4, ↓e48_5, ↓e48_6, ↓e48_9, ↓e48_10, ↓e48_13, ↓e48_15, ↓e48_16, ↓e48_17, ↓e48_19, ↓e48_22, ↓e48_24, ↓e48_26, ↓e48_28, ↓e48_31, ↓e48_34, ↓e48_35, ↓e48_36, ↓e48_39, ↓e48_41, ↓e48_42, ↓e48_45, ↓e48_46, ↓e48_47, ↓e48_48, ↓e48_50, ↓e48_53, ↓e48_54, ↓e48_57, ↓e48_60, ↓e48_61, ↓e48_62, ↓e48_65, ↓e48_66, ↓e48_67, ↓e48_70, ↓e48_71, ↓e48_72, c50, ↓e50_0, ↓e50_1, ↓e50_32, ↓e50_34, ↓e50_35, ↓e50_37, ↓e50_38, ↓e50_40, ↓e50_41, ↓e50_43, ↓e50_44, ↓e50_46, li_p0, li_p1, li_p2, li_p3, li_p4, li_p5, li_p6, li_p7, li_p8, li_p9, li_10, li_11, li_12, li_13, li_14, li_15, li_16, li_17, li_18, li_19, li_20, li_21, li_22, li_23, li_24, li_25, li_26, li_27, li_28, li_29, li_30, li_31, li_32, li_33, li_34, li_35, li_36, li_37, li_38, li_39, li_56, li_57, li_58, li_60, li_61, li_63, li_64, li_65, li_66, li_67, li_68, li_69, li_70, li_71, li_72, li_73, li_74, li_75, li_76, li_77, li_80, li_81, li_82, li_83, li_84, li_85, li_86, li_87, li_88, li_89, li_90, li_91, li_92, lw_q0, lw_q1, lw_q2, lw_q3, lw_q4, lw_q5, lw_q6, lw_q7, lw_q8, lw_q9, lw_10, lw_11, lw_12, lw_13, lw_14, lw_15, lw_16, lw_17, lw_18, lw_19, lw_20, lw_21, lw_22, lw_23, lw_24, lw_25, lw_26, lw_27, lw_28, lw_29, lw_30, lw_31, lw_32, lw_33, lw_34, lw_35, lw_36, lw_37, lw_38, lw_39, lw_56, lw_57, lw_58, lw_60, lw_61, lw_63, lw_64, lw_65, lw_66, lw_67, lw_68, lw_69, lw_70, lw_71, lw_72, lw_73, lw_74, lw_75, lw_76, lw_77, lw_80, lw_81, lw_82, lw_83, lw_84, lw_85, lw_86, lw_87, lw_88, lw_89, ll_78, ll_79, ll_s, rc6, rc2, rc3, rc5, rc7, rc1, rc0, rc4, rcs_0, rcs_1, rcs_2, rcs_3, rcs_4, mj_ib_nI, ↓reduceIte, mj_bdK, mj_ls, mj_ln, nI_clamp, nI_add, pk_mul, mj_nIeq0, mj_nIlt0, mj_nIle0, mj_nIeq, mj_nIle, mj_nIlt, mj_ok0, mj_ok1, mj_okb, mj_b0, mj_bR, mj_bR2, Nat.reduceEqDiff, al0, pc_len_0, al1, pc_len_1, al2, pc_len_2, al3, pc_len_3, al4, pc_len_4, pc_p, pc_up, Nat.reduceAdd, (by decide : ¬ 4 < 0), (by decide : ¬ 4 < 1), (by decide : ¬ 4 < 2), (by decide : ¬ 4 < 3), (by decide : ¬ 4 < 4), (by decide : 4 < 5), c0, c1, c2, c3]
          · rw [if_neg c0, if_neg c1, if_neg c2, if_neg c3, if_neg c4]
            refine ⟨fun w hw => (by cases hw), fun _ => ?_⟩
            have bm : ∀ a b, a ≤ 5 → b ≤ 5 → pp_max a b ≤ 5 := fun a b ha hb => by unfold pp_max; split <;> omega
            have m1 := bm 0 a0 (by omega) b0
            have m2 := bm _ a1 m1 b1
            have m3 := bm _ a2 m2 b2
            have m4 := bm _ a3 m3 b3
            have m5 := bm _ a4 m4 b4
            simp (maxSteps := 1000000) (disch := first | assumption | omega) only [c48, ↓e48_0, ↓e48_1, ↓e48_2, ↓e48_3, ↓e48_4, ↓e48_5, ↓e48_6, ↓e48_9, ↓e48_10, ↓e48_13, ↓e48_15, ↓e48_16, ↓e48_17, ↓e48_19, ↓e48_22, ↓e48_24, ↓e48_26, ↓e48_28, ↓e48_31, ↓e48_34, ↓e48_35, ↓e48_36, ↓e48_39, ↓e48_41, ↓e48_42, ↓e48_45, ↓e48_46, ↓e48_47, ↓e48_48, ↓e48_50, ↓e48_53, ↓e48_54, ↓e48_57, ↓e48_60, ↓e48_61, ↓e48_62, ↓e48_65, ↓e48_66, ↓e48_67, ↓e48_70, ↓e48_71, ↓e48_72, c50, ↓e50_0, ↓e50_1, ↓e50_32, ↓e50_34, ↓e50_35, ↓e50_37, ↓e50_38, ↓e50_40, ↓e50_41, ↓e50_43, ↓e50_44, ↓e50_46, li_p0, li_p1, li_p2, li_p3, li_p4, li_p5, li_p6, li_p7, li_p8, li_p9, li_10, li_11, li_12, li_13, li_14, li_15, li_16, li_17, li_18, li_19, li_20, li_21, li_22, li_23, li_24, li_25, li_26, li_27, li_28, li_29, li_30, li_31, li_32, li_33, li_34, li_35, li_36, li_37, li_38, li_39, li_56, li_57, li_58, li_60, li_61, li_63, li_64, li_65, li_66, li_67, li_68, li_69, li_70, li_71, li_72, li_73, li_74, li_75, li_76, li_77, li_80, li_81, li_82, li_83, li_84, li_85, li_86, li_87, li_88, li_89, li_90, li_91, li_92, lw_q0, lw_q1, lw_q2, lw_q3, lw_q4, lw_q5, lw_q6, lw_q7, lw_q8, lw_q9, lw_10, lw_11, lw_12, lw_13, lw_14, lw_15, lw_16, lw_17, lw_18, lw_19, lw_20, lw_21, lw_22, lw_23, lw_24, lw_25, lw_26, lw_27, lw_28, lw_29, lw_30, lw_31, lw_32, lw_33, lw_34, lw_35, lw_36, lw_37, lw_38, lw_39, lw_56, lw_57, lw_58, lw_60, lw_61, lw_63, lw_64, lw_65, lw_66, lw_67, lw_68, lw_69, lw_70, lw_71, lw_72, lw_73, lw_74, lw_75, lw_76, lw_77, lw_80, lw_81, lw_82, lw_83, lw_84, lw_85, lw_86, lw_87, lw_88, lw_89, ll_78, ll_79, ll_s, rc6, rc2, rc3, rc5, rc7, rc1, rc0, rc4, rcs_0, rcs_1, rcs_2, rcs_3, rcs_4, mj_ib_nI, ↓reduceIte, mj_bdK, mj_ls, mj_ln, nI_clamp, nI_add, pk_mul, mj_nIeq0, mj_nIlt0, mj_nIle0, mj_nIeq, mj_nIle, mj_nIlt, mj_ok0, mj_ok1, mj_okb, mj_b0, mj_bR, mj_bR2, Nat.reduceEqDiff, al0, pc_len_0, al1, pc_len_1, al2, pc_len_2, al3, pc_len_3, al4, pc_len_4, pc_p, pc_up, Nat.reduceAdd, (by decide : ¬ 4 < 0), (by decide : ¬ 4 < 1), (by decide : ¬ 4 < 2), (by decide : ¬ 4 < 3), (by decide : ¬ 4 < 4), (by decide : 4 < 5), c0, c1, c2, c3, c4, pp_mxI, c46, ↓e46_0, ↓e46_1, ↓e46_2, ↓e46_5, ↓e46_6, pc_uf]

end
