/-! RESTORE, both sides -/
section
variable {π ρ : Nat → Nat → Int32} {σ σm σ' σm' : mj_S} {τ τm τ' τm' : mj_T} {A : mj_A} {G C G2 C2 c s x m : Nat} {as : List Value} {v : Value} {B : Nat → Bool}
/-- the first n shelves that B names are emptied -/
def mj_rs (σ : mj_S) (B : Nat → Bool) (n : Nat) : mj_S := fun k j => if (40 ≤ k ∧ k < 40 + n ∧ j < 3) ∧ B (k - 40) = true then (if j = 2 then nI 0 else -1) else σ k j
def mj_rz (σ : mj_S) (B : Nat → Bool) (n : Nat) : mj_S := fun k j => if (k = 74 ∧ j < n) ∧ B j = true then nI 0 else σ k j
theorem mj_rs_ne {n k : Nat} (h : k < 40 ∨ 40 + n ≤ k) : mj_rs σ B n k = σ k := by
  funext j; unfold mj_rs; exact if_neg (by omega)
theorem mj_rs_0 : mj_rs σ B 0 = σ := by funext k j; unfold mj_rs; exact if_neg (by omega)
theorem mj_rs_no {n : Nat} (h : B n = false) : mj_rs σ B (n + 1) = mj_rs σ B n := by
  funext k j
  unfold mj_rs
  by_cases h1 : (40 ≤ k ∧ k < 40 + n ∧ j < 3) ∧ B (k - 40) = true
  · rw [if_pos h1, if_pos ⟨⟨by omega, by omega, by omega⟩, h1.2⟩]
  · rw [if_neg h1]
    by_cases h2 : k = 40 + n
    · rw [if_neg]
      rintro ⟨-, z⟩
      rw [h2, show 40 + n - 40 = n by omega, h] at z
      cases z
    · rw [if_neg]
      rintro ⟨z, z2⟩
      exact h1 ⟨⟨by omega, by omega, by omega⟩, z2⟩
theorem mj_rs_yes {n : Nat} (h : B n = true) : mj_up (mj_up (mj_up (mj_rs σ B n) (40 + n) 0 (-1)) (40 + n) 1 (-1)) (40 + n) 2 (nI 0) = mj_rs σ B (n + 1) := by
  funext k j
  simp only [mj_rs, mj_up]
  by_cases h2 : k = 40 + n
  · subst h2
    have h3 : B (40 + n - 40) = true := by rw [show 40 + n - 40 = n by omega]; exact h
    rcases (show j = 0 ∨ j = 1 ∨ j = 2 ∨ 3 ≤ j by omega) with rfl | rfl | rfl | hj
    · simp [h]
    · simp [h]
    · simp [h]
    · rw [if_neg (by omega), if_neg (by omega), if_neg (by omega), if_neg (by omega), if_neg (by omega)]
  · rw [if_neg (by omega), if_neg (by omega), if_neg (by omega)]
    by_cases h1 : (40 ≤ k ∧ k < 40 + n ∧ j < 3) ∧ B (k - 40) = true
    · have h4 : (40 ≤ k ∧ k < 40 + (n + 1) ∧ j < 3) ∧ B (k - 40) = true := ⟨⟨by omega, by omega, by omega⟩, h1.2⟩
      rw [if_pos h1, if_pos h4]
    · rw [if_neg h1, if_neg]
      rintro ⟨z, z2⟩
      exact h1 ⟨⟨by omega, by omega, by omega⟩, z2⟩
theorem mj_rz_ne {n k : Nat} (h : ¬ k = 74) : mj_rz σ B n k = σ k := by
  funext j; unfold mj_rz; exact if_neg (fun z => h z.1.1)
theorem mj_rz_ge {n i : Nat} (h : n ≤ i) : mj_rz σ B n 74 i = σ 74 i := if_neg (by omega)
theorem mj_rz_0 : mj_rz σ B 0 = σ := by funext k j; unfold mj_rz; exact if_neg (by omega)
theorem mj_rz_no {n : Nat} (h : B n = false) : mj_rz σ B (n + 1) = mj_rz σ B n := by
  funext k j
  unfold mj_rz
  by_cases h1 : (k = 74 ∧ j < n) ∧ B j = true
  · rw [if_pos h1, if_pos ⟨⟨h1.1.1, by omega⟩, h1.2⟩]
  · rw [if_neg h1, if_neg]
    rintro ⟨z, z2⟩
    by_cases h2 : j = n
    · rw [h2, h] at z2; cases z2
    · exact h1 ⟨⟨z.1, by omega⟩, z2⟩
theorem mj_rz_yes {n : Nat} (h : B n = true) : mj_up (mj_rz σ B n) 74 n (nI 0) = mj_rz σ B (n + 1) := by
  funext k j
  simp only [mj_rz, mj_up]
  by_cases h2 : k = 74 ∧ j = n
  · rw [if_pos h2, if_pos ⟨⟨h2.1, by omega⟩, h2.2 ▸ h⟩]
  · rw [if_neg h2]
    by_cases h1 : (k = 74 ∧ j < n) ∧ B j = true
    · rw [if_pos h1, if_pos ⟨⟨h1.1.1, by omega⟩, h1.2⟩]
    · rw [if_neg h1, if_neg]
      rintro ⟨z, z2⟩
      exact h1 ⟨⟨z.1, by omega⟩, z2⟩
theorem mj_ixg {g : Nat} (hg : g < 8) (hG : G ≤ 8) : (¬ mj_ix (nI g) G) ↔ G ≤ g := by
  constructor
  · intro h
    rcases Nat.lt_or_ge g G with q | q
    · exact absurd ⟨g, q, rfl⟩ h
    · exact q
  · rintro h ⟨k, hk, e⟩
    rw [nI_eq (by omega) (by omega)] at e
    omega
theorem s_X7_restore_loop (hp : mj_wp σ 1 G C) (hB : ∀ s, s < 8 → (σ (40 + s) 1 = -1 ∧ B s = false) ∨ ∃ g, g < 8 ∧ σ (40 + s) 1 = nI g ∧ (G ≤ g ↔ B s = true)) : ∀ n i l, i + n = 8 → mj_E 109 27 [some (.ref 0), some (.int (nI i)), l] [] (mj_rs σ B i) τ = some (some (.int (nI G)), mj_rs σ B 8, τ) := by
  have hpi : ∀ i, i ≤ 8 → mj_wp (mj_rs σ B i) 1 G C := fun i hi => ⟨by decide, by decide, by
    rw [mj_pv_of (σ := σ) (fun j hj => mj_rs_ne (by omega)) (fun i hi => by rw [mj_rs_ne (by omega)])]
    exact hp.2.2⟩
  obtain ⟨hG, hG8⟩ := mj_wp_G hp
  have e1 : ∀ i, mj_rs σ B i 1 = σ 1 := fun i => mj_rs_ne (by omega)
  intro n
  induction n with
  | zero =>
    intro i l hi
    obtain rfl : i = 8 := by omega
    simp (maxSteps := 1000000) (disch := first | assumption | omega) only [↓e109_27, ↓e109_28, ↓e109_30, ↓e109_33, ↓e109_34, ↓e109_37, ↓e109_38, ↓e109_39, ↓e109_39n, ↓e109_40, ↓e109_40n, ↓e109_41, ↓e109_44, ↓e109_47, ↓e109_48, ↓e109_51, ↓e109_51n, ↓e109_52, ↓e109_55, ↓e109_58, ↓e109_61, ↓e109_61n, ↓e109_62, ↓e109_63, ↓e109_66, ↓e109_69, ↓e109_72, ↓e109_73, ↓e109_76, ↓e109_79, li_p0, li_p1, li_p2, li_p3, li_p4, li_p5, li_p6, li_p7, li_p8, li_p9, li_10, li_11, li_12, li_13, li_14, li_15, li_16, li_17, li_18, li_19, li_20, li_21, li_22, li_23, li_24, li_25, li_26, li_27, li_28, li_29, li_30, li_31, li_32, li_33, li_34, li_35, li_36, li_37, li_38, li_39, li_56, li_57, li_58, li_60, li_61, li_63, li_64, li_65, li_66, li_67, li_68, li_69, li_70, li_71, li_72, li_73, li_74, li_75, li_76, li_77, li_80, li_81, li_82, li_83, li_84, li_85, li_86, li_87, li_88, li_89, li_90, li_91, li_92, lw_q0, lw_q1, lw_q2, lw_q3, lw_q4, lw_q5, lw_q6, lw_q7, lw_q8, lw_q9, lw_10, lw_11, lw_12, lw_13, lw_14, lw_15, lw_16, lw_17, lw_18, lw_19, lw_20, lw_21, lw_22, lw_23, lw_24, lw_25, lw_26, lw_27, lw_28, lw_29, lw_30, lw_31, lw_32, lw_33, lw_34, lw_35, lw_36, lw_37, lw_38, lw_39, lw_56, lw_57, lw_58, lw_60, lw_61, lw_63, lw_64, lw_65, lw_66, lw_67, lw_68, lw_69, lw_70, lw_71, lw_72, lw_73, lw_74, lw_75, lw_76, lw_77, lw_80, lw_81, lw_82, lw_83, lw_84, lw_85, lw_86, lw_87, lw_88, lw_89, ll_78, ll_79, ll_s, rc6, rc2, rc3, rc5, rc7, rc1, rc0, rc4, rcs_0, rcs_1, rcs_2, rcs_3, rcs_4, mj_ib_nI, ↓reduceIte, mj_bdK, mj_ls, mj_ln, nI_clamp, nI_add, pk_mul, mj_nIeq0, mj_nIlt0, mj_nIle0, mj_nIeq, mj_nIle, mj_nIlt, mj_ok0, mj_ok1, mj_okb, mj_b0, mj_bR, mj_bR2, Nat.reduceEqDiff, Nat.le_refl, e1, hG]
  | succ n ih =>
    intro i l hi
    have hi8 : i < 8 := by omega
    have hn : ¬ 8 ≤ i := by omega
    have es : mj_rs σ B i (40 + i) = σ (40 + i) := mj_rs_ne (by omega)
    have hg : ∀ x, mj_C 7 [.ref 1, .int x] (mj_rs σ B i) τ = some (some (.int (mj_b (mj_ix x G))), mj_rs σ B i, τ) := fun x => s_X2_hasGrown (τ := τ) (x := x) (hpi i (by omega))
    have := ih (i + 1) (some (.ref (40 + i))) (by omega)
    rw [← this, e109_27]
    rcases hB i hi8 with ⟨q, q2⟩ | ⟨g, hg8, q, q2⟩
    · rw [mj_rs_no q2]
      simp (maxSteps := 1000000) (disch := first | assumption | omega) only [↓e109_28, ↓e109_30, ↓e109_33, ↓e109_34, ↓e109_37, ↓e109_38, ↓e109_39, ↓e109_39n, ↓e109_40, ↓e109_40n, ↓e109_41, ↓e109_44, ↓e109_47, ↓e109_48, ↓e109_51, ↓e109_51n, ↓e109_52, ↓e109_55, ↓e109_58, ↓e109_61, ↓e109_61n, ↓e109_62, ↓e109_63, ↓e109_66, ↓e109_69, c62, ↓e62_0, ↓e62_1, ↓e62_4, ↓e62_5, ↓e62_8, ↓e62_9, ↓e62_12, ↓e62_13, mj_bR, mj_bR2, li_p0, li_p1, li_p2, li_p3, li_p4, li_p5, li_p6, li_p7, li_p8, li_p9, li_10, li_11, li_12, li_13, li_14, li_15, li_16, li_17, li_18, li_19, li_20, li_21, li_22, li_23, li_24, li_25, li_26, li_27, li_28, li_29, li_30, li_31, li_32, li_33, li_34, li_35, li_36, li_37, li_38, li_39, li_56, li_57, li_58, li_60, li_61, li_63, li_64, li_65, li_66, li_67, li_68, li_69, li_70, li_71, li_72, li_73, li_74, li_75, li_76, li_77, li_80, li_81, li_82, li_83, li_84, li_85, li_86, li_87, li_88, li_89, li_90, li_91, li_92, lw_q0, lw_q1, lw_q2, lw_q3, lw_q4, lw_q5, lw_q6, lw_q7, lw_q8, lw_q9, lw_10, lw_11, lw_12, lw_13, lw_14, lw_15, lw_16, lw_17, lw_18, lw_19, lw_20, lw_21, lw_22, lw_23, lw_24, lw_25, lw_26, lw_27, lw_28, lw_29, lw_30, lw_31, lw_32, lw_33, lw_34, lw_35, lw_36, lw_37, lw_38, lw_39, lw_56, lw_57, lw_58, lw_60, lw_61, lw_63, lw_64, lw_65, lw_66, lw_67, lw_68, lw_69, lw_70, lw_71, lw_72, lw_73, lw_74, lw_75, lw_76, lw_77, lw_80, lw_81, lw_82, lw_83, lw_84, lw_85, lw_86, lw_87, lw_88, lw_89, ll_78, ll_79, ll_s, rc6, rc2, rc3, rc5, rc7, rc1, rc0, rc4, rcs_0, rcs_1, rcs_2, rcs_3, rcs_4, mj_ib_nI, ↓reduceIte, mj_bdK, mj_ls, mj_ln, nI_clamp, nI_add, pk_mul, mj_nIeq0, mj_nIlt0, mj_nIle0, mj_nIeq, mj_nIle, mj_nIlt, mj_ok0, mj_ok1, mj_okb, mj_b0, mj_bR, mj_bR2, Nat.reduceEqDiff, hn, es, q]
    · have ng := mj_n1k (k := g) (by omega)
      by_cases h : mj_ix (nI g) G
      · have q3 : B i = false := by
          have h4 : ¬ G ≤ g := fun z => (mj_ixg hg8 hG8).mpr z h
          have h5 := mt q2.mpr h4
          exact Bool.eq_false_iff.mpr h5
        rw [mj_rs_no q3]
        simp (maxSteps := 1000000) (disch := first | assumption | omega) only [↓e109_28, ↓e109_30, ↓e109_33, ↓e109_34, ↓e109_37, ↓e109_38, ↓e109_39, ↓e109_39n, ↓e109_40, ↓e109_40n, ↓e109_41, ↓e109_44, ↓e109_47, ↓e109_48, ↓e109_51, ↓e109_51n, ↓e109_52, ↓e109_55, ↓e109_58, ↓e109_61, ↓e109_61n, ↓e109_62, ↓e109_63, ↓e109_66, ↓e109_69, c62, ↓e62_0, ↓e62_1, ↓e62_4, ↓e62_5, ↓e62_8, ↓e62_9, ↓e62_12, ↓e62_13, mj_bR, mj_bR2, li_p0, li_p1, li_p2, li_p3, li_p4, li_p5, li_p6, li_p7, li_p8, li_p9, li_10, li_11, li_12, li_13, li_14, li_15, li_16, li_17, li_18, li_19, li_20, li_21, li_22, li_23, li_24, li_25, li_26, li_27, li_28, li_29, li_30, li_31, li_32, li_33, li_34, li_35, li_36, li_37, li_38, li_39, li_56, li_57, li_58, li_60, li_61, li_63, li_64, li_65, li_66, li_67, li_68, li_69, li_70, li_71, li_72, li_73, li_74, li_75, li_76, li_77, li_80, li_81, li_82, li_83, li_84, li_85, li_86, li_87, li_88, li_89, li_90, li_91, li_92, lw_q0, lw_q1, lw_q2, lw_q3, lw_q4, lw_q5, lw_q6, lw_q7, lw_q8, lw_q9, lw_10, lw_11, lw_12, lw_13, lw_14, lw_15, lw_16, lw_17, lw_18, lw_19, lw_20, lw_21, lw_22, lw_23, lw_24, lw_25, lw_26, lw_27, lw_28, lw_29, lw_30, lw_31, lw_32, lw_33, lw_34, lw_35, lw_36, lw_37, lw_38, lw_39, lw_56, lw_57, lw_58, lw_60, lw_61, lw_63, lw_64, lw_65, lw_66, lw_67, lw_68, lw_69, lw_70, lw_71, lw_72, lw_73, lw_74, lw_75, lw_76, lw_77, lw_80, lw_81, lw_82, lw_83, lw_84, lw_85, lw_86, lw_87, lw_88, lw_89, ll_78, ll_79, ll_s, rc6, rc2, rc3, rc5, rc7, rc1, rc0, rc4, rcs_0, rcs_1, rcs_2, rcs_3, rcs_4, mj_ib_nI, ↓reduceIte, mj_bdK, mj_ls, mj_ln, nI_clamp, nI_add, pk_mul, mj_nIeq0, mj_nIlt0, mj_nIle0, mj_nIeq, mj_nIle, mj_nIlt, mj_ok0, mj_ok1, mj_okb, mj_b0, mj_bR, mj_bR2, Nat.reduceEqDiff, hn, es, q, ng, hg, mj_bt1 h]
      · have q3 : B i = true := q2.mp ((mj_ixg hg8 hG8).mp h)
        have ry := mj_rs_yes (σ := σ) q3
        simp (maxSteps := 1000000) (disch := first | assumption | omega) only [↓e109_28, ↓e109_30, ↓e109_33, ↓e109_34, ↓e109_37, ↓e109_38, ↓e109_39, ↓e109_39n, ↓e109_40, ↓e109_40n, ↓e109_41, ↓e109_44, ↓e109_47, ↓e109_48, ↓e109_51, ↓e109_51n, ↓e109_52, ↓e109_55, ↓e109_58, ↓e109_61, ↓e109_61n, ↓e109_62, ↓e109_63, ↓e109_66, ↓e109_69, c62, ↓e62_0, ↓e62_1, ↓e62_4, ↓e62_5, ↓e62_8, ↓e62_9, ↓e62_12, ↓e62_13, c60, ↓e60_0, ↓e60_1, ↓e60_2, ↓e60_5, ↓e60_6, ↓e60_7, ↓e60_10, ↓e60_11, ↓e60_12, ↓e60_15, mj_bR, mj_bR2, li_p0, li_p1, li_p2, li_p3, li_p4, li_p5, li_p6, li_p7, li_p8, li_p9, li_10, li_11, li_12, li_13, li_14, li_15, li_16, li_17, li_18, li_19, li_20, li_21, li_22, li_23, li_24, li_25, li_26, li_27, li_28, li_29, li_30, li_31, li_32, li_33, li_34, li_35, li_36, li_37, li_38, li_39, li_56, li_57, li_58, li_60, li_61, li_63, li_64, li_65, li_66, li_67, li_68, li_69, li_70, li_71, li_72, li_73, li_74, li_75, li_76, li_77, li_80, li_81, li_82, li_83, li_84, li_85, li_86, li_87, li_88, li_89, li_90, li_91, li_92, lw_q0, lw_q1, lw_q2, lw_q3, lw_q4, lw_q5, lw_q6, lw_q7, lw_q8, lw_q9, lw_10, lw_11, lw_12, lw_13, lw_14, lw_15, lw_16, lw_17, lw_18, lw_19, lw_20, lw_21, lw_22, lw_23, lw_24, lw_25, lw_26, lw_27, lw_28, lw_29, lw_30, lw_31, lw_32, lw_33, lw_34, lw_35, lw_36, lw_37, lw_38, lw_39, lw_56, lw_57, lw_58, lw_60, lw_61, lw_63, lw_64, lw_65, lw_66, lw_67, lw_68, lw_69, lw_70, lw_71, lw_72, lw_73, lw_74, lw_75, lw_76, lw_77, lw_80, lw_81, lw_82, lw_83, lw_84, lw_85, lw_86, lw_87, lw_88, lw_89, ll_78, ll_79, ll_s, rc6, rc2, rc3, rc5, rc7, rc1, rc0, rc4, rcs_0, rcs_1, rcs_2, rcs_3, rcs_4, mj_ib_nI, ↓reduceIte, mj_bdK, mj_ls, mj_ln, nI_clamp, nI_add, pk_mul, mj_nIeq0, mj_nIlt0, mj_nIle0, mj_nIeq, mj_nIle, mj_nIlt, mj_ok0, mj_ok1, mj_okb, mj_b0, mj_bR, mj_bR2, Nat.reduceEqDiff, hn, es, q, ng, hg, mj_bt0 h, ry]
theorem s_X8_restore_loop (hG : σ 62 0 = nI G) (hG8 : G ≤ 8) (hB : ∀ s, s < 8 → (∃ k, k < 2 ∧ σ 74 s = nI k ∧ B s = false) ∨ (σ 74 s = nI 2 ∧ ∃ g, g < 8 ∧ σ 77 s = nI g ∧ (G ≤ g ↔ B s = true))) : ∀ n i, i + n = 8 → mj_E 197 25 [some (.ref 62), some (.int (nI i))] [] (mj_rz σ B i) τ = some (some (.int (nI G)), mj_rz σ B 8, τ) := by
  have e1 : ∀ i, mj_rz σ B i 62 = σ 62 := fun i => mj_rz_ne (by omega)
  have e7 : ∀ i, mj_rz σ B i 77 = σ 77 := fun i => mj_rz_ne (by omega)
  have e4 : ∀ i, mj_rz σ B i 74 i = σ 74 i := fun i => mj_rz_ge (Nat.le_refl i)
  intro n
  induction n with
  | zero =>
    intro i hi
    obtain rfl : i = 8 := by omega
    simp (maxSteps := 1000000) (disch := first | assumption | omega) only [↓e197_25, ↓e197_26, ↓e197_28, ↓e197_31, ↓e197_32, ↓e197_35, ↓e197_36, ↓e197_37, ↓e197_38, ↓e197_41, ↓e197_42, ↓e197_45, ↓e197_46, ↓e197_47, ↓e197_48, ↓e197_51, ↓e197_54, ↓e197_55, ↓e197_58, ↓e197_59, ↓e197_60, ↓e197_61, ↓e197_64, ↓e197_67, ↓e197_68, ↓e197_71, li_p0, li_p1, li_p2, li_p3, li_p4, li_p5, li_p6, li_p7, li_p8, li_p9, li_10, li_11, li_12, li_13, li_14, li_15, li_16, li_17, li_18, li_19, li_20, li_21, li_22, li_23, li_24, li_25, li_26, li_27, li_28, li_29, li_30, li_31, li_32, li_33, li_34, li_35, li_36, li_37, li_38, li_39, li_56, li_57, li_58, li_60, li_61, li_63, li_64, li_65, li_66, li_67, li_68, li_69, li_70, li_71, li_72, li_73, li_74, li_75, li_76, li_77, li_80, li_81, li_82, li_83, li_84, li_85, li_86, li_87, li_88, li_89, li_90, li_91, li_92, lw_q0, lw_q1, lw_q2, lw_q3, lw_q4, lw_q5, lw_q6, lw_q7, lw_q8, lw_q9, lw_10, lw_11, lw_12, lw_13, lw_14, lw_15, lw_16, lw_17, lw_18, lw_19, lw_20, lw_21, lw_22, lw_23, lw_24, lw_25, lw_26, lw_27, lw_28, lw_29, lw_30, lw_31, lw_32, lw_33, lw_34, lw_35, lw_36, lw_37, lw_38, lw_39, lw_56, lw_57, lw_58, lw_60, lw_61, lw_63, lw_64, lw_65, lw_66, lw_67, lw_68, lw_69, lw_70, lw_71, lw_72, lw_73, lw_74, lw_75, lw_76, lw_77, lw_80, lw_81, lw_82, lw_83, lw_84, lw_85, lw_86, lw_87, lw_88, lw_89, ll_78, ll_79, ll_s, rc6, rc2, rc3, rc5, rc7, rc1, rc0, rc4, rcs_0, rcs_1, rcs_2, rcs_3, rcs_4, mj_ib_nI, ↓reduceIte, mj_bdK, mj_ls, mj_ln, nI_clamp, nI_add, pk_mul, mj_nIeq0, mj_nIlt0, mj_nIle0, mj_nIeq, mj_nIle, mj_nIlt, mj_ok0, mj_ok1, mj_okb, mj_b0, mj_bR, mj_bR2, Nat.reduceEqDiff, Nat.le_refl, e1, hG]
  | succ n ih =>
    intro i hi
    have hi8 : i < 8 := by omega
    have hn : ¬ 8 ≤ i := by omega
    have := ih (i + 1) (by omega)
    rw [← this, e197_25]
    rcases hB i hi8 with ⟨k, hk, q, q2⟩ | ⟨q, g, hg8, q3, q2⟩
    · rw [mj_rz_no q2]
      have hk2 : ¬ k = 2 := by omega
      simp (maxSteps := 1000000) (disch := first | assumption | omega) only [↓e197_26, ↓e197_28, ↓e197_31, ↓e197_32, ↓e197_35, ↓e197_36, ↓e197_37, ↓e197_38, ↓e197_41, ↓e197_42, ↓e197_45, ↓e197_46, ↓e197_47, ↓e197_48, ↓e197_51, ↓e197_54, ↓e197_55, ↓e197_58, ↓e197_59, ↓e197_60, ↓e197_61, ↓e197_64, li_p0, li_p1, li_p2, li_p3, li_p4, li_p5, li_p6, li_p7, li_p8, li_p9, li_10, li_11, li_12, li_13, li_14, li_15, li_16, li_17, li_18, li_19, li_20, li_21, li_22, li_23, li_24, li_25, li_26, li_27, li_28, li_29, li_30, li_31, li_32, li_33, li_34, li_35, li_36, li_37, li_38, li_39, li_56, li_57, li_58, li_60, li_61, li_63, li_64, li_65, li_66, li_67, li_68, li_69, li_70, li_71, li_72, li_73, li_74, li_75, li_76, li_77, li_80, li_81, li_82, li_83, li_84, li_85, li_86, li_87, li_88, li_89, li_90, li_91, li_92, lw_q0, lw_q1, lw_q2, lw_q3, lw_q4, lw_q5, lw_q6, lw_q7, lw_q8, lw_q9, lw_10, lw_11, lw_12, lw_13, lw_14, lw_15, lw_16, lw_17, lw_18, lw_19, lw_20, lw_21, lw_22, lw_23, lw_24, lw_25, lw_26, lw_27, lw_28, lw_29, lw_30, lw_31, lw_32, lw_33, lw_34, lw_35, lw_36, lw_37, lw_38, lw_39, lw_56, lw_57, lw_58, lw_60, lw_61, lw_63, lw_64, lw_65, lw_66, lw_67, lw_68, lw_69, lw_70, lw_71, lw_72, lw_73, lw_74, lw_75, lw_76, lw_77, lw_80, lw_81, lw_82, lw_83, lw_84, lw_85, lw_86, lw_87, lw_88, lw_89, ll_78, ll_79, ll_s, rc6, rc2, rc3, rc5, rc7, rc1, rc0, rc4, rcs_0, rcs_1, rcs_2, rcs_3, rcs_4, mj_ib_nI, ↓reduceIte, mj_bdK, mj_ls, mj_ln, nI_clamp, nI_add, pk_mul, mj_nIeq0, mj_nIlt0, mj_nIle0, mj_nIeq, mj_nIle, mj_nIlt, mj_ok0, mj_ok1, mj_okb, mj_b0, mj_bR, mj_bR2, Nat.reduceEqDiff, hn, e4, q, hk2]
    · by_cases h : G ≤ g
      · have h6 : ¬ g < G := by omega
        have ry := mj_rz_yes (σ := σ) (q2.mp h)
        simp (maxSteps := 1000000) (disch := first | assumption | omega) only [↓e197_26, ↓e197_28, ↓e197_31, ↓e197_32, ↓e197_35, ↓e197_36, ↓e197_37, ↓e197_38, ↓e197_41, ↓e197_42, ↓e197_45, ↓e197_46, ↓e197_47, ↓e197_48, ↓e197_51, ↓e197_54, ↓e197_55, ↓e197_58, ↓e197_59, ↓e197_60, ↓e197_61, ↓e197_64, li_p0, li_p1, li_p2, li_p3, li_p4, li_p5, li_p6, li_p7, li_p8, li_p9, li_10, li_11, li_12, li_13, li_14, li_15, li_16, li_17, li_18, li_19, li_20, li_21, li_22, li_23, li_24, li_25, li_26, li_27, li_28, li_29, li_30, li_31, li_32, li_33, li_34, li_35, li_36, li_37, li_38, li_39, li_56, li_57, li_58, li_60, li_61, li_63, li_64, li_65, li_66, li_67, li_68, li_69, li_70, li_71, li_72, li_73, li_74, li_75, li_76, li_77, li_80, li_81, li_82, li_83, li_84, li_85, li_86, li_87, li_88, li_89, li_90, li_91, li_92, lw_q0, lw_q1, lw_q2, lw_q3, lw_q4, lw_q5, lw_q6, lw_q7, lw_q8, lw_q9, lw_10, lw_11, lw_12, lw_13, lw_14, lw_15, lw_16, lw_17, lw_18, lw_19, lw_20, lw_21, lw_22, lw_23, lw_24, lw_25, lw_26, lw_27, lw_28, lw_29, lw_30, lw_31, lw_32, lw_33, lw_34, lw_35, lw_36, lw_37, lw_38, lw_39, lw_56, lw_57, lw_58, lw_60, lw_61, lw_63, lw_64, lw_65, lw_66, lw_67, lw_68, lw_69, lw_70, lw_71, lw_72, lw_73, lw_74, lw_75, lw_76, lw_77, lw_80, lw_81, lw_82, lw_83, lw_84, lw_85, lw_86, lw_87, lw_88, lw_89, ll_78, ll_79, ll_s, rc6, rc2, rc3, rc5, rc7, rc1, rc0, rc4, rcs_0, rcs_1, rcs_2, rcs_3, rcs_4, mj_ib_nI, ↓reduceIte, mj_bdK, mj_ls, mj_ln, nI_clamp, nI_add, pk_mul, mj_nIeq0, mj_nIlt0, mj_nIle0, mj_nIeq, mj_nIle, mj_nIlt, mj_ok0, mj_ok1, mj_okb, mj_b0, mj_bR, mj_bR2, Nat.reduceEqDiff, hn, e4, e7, e1, hG, q, q3, h, h6, ry]
      · have q4 : B i = false := Bool.eq_false_iff.mpr (mt q2.mpr h)
        have h5 : g < G := by omega
        rw [mj_rz_no q4]
        simp (maxSteps := 1000000) (disch := first | assumption | omega) only [↓e197_26, ↓e197_28, ↓e197_31, ↓e197_32, ↓e197_35, ↓e197_36, ↓e197_37, ↓e197_38, ↓e197_41, ↓e197_42, ↓e197_45, ↓e197_46, ↓e197_47, ↓e197_48, ↓e197_51, ↓e197_54, ↓e197_55, ↓e197_58, ↓e197_59, ↓e197_60, ↓e197_61, ↓e197_64, li_p0, li_p1, li_p2, li_p3, li_p4, li_p5, li_p6, li_p7, li_p8, li_p9, li_10, li_11, li_12, li_13, li_14, li_15, li_16, li_17, li_18, li_19, li_20, li_21, li_22, li_23, li_24, li_25, li_26, li_27, li_28, li_29, li_30, li_31, li_32, li_33, li_34, li_35, li_36, li_37, li_38, li_39, li_56, li_57, li_58, li_60, li_61, li_63, li_64, li_65, li_66, li_67, li_68, li_69, li_70, li_71, li_72, li_73, li_74, li_75, li_76, li_77, li_80, li_81, li_82, li_83, li_84, li_85, li_86, li_87, li_88, li_89, li_90, li_91, li_92, lw_q0, lw_q1, lw_q2, lw_q3, lw_q4, lw_q5, lw_q6, lw_q7, lw_q8, lw_q9, lw_10, lw_11, lw_12, lw_13, lw_14, lw_15, lw_16, lw_17, lw_18, lw_19, lw_20, lw_21, lw_22, lw_23, lw_24, lw_25, lw_26, lw_27, lw_28, lw_29, lw_30, lw_31, lw_32, lw_33, lw_34, lw_35, lw_36, lw_37, lw_38, lw_39, lw_56, lw_57, lw_58, lw_60, lw_61, lw_63, lw_64, lw_65, lw_66, lw_67, lw_68, lw_69, lw_70, lw_71, lw_72, lw_73, lw_74, lw_75, lw_76, lw_77, lw_80, lw_81, lw_82, lw_83, lw_84, lw_85, lw_86, lw_87, lw_88, lw_89, ll_78, ll_79, ll_s, rc6, rc2, rc3, rc5, rc7, rc1, rc0, rc4, rcs_0, rcs_1, rcs_2, rcs_3, rcs_4, mj_ib_nI, ↓reduceIte, mj_bdK, mj_ls, mj_ln, nI_clamp, nI_add, pk_mul, mj_nIeq0, mj_nIlt0, mj_nIle0, mj_nIeq, mj_nIle, mj_nIlt, mj_ok0, mj_ok1, mj_okb, mj_b0, mj_bR, mj_bR2, Nat.reduceEqDiff, hn, e4, e7, e1, hG, q, q3, h5]

/-- which shelves hold one who will not be there -/
def mj_bad (A : mj_A) (G : Nat) (s : Nat) : Bool := decide (A.2.2.2.2.1 s 0 = nI 2) && decide (G ≤ (A.2.2.2.2.1 s 3).toNatClampNeg)
def mj_rA (A : mj_A) (ρ : Nat → Nat → Int32) (G : Nat) : mj_A := (ρ, A.2.1, A.2.2.1, A.2.2.2.1, (fun s i => if i = 0 ∧ mj_bad A G s = true then nI 0 else A.2.2.2.2.1 s i), A.2.2.2.2.2)
theorem mj_bad_no {g : Nat} (h : ¬ A.2.2.2.2.1 s 0 = nI 2) : mj_bad A g s = false := by unfold mj_bad; rw [decide_eq_false h]; rfl
theorem mj_bad_yes {g : Nat} (h : A.2.2.2.2.1 s 0 = nI 2) (h2 : A.2.2.2.2.1 s 3 = nI g) (hg : g < 8) : (G2 ≤ g ↔ mj_bad A G2 s = true) := by
  unfold mj_bad
  rw [decide_eq_true h, h2, nI_clamp (by omega)]
  simp
theorem mj_rA_o {i : Nat} (h : ¬ i = 0) : (mj_rA A ρ G2).2.2.2.2.1 s i = A.2.2.2.2.1 s i := if_neg (fun z => h z.1)
theorem mj_rA_b (h : mj_bad A G2 s = true) : (mj_rA A ρ G2).2.2.2.2.1 s 0 = nI 0 := if_pos ⟨rfl, h⟩
theorem mj_rA_g (h : mj_bad A G2 s = false) : (mj_rA A ρ G2).2.2.2.2.1 s 0 = A.2.2.2.2.1 s 0 := if_neg (fun z => by rw [h] at z; cases z.2)
theorem mj_rA_ok (h : mj_sok A G) (hG : G ≤ 8) : mj_sok (mj_rA A ρ G2) G2 := by
  intro s hs
  by_cases hb : mj_bad A G2 s = true
  · exact Or.inl (mj_rA_b hb)
  · have hb2 : mj_bad A G2 s = false := Bool.eq_false_iff.mpr hb
    rw [mj_rA_g hb2, mj_rA_o (by decide), mj_rA_o (by decide), mj_rA_o (by decide)]
    rcases h s hs with q | q | ⟨q, g, hg, e⟩
    · exact Or.inl q
    · exact Or.inr (Or.inl q)
    · refine Or.inr (Or.inr ⟨q, g, ?_, e⟩)
      rcases Nat.lt_or_ge g G2 with z | z
      · exact z
      · exact absurd ((mj_bad_yes q e (by omega)).mp z) hb
theorem mj_IX_re (h : mj_IX σ τ A G C) (hw : mj_wf ρ G2 C2) : mj_IX (mj_rs (mj_wb 10 1 ρ σ) (mj_bad A G2) 8) τ (mj_rA A ρ G2) G2 C2 := by
  obtain ⟨a1, a2, a3, a4, a5, a6, a7, a8, a9, a10, a11, a12, a13, a14⟩ := h
  have e : ∀ k, ¬ (10 ≤ k ∧ k < 20) → ¬ k = 1 → ¬ (40 ≤ k ∧ k < 48) → mj_rs (mj_wb 10 1 ρ σ) (mj_bad A G2) 8 k = σ k := fun k h1 h2 h3 => (mj_rs_ne (by omega)).trans (mj_wb_ne h1 h2)
  have p : ∀ p, 2 ≤ p → p < 4 → mj_pv (10 * p) p (mj_rs (mj_wb 10 1 ρ σ) (mj_bad A G2) 8) = mj_pv (10 * p) p σ := fun p h2 hp => mj_pv_of (fun j hj => e _ (by omega) (by omega) (by omega)) (fun i hi => by rw [e _ (by omega) (by omega) (by omega)])
  have p1 : mj_pv (10 * 1) 1 (mj_rs (mj_wb 10 1 ρ σ) (mj_bad A G2) 8) = ρ := (mj_pv_of (σ := mj_wb 10 1 ρ σ) (fun j hj => mj_rs_ne (by omega)) (fun i hi => by rw [mj_rs_ne (by omega)])).trans (mj_pv_wb (by decide) hw)
  refine ⟨hw, p1, mj_rA_ok a3 a1.1.1, by rw [p 2 (by decide) (by decide)]; exact a4, by rw [p 3 (by decide) (by decide)]; exact a5, by rw [e 61 (by decide) (by decide) (by decide)]; exact a6, by rw [e 0 (by decide) (by decide) (by decide)]; exact a7, by rw [p 3 (by decide) (by decide), e 0 (by decide) (by decide) (by decide)]; exact a8, fun s hs => ?_, a10, by rw [e 59 (by decide) (by decide) (by decide)]; exact a11, a12, by rw [e 60 (by decide) (by decide) (by decide)]; exact a13, ?_⟩
  · unfold mj_shX
    by_cases hb : mj_bad A G2 s = true
    · left
      have hb2 : mj_bad A G2 (40 + s - 40) = true := by rw [show 40 + s - 40 = s by omega]; exact hb
      refine ⟨mj_rA_b hb, ?_, ?_, ?_⟩
      · unfold mj_rs; rw [if_pos ⟨⟨by omega, by omega, by decide⟩, hb2⟩]; rfl
      · unfold mj_rs; rw [if_pos ⟨⟨by omega, by omega, by decide⟩, hb2⟩]; rfl
      · unfold mj_rs; rw [if_pos ⟨⟨by omega, by omega, by decide⟩, hb2⟩]; rfl
    · have hb2 : mj_bad A G2 s = false := Bool.eq_false_iff.mpr hb
      have es : ∀ j, mj_rs (mj_wb 10 1 ρ σ) (mj_bad A G2) 8 (40 + s) j = σ (40 + s) j := fun j => by
        unfold mj_rs
        rw [if_neg (fun z => by have := z.2; rw [show 40 + s - 40 = s by omega, hb2] at this; cases this), mj_wb_ne (by omega) (by omega)]
      rw [mj_rA_g hb2, mj_rA_o (by decide), mj_rA_o (by decide), mj_rA_o (by decide), es, es, es]
      exact a9 s hs
  · unfold mj_kc; rw [e 90 (by decide) (by decide) (by decide), e 91 (by decide) (by decide) (by decide), e 92 (by decide) (by decide) (by decide)]; exact a14
theorem mj_IM_re (h : mj_IM σ τ A G C) (hw : mj_wf ρ G2 C2) : mj_IM (mj_rz (mj_wb 64 62 ρ σ) (mj_bad A G2) 8) τ (mj_rA A ρ G2) G2 C2 := by
  have e : ∀ k, ¬ (64 ≤ k ∧ k < 74) → ¬ k = 62 → ¬ k = 74 → mj_rz (mj_wb 64 62 ρ σ) (mj_bad A G2) 8 k = σ k := fun k h1 h2 h3 => (mj_rz_ne h3).trans (mj_wb_ne (by omega) h2)
  have f : ∀ i, 5 ≤ i → mj_rz (mj_wb 64 62 ρ σ) (mj_bad A G2) 8 62 i = σ 62 i := fun i hi => by rw [mj_rz_ne (by decide)]; exact mj_wb_o5 (by decide) hi
  have p1 : mj_pv 64 62 (mj_rz (mj_wb 64 62 ρ σ) (mj_bad A G2) 8) = ρ := (mj_pv_of (σ := mj_wb 64 62 ρ σ) (fun j hj => mj_rz_ne (by omega)) (fun i hi => by rw [mj_rz_ne (by omega)])).trans (mj_pv_wb (by decide) hw)
  obtain ⟨a1, a2, a3, a4, a5, a6, a7, a8⟩ := h
  unfold mj_IM
  rw [p1, e 63 (by decide) (by decide) (by decide), f 5 (by decide), f 42 (by decide), f 41 (by decide), e 85 (by decide) (by decide) (by decide), e 75 (by decide) (by decide) (by decide), e 76 (by decide) (by decide) (by decide), e 77 (by decide) (by decide) (by decide), e 89 (by decide) (by decide) (by decide), e 80 (by decide) (by decide) (by decide), e 81 (by decide) (by decide) (by decide), e 82 (by decide) (by decide) (by decide)]
  refine ⟨hw, rfl, mj_rA_ok a3 a1.1.1, a4, a5, a6, fun s hs => ?_, a8⟩
  obtain ⟨z1, z2, z3⟩ := a7 s hs
  by_cases hb : mj_bad A G2 s = true
  · rw [mj_rA_b hb]
    refine ⟨?_, fun z => absurd z (by decide), fun z => absurd z (by decide)⟩
    unfold mj_rz
    exact if_pos ⟨⟨rfl, hs⟩, hb⟩
  · have hb2 : mj_bad A G2 s = false := Bool.eq_false_iff.mpr hb
    rw [mj_rA_g hb2, mj_rA_o (by decide), mj_rA_o (by decide), mj_rA_o (by decide)]
    refine ⟨?_, z2, z3⟩
    unfold mj_rz
    rw [if_neg (fun z => by rw [hb2] at z; cases z.2), mj_wb_ne (by decide) (by decide)]
    exact z1

theorem bo_restore  : mj_bo 109 197 [] := by
  intro A G C σ τ σm τm hx hm
  have hp := mj_IX_wp hx
  have hw := mj_IM_wm hm
  obtain ⟨o0, o1, o2, o3, o4⟩ := mj_IX_o hx
  obtain ⟨m0, m1, m2, m3, m4⟩ := mj_IM_o hm
  have hG8 := hx.1.1.1
  have hC6 := hx.1.1.2.1
  rcases hx.2.2.2.2.2.2.2.1 with ⟨q1, q2⟩ | ⟨q1, q2⟩
  · rcases hm.2.2.2.2.2.1 with ⟨p1, p2⟩ | ⟨ρ, p1, -⟩
    · exact mj_b_rf (b := 6) (v := .int (-6)) (by simp (maxSteps := 1000000) (disch := first | assumption | omega) only [c109, ↓e109_0, ↓e109_1, ↓e109_4, ↓e109_7, ↓e109_8, ↓e109_10, ↓e109_13, ↓e109_14, ↓e109_15, ↓e109_18, ↓e109_19, ↓e109_22, ↓e109_25, ↓e109_26, ↓e109_27, ↓e109_28, ↓e109_30, ↓e109_33, ↓e109_34, ↓e109_37, ↓e109_38, ↓e109_39, ↓e109_39n, ↓e109_40, ↓e109_40n, ↓e109_41, ↓e109_44, ↓e109_47, ↓e109_48, ↓e109_51, ↓e109_51n, ↓e109_52, ↓e109_55, ↓e109_58, ↓e109_61, ↓e109_61n, ↓e109_62, ↓e109_63, ↓e109_66, ↓e109_69, ↓e109_72, ↓e109_73, ↓e109_76, ↓e109_79, li_p0, li_p1, li_p2, li_p3, li_p4, li_p5, li_p6, li_p7, li_p8, li_p9, li_10, li_11, li_12, li_13, li_14, li_15, li_16, li_17, li_18, li_19, li_20, li_21, li_22, li_23, li_24, li_25, li_26, li_27, li_28, li_29, li_30, li_31, li_32, li_33, li_34, li_35, li_36, li_37, li_38, li_39, li_56, li_57, li_58, li_60, li_61, li_63, li_64, li_65, li_66, li_67, li_68, li_69, li_70, li_71, li_72, li_73, li_74, li_75, li_76, li_77, li_80, li_81, li_82, li_83, li_84, li_85, li_86, li_87, li_88, li_89, li_90, li_91, li_92, lw_q0, lw_q1, lw_q2, lw_q3, lw_q4, lw_q5, lw_q6, lw_q7, lw_q8, lw_q9, lw_10, lw_11, lw_12, lw_13, lw_14, lw_15, lw_16, lw_17, lw_18, lw_19, lw_20, lw_21, lw_22, lw_23, lw_24, lw_25, lw_26, lw_27, lw_28, lw_29, lw_30, lw_31, lw_32, lw_33, lw_34, lw_35, lw_36, lw_37, lw_38, lw_39, lw_56, lw_57, lw_58, lw_60, lw_61, lw_63, lw_64, lw_65, lw_66, lw_67, lw_68, lw_69, lw_70, lw_71, lw_72, lw_73, lw_74, lw_75, lw_76, lw_77, lw_80, lw_81, lw_82, lw_83, lw_84, lw_85, lw_86, lw_87, lw_88, lw_89, ll_78, ll_79, ll_s, rc6, rc2, rc3, rc5, rc7, rc1, rc0, rc4, rcs_0, rcs_1, rcs_2, rcs_3, rcs_4, mj_ib_nI, ↓reduceIte, mj_bdK, mj_ls, mj_ln, nI_clamp, nI_add, pk_mul, mj_nIeq0, mj_nIlt0, mj_nIle0, mj_nIeq, mj_nIle, mj_nIlt, mj_ok0, mj_ok1, mj_okb, mj_b0, mj_bR, mj_bR2, Nat.reduceEqDiff, s_X2_hasGrown hp, s_X2_hasChild hp, s_X7_isWithin, not_true_eq_false, not_false_eq_true, s_X7_refuse6, s_X7_tell6, q2, p2]) (by simp (maxSteps := 1000000) (disch := first | assumption | omega) only [c197, ↓e197_0, ↓e197_1, ↓e197_4, ↓e197_7, ↓e197_8, ↓e197_10, ↓e197_13, ↓e197_14, ↓e197_15, ↓e197_16, ↓e197_19, ↓e197_20, ↓e197_23, ↓e197_24, ↓e197_25, ↓e197_26, ↓e197_28, ↓e197_31, ↓e197_32, ↓e197_35, ↓e197_36, ↓e197_37, ↓e197_38, ↓e197_41, ↓e197_42, ↓e197_45, ↓e197_46, ↓e197_47, ↓e197_48, ↓e197_51, ↓e197_54, ↓e197_55, ↓e197_58, ↓e197_59, ↓e197_60, ↓e197_61, ↓e197_64, ↓e197_67, ↓e197_68, ↓e197_71, li_p0, li_p1, li_p2, li_p3, li_p4, li_p5, li_p6, li_p7, li_p8, li_p9, li_10, li_11, li_12, li_13, li_14, li_15, li_16, li_17, li_18, li_19, li_20, li_21, li_22, li_23, li_24, li_25, li_26, li_27, li_28, li_29, li_30, li_31, li_32, li_33, li_34, li_35, li_36, li_37, li_38, li_39, li_56, li_57, li_58, li_60, li_61, li_63, li_64, li_65, li_66, li_67, li_68, li_69, li_70, li_71, li_72, li_73, li_74, li_75, li_76, li_77, li_80, li_81, li_82, li_83, li_84, li_85, li_86, li_87, li_88, li_89, li_90, li_91, li_92, lw_q0, lw_q1, lw_q2, lw_q3, lw_q4, lw_q5, lw_q6, lw_q7, lw_q8, lw_q9, lw_10, lw_11, lw_12, lw_13, lw_14, lw_15, lw_16, lw_17, lw_18, lw_19, lw_20, lw_21, lw_22, lw_23, lw_24, lw_25, lw_26, lw_27, lw_28, lw_29, lw_30, lw_31, lw_32, lw_33, lw_34, lw_35, lw_36, lw_37, lw_38, lw_39, lw_56, lw_57, lw_58, lw_60, lw_61, lw_63, lw_64, lw_65, lw_66, lw_67, lw_68, lw_69, lw_70, lw_71, lw_72, lw_73, lw_74, lw_75, lw_76, lw_77, lw_80, lw_81, lw_82, lw_83, lw_84, lw_85, lw_86, lw_87, lw_88, lw_89, ll_78, ll_79, ll_s, rc6, rc2, rc3, rc5, rc7, rc1, rc0, rc4, rcs_0, rcs_1, rcs_2, rcs_3, rcs_4, mj_ib_nI, ↓reduceIte, mj_bdK, mj_ls, mj_ln, nI_clamp, nI_add, pk_mul, mj_nIeq0, mj_nIlt0, mj_nIle0, mj_nIeq, mj_nIle, mj_nIlt, mj_ok0, mj_ok1, mj_okb, mj_b0, mj_bR, mj_bR2, Nat.reduceEqDiff, s_X8_isGrown hw, s_X8_isChild hw, s_X8_isFrom, not_true_eq_false, not_false_eq_true, s_X8_no6, s_X8_ten6, q2, p2]) hx hm
    · rw [q1] at p1; cases p1
  · rcases hm.2.2.2.2.2.1 with ⟨p1, -⟩ | ⟨ρ, p1, p2, ⟨G2, C2, wr⟩, hF⟩
    · rw [q1] at p1; cases p1
    · rw [q1] at p1
      obtain rfl := Option.some.inj p1
      have cf := s_X2_copyFrom (p := 1) (q := 3) (σ := σ) (τ := τ) (by decide) (by decide) (by decide) (by decide) (by decide) (hx.2.1 ▸ hx.1) wr
      have al := s_X8_all_b (q := 85) (σ := σm) (τ := τm) (by decide) hm.1 wr hF
      rw [show mj_wb 64 62 A.1 σm = σm by rw [← hm.2.1]; exact mj_wb_pv] at al
      have hp2 : mj_wp (mj_wb 10 1 (mj_pv (10 * 3) 3 σ) σ) 1 G2 C2 := mj_wp_wb (p := 1) (by decide) (by decide) wr
      have hBx : ∀ s, s < 8 → (mj_wb 10 1 (mj_pv (10 * 3) 3 σ) σ (40 + s) 1 = -1 ∧ mj_bad A G2 s = false) ∨ ∃ g, g < 8 ∧ mj_wb 10 1 (mj_pv (10 * 3) 3 σ) σ (40 + s) 1 = nI g ∧ (G2 ≤ g ↔ mj_bad A G2 s = true) := by
        intro s hs
        rw [mj_wb_ne (by omega) (by omega)]
        rcases hx.2.2.2.2.2.2.2.2.1 s hs with ⟨w, -, w1, -⟩ | ⟨w, -, w1, -⟩ | ⟨w, -, w1, -⟩
        · exact Or.inl ⟨w1, mj_bad_no (by rw [w]; decide)⟩
        · exact Or.inl ⟨w1, mj_bad_no (by rw [w]; decide)⟩
        · rcases hx.2.2.1 s hs with z | ⟨z, -⟩ | ⟨-, g, hg, eg⟩
          · rw [w] at z; exact absurd z (by decide)
          · rw [w] at z; exact absurd z (by decide)
          · exact Or.inr ⟨g, by omega, w1.trans eg, mj_bad_yes w eg (by omega)⟩
      have hBm : ∀ s, s < 8 → (∃ k, k < 2 ∧ mj_wb 64 62 (mj_pv (10 * 3) 3 σ) σm 74 s = nI k ∧ mj_bad A G2 s = false) ∨ (mj_wb 64 62 (mj_pv (10 * 3) 3 σ) σm 74 s = nI 2 ∧ ∃ g, g < 8 ∧ mj_wb 64 62 (mj_pv (10 * 3) 3 σ) σm 77 s = nI g ∧ (G2 ≤ g ↔ mj_bad A G2 s = true)) := by
        intro s hs
        rw [mj_wb_ne (k := 74) (by decide) (by decide), mj_wb_ne (k := 77) (by decide) (by decide)]
        obtain ⟨z1, -, z3⟩ := hm.2.2.2.2.2.2.1 s hs
        rcases hx.2.2.1 s hs with w | ⟨w, -⟩ | ⟨w, g, hg, eg⟩
        · exact Or.inl ⟨0, by decide, z1.trans w, mj_bad_no (by rw [w]; decide)⟩
        · exact Or.inl ⟨1, by decide, z1.trans w, mj_bad_no (by rw [w]; decide)⟩
        · exact Or.inr ⟨z1.trans w, g, by omega, (z3 w).trans eg, mj_bad_yes w eg (by omega)⟩
      have l1 := s_X7_restore_loop (τ := τ) hp2 hBx 8 0 none (by decide)
      have l2 := s_X8_restore_loop (σ := mj_wb 64 62 (mj_pv (10 * 3) 3 σ) σm) (τ := τm) (G := G2) (by exact (mj_wb_o (by decide) (by decide)).trans wr.1.2.2.1) wr.1.1 hBm 8 0 (by decide)
      rw [mj_rs_0] at l1
      rw [mj_rz_0] at l2
      exact ⟨.int (nI G2), _, G2, C2, ⟨_, _, by simp (maxSteps := 1000000) (disch := first | assumption | omega) only [c109, ↓e109_0, ↓e109_1, ↓e109_4, ↓e109_7, ↓e109_8, ↓e109_10, ↓e109_13, ↓e109_14, ↓e109_15, ↓e109_18, ↓e109_19, ↓e109_22, ↓e109_25, ↓e109_26, ↓e109_28, ↓e109_30, ↓e109_33, ↓e109_34, ↓e109_37, ↓e109_38, ↓e109_39, ↓e109_39n, ↓e109_40, ↓e109_40n, ↓e109_41, ↓e109_44, ↓e109_47, ↓e109_48, ↓e109_51, ↓e109_51n, ↓e109_52, ↓e109_55, ↓e109_58, ↓e109_61, ↓e109_61n, ↓e109_62, ↓e109_63, ↓e109_66, ↓e109_69, ↓e109_72, ↓e109_73, ↓e109_76, ↓e109_79, li_p0, li_p1, li_p2, li_p3, li_p4, li_p5, li_p6, li_p7, li_p8, li_p9, li_10, li_11, li_12, li_13, li_14, li_15, li_16, li_17, li_18, li_19, li_20, li_21, li_22, li_23, li_24, li_25, li_26, li_27, li_28, li_29, li_30, li_31, li_32, li_33, li_34, li_35, li_36, li_37, li_38, li_39, li_56, li_57, li_58, li_60, li_61, li_63, li_64, li_65, li_66, li_67, li_68, li_69, li_70, li_71, li_72, li_73, li_74, li_75, li_76, li_77, li_80, li_81, li_82, li_83, li_84, li_85, li_86, li_87, li_88, li_89, li_90, li_91, li_92, lw_q0, lw_q1, lw_q2, lw_q3, lw_q4, lw_q5, lw_q6, lw_q7, lw_q8, lw_q9, lw_10, lw_11, lw_12, lw_13, lw_14, lw_15, lw_16, lw_17, lw_18, lw_19, lw_20, lw_21, lw_22, lw_23, lw_24, lw_25, lw_26, lw_27, lw_28, lw_29, lw_30, lw_31, lw_32, lw_33, lw_34, lw_35, lw_36, lw_37, lw_38, lw_39, lw_56, lw_57, lw_58, lw_60, lw_61, lw_63, lw_64, lw_65, lw_66, lw_67, lw_68, lw_69, lw_70, lw_71, lw_72, lw_73, lw_74, lw_75, lw_76, lw_77, lw_80, lw_81, lw_82, lw_83, lw_84, lw_85, lw_86, lw_87, lw_88, lw_89, ll_78, ll_79, ll_s, rc6, rc2, rc3, rc5, rc7, rc1, rc0, rc4, rcs_0, rcs_1, rcs_2, rcs_3, rcs_4, mj_ib_nI, ↓reduceIte, mj_bdK, mj_ls, mj_ln, nI_clamp, nI_add, pk_mul, mj_nIeq0, mj_nIlt0, mj_nIle0, mj_nIeq, mj_nIle, mj_nIlt, mj_ok0, mj_ok1, mj_okb, mj_b0, mj_bR, mj_bR2, Nat.reduceEqDiff, q2, cf, l1], mj_IX_re hx wr, fun k hk => ⟨(mj_rs_ne (by omega)).trans (mj_wb_ne (by omega) (by omega)), rfl⟩⟩, ⟨_, _, by simp (maxSteps := 1000000) (disch := first | assumption | omega) only [c197, ↓e197_0, ↓e197_1, ↓e197_4, ↓e197_7, ↓e197_8, ↓e197_10, ↓e197_13, ↓e197_14, ↓e197_15, ↓e197_16, ↓e197_19, ↓e197_20, ↓e197_23, ↓e197_24, ↓e197_26, ↓e197_28, ↓e197_31, ↓e197_32, ↓e197_35, ↓e197_36, ↓e197_37, ↓e197_38, ↓e197_41, ↓e197_42, ↓e197_45, ↓e197_46, ↓e197_47, ↓e197_48, ↓e197_51, ↓e197_54, ↓e197_55, ↓e197_58, ↓e197_59, ↓e197_60, ↓e197_61, ↓e197_64, ↓e197_67, ↓e197_68, ↓e197_71, li_p0, li_p1, li_p2, li_p3, li_p4, li_p5, li_p6, li_p7, li_p8, li_p9, li_10, li_11, li_12, li_13, li_14, li_15, li_16, li_17, li_18, li_19, li_20, li_21, li_22, li_23, li_24, li_25, li_26, li_27, li_28, li_29, li_30, li_31, li_32, li_33, li_34, li_35, li_36, li_37, li_38, li_39, li_56, li_57, li_58, li_60, li_61, li_63, li_64, li_65, li_66, li_67, li_68, li_69, li_70, li_71, li_72, li_73, li_74, li_75, li_76, li_77, li_80, li_81, li_82, li_83, li_84, li_85, li_86, li_87, li_88, li_89, li_90, li_91, li_92, lw_q0, lw_q1, lw_q2, lw_q3, lw_q4, lw_q5, lw_q6, lw_q7, lw_q8, lw_q9, lw_10, lw_11, lw_12, lw_13, lw_14, lw_15, lw_16, lw_17, lw_18, lw_19, lw_20, lw_21, lw_22, lw_23, lw_24, lw_25, lw_26, lw_27, lw_28, lw_29, lw_30, lw_31, lw_32, lw_33, lw_34, lw_35, lw_36, lw_37, lw_38, lw_39, lw_56, lw_57, lw_58, lw_60, lw_61, lw_63, lw_64, lw_65, lw_66, lw_67, lw_68, lw_69, lw_70, lw_71, lw_72, lw_73, lw_74, lw_75, lw_76, lw_77, lw_80, lw_81, lw_82, lw_83, lw_84, lw_85, lw_86, lw_87, lw_88, lw_89, ll_78, ll_79, ll_s, rc6, rc2, rc3, rc5, rc7, rc1, rc0, rc4, rcs_0, rcs_1, rcs_2, rcs_3, rcs_4, mj_ib_nI, ↓reduceIte, mj_bdK, mj_ls, mj_ln, nI_clamp, nI_add, pk_mul, mj_nIeq0, mj_nIlt0, mj_nIle0, mj_nIeq, mj_nIle, mj_nIlt, mj_ok0, mj_ok1, mj_okb, mj_b0, mj_bR, mj_bR2, Nat.reduceEqDiff, p2, al, l2], mj_IM_re hm wr, fun k hk => ⟨(mj_rz_ne (by omega)).trans (mj_wb_ne (by omega) (by omega)), rfl⟩⟩⟩

end
