/-! THE MODEL: reads, pulls, choosing -/
theorem wm_0 {π : Nat → Nat → Int32} {σ : mj_S} : mj_wb 64 62 π σ 64 = π 0 := mj_wb_a (B := 64) (j := 0) (by decide)
theorem um_0 {π : Nat → Nat → Int32} {σ : mj_S} {i : Nat} {v : Int32} : mj_up (mj_wb 64 62 π σ) 64 i v = mj_wb 64 62 (mj_up π 0 i v) σ := mj_wb_ua (B := 64) (j := 0) (by decide)
theorem wm_1 {π : Nat → Nat → Int32} {σ : mj_S} : mj_wb 64 62 π σ 65 = π 1 := mj_wb_a (B := 64) (j := 1) (by decide)
theorem um_1 {π : Nat → Nat → Int32} {σ : mj_S} {i : Nat} {v : Int32} : mj_up (mj_wb 64 62 π σ) 65 i v = mj_wb 64 62 (mj_up π 1 i v) σ := mj_wb_ua (B := 64) (j := 1) (by decide)
theorem wm_2 {π : Nat → Nat → Int32} {σ : mj_S} : mj_wb 64 62 π σ 66 = π 2 := mj_wb_a (B := 64) (j := 2) (by decide)
theorem um_2 {π : Nat → Nat → Int32} {σ : mj_S} {i : Nat} {v : Int32} : mj_up (mj_wb 64 62 π σ) 66 i v = mj_wb 64 62 (mj_up π 2 i v) σ := mj_wb_ua (B := 64) (j := 2) (by decide)
theorem wm_3 {π : Nat → Nat → Int32} {σ : mj_S} : mj_wb 64 62 π σ 67 = π 3 := mj_wb_a (B := 64) (j := 3) (by decide)
theorem um_3 {π : Nat → Nat → Int32} {σ : mj_S} {i : Nat} {v : Int32} : mj_up (mj_wb 64 62 π σ) 67 i v = mj_wb 64 62 (mj_up π 3 i v) σ := mj_wb_ua (B := 64) (j := 3) (by decide)
theorem wm_4 {π : Nat → Nat → Int32} {σ : mj_S} : mj_wb 64 62 π σ 68 = π 4 := mj_wb_a (B := 64) (j := 4) (by decide)
theorem um_4 {π : Nat → Nat → Int32} {σ : mj_S} {i : Nat} {v : Int32} : mj_up (mj_wb 64 62 π σ) 68 i v = mj_wb 64 62 (mj_up π 4 i v) σ := mj_wb_ua (B := 64) (j := 4) (by decide)
theorem wm_5 {π : Nat → Nat → Int32} {σ : mj_S} : mj_wb 64 62 π σ 69 = π 5 := mj_wb_a (B := 64) (j := 5) (by decide)
theorem um_5 {π : Nat → Nat → Int32} {σ : mj_S} {i : Nat} {v : Int32} : mj_up (mj_wb 64 62 π σ) 69 i v = mj_wb 64 62 (mj_up π 5 i v) σ := mj_wb_ua (B := 64) (j := 5) (by decide)
theorem wm_6 {π : Nat → Nat → Int32} {σ : mj_S} : mj_wb 64 62 π σ 70 = π 6 := mj_wb_a (B := 64) (j := 6) (by decide)
theorem um_6 {π : Nat → Nat → Int32} {σ : mj_S} {i : Nat} {v : Int32} : mj_up (mj_wb 64 62 π σ) 70 i v = mj_wb 64 62 (mj_up π 6 i v) σ := mj_wb_ua (B := 64) (j := 6) (by decide)
theorem wm_7 {π : Nat → Nat → Int32} {σ : mj_S} : mj_wb 64 62 π σ 71 = π 7 := mj_wb_a (B := 64) (j := 7) (by decide)
theorem um_7 {π : Nat → Nat → Int32} {σ : mj_S} {i : Nat} {v : Int32} : mj_up (mj_wb 64 62 π σ) 71 i v = mj_wb 64 62 (mj_up π 7 i v) σ := mj_wb_ua (B := 64) (j := 7) (by decide)
theorem wm_8 {π : Nat → Nat → Int32} {σ : mj_S} : mj_wb 64 62 π σ 72 = π 8 := mj_wb_a (B := 64) (j := 8) (by decide)
theorem um_8 {π : Nat → Nat → Int32} {σ : mj_S} {i : Nat} {v : Int32} : mj_up (mj_wb 64 62 π σ) 72 i v = mj_wb 64 62 (mj_up π 8 i v) σ := mj_wb_ua (B := 64) (j := 8) (by decide)
theorem wm_9 {π : Nat → Nat → Int32} {σ : mj_S} : mj_wb 64 62 π σ 73 = π 9 := mj_wb_a (B := 64) (j := 9) (by decide)
theorem um_9 {π : Nat → Nat → Int32} {σ : mj_S} {i : Nat} {v : Int32} : mj_up (mj_wb 64 62 π σ) 73 i v = mj_wb 64 62 (mj_up π 9 i v) σ := mj_wb_ua (B := 64) (j := 9) (by decide)
theorem wo_0 {π : Nat → Nat → Int32} {σ : mj_S} : mj_wb 64 62 π σ 62 0 = π 10 0 := mj_wb_o (by decide) (by decide)
theorem uo_0 {π : Nat → Nat → Int32} {σ : mj_S} {v : Int32} : mj_up (mj_wb 64 62 π σ) 62 0 v = mj_wb 64 62 (mj_uc π 0 v) σ := mj_wb_uo (by decide) (by decide)
theorem wo_1 {π : Nat → Nat → Int32} {σ : mj_S} : mj_wb 64 62 π σ 62 1 = π 10 1 := mj_wb_o (by decide) (by decide)
theorem uo_1 {π : Nat → Nat → Int32} {σ : mj_S} {v : Int32} : mj_up (mj_wb 64 62 π σ) 62 1 v = mj_wb 64 62 (mj_uc π 1 v) σ := mj_wb_uo (by decide) (by decide)
theorem wo_2 {π : Nat → Nat → Int32} {σ : mj_S} : mj_wb 64 62 π σ 62 2 = π 10 2 := mj_wb_o (by decide) (by decide)
theorem uo_2 {π : Nat → Nat → Int32} {σ : mj_S} {v : Int32} : mj_up (mj_wb 64 62 π σ) 62 2 v = mj_wb 64 62 (mj_uc π 2 v) σ := mj_wb_uo (by decide) (by decide)
theorem wo_3 {π : Nat → Nat → Int32} {σ : mj_S} : mj_wb 64 62 π σ 62 3 = π 10 3 := mj_wb_o (by decide) (by decide)
theorem uo_3 {π : Nat → Nat → Int32} {σ : mj_S} {v : Int32} : mj_up (mj_wb 64 62 π σ) 62 3 v = mj_wb 64 62 (mj_uc π 3 v) σ := mj_wb_uo (by decide) (by decide)
theorem wo_4 {π : Nat → Nat → Int32} {σ : mj_S} : mj_wb 64 62 π σ 62 4 = π 10 4 := mj_wb_o (by decide) (by decide)
theorem uo_4 {π : Nat → Nat → Int32} {σ : mj_S} {v : Int32} : mj_up (mj_wb 64 62 π σ) 62 4 v = mj_wb 64 62 (mj_uc π 4 v) σ := mj_wb_uo (by decide) (by decide)
def mj_s3 (σ : mj_S) (a b c : Int32) : mj_S := fun k i => if k = 62 then (if i = 35 then a else if i = 36 then b else if i = 37 then c else σ k i) else σ k i
theorem mj_s3_ne {σ : mj_S} {a b c : Int32} {k : Nat} (h : ¬ k = 62) : mj_s3 σ a b c k = σ k := by funext i; simp [mj_s3, h]
theorem mj_s3_f {σ : mj_S} {a b c : Int32} {i : Nat} (h : i < 35 ∨ 37 < i) : mj_s3 σ a b c 62 i = σ 62 i := by
  simp only [mj_s3, if_true, show ¬ i = 35 by omega, show ¬ i = 36 by omega, show ¬ i = 37 by omega, if_false]
theorem mj_s3_5 {σ : mj_S} {a b c : Int32} : mj_s3 σ a b c 62 35 = a := by simp [mj_s3]
theorem mj_s3_6 {σ : mj_S} {a b c : Int32} : mj_s3 σ a b c 62 36 = b := by simp [mj_s3]
theorem mj_s3_7 {σ : mj_S} {a b c : Int32} : mj_s3 σ a b c 62 37 = c := by simp [mj_s3]
theorem mj_s3_u5 {σ : mj_S} {a b c x : Int32} : mj_up (mj_s3 σ a b c) 62 35 x = mj_s3 σ x b c := by
  funext k i; by_cases h : k = 62 <;> by_cases h2 : i = 35 <;> simp [mj_up, mj_s3, h, h2]
theorem mj_s3_u6 {σ : mj_S} {a b c x : Int32} : mj_up (mj_s3 σ a b c) 62 36 x = mj_s3 σ a x c := by
  funext k i; by_cases h : k = 62 <;> by_cases h2 : i = 36 <;> simp [mj_up, mj_s3, h, h2]
theorem mj_s3_u7 {σ : mj_S} {a b c x : Int32} : mj_up (mj_s3 σ a b c) 62 37 x = mj_s3 σ a b x := by
  funext k i; by_cases h : k = 62 <;> by_cases h2 : i = 37 <;> simp [mj_up, mj_s3, h, h2]
theorem mj_s3_mk {σ : mj_S} {a b c : Int32} : mj_up (mj_up (mj_up σ 62 35 a) 62 36 b) 62 37 c = mj_s3 σ a b c := by
  funext k i; by_cases h : k = 62 <;> by_cases h1 : i = 35 <;> by_cases h2 : i = 36 <;> by_cases h3 : i = 37 <;> simp [mj_up, mj_s3, h, h1, h2, h3]
theorem mj_s3_s3 {σ : mj_S} {a b c x y z : Int32} : mj_s3 (mj_s3 σ a b c) x y z = mj_s3 σ x y z := by
  funext k i; by_cases h : k = 62 <;> by_cases h1 : i = 35 <;> by_cases h2 : i = 36 <;> by_cases h3 : i = 37 <;> simp [mj_s3, h, h1, h2, h3]
theorem mj_s3_eta {σ : mj_S} : mj_s3 σ (σ 62 35) (σ 62 36) (σ 62 37) = σ := by
  funext k i; by_cases h : k = 62 <;> by_cases h1 : i = 35 <;> by_cases h2 : i = 36 <;> by_cases h3 : i = 37 <;> simp [mj_s3, h, h1, h2, h3]
theorem mj_pv_s3 {σ : mj_S} {a b c : Int32} : mj_pv 64 62 (mj_s3 σ a b c) = mj_pv 64 62 σ := by
  funext j i
  unfold mj_pv
  split
  · rw [mj_s3_ne (by omega)]
  · split
    · rw [mj_s3_f (by omega)]
    · rfl
theorem mj_s3_wb {π : Nat → Nat → Int32} {σ : mj_S} {a b c : Int32} : mj_s3 (mj_wb 64 62 π σ) a b c = mj_wb 64 62 π (mj_s3 σ a b c) := by
  funext k i
  by_cases hk : k = 62
  · subst hk
    by_cases hi : i < 5
    · rw [mj_s3_f (by omega), mj_wb_o (by decide) hi, mj_wb_o (by decide) hi]
    · rw [mj_wb_o5 (by decide) (by omega)]
      unfold mj_s3
      rw [if_pos rfl, if_pos rfl, mj_wb_o5 (by decide) (by omega)]
  · rw [mj_s3_ne hk]
    unfold mj_wb
    split
    · rfl
    · split
      · rfl
      · rw [mj_s3_ne hk]
/-- the model stands well -/
def mj_wm (σ : mj_S) (G C : Nat) : Prop := mj_wf (mj_pv 64 62 σ) G C
section
variable {σ : mj_S} {τ : mj_T} {c g G C : Nat} {π : Nat → Nat → Int32}
theorem mj_wm_wb (h : mj_wf π G C) : mj_wm (mj_wb 64 62 π σ) G C := by unfold mj_wm; rw [mj_pv_wb (by decide) h]; exact h
theorem mj_wm_s3 (h : mj_wm σ G C) {a b c : Int32} : mj_wm (mj_s3 σ a b c) G C := by unfold mj_wm; rw [mj_pv_s3]; exact h
theorem mj_wm_G (h : mj_wm σ G C) : σ 62 0 = nI G ∧ G ≤ 8 := ⟨h.1.2.2.1, h.1.1⟩
theorem mj_wm_C (h : mj_wm σ G C) : σ 62 1 = nI C ∧ C ≤ 6 := ⟨h.1.2.2.2.1, h.1.2.1⟩
theorem mj_mn_eq {x : Int32} : (if x ≤ nI 99 then x else nI 99) = mj_mn x := by
  unfold mj_mn
  by_cases h : x < nI 99
  · rw [if_pos h, if_pos (Int32.le_of_lt h)]
  · rw [if_neg h]
    split
    · rename_i h2; exact Int32.le_antisymm h2 (Int32.not_lt.mp h)
    · rfl
theorem s_X8_more (hc : c < 6) (hg : g < 8) {n : Int32} : mj_C 138 [.ref 62, .int (nI c), .int (nI g), .int n] σ τ = some (some (.int (mj_mn (mj_pv 64 62 σ 9 (8 * c + g) + n))), σ, τ) := by
  rw [← mj_mn_eq]
  have r : mj_pv 64 62 σ 9 (8 * c + g) = σ 73 (8 * c + g) := rfl
  rw [r]
  by_cases h : σ 73 (8 * c + g) + n ≤ nI 99
  · simp (maxSteps := 1000000) (disch := first | assumption | omega) only [c138, ↓e138_0, ↓e138_1, ↓e138_4, ↓e138_6, ↓e138_7, ↓e138_8, ↓e138_9, ↓e138_10, ↓e138_11, ↓e138_12, ↓e138_13, ↓e138_15, ↓e138_17, ↓e138_19, ↓e138_22, ↓e138_24, ↓e138_27, ↓e138_29, li_p0, li_p1, li_p2, li_p3, li_p4, li_p5, li_p6, li_p7, li_p8, li_p9, li_10, li_11, li_12, li_13, li_14, li_15, li_16, li_17, li_18, li_19, li_20, li_21, li_22, li_23, li_24, li_25, li_26, li_27, li_28, li_29, li_30, li_31, li_32, li_33, li_34, li_35, li_36, li_37, li_38, li_39, li_56, li_57, li_58, li_60, li_61, li_63, li_64, li_65, li_66, li_67, li_68, li_69, li_70, li_71, li_72, li_73, li_74, li_75, li_76, li_77, li_80, li_81, li_82, li_83, li_84, li_85, li_86, li_87, li_88, li_89, li_90, li_91, li_92, lw_q0, lw_q1, lw_q2, lw_q3, lw_q4, lw_q5, lw_q6, lw_q7, lw_q8, lw_q9, lw_10, lw_11, lw_12, lw_13, lw_14, lw_15, lw_16, lw_17, lw_18, lw_19, lw_20, lw_21, lw_22, lw_23, lw_24, lw_25, lw_26, lw_27, lw_28, lw_29, lw_30, lw_31, lw_32, lw_33, lw_34, lw_35, lw_36, lw_37, lw_38, lw_39, lw_56, lw_57, lw_58, lw_60, lw_61, lw_63, lw_64, lw_65, lw_66, lw_67, lw_68, lw_69, lw_70, lw_71, lw_72, lw_73, lw_74, lw_75, lw_76, lw_77, lw_80, lw_81, lw_82, lw_83, lw_84, lw_85, lw_86, lw_87, lw_88, lw_89, ll_78, ll_79, ll_s, rc6, rc2, rc3, rc5, rc7, rc1, rc0, rc4, rcs_0, rcs_1, rcs_2, rcs_3, rcs_4, mj_ib_nI, ↓reduceIte, mj_bdK, mj_ls, mj_ln, nI_clamp, nI_add, pk_mul, mj_nIeq0, mj_nIlt0, mj_nIle0, mj_nIeq, mj_nIle, mj_nIlt, mj_ok0, mj_ok1, mj_okb, mj_b0, mj_bR, mj_bR2, Nat.reduceEqDiff, h]
  · simp (maxSteps := 1000000) (disch := first | assumption | omega) only [c138, ↓e138_0, ↓e138_1, ↓e138_4, ↓e138_6, ↓e138_7, ↓e138_8, ↓e138_9, ↓e138_10, ↓e138_11, ↓e138_12, ↓e138_13, ↓e138_15, ↓e138_17, ↓e138_19, ↓e138_22, ↓e138_24, ↓e138_27, ↓e138_29, li_p0, li_p1, li_p2, li_p3, li_p4, li_p5, li_p6, li_p7, li_p8, li_p9, li_10, li_11, li_12, li_13, li_14, li_15, li_16, li_17, li_18, li_19, li_20, li_21, li_22, li_23, li_24, li_25, li_26, li_27, li_28, li_29, li_30, li_31, li_32, li_33, li_34, li_35, li_36, li_37, li_38, li_39, li_56, li_57, li_58, li_60, li_61, li_63, li_64, li_65, li_66, li_67, li_68, li_69, li_70, li_71, li_72, li_73, li_74, li_75, li_76, li_77, li_80, li_81, li_82, li_83, li_84, li_85, li_86, li_87, li_88, li_89, li_90, li_91, li_92, lw_q0, lw_q1, lw_q2, lw_q3, lw_q4, lw_q5, lw_q6, lw_q7, lw_q8, lw_q9, lw_10, lw_11, lw_12, lw_13, lw_14, lw_15, lw_16, lw_17, lw_18, lw_19, lw_20, lw_21, lw_22, lw_23, lw_24, lw_25, lw_26, lw_27, lw_28, lw_29, lw_30, lw_31, lw_32, lw_33, lw_34, lw_35, lw_36, lw_37, lw_38, lw_39, lw_56, lw_57, lw_58, lw_60, lw_61, lw_63, lw_64, lw_65, lw_66, lw_67, lw_68, lw_69, lw_70, lw_71, lw_72, lw_73, lw_74, lw_75, lw_76, lw_77, lw_80, lw_81, lw_82, lw_83, lw_84, lw_85, lw_86, lw_87, lw_88, lw_89, ll_78, ll_79, ll_s, rc6, rc2, rc3, rc5, rc7, rc1, rc0, rc4, rcs_0, rcs_1, rcs_2, rcs_3, rcs_4, mj_ib_nI, ↓reduceIte, mj_bdK, mj_ls, mj_ln, nI_clamp, nI_add, pk_mul, mj_nIeq0, mj_nIlt0, mj_nIle0, mj_nIeq, mj_nIle, mj_nIlt, mj_ok0, mj_ok1, mj_okb, mj_b0, mj_bR, mj_bR2, Nat.reduceEqDiff, h]
theorem s_X8_gives (hc : c < 6) (hg : g < 8) {n : Int32} : mj_C 139 [.ref 62, .int (nI c), .int (nI g), .int n] σ τ = some (some (.int (mj_gi (mj_pv 64 62 σ) c g n 9 (8 * c + g))), mj_wb 64 62 (mj_gi (mj_pv 64 62 σ) c g n) σ, τ) := by
  have e : mj_wb 64 62 (mj_gi (mj_pv 64 62 σ) c g n) σ = mj_up σ 73 (8 * c + g) (mj_mn (mj_pv 64 62 σ 9 (8 * c + g) + n * mj_pv 64 62 σ 6 c)) := (mj_up_wb (B := 64) (O := 62) (j := 9) (by decide)).symm
  have e2 : mj_gi (mj_pv 64 62 σ) c g n 9 (8 * c + g) = mj_mn (mj_pv 64 62 σ 9 (8 * c + g) + n * mj_pv 64 62 σ 6 c) := mj_up_at
  have e3 : ∀ v, mj_up σ 73 (8 * c + g) v 73 (8 * c + g) = v := fun v => mj_up_at
  have e6 : mj_pv 64 62 σ 6 c = σ 70 c := rfl
  rw [e, e2, e6]
  simp (maxSteps := 1000000) (disch := first | assumption | omega) only [c139, ↓e139_0, ↓e139_1, ↓e139_4, ↓e139_6, ↓e139_7, ↓e139_8, ↓e139_9, ↓e139_10, ↓e139_11, ↓e139_12, ↓e139_13, ↓e139_14, ↓e139_15, ↓e139_18, ↓e139_19, ↓e139_20, ↓e139_21, ↓e139_24, ↓e139_25, ↓e139_26, ↓e139_29, ↓e139_31, ↓e139_32, ↓e139_33, ↓e139_34, ↓e139_35, ↓e139_36, li_p0, li_p1, li_p2, li_p3, li_p4, li_p5, li_p6, li_p7, li_p8, li_p9, li_10, li_11, li_12, li_13, li_14, li_15, li_16, li_17, li_18, li_19, li_20, li_21, li_22, li_23, li_24, li_25, li_26, li_27, li_28, li_29, li_30, li_31, li_32, li_33, li_34, li_35, li_36, li_37, li_38, li_39, li_56, li_57, li_58, li_60, li_61, li_63, li_64, li_65, li_66, li_67, li_68, li_69, li_70, li_71, li_72, li_73, li_74, li_75, li_76, li_77, li_80, li_81, li_82, li_83, li_84, li_85, li_86, li_87, li_88, li_89, li_90, li_91, li_92, lw_q0, lw_q1, lw_q2, lw_q3, lw_q4, lw_q5, lw_q6, lw_q7, lw_q8, lw_q9, lw_10, lw_11, lw_12, lw_13, lw_14, lw_15, lw_16, lw_17, lw_18, lw_19, lw_20, lw_21, lw_22, lw_23, lw_24, lw_25, lw_26, lw_27, lw_28, lw_29, lw_30, lw_31, lw_32, lw_33, lw_34, lw_35, lw_36, lw_37, lw_38, lw_39, lw_56, lw_57, lw_58, lw_60, lw_61, lw_63, lw_64, lw_65, lw_66, lw_67, lw_68, lw_69, lw_70, lw_71, lw_72, lw_73, lw_74, lw_75, lw_76, lw_77, lw_80, lw_81, lw_82, lw_83, lw_84, lw_85, lw_86, lw_87, lw_88, lw_89, ll_78, ll_79, ll_s, rc6, rc2, rc3, rc5, rc7, rc1, rc0, rc4, rcs_0, rcs_1, rcs_2, rcs_3, rcs_4, mj_ib_nI, ↓reduceIte, mj_bdK, mj_ls, mj_ln, nI_clamp, nI_add, pk_mul, mj_nIeq0, mj_nIlt0, mj_nIle0, mj_nIeq, mj_nIle, mj_nIlt, mj_ok0, mj_ok1, mj_okb, mj_b0, mj_bR, mj_bR2, Nat.reduceEqDiff, s_X8_more, e3]
theorem s_X8_charge (h : mj_wm σ G C) (hg : g < 8) : mj_C 141 [.ref 62, .int (nI g)] σ τ = some (some (.int (mj_cg (mj_pv 64 62 σ) g C)), σ, τ) := by
  obtain ⟨hC, hC6⟩ := mj_wm_C h
  have loop : ∀ n i, i + n = C → mj_E 141 4 [some (.ref 62), some (.int (nI g)), some (.int (mj_cg (mj_pv 64 62 σ) g i)), some (.int (nI i))] [] σ τ = some (some (.int (mj_cg (mj_pv 64 62 σ) g C)), σ, τ) := by
    intro n
    induction n with
    | zero =>
      intro i hi
      obtain rfl : i = C := by omega
      simp (maxSteps := 1000000) (disch := first | assumption | omega) only [c141, ↓e141_0, ↓e141_1, ↓e141_2, ↓e141_3, ↓e141_4, ↓e141_5, ↓e141_6, ↓e141_9, ↓e141_12, ↓e141_13, ↓e141_14, ↓e141_17, ↓e141_18, ↓e141_19, ↓e141_20, ↓e141_21, ↓e141_22, ↓e141_23, ↓e141_24, ↓e141_25, ↓e141_28, ↓e141_31, ↓e141_32, li_p0, li_p1, li_p2, li_p3, li_p4, li_p5, li_p6, li_p7, li_p8, li_p9, li_10, li_11, li_12, li_13, li_14, li_15, li_16, li_17, li_18, li_19, li_20, li_21, li_22, li_23, li_24, li_25, li_26, li_27, li_28, li_29, li_30, li_31, li_32, li_33, li_34, li_35, li_36, li_37, li_38, li_39, li_56, li_57, li_58, li_60, li_61, li_63, li_64, li_65, li_66, li_67, li_68, li_69, li_70, li_71, li_72, li_73, li_74, li_75, li_76, li_77, li_80, li_81, li_82, li_83, li_84, li_85, li_86, li_87, li_88, li_89, li_90, li_91, li_92, lw_q0, lw_q1, lw_q2, lw_q3, lw_q4, lw_q5, lw_q6, lw_q7, lw_q8, lw_q9, lw_10, lw_11, lw_12, lw_13, lw_14, lw_15, lw_16, lw_17, lw_18, lw_19, lw_20, lw_21, lw_22, lw_23, lw_24, lw_25, lw_26, lw_27, lw_28, lw_29, lw_30, lw_31, lw_32, lw_33, lw_34, lw_35, lw_36, lw_37, lw_38, lw_39, lw_56, lw_57, lw_58, lw_60, lw_61, lw_63, lw_64, lw_65, lw_66, lw_67, lw_68, lw_69, lw_70, lw_71, lw_72, lw_73, lw_74, lw_75, lw_76, lw_77, lw_80, lw_81, lw_82, lw_83, lw_84, lw_85, lw_86, lw_87, lw_88, lw_89, ll_78, ll_79, ll_s, rc6, rc2, rc3, rc5, rc7, rc1, rc0, rc4, rcs_0, rcs_1, rcs_2, rcs_3, rcs_4, mj_ib_nI, ↓reduceIte, mj_bdK, mj_ls, mj_ln, nI_clamp, nI_add, pk_mul, mj_nIeq0, mj_nIlt0, mj_nIle0, mj_nIeq, mj_nIle, mj_nIlt, mj_ok0, mj_ok1, mj_okb, mj_b0, mj_bR, mj_bR2, Nat.reduceEqDiff, hC, Nat.le_refl]
    | succ n ih =>
      intro i hi
      have hn : ¬ C ≤ i := by omega
      rw [e141_4]
      have := ih (i + 1) (by omega)
      rw [mj_cg] at this
      simp (maxSteps := 1000000) (disch := first | assumption | omega) only [c141, ↓e141_0, ↓e141_1, ↓e141_2, ↓e141_3, ↓e141_5, ↓e141_6, ↓e141_9, ↓e141_12, ↓e141_13, ↓e141_14, ↓e141_17, ↓e141_18, ↓e141_19, ↓e141_20, ↓e141_21, ↓e141_22, ↓e141_23, ↓e141_24, ↓e141_25, ↓e141_28, ↓e141_31, ↓e141_32, li_p0, li_p1, li_p2, li_p3, li_p4, li_p5, li_p6, li_p7, li_p8, li_p9, li_10, li_11, li_12, li_13, li_14, li_15, li_16, li_17, li_18, li_19, li_20, li_21, li_22, li_23, li_24, li_25, li_26, li_27, li_28, li_29, li_30, li_31, li_32, li_33, li_34, li_35, li_36, li_37, li_38, li_39, li_56, li_57, li_58, li_60, li_61, li_63, li_64, li_65, li_66, li_67, li_68, li_69, li_70, li_71, li_72, li_73, li_74, li_75, li_76, li_77, li_80, li_81, li_82, li_83, li_84, li_85, li_86, li_87, li_88, li_89, li_90, li_91, li_92, lw_q0, lw_q1, lw_q2, lw_q3, lw_q4, lw_q5, lw_q6, lw_q7, lw_q8, lw_q9, lw_10, lw_11, lw_12, lw_13, lw_14, lw_15, lw_16, lw_17, lw_18, lw_19, lw_20, lw_21, lw_22, lw_23, lw_24, lw_25, lw_26, lw_27, lw_28, lw_29, lw_30, lw_31, lw_32, lw_33, lw_34, lw_35, lw_36, lw_37, lw_38, lw_39, lw_56, lw_57, lw_58, lw_60, lw_61, lw_63, lw_64, lw_65, lw_66, lw_67, lw_68, lw_69, lw_70, lw_71, lw_72, lw_73, lw_74, lw_75, lw_76, lw_77, lw_80, lw_81, lw_82, lw_83, lw_84, lw_85, lw_86, lw_87, lw_88, lw_89, ll_78, ll_79, ll_s, rc6, rc2, rc3, rc5, rc7, rc1, rc0, rc4, rcs_0, rcs_1, rcs_2, rcs_3, rcs_4, mj_ib_nI, ↓reduceIte, mj_bdK, mj_ls, mj_ln, nI_clamp, nI_add, pk_mul, mj_nIeq0, mj_nIlt0, mj_nIle0, mj_nIeq, mj_nIle, mj_nIlt, mj_ok0, mj_ok1, mj_okb, mj_b0, mj_bR, mj_bR2, Nat.reduceEqDiff, hC, hn]
      exact this
  have h0 := loop C 0 (by omega)
  simp (maxSteps := 1000000) (disch := first | assumption | omega) only [c141, ↓e141_0, ↓e141_1, ↓e141_2, ↓e141_3, ↓e141_5, ↓e141_6, ↓e141_9, ↓e141_12, ↓e141_13, ↓e141_14, ↓e141_17, ↓e141_18, ↓e141_19, ↓e141_20, ↓e141_21, ↓e141_22, ↓e141_23, ↓e141_24, ↓e141_25, ↓e141_28, ↓e141_31, ↓e141_32, li_p0, li_p1, li_p2, li_p3, li_p4, li_p5, li_p6, li_p7, li_p8, li_p9, li_10, li_11, li_12, li_13, li_14, li_15, li_16, li_17, li_18, li_19, li_20, li_21, li_22, li_23, li_24, li_25, li_26, li_27, li_28, li_29, li_30, li_31, li_32, li_33, li_34, li_35, li_36, li_37, li_38, li_39, li_56, li_57, li_58, li_60, li_61, li_63, li_64, li_65, li_66, li_67, li_68, li_69, li_70, li_71, li_72, li_73, li_74, li_75, li_76, li_77, li_80, li_81, li_82, li_83, li_84, li_85, li_86, li_87, li_88, li_89, li_90, li_91, li_92, lw_q0, lw_q1, lw_q2, lw_q3, lw_q4, lw_q5, lw_q6, lw_q7, lw_q8, lw_q9, lw_10, lw_11, lw_12, lw_13, lw_14, lw_15, lw_16, lw_17, lw_18, lw_19, lw_20, lw_21, lw_22, lw_23, lw_24, lw_25, lw_26, lw_27, lw_28, lw_29, lw_30, lw_31, lw_32, lw_33, lw_34, lw_35, lw_36, lw_37, lw_38, lw_39, lw_56, lw_57, lw_58, lw_60, lw_61, lw_63, lw_64, lw_65, lw_66, lw_67, lw_68, lw_69, lw_70, lw_71, lw_72, lw_73, lw_74, lw_75, lw_76, lw_77, lw_80, lw_81, lw_82, lw_83, lw_84, lw_85, lw_86, lw_87, lw_88, lw_89, ll_78, ll_79, ll_s, rc6, rc2, rc3, rc5, rc7, rc1, rc0, rc4, rcs_0, rcs_1, rcs_2, rcs_3, rcs_4, mj_ib_nI, ↓reduceIte, mj_bdK, mj_ls, mj_ln, nI_clamp, nI_add, pk_mul, mj_nIeq0, mj_nIlt0, mj_nIle0, mj_nIeq, mj_nIle, mj_nIlt, mj_ok0, mj_ok1, mj_okb, mj_b0, mj_bR, mj_bR2, Nat.reduceEqDiff]
  exact h0

theorem mj_clampX {σ : mj_S} {τ : mj_T} {x : Int32} : (if 0 ≤ x then (some (some (.int x), σ, τ) : mj_R) else some (some (.int (nI 0)), σ, τ)) = some (some (.int (if nI 0 < x then x else nI 0)), σ, τ) := by
  rw [nI_0]
  by_cases h : 0 ≤ x
  · rw [if_pos h]
    by_cases h2 : 0 < x
    · rw [if_pos h2]
    · rw [if_neg h2, Int32.le_antisymm (Int32.not_lt.mp h2) h]
  · rw [if_neg h, if_neg (fun z => h (Int32.le_of_lt z))]
theorem mj_mx_nn {x : Int32} (h : ¬ x < 0) : (if nI 0 < x then x else nI 0) = x := by
  rw [nI_0]
  by_cases h2 : 0 < x
  · rw [if_pos h2]
  · rw [if_neg h2]; exact Int32.le_antisymm (Int32.not_lt.mp h) (Int32.not_lt.mp h2)
theorem s_X8_pullBy (h : mj_wm σ G C) (hc : c < 6) (hg : g < 8) {l : Int32} (hl : mj_to l 99) : mj_C 155 [.ref 62, .int (nI c), .int (nI g), .int l] σ τ = some (some (.int (mj_pull (mj_pv 64 62 σ) c g l)), σ, τ) := by
  have hto := mj_to_lt (mj_pull_to h hc hg hl) (by decide)
  obtain ⟨k, hk6, hk⟩ := (h.2.1 g hg).1
  have hk : σ 64 g = nI k := hk
  unfold mj_pull at hto ⊢
  rcases (show k = 0 ∨ k = 1 ∨ k = 2 ∨ k = 3 ∨ k = 4 ∨ k = 5 ∨ k = 6 by omega) with rfl | rfl | rfl | rfl | rfl | rfl | rfl
  all_goals
    by_cases hs : σ 69 c ≤ σ 70 c
    · have hs2 : ¬ (σ 70 c < σ 69 c) := Int32.not_lt.mpr hs
      simp (disch := first | assumption | omega) only [pv_0, pv_1, pv_2, pv_3, pv_4, pv_5, pv_6, pv_7, pv_8, pv_9, pc_0, pc_1, pc_2, pc_3, pc_4, Nat.reduceAdd, Nat.reduceEqDiff, mj_nIeq, hk, hs2, ↓reduceIte] at hto ⊢
      by_cases hm5 : σ 66 g < nI 5
      · have hm6 : ¬ nI 5 ≤ σ 66 g := Int32.not_le.mpr hm5
        try simp only [hm6, ↓reduceIte] at hto ⊢
        simp (maxSteps := 1000000) (disch := first | assumption | omega) only [c155, ↓e155_0, ↓e155_1, ↓e155_2, ↓e155_5, ↓e155_6, ↓e155_7, ↓e155_8, ↓e155_11, ↓e155_12, ↓e155_13, ↓e155_14, ↓e155_15, ↓e155_17, ↓e155_19, ↓e155_20, ↓e155_23, ↓e155_24, ↓e155_25, ↓e155_26, ↓e155_27, ↓e155_30, ↓e155_31, ↓e155_32, ↓e155_33, ↓e155_34, ↓e155_35, ↓e155_36, ↓e155_37, ↓e155_40, ↓e155_41, ↓e155_42, ↓e155_43, ↓e155_44, ↓e155_46, ↓e155_48, ↓e155_49, ↓e155_52, ↓e155_53, ↓e155_54, ↓e155_55, ↓e155_58, ↓e155_59, ↓e155_60, ↓e155_63, ↓e155_64, ↓e155_65, ↓e155_68, ↓e155_69, ↓e155_70, ↓e155_71, ↓e155_74, ↓e155_75, ↓e155_76, ↓e155_78, ↓e155_79, ↓e155_82, ↓e155_83, ↓e155_84, ↓e155_124, ↓e155_126, ↓e155_127, ↓e155_130, ↓e155_131, ↓e155_132, ↓e155_133, ↓e155_135, ↓e155_138, ↓e155_140, ↓e155_142, ↓e155_145, ↓e155_146, ↓e155_149, ↓e155_150, ↓e155_151, ↓e155_152, ↓e155_155, ↓e155_156, ↓e155_159, ↓e155_161, ↓e155_163, ↓e155_166, ↓e155_168, ↓e155_170, ↓e155_173, ↓e155_175, ↓e155_176, ↓e155_179, ↓e155_180, ↓e155_183, ↓e155_184, ↓e155_185, ↓e155_186, ↓e155_187, ↓e155_189, ↓e155_192, ↓e155_193, ↓e155_194, ↓e155_197, ↓e155_198, ↓e155_199, ↓e155_200, ↓e155_202, ↓e155_205, ↓e155_207, ↓e155_209, ↓e155_211, ↓e155_214, ↓e155_215, ↓e155_218, ↓e155_220, li_p0, li_p1, li_p2, li_p3, li_p4, li_p5, li_p6, li_p7, li_p8, li_p9, li_10, li_11, li_12, li_13, li_14, li_15, li_16, li_17, li_18, li_19, li_20, li_21, li_22, li_23, li_24, li_25, li_26, li_27, li_28, li_29, li_30, li_31, li_32, li_33, li_34, li_35, li_36, li_37, li_38, li_39, li_56, li_57, li_58, li_60, li_61, li_63, li_64, li_65, li_66, li_67, li_68, li_69, li_70, li_71, li_72, li_73, li_74, li_75, li_76, li_77, li_80, li_81, li_82, li_83, li_84, li_85, li_86, li_87, li_88, li_89, li_90, li_91, li_92, lw_q0, lw_q1, lw_q2, lw_q3, lw_q4, lw_q5, lw_q6, lw_q7, lw_q8, lw_q9, lw_10, lw_11, lw_12, lw_13, lw_14, lw_15, lw_16, lw_17, lw_18, lw_19, lw_20, lw_21, lw_22, lw_23, lw_24, lw_25, lw_26, lw_27, lw_28, lw_29, lw_30, lw_31, lw_32, lw_33, lw_34, lw_35, lw_36, lw_37, lw_38, lw_39, lw_56, lw_57, lw_58, lw_60, lw_61, lw_63, lw_64, lw_65, lw_66, lw_67, lw_68, lw_69, lw_70, lw_71, lw_72, lw_73, lw_74, lw_75, lw_76, lw_77, lw_80, lw_81, lw_82, lw_83, lw_84, lw_85, lw_86, lw_87, lw_88, lw_89, ll_78, ll_79, ll_s, rc6, rc2, rc3, rc5, rc7, rc1, rc0, rc4, rcs_0, rcs_1, rcs_2, rcs_3, rcs_4, mj_ib_nI, ↓reduceIte, mj_bdK, mj_ls, mj_ln, nI_clamp, nI_add, pk_mul, mj_nIeq0, mj_nIlt0, mj_nIle0, mj_nIeq, mj_nIle, mj_nIlt, mj_ok0, mj_ok1, mj_okb, mj_b0, mj_bR, mj_bR2, Nat.reduceEqDiff, hk, hs, hm5, mj_clampX]
        first | done | rfl | (rw [mj_mx_nn hto])
      · have hm6 : nI 5 ≤ σ 66 g := Int32.not_lt.mp hm5
        try simp only [hm6, ↓reduceIte] at hto ⊢
        simp (maxSteps := 1000000) (disch := first | assumption | omega) only [c155, ↓e155_0, ↓e155_1, ↓e155_2, ↓e155_5, ↓e155_6, ↓e155_7, ↓e155_8, ↓e155_11, ↓e155_12, ↓e155_13, ↓e155_14, ↓e155_15, ↓e155_17, ↓e155_19, ↓e155_20, ↓e155_23, ↓e155_24, ↓e155_25, ↓e155_26, ↓e155_27, ↓e155_30, ↓e155_31, ↓e155_32, ↓e155_33, ↓e155_34, ↓e155_35, ↓e155_36, ↓e155_37, ↓e155_40, ↓e155_41, ↓e155_42, ↓e155_43, ↓e155_44, ↓e155_46, ↓e155_48, ↓e155_49, ↓e155_52, ↓e155_53, ↓e155_54, ↓e155_55, ↓e155_58, ↓e155_59, ↓e155_60, ↓e155_63, ↓e155_64, ↓e155_65, ↓e155_68, ↓e155_69, ↓e155_70, ↓e155_71, ↓e155_74, ↓e155_75, ↓e155_76, ↓e155_78, ↓e155_79, ↓e155_82, ↓e155_83, ↓e155_84, ↓e155_124, ↓e155_126, ↓e155_127, ↓e155_130, ↓e155_131, ↓e155_132, ↓e155_133, ↓e155_135, ↓e155_138, ↓e155_140, ↓e155_142, ↓e155_145, ↓e155_146, ↓e155_149, ↓e155_150, ↓e155_151, ↓e155_152, ↓e155_155, ↓e155_156, ↓e155_159, ↓e155_161, ↓e155_163, ↓e155_166, ↓e155_168, ↓e155_170, ↓e155_173, ↓e155_175, ↓e155_176, ↓e155_179, ↓e155_180, ↓e155_183, ↓e155_184, ↓e155_185, ↓e155_186, ↓e155_187, ↓e155_189, ↓e155_192, ↓e155_193, ↓e155_194, ↓e155_197, ↓e155_198, ↓e155_199, ↓e155_200, ↓e155_202, ↓e155_205, ↓e155_207, ↓e155_209, ↓e155_211, ↓e155_214, ↓e155_215, ↓e155_218, ↓e155_220, li_p0, li_p1, li_p2, li_p3, li_p4, li_p5, li_p6, li_p7, li_p8, li_p9, li_10, li_11, li_12, li_13, li_14, li_15, li_16, li_17, li_18, li_19, li_20, li_21, li_22, li_23, li_24, li_25, li_26, li_27, li_28, li_29, li_30, li_31, li_32, li_33, li_34, li_35, li_36, li_37, li_38, li_39, li_56, li_57, li_58, li_60, li_61, li_63, li_64, li_65, li_66, li_67, li_68, li_69, li_70, li_71, li_72, li_73, li_74, li_75, li_76, li_77, li_80, li_81, li_82, li_83, li_84, li_85, li_86, li_87, li_88, li_89, li_90, li_91, li_92, lw_q0, lw_q1, lw_q2, lw_q3, lw_q4, lw_q5, lw_q6, lw_q7, lw_q8, lw_q9, lw_10, lw_11, lw_12, lw_13, lw_14, lw_15, lw_16, lw_17, lw_18, lw_19, lw_20, lw_21, lw_22, lw_23, lw_24, lw_25, lw_26, lw_27, lw_28, lw_29, lw_30, lw_31, lw_32, lw_33, lw_34, lw_35, lw_36, lw_37, lw_38, lw_39, lw_56, lw_57, lw_58, lw_60, lw_61, lw_63, lw_64, lw_65, lw_66, lw_67, lw_68, lw_69, lw_70, lw_71, lw_72, lw_73, lw_74, lw_75, lw_76, lw_77, lw_80, lw_81, lw_82, lw_83, lw_84, lw_85, lw_86, lw_87, lw_88, lw_89, ll_78, ll_79, ll_s, rc6, rc2, rc3, rc5, rc7, rc1, rc0, rc4, rcs_0, rcs_1, rcs_2, rcs_3, rcs_4, mj_ib_nI, ↓reduceIte, mj_bdK, mj_ls, mj_ln, nI_clamp, nI_add, pk_mul, mj_nIeq0, mj_nIlt0, mj_nIle0, mj_nIeq, mj_nIle, mj_nIlt, mj_ok0, mj_ok1, mj_okb, mj_b0, mj_bR, mj_bR2, Nat.reduceEqDiff, hk, hs, hm5, mj_clampX]
        first | done | rfl | (rw [mj_mx_nn hto])
    · have hs2 : σ 70 c < σ 69 c := Int32.not_le.mp hs
      simp (disch := first | assumption | omega) only [pv_0, pv_1, pv_2, pv_3, pv_4, pv_5, pv_6, pv_7, pv_8, pv_9, pc_0, pc_1, pc_2, pc_3, pc_4, Nat.reduceAdd, Nat.reduceEqDiff, mj_nIeq, hk, hs2, ↓reduceIte] at hto ⊢
      by_cases hm5 : σ 66 g < nI 5
      · have hm6 : ¬ nI 5 ≤ σ 66 g := Int32.not_le.mpr hm5
        try simp only [hm6, ↓reduceIte] at hto ⊢
        simp (maxSteps := 1000000) (disch := first | assumption | omega) only [c155, ↓e155_0, ↓e155_1, ↓e155_2, ↓e155_5, ↓e155_6, ↓e155_7, ↓e155_8, ↓e155_11, ↓e155_12, ↓e155_13, ↓e155_14, ↓e155_15, ↓e155_17, ↓e155_19, ↓e155_20, ↓e155_23, ↓e155_24, ↓e155_25, ↓e155_26, ↓e155_27, ↓e155_30, ↓e155_31, ↓e155_32, ↓e155_33, ↓e155_34, ↓e155_35, ↓e155_36, ↓e155_37, ↓e155_40, ↓e155_41, ↓e155_42, ↓e155_43, ↓e155_44, ↓e155_46, ↓e155_48, ↓e155_49, ↓e155_52, ↓e155_53, ↓e155_54, ↓e155_55, ↓e155_58, ↓e155_59, ↓e155_60, ↓e155_63, ↓e155_64, ↓e155_65, ↓e155_68, ↓e155_69, ↓e155_70, ↓e155_71, ↓e155_74, ↓e155_75, ↓e155_76, ↓e155_78, ↓e155_79, ↓e155_82, ↓e155_83, ↓e155_84, ↓e155_124, ↓e155_126, ↓e155_127, ↓e155_130, ↓e155_131, ↓e155_132, ↓e155_133, ↓e155_135, ↓e155_138, ↓e155_140, ↓e155_142, ↓e155_145, ↓e155_146, ↓e155_149, ↓e155_150, ↓e155_151, ↓e155_152, ↓e155_155, ↓e155_156, ↓e155_159, ↓e155_161, ↓e155_163, ↓e155_166, ↓e155_168, ↓e155_170, ↓e155_173, ↓e155_175, ↓e155_176, ↓e155_179, ↓e155_180, ↓e155_183, ↓e155_184, ↓e155_185, ↓e155_186, ↓e155_187, ↓e155_189, ↓e155_192, ↓e155_193, ↓e155_194, ↓e155_197, ↓e155_198, ↓e155_199, ↓e155_200, ↓e155_202, ↓e155_205, ↓e155_207, ↓e155_209, ↓e155_211, ↓e155_214, ↓e155_215, ↓e155_218, ↓e155_220, li_p0, li_p1, li_p2, li_p3, li_p4, li_p5, li_p6, li_p7, li_p8, li_p9, li_10, li_11, li_12, li_13, li_14, li_15, li_16, li_17, li_18, li_19, li_20, li_21, li_22, li_23, li_24, li_25, li_26, li_27, li_28, li_29, li_30, li_31, li_32, li_33, li_34, li_35, li_36, li_37, li_38, li_39, li_56, li_57, li_58, li_60, li_61, li_63, li_64, li_65, li_66, li_67, li_68, li_69, li_70, li_71, li_72, li_73, li_74, li_75, li_76, li_77, li_80, li_81, li_82, li_83, li_84, li_85, li_86, li_87, li_88, li_89, li_90, li_91, li_92, lw_q0, lw_q1, lw_q2, lw_q3, lw_q4, lw_q5, lw_q6, lw_q7, lw_q8, lw_q9, lw_10, lw_11, lw_12, lw_13, lw_14, lw_15, lw_16, lw_17, lw_18, lw_19, lw_20, lw_21, lw_22, lw_23, lw_24, lw_25, lw_26, lw_27, lw_28, lw_29, lw_30, lw_31, lw_32, lw_33, lw_34, lw_35, lw_36, lw_37, lw_38, lw_39, lw_56, lw_57, lw_58, lw_60, lw_61, lw_63, lw_64, lw_65, lw_66, lw_67, lw_68, lw_69, lw_70, lw_71, lw_72, lw_73, lw_74, lw_75, lw_76, lw_77, lw_80, lw_81, lw_82, lw_83, lw_84, lw_85, lw_86, lw_87, lw_88, lw_89, ll_78, ll_79, ll_s, rc6, rc2, rc3, rc5, rc7, rc1, rc0, rc4, rcs_0, rcs_1, rcs_2, rcs_3, rcs_4, mj_ib_nI, ↓reduceIte, mj_bdK, mj_ls, mj_ln, nI_clamp, nI_add, pk_mul, mj_nIeq0, mj_nIlt0, mj_nIle0, mj_nIeq, mj_nIle, mj_nIlt, mj_ok0, mj_ok1, mj_okb, mj_b0, mj_bR, mj_bR2, Nat.reduceEqDiff, hk, hs, hm5, mj_clampX]
        first | done | rfl | (rw [mj_mx_nn hto])
      · have hm6 : nI 5 ≤ σ 66 g := Int32.not_lt.mp hm5
        try simp only [hm6, ↓reduceIte] at hto ⊢
        simp (maxSteps := 1000000) (disch := first | assumption | omega) only [c155, ↓e155_0, ↓e155_1, ↓e155_2, ↓e155_5, ↓e155_6, ↓e155_7, ↓e155_8, ↓e155_11, ↓e155_12, ↓e155_13, ↓e155_14, ↓e155_15, ↓e155_17, ↓e155_19, ↓e155_20, ↓e155_23, ↓e155_24, ↓e155_25, ↓e155_26, ↓e155_27, ↓e155_30, ↓e155_31, ↓e155_32, ↓e155_33, ↓e155_34, ↓e155_35, ↓e155_36, ↓e155_37, ↓e155_40, ↓e155_41, ↓e155_42, ↓e155_43, ↓e155_44, ↓e155_46, ↓e155_48, ↓e155_49, ↓e155_52, ↓e155_53, ↓e155_54, ↓e155_55, ↓e155_58, ↓e155_59, ↓e155_60, ↓e155_63, ↓e155_64, ↓e155_65, ↓e155_68, ↓e155_69, ↓e155_70, ↓e155_71, ↓e155_74, ↓e155_75, ↓e155_76, ↓e155_78, ↓e155_79, ↓e155_82, ↓e155_83, ↓e155_84, ↓e155_124, ↓e155_126, ↓e155_127, ↓e155_130, ↓e155_131, ↓e155_132, ↓e155_133, ↓e155_135, ↓e155_138, ↓e155_140, ↓e155_142, ↓e155_145, ↓e155_146, ↓e155_149, ↓e155_150, ↓e155_151, ↓e155_152, ↓e155_155, ↓e155_156, ↓e155_159, ↓e155_161, ↓e155_163, ↓e155_166, ↓e155_168, ↓e155_170, ↓e155_173, ↓e155_175, ↓e155_176, ↓e155_179, ↓e155_180, ↓e155_183, ↓e155_184, ↓e155_185, ↓e155_186, ↓e155_187, ↓e155_189, ↓e155_192, ↓e155_193, ↓e155_194, ↓e155_197, ↓e155_198, ↓e155_199, ↓e155_200, ↓e155_202, ↓e155_205, ↓e155_207, ↓e155_209, ↓e155_211, ↓e155_214, ↓e155_215, ↓e155_218, ↓e155_220, li_p0, li_p1, li_p2, li_p3, li_p4, li_p5, li_p6, li_p7, li_p8, li_p9, li_10, li_11, li_12, li_13, li_14, li_15, li_16, li_17, li_18, li_19, li_20, li_21, li_22, li_23, li_24, li_25, li_26, li_27, li_28, li_29, li_30, li_31, li_32, li_33, li_34, li_35, li_36, li_37, li_38, li_39, li_56, li_57, li_58, li_60, li_61, li_63, li_64, li_65, li_66, li_67, li_68, li_69, li_70, li_71, li_72, li_73, li_74, li_75, li_76, li_77, li_80, li_81, li_82, li_83, li_84, li_85, li_86, li_87, li_88, li_89, li_90, li_91, li_92, lw_q0, lw_q1, lw_q2, lw_q3, lw_q4, lw_q5, lw_q6, lw_q7, lw_q8, lw_q9, lw_10, lw_11, lw_12, lw_13, lw_14, lw_15, lw_16, lw_17, lw_18, lw_19, lw_20, lw_21, lw_22, lw_23, lw_24, lw_25, lw_26, lw_27, lw_28, lw_29, lw_30, lw_31, lw_32, lw_33, lw_34, lw_35, lw_36, lw_37, lw_38, lw_39, lw_56, lw_57, lw_58, lw_60, lw_61, lw_63, lw_64, lw_65, lw_66, lw_67, lw_68, lw_69, lw_70, lw_71, lw_72, lw_73, lw_74, lw_75, lw_76, lw_77, lw_80, lw_81, lw_82, lw_83, lw_84, lw_85, lw_86, lw_87, lw_88, lw_89, ll_78, ll_79, ll_s, rc6, rc2, rc3, rc5, rc7, rc1, rc0, rc4, rcs_0, rcs_1, rcs_2, rcs_3, rcs_4, mj_ib_nI, ↓reduceIte, mj_bdK, mj_ls, mj_ln, nI_clamp, nI_add, pk_mul, mj_nIeq0, mj_nIlt0, mj_nIle0, mj_nIeq, mj_nIle, mj_nIlt, mj_ok0, mj_ok1, mj_okb, mj_b0, mj_bR, mj_bR2, Nat.reduceEqDiff, hk, hs, hm5, mj_clampX]
        first | done | rfl | (rw [mj_mx_nn hto])

end
