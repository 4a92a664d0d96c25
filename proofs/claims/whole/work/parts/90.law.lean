/-! THE LAW, in the machine -/
section
variable {σ σ1 σ' : mj_S} {τ τ1 τ' : mj_T} {A : mj_A} {G C x m : Nat} {as : List Value} {M : mj_M}
theorem mj_ty {mid : Nat} (he : mj_e mid = some M) : ∀ n pc ls st σ τ v σ' τ', mj_run n mid pc ls st σ τ = some (v, σ', τ') → (∃ x, v = some (.int x) ∧ mj_ok M.2.2.2.1 x = true) ∨ (∃ x, v = some (.long x) ∧ M.2.2.2.1 = some .long) ∨ mj_isR M.2.2.2.1 = true ∨ M.2.2.2.1 = none := by
  intro n
  induction n with
  | zero => intro pc ls st σ τ v σ' τ' h; simp [mj_run] at h
  | succ n ih =>
    intro pc ls st σ τ v σ' τ' h
    rw [mj_run] at h
    split at h <;> rename_i hs
    · cases h
    · exact ih _ _ _ _ _ _ _ _ h
    · cases h
      unfold mj_stp at hs
      split at hs
      · rename_i i np hi
        have hk := mj_kdP hs
        rcases mj_do_inr hs with (rfl | rfl | rfl | rfl) | ⟨t, rfl | rfl | rfl⟩
        · obtain ⟨x, -, e1, e2⟩ := mj_do_ir he hs
          exact Or.inl ⟨x, e1, e2⟩
        · obtain ⟨x, -, e1, e2⟩ := mj_do_lr he hs
          exact Or.inr (Or.inl ⟨x, e1, e2⟩)
        · obtain ⟨x, -, e1, e2, -⟩ := mj_do_ar he hs
          exact Or.inr (Or.inr (Or.inl e2))
        · obtain ⟨-, e1, e2⟩ := mj_do_vr he hs
          exact Or.inr (Or.inr (Or.inr e2))
        · cases hk
        · cases hk
        · cases hk
      · cases hs
    · split at h
      · cases h
      · exact ih _ _ _ _ _ _ _ _ h
def mj_tyI (m : Nat) : Bool := match mj_e m with | some M => mj_ok M.2.2.2.1 70000 | none => false
theorem mj_tyI_chk : ([73, 74, 75, 77, 78, 79, 80, 81, 82, 83, 84, 85, 86, 87, 88, 89, 90, 91, 92, 93, 94, 95, 97, 98, 99, 100, 101, 102, 103, 104, 105, 106, 107, 108, 109, 110] : List Nat).all mj_tyI = true := by decide +kernel
theorem mj_tyIP {v : Value} (h : mj_tyI m = true) (hc : mj_C m as σ τ = some (some v, σ', τ')) : ∃ x, v = .int x := by
  unfold mj_tyI at h
  split at h
  · rename_i M he
    obtain ⟨n, hn⟩ := mj_E_run hc
    rcases mj_ty he _ _ _ _ _ _ _ _ _ hn with ⟨x, e, -⟩ | ⟨x, -, e⟩ | e | e
    · exact ⟨x, Option.some.inj e⟩
    · rw [e] at h; cases h
    · obtain ⟨rt, e1, ⟨q, rfl⟩ | ⟨q, rfl⟩⟩ := mj_isRP e
      · rw [e1] at h; cases h
      · rw [e1] at h; cases h
    · rw [e] at h; cases h
  · cases h
def mj_tyL (m : Nat) : Bool := match mj_e m with | some M => (match M.2.2.2.1 with | some .long => true | _ => false) | none => false
theorem mj_tyL_chk : mj_tyL 76 = true := by decide +kernel
theorem mj_tyLP {v : Value} (h : mj_tyL m = true) (hc : mj_C m as σ τ = some (some v, σ', τ')) : ∃ x, v = .long x := by
  unfold mj_tyL at h
  split at h
  · rename_i M he
    split at h
    · rename_i hr
      obtain ⟨n, hn⟩ := mj_E_run hc
      rcases mj_ty he _ _ _ _ _ _ _ _ _ hn with ⟨x, -, e⟩ | ⟨x, e, -⟩ | e | e
      · rw [hr] at e; cases e
      · exact ⟨x, Option.some.inj e⟩
      · rw [hr] at e; cases e
      · rw [hr] at e; cases e
    · cases h
  · cases h
theorem mj_bo_use2 (h : mj_bo x m as) (hx : mj_IX σ τ A G C) (hm : mj_IM σ τ A G C) : ∃ v σ1 τ1 σ2 τ2 A' G' C', mj_C x (.ref 0 :: as) σ τ = some (some v, σ1, τ1) ∧ mj_C m (.ref 62 :: as) σ1 τ1 = some (some v, σ2, τ2) ∧ mj_IX σ2 τ2 A' G' C' ∧ mj_IM σ2 τ2 A' G' C' ∧ σ1 98 = σ 98 ∧ σ1 99 = σ 99 ∧ (∀ k, 90 ≤ k → σ2 k = σ k) := by
  obtain ⟨v0, A0, G0, C0, ⟨σ1, τ1, x1, x2, x3⟩, -⟩ := h A G C σ τ σ τ hx hm
  obtain ⟨v, A', G', C', ⟨σ1', τ1', y1, y2, y3⟩, ⟨σ2, τ2, m1, m2, m3⟩⟩ := h A G C σ τ σ1 τ1 hx (mj_IM_hi hm x3)
  rw [y1] at x1
  cases x1
  exact ⟨v0, _, _, σ2, τ2, A', G', C', y1, m1, mj_IX_lo y2 m3, m2, (y3 98 (by decide)).1, (y3 99 (by decide)).1, fun k hk => ((m3 k (Or.inr hk)).1).trans ((y3 k (by omega)).1)⟩
theorem li_98 : mj_li σ 98 = some (σ 99 0).toNatClampNeg := rfl
theorem mj_lcr {x : Int64} : lg_cmp x x = 0 := by
  unfold lg_cmp
  rw [if_neg Int64.lt_irrefl, if_pos rfl]
theorem mj_sub_lt6 {s i : Nat} (hs : s ≤ 5000) (hi : i ≤ 5000) : nI s - nI 6 < nI i ↔ s < i + 6 := by
  rw [Int32.lt_iff_toInt_lt, Int32.toInt_sub, nI_toInt (by omega), nI_toInt (by decide), nI_toInt (by omega), Int.bmod_eq_of_le (by omega) (by omega)]
  omega
/-- one call of the script -/
def mj_go (σ : mj_S) (τ : mj_T) (len i : Nat) : Prop := ∃ σ2 τ2 A' G' C', mj_E 208 18 [some (.ref 98), some (.ref 0), some (.ref 62), some (.int (nI i))] [] σ τ = mj_E 208 18 [some (.ref 98), some (.ref 0), some (.ref 62), some (.int (nI (i + 6)))] [] σ2 τ2 ∧ mj_IX σ2 τ2 A' G' C' ∧ mj_IM σ2 τ2 A' G' C' ∧ σ2 99 = σ 99

theorem mj_law_0 {len i : Nat} (hl : σ 99 0 = nI len) (hlen : len ≤ 3072) (hi : i + 6 ≤ len) (hk : σ 98 i &&& nI 63 = nI 0) (hx : mj_IX σ τ A G C) (hm : mj_IM σ τ A G C) : mj_go σ τ len i := by
  obtain ⟨v, σ1, τ1, σ2, τ2, A', G', C', c1, c2, i1, i2, e98, e99, e9⟩ := mj_bo_use2 (bo_row (a := σ 98 (i + 1)) (b := σ 98 (i + 2)) (c := σ 98 (i + 3))) hx hm
  obtain ⟨x, rfl⟩ := mj_tyIP (List.all_eq_true.mp mj_tyI_chk 73 (by decide)) c1
  refine ⟨σ2, τ2, A', G', C', ?_, i1, i2, e9 99 (by decide)⟩
  have h0 : ¬ nI len - nI 6 < nI i := mt (mj_sub_lt6 (by omega) (by omega)).mp (by omega)
  have l1 : ¬ len ≤ i := by omega
  have l2 : ¬ len ≤ i + 1 := by omega
  have l3 : ¬ len ≤ i + 2 := by omega
  have l4 : ¬ len ≤ i + 3 := by omega
  have l5 : ¬ len ≤ i + 4 := by omega
  have l6 : ¬ len ≤ i + 5 := by omega
  have hl2 : σ1 99 0 = nI len := by rw [e99]; exact hl
  rw [e208_18]
  simp (maxSteps := 1000000) (disch := first | assumption | omega) only [↓e208_19, ↓e208_20, ↓e208_21, ↓e208_23, ↓e208_24, ↓e208_27, ↓e208_28, ↓e208_29, ↓e208_30, ↓e208_32, ↓e208_33, ↓e208_196, ↓e208_197, ↓e208_198, ↓e208_199, ↓e208_200, ↓e208_201, ↓e208_202, ↓e208_203, ↓e208_204, ↓e208_205, ↓e208_206, ↓e208_207, ↓e208_208, ↓e208_209, ↓e208_210, ↓e208_211, ↓e208_212, ↓e208_215, ↓e208_216, ↓e208_217, ↓e208_218, ↓e208_219, ↓e208_220, ↓e208_221, ↓e208_222, ↓e208_223, ↓e208_224, ↓e208_225, ↓e208_226, ↓e208_227, ↓e208_228, ↓e208_229, ↓e208_230, ↓e208_231, ↓e208_234, ↓e208_237, ↓e208_238, ↓e208_1448, ↓e208_1451, li_p0, li_p1, li_p2, li_p3, li_p4, li_p5, li_p6, li_p7, li_p8, li_p9, li_10, li_11, li_12, li_13, li_14, li_15, li_16, li_17, li_18, li_19, li_20, li_21, li_22, li_23, li_24, li_25, li_26, li_27, li_28, li_29, li_30, li_31, li_32, li_33, li_34, li_35, li_36, li_37, li_38, li_39, li_56, li_57, li_58, li_60, li_61, li_63, li_64, li_65, li_66, li_67, li_68, li_69, li_70, li_71, li_72, li_73, li_74, li_75, li_76, li_77, li_80, li_81, li_82, li_83, li_84, li_85, li_86, li_87, li_88, li_89, li_90, li_91, li_92, lw_q0, lw_q1, lw_q2, lw_q3, lw_q4, lw_q5, lw_q6, lw_q7, lw_q8, lw_q9, lw_10, lw_11, lw_12, lw_13, lw_14, lw_15, lw_16, lw_17, lw_18, lw_19, lw_20, lw_21, lw_22, lw_23, lw_24, lw_25, lw_26, lw_27, lw_28, lw_29, lw_30, lw_31, lw_32, lw_33, lw_34, lw_35, lw_36, lw_37, lw_38, lw_39, lw_56, lw_57, lw_58, lw_60, lw_61, lw_63, lw_64, lw_65, lw_66, lw_67, lw_68, lw_69, lw_70, lw_71, lw_72, lw_73, lw_74, lw_75, lw_76, lw_77, lw_80, lw_81, lw_82, lw_83, lw_84, lw_85, lw_86, lw_87, lw_88, lw_89, ll_78, ll_79, ll_s, rc6, rc2, rc3, rc5, rc7, rc1, rc0, rc4, rcs_0, rcs_1, rcs_2, rcs_3, rcs_4, mj_ib_nI, ↓reduceIte, mj_bdK, mj_ls, mj_ln, nI_clamp, nI_add, pk_mul, mj_nIeq0, mj_nIlt0, mj_nIle0, mj_nIeq, mj_nIle, mj_nIlt, mj_ok0, mj_ok1, mj_okb, mj_b0, mj_bR, mj_bR2, Nat.reduceEqDiff, li_98, hl, hl2, e98, h0, l1, l2, l3, l4, l5, l6, hk, c1, c2, mj_lcr]
theorem mj_law_1x {len i : Nat} (hl : σ 99 0 = nI len) (hlen : len ≤ 3072) (hi : i + 6 ≤ len) (hk : σ 98 i &&& nI 63 = nI 1) (hx : mj_IX σ τ A G C) (hm : mj_IM σ τ A G C) : mj_go σ τ len i := by
  obtain ⟨v, σ1, τ1, σ2, τ2, A', G', C', c1, c2, i1, i2, e98, e99, e9⟩ := mj_bo_use2 (bo_set (a := σ 98 (i + 1)) (b := σ 98 (i + 2)) (v := ((σ 98 (i + 3)).toInt64 <<< ((nI 32).toInt64 &&& 63)) ||| ((σ 98 (i + 4)).toInt64 &&& 4294967295))) hx hm
  obtain ⟨x, rfl⟩ := mj_tyIP (List.all_eq_true.mp mj_tyI_chk 74 (by decide)) c1
  refine ⟨σ2, τ2, A', G', C', ?_, i1, i2, e9 99 (by decide)⟩
  have h0 : ¬ nI len - nI 6 < nI i := mt (mj_sub_lt6 (by omega) (by omega)).mp (by omega)
  have l1 : ¬ len ≤ i := by omega
  have l2 : ¬ len ≤ i + 1 := by omega
  have l3 : ¬ len ≤ i + 2 := by omega
  have l4 : ¬ len ≤ i + 3 := by omega
  have l5 : ¬ len ≤ i + 4 := by omega
  have l6 : ¬ len ≤ i + 5 := by omega
  have hl2 : σ1 99 0 = nI len := by rw [e99]; exact hl
  rw [e208_18]
  simp (maxSteps := 1000000) (disch := first | assumption | omega) only [↓e208_19, ↓e208_20, ↓e208_21, ↓e208_23, ↓e208_24, ↓e208_27, ↓e208_28, ↓e208_29, ↓e208_30, ↓e208_32, ↓e208_33, ↓e208_239, ↓e208_240, ↓e208_241, ↓e208_242, ↓e208_243, ↓e208_244, ↓e208_245, ↓e208_246, ↓e208_247, ↓e208_248, ↓e208_249, ↓e208_250, ↓e208_251, ↓e208_252, ↓e208_253, ↓e208_254, ↓e208_255, ↓e208_256, ↓e208_258, ↓e208_259, ↓e208_260, ↓e208_261, ↓e208_262, ↓e208_263, ↓e208_264, ↓e208_265, ↓e208_268, ↓e208_269, ↓e208_270, ↓e208_273, ↓e208_274, ↓e208_275, ↓e208_276, ↓e208_277, ↓e208_278, ↓e208_279, ↓e208_280, ↓e208_281, ↓e208_282, ↓e208_283, ↓e208_284, ↓e208_285, ↓e208_286, ↓e208_287, ↓e208_288, ↓e208_289, ↓e208_290, ↓e208_292, ↓e208_293, ↓e208_294, ↓e208_295, ↓e208_296, ↓e208_297, ↓e208_298, ↓e208_299, ↓e208_302, ↓e208_303, ↓e208_304, ↓e208_307, ↓e208_310, ↓e208_311, ↓e208_1448, ↓e208_1451, li_p0, li_p1, li_p2, li_p3, li_p4, li_p5, li_p6, li_p7, li_p8, li_p9, li_10, li_11, li_12, li_13, li_14, li_15, li_16, li_17, li_18, li_19, li_20, li_21, li_22, li_23, li_24, li_25, li_26, li_27, li_28, li_29, li_30, li_31, li_32, li_33, li_34, li_35, li_36, li_37, li_38, li_39, li_56, li_57, li_58, li_60, li_61, li_63, li_64, li_65, li_66, li_67, li_68, li_69, li_70, li_71, li_72, li_73, li_74, li_75, li_76, li_77, li_80, li_81, li_82, li_83, li_84, li_85, li_86, li_87, li_88, li_89, li_90, li_91, li_92, lw_q0, lw_q1, lw_q2, lw_q3, lw_q4, lw_q5, lw_q6, lw_q7, lw_q8, lw_q9, lw_10, lw_11, lw_12, lw_13, lw_14, lw_15, lw_16, lw_17, lw_18, lw_19, lw_20, lw_21, lw_22, lw_23, lw_24, lw_25, lw_26, lw_27, lw_28, lw_29, lw_30, lw_31, lw_32, lw_33, lw_34, lw_35, lw_36, lw_37, lw_38, lw_39, lw_56, lw_57, lw_58, lw_60, lw_61, lw_63, lw_64, lw_65, lw_66, lw_67, lw_68, lw_69, lw_70, lw_71, lw_72, lw_73, lw_74, lw_75, lw_76, lw_77, lw_80, lw_81, lw_82, lw_83, lw_84, lw_85, lw_86, lw_87, lw_88, lw_89, ll_78, ll_79, ll_s, rc6, rc2, rc3, rc5, rc7, rc1, rc0, rc4, rcs_0, rcs_1, rcs_2, rcs_3, rcs_4, mj_ib_nI, ↓reduceIte, mj_bdK, mj_ls, mj_ln, nI_clamp, nI_add, pk_mul, mj_nIeq0, mj_nIlt0, mj_nIle0, mj_nIeq, mj_nIle, mj_nIlt, mj_ok0, mj_ok1, mj_okb, mj_b0, mj_bR, mj_bR2, Nat.reduceEqDiff, li_98, hl, hl2, e98, h0, l1, l2, l3, l4, l5, l6, hk, c1, c2, mj_lcr]
theorem mj_law_2 {len i : Nat} (hl : σ 99 0 = nI len) (hlen : len ≤ 3072) (hi : i + 6 ≤ len) (hk : σ 98 i &&& nI 63 = nI 2) (hx : mj_IX σ τ A G C) (hm : mj_IM σ τ A G C) : mj_go σ τ len i := by
  obtain ⟨v, σ1, τ1, σ2, τ2, A', G', C', c1, c2, i1, i2, e98, e99, e9⟩ := mj_bo_use2 (bo_copy (a := σ 98 (i + 1)) (b := σ 98 (i + 2)) (I := σ 98 (i + 3)) (J := σ 98 (i + 4)) (N := σ 98 (i + 5))) hx hm
  obtain ⟨x, rfl⟩ := mj_tyIP (List.all_eq_true.mp mj_tyI_chk 75 (by decide)) c1
  refine ⟨σ2, τ2, A', G', C', ?_, i1, i2, e9 99 (by decide)⟩
  have h0 : ¬ nI len - nI 6 < nI i := mt (mj_sub_lt6 (by omega) (by omega)).mp (by omega)
  have l1 : ¬ len ≤ i := by omega
  have l2 : ¬ len ≤ i + 1 := by omega
  have l3 : ¬ len ≤ i + 2 := by omega
  have l4 : ¬ len ≤ i + 3 := by omega
  have l5 : ¬ len ≤ i + 4 := by omega
  have l6 : ¬ len ≤ i + 5 := by omega
  have hl2 : σ1 99 0 = nI len := by rw [e99]; exact hl
  rw [e208_18]
  simp (maxSteps := 1000000) (disch := first | assumption | omega) only [↓e208_19, ↓e208_20, ↓e208_21, ↓e208_23, ↓e208_24, ↓e208_27, ↓e208_28, ↓e208_29, ↓e208_30, ↓e208_32, ↓e208_33, ↓e208_312, ↓e208_313, ↓e208_314, ↓e208_315, ↓e208_316, ↓e208_317, ↓e208_318, ↓e208_319, ↓e208_320, ↓e208_321, ↓e208_322, ↓e208_323, ↓e208_324, ↓e208_325, ↓e208_326, ↓e208_327, ↓e208_328, ↓e208_329, ↓e208_330, ↓e208_331, ↓e208_332, ↓e208_333, ↓e208_334, ↓e208_335, ↓e208_336, ↓e208_337, ↓e208_338, ↓e208_341, ↓e208_342, ↓e208_343, ↓e208_344, ↓e208_345, ↓e208_346, ↓e208_347, ↓e208_348, ↓e208_349, ↓e208_350, ↓e208_351, ↓e208_352, ↓e208_353, ↓e208_354, ↓e208_355, ↓e208_356, ↓e208_357, ↓e208_358, ↓e208_359, ↓e208_360, ↓e208_361, ↓e208_362, ↓e208_363, ↓e208_364, ↓e208_365, ↓e208_366, ↓e208_367, ↓e208_370, ↓e208_373, ↓e208_374, ↓e208_1448, ↓e208_1451, li_p0, li_p1, li_p2, li_p3, li_p4, li_p5, li_p6, li_p7, li_p8, li_p9, li_10, li_11, li_12, li_13, li_14, li_15, li_16, li_17, li_18, li_19, li_20, li_21, li_22, li_23, li_24, li_25, li_26, li_27, li_28, li_29, li_30, li_31, li_32, li_33, li_34, li_35, li_36, li_37, li_38, li_39, li_56, li_57, li_58, li_60, li_61, li_63, li_64, li_65, li_66, li_67, li_68, li_69, li_70, li_71, li_72, li_73, li_74, li_75, li_76, li_77, li_80, li_81, li_82, li_83, li_84, li_85, li_86, li_87, li_88, li_89, li_90, li_91, li_92, lw_q0, lw_q1, lw_q2, lw_q3, lw_q4, lw_q5, lw_q6, lw_q7, lw_q8, lw_q9, lw_10, lw_11, lw_12, lw_13, lw_14, lw_15, lw_16, lw_17, lw_18, lw_19, lw_20, lw_21, lw_22, lw_23, lw_24, lw_25, lw_26, lw_27, lw_28, lw_29, lw_30, lw_31, lw_32, lw_33, lw_34, lw_35, lw_36, lw_37, lw_38, lw_39, lw_56, lw_57, lw_58, lw_60, lw_61, lw_63, lw_64, lw_65, lw_66, lw_67, lw_68, lw_69, lw_70, lw_71, lw_72, lw_73, lw_74, lw_75, lw_76, lw_77, lw_80, lw_81, lw_82, lw_83, lw_84, lw_85, lw_86, lw_87, lw_88, lw_89, ll_78, ll_79, ll_s, rc6, rc2, rc3, rc5, rc7, rc1, rc0, rc4, rcs_0, rcs_1, rcs_2, rcs_3, rcs_4, mj_ib_nI, ↓reduceIte, mj_bdK, mj_ls, mj_ln, nI_clamp, nI_add, pk_mul, mj_nIeq0, mj_nIlt0, mj_nIle0, mj_nIeq, mj_nIle, mj_nIlt, mj_ok0, mj_ok1, mj_okb, mj_b0, mj_bR, mj_bR2, Nat.reduceEqDiff, li_98, hl, hl2, e98, h0, l1, l2, l3, l4, l5, l6, hk, c1, c2, mj_lcr]
theorem mj_law_3 {len i : Nat} (hl : σ 99 0 = nI len) (hlen : len ≤ 3072) (hi : i + 6 ≤ len) (hk : σ 98 i &&& nI 63 = nI 3) (hx : mj_IX σ τ A G C) (hm : mj_IM σ τ A G C) : mj_go σ τ len i := by
  obtain ⟨v, σ1, τ1, σ2, τ2, A', G', C', c1, c2, i1, i2, e98, e99, e9⟩ := mj_bo_use2 (bo_element (a := σ 98 (i + 1)) (b := σ 98 (i + 2))) hx hm
  obtain ⟨x, rfl⟩ := mj_tyLP mj_tyL_chk c1
  refine ⟨σ2, τ2, A', G', C', ?_, i1, i2, e9 99 (by decide)⟩
  have h0 : ¬ nI len - nI 6 < nI i := mt (mj_sub_lt6 (by omega) (by omega)).mp (by omega)
  have l1 : ¬ len ≤ i := by omega
  have l2 : ¬ len ≤ i + 1 := by omega
  have l3 : ¬ len ≤ i + 2 := by omega
  have l4 : ¬ len ≤ i + 3 := by omega
  have l5 : ¬ len ≤ i + 4 := by omega
  have l6 : ¬ len ≤ i + 5 := by omega
  have hl2 : σ1 99 0 = nI len := by rw [e99]; exact hl
  rw [e208_18]
  simp (maxSteps := 1000000) (disch := first | assumption | omega) only [↓e208_19, ↓e208_20, ↓e208_21, ↓e208_23, ↓e208_24, ↓e208_27, ↓e208_28, ↓e208_29, ↓e208_30, ↓e208_32, ↓e208_33, ↓e208_375, ↓e208_376, ↓e208_377, ↓e208_378, ↓e208_379, ↓e208_380, ↓e208_381, ↓e208_382, ↓e208_383, ↓e208_384, ↓e208_385, ↓e208_386, ↓e208_389, ↓e208_390, ↓e208_391, ↓e208_392, ↓e208_393, ↓e208_394, ↓e208_395, ↓e208_396, ↓e208_397, ↓e208_398, ↓e208_399, ↓e208_400, ↓e208_403, ↓e208_404, ↓e208_407, ↓e208_408, ↓e208_1448, ↓e208_1451, li_p0, li_p1, li_p2, li_p3, li_p4, li_p5, li_p6, li_p7, li_p8, li_p9, li_10, li_11, li_12, li_13, li_14, li_15, li_16, li_17, li_18, li_19, li_20, li_21, li_22, li_23, li_24, li_25, li_26, li_27, li_28, li_29, li_30, li_31, li_32, li_33, li_34, li_35, li_36, li_37, li_38, li_39, li_56, li_57, li_58, li_60, li_61, li_63, li_64, li_65, li_66, li_67, li_68, li_69, li_70, li_71, li_72, li_73, li_74, li_75, li_76, li_77, li_80, li_81, li_82, li_83, li_84, li_85, li_86, li_87, li_88, li_89, li_90, li_91, li_92, lw_q0, lw_q1, lw_q2, lw_q3, lw_q4, lw_q5, lw_q6, lw_q7, lw_q8, lw_q9, lw_10, lw_11, lw_12, lw_13, lw_14, lw_15, lw_16, lw_17, lw_18, lw_19, lw_20, lw_21, lw_22, lw_23, lw_24, lw_25, lw_26, lw_27, lw_28, lw_29, lw_30, lw_31, lw_32, lw_33, lw_34, lw_35, lw_36, lw_37, lw_38, lw_39, lw_56, lw_57, lw_58, lw_60, lw_61, lw_63, lw_64, lw_65, lw_66, lw_67, lw_68, lw_69, lw_70, lw_71, lw_72, lw_73, lw_74, lw_75, lw_76, lw_77, lw_80, lw_81, lw_82, lw_83, lw_84, lw_85, lw_86, lw_87, lw_88, lw_89, ll_78, ll_79, ll_s, rc6, rc2, rc3, rc5, rc7, rc1, rc0, rc4, rcs_0, rcs_1, rcs_2, rcs_3, rcs_4, mj_ib_nI, ↓reduceIte, mj_bdK, mj_ls, mj_ln, nI_clamp, nI_add, pk_mul, mj_nIeq0, mj_nIlt0, mj_nIle0, mj_nIeq, mj_nIle, mj_nIlt, mj_ok0, mj_ok1, mj_okb, mj_b0, mj_bR, mj_bR2, Nat.reduceEqDiff, li_98, hl, hl2, e98, h0, l1, l2, l3, l4, l5, l6, hk, c1, c2, mj_lcr]
theorem mj_law_4 {len i : Nat} (hl : σ 99 0 = nI len) (hlen : len ≤ 3072) (hi : i + 6 ≤ len) (hk : σ 98 i &&& nI 63 = nI 4) (hx : mj_IX σ τ A G C) (hm : mj_IM σ τ A G C) : mj_go σ τ len i := by
  obtain ⟨v, σ1, τ1, σ2, τ2, A', G', C', c1, c2, i1, i2, e98, e99, e9⟩ := mj_bo_use2 (bo_show (a := σ 98 (i + 1)) (b := σ 98 (i + 2))) hx hm
  obtain ⟨x, rfl⟩ := mj_tyIP (List.all_eq_true.mp mj_tyI_chk 77 (by decide)) c1
  refine ⟨σ2, τ2, A', G', C', ?_, i1, i2, e9 99 (by decide)⟩
  have h0 : ¬ nI len - nI 6 < nI i := mt (mj_sub_lt6 (by omega) (by omega)).mp (by omega)
  have l1 : ¬ len ≤ i := by omega
  have l2 : ¬ len ≤ i + 1 := by omega
  have l3 : ¬ len ≤ i + 2 := by omega
  have l4 : ¬ len ≤ i + 3 := by omega
  have l5 : ¬ len ≤ i + 4 := by omega
  have l6 : ¬ len ≤ i + 5 := by omega
  have hl2 : σ1 99 0 = nI len := by rw [e99]; exact hl
  rw [e208_18]
  simp (maxSteps := 1000000) (disch := first | assumption | omega) only [↓e208_19, ↓e208_20, ↓e208_21, ↓e208_23, ↓e208_24, ↓e208_27, ↓e208_28, ↓e208_29, ↓e208_30, ↓e208_32, ↓e208_33, ↓e208_409, ↓e208_410, ↓e208_411, ↓e208_412, ↓e208_413, ↓e208_414, ↓e208_415, ↓e208_416, ↓e208_417, ↓e208_418, ↓e208_419, ↓e208_420, ↓e208_423, ↓e208_424, ↓e208_425, ↓e208_426, ↓e208_427, ↓e208_428, ↓e208_429, ↓e208_430, ↓e208_431, ↓e208_432, ↓e208_433, ↓e208_434, ↓e208_437, ↓e208_440, ↓e208_441, ↓e208_1448, ↓e208_1451, li_p0, li_p1, li_p2, li_p3, li_p4, li_p5, li_p6, li_p7, li_p8, li_p9, li_10, li_11, li_12, li_13, li_14, li_15, li_16, li_17, li_18, li_19, li_20, li_21, li_22, li_23, li_24, li_25, li_26, li_27, li_28, li_29, li_30, li_31, li_32, li_33, li_34, li_35, li_36, li_37, li_38, li_39, li_56, li_57, li_58, li_60, li_61, li_63, li_64, li_65, li_66, li_67, li_68, li_69, li_70, li_71, li_72, li_73, li_74, li_75, li_76, li_77, li_80, li_81, li_82, li_83, li_84, li_85, li_86, li_87, li_88, li_89, li_90, li_91, li_92, lw_q0, lw_q1, lw_q2, lw_q3, lw_q4, lw_q5, lw_q6, lw_q7, lw_q8, lw_q9, lw_10, lw_11, lw_12, lw_13, lw_14, lw_15, lw_16, lw_17, lw_18, lw_19, lw_20, lw_21, lw_22, lw_23, lw_24, lw_25, lw_26, lw_27, lw_28, lw_29, lw_30, lw_31, lw_32, lw_33, lw_34, lw_35, lw_36, lw_37, lw_38, lw_39, lw_56, lw_57, lw_58, lw_60, lw_61, lw_63, lw_64, lw_65, lw_66, lw_67, lw_68, lw_69, lw_70, lw_71, lw_72, lw_73, lw_74, lw_75, lw_76, lw_77, lw_80, lw_81, lw_82, lw_83, lw_84, lw_85, lw_86, lw_87, lw_88, lw_89, ll_78, ll_79, ll_s, rc6, rc2, rc3, rc5, rc7, rc1, rc0, rc4, rcs_0, rcs_1, rcs_2, rcs_3, rcs_4, mj_ib_nI, ↓reduceIte, mj_bdK, mj_ls, mj_ln, nI_clamp, nI_add, pk_mul, mj_nIeq0, mj_nIlt0, mj_nIle0, mj_nIeq, mj_nIle, mj_nIlt, mj_ok0, mj_ok1, mj_okb, mj_b0, mj_bR, mj_bR2, Nat.reduceEqDiff, li_98, hl, hl2, e98, h0, l1, l2, l3, l4, l5, l6, hk, c1, c2, mj_lcr]
theorem mj_law_5 {len i : Nat} (hl : σ 99 0 = nI len) (hlen : len ≤ 3072) (hi : i + 6 ≤ len) (hk : σ 98 i &&& nI 63 = nI 5) (hx : mj_IX σ τ A G C) (hm : mj_IM σ τ A G C) : mj_go σ τ len i := by
  obtain ⟨v, σ1, τ1, σ2, τ2, A', G', C', c1, c2, i1, i2, e98, e99, e9⟩ := mj_bo_use2 (bo_holds (a := σ 98 (i + 1))) hx hm
  obtain ⟨x, rfl⟩ := mj_tyIP (List.all_eq_true.mp mj_tyI_chk 78 (by decide)) c1
  refine ⟨σ2, τ2, A', G', C', ?_, i1, i2, e9 99 (by decide)⟩
  have h0 : ¬ nI len - nI 6 < nI i := mt (mj_sub_lt6 (by omega) (by omega)).mp (by omega)
  have l1 : ¬ len ≤ i := by omega
  have l2 : ¬ len ≤ i + 1 := by omega
  have l3 : ¬ len ≤ i + 2 := by omega
  have l4 : ¬ len ≤ i + 3 := by omega
  have l5 : ¬ len ≤ i + 4 := by omega
  have l6 : ¬ len ≤ i + 5 := by omega
  have hl2 : σ1 99 0 = nI len := by rw [e99]; exact hl
  rw [e208_18]
  simp (maxSteps := 1000000) (disch := first | assumption | omega) only [↓e208_19, ↓e208_20, ↓e208_21, ↓e208_23, ↓e208_24, ↓e208_27, ↓e208_28, ↓e208_29, ↓e208_30, ↓e208_32, ↓e208_33, ↓e208_442, ↓e208_443, ↓e208_444, ↓e208_445, ↓e208_446, ↓e208_447, ↓e208_448, ↓e208_451, ↓e208_452, ↓e208_453, ↓e208_454, ↓e208_455, ↓e208_456, ↓e208_457, ↓e208_460, ↓e208_463, ↓e208_464, ↓e208_1448, ↓e208_1451, li_p0, li_p1, li_p2, li_p3, li_p4, li_p5, li_p6, li_p7, li_p8, li_p9, li_10, li_11, li_12, li_13, li_14, li_15, li_16, li_17, li_18, li_19, li_20, li_21, li_22, li_23, li_24, li_25, li_26, li_27, li_28, li_29, li_30, li_31, li_32, li_33, li_34, li_35, li_36, li_37, li_38, li_39, li_56, li_57, li_58, li_60, li_61, li_63, li_64, li_65, li_66, li_67, li_68, li_69, li_70, li_71, li_72, li_73, li_74, li_75, li_76, li_77, li_80, li_81, li_82, li_83, li_84, li_85, li_86, li_87, li_88, li_89, li_90, li_91, li_92, lw_q0, lw_q1, lw_q2, lw_q3, lw_q4, lw_q5, lw_q6, lw_q7, lw_q8, lw_q9, lw_10, lw_11, lw_12, lw_13, lw_14, lw_15, lw_16, lw_17, lw_18, lw_19, lw_20, lw_21, lw_22, lw_23, lw_24, lw_25, lw_26, lw_27, lw_28, lw_29, lw_30, lw_31, lw_32, lw_33, lw_34, lw_35, lw_36, lw_37, lw_38, lw_39, lw_56, lw_57, lw_58, lw_60, lw_61, lw_63, lw_64, lw_65, lw_66, lw_67, lw_68, lw_69, lw_70, lw_71, lw_72, lw_73, lw_74, lw_75, lw_76, lw_77, lw_80, lw_81, lw_82, lw_83, lw_84, lw_85, lw_86, lw_87, lw_88, lw_89, ll_78, ll_79, ll_s, rc6, rc2, rc3, rc5, rc7, rc1, rc0, rc4, rcs_0, rcs_1, rcs_2, rcs_3, rcs_4, mj_ib_nI, ↓reduceIte, mj_bdK, mj_ls, mj_ln, nI_clamp, nI_add, pk_mul, mj_nIeq0, mj_nIlt0, mj_nIle0, mj_nIeq, mj_nIle, mj_nIlt, mj_ok0, mj_ok1, mj_okb, mj_b0, mj_bR, mj_bR2, Nat.reduceEqDiff, li_98, hl, hl2, e98, h0, l1, l2, l3, l4, l5, l6, hk, c1, c2, mj_lcr]
theorem mj_law_6 {len i : Nat} (hl : σ 99 0 = nI len) (hlen : len ≤ 3072) (hi : i + 6 ≤ len) (hk : σ 98 i &&& nI 63 = nI 6) (hx : mj_IX σ τ A G C) (hm : mj_IM σ τ A G C) : mj_go σ τ len i := by
  obtain ⟨v, σ1, τ1, σ2, τ2, A', G', C', c1, c2, i1, i2, e98, e99, e9⟩ := mj_bo_use2 (bo_says (a := σ 98 (i + 1)) (b := σ 98 (i + 2))) hx hm
  obtain ⟨x, rfl⟩ := mj_tyIP (List.all_eq_true.mp mj_tyI_chk 79 (by decide)) c1
  refine ⟨σ2, τ2, A', G', C', ?_, i1, i2, e9 99 (by decide)⟩
  have h0 : ¬ nI len - nI 6 < nI i := mt (mj_sub_lt6 (by omega) (by omega)).mp (by omega)
  have l1 : ¬ len ≤ i := by omega
  have l2 : ¬ len ≤ i + 1 := by omega
  have l3 : ¬ len ≤ i + 2 := by omega
  have l4 : ¬ len ≤ i + 3 := by omega
  have l5 : ¬ len ≤ i + 4 := by omega
  have l6 : ¬ len ≤ i + 5 := by omega
  have hl2 : σ1 99 0 = nI len := by rw [e99]; exact hl
  rw [e208_18]
  simp (maxSteps := 1000000) (disch := first | assumption | omega) only [↓e208_19, ↓e208_20, ↓e208_21, ↓e208_23, ↓e208_24, ↓e208_27, ↓e208_28, ↓e208_29, ↓e208_30, ↓e208_32, ↓e208_33, ↓e208_465, ↓e208_466, ↓e208_467, ↓e208_468, ↓e208_469, ↓e208_470, ↓e208_471, ↓e208_472, ↓e208_473, ↓e208_474, ↓e208_475, ↓e208_476, ↓e208_479, ↓e208_480, ↓e208_481, ↓e208_482, ↓e208_483, ↓e208_484, ↓e208_485, ↓e208_486, ↓e208_487, ↓e208_488, ↓e208_489, ↓e208_490, ↓e208_493, ↓e208_496, ↓e208_497, ↓e208_1448, ↓e208_1451, li_p0, li_p1, li_p2, li_p3, li_p4, li_p5, li_p6, li_p7, li_p8, li_p9, li_10, li_11, li_12, li_13, li_14, li_15, li_16, li_17, li_18, li_19, li_20, li_21, li_22, li_23, li_24, li_25, li_26, li_27, li_28, li_29, li_30, li_31, li_32, li_33, li_34, li_35, li_36, li_37, li_38, li_39, li_56, li_57, li_58, li_60, li_61, li_63, li_64, li_65, li_66, li_67, li_68, li_69, li_70, li_71, li_72, li_73, li_74, li_75, li_76, li_77, li_80, li_81, li_82, li_83, li_84, li_85, li_86, li_87, li_88, li_89, li_90, li_91, li_92, lw_q0, lw_q1, lw_q2, lw_q3, lw_q4, lw_q5, lw_q6, lw_q7, lw_q8, lw_q9, lw_10, lw_11, lw_12, lw_13, lw_14, lw_15, lw_16, lw_17, lw_18, lw_19, lw_20, lw_21, lw_22, lw_23, lw_24, lw_25, lw_26, lw_27, lw_28, lw_29, lw_30, lw_31, lw_32, lw_33, lw_34, lw_35, lw_36, lw_37, lw_38, lw_39, lw_56, lw_57, lw_58, lw_60, lw_61, lw_63, lw_64, lw_65, lw_66, lw_67, lw_68, lw_69, lw_70, lw_71, lw_72, lw_73, lw_74, lw_75, lw_76, lw_77, lw_80, lw_81, lw_82, lw_83, lw_84, lw_85, lw_86, lw_87, lw_88, lw_89, ll_78, ll_79, ll_s, rc6, rc2, rc3, rc5, rc7, rc1, rc0, rc4, rcs_0, rcs_1, rcs_2, rcs_3, rcs_4, mj_ib_nI, ↓reduceIte, mj_bdK, mj_ls, mj_ln, nI_clamp, nI_add, pk_mul, mj_nIeq0, mj_nIlt0, mj_nIle0, mj_nIeq, mj_nIle, mj_nIlt, mj_ok0, mj_ok1, mj_okb, mj_b0, mj_bR, mj_bR2, Nat.reduceEqDiff, li_98, hl, hl2, e98, h0, l1, l2, l3, l4, l5, l6, hk, c1, c2, mj_lcr]
theorem mj_law_7 {len i : Nat} (hl : σ 99 0 = nI len) (hlen : len ≤ 3072) (hi : i + 6 ≤ len) (hk : σ 98 i &&& nI 63 = nI 7) (hx : mj_IX σ τ A G C) (hm : mj_IM σ τ A G C) : mj_go σ τ len i := by
  obtain ⟨v, σ1, τ1, σ2, τ2, A', G', C', c1, c2, i1, i2, e98, e99, e9⟩ := mj_bo_use2 (bo_grown (a := σ 98 (i + 1)) (b := σ 98 (i + 2)) (c := σ 98 (i + 3)) (d := σ 98 (i + 4))) hx hm
  obtain ⟨x, rfl⟩ := mj_tyIP (List.all_eq_true.mp mj_tyI_chk 80 (by decide)) c1
  refine ⟨σ2, τ2, A', G', C', ?_, i1, i2, e9 99 (by decide)⟩
  have h0 : ¬ nI len - nI 6 < nI i := mt (mj_sub_lt6 (by omega) (by omega)).mp (by omega)
  have l1 : ¬ len ≤ i := by omega
  have l2 : ¬ len ≤ i + 1 := by omega
  have l3 : ¬ len ≤ i + 2 := by omega
  have l4 : ¬ len ≤ i + 3 := by omega
  have l5 : ¬ len ≤ i + 4 := by omega
  have l6 : ¬ len ≤ i + 5 := by omega
  have hl2 : σ1 99 0 = nI len := by rw [e99]; exact hl
  rw [e208_18]
  simp (maxSteps := 1000000) (disch := first | assumption | omega) only [↓e208_19, ↓e208_20, ↓e208_21, ↓e208_23, ↓e208_24, ↓e208_27, ↓e208_28, ↓e208_29, ↓e208_30, ↓e208_32, ↓e208_33, ↓e208_498, ↓e208_499, ↓e208_500, ↓e208_501, ↓e208_502, ↓e208_503, ↓e208_504, ↓e208_505, ↓e208_506, ↓e208_507, ↓e208_508, ↓e208_509, ↓e208_510, ↓e208_511, ↓e208_512, ↓e208_513, ↓e208_514, ↓e208_515, ↓e208_516, ↓e208_517, ↓e208_518, ↓e208_519, ↓e208_522, ↓e208_523, ↓e208_524, ↓e208_525, ↓e208_526, ↓e208_527, ↓e208_528, ↓e208_529, ↓e208_530, ↓e208_531, ↓e208_532, ↓e208_533, ↓e208_534, ↓e208_535, ↓e208_536, ↓e208_537, ↓e208_538, ↓e208_539, ↓e208_540, ↓e208_541, ↓e208_542, ↓e208_543, ↓e208_546, ↓e208_549, ↓e208_550, ↓e208_1448, ↓e208_1451, li_p0, li_p1, li_p2, li_p3, li_p4, li_p5, li_p6, li_p7, li_p8, li_p9, li_10, li_11, li_12, li_13, li_14, li_15, li_16, li_17, li_18, li_19, li_20, li_21, li_22, li_23, li_24, li_25, li_26, li_27, li_28, li_29, li_30, li_31, li_32, li_33, li_34, li_35, li_36, li_37, li_38, li_39, li_56, li_57, li_58, li_60, li_61, li_63, li_64, li_65, li_66, li_67, li_68, li_69, li_70, li_71, li_72, li_73, li_74, li_75, li_76, li_77, li_80, li_81, li_82, li_83, li_84, li_85, li_86, li_87, li_88, li_89, li_90, li_91, li_92, lw_q0, lw_q1, lw_q2, lw_q3, lw_q4, lw_q5, lw_q6, lw_q7, lw_q8, lw_q9, lw_10, lw_11, lw_12, lw_13, lw_14, lw_15, lw_16, lw_17, lw_18, lw_19, lw_20, lw_21, lw_22, lw_23, lw_24, lw_25, lw_26, lw_27, lw_28, lw_29, lw_30, lw_31, lw_32, lw_33, lw_34, lw_35, lw_36, lw_37, lw_38, lw_39, lw_56, lw_57, lw_58, lw_60, lw_61, lw_63, lw_64, lw_65, lw_66, lw_67, lw_68, lw_69, lw_70, lw_71, lw_72, lw_73, lw_74, lw_75, lw_76, lw_77, lw_80, lw_81, lw_82, lw_83, lw_84, lw_85, lw_86, lw_87, lw_88, lw_89, ll_78, ll_79, ll_s, rc6, rc2, rc3, rc5, rc7, rc1, rc0, rc4, rcs_0, rcs_1, rcs_2, rcs_3, rcs_4, mj_ib_nI, ↓reduceIte, mj_bdK, mj_ls, mj_ln, nI_clamp, nI_add, pk_mul, mj_nIeq0, mj_nIlt0, mj_nIle0, mj_nIeq, mj_nIle, mj_nIlt, mj_ok0, mj_ok1, mj_okb, mj_b0, mj_bR, mj_bR2, Nat.reduceEqDiff, li_98, hl, hl2, e98, h0, l1, l2, l3, l4, l5, l6, hk, c1, c2, mj_lcr]
theorem mj_law_8 {len i : Nat} (hl : σ 99 0 = nI len) (hlen : len ≤ 3072) (hi : i + 6 ≤ len) (hk : σ 98 i &&& nI 63 = nI 8) (hx : mj_IX σ τ A G C) (hm : mj_IM σ τ A G C) : mj_go σ τ len i := by
  obtain ⟨v, σ1, τ1, σ2, τ2, A', G', C', c1, c2, i1, i2, e98, e99, e9⟩ := mj_bo_use2 (bo_child (a := σ 98 (i + 1)) (b := σ 98 (i + 2)) (c := σ 98 (i + 3)) (d := σ 98 (i + 4)) (e := σ 98 (i + 5))) hx hm
  obtain ⟨x, rfl⟩ := mj_tyIP (List.all_eq_true.mp mj_tyI_chk 81 (by decide)) c1
  refine ⟨σ2, τ2, A', G', C', ?_, i1, i2, e9 99 (by decide)⟩
  have h0 : ¬ nI len - nI 6 < nI i := mt (mj_sub_lt6 (by omega) (by omega)).mp (by omega)
  have l1 : ¬ len ≤ i := by omega
  have l2 : ¬ len ≤ i + 1 := by omega
  have l3 : ¬ len ≤ i + 2 := by omega
  have l4 : ¬ len ≤ i + 3 := by omega
  have l5 : ¬ len ≤ i + 4 := by omega
  have l6 : ¬ len ≤ i + 5 := by omega
  have hl2 : σ1 99 0 = nI len := by rw [e99]; exact hl
  rw [e208_18]
  simp (maxSteps := 1000000) (disch := first | assumption | omega) only [↓e208_19, ↓e208_20, ↓e208_21, ↓e208_23, ↓e208_24, ↓e208_27, ↓e208_28, ↓e208_29, ↓e208_30, ↓e208_32, ↓e208_33, ↓e208_551, ↓e208_552, ↓e208_553, ↓e208_554, ↓e208_555, ↓e208_556, ↓e208_557, ↓e208_558, ↓e208_559, ↓e208_560, ↓e208_561, ↓e208_562, ↓e208_563, ↓e208_564, ↓e208_565, ↓e208_566, ↓e208_567, ↓e208_568, ↓e208_569, ↓e208_570, ↓e208_571, ↓e208_572, ↓e208_573, ↓e208_574, ↓e208_575, ↓e208_576, ↓e208_577, ↓e208_580, ↓e208_581, ↓e208_582, ↓e208_583, ↓e208_584, ↓e208_585, ↓e208_586, ↓e208_587, ↓e208_588, ↓e208_589, ↓e208_590, ↓e208_591, ↓e208_592, ↓e208_593, ↓e208_594, ↓e208_595, ↓e208_596, ↓e208_597, ↓e208_598, ↓e208_599, ↓e208_600, ↓e208_601, ↓e208_602, ↓e208_603, ↓e208_604, ↓e208_605, ↓e208_606, ↓e208_609, ↓e208_612, ↓e208_613, ↓e208_1448, ↓e208_1451, li_p0, li_p1, li_p2, li_p3, li_p4, li_p5, li_p6, li_p7, li_p8, li_p9, li_10, li_11, li_12, li_13, li_14, li_15, li_16, li_17, li_18, li_19, li_20, li_21, li_22, li_23, li_24, li_25, li_26, li_27, li_28, li_29, li_30, li_31, li_32, li_33, li_34, li_35, li_36, li_37, li_38, li_39, li_56, li_57, li_58, li_60, li_61, li_63, li_64, li_65, li_66, li_67, li_68, li_69, li_70, li_71, li_72, li_73, li_74, li_75, li_76, li_77, li_80, li_81, li_82, li_83, li_84, li_85, li_86, li_87, li_88, li_89, li_90, li_91, li_92, lw_q0, lw_q1, lw_q2, lw_q3, lw_q4, lw_q5, lw_q6, lw_q7, lw_q8, lw_q9, lw_10, lw_11, lw_12, lw_13, lw_14, lw_15, lw_16, lw_17, lw_18, lw_19, lw_20, lw_21, lw_22, lw_23, lw_24, lw_25, lw_26, lw_27, lw_28, lw_29, lw_30, lw_31, lw_32, lw_33, lw_34, lw_35, lw_36, lw_37, lw_38, lw_39, lw_56, lw_57, lw_58, lw_60, lw_61, lw_63, lw_64, lw_65, lw_66, lw_67, lw_68, lw_69, lw_70, lw_71, lw_72, lw_73, lw_74, lw_75, lw_76, lw_77, lw_80, lw_81, lw_82, lw_83, lw_84, lw_85, lw_86, lw_87, lw_88, lw_89, ll_78, ll_79, ll_s, rc6, rc2, rc3, rc5, rc7, rc1, rc0, rc4, rcs_0, rcs_1, rcs_2, rcs_3, rcs_4, mj_ib_nI, ↓reduceIte, mj_bdK, mj_ls, mj_ln, nI_clamp, nI_add, pk_mul, mj_nIeq0, mj_nIlt0, mj_nIle0, mj_nIeq, mj_nIle, mj_nIlt, mj_ok0, mj_ok1, mj_okb, mj_b0, mj_bR, mj_bR2, Nat.reduceEqDiff, li_98, hl, hl2, e98, h0, l1, l2, l3, l4, l5, l6, hk, c1, c2, mj_lcr]
theorem mj_law_9 {len i : Nat} (hl : σ 99 0 = nI len) (hlen : len ≤ 3072) (hi : i + 6 ≤ len) (hk : σ 98 i &&& nI 63 = nI 9) (hx : mj_IX σ τ A G C) (hm : mj_IM σ τ A G C) : mj_go σ τ len i := by
  obtain ⟨v, σ1, τ1, σ2, τ2, A', G', C', c1, c2, i1, i2, e98, e99, e9⟩ := mj_bo_use2 (bo_flood (a := σ 98 (i + 1))) hx hm
  obtain ⟨x, rfl⟩ := mj_tyIP (List.all_eq_true.mp mj_tyI_chk 82 (by decide)) c1
  refine ⟨σ2, τ2, A', G', C', ?_, i1, i2, e9 99 (by decide)⟩
  have h0 : ¬ nI len - nI 6 < nI i := mt (mj_sub_lt6 (by omega) (by omega)).mp (by omega)
  have l1 : ¬ len ≤ i := by omega
  have l2 : ¬ len ≤ i + 1 := by omega
  have l3 : ¬ len ≤ i + 2 := by omega
  have l4 : ¬ len ≤ i + 3 := by omega
  have l5 : ¬ len ≤ i + 4 := by omega
  have l6 : ¬ len ≤ i + 5 := by omega
  have hl2 : σ1 99 0 = nI len := by rw [e99]; exact hl
  rw [e208_18]
  simp (maxSteps := 1000000) (disch := first | assumption | omega) only [↓e208_19, ↓e208_20, ↓e208_21, ↓e208_23, ↓e208_24, ↓e208_27, ↓e208_28, ↓e208_29, ↓e208_30, ↓e208_32, ↓e208_33, ↓e208_614, ↓e208_615, ↓e208_616, ↓e208_617, ↓e208_618, ↓e208_619, ↓e208_620, ↓e208_623, ↓e208_624, ↓e208_625, ↓e208_626, ↓e208_627, ↓e208_628, ↓e208_629, ↓e208_632, ↓e208_635, ↓e208_636, ↓e208_1448, ↓e208_1451, li_p0, li_p1, li_p2, li_p3, li_p4, li_p5, li_p6, li_p7, li_p8, li_p9, li_10, li_11, li_12, li_13, li_14, li_15, li_16, li_17, li_18, li_19, li_20, li_21, li_22, li_23, li_24, li_25, li_26, li_27, li_28, li_29, li_30, li_31, li_32, li_33, li_34, li_35, li_36, li_37, li_38, li_39, li_56, li_57, li_58, li_60, li_61, li_63, li_64, li_65, li_66, li_67, li_68, li_69, li_70, li_71, li_72, li_73, li_74, li_75, li_76, li_77, li_80, li_81, li_82, li_83, li_84, li_85, li_86, li_87, li_88, li_89, li_90, li_91, li_92, lw_q0, lw_q1, lw_q2, lw_q3, lw_q4, lw_q5, lw_q6, lw_q7, lw_q8, lw_q9, lw_10, lw_11, lw_12, lw_13, lw_14, lw_15, lw_16, lw_17, lw_18, lw_19, lw_20, lw_21, lw_22, lw_23, lw_24, lw_25, lw_26, lw_27, lw_28, lw_29, lw_30, lw_31, lw_32, lw_33, lw_34, lw_35, lw_36, lw_37, lw_38, lw_39, lw_56, lw_57, lw_58, lw_60, lw_61, lw_63, lw_64, lw_65, lw_66, lw_67, lw_68, lw_69, lw_70, lw_71, lw_72, lw_73, lw_74, lw_75, lw_76, lw_77, lw_80, lw_81, lw_82, lw_83, lw_84, lw_85, lw_86, lw_87, lw_88, lw_89, ll_78, ll_79, ll_s, rc6, rc2, rc3, rc5, rc7, rc1, rc0, rc4, rcs_0, rcs_1, rcs_2, rcs_3, rcs_4, mj_ib_nI, ↓reduceIte, mj_bdK, mj_ls, mj_ln, nI_clamp, nI_add, pk_mul, mj_nIeq0, mj_nIlt0, mj_nIle0, mj_nIeq, mj_nIle, mj_nIlt, mj_ok0, mj_ok1, mj_okb, mj_b0, mj_bR, mj_bR2, Nat.reduceEqDiff, li_98, hl, hl2, e98, h0, l1, l2, l3, l4, l5, l6, hk, c1, c2, mj_lcr]
theorem mj_law_10 {len i : Nat} (hl : σ 99 0 = nI len) (hlen : len ≤ 3072) (hi : i + 6 ≤ len) (hk : σ 98 i &&& nI 63 = nI 10) (hx : mj_IX σ τ A G C) (hm : mj_IM σ τ A G C) : mj_go σ τ len i := by
  obtain ⟨v, σ1, τ1, σ2, τ2, A', G', C', c1, c2, i1, i2, e98, e99, e9⟩ := mj_bo_use2 (bo_age (a := σ 98 (i + 1)) (b := σ 98 (i + 2))) hx hm
  obtain ⟨x, rfl⟩ := mj_tyIP (List.all_eq_true.mp mj_tyI_chk 83 (by decide)) c1
  refine ⟨σ2, τ2, A', G', C', ?_, i1, i2, e9 99 (by decide)⟩
  have h0 : ¬ nI len - nI 6 < nI i := mt (mj_sub_lt6 (by omega) (by omega)).mp (by omega)
  have l1 : ¬ len ≤ i := by omega
  have l2 : ¬ len ≤ i + 1 := by omega
  have l3 : ¬ len ≤ i + 2 := by omega
  have l4 : ¬ len ≤ i + 3 := by omega
  have l5 : ¬ len ≤ i + 4 := by omega
  have l6 : ¬ len ≤ i + 5 := by omega
  have hl2 : σ1 99 0 = nI len := by rw [e99]; exact hl
  rw [e208_18]
  simp (maxSteps := 1000000) (disch := first | assumption | omega) only [↓e208_19, ↓e208_20, ↓e208_21, ↓e208_23, ↓e208_24, ↓e208_27, ↓e208_28, ↓e208_29, ↓e208_30, ↓e208_32, ↓e208_33, ↓e208_637, ↓e208_638, ↓e208_639, ↓e208_640, ↓e208_641, ↓e208_642, ↓e208_643, ↓e208_644, ↓e208_645, ↓e208_646, ↓e208_647, ↓e208_648, ↓e208_651, ↓e208_652, ↓e208_653, ↓e208_654, ↓e208_655, ↓e208_656, ↓e208_657, ↓e208_658, ↓e208_659, ↓e208_660, ↓e208_661, ↓e208_662, ↓e208_665, ↓e208_668, ↓e208_669, ↓e208_1448, ↓e208_1451, li_p0, li_p1, li_p2, li_p3, li_p4, li_p5, li_p6, li_p7, li_p8, li_p9, li_10, li_11, li_12, li_13, li_14, li_15, li_16, li_17, li_18, li_19, li_20, li_21, li_22, li_23, li_24, li_25, li_26, li_27, li_28, li_29, li_30, li_31, li_32, li_33, li_34, li_35, li_36, li_37, li_38, li_39, li_56, li_57, li_58, li_60, li_61, li_63, li_64, li_65, li_66, li_67, li_68, li_69, li_70, li_71, li_72, li_73, li_74, li_75, li_76, li_77, li_80, li_81, li_82, li_83, li_84, li_85, li_86, li_87, li_88, li_89, li_90, li_91, li_92, lw_q0, lw_q1, lw_q2, lw_q3, lw_q4, lw_q5, lw_q6, lw_q7, lw_q8, lw_q9, lw_10, lw_11, lw_12, lw_13, lw_14, lw_15, lw_16, lw_17, lw_18, lw_19, lw_20, lw_21, lw_22, lw_23, lw_24, lw_25, lw_26, lw_27, lw_28, lw_29, lw_30, lw_31, lw_32, lw_33, lw_34, lw_35, lw_36, lw_37, lw_38, lw_39, lw_56, lw_57, lw_58, lw_60, lw_61, lw_63, lw_64, lw_65, lw_66, lw_67, lw_68, lw_69, lw_70, lw_71, lw_72, lw_73, lw_74, lw_75, lw_76, lw_77, lw_80, lw_81, lw_82, lw_83, lw_84, lw_85, lw_86, lw_87, lw_88, lw_89, ll_78, ll_79, ll_s, rc6, rc2, rc3, rc5, rc7, rc1, rc0, rc4, rcs_0, rcs_1, rcs_2, rcs_3, rcs_4, mj_ib_nI, ↓reduceIte, mj_bdK, mj_ls, mj_ln, nI_clamp, nI_add, pk_mul, mj_nIeq0, mj_nIlt0, mj_nIle0, mj_nIeq, mj_nIle, mj_nIlt, mj_ok0, mj_ok1, mj_okb, mj_b0, mj_bR, mj_bR2, Nat.reduceEqDiff, li_98, hl, hl2, e98, h0, l1, l2, l3, l4, l5, l6, hk, c1, c2, mj_lcr]
theorem mj_law_11 {len i : Nat} (hl : σ 99 0 = nI len) (hlen : len ≤ 3072) (hi : i + 6 ≤ len) (hk : σ 98 i &&& nI 63 = nI 11) (hx : mj_IX σ τ A G C) (hm : mj_IM σ τ A G C) : mj_go σ τ len i := by
  obtain ⟨v, σ1, τ1, σ2, τ2, A', G', C', c1, c2, i1, i2, e98, e99, e9⟩ := mj_bo_use2 (bo_gift (a := σ 98 (i + 1)) (b := σ 98 (i + 2)) (w := σ 98 (i + 3))) hx hm
  obtain ⟨x, rfl⟩ := mj_tyIP (List.all_eq_true.mp mj_tyI_chk 84 (by decide)) c1
  refine ⟨σ2, τ2, A', G', C', ?_, i1, i2, e9 99 (by decide)⟩
  have h0 : ¬ nI len - nI 6 < nI i := mt (mj_sub_lt6 (by omega) (by omega)).mp (by omega)
  have l1 : ¬ len ≤ i := by omega
  have l2 : ¬ len ≤ i + 1 := by omega
  have l3 : ¬ len ≤ i + 2 := by omega
  have l4 : ¬ len ≤ i + 3 := by omega
  have l5 : ¬ len ≤ i + 4 := by omega
  have l6 : ¬ len ≤ i + 5 := by omega
  have hl2 : σ1 99 0 = nI len := by rw [e99]; exact hl
  rw [e208_18]
  simp (maxSteps := 1000000) (disch := first | assumption | omega) only [↓e208_19, ↓e208_20, ↓e208_21, ↓e208_23, ↓e208_24, ↓e208_27, ↓e208_28, ↓e208_29, ↓e208_30, ↓e208_32, ↓e208_33, ↓e208_670, ↓e208_671, ↓e208_672, ↓e208_673, ↓e208_674, ↓e208_675, ↓e208_676, ↓e208_677, ↓e208_678, ↓e208_679, ↓e208_680, ↓e208_681, ↓e208_682, ↓e208_683, ↓e208_684, ↓e208_685, ↓e208_686, ↓e208_689, ↓e208_690, ↓e208_691, ↓e208_692, ↓e208_693, ↓e208_694, ↓e208_695, ↓e208_696, ↓e208_697, ↓e208_698, ↓e208_699, ↓e208_700, ↓e208_701, ↓e208_702, ↓e208_703, ↓e208_704, ↓e208_705, ↓e208_708, ↓e208_711, ↓e208_712, ↓e208_1448, ↓e208_1451, li_p0, li_p1, li_p2, li_p3, li_p4, li_p5, li_p6, li_p7, li_p8, li_p9, li_10, li_11, li_12, li_13, li_14, li_15, li_16, li_17, li_18, li_19, li_20, li_21, li_22, li_23, li_24, li_25, li_26, li_27, li_28, li_29, li_30, li_31, li_32, li_33, li_34, li_35, li_36, li_37, li_38, li_39, li_56, li_57, li_58, li_60, li_61, li_63, li_64, li_65, li_66, li_67, li_68, li_69, li_70, li_71, li_72, li_73, li_74, li_75, li_76, li_77, li_80, li_81, li_82, li_83, li_84, li_85, li_86, li_87, li_88, li_89, li_90, li_91, li_92, lw_q0, lw_q1, lw_q2, lw_q3, lw_q4, lw_q5, lw_q6, lw_q7, lw_q8, lw_q9, lw_10, lw_11, lw_12, lw_13, lw_14, lw_15, lw_16, lw_17, lw_18, lw_19, lw_20, lw_21, lw_22, lw_23, lw_24, lw_25, lw_26, lw_27, lw_28, lw_29, lw_30, lw_31, lw_32, lw_33, lw_34, lw_35, lw_36, lw_37, lw_38, lw_39, lw_56, lw_57, lw_58, lw_60, lw_61, lw_63, lw_64, lw_65, lw_66, lw_67, lw_68, lw_69, lw_70, lw_71, lw_72, lw_73, lw_74, lw_75, lw_76, lw_77, lw_80, lw_81, lw_82, lw_83, lw_84, lw_85, lw_86, lw_87, lw_88, lw_89, ll_78, ll_79, ll_s, rc6, rc2, rc3, rc5, rc7, rc1, rc0, rc4, rcs_0, rcs_1, rcs_2, rcs_3, rcs_4, mj_ib_nI, ↓reduceIte, mj_bdK, mj_ls, mj_ln, nI_clamp, nI_add, pk_mul, mj_nIeq0, mj_nIlt0, mj_nIle0, mj_nIeq, mj_nIle, mj_nIlt, mj_ok0, mj_ok1, mj_okb, mj_b0, mj_bR, mj_bR2, Nat.reduceEqDiff, li_98, hl, hl2, e98, h0, l1, l2, l3, l4, l5, l6, hk, c1, c2, mj_lcr]
theorem mj_law_12 {len i : Nat} (hl : σ 99 0 = nI len) (hlen : len ≤ 3072) (hi : i + 6 ≤ len) (hk : σ 98 i &&& nI 63 = nI 12) (hx : mj_IX σ τ A G C) (hm : mj_IM σ τ A G C) : mj_go σ τ len i := by
  obtain ⟨v, σ1, τ1, σ2, τ2, A', G', C', c1, c2, i1, i2, e98, e99, e9⟩ := mj_bo_use2 (bo_grownOf (a := σ 98 (i + 1)) (b := σ 98 (i + 2))) hx hm
  obtain ⟨x, rfl⟩ := mj_tyIP (List.all_eq_true.mp mj_tyI_chk 85 (by decide)) c1
  refine ⟨σ2, τ2, A', G', C', ?_, i1, i2, e9 99 (by decide)⟩
  have h0 : ¬ nI len - nI 6 < nI i := mt (mj_sub_lt6 (by omega) (by omega)).mp (by omega)
  have l1 : ¬ len ≤ i := by omega
  have l2 : ¬ len ≤ i + 1 := by omega
  have l3 : ¬ len ≤ i + 2 := by omega
  have l4 : ¬ len ≤ i + 3 := by omega
  have l5 : ¬ len ≤ i + 4 := by omega
  have l6 : ¬ len ≤ i + 5 := by omega
  have hl2 : σ1 99 0 = nI len := by rw [e99]; exact hl
  rw [e208_18]
  simp (maxSteps := 1000000) (disch := first | assumption | omega) only [↓e208_19, ↓e208_20, ↓e208_21, ↓e208_23, ↓e208_24, ↓e208_27, ↓e208_28, ↓e208_29, ↓e208_30, ↓e208_32, ↓e208_33, ↓e208_713, ↓e208_714, ↓e208_715, ↓e208_716, ↓e208_717, ↓e208_718, ↓e208_719, ↓e208_720, ↓e208_721, ↓e208_722, ↓e208_723, ↓e208_724, ↓e208_727, ↓e208_728, ↓e208_729, ↓e208_730, ↓e208_731, ↓e208_732, ↓e208_733, ↓e208_734, ↓e208_735, ↓e208_736, ↓e208_737, ↓e208_738, ↓e208_741, ↓e208_744, ↓e208_745, ↓e208_1448, ↓e208_1451, li_p0, li_p1, li_p2, li_p3, li_p4, li_p5, li_p6, li_p7, li_p8, li_p9, li_10, li_11, li_12, li_13, li_14, li_15, li_16, li_17, li_18, li_19, li_20, li_21, li_22, li_23, li_24, li_25, li_26, li_27, li_28, li_29, li_30, li_31, li_32, li_33, li_34, li_35, li_36, li_37, li_38, li_39, li_56, li_57, li_58, li_60, li_61, li_63, li_64, li_65, li_66, li_67, li_68, li_69, li_70, li_71, li_72, li_73, li_74, li_75, li_76, li_77, li_80, li_81, li_82, li_83, li_84, li_85, li_86, li_87, li_88, li_89, li_90, li_91, li_92, lw_q0, lw_q1, lw_q2, lw_q3, lw_q4, lw_q5, lw_q6, lw_q7, lw_q8, lw_q9, lw_10, lw_11, lw_12, lw_13, lw_14, lw_15, lw_16, lw_17, lw_18, lw_19, lw_20, lw_21, lw_22, lw_23, lw_24, lw_25, lw_26, lw_27, lw_28, lw_29, lw_30, lw_31, lw_32, lw_33, lw_34, lw_35, lw_36, lw_37, lw_38, lw_39, lw_56, lw_57, lw_58, lw_60, lw_61, lw_63, lw_64, lw_65, lw_66, lw_67, lw_68, lw_69, lw_70, lw_71, lw_72, lw_73, lw_74, lw_75, lw_76, lw_77, lw_80, lw_81, lw_82, lw_83, lw_84, lw_85, lw_86, lw_87, lw_88, lw_89, ll_78, ll_79, ll_s, rc6, rc2, rc3, rc5, rc7, rc1, rc0, rc4, rcs_0, rcs_1, rcs_2, rcs_3, rcs_4, mj_ib_nI, ↓reduceIte, mj_bdK, mj_ls, mj_ln, nI_clamp, nI_add, pk_mul, mj_nIeq0, mj_nIlt0, mj_nIle0, mj_nIeq, mj_nIle, mj_nIlt, mj_ok0, mj_ok1, mj_okb, mj_b0, mj_bR, mj_bR2, Nat.reduceEqDiff, li_98, hl, hl2, e98, h0, l1, l2, l3, l4, l5, l6, hk, c1, c2, mj_lcr]
theorem mj_law_13 {len i : Nat} (hl : σ 99 0 = nI len) (hlen : len ≤ 3072) (hi : i + 6 ≤ len) (hk : σ 98 i &&& nI 63 = nI 13) (hx : mj_IX σ τ A G C) (hm : mj_IM σ τ A G C) : mj_go σ τ len i := by
  obtain ⟨v, σ1, τ1, σ2, τ2, A', G', C', c1, c2, i1, i2, e98, e99, e9⟩ := mj_bo_use2 (bo_childOf (a := σ 98 (i + 1)) (b := σ 98 (i + 2))) hx hm
  obtain ⟨x, rfl⟩ := mj_tyIP (List.all_eq_true.mp mj_tyI_chk 86 (by decide)) c1
  refine ⟨σ2, τ2, A', G', C', ?_, i1, i2, e9 99 (by decide)⟩
  have h0 : ¬ nI len - nI 6 < nI i := mt (mj_sub_lt6 (by omega) (by omega)).mp (by omega)
  have l1 : ¬ len ≤ i := by omega
  have l2 : ¬ len ≤ i + 1 := by omega
  have l3 : ¬ len ≤ i + 2 := by omega
  have l4 : ¬ len ≤ i + 3 := by omega
  have l5 : ¬ len ≤ i + 4 := by omega
  have l6 : ¬ len ≤ i + 5 := by omega
  have hl2 : σ1 99 0 = nI len := by rw [e99]; exact hl
  rw [e208_18]
  simp (maxSteps := 1000000) (disch := first | assumption | omega) only [↓e208_19, ↓e208_20, ↓e208_21, ↓e208_23, ↓e208_24, ↓e208_27, ↓e208_28, ↓e208_29, ↓e208_30, ↓e208_32, ↓e208_33, ↓e208_746, ↓e208_747, ↓e208_748, ↓e208_749, ↓e208_750, ↓e208_751, ↓e208_752, ↓e208_753, ↓e208_754, ↓e208_755, ↓e208_756, ↓e208_757, ↓e208_760, ↓e208_761, ↓e208_762, ↓e208_763, ↓e208_764, ↓e208_765, ↓e208_766, ↓e208_767, ↓e208_768, ↓e208_769, ↓e208_770, ↓e208_771, ↓e208_774, ↓e208_777, ↓e208_778, ↓e208_1448, ↓e208_1451, li_p0, li_p1, li_p2, li_p3, li_p4, li_p5, li_p6, li_p7, li_p8, li_p9, li_10, li_11, li_12, li_13, li_14, li_15, li_16, li_17, li_18, li_19, li_20, li_21, li_22, li_23, li_24, li_25, li_26, li_27, li_28, li_29, li_30, li_31, li_32, li_33, li_34, li_35, li_36, li_37, li_38, li_39, li_56, li_57, li_58, li_60, li_61, li_63, li_64, li_65, li_66, li_67, li_68, li_69, li_70, li_71, li_72, li_73, li_74, li_75, li_76, li_77, li_80, li_81, li_82, li_83, li_84, li_85, li_86, li_87, li_88, li_89, li_90, li_91, li_92, lw_q0, lw_q1, lw_q2, lw_q3, lw_q4, lw_q5, lw_q6, lw_q7, lw_q8, lw_q9, lw_10, lw_11, lw_12, lw_13, lw_14, lw_15, lw_16, lw_17, lw_18, lw_19, lw_20, lw_21, lw_22, lw_23, lw_24, lw_25, lw_26, lw_27, lw_28, lw_29, lw_30, lw_31, lw_32, lw_33, lw_34, lw_35, lw_36, lw_37, lw_38, lw_39, lw_56, lw_57, lw_58, lw_60, lw_61, lw_63, lw_64, lw_65, lw_66, lw_67, lw_68, lw_69, lw_70, lw_71, lw_72, lw_73, lw_74, lw_75, lw_76, lw_77, lw_80, lw_81, lw_82, lw_83, lw_84, lw_85, lw_86, lw_87, lw_88, lw_89, ll_78, ll_79, ll_s, rc6, rc2, rc3, rc5, rc7, rc1, rc0, rc4, rcs_0, rcs_1, rcs_2, rcs_3, rcs_4, mj_ib_nI, ↓reduceIte, mj_bdK, mj_ls, mj_ln, nI_clamp, nI_add, pk_mul, mj_nIeq0, mj_nIlt0, mj_nIle0, mj_nIeq, mj_nIle, mj_nIlt, mj_ok0, mj_ok1, mj_okb, mj_b0, mj_bR, mj_bR2, Nat.reduceEqDiff, li_98, hl, hl2, e98, h0, l1, l2, l3, l4, l5, l6, hk, c1, c2, mj_lcr]
theorem mj_law_14 {len i : Nat} (hl : σ 99 0 = nI len) (hlen : len ≤ 3072) (hi : i + 6 ≤ len) (hk : σ 98 i &&& nI 63 = nI 14) (hx : mj_IX σ τ A G C) (hm : mj_IM σ τ A G C) : mj_go σ τ len i := by
  obtain ⟨v, σ1, τ1, σ2, τ2, A', G', C', c1, c2, i1, i2, e98, e99, e9⟩ := mj_bo_use2 (bo_pull (a := σ 98 (i + 1)) (b := σ 98 (i + 2)) (w := σ 98 (i + 3))) hx hm
  obtain ⟨x, rfl⟩ := mj_tyIP (List.all_eq_true.mp mj_tyI_chk 87 (by decide)) c1
  refine ⟨σ2, τ2, A', G', C', ?_, i1, i2, e9 99 (by decide)⟩
  have h0 : ¬ nI len - nI 6 < nI i := mt (mj_sub_lt6 (by omega) (by omega)).mp (by omega)
  have l1 : ¬ len ≤ i := by omega
  have l2 : ¬ len ≤ i + 1 := by omega
  have l3 : ¬ len ≤ i + 2 := by omega
  have l4 : ¬ len ≤ i + 3 := by omega
  have l5 : ¬ len ≤ i + 4 := by omega
  have l6 : ¬ len ≤ i + 5 := by omega
  have hl2 : σ1 99 0 = nI len := by rw [e99]; exact hl
  rw [e208_18]
  simp (maxSteps := 1000000) (disch := first | assumption | omega) only [↓e208_19, ↓e208_20, ↓e208_21, ↓e208_23, ↓e208_24, ↓e208_27, ↓e208_28, ↓e208_29, ↓e208_30, ↓e208_32, ↓e208_33, ↓e208_779, ↓e208_780, ↓e208_781, ↓e208_782, ↓e208_783, ↓e208_784, ↓e208_785, ↓e208_786, ↓e208_787, ↓e208_788, ↓e208_789, ↓e208_790, ↓e208_791, ↓e208_792, ↓e208_793, ↓e208_794, ↓e208_795, ↓e208_798, ↓e208_799, ↓e208_800, ↓e208_801, ↓e208_802, ↓e208_803, ↓e208_804, ↓e208_805, ↓e208_806, ↓e208_807, ↓e208_808, ↓e208_809, ↓e208_810, ↓e208_811, ↓e208_812, ↓e208_813, ↓e208_814, ↓e208_817, ↓e208_820, ↓e208_821, ↓e208_1448, ↓e208_1451, li_p0, li_p1, li_p2, li_p3, li_p4, li_p5, li_p6, li_p7, li_p8, li_p9, li_10, li_11, li_12, li_13, li_14, li_15, li_16, li_17, li_18, li_19, li_20, li_21, li_22, li_23, li_24, li_25, li_26, li_27, li_28, li_29, li_30, li_31, li_32, li_33, li_34, li_35, li_36, li_37, li_38, li_39, li_56, li_57, li_58, li_60, li_61, li_63, li_64, li_65, li_66, li_67, li_68, li_69, li_70, li_71, li_72, li_73, li_74, li_75, li_76, li_77, li_80, li_81, li_82, li_83, li_84, li_85, li_86, li_87, li_88, li_89, li_90, li_91, li_92, lw_q0, lw_q1, lw_q2, lw_q3, lw_q4, lw_q5, lw_q6, lw_q7, lw_q8, lw_q9, lw_10, lw_11, lw_12, lw_13, lw_14, lw_15, lw_16, lw_17, lw_18, lw_19, lw_20, lw_21, lw_22, lw_23, lw_24, lw_25, lw_26, lw_27, lw_28, lw_29, lw_30, lw_31, lw_32, lw_33, lw_34, lw_35, lw_36, lw_37, lw_38, lw_39, lw_56, lw_57, lw_58, lw_60, lw_61, lw_63, lw_64, lw_65, lw_66, lw_67, lw_68, lw_69, lw_70, lw_71, lw_72, lw_73, lw_74, lw_75, lw_76, lw_77, lw_80, lw_81, lw_82, lw_83, lw_84, lw_85, lw_86, lw_87, lw_88, lw_89, ll_78, ll_79, ll_s, rc6, rc2, rc3, rc5, rc7, rc1, rc0, rc4, rcs_0, rcs_1, rcs_2, rcs_3, rcs_4, mj_ib_nI, ↓reduceIte, mj_bdK, mj_ls, mj_ln, nI_clamp, nI_add, pk_mul, mj_nIeq0, mj_nIlt0, mj_nIle0, mj_nIeq, mj_nIle, mj_nIlt, mj_ok0, mj_ok1, mj_okb, mj_b0, mj_bR, mj_bR2, Nat.reduceEqDiff, li_98, hl, hl2, e98, h0, l1, l2, l3, l4, l5, l6, hk, c1, c2, mj_lcr]
theorem mj_law_15 {len i : Nat} (hl : σ 99 0 = nI len) (hlen : len ≤ 3072) (hi : i + 6 ≤ len) (hk : σ 98 i &&& nI 63 = nI 15) (hx : mj_IX σ τ A G C) (hm : mj_IM σ τ A G C) : mj_go σ τ len i := by
  obtain ⟨v, σ1, τ1, σ2, τ2, A', G', C', c1, c2, i1, i2, e98, e99, e9⟩ := mj_bo_use2 (bo_parish (a := σ 98 (i + 1))) hx hm
  obtain ⟨x, rfl⟩ := mj_tyIP (List.all_eq_true.mp mj_tyI_chk 88 (by decide)) c1
  refine ⟨σ2, τ2, A', G', C', ?_, i1, i2, e9 99 (by decide)⟩
  have h0 : ¬ nI len - nI 6 < nI i := mt (mj_sub_lt6 (by omega) (by omega)).mp (by omega)
  have l1 : ¬ len ≤ i := by omega
  have l2 : ¬ len ≤ i + 1 := by omega
  have l3 : ¬ len ≤ i + 2 := by omega
  have l4 : ¬ len ≤ i + 3 := by omega
  have l5 : ¬ len ≤ i + 4 := by omega
  have l6 : ¬ len ≤ i + 5 := by omega
  have hl2 : σ1 99 0 = nI len := by rw [e99]; exact hl
  rw [e208_18]
  simp (maxSteps := 1000000) (disch := first | assumption | omega) only [↓e208_19, ↓e208_20, ↓e208_21, ↓e208_23, ↓e208_24, ↓e208_27, ↓e208_28, ↓e208_29, ↓e208_30, ↓e208_32, ↓e208_33, ↓e208_822, ↓e208_823, ↓e208_824, ↓e208_825, ↓e208_826, ↓e208_827, ↓e208_828, ↓e208_831, ↓e208_832, ↓e208_833, ↓e208_834, ↓e208_835, ↓e208_836, ↓e208_837, ↓e208_840, ↓e208_843, ↓e208_844, ↓e208_1448, ↓e208_1451, li_p0, li_p1, li_p2, li_p3, li_p4, li_p5, li_p6, li_p7, li_p8, li_p9, li_10, li_11, li_12, li_13, li_14, li_15, li_16, li_17, li_18, li_19, li_20, li_21, li_22, li_23, li_24, li_25, li_26, li_27, li_28, li_29, li_30, li_31, li_32, li_33, li_34, li_35, li_36, li_37, li_38, li_39, li_56, li_57, li_58, li_60, li_61, li_63, li_64, li_65, li_66, li_67, li_68, li_69, li_70, li_71, li_72, li_73, li_74, li_75, li_76, li_77, li_80, li_81, li_82, li_83, li_84, li_85, li_86, li_87, li_88, li_89, li_90, li_91, li_92, lw_q0, lw_q1, lw_q2, lw_q3, lw_q4, lw_q5, lw_q6, lw_q7, lw_q8, lw_q9, lw_10, lw_11, lw_12, lw_13, lw_14, lw_15, lw_16, lw_17, lw_18, lw_19, lw_20, lw_21, lw_22, lw_23, lw_24, lw_25, lw_26, lw_27, lw_28, lw_29, lw_30, lw_31, lw_32, lw_33, lw_34, lw_35, lw_36, lw_37, lw_38, lw_39, lw_56, lw_57, lw_58, lw_60, lw_61, lw_63, lw_64, lw_65, lw_66, lw_67, lw_68, lw_69, lw_70, lw_71, lw_72, lw_73, lw_74, lw_75, lw_76, lw_77, lw_80, lw_81, lw_82, lw_83, lw_84, lw_85, lw_86, lw_87, lw_88, lw_89, ll_78, ll_79, ll_s, rc6, rc2, rc3, rc5, rc7, rc1, rc0, rc4, rcs_0, rcs_1, rcs_2, rcs_3, rcs_4, mj_ib_nI, ↓reduceIte, mj_bdK, mj_ls, mj_ln, nI_clamp, nI_add, pk_mul, mj_nIeq0, mj_nIlt0, mj_nIle0, mj_nIeq, mj_nIle, mj_nIlt, mj_ok0, mj_ok1, mj_okb, mj_b0, mj_bR, mj_bR2, Nat.reduceEqDiff, li_98, hl, hl2, e98, h0, l1, l2, l3, l4, l5, l6, hk, c1, c2, mj_lcr]
theorem mj_law_16 {len i : Nat} (hl : σ 99 0 = nI len) (hlen : len ≤ 3072) (hi : i + 6 ≤ len) (hk : σ 98 i &&& nI 63 = nI 16) (hx : mj_IX σ τ A G C) (hm : mj_IM σ τ A G C) : mj_go σ τ len i := by
  obtain ⟨v, σ1, τ1, σ2, τ2, A', G', C', c1, c2, i1, i2, e98, e99, e9⟩ := mj_bo_use2 (bo_fault) hx hm
  obtain ⟨x, rfl⟩ := mj_tyIP (List.all_eq_true.mp mj_tyI_chk 89 (by decide)) c1
  refine ⟨σ2, τ2, A', G', C', ?_, i1, i2, e9 99 (by decide)⟩
  have h0 : ¬ nI len - nI 6 < nI i := mt (mj_sub_lt6 (by omega) (by omega)).mp (by omega)
  have l1 : ¬ len ≤ i := by omega
  have l2 : ¬ len ≤ i + 1 := by omega
  have l3 : ¬ len ≤ i + 2 := by omega
  have l4 : ¬ len ≤ i + 3 := by omega
  have l5 : ¬ len ≤ i + 4 := by omega
  have l6 : ¬ len ≤ i + 5 := by omega
  have hl2 : σ1 99 0 = nI len := by rw [e99]; exact hl
  rw [e208_18]
  simp (maxSteps := 1000000) (disch := first | assumption | omega) only [↓e208_19, ↓e208_20, ↓e208_21, ↓e208_23, ↓e208_24, ↓e208_27, ↓e208_28, ↓e208_29, ↓e208_30, ↓e208_32, ↓e208_33, ↓e208_845, ↓e208_846, ↓e208_849, ↓e208_850, ↓e208_853, ↓e208_856, ↓e208_857, ↓e208_1448, ↓e208_1451, li_p0, li_p1, li_p2, li_p3, li_p4, li_p5, li_p6, li_p7, li_p8, li_p9, li_10, li_11, li_12, li_13, li_14, li_15, li_16, li_17, li_18, li_19, li_20, li_21, li_22, li_23, li_24, li_25, li_26, li_27, li_28, li_29, li_30, li_31, li_32, li_33, li_34, li_35, li_36, li_37, li_38, li_39, li_56, li_57, li_58, li_60, li_61, li_63, li_64, li_65, li_66, li_67, li_68, li_69, li_70, li_71, li_72, li_73, li_74, li_75, li_76, li_77, li_80, li_81, li_82, li_83, li_84, li_85, li_86, li_87, li_88, li_89, li_90, li_91, li_92, lw_q0, lw_q1, lw_q2, lw_q3, lw_q4, lw_q5, lw_q6, lw_q7, lw_q8, lw_q9, lw_10, lw_11, lw_12, lw_13, lw_14, lw_15, lw_16, lw_17, lw_18, lw_19, lw_20, lw_21, lw_22, lw_23, lw_24, lw_25, lw_26, lw_27, lw_28, lw_29, lw_30, lw_31, lw_32, lw_33, lw_34, lw_35, lw_36, lw_37, lw_38, lw_39, lw_56, lw_57, lw_58, lw_60, lw_61, lw_63, lw_64, lw_65, lw_66, lw_67, lw_68, lw_69, lw_70, lw_71, lw_72, lw_73, lw_74, lw_75, lw_76, lw_77, lw_80, lw_81, lw_82, lw_83, lw_84, lw_85, lw_86, lw_87, lw_88, lw_89, ll_78, ll_79, ll_s, rc6, rc2, rc3, rc5, rc7, rc1, rc0, rc4, rcs_0, rcs_1, rcs_2, rcs_3, rcs_4, mj_ib_nI, ↓reduceIte, mj_bdK, mj_ls, mj_ln, nI_clamp, nI_add, pk_mul, mj_nIeq0, mj_nIlt0, mj_nIle0, mj_nIeq, mj_nIle, mj_nIlt, mj_ok0, mj_ok1, mj_okb, mj_b0, mj_bR, mj_bR2, Nat.reduceEqDiff, li_98, hl, hl2, e98, h0, l1, l2, l3, l4, l5, l6, hk, c1, c2, mj_lcr]
theorem mj_law_17 {len i : Nat} (hl : σ 99 0 = nI len) (hlen : len ≤ 3072) (hi : i + 6 ≤ len) (hk : σ 98 i &&& nI 63 = nI 17) (hx : mj_IX σ τ A G C) (hm : mj_IM σ τ A G C) : mj_go σ τ len i := by
  obtain ⟨v, σ1, τ1, σ2, τ2, A', G', C', c1, c2, i1, i2, e98, e99, e9⟩ := mj_bo_use2 (bo_chooses (a := σ 98 (i + 1)) (w := σ 98 (i + 2))) hx hm
  obtain ⟨x, rfl⟩ := mj_tyIP (List.all_eq_true.mp mj_tyI_chk 90 (by decide)) c1
  refine ⟨σ2, τ2, A', G', C', ?_, i1, i2, e9 99 (by decide)⟩
  have h0 : ¬ nI len - nI 6 < nI i := mt (mj_sub_lt6 (by omega) (by omega)).mp (by omega)
  have l1 : ¬ len ≤ i := by omega
  have l2 : ¬ len ≤ i + 1 := by omega
  have l3 : ¬ len ≤ i + 2 := by omega
  have l4 : ¬ len ≤ i + 3 := by omega
  have l5 : ¬ len ≤ i + 4 := by omega
  have l6 : ¬ len ≤ i + 5 := by omega
  have hl2 : σ1 99 0 = nI len := by rw [e99]; exact hl
  rw [e208_18]
  simp (maxSteps := 1000000) (disch := first | assumption | omega) only [↓e208_19, ↓e208_20, ↓e208_21, ↓e208_23, ↓e208_24, ↓e208_27, ↓e208_28, ↓e208_29, ↓e208_30, ↓e208_32, ↓e208_33, ↓e208_858, ↓e208_859, ↓e208_860, ↓e208_861, ↓e208_862, ↓e208_863, ↓e208_864, ↓e208_865, ↓e208_866, ↓e208_867, ↓e208_868, ↓e208_869, ↓e208_872, ↓e208_873, ↓e208_874, ↓e208_875, ↓e208_876, ↓e208_877, ↓e208_878, ↓e208_879, ↓e208_880, ↓e208_881, ↓e208_882, ↓e208_883, ↓e208_886, ↓e208_889, ↓e208_890, ↓e208_1448, ↓e208_1451, li_p0, li_p1, li_p2, li_p3, li_p4, li_p5, li_p6, li_p7, li_p8, li_p9, li_10, li_11, li_12, li_13, li_14, li_15, li_16, li_17, li_18, li_19, li_20, li_21, li_22, li_23, li_24, li_25, li_26, li_27, li_28, li_29, li_30, li_31, li_32, li_33, li_34, li_35, li_36, li_37, li_38, li_39, li_56, li_57, li_58, li_60, li_61, li_63, li_64, li_65, li_66, li_67, li_68, li_69, li_70, li_71, li_72, li_73, li_74, li_75, li_76, li_77, li_80, li_81, li_82, li_83, li_84, li_85, li_86, li_87, li_88, li_89, li_90, li_91, li_92, lw_q0, lw_q1, lw_q2, lw_q3, lw_q4, lw_q5, lw_q6, lw_q7, lw_q8, lw_q9, lw_10, lw_11, lw_12, lw_13, lw_14, lw_15, lw_16, lw_17, lw_18, lw_19, lw_20, lw_21, lw_22, lw_23, lw_24, lw_25, lw_26, lw_27, lw_28, lw_29, lw_30, lw_31, lw_32, lw_33, lw_34, lw_35, lw_36, lw_37, lw_38, lw_39, lw_56, lw_57, lw_58, lw_60, lw_61, lw_63, lw_64, lw_65, lw_66, lw_67, lw_68, lw_69, lw_70, lw_71, lw_72, lw_73, lw_74, lw_75, lw_76, lw_77, lw_80, lw_81, lw_82, lw_83, lw_84, lw_85, lw_86, lw_87, lw_88, lw_89, ll_78, ll_79, ll_s, rc6, rc2, rc3, rc5, rc7, rc1, rc0, rc4, rcs_0, rcs_1, rcs_2, rcs_3, rcs_4, mj_ib_nI, ↓reduceIte, mj_bdK, mj_ls, mj_ln, nI_clamp, nI_add, pk_mul, mj_nIeq0, mj_nIlt0, mj_nIle0, mj_nIeq, mj_nIle, mj_nIlt, mj_ok0, mj_ok1, mj_okb, mj_b0, mj_bR, mj_bR2, Nat.reduceEqDiff, li_98, hl, hl2, e98, h0, l1, l2, l3, l4, l5, l6, hk, c1, c2, mj_lcr]
theorem mj_law_18 {len i : Nat} (hl : σ 99 0 = nI len) (hlen : len ≤ 3072) (hi : i + 6 ≤ len) (hk : σ 98 i &&& nI 63 = nI 18) (hx : mj_IX σ τ A G C) (hm : mj_IM σ τ A G C) : mj_go σ τ len i := by
  obtain ⟨v, σ1, τ1, σ2, τ2, A', G', C', c1, c2, i1, i2, e98, e99, e9⟩ := mj_bo_use2 (bo_by (a := σ 98 (i + 1)) (w := σ 98 (i + 2))) hx hm
  obtain ⟨x, rfl⟩ := mj_tyIP (List.all_eq_true.mp mj_tyI_chk 91 (by decide)) c1
  refine ⟨σ2, τ2, A', G', C', ?_, i1, i2, e9 99 (by decide)⟩
  have h0 : ¬ nI len - nI 6 < nI i := mt (mj_sub_lt6 (by omega) (by omega)).mp (by omega)
  have l1 : ¬ len ≤ i := by omega
  have l2 : ¬ len ≤ i + 1 := by omega
  have l3 : ¬ len ≤ i + 2 := by omega
  have l4 : ¬ len ≤ i + 3 := by omega
  have l5 : ¬ len ≤ i + 4 := by omega
  have l6 : ¬ len ≤ i + 5 := by omega
  have hl2 : σ1 99 0 = nI len := by rw [e99]; exact hl
  rw [e208_18]
  simp (maxSteps := 1000000) (disch := first | assumption | omega) only [↓e208_19, ↓e208_20, ↓e208_21, ↓e208_23, ↓e208_24, ↓e208_27, ↓e208_28, ↓e208_29, ↓e208_30, ↓e208_32, ↓e208_33, ↓e208_891, ↓e208_892, ↓e208_893, ↓e208_894, ↓e208_895, ↓e208_896, ↓e208_897, ↓e208_898, ↓e208_899, ↓e208_900, ↓e208_901, ↓e208_902, ↓e208_905, ↓e208_906, ↓e208_907, ↓e208_908, ↓e208_909, ↓e208_910, ↓e208_911, ↓e208_912, ↓e208_913, ↓e208_914, ↓e208_915, ↓e208_916, ↓e208_919, ↓e208_922, ↓e208_923, ↓e208_1448, ↓e208_1451, li_p0, li_p1, li_p2, li_p3, li_p4, li_p5, li_p6, li_p7, li_p8, li_p9, li_10, li_11, li_12, li_13, li_14, li_15, li_16, li_17, li_18, li_19, li_20, li_21, li_22, li_23, li_24, li_25, li_26, li_27, li_28, li_29, li_30, li_31, li_32, li_33, li_34, li_35, li_36, li_37, li_38, li_39, li_56, li_57, li_58, li_60, li_61, li_63, li_64, li_65, li_66, li_67, li_68, li_69, li_70, li_71, li_72, li_73, li_74, li_75, li_76, li_77, li_80, li_81, li_82, li_83, li_84, li_85, li_86, li_87, li_88, li_89, li_90, li_91, li_92, lw_q0, lw_q1, lw_q2, lw_q3, lw_q4, lw_q5, lw_q6, lw_q7, lw_q8, lw_q9, lw_10, lw_11, lw_12, lw_13, lw_14, lw_15, lw_16, lw_17, lw_18, lw_19, lw_20, lw_21, lw_22, lw_23, lw_24, lw_25, lw_26, lw_27, lw_28, lw_29, lw_30, lw_31, lw_32, lw_33, lw_34, lw_35, lw_36, lw_37, lw_38, lw_39, lw_56, lw_57, lw_58, lw_60, lw_61, lw_63, lw_64, lw_65, lw_66, lw_67, lw_68, lw_69, lw_70, lw_71, lw_72, lw_73, lw_74, lw_75, lw_76, lw_77, lw_80, lw_81, lw_82, lw_83, lw_84, lw_85, lw_86, lw_87, lw_88, lw_89, ll_78, ll_79, ll_s, rc6, rc2, rc3, rc5, rc7, rc1, rc0, rc4, rcs_0, rcs_1, rcs_2, rcs_3, rcs_4, mj_ib_nI, ↓reduceIte, mj_bdK, mj_ls, mj_ln, nI_clamp, nI_add, pk_mul, mj_nIeq0, mj_nIlt0, mj_nIle0, mj_nIeq, mj_nIle, mj_nIlt, mj_ok0, mj_ok1, mj_okb, mj_b0, mj_bR, mj_bR2, Nat.reduceEqDiff, li_98, hl, hl2, e98, h0, l1, l2, l3, l4, l5, l6, hk, c1, c2, mj_lcr]
theorem mj_law_19 {len i : Nat} (hl : σ 99 0 = nI len) (hlen : len ≤ 3072) (hi : i + 6 ≤ len) (hk : σ 98 i &&& nI 63 = nI 19) (hx : mj_IX σ τ A G C) (hm : mj_IM σ τ A G C) : mj_go σ τ len i := by
  obtain ⟨v, σ1, τ1, σ2, τ2, A', G', C', c1, c2, i1, i2, e98, e99, e9⟩ := mj_bo_use2 (bo_favourite (w := σ 98 (i + 1))) hx hm
  obtain ⟨x, rfl⟩ := mj_tyIP (List.all_eq_true.mp mj_tyI_chk 92 (by decide)) c1
  refine ⟨σ2, τ2, A', G', C', ?_, i1, i2, e9 99 (by decide)⟩
  have h0 : ¬ nI len - nI 6 < nI i := mt (mj_sub_lt6 (by omega) (by omega)).mp (by omega)
  have l1 : ¬ len ≤ i := by omega
  have l2 : ¬ len ≤ i + 1 := by omega
  have l3 : ¬ len ≤ i + 2 := by omega
  have l4 : ¬ len ≤ i + 3 := by omega
  have l5 : ¬ len ≤ i + 4 := by omega
  have l6 : ¬ len ≤ i + 5 := by omega
  have hl2 : σ1 99 0 = nI len := by rw [e99]; exact hl
  rw [e208_18]
  simp (maxSteps := 1000000) (disch := first | assumption | omega) only [↓e208_19, ↓e208_20, ↓e208_21, ↓e208_23, ↓e208_24, ↓e208_27, ↓e208_28, ↓e208_29, ↓e208_30, ↓e208_32, ↓e208_33, ↓e208_924, ↓e208_925, ↓e208_926, ↓e208_927, ↓e208_928, ↓e208_929, ↓e208_930, ↓e208_933, ↓e208_934, ↓e208_935, ↓e208_936, ↓e208_937, ↓e208_938, ↓e208_939, ↓e208_942, ↓e208_945, ↓e208_946, ↓e208_1448, ↓e208_1451, li_p0, li_p1, li_p2, li_p3, li_p4, li_p5, li_p6, li_p7, li_p8, li_p9, li_10, li_11, li_12, li_13, li_14, li_15, li_16, li_17, li_18, li_19, li_20, li_21, li_22, li_23, li_24, li_25, li_26, li_27, li_28, li_29, li_30, li_31, li_32, li_33, li_34, li_35, li_36, li_37, li_38, li_39, li_56, li_57, li_58, li_60, li_61, li_63, li_64, li_65, li_66, li_67, li_68, li_69, li_70, li_71, li_72, li_73, li_74, li_75, li_76, li_77, li_80, li_81, li_82, li_83, li_84, li_85, li_86, li_87, li_88, li_89, li_90, li_91, li_92, lw_q0, lw_q1, lw_q2, lw_q3, lw_q4, lw_q5, lw_q6, lw_q7, lw_q8, lw_q9, lw_10, lw_11, lw_12, lw_13, lw_14, lw_15, lw_16, lw_17, lw_18, lw_19, lw_20, lw_21, lw_22, lw_23, lw_24, lw_25, lw_26, lw_27, lw_28, lw_29, lw_30, lw_31, lw_32, lw_33, lw_34, lw_35, lw_36, lw_37, lw_38, lw_39, lw_56, lw_57, lw_58, lw_60, lw_61, lw_63, lw_64, lw_65, lw_66, lw_67, lw_68, lw_69, lw_70, lw_71, lw_72, lw_73, lw_74, lw_75, lw_76, lw_77, lw_80, lw_81, lw_82, lw_83, lw_84, lw_85, lw_86, lw_87, lw_88, lw_89, ll_78, ll_79, ll_s, rc6, rc2, rc3, rc5, rc7, rc1, rc0, rc4, rcs_0, rcs_1, rcs_2, rcs_3, rcs_4, mj_ib_nI, ↓reduceIte, mj_bdK, mj_ls, mj_ln, nI_clamp, nI_add, pk_mul, mj_nIeq0, mj_nIlt0, mj_nIle0, mj_nIeq, mj_nIle, mj_nIlt, mj_ok0, mj_ok1, mj_okb, mj_b0, mj_bR, mj_bR2, Nat.reduceEqDiff, li_98, hl, hl2, e98, h0, l1, l2, l3, l4, l5, l6, hk, c1, c2, mj_lcr]
theorem mj_law_20 {len i : Nat} (hl : σ 99 0 = nI len) (hlen : len ≤ 3072) (hi : i + 6 ≤ len) (hk : σ 98 i &&& nI 63 = nI 20) (hx : mj_IX σ τ A G C) (hm : mj_IM σ τ A G C) : mj_go σ τ len i := by
  obtain ⟨v, σ1, τ1, σ2, τ2, A', G', C', c1, c2, i1, i2, e98, e99, e9⟩ := mj_bo_use2 (bo_picks (a := σ 98 (i + 1))) hx hm
  obtain ⟨x, rfl⟩ := mj_tyIP (List.all_eq_true.mp mj_tyI_chk 93 (by decide)) c1
  refine ⟨σ2, τ2, A', G', C', ?_, i1, i2, e9 99 (by decide)⟩
  have h0 : ¬ nI len - nI 6 < nI i := mt (mj_sub_lt6 (by omega) (by omega)).mp (by omega)
  have l1 : ¬ len ≤ i := by omega
  have l2 : ¬ len ≤ i + 1 := by omega
  have l3 : ¬ len ≤ i + 2 := by omega
  have l4 : ¬ len ≤ i + 3 := by omega
  have l5 : ¬ len ≤ i + 4 := by omega
  have l6 : ¬ len ≤ i + 5 := by omega
  have hl2 : σ1 99 0 = nI len := by rw [e99]; exact hl
  rw [e208_18]
  simp (maxSteps := 1000000) (disch := first | assumption | omega) only [↓e208_19, ↓e208_20, ↓e208_21, ↓e208_23, ↓e208_24, ↓e208_27, ↓e208_28, ↓e208_29, ↓e208_30, ↓e208_32, ↓e208_33, ↓e208_947, ↓e208_948, ↓e208_949, ↓e208_950, ↓e208_951, ↓e208_952, ↓e208_953, ↓e208_956, ↓e208_957, ↓e208_958, ↓e208_959, ↓e208_960, ↓e208_961, ↓e208_962, ↓e208_965, ↓e208_968, ↓e208_969, ↓e208_1448, ↓e208_1451, li_p0, li_p1, li_p2, li_p3, li_p4, li_p5, li_p6, li_p7, li_p8, li_p9, li_10, li_11, li_12, li_13, li_14, li_15, li_16, li_17, li_18, li_19, li_20, li_21, li_22, li_23, li_24, li_25, li_26, li_27, li_28, li_29, li_30, li_31, li_32, li_33, li_34, li_35, li_36, li_37, li_38, li_39, li_56, li_57, li_58, li_60, li_61, li_63, li_64, li_65, li_66, li_67, li_68, li_69, li_70, li_71, li_72, li_73, li_74, li_75, li_76, li_77, li_80, li_81, li_82, li_83, li_84, li_85, li_86, li_87, li_88, li_89, li_90, li_91, li_92, lw_q0, lw_q1, lw_q2, lw_q3, lw_q4, lw_q5, lw_q6, lw_q7, lw_q8, lw_q9, lw_10, lw_11, lw_12, lw_13, lw_14, lw_15, lw_16, lw_17, lw_18, lw_19, lw_20, lw_21, lw_22, lw_23, lw_24, lw_25, lw_26, lw_27, lw_28, lw_29, lw_30, lw_31, lw_32, lw_33, lw_34, lw_35, lw_36, lw_37, lw_38, lw_39, lw_56, lw_57, lw_58, lw_60, lw_61, lw_63, lw_64, lw_65, lw_66, lw_67, lw_68, lw_69, lw_70, lw_71, lw_72, lw_73, lw_74, lw_75, lw_76, lw_77, lw_80, lw_81, lw_82, lw_83, lw_84, lw_85, lw_86, lw_87, lw_88, lw_89, ll_78, ll_79, ll_s, rc6, rc2, rc3, rc5, rc7, rc1, rc0, rc4, rcs_0, rcs_1, rcs_2, rcs_3, rcs_4, mj_ib_nI, ↓reduceIte, mj_bdK, mj_ls, mj_ln, nI_clamp, nI_add, pk_mul, mj_nIeq0, mj_nIlt0, mj_nIle0, mj_nIeq, mj_nIle, mj_nIlt, mj_ok0, mj_ok1, mj_okb, mj_b0, mj_bR, mj_bR2, Nat.reduceEqDiff, li_98, hl, hl2, e98, h0, l1, l2, l3, l4, l5, l6, hk, c1, c2, mj_lcr]
theorem mj_law_21 {len i : Nat} (hl : σ 99 0 = nI len) (hlen : len ≤ 3072) (hi : i + 6 ≤ len) (hk : σ 98 i &&& nI 63 = nI 21) (hx : mj_IX σ τ A G C) (hm : mj_IM σ τ A G C) : mj_go σ τ len i := by
  obtain ⟨v, σ1, τ1, σ2, τ2, A', G', C', c1, c2, i1, i2, e98, e99, e9⟩ := mj_bo_use2 (bo_woo (a := σ 98 (i + 1)) (b := σ 98 (i + 2)) (w := σ 98 (i + 3))) hx hm
  obtain ⟨x, rfl⟩ := mj_tyIP (List.all_eq_true.mp mj_tyI_chk 94 (by decide)) c1
  refine ⟨σ2, τ2, A', G', C', ?_, i1, i2, e9 99 (by decide)⟩
  have h0 : ¬ nI len - nI 6 < nI i := mt (mj_sub_lt6 (by omega) (by omega)).mp (by omega)
  have l1 : ¬ len ≤ i := by omega
  have l2 : ¬ len ≤ i + 1 := by omega
  have l3 : ¬ len ≤ i + 2 := by omega
  have l4 : ¬ len ≤ i + 3 := by omega
  have l5 : ¬ len ≤ i + 4 := by omega
  have l6 : ¬ len ≤ i + 5 := by omega
  have hl2 : σ1 99 0 = nI len := by rw [e99]; exact hl
  rw [e208_18]
  simp (maxSteps := 1000000) (disch := first | assumption | omega) only [↓e208_19, ↓e208_20, ↓e208_21, ↓e208_23, ↓e208_24, ↓e208_27, ↓e208_28, ↓e208_29, ↓e208_30, ↓e208_32, ↓e208_33, ↓e208_970, ↓e208_971, ↓e208_972, ↓e208_973, ↓e208_974, ↓e208_975, ↓e208_976, ↓e208_977, ↓e208_978, ↓e208_979, ↓e208_980, ↓e208_981, ↓e208_982, ↓e208_983, ↓e208_984, ↓e208_985, ↓e208_986, ↓e208_989, ↓e208_990, ↓e208_991, ↓e208_992, ↓e208_993, ↓e208_994, ↓e208_995, ↓e208_996, ↓e208_997, ↓e208_998, ↓e208_999, ↓e208_1000, ↓e208_1001, ↓e208_1002, ↓e208_1003, ↓e208_1004, ↓e208_1005, ↓e208_1008, ↓e208_1011, ↓e208_1012, ↓e208_1448, ↓e208_1451, li_p0, li_p1, li_p2, li_p3, li_p4, li_p5, li_p6, li_p7, li_p8, li_p9, li_10, li_11, li_12, li_13, li_14, li_15, li_16, li_17, li_18, li_19, li_20, li_21, li_22, li_23, li_24, li_25, li_26, li_27, li_28, li_29, li_30, li_31, li_32, li_33, li_34, li_35, li_36, li_37, li_38, li_39, li_56, li_57, li_58, li_60, li_61, li_63, li_64, li_65, li_66, li_67, li_68, li_69, li_70, li_71, li_72, li_73, li_74, li_75, li_76, li_77, li_80, li_81, li_82, li_83, li_84, li_85, li_86, li_87, li_88, li_89, li_90, li_91, li_92, lw_q0, lw_q1, lw_q2, lw_q3, lw_q4, lw_q5, lw_q6, lw_q7, lw_q8, lw_q9, lw_10, lw_11, lw_12, lw_13, lw_14, lw_15, lw_16, lw_17, lw_18, lw_19, lw_20, lw_21, lw_22, lw_23, lw_24, lw_25, lw_26, lw_27, lw_28, lw_29, lw_30, lw_31, lw_32, lw_33, lw_34, lw_35, lw_36, lw_37, lw_38, lw_39, lw_56, lw_57, lw_58, lw_60, lw_61, lw_63, lw_64, lw_65, lw_66, lw_67, lw_68, lw_69, lw_70, lw_71, lw_72, lw_73, lw_74, lw_75, lw_76, lw_77, lw_80, lw_81, lw_82, lw_83, lw_84, lw_85, lw_86, lw_87, lw_88, lw_89, ll_78, ll_79, ll_s, rc6, rc2, rc3, rc5, rc7, rc1, rc0, rc4, rcs_0, rcs_1, rcs_2, rcs_3, rcs_4, mj_ib_nI, ↓reduceIte, mj_bdK, mj_ls, mj_ln, nI_clamp, nI_add, pk_mul, mj_nIeq0, mj_nIlt0, mj_nIle0, mj_nIeq, mj_nIle, mj_nIlt, mj_ok0, mj_ok1, mj_okb, mj_b0, mj_bR, mj_bR2, Nat.reduceEqDiff, li_98, hl, hl2, e98, h0, l1, l2, l3, l4, l5, l6, hk, c1, c2, mj_lcr]
theorem mj_law_22 {len i : Nat} (hl : σ 99 0 = nI len) (hlen : len ≤ 3072) (hi : i + 6 ≤ len) (hk : σ 98 i &&& nI 63 = nI 22) (hx : mj_IX σ τ A G C) (hm : mj_IM σ τ A G C) : mj_go σ τ len i := by
  obtain ⟨v, σ1, τ1, σ2, τ2, A', G', C', c1, c2, i1, i2, e98, e99, e9⟩ := mj_bo_use2 (bo_two (a := σ 98 (i + 1)) (b := σ 98 (i + 2)) (e := σ 98 (i + 3)) (w := σ 98 (i + 4))) hx hm
  obtain ⟨x, rfl⟩ := mj_tyIP (List.all_eq_true.mp mj_tyI_chk 95 (by decide)) c1
  refine ⟨σ2, τ2, A', G', C', ?_, i1, i2, e9 99 (by decide)⟩
  have h0 : ¬ nI len - nI 6 < nI i := mt (mj_sub_lt6 (by omega) (by omega)).mp (by omega)
  have l1 : ¬ len ≤ i := by omega
  have l2 : ¬ len ≤ i + 1 := by omega
  have l3 : ¬ len ≤ i + 2 := by omega
  have l4 : ¬ len ≤ i + 3 := by omega
  have l5 : ¬ len ≤ i + 4 := by omega
  have l6 : ¬ len ≤ i + 5 := by omega
  have hl2 : σ1 99 0 = nI len := by rw [e99]; exact hl
  rw [e208_18]
  simp (maxSteps := 1000000) (disch := first | assumption | omega) only [↓e208_19, ↓e208_20, ↓e208_21, ↓e208_23, ↓e208_24, ↓e208_27, ↓e208_28, ↓e208_29, ↓e208_30, ↓e208_32, ↓e208_33, ↓e208_1013, ↓e208_1014, ↓e208_1015, ↓e208_1016, ↓e208_1017, ↓e208_1018, ↓e208_1019, ↓e208_1020, ↓e208_1021, ↓e208_1022, ↓e208_1023, ↓e208_1024, ↓e208_1025, ↓e208_1026, ↓e208_1027, ↓e208_1028, ↓e208_1029, ↓e208_1030, ↓e208_1031, ↓e208_1032, ↓e208_1033, ↓e208_1034, ↓e208_1037, ↓e208_1038, ↓e208_1039, ↓e208_1040, ↓e208_1041, ↓e208_1042, ↓e208_1043, ↓e208_1044, ↓e208_1045, ↓e208_1046, ↓e208_1047, ↓e208_1048, ↓e208_1049, ↓e208_1050, ↓e208_1051, ↓e208_1052, ↓e208_1053, ↓e208_1054, ↓e208_1055, ↓e208_1056, ↓e208_1057, ↓e208_1058, ↓e208_1061, ↓e208_1064, ↓e208_1065, ↓e208_1448, ↓e208_1451, li_p0, li_p1, li_p2, li_p3, li_p4, li_p5, li_p6, li_p7, li_p8, li_p9, li_10, li_11, li_12, li_13, li_14, li_15, li_16, li_17, li_18, li_19, li_20, li_21, li_22, li_23, li_24, li_25, li_26, li_27, li_28, li_29, li_30, li_31, li_32, li_33, li_34, li_35, li_36, li_37, li_38, li_39, li_56, li_57, li_58, li_60, li_61, li_63, li_64, li_65, li_66, li_67, li_68, li_69, li_70, li_71, li_72, li_73, li_74, li_75, li_76, li_77, li_80, li_81, li_82, li_83, li_84, li_85, li_86, li_87, li_88, li_89, li_90, li_91, li_92, lw_q0, lw_q1, lw_q2, lw_q3, lw_q4, lw_q5, lw_q6, lw_q7, lw_q8, lw_q9, lw_10, lw_11, lw_12, lw_13, lw_14, lw_15, lw_16, lw_17, lw_18, lw_19, lw_20, lw_21, lw_22, lw_23, lw_24, lw_25, lw_26, lw_27, lw_28, lw_29, lw_30, lw_31, lw_32, lw_33, lw_34, lw_35, lw_36, lw_37, lw_38, lw_39, lw_56, lw_57, lw_58, lw_60, lw_61, lw_63, lw_64, lw_65, lw_66, lw_67, lw_68, lw_69, lw_70, lw_71, lw_72, lw_73, lw_74, lw_75, lw_76, lw_77, lw_80, lw_81, lw_82, lw_83, lw_84, lw_85, lw_86, lw_87, lw_88, lw_89, ll_78, ll_79, ll_s, rc6, rc2, rc3, rc5, rc7, rc1, rc0, rc4, rcs_0, rcs_1, rcs_2, rcs_3, rcs_4, mj_ib_nI, ↓reduceIte, mj_bdK, mj_ls, mj_ln, nI_clamp, nI_add, pk_mul, mj_nIeq0, mj_nIlt0, mj_nIle0, mj_nIeq, mj_nIle, mj_nIlt, mj_ok0, mj_ok1, mj_okb, mj_b0, mj_bR, mj_bR2, Nat.reduceEqDiff, li_98, hl, hl2, e98, h0, l1, l2, l3, l4, l5, l6, hk, c1, c2, mj_lcr]
theorem mj_law_23 {len i : Nat} (hl : σ 99 0 = nI len) (hlen : len ≤ 3072) (hi : i + 6 ≤ len) (hk : σ 98 i &&& nI 63 = nI 23) (hx : mj_IX σ τ A G C) (hm : mj_IM σ τ A G C) : mj_go σ τ len i := by
  obtain ⟨v, σ1, τ1, σ2, τ2, A', G', C', c1, c2, i1, i2, e98, e99, e9⟩ := mj_bo_use2 (bo_tastes (a := σ 98 (i + 1)) (b := σ 98 (i + 2)) (d := σ 98 (i + 3)) (e := σ 98 (i + 4))) hx hm
  obtain ⟨x, rfl⟩ := mj_tyIP (List.all_eq_true.mp mj_tyI_chk 97 (by decide)) c1
  refine ⟨σ2, τ2, A', G', C', ?_, i1, i2, e9 99 (by decide)⟩
  have h0 : ¬ nI len - nI 6 < nI i := mt (mj_sub_lt6 (by omega) (by omega)).mp (by omega)
  have l1 : ¬ len ≤ i := by omega
  have l2 : ¬ len ≤ i + 1 := by omega
  have l3 : ¬ len ≤ i + 2 := by omega
  have l4 : ¬ len ≤ i + 3 := by omega
  have l5 : ¬ len ≤ i + 4 := by omega
  have l6 : ¬ len ≤ i + 5 := by omega
  have hl2 : σ1 99 0 = nI len := by rw [e99]; exact hl
  rw [e208_18]
  simp (maxSteps := 1000000) (disch := first | assumption | omega) only [↓e208_19, ↓e208_20, ↓e208_21, ↓e208_23, ↓e208_24, ↓e208_27, ↓e208_28, ↓e208_29, ↓e208_30, ↓e208_32, ↓e208_33, ↓e208_1066, ↓e208_1067, ↓e208_1068, ↓e208_1069, ↓e208_1070, ↓e208_1071, ↓e208_1072, ↓e208_1073, ↓e208_1074, ↓e208_1075, ↓e208_1076, ↓e208_1077, ↓e208_1078, ↓e208_1079, ↓e208_1080, ↓e208_1081, ↓e208_1082, ↓e208_1083, ↓e208_1084, ↓e208_1085, ↓e208_1086, ↓e208_1087, ↓e208_1090, ↓e208_1091, ↓e208_1092, ↓e208_1093, ↓e208_1094, ↓e208_1095, ↓e208_1096, ↓e208_1097, ↓e208_1098, ↓e208_1099, ↓e208_1100, ↓e208_1101, ↓e208_1102, ↓e208_1103, ↓e208_1104, ↓e208_1105, ↓e208_1106, ↓e208_1107, ↓e208_1108, ↓e208_1109, ↓e208_1110, ↓e208_1111, ↓e208_1114, ↓e208_1117, ↓e208_1118, ↓e208_1448, ↓e208_1451, li_p0, li_p1, li_p2, li_p3, li_p4, li_p5, li_p6, li_p7, li_p8, li_p9, li_10, li_11, li_12, li_13, li_14, li_15, li_16, li_17, li_18, li_19, li_20, li_21, li_22, li_23, li_24, li_25, li_26, li_27, li_28, li_29, li_30, li_31, li_32, li_33, li_34, li_35, li_36, li_37, li_38, li_39, li_56, li_57, li_58, li_60, li_61, li_63, li_64, li_65, li_66, li_67, li_68, li_69, li_70, li_71, li_72, li_73, li_74, li_75, li_76, li_77, li_80, li_81, li_82, li_83, li_84, li_85, li_86, li_87, li_88, li_89, li_90, li_91, li_92, lw_q0, lw_q1, lw_q2, lw_q3, lw_q4, lw_q5, lw_q6, lw_q7, lw_q8, lw_q9, lw_10, lw_11, lw_12, lw_13, lw_14, lw_15, lw_16, lw_17, lw_18, lw_19, lw_20, lw_21, lw_22, lw_23, lw_24, lw_25, lw_26, lw_27, lw_28, lw_29, lw_30, lw_31, lw_32, lw_33, lw_34, lw_35, lw_36, lw_37, lw_38, lw_39, lw_56, lw_57, lw_58, lw_60, lw_61, lw_63, lw_64, lw_65, lw_66, lw_67, lw_68, lw_69, lw_70, lw_71, lw_72, lw_73, lw_74, lw_75, lw_76, lw_77, lw_80, lw_81, lw_82, lw_83, lw_84, lw_85, lw_86, lw_87, lw_88, lw_89, ll_78, ll_79, ll_s, rc6, rc2, rc3, rc5, rc7, rc1, rc0, rc4, rcs_0, rcs_1, rcs_2, rcs_3, rcs_4, mj_ib_nI, ↓reduceIte, mj_bdK, mj_ls, mj_ln, nI_clamp, nI_add, pk_mul, mj_nIeq0, mj_nIlt0, mj_nIle0, mj_nIeq, mj_nIle, mj_nIlt, mj_ok0, mj_ok1, mj_okb, mj_b0, mj_bR, mj_bR2, Nat.reduceEqDiff, li_98, hl, hl2, e98, h0, l1, l2, l3, l4, l5, l6, hk, c1, c2, mj_lcr]
theorem mj_law_24 {len i : Nat} (hl : σ 99 0 = nI len) (hlen : len ≤ 3072) (hi : i + 6 ≤ len) (hk : σ 98 i &&& nI 63 = nI 24) (hx : mj_IX σ τ A G C) (hm : mj_IM σ τ A G C) : mj_go σ τ len i := by
  obtain ⟨v, σ1, τ1, σ2, τ2, A', G', C', c1, c2, i1, i2, e98, e99, e9⟩ := mj_bo_use2 (bo_trades (w := σ 98 (i + 1))) hx hm
  obtain ⟨x, rfl⟩ := mj_tyIP (List.all_eq_true.mp mj_tyI_chk 98 (by decide)) c1
  refine ⟨σ2, τ2, A', G', C', ?_, i1, i2, e9 99 (by decide)⟩
  have h0 : ¬ nI len - nI 6 < nI i := mt (mj_sub_lt6 (by omega) (by omega)).mp (by omega)
  have l1 : ¬ len ≤ i := by omega
  have l2 : ¬ len ≤ i + 1 := by omega
  have l3 : ¬ len ≤ i + 2 := by omega
  have l4 : ¬ len ≤ i + 3 := by omega
  have l5 : ¬ len ≤ i + 4 := by omega
  have l6 : ¬ len ≤ i + 5 := by omega
  have hl2 : σ1 99 0 = nI len := by rw [e99]; exact hl
  rw [e208_18]
  simp (maxSteps := 1000000) (disch := first | assumption | omega) only [↓e208_19, ↓e208_20, ↓e208_21, ↓e208_23, ↓e208_24, ↓e208_27, ↓e208_28, ↓e208_29, ↓e208_30, ↓e208_32, ↓e208_33, ↓e208_1119, ↓e208_1120, ↓e208_1121, ↓e208_1122, ↓e208_1123, ↓e208_1124, ↓e208_1125, ↓e208_1128, ↓e208_1129, ↓e208_1130, ↓e208_1131, ↓e208_1132, ↓e208_1133, ↓e208_1134, ↓e208_1137, ↓e208_1140, ↓e208_1141, ↓e208_1448, ↓e208_1451, li_p0, li_p1, li_p2, li_p3, li_p4, li_p5, li_p6, li_p7, li_p8, li_p9, li_10, li_11, li_12, li_13, li_14, li_15, li_16, li_17, li_18, li_19, li_20, li_21, li_22, li_23, li_24, li_25, li_26, li_27, li_28, li_29, li_30, li_31, li_32, li_33, li_34, li_35, li_36, li_37, li_38, li_39, li_56, li_57, li_58, li_60, li_61, li_63, li_64, li_65, li_66, li_67, li_68, li_69, li_70, li_71, li_72, li_73, li_74, li_75, li_76, li_77, li_80, li_81, li_82, li_83, li_84, li_85, li_86, li_87, li_88, li_89, li_90, li_91, li_92, lw_q0, lw_q1, lw_q2, lw_q3, lw_q4, lw_q5, lw_q6, lw_q7, lw_q8, lw_q9, lw_10, lw_11, lw_12, lw_13, lw_14, lw_15, lw_16, lw_17, lw_18, lw_19, lw_20, lw_21, lw_22, lw_23, lw_24, lw_25, lw_26, lw_27, lw_28, lw_29, lw_30, lw_31, lw_32, lw_33, lw_34, lw_35, lw_36, lw_37, lw_38, lw_39, lw_56, lw_57, lw_58, lw_60, lw_61, lw_63, lw_64, lw_65, lw_66, lw_67, lw_68, lw_69, lw_70, lw_71, lw_72, lw_73, lw_74, lw_75, lw_76, lw_77, lw_80, lw_81, lw_82, lw_83, lw_84, lw_85, lw_86, lw_87, lw_88, lw_89, ll_78, ll_79, ll_s, rc6, rc2, rc3, rc5, rc7, rc1, rc0, rc4, rcs_0, rcs_1, rcs_2, rcs_3, rcs_4, mj_ib_nI, ↓reduceIte, mj_bdK, mj_ls, mj_ln, nI_clamp, nI_add, pk_mul, mj_nIeq0, mj_nIlt0, mj_nIle0, mj_nIeq, mj_nIle, mj_nIlt, mj_ok0, mj_ok1, mj_okb, mj_b0, mj_bR, mj_bR2, Nat.reduceEqDiff, li_98, hl, hl2, e98, h0, l1, l2, l3, l4, l5, l6, hk, c1, c2, mj_lcr]
theorem mj_law_25 {len i : Nat} (hl : σ 99 0 = nI len) (hlen : len ≤ 3072) (hi : i + 6 ≤ len) (hk : σ 98 i &&& nI 63 = nI 25) (hx : mj_IX σ τ A G C) (hm : mj_IM σ τ A G C) : mj_go σ τ len i := by
  obtain ⟨v, σ1, τ1, σ2, τ2, A', G', C', c1, c2, i1, i2, e98, e99, e9⟩ := mj_bo_use2 (bo_ahead (a := σ 98 (i + 1)) (b := σ 98 (i + 2)) (w := σ 98 (i + 3))) hx hm
  obtain ⟨x, rfl⟩ := mj_tyIP (List.all_eq_true.mp mj_tyI_chk 99 (by decide)) c1
  refine ⟨σ2, τ2, A', G', C', ?_, i1, i2, e9 99 (by decide)⟩
  have h0 : ¬ nI len - nI 6 < nI i := mt (mj_sub_lt6 (by omega) (by omega)).mp (by omega)
  have l1 : ¬ len ≤ i := by omega
  have l2 : ¬ len ≤ i + 1 := by omega
  have l3 : ¬ len ≤ i + 2 := by omega
  have l4 : ¬ len ≤ i + 3 := by omega
  have l5 : ¬ len ≤ i + 4 := by omega
  have l6 : ¬ len ≤ i + 5 := by omega
  have hl2 : σ1 99 0 = nI len := by rw [e99]; exact hl
  rw [e208_18]
  simp (maxSteps := 1000000) (disch := first | assumption | omega) only [↓e208_19, ↓e208_20, ↓e208_21, ↓e208_23, ↓e208_24, ↓e208_27, ↓e208_28, ↓e208_29, ↓e208_30, ↓e208_32, ↓e208_33, ↓e208_1142, ↓e208_1143, ↓e208_1144, ↓e208_1145, ↓e208_1146, ↓e208_1147, ↓e208_1148, ↓e208_1149, ↓e208_1150, ↓e208_1151, ↓e208_1152, ↓e208_1153, ↓e208_1154, ↓e208_1155, ↓e208_1156, ↓e208_1157, ↓e208_1158, ↓e208_1161, ↓e208_1162, ↓e208_1163, ↓e208_1164, ↓e208_1165, ↓e208_1166, ↓e208_1167, ↓e208_1168, ↓e208_1169, ↓e208_1170, ↓e208_1171, ↓e208_1172, ↓e208_1173, ↓e208_1174, ↓e208_1175, ↓e208_1176, ↓e208_1177, ↓e208_1180, ↓e208_1183, ↓e208_1184, ↓e208_1448, ↓e208_1451, li_p0, li_p1, li_p2, li_p3, li_p4, li_p5, li_p6, li_p7, li_p8, li_p9, li_10, li_11, li_12, li_13, li_14, li_15, li_16, li_17, li_18, li_19, li_20, li_21, li_22, li_23, li_24, li_25, li_26, li_27, li_28, li_29, li_30, li_31, li_32, li_33, li_34, li_35, li_36, li_37, li_38, li_39, li_56, li_57, li_58, li_60, li_61, li_63, li_64, li_65, li_66, li_67, li_68, li_69, li_70, li_71, li_72, li_73, li_74, li_75, li_76, li_77, li_80, li_81, li_82, li_83, li_84, li_85, li_86, li_87, li_88, li_89, li_90, li_91, li_92, lw_q0, lw_q1, lw_q2, lw_q3, lw_q4, lw_q5, lw_q6, lw_q7, lw_q8, lw_q9, lw_10, lw_11, lw_12, lw_13, lw_14, lw_15, lw_16, lw_17, lw_18, lw_19, lw_20, lw_21, lw_22, lw_23, lw_24, lw_25, lw_26, lw_27, lw_28, lw_29, lw_30, lw_31, lw_32, lw_33, lw_34, lw_35, lw_36, lw_37, lw_38, lw_39, lw_56, lw_57, lw_58, lw_60, lw_61, lw_63, lw_64, lw_65, lw_66, lw_67, lw_68, lw_69, lw_70, lw_71, lw_72, lw_73, lw_74, lw_75, lw_76, lw_77, lw_80, lw_81, lw_82, lw_83, lw_84, lw_85, lw_86, lw_87, lw_88, lw_89, ll_78, ll_79, ll_s, rc6, rc2, rc3, rc5, rc7, rc1, rc0, rc4, rcs_0, rcs_1, rcs_2, rcs_3, rcs_4, mj_ib_nI, ↓reduceIte, mj_bdK, mj_ls, mj_ln, nI_clamp, nI_add, pk_mul, mj_nIeq0, mj_nIlt0, mj_nIle0, mj_nIeq, mj_nIle, mj_nIlt, mj_ok0, mj_ok1, mj_okb, mj_b0, mj_bR, mj_bR2, Nat.reduceEqDiff, li_98, hl, hl2, e98, h0, l1, l2, l3, l4, l5, l6, hk, c1, c2, mj_lcr]
theorem mj_law_26 {len i : Nat} (hl : σ 99 0 = nI len) (hlen : len ≤ 3072) (hi : i + 6 ≤ len) (hk : σ 98 i &&& nI 63 = nI 26) (hx : mj_IX σ τ A G C) (hm : mj_IM σ τ A G C) : mj_go σ τ len i := by
  obtain ⟨v, σ1, τ1, σ2, τ2, A', G', C', c1, c2, i1, i2, e98, e99, e9⟩ := mj_bo_use2 (bo_judge (a := σ 98 (i + 1)) (b := σ 98 (i + 2))) hx hm
  obtain ⟨x, rfl⟩ := mj_tyIP (List.all_eq_true.mp mj_tyI_chk 100 (by decide)) c1
  refine ⟨σ2, τ2, A', G', C', ?_, i1, i2, e9 99 (by decide)⟩
  have h0 : ¬ nI len - nI 6 < nI i := mt (mj_sub_lt6 (by omega) (by omega)).mp (by omega)
  have l1 : ¬ len ≤ i := by omega
  have l2 : ¬ len ≤ i + 1 := by omega
  have l3 : ¬ len ≤ i + 2 := by omega
  have l4 : ¬ len ≤ i + 3 := by omega
  have l5 : ¬ len ≤ i + 4 := by omega
  have l6 : ¬ len ≤ i + 5 := by omega
  have hl2 : σ1 99 0 = nI len := by rw [e99]; exact hl
  rw [e208_18]
  simp (maxSteps := 1000000) (disch := first | assumption | omega) only [↓e208_19, ↓e208_20, ↓e208_21, ↓e208_23, ↓e208_24, ↓e208_27, ↓e208_28, ↓e208_29, ↓e208_30, ↓e208_32, ↓e208_33, ↓e208_1185, ↓e208_1186, ↓e208_1187, ↓e208_1188, ↓e208_1189, ↓e208_1190, ↓e208_1191, ↓e208_1192, ↓e208_1193, ↓e208_1194, ↓e208_1195, ↓e208_1196, ↓e208_1199, ↓e208_1200, ↓e208_1201, ↓e208_1202, ↓e208_1203, ↓e208_1204, ↓e208_1205, ↓e208_1206, ↓e208_1207, ↓e208_1208, ↓e208_1209, ↓e208_1210, ↓e208_1213, ↓e208_1216, ↓e208_1217, ↓e208_1448, ↓e208_1451, li_p0, li_p1, li_p2, li_p3, li_p4, li_p5, li_p6, li_p7, li_p8, li_p9, li_10, li_11, li_12, li_13, li_14, li_15, li_16, li_17, li_18, li_19, li_20, li_21, li_22, li_23, li_24, li_25, li_26, li_27, li_28, li_29, li_30, li_31, li_32, li_33, li_34, li_35, li_36, li_37, li_38, li_39, li_56, li_57, li_58, li_60, li_61, li_63, li_64, li_65, li_66, li_67, li_68, li_69, li_70, li_71, li_72, li_73, li_74, li_75, li_76, li_77, li_80, li_81, li_82, li_83, li_84, li_85, li_86, li_87, li_88, li_89, li_90, li_91, li_92, lw_q0, lw_q1, lw_q2, lw_q3, lw_q4, lw_q5, lw_q6, lw_q7, lw_q8, lw_q9, lw_10, lw_11, lw_12, lw_13, lw_14, lw_15, lw_16, lw_17, lw_18, lw_19, lw_20, lw_21, lw_22, lw_23, lw_24, lw_25, lw_26, lw_27, lw_28, lw_29, lw_30, lw_31, lw_32, lw_33, lw_34, lw_35, lw_36, lw_37, lw_38, lw_39, lw_56, lw_57, lw_58, lw_60, lw_61, lw_63, lw_64, lw_65, lw_66, lw_67, lw_68, lw_69, lw_70, lw_71, lw_72, lw_73, lw_74, lw_75, lw_76, lw_77, lw_80, lw_81, lw_82, lw_83, lw_84, lw_85, lw_86, lw_87, lw_88, lw_89, ll_78, ll_79, ll_s, rc6, rc2, rc3, rc5, rc7, rc1, rc0, rc4, rcs_0, rcs_1, rcs_2, rcs_3, rcs_4, mj_ib_nI, ↓reduceIte, mj_bdK, mj_ls, mj_ln, nI_clamp, nI_add, pk_mul, mj_nIeq0, mj_nIlt0, mj_nIle0, mj_nIeq, mj_nIle, mj_nIlt, mj_ok0, mj_ok1, mj_okb, mj_b0, mj_bR, mj_bR2, Nat.reduceEqDiff, li_98, hl, hl2, e98, h0, l1, l2, l3, l4, l5, l6, hk, c1, c2, mj_lcr]
theorem mj_law_27 {len i : Nat} (hl : σ 99 0 = nI len) (hlen : len ≤ 3072) (hi : i + 6 ≤ len) (hk : σ 98 i &&& nI 63 = nI 27) (hx : mj_IX σ τ A G C) (hm : mj_IM σ τ A G C) : mj_go σ τ len i := by
  obtain ⟨v, σ1, τ1, σ2, τ2, A', G', C', c1, c2, i1, i2, e98, e99, e9⟩ := mj_bo_use2 (bo_ninth (a := σ 98 (i + 1))) hx hm
  obtain ⟨x, rfl⟩ := mj_tyIP (List.all_eq_true.mp mj_tyI_chk 101 (by decide)) c1
  refine ⟨σ2, τ2, A', G', C', ?_, i1, i2, e9 99 (by decide)⟩
  have h0 : ¬ nI len - nI 6 < nI i := mt (mj_sub_lt6 (by omega) (by omega)).mp (by omega)
  have l1 : ¬ len ≤ i := by omega
  have l2 : ¬ len ≤ i + 1 := by omega
  have l3 : ¬ len ≤ i + 2 := by omega
  have l4 : ¬ len ≤ i + 3 := by omega
  have l5 : ¬ len ≤ i + 4 := by omega
  have l6 : ¬ len ≤ i + 5 := by omega
  have hl2 : σ1 99 0 = nI len := by rw [e99]; exact hl
  rw [e208_18]
  simp (maxSteps := 1000000) (disch := first | assumption | omega) only [↓e208_19, ↓e208_20, ↓e208_21, ↓e208_23, ↓e208_24, ↓e208_27, ↓e208_28, ↓e208_29, ↓e208_30, ↓e208_32, ↓e208_33, ↓e208_1218, ↓e208_1219, ↓e208_1220, ↓e208_1221, ↓e208_1222, ↓e208_1223, ↓e208_1224, ↓e208_1227, ↓e208_1228, ↓e208_1229, ↓e208_1230, ↓e208_1231, ↓e208_1232, ↓e208_1233, ↓e208_1236, ↓e208_1239, ↓e208_1240, ↓e208_1448, ↓e208_1451, li_p0, li_p1, li_p2, li_p3, li_p4, li_p5, li_p6, li_p7, li_p8, li_p9, li_10, li_11, li_12, li_13, li_14, li_15, li_16, li_17, li_18, li_19, li_20, li_21, li_22, li_23, li_24, li_25, li_26, li_27, li_28, li_29, li_30, li_31, li_32, li_33, li_34, li_35, li_36, li_37, li_38, li_39, li_56, li_57, li_58, li_60, li_61, li_63, li_64, li_65, li_66, li_67, li_68, li_69, li_70, li_71, li_72, li_73, li_74, li_75, li_76, li_77, li_80, li_81, li_82, li_83, li_84, li_85, li_86, li_87, li_88, li_89, li_90, li_91, li_92, lw_q0, lw_q1, lw_q2, lw_q3, lw_q4, lw_q5, lw_q6, lw_q7, lw_q8, lw_q9, lw_10, lw_11, lw_12, lw_13, lw_14, lw_15, lw_16, lw_17, lw_18, lw_19, lw_20, lw_21, lw_22, lw_23, lw_24, lw_25, lw_26, lw_27, lw_28, lw_29, lw_30, lw_31, lw_32, lw_33, lw_34, lw_35, lw_36, lw_37, lw_38, lw_39, lw_56, lw_57, lw_58, lw_60, lw_61, lw_63, lw_64, lw_65, lw_66, lw_67, lw_68, lw_69, lw_70, lw_71, lw_72, lw_73, lw_74, lw_75, lw_76, lw_77, lw_80, lw_81, lw_82, lw_83, lw_84, lw_85, lw_86, lw_87, lw_88, lw_89, ll_78, ll_79, ll_s, rc6, rc2, rc3, rc5, rc7, rc1, rc0, rc4, rcs_0, rcs_1, rcs_2, rcs_3, rcs_4, mj_ib_nI, ↓reduceIte, mj_bdK, mj_ls, mj_ln, nI_clamp, nI_add, pk_mul, mj_nIeq0, mj_nIlt0, mj_nIle0, mj_nIeq, mj_nIle, mj_nIlt, mj_ok0, mj_ok1, mj_okb, mj_b0, mj_bR, mj_bR2, Nat.reduceEqDiff, li_98, hl, hl2, e98, h0, l1, l2, l3, l4, l5, l6, hk, c1, c2, mj_lcr]
theorem mj_law_28 {len i : Nat} (hl : σ 99 0 = nI len) (hlen : len ≤ 3072) (hi : i + 6 ≤ len) (hk : σ 98 i &&& nI 63 = nI 28) (hx : mj_IX σ τ A G C) (hm : mj_IM σ τ A G C) : mj_go σ τ len i := by
  obtain ⟨v, σ1, τ1, σ2, τ2, A', G', C', c1, c2, i1, i2, e98, e99, e9⟩ := mj_bo_use2 (bo_choose (a := σ 98 (i + 1))) hx hm
  obtain ⟨x, rfl⟩ := mj_tyIP (List.all_eq_true.mp mj_tyI_chk 102 (by decide)) c1
  refine ⟨σ2, τ2, A', G', C', ?_, i1, i2, e9 99 (by decide)⟩
  have h0 : ¬ nI len - nI 6 < nI i := mt (mj_sub_lt6 (by omega) (by omega)).mp (by omega)
  have l1 : ¬ len ≤ i := by omega
  have l2 : ¬ len ≤ i + 1 := by omega
  have l3 : ¬ len ≤ i + 2 := by omega
  have l4 : ¬ len ≤ i + 3 := by omega
  have l5 : ¬ len ≤ i + 4 := by omega
  have l6 : ¬ len ≤ i + 5 := by omega
  have hl2 : σ1 99 0 = nI len := by rw [e99]; exact hl
  rw [e208_18]
  simp (maxSteps := 1000000) (disch := first | assumption | omega) only [↓e208_19, ↓e208_20, ↓e208_21, ↓e208_23, ↓e208_24, ↓e208_27, ↓e208_28, ↓e208_29, ↓e208_30, ↓e208_32, ↓e208_33, ↓e208_1241, ↓e208_1242, ↓e208_1243, ↓e208_1244, ↓e208_1245, ↓e208_1246, ↓e208_1247, ↓e208_1250, ↓e208_1251, ↓e208_1252, ↓e208_1253, ↓e208_1254, ↓e208_1255, ↓e208_1256, ↓e208_1259, ↓e208_1262, ↓e208_1263, ↓e208_1448, ↓e208_1451, li_p0, li_p1, li_p2, li_p3, li_p4, li_p5, li_p6, li_p7, li_p8, li_p9, li_10, li_11, li_12, li_13, li_14, li_15, li_16, li_17, li_18, li_19, li_20, li_21, li_22, li_23, li_24, li_25, li_26, li_27, li_28, li_29, li_30, li_31, li_32, li_33, li_34, li_35, li_36, li_37, li_38, li_39, li_56, li_57, li_58, li_60, li_61, li_63, li_64, li_65, li_66, li_67, li_68, li_69, li_70, li_71, li_72, li_73, li_74, li_75, li_76, li_77, li_80, li_81, li_82, li_83, li_84, li_85, li_86, li_87, li_88, li_89, li_90, li_91, li_92, lw_q0, lw_q1, lw_q2, lw_q3, lw_q4, lw_q5, lw_q6, lw_q7, lw_q8, lw_q9, lw_10, lw_11, lw_12, lw_13, lw_14, lw_15, lw_16, lw_17, lw_18, lw_19, lw_20, lw_21, lw_22, lw_23, lw_24, lw_25, lw_26, lw_27, lw_28, lw_29, lw_30, lw_31, lw_32, lw_33, lw_34, lw_35, lw_36, lw_37, lw_38, lw_39, lw_56, lw_57, lw_58, lw_60, lw_61, lw_63, lw_64, lw_65, lw_66, lw_67, lw_68, lw_69, lw_70, lw_71, lw_72, lw_73, lw_74, lw_75, lw_76, lw_77, lw_80, lw_81, lw_82, lw_83, lw_84, lw_85, lw_86, lw_87, lw_88, lw_89, ll_78, ll_79, ll_s, rc6, rc2, rc3, rc5, rc7, rc1, rc0, rc4, rcs_0, rcs_1, rcs_2, rcs_3, rcs_4, mj_ib_nI, ↓reduceIte, mj_bdK, mj_ls, mj_ln, nI_clamp, nI_add, pk_mul, mj_nIeq0, mj_nIlt0, mj_nIle0, mj_nIeq, mj_nIle, mj_nIlt, mj_ok0, mj_ok1, mj_okb, mj_b0, mj_bR, mj_bR2, Nat.reduceEqDiff, li_98, hl, hl2, e98, h0, l1, l2, l3, l4, l5, l6, hk, c1, c2, mj_lcr]
theorem mj_law_29 {len i : Nat} (hl : σ 99 0 = nI len) (hlen : len ≤ 3072) (hi : i + 6 ≤ len) (hk : σ 98 i &&& nI 63 = nI 29) (hx : mj_IX σ τ A G C) (hm : mj_IM σ τ A G C) : mj_go σ τ len i := by
  obtain ⟨v, σ1, τ1, σ2, τ2, A', G', C', c1, c2, i1, i2, e98, e99, e9⟩ := mj_bo_use2 (bo_years (a := σ 98 (i + 1))) hx hm
  obtain ⟨x, rfl⟩ := mj_tyIP (List.all_eq_true.mp mj_tyI_chk 103 (by decide)) c1
  refine ⟨σ2, τ2, A', G', C', ?_, i1, i2, e9 99 (by decide)⟩
  have h0 : ¬ nI len - nI 6 < nI i := mt (mj_sub_lt6 (by omega) (by omega)).mp (by omega)
  have l1 : ¬ len ≤ i := by omega
  have l2 : ¬ len ≤ i + 1 := by omega
  have l3 : ¬ len ≤ i + 2 := by omega
  have l4 : ¬ len ≤ i + 3 := by omega
  have l5 : ¬ len ≤ i + 4 := by omega
  have l6 : ¬ len ≤ i + 5 := by omega
  have hl2 : σ1 99 0 = nI len := by rw [e99]; exact hl
  rw [e208_18]
  simp (maxSteps := 1000000) (disch := first | assumption | omega) only [↓e208_19, ↓e208_20, ↓e208_21, ↓e208_23, ↓e208_24, ↓e208_27, ↓e208_28, ↓e208_29, ↓e208_30, ↓e208_32, ↓e208_33, ↓e208_1264, ↓e208_1265, ↓e208_1266, ↓e208_1267, ↓e208_1268, ↓e208_1269, ↓e208_1270, ↓e208_1273, ↓e208_1274, ↓e208_1275, ↓e208_1276, ↓e208_1277, ↓e208_1278, ↓e208_1279, ↓e208_1282, ↓e208_1285, ↓e208_1286, ↓e208_1448, ↓e208_1451, li_p0, li_p1, li_p2, li_p3, li_p4, li_p5, li_p6, li_p7, li_p8, li_p9, li_10, li_11, li_12, li_13, li_14, li_15, li_16, li_17, li_18, li_19, li_20, li_21, li_22, li_23, li_24, li_25, li_26, li_27, li_28, li_29, li_30, li_31, li_32, li_33, li_34, li_35, li_36, li_37, li_38, li_39, li_56, li_57, li_58, li_60, li_61, li_63, li_64, li_65, li_66, li_67, li_68, li_69, li_70, li_71, li_72, li_73, li_74, li_75, li_76, li_77, li_80, li_81, li_82, li_83, li_84, li_85, li_86, li_87, li_88, li_89, li_90, li_91, li_92, lw_q0, lw_q1, lw_q2, lw_q3, lw_q4, lw_q5, lw_q6, lw_q7, lw_q8, lw_q9, lw_10, lw_11, lw_12, lw_13, lw_14, lw_15, lw_16, lw_17, lw_18, lw_19, lw_20, lw_21, lw_22, lw_23, lw_24, lw_25, lw_26, lw_27, lw_28, lw_29, lw_30, lw_31, lw_32, lw_33, lw_34, lw_35, lw_36, lw_37, lw_38, lw_39, lw_56, lw_57, lw_58, lw_60, lw_61, lw_63, lw_64, lw_65, lw_66, lw_67, lw_68, lw_69, lw_70, lw_71, lw_72, lw_73, lw_74, lw_75, lw_76, lw_77, lw_80, lw_81, lw_82, lw_83, lw_84, lw_85, lw_86, lw_87, lw_88, lw_89, ll_78, ll_79, ll_s, rc6, rc2, rc3, rc5, rc7, rc1, rc0, rc4, rcs_0, rcs_1, rcs_2, rcs_3, rcs_4, mj_ib_nI, ↓reduceIte, mj_bdK, mj_ls, mj_ln, nI_clamp, nI_add, pk_mul, mj_nIeq0, mj_nIlt0, mj_nIle0, mj_nIeq, mj_nIle, mj_nIlt, mj_ok0, mj_ok1, mj_okb, mj_b0, mj_bR, mj_bR2, Nat.reduceEqDiff, li_98, hl, hl2, e98, h0, l1, l2, l3, l4, l5, l6, hk, c1, c2, mj_lcr]
theorem mj_law_30 {len i : Nat} (hl : σ 99 0 = nI len) (hlen : len ≤ 3072) (hi : i + 6 ≤ len) (hk : σ 98 i &&& nI 63 = nI 30) (hx : mj_IX σ τ A G C) (hm : mj_IM σ τ A G C) : mj_go σ τ len i := by
  obtain ⟨v, σ1, τ1, σ2, τ2, A', G', C', c1, c2, i1, i2, e98, e99, e9⟩ := mj_bo_use2 (bo_drawn (a := σ 98 (i + 1))) hx hm
  obtain ⟨x, rfl⟩ := mj_tyIP (List.all_eq_true.mp mj_tyI_chk 104 (by decide)) c1
  refine ⟨σ2, τ2, A', G', C', ?_, i1, i2, e9 99 (by decide)⟩
  have h0 : ¬ nI len - nI 6 < nI i := mt (mj_sub_lt6 (by omega) (by omega)).mp (by omega)
  have l1 : ¬ len ≤ i := by omega
  have l2 : ¬ len ≤ i + 1 := by omega
  have l3 : ¬ len ≤ i + 2 := by omega
  have l4 : ¬ len ≤ i + 3 := by omega
  have l5 : ¬ len ≤ i + 4 := by omega
  have l6 : ¬ len ≤ i + 5 := by omega
  have hl2 : σ1 99 0 = nI len := by rw [e99]; exact hl
  rw [e208_18]
  simp (maxSteps := 1000000) (disch := first | assumption | omega) only [↓e208_19, ↓e208_20, ↓e208_21, ↓e208_23, ↓e208_24, ↓e208_27, ↓e208_28, ↓e208_29, ↓e208_30, ↓e208_32, ↓e208_33, ↓e208_1287, ↓e208_1288, ↓e208_1289, ↓e208_1290, ↓e208_1291, ↓e208_1292, ↓e208_1293, ↓e208_1296, ↓e208_1297, ↓e208_1298, ↓e208_1299, ↓e208_1300, ↓e208_1301, ↓e208_1302, ↓e208_1305, ↓e208_1308, ↓e208_1309, ↓e208_1448, ↓e208_1451, li_p0, li_p1, li_p2, li_p3, li_p4, li_p5, li_p6, li_p7, li_p8, li_p9, li_10, li_11, li_12, li_13, li_14, li_15, li_16, li_17, li_18, li_19, li_20, li_21, li_22, li_23, li_24, li_25, li_26, li_27, li_28, li_29, li_30, li_31, li_32, li_33, li_34, li_35, li_36, li_37, li_38, li_39, li_56, li_57, li_58, li_60, li_61, li_63, li_64, li_65, li_66, li_67, li_68, li_69, li_70, li_71, li_72, li_73, li_74, li_75, li_76, li_77, li_80, li_81, li_82, li_83, li_84, li_85, li_86, li_87, li_88, li_89, li_90, li_91, li_92, lw_q0, lw_q1, lw_q2, lw_q3, lw_q4, lw_q5, lw_q6, lw_q7, lw_q8, lw_q9, lw_10, lw_11, lw_12, lw_13, lw_14, lw_15, lw_16, lw_17, lw_18, lw_19, lw_20, lw_21, lw_22, lw_23, lw_24, lw_25, lw_26, lw_27, lw_28, lw_29, lw_30, lw_31, lw_32, lw_33, lw_34, lw_35, lw_36, lw_37, lw_38, lw_39, lw_56, lw_57, lw_58, lw_60, lw_61, lw_63, lw_64, lw_65, lw_66, lw_67, lw_68, lw_69, lw_70, lw_71, lw_72, lw_73, lw_74, lw_75, lw_76, lw_77, lw_80, lw_81, lw_82, lw_83, lw_84, lw_85, lw_86, lw_87, lw_88, lw_89, ll_78, ll_79, ll_s, rc6, rc2, rc3, rc5, rc7, rc1, rc0, rc4, rcs_0, rcs_1, rcs_2, rcs_3, rcs_4, mj_ib_nI, ↓reduceIte, mj_bdK, mj_ls, mj_ln, nI_clamp, nI_add, pk_mul, mj_nIeq0, mj_nIlt0, mj_nIle0, mj_nIeq, mj_nIle, mj_nIlt, mj_ok0, mj_ok1, mj_okb, mj_b0, mj_bR, mj_bR2, Nat.reduceEqDiff, li_98, hl, hl2, e98, h0, l1, l2, l3, l4, l5, l6, hk, c1, c2, mj_lcr]
theorem mj_law_31 {len i : Nat} (hl : σ 99 0 = nI len) (hlen : len ≤ 3072) (hi : i + 6 ≤ len) (hk : σ 98 i &&& nI 63 = nI 31) (hx : mj_IX σ τ A G C) (hm : mj_IM σ τ A G C) : mj_go σ τ len i := by
  obtain ⟨v, σ1, τ1, σ2, τ2, A', G', C', c1, c2, i1, i2, e98, e99, e9⟩ := mj_bo_use2 (bo_seed (a := σ 98 (i + 1))) hx hm
  obtain ⟨x, rfl⟩ := mj_tyIP (List.all_eq_true.mp mj_tyI_chk 105 (by decide)) c1
  refine ⟨σ2, τ2, A', G', C', ?_, i1, i2, e9 99 (by decide)⟩
  have h0 : ¬ nI len - nI 6 < nI i := mt (mj_sub_lt6 (by omega) (by omega)).mp (by omega)
  have l1 : ¬ len ≤ i := by omega
  have l2 : ¬ len ≤ i + 1 := by omega
  have l3 : ¬ len ≤ i + 2 := by omega
  have l4 : ¬ len ≤ i + 3 := by omega
  have l5 : ¬ len ≤ i + 4 := by omega
  have l6 : ¬ len ≤ i + 5 := by omega
  have hl2 : σ1 99 0 = nI len := by rw [e99]; exact hl
  rw [e208_18]
  simp (maxSteps := 1000000) (disch := first | assumption | omega) only [↓e208_19, ↓e208_20, ↓e208_21, ↓e208_23, ↓e208_24, ↓e208_27, ↓e208_28, ↓e208_29, ↓e208_30, ↓e208_32, ↓e208_33, ↓e208_1310, ↓e208_1311, ↓e208_1312, ↓e208_1313, ↓e208_1314, ↓e208_1315, ↓e208_1316, ↓e208_1319, ↓e208_1320, ↓e208_1321, ↓e208_1322, ↓e208_1323, ↓e208_1324, ↓e208_1325, ↓e208_1328, ↓e208_1331, ↓e208_1332, ↓e208_1448, ↓e208_1451, li_p0, li_p1, li_p2, li_p3, li_p4, li_p5, li_p6, li_p7, li_p8, li_p9, li_10, li_11, li_12, li_13, li_14, li_15, li_16, li_17, li_18, li_19, li_20, li_21, li_22, li_23, li_24, li_25, li_26, li_27, li_28, li_29, li_30, li_31, li_32, li_33, li_34, li_35, li_36, li_37, li_38, li_39, li_56, li_57, li_58, li_60, li_61, li_63, li_64, li_65, li_66, li_67, li_68, li_69, li_70, li_71, li_72, li_73, li_74, li_75, li_76, li_77, li_80, li_81, li_82, li_83, li_84, li_85, li_86, li_87, li_88, li_89, li_90, li_91, li_92, lw_q0, lw_q1, lw_q2, lw_q3, lw_q4, lw_q5, lw_q6, lw_q7, lw_q8, lw_q9, lw_10, lw_11, lw_12, lw_13, lw_14, lw_15, lw_16, lw_17, lw_18, lw_19, lw_20, lw_21, lw_22, lw_23, lw_24, lw_25, lw_26, lw_27, lw_28, lw_29, lw_30, lw_31, lw_32, lw_33, lw_34, lw_35, lw_36, lw_37, lw_38, lw_39, lw_56, lw_57, lw_58, lw_60, lw_61, lw_63, lw_64, lw_65, lw_66, lw_67, lw_68, lw_69, lw_70, lw_71, lw_72, lw_73, lw_74, lw_75, lw_76, lw_77, lw_80, lw_81, lw_82, lw_83, lw_84, lw_85, lw_86, lw_87, lw_88, lw_89, ll_78, ll_79, ll_s, rc6, rc2, rc3, rc5, rc7, rc1, rc0, rc4, rcs_0, rcs_1, rcs_2, rcs_3, rcs_4, mj_ib_nI, ↓reduceIte, mj_bdK, mj_ls, mj_ln, nI_clamp, nI_add, pk_mul, mj_nIeq0, mj_nIlt0, mj_nIle0, mj_nIeq, mj_nIle, mj_nIlt, mj_ok0, mj_ok1, mj_okb, mj_b0, mj_bR, mj_bR2, Nat.reduceEqDiff, li_98, hl, hl2, e98, h0, l1, l2, l3, l4, l5, l6, hk, c1, c2, mj_lcr]
theorem mj_law_32 {len i : Nat} (hl : σ 99 0 = nI len) (hlen : len ≤ 3072) (hi : i + 6 ≤ len) (hk : σ 98 i &&& nI 63 = nI 32) (hx : mj_IX σ τ A G C) (hm : mj_IM σ τ A G C) : mj_go σ τ len i := by
  obtain ⟨v, σ1, τ1, σ2, τ2, A', G', C', c1, c2, i1, i2, e98, e99, e9⟩ := mj_bo_use2 (bo_act (a := σ 98 (i + 1)) (b := σ 98 (i + 2)) (x := σ 98 (i + 3))) hx hm
  obtain ⟨x, rfl⟩ := mj_tyIP (List.all_eq_true.mp mj_tyI_chk 106 (by decide)) c1
  refine ⟨σ2, τ2, A', G', C', ?_, i1, i2, e9 99 (by decide)⟩
  have h0 : ¬ nI len - nI 6 < nI i := mt (mj_sub_lt6 (by omega) (by omega)).mp (by omega)
  have l1 : ¬ len ≤ i := by omega
  have l2 : ¬ len ≤ i + 1 := by omega
  have l3 : ¬ len ≤ i + 2 := by omega
  have l4 : ¬ len ≤ i + 3 := by omega
  have l5 : ¬ len ≤ i + 4 := by omega
  have l6 : ¬ len ≤ i + 5 := by omega
  have hl2 : σ1 99 0 = nI len := by rw [e99]; exact hl
  rw [e208_18]
  simp (maxSteps := 1000000) (disch := first | assumption | omega) only [↓e208_19, ↓e208_20, ↓e208_21, ↓e208_23, ↓e208_24, ↓e208_27, ↓e208_28, ↓e208_29, ↓e208_30, ↓e208_32, ↓e208_33, ↓e208_1333, ↓e208_1334, ↓e208_1335, ↓e208_1336, ↓e208_1337, ↓e208_1338, ↓e208_1339, ↓e208_1340, ↓e208_1341, ↓e208_1342, ↓e208_1343, ↓e208_1344, ↓e208_1345, ↓e208_1346, ↓e208_1347, ↓e208_1348, ↓e208_1349, ↓e208_1352, ↓e208_1353, ↓e208_1354, ↓e208_1355, ↓e208_1356, ↓e208_1357, ↓e208_1358, ↓e208_1359, ↓e208_1360, ↓e208_1361, ↓e208_1362, ↓e208_1363, ↓e208_1364, ↓e208_1365, ↓e208_1366, ↓e208_1367, ↓e208_1368, ↓e208_1371, ↓e208_1374, ↓e208_1375, ↓e208_1448, ↓e208_1451, li_p0, li_p1, li_p2, li_p3, li_p4, li_p5, li_p6, li_p7, li_p8, li_p9, li_10, li_11, li_12, li_13, li_14, li_15, li_16, li_17, li_18, li_19, li_20, li_21, li_22, li_23, li_24, li_25, li_26, li_27, li_28, li_29, li_30, li_31, li_32, li_33, li_34, li_35, li_36, li_37, li_38, li_39, li_56, li_57, li_58, li_60, li_61, li_63, li_64, li_65, li_66, li_67, li_68, li_69, li_70, li_71, li_72, li_73, li_74, li_75, li_76, li_77, li_80, li_81, li_82, li_83, li_84, li_85, li_86, li_87, li_88, li_89, li_90, li_91, li_92, lw_q0, lw_q1, lw_q2, lw_q3, lw_q4, lw_q5, lw_q6, lw_q7, lw_q8, lw_q9, lw_10, lw_11, lw_12, lw_13, lw_14, lw_15, lw_16, lw_17, lw_18, lw_19, lw_20, lw_21, lw_22, lw_23, lw_24, lw_25, lw_26, lw_27, lw_28, lw_29, lw_30, lw_31, lw_32, lw_33, lw_34, lw_35, lw_36, lw_37, lw_38, lw_39, lw_56, lw_57, lw_58, lw_60, lw_61, lw_63, lw_64, lw_65, lw_66, lw_67, lw_68, lw_69, lw_70, lw_71, lw_72, lw_73, lw_74, lw_75, lw_76, lw_77, lw_80, lw_81, lw_82, lw_83, lw_84, lw_85, lw_86, lw_87, lw_88, lw_89, ll_78, ll_79, ll_s, rc6, rc2, rc3, rc5, rc7, rc1, rc0, rc4, rcs_0, rcs_1, rcs_2, rcs_3, rcs_4, mj_ib_nI, ↓reduceIte, mj_bdK, mj_ls, mj_ln, nI_clamp, nI_add, pk_mul, mj_nIeq0, mj_nIlt0, mj_nIle0, mj_nIeq, mj_nIle, mj_nIlt, mj_ok0, mj_ok1, mj_okb, mj_b0, mj_bR, mj_bR2, Nat.reduceEqDiff, li_98, hl, hl2, e98, h0, l1, l2, l3, l4, l5, l6, hk, c1, c2, mj_lcr]
theorem mj_law_33 {len i : Nat} (hl : σ 99 0 = nI len) (hlen : len ≤ 3072) (hi : i + 6 ≤ len) (hk : σ 98 i &&& nI 63 = nI 33) (hx : mj_IX σ τ A G C) (hm : mj_IM σ τ A G C) : mj_go σ τ len i := by
  obtain ⟨v, σ1, τ1, σ2, τ2, A', G', C', c1, c2, i1, i2, e98, e99, e9⟩ := mj_bo_use2 (bo_trace (a := σ 98 (i + 1))) hx hm
  obtain ⟨x, rfl⟩ := mj_tyIP (List.all_eq_true.mp mj_tyI_chk 107 (by decide)) c1
  refine ⟨σ2, τ2, A', G', C', ?_, i1, i2, e9 99 (by decide)⟩
  have h0 : ¬ nI len - nI 6 < nI i := mt (mj_sub_lt6 (by omega) (by omega)).mp (by omega)
  have l1 : ¬ len ≤ i := by omega
  have l2 : ¬ len ≤ i + 1 := by omega
  have l3 : ¬ len ≤ i + 2 := by omega
  have l4 : ¬ len ≤ i + 3 := by omega
  have l5 : ¬ len ≤ i + 4 := by omega
  have l6 : ¬ len ≤ i + 5 := by omega
  have hl2 : σ1 99 0 = nI len := by rw [e99]; exact hl
  rw [e208_18]
  simp (maxSteps := 1000000) (disch := first | assumption | omega) only [↓e208_19, ↓e208_20, ↓e208_21, ↓e208_23, ↓e208_24, ↓e208_27, ↓e208_28, ↓e208_29, ↓e208_30, ↓e208_32, ↓e208_33, ↓e208_1376, ↓e208_1377, ↓e208_1378, ↓e208_1379, ↓e208_1380, ↓e208_1381, ↓e208_1382, ↓e208_1385, ↓e208_1386, ↓e208_1387, ↓e208_1388, ↓e208_1389, ↓e208_1390, ↓e208_1391, ↓e208_1394, ↓e208_1397, ↓e208_1398, ↓e208_1448, ↓e208_1451, li_p0, li_p1, li_p2, li_p3, li_p4, li_p5, li_p6, li_p7, li_p8, li_p9, li_10, li_11, li_12, li_13, li_14, li_15, li_16, li_17, li_18, li_19, li_20, li_21, li_22, li_23, li_24, li_25, li_26, li_27, li_28, li_29, li_30, li_31, li_32, li_33, li_34, li_35, li_36, li_37, li_38, li_39, li_56, li_57, li_58, li_60, li_61, li_63, li_64, li_65, li_66, li_67, li_68, li_69, li_70, li_71, li_72, li_73, li_74, li_75, li_76, li_77, li_80, li_81, li_82, li_83, li_84, li_85, li_86, li_87, li_88, li_89, li_90, li_91, li_92, lw_q0, lw_q1, lw_q2, lw_q3, lw_q4, lw_q5, lw_q6, lw_q7, lw_q8, lw_q9, lw_10, lw_11, lw_12, lw_13, lw_14, lw_15, lw_16, lw_17, lw_18, lw_19, lw_20, lw_21, lw_22, lw_23, lw_24, lw_25, lw_26, lw_27, lw_28, lw_29, lw_30, lw_31, lw_32, lw_33, lw_34, lw_35, lw_36, lw_37, lw_38, lw_39, lw_56, lw_57, lw_58, lw_60, lw_61, lw_63, lw_64, lw_65, lw_66, lw_67, lw_68, lw_69, lw_70, lw_71, lw_72, lw_73, lw_74, lw_75, lw_76, lw_77, lw_80, lw_81, lw_82, lw_83, lw_84, lw_85, lw_86, lw_87, lw_88, lw_89, ll_78, ll_79, ll_s, rc6, rc2, rc3, rc5, rc7, rc1, rc0, rc4, rcs_0, rcs_1, rcs_2, rcs_3, rcs_4, mj_ib_nI, ↓reduceIte, mj_bdK, mj_ls, mj_ln, nI_clamp, nI_add, pk_mul, mj_nIeq0, mj_nIlt0, mj_nIle0, mj_nIeq, mj_nIle, mj_nIlt, mj_ok0, mj_ok1, mj_okb, mj_b0, mj_bR, mj_bR2, Nat.reduceEqDiff, li_98, hl, hl2, e98, h0, l1, l2, l3, l4, l5, l6, hk, c1, c2, mj_lcr]
theorem mj_law_34 {len i : Nat} (hl : σ 99 0 = nI len) (hlen : len ≤ 3072) (hi : i + 6 ≤ len) (hk : σ 98 i &&& nI 63 = nI 34) (hx : mj_IX σ τ A G C) (hm : mj_IM σ τ A G C) : mj_go σ τ len i := by
  obtain ⟨v, σ1, τ1, σ2, τ2, A', G', C', c1, c2, i1, i2, e98, e99, e9⟩ := mj_bo_use2 (bo_image) hx hm
  obtain ⟨x, rfl⟩ := mj_tyIP (List.all_eq_true.mp mj_tyI_chk 108 (by decide)) c1
  refine ⟨σ2, τ2, A', G', C', ?_, i1, i2, e9 99 (by decide)⟩
  have h0 : ¬ nI len - nI 6 < nI i := mt (mj_sub_lt6 (by omega) (by omega)).mp (by omega)
  have l1 : ¬ len ≤ i := by omega
  have l2 : ¬ len ≤ i + 1 := by omega
  have l3 : ¬ len ≤ i + 2 := by omega
  have l4 : ¬ len ≤ i + 3 := by omega
  have l5 : ¬ len ≤ i + 4 := by omega
  have l6 : ¬ len ≤ i + 5 := by omega
  have hl2 : σ1 99 0 = nI len := by rw [e99]; exact hl
  rw [e208_18]
  simp (maxSteps := 1000000) (disch := first | assumption | omega) only [↓e208_19, ↓e208_20, ↓e208_21, ↓e208_23, ↓e208_24, ↓e208_27, ↓e208_28, ↓e208_29, ↓e208_30, ↓e208_32, ↓e208_33, ↓e208_1399, ↓e208_1400, ↓e208_1403, ↓e208_1404, ↓e208_1407, ↓e208_1410, ↓e208_1411, ↓e208_1448, ↓e208_1451, li_p0, li_p1, li_p2, li_p3, li_p4, li_p5, li_p6, li_p7, li_p8, li_p9, li_10, li_11, li_12, li_13, li_14, li_15, li_16, li_17, li_18, li_19, li_20, li_21, li_22, li_23, li_24, li_25, li_26, li_27, li_28, li_29, li_30, li_31, li_32, li_33, li_34, li_35, li_36, li_37, li_38, li_39, li_56, li_57, li_58, li_60, li_61, li_63, li_64, li_65, li_66, li_67, li_68, li_69, li_70, li_71, li_72, li_73, li_74, li_75, li_76, li_77, li_80, li_81, li_82, li_83, li_84, li_85, li_86, li_87, li_88, li_89, li_90, li_91, li_92, lw_q0, lw_q1, lw_q2, lw_q3, lw_q4, lw_q5, lw_q6, lw_q7, lw_q8, lw_q9, lw_10, lw_11, lw_12, lw_13, lw_14, lw_15, lw_16, lw_17, lw_18, lw_19, lw_20, lw_21, lw_22, lw_23, lw_24, lw_25, lw_26, lw_27, lw_28, lw_29, lw_30, lw_31, lw_32, lw_33, lw_34, lw_35, lw_36, lw_37, lw_38, lw_39, lw_56, lw_57, lw_58, lw_60, lw_61, lw_63, lw_64, lw_65, lw_66, lw_67, lw_68, lw_69, lw_70, lw_71, lw_72, lw_73, lw_74, lw_75, lw_76, lw_77, lw_80, lw_81, lw_82, lw_83, lw_84, lw_85, lw_86, lw_87, lw_88, lw_89, ll_78, ll_79, ll_s, rc6, rc2, rc3, rc5, rc7, rc1, rc0, rc4, rcs_0, rcs_1, rcs_2, rcs_3, rcs_4, mj_ib_nI, ↓reduceIte, mj_bdK, mj_ls, mj_ln, nI_clamp, nI_add, pk_mul, mj_nIeq0, mj_nIlt0, mj_nIle0, mj_nIeq, mj_nIle, mj_nIlt, mj_ok0, mj_ok1, mj_okb, mj_b0, mj_bR, mj_bR2, Nat.reduceEqDiff, li_98, hl, hl2, e98, h0, l1, l2, l3, l4, l5, l6, hk, c1, c2, mj_lcr]
theorem mj_law_35 {len i : Nat} (hl : σ 99 0 = nI len) (hlen : len ≤ 3072) (hi : i + 6 ≤ len) (hk : σ 98 i &&& nI 63 = nI 35) (hx : mj_IX σ τ A G C) (hm : mj_IM σ τ A G C) : mj_go σ τ len i := by
  obtain ⟨v, σ1, τ1, σ2, τ2, A', G', C', c1, c2, i1, i2, e98, e99, e9⟩ := mj_bo_use2 (bo_restore) hx hm
  obtain ⟨x, rfl⟩ := mj_tyIP (List.all_eq_true.mp mj_tyI_chk 109 (by decide)) c1
  refine ⟨σ2, τ2, A', G', C', ?_, i1, i2, e9 99 (by decide)⟩
  have h0 : ¬ nI len - nI 6 < nI i := mt (mj_sub_lt6 (by omega) (by omega)).mp (by omega)
  have l1 : ¬ len ≤ i := by omega
  have l2 : ¬ len ≤ i + 1 := by omega
  have l3 : ¬ len ≤ i + 2 := by omega
  have l4 : ¬ len ≤ i + 3 := by omega
  have l5 : ¬ len ≤ i + 4 := by omega
  have l6 : ¬ len ≤ i + 5 := by omega
  have hl2 : σ1 99 0 = nI len := by rw [e99]; exact hl
  rw [e208_18]
  simp (maxSteps := 1000000) (disch := first | assumption | omega) only [↓e208_19, ↓e208_20, ↓e208_21, ↓e208_23, ↓e208_24, ↓e208_27, ↓e208_28, ↓e208_29, ↓e208_30, ↓e208_32, ↓e208_33, ↓e208_1412, ↓e208_1413, ↓e208_1416, ↓e208_1417, ↓e208_1420, ↓e208_1423, ↓e208_1424, ↓e208_1448, ↓e208_1451, li_p0, li_p1, li_p2, li_p3, li_p4, li_p5, li_p6, li_p7, li_p8, li_p9, li_10, li_11, li_12, li_13, li_14, li_15, li_16, li_17, li_18, li_19, li_20, li_21, li_22, li_23, li_24, li_25, li_26, li_27, li_28, li_29, li_30, li_31, li_32, li_33, li_34, li_35, li_36, li_37, li_38, li_39, li_56, li_57, li_58, li_60, li_61, li_63, li_64, li_65, li_66, li_67, li_68, li_69, li_70, li_71, li_72, li_73, li_74, li_75, li_76, li_77, li_80, li_81, li_82, li_83, li_84, li_85, li_86, li_87, li_88, li_89, li_90, li_91, li_92, lw_q0, lw_q1, lw_q2, lw_q3, lw_q4, lw_q5, lw_q6, lw_q7, lw_q8, lw_q9, lw_10, lw_11, lw_12, lw_13, lw_14, lw_15, lw_16, lw_17, lw_18, lw_19, lw_20, lw_21, lw_22, lw_23, lw_24, lw_25, lw_26, lw_27, lw_28, lw_29, lw_30, lw_31, lw_32, lw_33, lw_34, lw_35, lw_36, lw_37, lw_38, lw_39, lw_56, lw_57, lw_58, lw_60, lw_61, lw_63, lw_64, lw_65, lw_66, lw_67, lw_68, lw_69, lw_70, lw_71, lw_72, lw_73, lw_74, lw_75, lw_76, lw_77, lw_80, lw_81, lw_82, lw_83, lw_84, lw_85, lw_86, lw_87, lw_88, lw_89, ll_78, ll_79, ll_s, rc6, rc2, rc3, rc5, rc7, rc1, rc0, rc4, rcs_0, rcs_1, rcs_2, rcs_3, rcs_4, mj_ib_nI, ↓reduceIte, mj_bdK, mj_ls, mj_ln, nI_clamp, nI_add, pk_mul, mj_nIeq0, mj_nIlt0, mj_nIle0, mj_nIeq, mj_nIle, mj_nIlt, mj_ok0, mj_ok1, mj_okb, mj_b0, mj_bR, mj_bR2, Nat.reduceEqDiff, li_98, hl, hl2, e98, h0, l1, l2, l3, l4, l5, l6, hk, c1, c2, mj_lcr]
theorem mj_law_36 {len i : Nat} (hl : σ 99 0 = nI len) (hlen : len ≤ 3072) (hi : i + 6 ≤ len) (hk : σ 98 i &&& nI 63 = nI 36) (hx : mj_IX σ τ A G C) (hm : mj_IM σ τ A G C) : mj_go σ τ len i := by
  obtain ⟨v, σ1, τ1, σ2, τ2, A', G', C', c1, c2, i1, i2, e98, e99, e9⟩ := mj_bo_use2 (bo_status (a := σ 98 (i + 1))) hx hm
  obtain ⟨x, rfl⟩ := mj_tyIP (List.all_eq_true.mp mj_tyI_chk 110 (by decide)) c1
  refine ⟨σ2, τ2, A', G', C', ?_, i1, i2, e9 99 (by decide)⟩
  have h0 : ¬ nI len - nI 6 < nI i := mt (mj_sub_lt6 (by omega) (by omega)).mp (by omega)
  have l1 : ¬ len ≤ i := by omega
  have l2 : ¬ len ≤ i + 1 := by omega
  have l3 : ¬ len ≤ i + 2 := by omega
  have l4 : ¬ len ≤ i + 3 := by omega
  have l5 : ¬ len ≤ i + 4 := by omega
  have l6 : ¬ len ≤ i + 5 := by omega
  have hl2 : σ1 99 0 = nI len := by rw [e99]; exact hl
  rw [e208_18]
  simp (maxSteps := 1000000) (disch := first | assumption | omega) only [↓e208_19, ↓e208_20, ↓e208_21, ↓e208_23, ↓e208_24, ↓e208_27, ↓e208_28, ↓e208_29, ↓e208_30, ↓e208_32, ↓e208_33, ↓e208_1425, ↓e208_1426, ↓e208_1427, ↓e208_1428, ↓e208_1429, ↓e208_1430, ↓e208_1431, ↓e208_1434, ↓e208_1435, ↓e208_1436, ↓e208_1437, ↓e208_1438, ↓e208_1439, ↓e208_1440, ↓e208_1443, ↓e208_1446, ↓e208_1447, ↓e208_1448, ↓e208_1451, li_p0, li_p1, li_p2, li_p3, li_p4, li_p5, li_p6, li_p7, li_p8, li_p9, li_10, li_11, li_12, li_13, li_14, li_15, li_16, li_17, li_18, li_19, li_20, li_21, li_22, li_23, li_24, li_25, li_26, li_27, li_28, li_29, li_30, li_31, li_32, li_33, li_34, li_35, li_36, li_37, li_38, li_39, li_56, li_57, li_58, li_60, li_61, li_63, li_64, li_65, li_66, li_67, li_68, li_69, li_70, li_71, li_72, li_73, li_74, li_75, li_76, li_77, li_80, li_81, li_82, li_83, li_84, li_85, li_86, li_87, li_88, li_89, li_90, li_91, li_92, lw_q0, lw_q1, lw_q2, lw_q3, lw_q4, lw_q5, lw_q6, lw_q7, lw_q8, lw_q9, lw_10, lw_11, lw_12, lw_13, lw_14, lw_15, lw_16, lw_17, lw_18, lw_19, lw_20, lw_21, lw_22, lw_23, lw_24, lw_25, lw_26, lw_27, lw_28, lw_29, lw_30, lw_31, lw_32, lw_33, lw_34, lw_35, lw_36, lw_37, lw_38, lw_39, lw_56, lw_57, lw_58, lw_60, lw_61, lw_63, lw_64, lw_65, lw_66, lw_67, lw_68, lw_69, lw_70, lw_71, lw_72, lw_73, lw_74, lw_75, lw_76, lw_77, lw_80, lw_81, lw_82, lw_83, lw_84, lw_85, lw_86, lw_87, lw_88, lw_89, ll_78, ll_79, ll_s, rc6, rc2, rc3, rc5, rc7, rc1, rc0, rc4, rcs_0, rcs_1, rcs_2, rcs_3, rcs_4, mj_ib_nI, ↓reduceIte, mj_bdK, mj_ls, mj_ln, nI_clamp, nI_add, pk_mul, mj_nIeq0, mj_nIlt0, mj_nIle0, mj_nIeq, mj_nIle, mj_nIlt, mj_ok0, mj_ok1, mj_okb, mj_b0, mj_bR, mj_bR2, Nat.reduceEqDiff, li_98, hl, hl2, e98, h0, l1, l2, l3, l4, l5, l6, hk, c1, c2, mj_lcr]
theorem mj_law_d {len i : Nat} (hl : σ 99 0 = nI len) (hlen : len ≤ 3072) (hi : i + 6 ≤ len) (hk : ∀ k, k < 37 → ¬ σ 98 i &&& nI 63 = nI k) (hx : mj_IX σ τ A G C) (hm : mj_IM σ τ A G C) : mj_go σ τ len i := by
  refine ⟨σ, τ, A, G, C, ?_, hx, hm, rfl⟩
  have h0 : ¬ nI len - nI 6 < nI i := mt (mj_sub_lt6 (by omega) (by omega)).mp (by omega)
  have l1 : ¬ len ≤ i := by omega
  have k0 := hk 0 (by decide)
  have k1 := hk 1 (by decide)
  have k2 := hk 2 (by decide)
  have k3 := hk 3 (by decide)
  have k4 := hk 4 (by decide)
  have k5 := hk 5 (by decide)
  have k6 := hk 6 (by decide)
  have k7 := hk 7 (by decide)
  have k8 := hk 8 (by decide)
  have k9 := hk 9 (by decide)
  have k10 := hk 10 (by decide)
  have k11 := hk 11 (by decide)
  have k12 := hk 12 (by decide)
  have k13 := hk 13 (by decide)
  have k14 := hk 14 (by decide)
  have k15 := hk 15 (by decide)
  have k16 := hk 16 (by decide)
  have k17 := hk 17 (by decide)
  have k18 := hk 18 (by decide)
  have k19 := hk 19 (by decide)
  have k20 := hk 20 (by decide)
  have k21 := hk 21 (by decide)
  have k22 := hk 22 (by decide)
  have k23 := hk 23 (by decide)
  have k24 := hk 24 (by decide)
  have k25 := hk 25 (by decide)
  have k26 := hk 26 (by decide)
  have k27 := hk 27 (by decide)
  have k28 := hk 28 (by decide)
  have k29 := hk 29 (by decide)
  have k30 := hk 30 (by decide)
  have k31 := hk 31 (by decide)
  have k32 := hk 32 (by decide)
  have k33 := hk 33 (by decide)
  have k34 := hk 34 (by decide)
  have k35 := hk 35 (by decide)
  have k36 := hk 36 (by decide)
  rw [e208_18]
  simp (maxSteps := 1000000) (disch := first | assumption | omega) only [↓e208_19, ↓e208_20, ↓e208_21, ↓e208_23, ↓e208_24, ↓e208_27, ↓e208_28, ↓e208_29, ↓e208_30, ↓e208_32, ↓e208_33, ↓e208_1448, ↓e208_1451, li_p0, li_p1, li_p2, li_p3, li_p4, li_p5, li_p6, li_p7, li_p8, li_p9, li_10, li_11, li_12, li_13, li_14, li_15, li_16, li_17, li_18, li_19, li_20, li_21, li_22, li_23, li_24, li_25, li_26, li_27, li_28, li_29, li_30, li_31, li_32, li_33, li_34, li_35, li_36, li_37, li_38, li_39, li_56, li_57, li_58, li_60, li_61, li_63, li_64, li_65, li_66, li_67, li_68, li_69, li_70, li_71, li_72, li_73, li_74, li_75, li_76, li_77, li_80, li_81, li_82, li_83, li_84, li_85, li_86, li_87, li_88, li_89, li_90, li_91, li_92, lw_q0, lw_q1, lw_q2, lw_q3, lw_q4, lw_q5, lw_q6, lw_q7, lw_q8, lw_q9, lw_10, lw_11, lw_12, lw_13, lw_14, lw_15, lw_16, lw_17, lw_18, lw_19, lw_20, lw_21, lw_22, lw_23, lw_24, lw_25, lw_26, lw_27, lw_28, lw_29, lw_30, lw_31, lw_32, lw_33, lw_34, lw_35, lw_36, lw_37, lw_38, lw_39, lw_56, lw_57, lw_58, lw_60, lw_61, lw_63, lw_64, lw_65, lw_66, lw_67, lw_68, lw_69, lw_70, lw_71, lw_72, lw_73, lw_74, lw_75, lw_76, lw_77, lw_80, lw_81, lw_82, lw_83, lw_84, lw_85, lw_86, lw_87, lw_88, lw_89, ll_78, ll_79, ll_s, rc6, rc2, rc3, rc5, rc7, rc1, rc0, rc4, rcs_0, rcs_1, rcs_2, rcs_3, rcs_4, mj_ib_nI, ↓reduceIte, mj_bdK, mj_ls, mj_ln, nI_clamp, nI_add, pk_mul, mj_nIeq0, mj_nIlt0, mj_nIle0, mj_nIeq, mj_nIle, mj_nIlt, mj_ok0, mj_ok1, mj_okb, mj_b0, mj_bR, mj_bR2, Nat.reduceEqDiff, li_98, hl, h0, l1, k0, k1, k2, k3, k4, k5, k6, k7, k8, k9, k10, k11, k12, k13, k14, k15, k16, k17, k18, k19, k20, k21, k22, k23, k24, k25, k26, k27, k28, k29, k30, k31, k32, k33, k34, k35, k36]
theorem mj_law_1 {len i : Nat} (hl : σ 99 0 = nI len) (hlen : len ≤ 3072) (hi : i + 6 ≤ len) (hx : mj_IX σ τ A G C) (hm : mj_IM σ τ A G C) : mj_go σ τ len i := by
  by_cases h : ∃ k, k < 37 ∧ σ 98 i &&& nI 63 = nI k
  · obtain ⟨k, hk, e⟩ := h
    rcases (show k = 0 ∨ k = 1 ∨ k = 2 ∨ k = 3 ∨ k = 4 ∨ k = 5 ∨ k = 6 ∨ k = 7 ∨ k = 8 ∨ k = 9 ∨ k = 10 ∨ k = 11 ∨ k = 12 ∨ k = 13 ∨ k = 14 ∨ k = 15 ∨ k = 16 ∨ k = 17 ∨ k = 18 ∨ k = 19 ∨ k = 20 ∨ k = 21 ∨ k = 22 ∨ k = 23 ∨ k = 24 ∨ k = 25 ∨ k = 26 ∨ k = 27 ∨ k = 28 ∨ k = 29 ∨ k = 30 ∨ k = 31 ∨ k = 32 ∨ k = 33 ∨ k = 34 ∨ k = 35 ∨ k = 36 by omega) with rfl | rfl | rfl | rfl | rfl | rfl | rfl | rfl | rfl | rfl | rfl | rfl | rfl | rfl | rfl | rfl | rfl | rfl | rfl | rfl | rfl | rfl | rfl | rfl | rfl | rfl | rfl | rfl | rfl | rfl | rfl | rfl | rfl | rfl | rfl | rfl | rfl
    · exact mj_law_0 hl hlen hi e hx hm
    · exact mj_law_1x hl hlen hi e hx hm
    · exact mj_law_2 hl hlen hi e hx hm
    · exact mj_law_3 hl hlen hi e hx hm
    · exact mj_law_4 hl hlen hi e hx hm
    · exact mj_law_5 hl hlen hi e hx hm
    · exact mj_law_6 hl hlen hi e hx hm
    · exact mj_law_7 hl hlen hi e hx hm
    · exact mj_law_8 hl hlen hi e hx hm
    · exact mj_law_9 hl hlen hi e hx hm
    · exact mj_law_10 hl hlen hi e hx hm
    · exact mj_law_11 hl hlen hi e hx hm
    · exact mj_law_12 hl hlen hi e hx hm
    · exact mj_law_13 hl hlen hi e hx hm
    · exact mj_law_14 hl hlen hi e hx hm
    · exact mj_law_15 hl hlen hi e hx hm
    · exact mj_law_16 hl hlen hi e hx hm
    · exact mj_law_17 hl hlen hi e hx hm
    · exact mj_law_18 hl hlen hi e hx hm
    · exact mj_law_19 hl hlen hi e hx hm
    · exact mj_law_20 hl hlen hi e hx hm
    · exact mj_law_21 hl hlen hi e hx hm
    · exact mj_law_22 hl hlen hi e hx hm
    · exact mj_law_23 hl hlen hi e hx hm
    · exact mj_law_24 hl hlen hi e hx hm
    · exact mj_law_25 hl hlen hi e hx hm
    · exact mj_law_26 hl hlen hi e hx hm
    · exact mj_law_27 hl hlen hi e hx hm
    · exact mj_law_28 hl hlen hi e hx hm
    · exact mj_law_29 hl hlen hi e hx hm
    · exact mj_law_30 hl hlen hi e hx hm
    · exact mj_law_31 hl hlen hi e hx hm
    · exact mj_law_32 hl hlen hi e hx hm
    · exact mj_law_33 hl hlen hi e hx hm
    · exact mj_law_34 hl hlen hi e hx hm
    · exact mj_law_35 hl hlen hi e hx hm
    · exact mj_law_36 hl hlen hi e hx hm
  · exact mj_law_d hl hlen hi (fun k hk e => h ⟨k, hk, e⟩) hx hm
theorem mj_lawL {len : Nat} (hlen : len ≤ 3072) : ∀ n i (A : mj_A) G C (σ : mj_S) (τ : mj_T), len < i + 6 * n + 6 → i ≤ len + 6 → mj_IX σ τ A G C → mj_IM σ τ A G C → σ 99 0 = nI len → ∃ σ' τ', mj_E 208 18 [some (.ref 98), some (.ref 0), some (.ref 62), some (.int (nI i))] [] σ τ = some (some (.int (nI 1)), σ', τ') := by
  have fin : ∀ i (σ : mj_S) (τ : mj_T), σ 99 0 = nI len → i ≤ len + 6 → len < i + 6 → ∃ σ' τ', mj_E 208 18 [some (.ref 98), some (.ref 0), some (.ref 62), some (.int (nI i))] [] σ τ = some (some (.int (nI 1)), σ', τ') := by
    intro i σ τ hl hi h
    have h0 : nI len - nI 6 < nI i := (mj_sub_lt6 (by omega) (by omega)).mpr h
    exact ⟨σ, τ, by simp (maxSteps := 1000000) (disch := first | assumption | omega) only [↓e208_18, ↓e208_19, ↓e208_20, ↓e208_21, ↓e208_23, ↓e208_24, ↓e208_27, ↓e208_28, ↓e208_29, ↓e208_30, ↓e208_32, ↓e208_33, ↓e208_1454, ↓e208_1455, li_p0, li_p1, li_p2, li_p3, li_p4, li_p5, li_p6, li_p7, li_p8, li_p9, li_10, li_11, li_12, li_13, li_14, li_15, li_16, li_17, li_18, li_19, li_20, li_21, li_22, li_23, li_24, li_25, li_26, li_27, li_28, li_29, li_30, li_31, li_32, li_33, li_34, li_35, li_36, li_37, li_38, li_39, li_56, li_57, li_58, li_60, li_61, li_63, li_64, li_65, li_66, li_67, li_68, li_69, li_70, li_71, li_72, li_73, li_74, li_75, li_76, li_77, li_80, li_81, li_82, li_83, li_84, li_85, li_86, li_87, li_88, li_89, li_90, li_91, li_92, lw_q0, lw_q1, lw_q2, lw_q3, lw_q4, lw_q5, lw_q6, lw_q7, lw_q8, lw_q9, lw_10, lw_11, lw_12, lw_13, lw_14, lw_15, lw_16, lw_17, lw_18, lw_19, lw_20, lw_21, lw_22, lw_23, lw_24, lw_25, lw_26, lw_27, lw_28, lw_29, lw_30, lw_31, lw_32, lw_33, lw_34, lw_35, lw_36, lw_37, lw_38, lw_39, lw_56, lw_57, lw_58, lw_60, lw_61, lw_63, lw_64, lw_65, lw_66, lw_67, lw_68, lw_69, lw_70, lw_71, lw_72, lw_73, lw_74, lw_75, lw_76, lw_77, lw_80, lw_81, lw_82, lw_83, lw_84, lw_85, lw_86, lw_87, lw_88, lw_89, ll_78, ll_79, ll_s, rc6, rc2, rc3, rc5, rc7, rc1, rc0, rc4, rcs_0, rcs_1, rcs_2, rcs_3, rcs_4, mj_ib_nI, ↓reduceIte, mj_bdK, mj_ls, mj_ln, nI_clamp, nI_add, pk_mul, mj_nIeq0, mj_nIlt0, mj_nIle0, mj_nIeq, mj_nIle, mj_nIlt, mj_ok0, mj_ok1, mj_okb, mj_b0, mj_bR, mj_bR2, Nat.reduceEqDiff, li_98, hl, h0]⟩
  intro n
  induction n with
  | zero => intro i A G C σ τ h hi hx hm hl; exact fin i σ τ hl hi (by omega)
  | succ n ih =>
    intro i A G C σ τ h hi hx hm hl
    by_cases hlt : len < i + 6
    · exact fin i σ τ hl hi hlt
    · obtain ⟨σ2, τ2, A', G', C', e, i1, i2, e9⟩ := mj_law_1 hl hlen (show i + 6 ≤ len by omega) hx hm
      rw [e]
      exact ih (i + 6) A' G' C' σ2 τ2 (by omega) (by omega) i1 i2 (by rw [e9]; exact hl)

end
