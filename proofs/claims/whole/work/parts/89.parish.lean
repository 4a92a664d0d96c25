/-! PARISH, both sides -/
section
variable {π ρ : Nat → Nat → Int32} {σ σm σ' σm' : mj_S} {τ τm : mj_T} {A : mj_A} {G C G2 C2 c g s n p w x m : Nat} {as : List Value} {v : Value} {T : Nat → Int32} {f pl nb wr : Int32} {t : Nat → Int32} {tn : Nat → Nat}
theorem pm_text (hs : s < 8) (hbs : σ 62 27 = nI (160 * s)) (hn : σ 62 29 = nI n) (hn2 : n ≤ 160) (hT : ∀ i, i < n → (τ 78 (160 * s + i)).toInt32 = T i) (hwd : ∀ i, i < 32 → σ 80 i = mj_wds.getD i 0) (hms : ∀ i, i < 4 → σ 82 i = ([6, 9, 60, 9] : List Int32).getD i 0) (hnm : ∀ i, i < 5 → σ 81 i = ([4, 5, 3, 2, 1] : List Int32).getD i 0) : ∀ k (π : Nat → Nat → Int32) G C p m nb (t : Nat → Int32), 161 ≤ k + p → p ≤ 160 → mj_wf π G C →
    (∀ fl, pp_all T n k π G C p m = .inl fl → ∃ g S', mj_C 150 [.ref 62] (mj_wb 64 62 π (pp_w σ (nI p) nb wr t)) τ = some (some (.int g), S', τ) ∧ ∃ π' G' C' pl' nb' t', mj_wf π' G' C' ∧ ∃ m', mj_E 153 62 [some (.ref 62), some (.int (nI s)), some (.int (nI 0)), some (.int (nI (m + 1))), some (.int g)] [] S' τ = mj_E 153 140 [some (.ref 62), some (.int (nI s)), some (.int (nI 0)), some (.int (nI m')), some (.int (nI 0))] [] (mj_wb 64 62 π' (pp_w σ pl' nb' (nI fl) t')) τ) ∧
    (∀ π' G' C' m', pp_all T n k π G C p m = .inr (π', G', C', m') → ∃ g S', mj_C 150 [.ref 62] (mj_wb 64 62 π (pp_w σ (nI p) nb wr t)) τ = some (some (.int g), S', τ) ∧ ∃ pl' nb' t', mj_wf π' G' C' ∧ G ≤ G' ∧ mj_E 153 62 [some (.ref 62), some (.int (nI s)), some (.int (nI 0)), some (.int (nI (m + 1))), some (.int g)] [] S' τ = some (some (.int (nI m')), mj_wb 64 62 π' (pp_w σ pl' nb' wr t'), τ)) := by
  intro k
  induction k with
  | zero => intro π G C p m nb t hk hp; omega
  | succ k ih =>
    intro π G C p m nb t hk hp hwf
    obtain ⟨z1, z2⟩ := pm_item (nb := nb) (wr := wr) (t := t) hwf hs hbs hn hn2 hT hwd hms hnm hp
    cases hit : pp_it T n π G C p with
    | inl fl =>
      obtain ⟨pl', nb', t', z3⟩ := z1 fl hit
      rw [pp_all_0 hit]
      refine ⟨fun fl e => ?_, fun _ _ _ _ e => (by cases e)⟩
      cases e
      exact ⟨_, _, z3, π, G, C, pl', nb', t', hwf, m + 1, by simp (maxSteps := 1000000) (disch := first | assumption | omega) only [↓e153_62, ↓e153_64, ↓e153_133, ↓e153_135, li_p0, li_p1, li_p2, li_p3, li_p4, li_p5, li_p6, li_p7, li_p8, li_p9, li_10, li_11, li_12, li_13, li_14, li_15, li_16, li_17, li_18, li_19, li_20, li_21, li_22, li_23, li_24, li_25, li_26, li_27, li_28, li_29, li_30, li_31, li_32, li_33, li_34, li_35, li_36, li_37, li_38, li_39, li_56, li_57, li_58, li_60, li_61, li_63, li_64, li_65, li_66, li_67, li_68, li_69, li_70, li_71, li_72, li_73, li_74, li_75, li_76, li_77, li_80, li_81, li_82, li_83, li_84, li_85, li_86, li_87, li_88, li_89, li_90, li_91, li_92, lw_q0, lw_q1, lw_q2, lw_q3, lw_q4, lw_q5, lw_q6, lw_q7, lw_q8, lw_q9, lw_10, lw_11, lw_12, lw_13, lw_14, lw_15, lw_16, lw_17, lw_18, lw_19, lw_20, lw_21, lw_22, lw_23, lw_24, lw_25, lw_26, lw_27, lw_28, lw_29, lw_30, lw_31, lw_32, lw_33, lw_34, lw_35, lw_36, lw_37, lw_38, lw_39, lw_56, lw_57, lw_58, lw_60, lw_61, lw_63, lw_64, lw_65, lw_66, lw_67, lw_68, lw_69, lw_70, lw_71, lw_72, lw_73, lw_74, lw_75, lw_76, lw_77, lw_80, lw_81, lw_82, lw_83, lw_84, lw_85, lw_86, lw_87, lw_88, lw_89, ll_78, ll_79, ll_s, rc6, rc2, rc3, rc5, rc7, rc1, rc0, rc4, rcs_0, rcs_1, rcs_2, rcs_3, rcs_4, mj_ib_nI, ↓reduceIte, mj_bdK, mj_ls, mj_ln, nI_clamp, nI_add, pk_mul, mj_nIeq0, mj_nIlt0, mj_nIle0, mj_nIeq, mj_nIle, mj_nIlt, mj_ok0, mj_ok1, mj_okb, mj_b0, mj_bR, mj_bR2, Nat.reduceEqDiff]⟩
    | inr q =>
      obtain ⟨π', G', C', p'⟩ := q
      obtain ⟨nb', t', z3⟩ := z2 π' G' C' p' hit
      obtain ⟨hw2, hpp, hGG⟩ := pp_it_P hwf hit
      have hpb := pp_it_b hit
      by_cases hlt : p' < n
      · have h4 : ¬ n ≤ p' := by omega
        have h5 : ¬ 1280 ≤ 160 * s + p' := by omega
        have e2 := hT p' hlt
        by_cases h59 : T p' = nI 59
        · rw [pp_all_g hit hlt h59]
          rw [h59] at e2
          obtain ⟨w1, w2⟩ := ih π' G' C' (p' + 1) (m + 1) nb' t' (by omega) (by omega) hw2
          refine ⟨fun fl e => ?_, fun π2 G2 C2 m2 e => ?_⟩
          · obtain ⟨g, S', y1, π2, G2, C2, pl2, nb2, t2, y2, m', y3⟩ := w1 fl e
            refine ⟨_, _, z3, π2, G2, C2, pl2, nb2, t2, y2, m', ?_⟩
            rw [← y3, e153_62]
            simp (maxSteps := 1000000) (disch := first | assumption | omega) only [↓e153_64, ↓e153_67, ↓e153_68, ↓e153_71, ↓e153_72, ↓e153_75, ↓e153_78, ↓e153_79, ↓e153_82, ↓e153_83, ↓e153_86, ↓e153_87, ↓e153_90, ↓e153_91, ↓e153_92, ↓e153_93, ↓e153_95, ↓e153_98, ↓e153_99, ↓e153_100, ↓e153_103, ↓e153_106, ↓e153_108, ↓e153_111, ↓e153_112, ↓e153_113, ↓e153_116, ↓e153_117, ↓e153_118, ↓e153_121, ↓e153_124, ↓e153_125, ↓e153_128, ↓e153_130, li_p0, li_p1, li_p2, li_p3, li_p4, li_p5, li_p6, li_p7, li_p8, li_p9, li_10, li_11, li_12, li_13, li_14, li_15, li_16, li_17, li_18, li_19, li_20, li_21, li_22, li_23, li_24, li_25, li_26, li_27, li_28, li_29, li_30, li_31, li_32, li_33, li_34, li_35, li_36, li_37, li_38, li_39, li_56, li_57, li_58, li_60, li_61, li_63, li_64, li_65, li_66, li_67, li_68, li_69, li_70, li_71, li_72, li_73, li_74, li_75, li_76, li_77, li_80, li_81, li_82, li_83, li_84, li_85, li_86, li_87, li_88, li_89, li_90, li_91, li_92, lw_q0, lw_q1, lw_q2, lw_q3, lw_q4, lw_q5, lw_q6, lw_q7, lw_q8, lw_q9, lw_10, lw_11, lw_12, lw_13, lw_14, lw_15, lw_16, lw_17, lw_18, lw_19, lw_20, lw_21, lw_22, lw_23, lw_24, lw_25, lw_26, lw_27, lw_28, lw_29, lw_30, lw_31, lw_32, lw_33, lw_34, lw_35, lw_36, lw_37, lw_38, lw_39, lw_56, lw_57, lw_58, lw_60, lw_61, lw_63, lw_64, lw_65, lw_66, lw_67, lw_68, lw_69, lw_70, lw_71, lw_72, lw_73, lw_74, lw_75, lw_76, lw_77, lw_80, lw_81, lw_82, lw_83, lw_84, lw_85, lw_86, lw_87, lw_88, lw_89, ll_78, ll_79, ll_s, rc6, rc2, rc3, rc5, rc7, rc1, rc0, rc4, rcs_0, rcs_1, rcs_2, rcs_3, rcs_4, mj_ib_nI, ↓reduceIte, mj_bdK, mj_ls, mj_ln, nI_clamp, nI_add, pk_mul, mj_nIeq0, mj_nIlt0, mj_nIle0, mj_nIeq, mj_nIle, mj_nIlt, mj_ok0, mj_ok1, mj_okb, mj_b0, mj_bR, mj_bR2, Nat.reduceEqDiff, pm_p, pm_e, pm_b, hbs, hn, h4, h5, e2, pm_up, y1]
          · obtain ⟨g, S', y1, pl2, nb2, t2, y2, y4, y3⟩ := w2 π2 G2 C2 m2 e
            refine ⟨_, _, z3, pl2, nb2, t2, y2, Nat.le_trans hGG y4, ?_⟩
            rw [← y3, e153_62]
            simp (maxSteps := 1000000) (disch := first | assumption | omega) only [↓e153_64, ↓e153_67, ↓e153_68, ↓e153_71, ↓e153_72, ↓e153_75, ↓e153_78, ↓e153_79, ↓e153_82, ↓e153_83, ↓e153_86, ↓e153_87, ↓e153_90, ↓e153_91, ↓e153_92, ↓e153_93, ↓e153_95, ↓e153_98, ↓e153_99, ↓e153_100, ↓e153_103, ↓e153_106, ↓e153_108, ↓e153_111, ↓e153_112, ↓e153_113, ↓e153_116, ↓e153_117, ↓e153_118, ↓e153_121, ↓e153_124, ↓e153_125, ↓e153_128, ↓e153_130, li_p0, li_p1, li_p2, li_p3, li_p4, li_p5, li_p6, li_p7, li_p8, li_p9, li_10, li_11, li_12, li_13, li_14, li_15, li_16, li_17, li_18, li_19, li_20, li_21, li_22, li_23, li_24, li_25, li_26, li_27, li_28, li_29, li_30, li_31, li_32, li_33, li_34, li_35, li_36, li_37, li_38, li_39, li_56, li_57, li_58, li_60, li_61, li_63, li_64, li_65, li_66, li_67, li_68, li_69, li_70, li_71, li_72, li_73, li_74, li_75, li_76, li_77, li_80, li_81, li_82, li_83, li_84, li_85, li_86, li_87, li_88, li_89, li_90, li_91, li_92, lw_q0, lw_q1, lw_q2, lw_q3, lw_q4, lw_q5, lw_q6, lw_q7, lw_q8, lw_q9, lw_10, lw_11, lw_12, lw_13, lw_14, lw_15, lw_16, lw_17, lw_18, lw_19, lw_20, lw_21, lw_22, lw_23, lw_24, lw_25, lw_26, lw_27, lw_28, lw_29, lw_30, lw_31, lw_32, lw_33, lw_34, lw_35, lw_36, lw_37, lw_38, lw_39, lw_56, lw_57, lw_58, lw_60, lw_61, lw_63, lw_64, lw_65, lw_66, lw_67, lw_68, lw_69, lw_70, lw_71, lw_72, lw_73, lw_74, lw_75, lw_76, lw_77, lw_80, lw_81, lw_82, lw_83, lw_84, lw_85, lw_86, lw_87, lw_88, lw_89, ll_78, ll_79, ll_s, rc6, rc2, rc3, rc5, rc7, rc1, rc0, rc4, rcs_0, rcs_1, rcs_2, rcs_3, rcs_4, mj_ib_nI, ↓reduceIte, mj_bdK, mj_ls, mj_ln, nI_clamp, nI_add, pk_mul, mj_nIeq0, mj_nIlt0, mj_nIle0, mj_nIeq, mj_nIle, mj_nIlt, mj_ok0, mj_ok1, mj_okb, mj_b0, mj_bR, mj_bR2, Nat.reduceEqDiff, pm_p, pm_e, pm_b, hbs, hn, h4, h5, e2, pm_up, y1]
        · rw [pp_all_s hit hlt h59]
          refine ⟨fun fl e => ?_, fun _ _ _ _ e => (by cases e)⟩
          cases e
          refine ⟨_, _, z3, π', G', C', nI p', nb', t', hw2, m + 1, ?_⟩
          rw [e153_62]
          simp (maxSteps := 1000000) (disch := first | assumption | omega) only [↓e153_62, ↓e153_64, ↓e153_67, ↓e153_68, ↓e153_71, ↓e153_72, ↓e153_75, ↓e153_78, ↓e153_79, ↓e153_82, ↓e153_83, ↓e153_86, ↓e153_87, ↓e153_90, ↓e153_91, ↓e153_92, ↓e153_93, ↓e153_95, ↓e153_98, ↓e153_99, ↓e153_100, ↓e153_103, ↓e153_106, ↓e153_108, ↓e153_133, ↓e153_135, li_p0, li_p1, li_p2, li_p3, li_p4, li_p5, li_p6, li_p7, li_p8, li_p9, li_10, li_11, li_12, li_13, li_14, li_15, li_16, li_17, li_18, li_19, li_20, li_21, li_22, li_23, li_24, li_25, li_26, li_27, li_28, li_29, li_30, li_31, li_32, li_33, li_34, li_35, li_36, li_37, li_38, li_39, li_56, li_57, li_58, li_60, li_61, li_63, li_64, li_65, li_66, li_67, li_68, li_69, li_70, li_71, li_72, li_73, li_74, li_75, li_76, li_77, li_80, li_81, li_82, li_83, li_84, li_85, li_86, li_87, li_88, li_89, li_90, li_91, li_92, lw_q0, lw_q1, lw_q2, lw_q3, lw_q4, lw_q5, lw_q6, lw_q7, lw_q8, lw_q9, lw_10, lw_11, lw_12, lw_13, lw_14, lw_15, lw_16, lw_17, lw_18, lw_19, lw_20, lw_21, lw_22, lw_23, lw_24, lw_25, lw_26, lw_27, lw_28, lw_29, lw_30, lw_31, lw_32, lw_33, lw_34, lw_35, lw_36, lw_37, lw_38, lw_39, lw_56, lw_57, lw_58, lw_60, lw_61, lw_63, lw_64, lw_65, lw_66, lw_67, lw_68, lw_69, lw_70, lw_71, lw_72, lw_73, lw_74, lw_75, lw_76, lw_77, lw_80, lw_81, lw_82, lw_83, lw_84, lw_85, lw_86, lw_87, lw_88, lw_89, ll_78, ll_79, ll_s, rc6, rc2, rc3, rc5, rc7, rc1, rc0, rc4, rcs_0, rcs_1, rcs_2, rcs_3, rcs_4, mj_ib_nI, ↓reduceIte, mj_bdK, mj_ls, mj_ln, nI_clamp, nI_add, pk_mul, mj_nIeq0, mj_nIlt0, mj_nIle0, mj_nIeq, mj_nIle, mj_nIlt, mj_ok0, mj_ok1, mj_okb, mj_b0, mj_bR, mj_bR2, Nat.reduceEqDiff, pm_p, pm_e, pm_b, hbs, hn, h4, h5, e2, h59, pm_wrong]
      · have h4 : n ≤ p' := by omega
        rw [pp_all_e hit hlt]
        refine ⟨fun fl e => (by cases e), fun _ _ _ _ e => ?_⟩
        cases e
        exact ⟨_, _, z3, nI p', nb', t', hw2, hGG, by simp (maxSteps := 1000000) (disch := first | assumption | omega) only [↓e153_62, ↓e153_64, ↓e153_67, ↓e153_68, ↓e153_71, ↓e153_72, ↓e153_75, ↓e153_133, ↓e153_135, ↓e153_138, ↓e153_139, li_p0, li_p1, li_p2, li_p3, li_p4, li_p5, li_p6, li_p7, li_p8, li_p9, li_10, li_11, li_12, li_13, li_14, li_15, li_16, li_17, li_18, li_19, li_20, li_21, li_22, li_23, li_24, li_25, li_26, li_27, li_28, li_29, li_30, li_31, li_32, li_33, li_34, li_35, li_36, li_37, li_38, li_39, li_56, li_57, li_58, li_60, li_61, li_63, li_64, li_65, li_66, li_67, li_68, li_69, li_70, li_71, li_72, li_73, li_74, li_75, li_76, li_77, li_80, li_81, li_82, li_83, li_84, li_85, li_86, li_87, li_88, li_89, li_90, li_91, li_92, lw_q0, lw_q1, lw_q2, lw_q3, lw_q4, lw_q5, lw_q6, lw_q7, lw_q8, lw_q9, lw_10, lw_11, lw_12, lw_13, lw_14, lw_15, lw_16, lw_17, lw_18, lw_19, lw_20, lw_21, lw_22, lw_23, lw_24, lw_25, lw_26, lw_27, lw_28, lw_29, lw_30, lw_31, lw_32, lw_33, lw_34, lw_35, lw_36, lw_37, lw_38, lw_39, lw_56, lw_57, lw_58, lw_60, lw_61, lw_63, lw_64, lw_65, lw_66, lw_67, lw_68, lw_69, lw_70, lw_71, lw_72, lw_73, lw_74, lw_75, lw_76, lw_77, lw_80, lw_81, lw_82, lw_83, lw_84, lw_85, lw_86, lw_87, lw_88, lw_89, ll_78, ll_79, ll_s, rc6, rc2, rc3, rc5, rc7, rc1, rc0, rc4, rcs_0, rcs_1, rcs_2, rcs_3, rcs_4, mj_ib_nI, ↓reduceIte, mj_bdK, mj_ls, mj_ln, nI_clamp, nI_add, pk_mul, mj_nIeq0, mj_nIlt0, mj_nIle0, mj_nIeq, mj_nIle, mj_nIlt, mj_ok0, mj_ok1, mj_okb, mj_b0, mj_bR, mj_bR2, Nat.reduceEqDiff, pm_p, pm_e, hn, h4]⟩

theorem mj_IX_ft (h : mj_IX σ τ A G C) {v : Int32} : mj_IX (mj_up σ 0 9 v) τ (A.1, A.2.1, v, A.2.2.2) G C := by
  obtain ⟨a1, a2, a3, a4, a5, a6, a7, a8, a9, a10, a11, a12, a13, a14⟩ := h
  have e : ∀ k, ¬ k = 0 → mj_up σ 0 9 v k = σ k := fun k hk => mj_pv_up9 hk
  have p : ∀ p, 1 ≤ p → p < 4 → mj_pv (10 * p) p (mj_up σ 0 9 v) = mj_pv (10 * p) p σ := fun p h1 hp => mj_pv_of (fun j hj => e _ (by omega)) (fun i hi => by rw [e _ (by omega)])
  refine ⟨a1, by rw [p 1 (by decide) (by decide)]; exact a2, a3, by rw [p 2 (by decide) (by decide)]; exact a4, by rw [p 3 (by decide) (by decide)]; exact a5, by rw [e 61 (by decide)]; exact a6, mj_up_at, by rw [p 3 (by decide) (by decide), mj_up_at2 (by decide)]; exact a8, fun s hs => ?_, a10, by rw [e 59 (by decide)]; exact a11, a12, by rw [e 60 (by decide)]; exact a13, ?_⟩
  · unfold mj_shX; rw [e (40 + s) (by omega)]; exact a9 s hs
  · unfold mj_kc; rw [e 90 (by decide), e 91 (by decide), e 92 (by decide)]; exact a14
theorem mj_IM_ft (h : mj_IM σ τ A G C) {v : Int32} : mj_IM (mj_up σ 62 5 v) τ (A.1, A.2.1, v, A.2.2.2) G C := by
  have e : ∀ k, ¬ k = 62 → mj_up σ 62 5 v k = σ k := fun k hk => mj_pv_up9 hk
  have f : ∀ i, ¬ i = 5 → mj_up σ 62 5 v 62 i = σ 62 i := fun i hi => mj_up_at2 hi
  obtain ⟨a1, a2, a3, a4, a5, a6, a7⟩ := h
  unfold mj_IM
  rw [mj_pv_of (σ := σ) (fun j hj => e _ (by omega)) (fun i hi => f i (by omega)), e 63 (by decide), f 42 (by decide), f 41 (by decide), e 85 (by decide), e 74 (by decide), e 75 (by decide), e 76 (by decide), e 77 (by decide), e 89 (by decide), e 80 (by decide), e 81 (by decide), e 82 (by decide)]
  exact ⟨a1, a2, a3, a4, mj_up_at, a6, a7⟩
theorem pp_r_eta : pp_r σ (σ 9 0) (σ 9 2) (σ 58) = σ := by
  funext k i
  unfold pp_r
  by_cases h : k = 9
  · subst h
    rw [if_pos rfl]
    by_cases h0 : i = 0
    · subst h0; rfl
    · rw [if_neg h0]
      by_cases h2 : i = 2
      · subst h2; rfl
      · rw [if_neg h2]
  · rw [if_neg h]
    by_cases h5 : k = 58 ∧ i < 5
    · rw [if_pos h5, h5.1]
    · rw [if_neg h5]
theorem pp_w_eta : pp_w σ (σ 62 28) (σ 62 30) (σ 62 31) (σ 83) = σ := by
  funext k i
  unfold pp_w
  by_cases h : k = 62
  · subst h
    rw [if_pos rfl]
    by_cases h0 : i = 28
    · subst h0; rfl
    · rw [if_neg h0]
      by_cases h2 : i = 30
      · subst h2; rfl
      · rw [if_neg h2]
        by_cases h3 : i = 31
        · subst h3; rfl
        · rw [if_neg h3]
  · rw [if_neg h]
    by_cases h5 : k = 83 ∧ i < 5
    · rw [if_pos h5, h5.1]
    · rw [if_neg h5]
theorem mj_IX_rd (h : mj_IX σ τ A G C) (hw : mj_wf ρ G2 C2) : mj_IX (mj_wb 20 2 ρ (pp_r σ f pl t)) τ A G C := by
  refine mj_IX_sc h (fun k hk => ?_) ⟨G2, C2, ?_⟩
  · unfold mj_sc_ at hk
    rw [mj_wb_ne (by omega) (by omega), pp_r_ne (by omega) (by omega)]
  · rw [mj_pv_wb (by decide) hw]; exact hw
theorem mj_IM_rd (h : mj_IM σ τ A G C) : mj_IM (pp_w σ pl nb wr t) τ A G C := by
  refine mj_IM_sc h (fun k i hk => ?_) (fun _ _ => rfl)
  unfold mj_sm_ at hk
  unfold pp_w
  by_cases h : k = 62
  · subst h
    rw [if_pos rfl, if_neg (by omega), if_neg (by omega), if_neg (by omega)]
  · rw [if_neg h, if_neg (by omega)]
theorem pp_ns_fl : ∀ r i (tn : Nat → Nat) p fl, p ≤ 200 → n ≤ 160 → pp_ns T n π G C w r i tn p = .inl fl → fl ≤ 201 := by
  intro r
  induction r with
  | zero => intro i tn p fl _ _ e; cases e
  | succ r ih =>
    intro i tn p fl hp hn e
    by_cases hb : pp_bl T n p
    · rw [pp_ns_y hb] at e
      cases hu : pp_nu T n (p + 1) with
      | none => rw [pp_n1_0 hu] at e; cases e; omega
      | some q =>
        obtain ⟨v, p2⟩ := q
        obtain ⟨-, k2, -⟩ := pp_nu_P hu
        by_cases ho : pp_ok π G C w i v tn
        · rw [pp_n1_y hu ho] at e
          exact ih (i + 1) _ p2 fl (by omega) hn e
        · rw [pp_n1_n hu ho] at e; cases e; omega
    · rw [pp_ns_n hb] at e; cases e; omega
theorem pp_lo_le : pp_lo T n p ≤ 5 := by
  unfold pp_lo
  have b : ∀ w, pp_a T n p w ≤ 5 := fun w => Nat.le_trans (pp_al_le _ _) pp_len_le
  exact pp_max_le (pp_max_le (pp_max_le (pp_max_le (pp_max_le (Nat.zero_le _) (b 0)) (b 1)) (b 2)) (b 3)) (b 4)
theorem pp_it_fl {fl : Nat} (hp : p ≤ 160) (hn : n ≤ 160) (e : pp_it T n π G C p = .inl fl) : fl ≤ 201 := by
  cases hf : pp_fw T n p with
  | none =>
    rw [pp_it_0 hf] at e
    cases e
    have := pp_lo_le (T := T) (n := n) (p := p)
    omega
  | some w =>
    by_cases hr : pp_rm G C w
    · cases hu : pp_ns T n π G C w (pp_nm w) 0 (fun _ => 0) (p + pp_len w) with
      | inl f =>
        rw [pp_it_f hf hr hu] at e
        cases e
        exact pp_ns_fl _ _ _ _ _ (by have := pp_len_le (w := w); omega) hn hu
      | inr q =>
        obtain ⟨t, p2⟩ := q
        rw [pp_it_y hf hr hu] at e; cases e
    · rw [pp_it_r hf hr] at e; cases e; omega
theorem pp_all_fl (hn : n ≤ 160) : ∀ k (π : Nat → Nat → Int32) G C p m fl, p ≤ 160 → mj_wf π G C → pp_all T n k π G C p m = .inl fl → fl ≤ 201 := by
  intro k
  induction k with
  | zero => intro π G C p m fl hp _ e; cases e; omega
  | succ k ih =>
    intro π G C p m fl hp hw e
    cases hit : pp_it T n π G C p with
    | inl f => rw [pp_all_0 hit] at e; cases e; exact pp_it_fl hp hn hit
    | inr q =>
      obtain ⟨π', G', C', p'⟩ := q
      by_cases hlt : p' < n
      · by_cases h59 : T p' = nI 59
        · rw [pp_all_g hit hlt h59] at e
          exact ih π' G' C' (p' + 1) (m + 1) fl (by omega) (pp_it_P hw hit).1 e
        · rw [pp_all_s hit hlt h59] at e; cases e; omega
      · rw [pp_all_e hit hlt] at e; cases e
def pm_s0 (σ : mj_S) (A : mj_A) (s n : Nat) : mj_S := mj_up (mj_up (mj_up (mj_up (mj_fl σ 84 (mj_flat A.1) 117) 62 27 (nI (160 * s))) 62 28 (nI 0)) 62 29 (nI n)) 62 5 (-1)
theorem pm_s0_ne {k : Nat} (h1 : ¬ k = 62) (h2 : ¬ k = 84) : pm_s0 σ A s n k = σ k := by
  unfold pm_s0
  rw [mj_pv_up9 h1, mj_pv_up9 h1, mj_pv_up9 h1, mj_pv_up9 h1, mj_fl_ne h2]
theorem pm_s0_f {i : Nat} (h1 : ¬ i = 27) (h2 : ¬ i = 28) (h3 : ¬ i = 29) (h4 : ¬ i = 5) : pm_s0 σ A s n 62 i = σ 62 i := by
  unfold pm_s0
  rw [mj_up_at2 h4, mj_up_at2 h3, mj_up_at2 h2, mj_up_at2 h1, mj_fl_ne (by decide)]
theorem mj_IM_s0 (h : mj_IM σ τ A G C) : mj_IM (pm_s0 σ A s n) τ (A.1, A.2.1, -1, A.2.2.2) G C := by
  refine mj_IM_ft (mj_IM_sc h (fun k i hk => ?_) (fun _ _ => rfl))
  unfold mj_sm_ at hk
  rw [mj_up_k2 (by omega), mj_up_k2 (by omega), mj_up_k2 (by omega), mj_fl_ne (by omega)]
theorem pm_s0_pv (h : mj_IM σ τ A G C) : mj_wb 64 62 A.1 (pm_s0 σ A s n) = pm_s0 σ A s n := by
  have e : mj_pv 64 62 (pm_s0 σ A s n) = A.1 := (mj_IM_s0 (s := s) (n := n) h).2.1
  have z := mj_wb_pv (B := 64) (O := 62) (σ := pm_s0 σ A s n)
  rw [e] at z
  exact z

theorem bo_parish {a : Int32} : mj_bo 88 153 [.int a] := by
  intro A G C σ τ σm τm hx hm
  have hp := mj_IX_wp hx
  have hw := mj_IM_wm hm
  obtain ⟨o0, o1, o2, o3, o4⟩ := mj_IX_o hx
  obtain ⟨m0, m1, m2, m3, m4⟩ := mj_IM_o hm
  have hG8 := hx.1.1.1
  have hC6 := hx.1.1.2.1
  have n3 : ¬ (-3 : Int32) = 0 := by decide
  have n2x : ¬ (-2 : Int32) = 0 := by decide
  by_cases h1 : mj_ix a 8
  · obtain ⟨s, hs, rfl⟩ := id h1
    rcases mj_shc hx hm hs with ⟨x0, x1, x2, y0, w0⟩ | ⟨k, n, hk, hn, x0, x1, x2, y0, y1, y2, w0, w1, w2⟩ | ⟨g, hg, x0, x1, x2, y0, y1, w0⟩
    · exact mj_b_rf (b := 3) (v := .int (-3)) (by simp (maxSteps := 1000000) (disch := first | assumption | omega) only [c88, ↓e88_0, ↓e88_1, ↓e88_2, ↓e88_5, ↓e88_5n, ↓e88_6, ↓e88_6n, ↓e88_7, ↓e88_7n, ↓e88_10, ↓e88_11, ↓e88_11n, ↓e88_12, ↓e88_12n, ↓e88_15, ↓e88_16, ↓e88_19, ↓e88_20, ↓e88_21, ↓e88_24, ↓e88_25, ↓e88_26, ↓e88_29, ↓e88_30, ↓e88_33, ↓e88_36, ↓e88_37, ↓e88_40, ↓e88_41, ↓e88_44, ↓e88_44n, ↓e88_45, ↓e88_48, ↓e88_50, ↓e88_51, ↓e88_52, ↓e88_55, ↓e88_58, ↓e88_61, ↓e88_62, ↓e88_65, ↓e88_66, ↓e88_69, ↓e88_70, ↓e88_72, ↓e88_75, ↓e88_76, ↓e88_77, ↓e88_80, ↓e88_81, ↓e88_84, ↓e88_87, ↓e88_89, li_p0, li_p1, li_p2, li_p3, li_p4, li_p5, li_p6, li_p7, li_p8, li_p9, li_10, li_11, li_12, li_13, li_14, li_15, li_16, li_17, li_18, li_19, li_20, li_21, li_22, li_23, li_24, li_25, li_26, li_27, li_28, li_29, li_30, li_31, li_32, li_33, li_34, li_35, li_36, li_37, li_38, li_39, li_56, li_57, li_58, li_60, li_61, li_63, li_64, li_65, li_66, li_67, li_68, li_69, li_70, li_71, li_72, li_73, li_74, li_75, li_76, li_77, li_80, li_81, li_82, li_83, li_84, li_85, li_86, li_87, li_88, li_89, li_90, li_91, li_92, lw_q0, lw_q1, lw_q2, lw_q3, lw_q4, lw_q5, lw_q6, lw_q7, lw_q8, lw_q9, lw_10, lw_11, lw_12, lw_13, lw_14, lw_15, lw_16, lw_17, lw_18, lw_19, lw_20, lw_21, lw_22, lw_23, lw_24, lw_25, lw_26, lw_27, lw_28, lw_29, lw_30, lw_31, lw_32, lw_33, lw_34, lw_35, lw_36, lw_37, lw_38, lw_39, lw_56, lw_57, lw_58, lw_60, lw_61, lw_63, lw_64, lw_65, lw_66, lw_67, lw_68, lw_69, lw_70, lw_71, lw_72, lw_73, lw_74, lw_75, lw_76, lw_77, lw_80, lw_81, lw_82, lw_83, lw_84, lw_85, lw_86, lw_87, lw_88, lw_89, ll_78, ll_79, ll_s, rc6, rc2, rc3, rc5, rc7, rc1, rc0, rc4, rcs_0, rcs_1, rcs_2, rcs_3, rcs_4, mj_ib_nI, ↓reduceIte, mj_bdK, mj_ls, mj_ln, nI_clamp, nI_add, pk_mul, mj_nIeq0, mj_nIlt0, mj_nIle0, mj_nIeq, mj_nIle, mj_nIlt, mj_ok0, mj_ok1, mj_okb, mj_b0, mj_bR, mj_bR2, Nat.reduceEqDiff, s_X2_hasGrown hp, s_X2_hasChild hp, s_X7_isWithin, not_true_eq_false, not_false_eq_true, s_X7_refuse3, n3, n2x, s_X7_shelfAt hs, c115, c115n, ↓e115_0, ↓e115_1, ↓e115_1n, ↓e115_4, ↓e115_5, ↓e115_6, ↓e115_7, ↓e115_10, ↓e115_13, ↓e115_15, ↓e115_16, ↓e115_17, ↓e115_20, ↓e115_23, ↓e115_24, ↓e115_27, ↓e115_29, c61, ↓e61_0, ↓e61_1, ↓e61_4, ↓e61_5, ↓e61_8, ↓e61_9, ↓e61_12, ↓e61_13, c62, ↓e62_0, ↓e62_1, ↓e62_4, ↓e62_5, ↓e62_8, ↓e62_9, ↓e62_12, ↓e62_13, mj_bR, mj_bR2, x0, x1]) (by simp (maxSteps := 1000000) (disch := first | assumption | omega) only [c153, ↓e153_0, ↓e153_1, ↓e153_2, ↓e153_5, ↓e153_6, ↓e153_7, ↓e153_10, ↓e153_11, ↓e153_12, ↓e153_15, ↓e153_16, ↓e153_17, ↓e153_18, ↓e153_21, ↓e153_22, ↓e153_25, ↓e153_26, ↓e153_29, ↓e153_30, ↓e153_31, ↓e153_34, ↓e153_35, ↓e153_36, ↓e153_39, ↓e153_40, ↓e153_41, ↓e153_44, ↓e153_45, ↓e153_46, ↓e153_49, ↓e153_50, ↓e153_51, ↓e153_54, ↓e153_55, ↓e153_56, ↓e153_57, ↓e153_60, ↓e153_64, ↓e153_67, ↓e153_68, ↓e153_71, ↓e153_72, ↓e153_75, ↓e153_78, ↓e153_79, ↓e153_82, ↓e153_83, ↓e153_86, ↓e153_87, ↓e153_90, ↓e153_91, ↓e153_92, ↓e153_93, ↓e153_95, ↓e153_98, ↓e153_99, ↓e153_100, ↓e153_103, ↓e153_106, ↓e153_108, ↓e153_111, ↓e153_112, ↓e153_113, ↓e153_116, ↓e153_117, ↓e153_118, ↓e153_121, ↓e153_124, ↓e153_125, ↓e153_128, ↓e153_130, ↓e153_133, ↓e153_135, ↓e153_138, ↓e153_139, ↓e153_140, ↓e153_141, ↓e153_142, ↓e153_145, ↓e153_146, ↓e153_149, ↓e153_150, ↓e153_151, ↓e153_154, ↓e153_157, ↓e153_158, ↓e153_160, ↓e153_163, li_p0, li_p1, li_p2, li_p3, li_p4, li_p5, li_p6, li_p7, li_p8, li_p9, li_10, li_11, li_12, li_13, li_14, li_15, li_16, li_17, li_18, li_19, li_20, li_21, li_22, li_23, li_24, li_25, li_26, li_27, li_28, li_29, li_30, li_31, li_32, li_33, li_34, li_35, li_36, li_37, li_38, li_39, li_56, li_57, li_58, li_60, li_61, li_63, li_64, li_65, li_66, li_67, li_68, li_69, li_70, li_71, li_72, li_73, li_74, li_75, li_76, li_77, li_80, li_81, li_82, li_83, li_84, li_85, li_86, li_87, li_88, li_89, li_90, li_91, li_92, lw_q0, lw_q1, lw_q2, lw_q3, lw_q4, lw_q5, lw_q6, lw_q7, lw_q8, lw_q9, lw_10, lw_11, lw_12, lw_13, lw_14, lw_15, lw_16, lw_17, lw_18, lw_19, lw_20, lw_21, lw_22, lw_23, lw_24, lw_25, lw_26, lw_27, lw_28, lw_29, lw_30, lw_31, lw_32, lw_33, lw_34, lw_35, lw_36, lw_37, lw_38, lw_39, lw_56, lw_57, lw_58, lw_60, lw_61, lw_63, lw_64, lw_65, lw_66, lw_67, lw_68, lw_69, lw_70, lw_71, lw_72, lw_73, lw_74, lw_75, lw_76, lw_77, lw_80, lw_81, lw_82, lw_83, lw_84, lw_85, lw_86, lw_87, lw_88, lw_89, ll_78, ll_79, ll_s, rc6, rc2, rc3, rc5, rc7, rc1, rc0, rc4, rcs_0, rcs_1, rcs_2, rcs_3, rcs_4, mj_ib_nI, ↓reduceIte, mj_bdK, mj_ls, mj_ln, nI_clamp, nI_add, pk_mul, mj_nIeq0, mj_nIlt0, mj_nIle0, mj_nIeq, mj_nIle, mj_nIlt, mj_ok0, mj_ok1, mj_okb, mj_b0, mj_bR, mj_bR2, Nat.reduceEqDiff, s_X8_isGrown hw, s_X8_isChild hw, s_X8_isFrom, not_true_eq_false, not_false_eq_true, s_X8_no3, n3, n2x, s_X8_isShelf, mj_bt1 h1, c130, ↓e130_0, ↓e130_1, ↓e130_2, ↓e130_5, ↓e130_8, ↓e130_9, ↓e130_12, ↓e130_13, ↓e130_16, ↓e130_17, ↓e130_18, ↓e130_19, ↓e130_22, ↓e130_24, ↓e130_27, ↓e130_28, ↓e130_31, ↓e130_32, ↓e130_33, ↓e130_36, ↓e130_38, ↓e130_41, ↓e130_42, y0]) hx hm
    · have nk := mj_n1k (k := k) (by omega)
      obtain ⟨G3, C3, w3⟩ := hx.2.2.2.1
      have cf := s_X2_copyFrom (p := 2) (q := 1) (σ := σ) (τ := τ) (by decide) (by decide) (by decide) (by decide) (by decide) w3 (hx.2.1 ▸ hx.1)
      rw [hx.2.1] at cf
      have cf2 : mj_C 6 [.ref 2, .ref 1] σ τ = some (none, mj_wb 20 2 A.1 (pp_r σ (σ 9 0) (σ 9 2) (σ 58)), τ) := by rw [pp_r_eta]; exact cf
      have hTx : ∀ i, i < n → (τ (40 + s + 8) i).toInt32 = (A.2.2.2.2.2.1 s i).toInt32 := fun i hi => by
        rw [show 40 + s + 8 = 48 + s by omega, hx.2.2.2.2.2.2.2.2.2.1 s hs i (by omega)]
      have hTm : ∀ i, i < n → (τm 78 (160 * s + i)).toInt32 = (A.2.2.2.2.2.1 s i).toInt32 := fun i hi => by
        rw [hm.2.2.2.2.2.2.2.1 s hs i (by omega)]
      obtain ⟨tx1, tx2⟩ := pc_text (σ := σ) (τ := τ) (T := fun i => (A.2.2.2.2.2.1 s i).toInt32) hs x2 hn hTx hx.2.2.2.2.2.2.2.2.2.2.2.2.2 161 A.1 G C 0 0 (σ 58) (by decide) (by decide) (by decide) (by decide) hx.1
      have al := s_X8_all_f (σ := σm) (τ := τm) (q := 84) (by decide)
      rw [hm.2.1] at al
      have es : pm_s0 σm A s n = mj_wb 64 62 A.1 (pp_w (pm_s0 σm A s n) (nI 0) (pm_s0 σm A s n 62 30) (pm_s0 σm A s n 62 31) (pm_s0 σm A s n 83)) := by
        have z : pp_w (pm_s0 σm A s n) (nI 0) (pm_s0 σm A s n 62 30) (pm_s0 σm A s n 62 31) (pm_s0 σm A s n 83) = pm_s0 σm A s n := by
          have q : pm_s0 σm A s n 62 28 = nI 0 := by unfold pm_s0; rw [mj_up_at2 (by decide), mj_up_at2 (by decide), mj_up_at]
          have q2 := pp_w_eta (σ := pm_s0 σm A s n)
          rw [q] at q2
          exact q2
        rw [z, pm_s0_pv hm]
      have d5 : ∀ a b, mj_up (mj_up (mj_fl σm 84 (mj_flat A.1) 117) 62 27 a) 62 28 b 76 s = nI n := fun a b => by rw [mj_pv_up9 (by decide), mj_pv_up9 (by decide), mj_fl_ne (by decide)]; exact y2
      obtain ⟨tm1, tm2⟩ := pm_text (σ := pm_s0 σm A s n) (τ := τm) (wr := pm_s0 σm A s n 62 31) (T := fun i => (A.2.2.2.2.2.1 s i).toInt32) hs (by unfold pm_s0; rw [mj_up_at2 (by decide), mj_up_at2 (by decide), mj_up_at2 (by decide), mj_up_at]) (by unfold pm_s0; rw [mj_up_at2 (by decide), mj_up_at]) hn hTm (fun i hi => by rw [pm_s0_ne (by decide) (by decide)]; exact hm.2.2.2.2.2.2.2.2.2.2.2.1 i hi) (fun i hi => by rw [pm_s0_ne (by decide) (by decide)]; exact hm.2.2.2.2.2.2.2.2.2.2.2.2.2 i hi) (fun i hi => by rw [pm_s0_ne (by decide) (by decide)]; exact hm.2.2.2.2.2.2.2.2.2.2.2.2.1 i hi) 161 A.1 G C 0 0 (pm_s0 σm A s n 62 30) (pm_s0 σm A s n 83) (by decide) (by decide) hx.1
      rw [← es] at tm1 tm2
      have ps : mj_up (mj_up (mj_up (mj_up (mj_fl σm 84 (mj_flat A.1) 117) 62 27 (nI (160 * s))) 62 28 (nI 0)) 62 29 (nI n)) 62 5 (-1) = pm_s0 σm A s n := rfl
      cases hall : pp_all (fun i => (A.2.2.2.2.2.1 s i).toInt32) n 161 A.1 G C 0 0 with
      | inl fl =>
        have hfl := pp_all_fl (T := fun i => (A.2.2.2.2.2.1 s i).toInt32) (n := n) hn 161 A.1 G C 0 0 fl (by decide) hx.1 hall
        have nfl := (mj_to_m1 (mj_to_n fl) (by omega)).2
        obtain ⟨x, π', G', C', pl', t', y1, e1⟩ := tx1 fl hall
        obtain ⟨g, S', it, π2, G2, C2, pl2, nb2, t2, y2', m', e2⟩ := tm1 fl hall
        have q1 := mj_IX_rfu (b := 6) (mj_IX_ft (v := nI fl) (mj_IX_rd (f := nI fl) (pl := pl') (t := t') hx y1))
        have p0 := mj_IM_rd (pl := pl2) (nb := nb2) (wr := nI fl) (t := t2) (mj_IM_s0 (s := s) (n := n) hm)
        have p1 := mj_IM_rfu (b := 6) (mj_IM_ft (v := nI fl) p0)
        have e84 : ∀ i, i < 117 → pp_w (pm_s0 σm A s n) pl2 nb2 (nI fl) t2 84 i = mj_flat A.1 i := fun i hi => by
          rw [pp_w_ne (by decide) (by decide)]
          unfold pm_s0
          rw [mj_pv_up9 (by decide), mj_pv_up9 (by decide), mj_pv_up9 (by decide), mj_pv_up9 (by decide), mj_fl_lt hi]
        have ab := s_X8_all_b (q := 84) (τ := τm) (by decide) y2' hx.1 e84
        have wp : mj_wb 64 62 A.1 (pp_w (pm_s0 σm A s n) pl2 nb2 (nI fl) t2) = pp_w (pm_s0 σm A s n) pl2 nb2 (nI fl) t2 := by
          have z := mj_wb_pv (B := 64) (O := 62) (σ := pp_w (pm_s0 σm A s n) pl2 nb2 (nI fl) t2)
          rw [show mj_pv 64 62 (pp_w (pm_s0 σm A s n) pl2 nb2 (nI fl) t2) = A.1 from p0.2.1] at z
          exact z
        rw [wp] at ab
        have w31 : pp_w (pm_s0 σm A s n) pl2 nb2 (nI fl) t2 62 31 = nI fl := rfl
        exact ⟨.int (-6), _, G, C, ⟨_, _, by simp (maxSteps := 1000000) (disch := first | assumption | omega) only [c88, ↓e88_0, ↓e88_1, ↓e88_2, ↓e88_5, ↓e88_5n, ↓e88_6, ↓e88_6n, ↓e88_7, ↓e88_7n, ↓e88_10, ↓e88_11, ↓e88_11n, ↓e88_12, ↓e88_12n, ↓e88_15, ↓e88_16, ↓e88_19, ↓e88_20, ↓e88_21, ↓e88_24, ↓e88_25, ↓e88_26, ↓e88_29, ↓e88_30, ↓e88_33, ↓e88_36, ↓e88_37, ↓e88_40, ↓e88_41, ↓e88_44, ↓e88_44n, ↓e88_45, ↓e88_48, ↓e88_50, ↓e88_51, ↓e88_52, ↓e88_55, ↓e88_58, ↓e88_61, ↓e88_62, ↓e88_65, ↓e88_66, ↓e88_69, ↓e88_70, ↓e88_72, ↓e88_75, ↓e88_76, ↓e88_77, ↓e88_80, ↓e88_81, ↓e88_84, ↓e88_87, ↓e88_89, c44, ↓e44_0, ↓e44_1, ↓e44_2, ↓e44_5, ↓e44_6, ↓e44_7, ↓e44_10, ↓e44_11, ↓e44_12, ↓e44_13, ↓e44_17, ↓e44_20, ↓e44_21, ↓e44_24, ↓e44_27, ↓e44_28, ↓e44_29, ↓e44_30, ↓e44_33, ↓e44_36, ↓e44_37, ↓e44_40, ↓e44_41, ↓e44_44, ↓e44_47, ↓e44_48, ↓e44_49, ↓e44_51, ↓e44_54, ↓e44_57, ↓e44_58, ↓e44_61, ↓e44_62, ↓e44_64, ↓e44_67, ↓e44_70, ↓e44_71, li_p0, li_p1, li_p2, li_p3, li_p4, li_p5, li_p6, li_p7, li_p8, li_p9, li_10, li_11, li_12, li_13, li_14, li_15, li_16, li_17, li_18, li_19, li_20, li_21, li_22, li_23, li_24, li_25, li_26, li_27, li_28, li_29, li_30, li_31, li_32, li_33, li_34, li_35, li_36, li_37, li_38, li_39, li_56, li_57, li_58, li_60, li_61, li_63, li_64, li_65, li_66, li_67, li_68, li_69, li_70, li_71, li_72, li_73, li_74, li_75, li_76, li_77, li_80, li_81, li_82, li_83, li_84, li_85, li_86, li_87, li_88, li_89, li_90, li_91, li_92, lw_q0, lw_q1, lw_q2, lw_q3, lw_q4, lw_q5, lw_q6, lw_q7, lw_q8, lw_q9, lw_10, lw_11, lw_12, lw_13, lw_14, lw_15, lw_16, lw_17, lw_18, lw_19, lw_20, lw_21, lw_22, lw_23, lw_24, lw_25, lw_26, lw_27, lw_28, lw_29, lw_30, lw_31, lw_32, lw_33, lw_34, lw_35, lw_36, lw_37, lw_38, lw_39, lw_56, lw_57, lw_58, lw_60, lw_61, lw_63, lw_64, lw_65, lw_66, lw_67, lw_68, lw_69, lw_70, lw_71, lw_72, lw_73, lw_74, lw_75, lw_76, lw_77, lw_80, lw_81, lw_82, lw_83, lw_84, lw_85, lw_86, lw_87, lw_88, lw_89, ll_78, ll_79, ll_s, rc6, rc2, rc3, rc5, rc7, rc1, rc0, rc4, rcs_0, rcs_1, rcs_2, rcs_3, rcs_4, mj_ib_nI, ↓reduceIte, mj_bdK, mj_ls, mj_ln, nI_clamp, nI_add, pk_mul, mj_nIeq0, mj_nIlt0, mj_nIle0, mj_nIeq, mj_nIle, mj_nIlt, mj_ok0, mj_ok1, mj_okb, mj_b0, mj_bR, mj_bR2, Nat.reduceEqDiff, s_X2_hasGrown hp, s_X2_hasChild hp, s_X7_isWithin, not_true_eq_false, not_false_eq_true, s_X7_shelfAt hs, c115, c115n, ↓e115_0, ↓e115_1, ↓e115_1n, ↓e115_4, ↓e115_5, ↓e115_6, ↓e115_7, ↓e115_10, ↓e115_13, ↓e115_15, ↓e115_16, ↓e115_17, ↓e115_20, ↓e115_23, ↓e115_24, ↓e115_27, ↓e115_29, c61, ↓e61_0, ↓e61_1, ↓e61_4, ↓e61_5, ↓e61_8, ↓e61_9, ↓e61_12, ↓e61_13, c62, ↓e62_0, ↓e62_1, ↓e62_4, ↓e62_5, ↓e62_8, ↓e62_9, ↓e62_12, ↓e62_13, mj_bR, mj_bR2, x0, x1, nk, cf2, pc_uf, pc_up, pc_f, e1, nfl, mj_up_at, s_X7_refuse6], q1, fun k hk => ⟨(mj_pv_up9 (by omega)).trans ((mj_pv_up9 (by omega)).trans ((mj_wb_ne (by omega) (by omega)).trans (pp_r_ne (by omega) (by omega)))), rfl⟩⟩, ⟨_, _, by simp (maxSteps := 1000000) (disch := first | assumption | omega) only [c153, ↓e153_0, ↓e153_1, ↓e153_2, ↓e153_5, ↓e153_6, ↓e153_7, ↓e153_10, ↓e153_11, ↓e153_12, ↓e153_15, ↓e153_16, ↓e153_17, ↓e153_18, ↓e153_21, ↓e153_22, ↓e153_25, ↓e153_26, ↓e153_29, ↓e153_30, ↓e153_31, ↓e153_34, ↓e153_35, ↓e153_36, ↓e153_39, ↓e153_40, ↓e153_41, ↓e153_44, ↓e153_45, ↓e153_46, ↓e153_49, ↓e153_50, ↓e153_51, ↓e153_54, ↓e153_55, ↓e153_56, ↓e153_57, ↓e153_60, ↓e153_64, ↓e153_67, ↓e153_68, ↓e153_71, ↓e153_72, ↓e153_75, ↓e153_78, ↓e153_79, ↓e153_82, ↓e153_83, ↓e153_86, ↓e153_87, ↓e153_90, ↓e153_91, ↓e153_92, ↓e153_93, ↓e153_95, ↓e153_98, ↓e153_99, ↓e153_100, ↓e153_103, ↓e153_106, ↓e153_108, ↓e153_111, ↓e153_112, ↓e153_113, ↓e153_116, ↓e153_117, ↓e153_118, ↓e153_121, ↓e153_124, ↓e153_125, ↓e153_128, ↓e153_130, ↓e153_133, ↓e153_135, ↓e153_138, ↓e153_139, ↓e153_140, ↓e153_141, ↓e153_142, ↓e153_145, ↓e153_146, ↓e153_149, ↓e153_150, ↓e153_151, ↓e153_154, ↓e153_157, ↓e153_158, ↓e153_160, ↓e153_163, li_p0, li_p1, li_p2, li_p3, li_p4, li_p5, li_p6, li_p7, li_p8, li_p9, li_10, li_11, li_12, li_13, li_14, li_15, li_16, li_17, li_18, li_19, li_20, li_21, li_22, li_23, li_24, li_25, li_26, li_27, li_28, li_29, li_30, li_31, li_32, li_33, li_34, li_35, li_36, li_37, li_38, li_39, li_56, li_57, li_58, li_60, li_61, li_63, li_64, li_65, li_66, li_67, li_68, li_69, li_70, li_71, li_72, li_73, li_74, li_75, li_76, li_77, li_80, li_81, li_82, li_83, li_84, li_85, li_86, li_87, li_88, li_89, li_90, li_91, li_92, lw_q0, lw_q1, lw_q2, lw_q3, lw_q4, lw_q5, lw_q6, lw_q7, lw_q8, lw_q9, lw_10, lw_11, lw_12, lw_13, lw_14, lw_15, lw_16, lw_17, lw_18, lw_19, lw_20, lw_21, lw_22, lw_23, lw_24, lw_25, lw_26, lw_27, lw_28, lw_29, lw_30, lw_31, lw_32, lw_33, lw_34, lw_35, lw_36, lw_37, lw_38, lw_39, lw_56, lw_57, lw_58, lw_60, lw_61, lw_63, lw_64, lw_65, lw_66, lw_67, lw_68, lw_69, lw_70, lw_71, lw_72, lw_73, lw_74, lw_75, lw_76, lw_77, lw_80, lw_81, lw_82, lw_83, lw_84, lw_85, lw_86, lw_87, lw_88, lw_89, ll_78, ll_79, ll_s, rc6, rc2, rc3, rc5, rc7, rc1, rc0, rc4, rcs_0, rcs_1, rcs_2, rcs_3, rcs_4, mj_ib_nI, ↓reduceIte, mj_bdK, mj_ls, mj_ln, nI_clamp, nI_add, pk_mul, mj_nIeq0, mj_nIlt0, mj_nIle0, mj_nIeq, mj_nIle, mj_nIlt, mj_ok0, mj_ok1, mj_okb, mj_b0, mj_bR, mj_bR2, Nat.reduceEqDiff, s_X8_isGrown hw, s_X8_isChild hw, s_X8_isFrom, not_true_eq_false, not_false_eq_true, s_X8_isShelf, mj_bt1 h1, c130, ↓e130_0, ↓e130_1, ↓e130_2, ↓e130_5, ↓e130_8, ↓e130_9, ↓e130_12, ↓e130_13, ↓e130_16, ↓e130_17, ↓e130_18, ↓e130_19, ↓e130_22, ↓e130_24, ↓e130_27, ↓e130_28, ↓e130_31, ↓e130_32, ↓e130_33, ↓e130_36, ↓e130_38, ↓e130_41, ↓e130_42, y0, al, d5, ps, it, e2, ab, w31, s_X8_no6], p1, fun k hk => ⟨(mj_pv_up9 (by omega)).trans ((mj_pv_up9 (by omega)).trans ((pp_w_ne (by omega) (by omega)).trans (pm_s0_ne (by omega) (by omega)))), rfl⟩⟩⟩
      | inr q =>
        obtain ⟨π', G', C', m'⟩ := q
        obtain ⟨pl', t', y1, e1⟩ := tx2 π' G' C' m' hall
        obtain ⟨g, S', it, pl2, nb2, t2, -, hGG, e2⟩ := tm2 π' G' C' m' hall
        have hso : mj_sok (π', A.2) G' := mj_sok_le hx.2.2.1 hGG
        have q1 := mj_IX_ft (v := -1) (mj_IX_rd (f := -1) (pl := pl') (t := t') hx y1)
        have q2 := mj_IX_wb q1 (π := π') (G2 := G') (C2 := C') y1 hso
        have p1 := mj_IM_wb (mj_IM_rd (pl := pl2) (nb := nb2) (wr := pm_s0 σm A s n 62 31) (t := t2) (mj_IM_s0 (s := s) (n := n) hm)) (π := π') (G2 := G') (C2 := C') y1 hso
        have pv2 : mj_pv (10 * 2) 2 (mj_up (mj_wb 20 2 π' (pp_r σ (-1) pl' t')) 0 9 (-1)) = π' := (mj_pv_of (σ := mj_wb 20 2 π' (pp_r σ (-1) pl' t')) (fun j hj => mj_pv_up9 (by omega)) (fun i hi => by rw [mj_pv_up9 (by decide)])).trans (mj_pv_wb (by decide) y1)
        have cf3 := s_X2_copyFrom (p := 1) (q := 2) (σ := mj_up (mj_wb 20 2 π' (pp_r σ (-1) pl' t')) 0 9 (-1)) (τ := τ) (by decide) (by decide) (by decide) (by decide) (by decide) (q1.2.1 ▸ q1.1) (pv2 ▸ y1)
        rw [pv2] at cf3
        exact ⟨.int (nI m'), _, G', C', ⟨_, _, by simp (maxSteps := 1000000) (disch := first | assumption | omega) only [c88, ↓e88_0, ↓e88_1, ↓e88_2, ↓e88_5, ↓e88_5n, ↓e88_6, ↓e88_6n, ↓e88_7, ↓e88_7n, ↓e88_10, ↓e88_11, ↓e88_11n, ↓e88_12, ↓e88_12n, ↓e88_15, ↓e88_16, ↓e88_19, ↓e88_20, ↓e88_21, ↓e88_24, ↓e88_25, ↓e88_26, ↓e88_29, ↓e88_30, ↓e88_33, ↓e88_36, ↓e88_37, ↓e88_40, ↓e88_41, ↓e88_44, ↓e88_44n, ↓e88_45, ↓e88_48, ↓e88_50, ↓e88_51, ↓e88_52, ↓e88_55, ↓e88_58, ↓e88_61, ↓e88_62, ↓e88_65, ↓e88_66, ↓e88_69, ↓e88_70, ↓e88_72, ↓e88_75, ↓e88_76, ↓e88_77, ↓e88_80, ↓e88_81, ↓e88_84, ↓e88_87, ↓e88_89, c44, ↓e44_0, ↓e44_1, ↓e44_2, ↓e44_5, ↓e44_6, ↓e44_7, ↓e44_10, ↓e44_11, ↓e44_12, ↓e44_13, ↓e44_17, ↓e44_20, ↓e44_21, ↓e44_24, ↓e44_27, ↓e44_28, ↓e44_29, ↓e44_30, ↓e44_33, ↓e44_36, ↓e44_37, ↓e44_40, ↓e44_41, ↓e44_44, ↓e44_47, ↓e44_48, ↓e44_49, ↓e44_51, ↓e44_54, ↓e44_57, ↓e44_58, ↓e44_61, ↓e44_62, ↓e44_64, ↓e44_67, ↓e44_70, ↓e44_71, li_p0, li_p1, li_p2, li_p3, li_p4, li_p5, li_p6, li_p7, li_p8, li_p9, li_10, li_11, li_12, li_13, li_14, li_15, li_16, li_17, li_18, li_19, li_20, li_21, li_22, li_23, li_24, li_25, li_26, li_27, li_28, li_29, li_30, li_31, li_32, li_33, li_34, li_35, li_36, li_37, li_38, li_39, li_56, li_57, li_58, li_60, li_61, li_63, li_64, li_65, li_66, li_67, li_68, li_69, li_70, li_71, li_72, li_73, li_74, li_75, li_76, li_77, li_80, li_81, li_82, li_83, li_84, li_85, li_86, li_87, li_88, li_89, li_90, li_91, li_92, lw_q0, lw_q1, lw_q2, lw_q3, lw_q4, lw_q5, lw_q6, lw_q7, lw_q8, lw_q9, lw_10, lw_11, lw_12, lw_13, lw_14, lw_15, lw_16, lw_17, lw_18, lw_19, lw_20, lw_21, lw_22, lw_23, lw_24, lw_25, lw_26, lw_27, lw_28, lw_29, lw_30, lw_31, lw_32, lw_33, lw_34, lw_35, lw_36, lw_37, lw_38, lw_39, lw_56, lw_57, lw_58, lw_60, lw_61, lw_63, lw_64, lw_65, lw_66, lw_67, lw_68, lw_69, lw_70, lw_71, lw_72, lw_73, lw_74, lw_75, lw_76, lw_77, lw_80, lw_81, lw_82, lw_83, lw_84, lw_85, lw_86, lw_87, lw_88, lw_89, ll_78, ll_79, ll_s, rc6, rc2, rc3, rc5, rc7, rc1, rc0, rc4, rcs_0, rcs_1, rcs_2, rcs_3, rcs_4, mj_ib_nI, ↓reduceIte, mj_bdK, mj_ls, mj_ln, nI_clamp, nI_add, pk_mul, mj_nIeq0, mj_nIlt0, mj_nIle0, mj_nIeq, mj_nIle, mj_nIlt, mj_ok0, mj_ok1, mj_okb, mj_b0, mj_bR, mj_bR2, Nat.reduceEqDiff, s_X2_hasGrown hp, s_X2_hasChild hp, s_X7_isWithin, not_true_eq_false, not_false_eq_true, s_X7_shelfAt hs, c115, c115n, ↓e115_0, ↓e115_1, ↓e115_1n, ↓e115_4, ↓e115_5, ↓e115_6, ↓e115_7, ↓e115_10, ↓e115_13, ↓e115_15, ↓e115_16, ↓e115_17, ↓e115_20, ↓e115_23, ↓e115_24, ↓e115_27, ↓e115_29, c61, ↓e61_0, ↓e61_1, ↓e61_4, ↓e61_5, ↓e61_8, ↓e61_9, ↓e61_12, ↓e61_13, c62, ↓e62_0, ↓e62_1, ↓e62_4, ↓e62_5, ↓e62_8, ↓e62_9, ↓e62_12, ↓e62_13, mj_bR, mj_bR2, x0, x1, nk, cf2, pc_uf, pc_up, pc_f, e1, cf3, mj_up_at], q2, fun k hk => ⟨(mj_wb_ne (by omega) (by omega)).trans ((mj_pv_up9 (by omega)).trans ((mj_wb_ne (by omega) (by omega)).trans (pp_r_ne (by omega) (by omega)))), rfl⟩⟩, ⟨_, _, by simp (maxSteps := 1000000) (disch := first | assumption | omega) only [c153, ↓e153_0, ↓e153_1, ↓e153_2, ↓e153_5, ↓e153_6, ↓e153_7, ↓e153_10, ↓e153_11, ↓e153_12, ↓e153_15, ↓e153_16, ↓e153_17, ↓e153_18, ↓e153_21, ↓e153_22, ↓e153_25, ↓e153_26, ↓e153_29, ↓e153_30, ↓e153_31, ↓e153_34, ↓e153_35, ↓e153_36, ↓e153_39, ↓e153_40, ↓e153_41, ↓e153_44, ↓e153_45, ↓e153_46, ↓e153_49, ↓e153_50, ↓e153_51, ↓e153_54, ↓e153_55, ↓e153_56, ↓e153_57, ↓e153_60, ↓e153_64, ↓e153_67, ↓e153_68, ↓e153_71, ↓e153_72, ↓e153_75, ↓e153_78, ↓e153_79, ↓e153_82, ↓e153_83, ↓e153_86, ↓e153_87, ↓e153_90, ↓e153_91, ↓e153_92, ↓e153_93, ↓e153_95, ↓e153_98, ↓e153_99, ↓e153_100, ↓e153_103, ↓e153_106, ↓e153_108, ↓e153_111, ↓e153_112, ↓e153_113, ↓e153_116, ↓e153_117, ↓e153_118, ↓e153_121, ↓e153_124, ↓e153_125, ↓e153_128, ↓e153_130, ↓e153_133, ↓e153_135, ↓e153_138, ↓e153_139, ↓e153_140, ↓e153_141, ↓e153_142, ↓e153_145, ↓e153_146, ↓e153_149, ↓e153_150, ↓e153_151, ↓e153_154, ↓e153_157, ↓e153_158, ↓e153_160, ↓e153_163, li_p0, li_p1, li_p2, li_p3, li_p4, li_p5, li_p6, li_p7, li_p8, li_p9, li_10, li_11, li_12, li_13, li_14, li_15, li_16, li_17, li_18, li_19, li_20, li_21, li_22, li_23, li_24, li_25, li_26, li_27, li_28, li_29, li_30, li_31, li_32, li_33, li_34, li_35, li_36, li_37, li_38, li_39, li_56, li_57, li_58, li_60, li_61, li_63, li_64, li_65, li_66, li_67, li_68, li_69, li_70, li_71, li_72, li_73, li_74, li_75, li_76, li_77, li_80, li_81, li_82, li_83, li_84, li_85, li_86, li_87, li_88, li_89, li_90, li_91, li_92, lw_q0, lw_q1, lw_q2, lw_q3, lw_q4, lw_q5, lw_q6, lw_q7, lw_q8, lw_q9, lw_10, lw_11, lw_12, lw_13, lw_14, lw_15, lw_16, lw_17, lw_18, lw_19, lw_20, lw_21, lw_22, lw_23, lw_24, lw_25, lw_26, lw_27, lw_28, lw_29, lw_30, lw_31, lw_32, lw_33, lw_34, lw_35, lw_36, lw_37, lw_38, lw_39, lw_56, lw_57, lw_58, lw_60, lw_61, lw_63, lw_64, lw_65, lw_66, lw_67, lw_68, lw_69, lw_70, lw_71, lw_72, lw_73, lw_74, lw_75, lw_76, lw_77, lw_80, lw_81, lw_82, lw_83, lw_84, lw_85, lw_86, lw_87, lw_88, lw_89, ll_78, ll_79, ll_s, rc6, rc2, rc3, rc5, rc7, rc1, rc0, rc4, rcs_0, rcs_1, rcs_2, rcs_3, rcs_4, mj_ib_nI, ↓reduceIte, mj_bdK, mj_ls, mj_ln, nI_clamp, nI_add, pk_mul, mj_nIeq0, mj_nIlt0, mj_nIle0, mj_nIeq, mj_nIle, mj_nIlt, mj_ok0, mj_ok1, mj_okb, mj_b0, mj_bR, mj_bR2, Nat.reduceEqDiff, s_X8_isGrown hw, s_X8_isChild hw, s_X8_isFrom, not_true_eq_false, not_false_eq_true, s_X8_isShelf, mj_bt1 h1, c130, ↓e130_0, ↓e130_1, ↓e130_2, ↓e130_5, ↓e130_8, ↓e130_9, ↓e130_12, ↓e130_13, ↓e130_16, ↓e130_17, ↓e130_18, ↓e130_19, ↓e130_22, ↓e130_24, ↓e130_27, ↓e130_28, ↓e130_31, ↓e130_32, ↓e130_33, ↓e130_36, ↓e130_38, ↓e130_41, ↓e130_42, y0, al, d5, ps, it, e2], p1, fun k hk => ⟨(mj_wb_ne (by omega) (by omega)).trans ((pp_w_ne (by omega) (by omega)).trans (pm_s0_ne (by omega) (by omega))), rfl⟩⟩⟩
    · have ng := mj_n1k (k := g) (by omega)
      exact mj_b_rf (b := 2) (v := .int (-2)) (by simp (maxSteps := 1000000) (disch := first | assumption | omega) only [c88, ↓e88_0, ↓e88_1, ↓e88_2, ↓e88_5, ↓e88_5n, ↓e88_6, ↓e88_6n, ↓e88_7, ↓e88_7n, ↓e88_10, ↓e88_11, ↓e88_11n, ↓e88_12, ↓e88_12n, ↓e88_15, ↓e88_16, ↓e88_19, ↓e88_20, ↓e88_21, ↓e88_24, ↓e88_25, ↓e88_26, ↓e88_29, ↓e88_30, ↓e88_33, ↓e88_36, ↓e88_37, ↓e88_40, ↓e88_41, ↓e88_44, ↓e88_44n, ↓e88_45, ↓e88_48, ↓e88_50, ↓e88_51, ↓e88_52, ↓e88_55, ↓e88_58, ↓e88_61, ↓e88_62, ↓e88_65, ↓e88_66, ↓e88_69, ↓e88_70, ↓e88_72, ↓e88_75, ↓e88_76, ↓e88_77, ↓e88_80, ↓e88_81, ↓e88_84, ↓e88_87, ↓e88_89, li_p0, li_p1, li_p2, li_p3, li_p4, li_p5, li_p6, li_p7, li_p8, li_p9, li_10, li_11, li_12, li_13, li_14, li_15, li_16, li_17, li_18, li_19, li_20, li_21, li_22, li_23, li_24, li_25, li_26, li_27, li_28, li_29, li_30, li_31, li_32, li_33, li_34, li_35, li_36, li_37, li_38, li_39, li_56, li_57, li_58, li_60, li_61, li_63, li_64, li_65, li_66, li_67, li_68, li_69, li_70, li_71, li_72, li_73, li_74, li_75, li_76, li_77, li_80, li_81, li_82, li_83, li_84, li_85, li_86, li_87, li_88, li_89, li_90, li_91, li_92, lw_q0, lw_q1, lw_q2, lw_q3, lw_q4, lw_q5, lw_q6, lw_q7, lw_q8, lw_q9, lw_10, lw_11, lw_12, lw_13, lw_14, lw_15, lw_16, lw_17, lw_18, lw_19, lw_20, lw_21, lw_22, lw_23, lw_24, lw_25, lw_26, lw_27, lw_28, lw_29, lw_30, lw_31, lw_32, lw_33, lw_34, lw_35, lw_36, lw_37, lw_38, lw_39, lw_56, lw_57, lw_58, lw_60, lw_61, lw_63, lw_64, lw_65, lw_66, lw_67, lw_68, lw_69, lw_70, lw_71, lw_72, lw_73, lw_74, lw_75, lw_76, lw_77, lw_80, lw_81, lw_82, lw_83, lw_84, lw_85, lw_86, lw_87, lw_88, lw_89, ll_78, ll_79, ll_s, rc6, rc2, rc3, rc5, rc7, rc1, rc0, rc4, rcs_0, rcs_1, rcs_2, rcs_3, rcs_4, mj_ib_nI, ↓reduceIte, mj_bdK, mj_ls, mj_ln, nI_clamp, nI_add, pk_mul, mj_nIeq0, mj_nIlt0, mj_nIle0, mj_nIeq, mj_nIle, mj_nIlt, mj_ok0, mj_ok1, mj_okb, mj_b0, mj_bR, mj_bR2, Nat.reduceEqDiff, s_X2_hasGrown hp, s_X2_hasChild hp, s_X7_isWithin, not_true_eq_false, not_false_eq_true, s_X7_refuse2, n3, n2x, s_X7_shelfAt hs, c115, c115n, ↓e115_0, ↓e115_1, ↓e115_1n, ↓e115_4, ↓e115_5, ↓e115_6, ↓e115_7, ↓e115_10, ↓e115_13, ↓e115_15, ↓e115_16, ↓e115_17, ↓e115_20, ↓e115_23, ↓e115_24, ↓e115_27, ↓e115_29, c61, ↓e61_0, ↓e61_1, ↓e61_4, ↓e61_5, ↓e61_8, ↓e61_9, ↓e61_12, ↓e61_13, c62, ↓e62_0, ↓e62_1, ↓e62_4, ↓e62_5, ↓e62_8, ↓e62_9, ↓e62_12, ↓e62_13, mj_bR, mj_bR2, x0, x1, ng]) (by simp (maxSteps := 1000000) (disch := first | assumption | omega) only [c153, ↓e153_0, ↓e153_1, ↓e153_2, ↓e153_5, ↓e153_6, ↓e153_7, ↓e153_10, ↓e153_11, ↓e153_12, ↓e153_15, ↓e153_16, ↓e153_17, ↓e153_18, ↓e153_21, ↓e153_22, ↓e153_25, ↓e153_26, ↓e153_29, ↓e153_30, ↓e153_31, ↓e153_34, ↓e153_35, ↓e153_36, ↓e153_39, ↓e153_40, ↓e153_41, ↓e153_44, ↓e153_45, ↓e153_46, ↓e153_49, ↓e153_50, ↓e153_51, ↓e153_54, ↓e153_55, ↓e153_56, ↓e153_57, ↓e153_60, ↓e153_64, ↓e153_67, ↓e153_68, ↓e153_71, ↓e153_72, ↓e153_75, ↓e153_78, ↓e153_79, ↓e153_82, ↓e153_83, ↓e153_86, ↓e153_87, ↓e153_90, ↓e153_91, ↓e153_92, ↓e153_93, ↓e153_95, ↓e153_98, ↓e153_99, ↓e153_100, ↓e153_103, ↓e153_106, ↓e153_108, ↓e153_111, ↓e153_112, ↓e153_113, ↓e153_116, ↓e153_117, ↓e153_118, ↓e153_121, ↓e153_124, ↓e153_125, ↓e153_128, ↓e153_130, ↓e153_133, ↓e153_135, ↓e153_138, ↓e153_139, ↓e153_140, ↓e153_141, ↓e153_142, ↓e153_145, ↓e153_146, ↓e153_149, ↓e153_150, ↓e153_151, ↓e153_154, ↓e153_157, ↓e153_158, ↓e153_160, ↓e153_163, li_p0, li_p1, li_p2, li_p3, li_p4, li_p5, li_p6, li_p7, li_p8, li_p9, li_10, li_11, li_12, li_13, li_14, li_15, li_16, li_17, li_18, li_19, li_20, li_21, li_22, li_23, li_24, li_25, li_26, li_27, li_28, li_29, li_30, li_31, li_32, li_33, li_34, li_35, li_36, li_37, li_38, li_39, li_56, li_57, li_58, li_60, li_61, li_63, li_64, li_65, li_66, li_67, li_68, li_69, li_70, li_71, li_72, li_73, li_74, li_75, li_76, li_77, li_80, li_81, li_82, li_83, li_84, li_85, li_86, li_87, li_88, li_89, li_90, li_91, li_92, lw_q0, lw_q1, lw_q2, lw_q3, lw_q4, lw_q5, lw_q6, lw_q7, lw_q8, lw_q9, lw_10, lw_11, lw_12, lw_13, lw_14, lw_15, lw_16, lw_17, lw_18, lw_19, lw_20, lw_21, lw_22, lw_23, lw_24, lw_25, lw_26, lw_27, lw_28, lw_29, lw_30, lw_31, lw_32, lw_33, lw_34, lw_35, lw_36, lw_37, lw_38, lw_39, lw_56, lw_57, lw_58, lw_60, lw_61, lw_63, lw_64, lw_65, lw_66, lw_67, lw_68, lw_69, lw_70, lw_71, lw_72, lw_73, lw_74, lw_75, lw_76, lw_77, lw_80, lw_81, lw_82, lw_83, lw_84, lw_85, lw_86, lw_87, lw_88, lw_89, ll_78, ll_79, ll_s, rc6, rc2, rc3, rc5, rc7, rc1, rc0, rc4, rcs_0, rcs_1, rcs_2, rcs_3, rcs_4, mj_ib_nI, ↓reduceIte, mj_bdK, mj_ls, mj_ln, nI_clamp, nI_add, pk_mul, mj_nIeq0, mj_nIlt0, mj_nIle0, mj_nIeq, mj_nIle, mj_nIlt, mj_ok0, mj_ok1, mj_okb, mj_b0, mj_bR, mj_bR2, Nat.reduceEqDiff, s_X8_isGrown hw, s_X8_isChild hw, s_X8_isFrom, not_true_eq_false, not_false_eq_true, s_X8_no2, n3, n2x, s_X8_isShelf, mj_bt1 h1, c130, ↓e130_0, ↓e130_1, ↓e130_2, ↓e130_5, ↓e130_8, ↓e130_9, ↓e130_12, ↓e130_13, ↓e130_16, ↓e130_17, ↓e130_18, ↓e130_19, ↓e130_22, ↓e130_24, ↓e130_27, ↓e130_28, ↓e130_31, ↓e130_32, ↓e130_33, ↓e130_36, ↓e130_38, ↓e130_41, ↓e130_42, y0]) hx hm
  · exact mj_b_rf (b := 1) (v := .int (-1)) (by simp (maxSteps := 1000000) (disch := first | assumption | omega) only [c88, ↓e88_0, ↓e88_1, ↓e88_2, ↓e88_5, ↓e88_5n, ↓e88_6, ↓e88_6n, ↓e88_7, ↓e88_7n, ↓e88_10, ↓e88_11, ↓e88_11n, ↓e88_12, ↓e88_12n, ↓e88_15, ↓e88_16, ↓e88_19, ↓e88_20, ↓e88_21, ↓e88_24, ↓e88_25, ↓e88_26, ↓e88_29, ↓e88_30, ↓e88_33, ↓e88_36, ↓e88_37, ↓e88_40, ↓e88_41, ↓e88_44, ↓e88_44n, ↓e88_45, ↓e88_48, ↓e88_50, ↓e88_51, ↓e88_52, ↓e88_55, ↓e88_58, ↓e88_61, ↓e88_62, ↓e88_65, ↓e88_66, ↓e88_69, ↓e88_70, ↓e88_72, ↓e88_75, ↓e88_76, ↓e88_77, ↓e88_80, ↓e88_81, ↓e88_84, ↓e88_87, ↓e88_89, li_p0, li_p1, li_p2, li_p3, li_p4, li_p5, li_p6, li_p7, li_p8, li_p9, li_10, li_11, li_12, li_13, li_14, li_15, li_16, li_17, li_18, li_19, li_20, li_21, li_22, li_23, li_24, li_25, li_26, li_27, li_28, li_29, li_30, li_31, li_32, li_33, li_34, li_35, li_36, li_37, li_38, li_39, li_56, li_57, li_58, li_60, li_61, li_63, li_64, li_65, li_66, li_67, li_68, li_69, li_70, li_71, li_72, li_73, li_74, li_75, li_76, li_77, li_80, li_81, li_82, li_83, li_84, li_85, li_86, li_87, li_88, li_89, li_90, li_91, li_92, lw_q0, lw_q1, lw_q2, lw_q3, lw_q4, lw_q5, lw_q6, lw_q7, lw_q8, lw_q9, lw_10, lw_11, lw_12, lw_13, lw_14, lw_15, lw_16, lw_17, lw_18, lw_19, lw_20, lw_21, lw_22, lw_23, lw_24, lw_25, lw_26, lw_27, lw_28, lw_29, lw_30, lw_31, lw_32, lw_33, lw_34, lw_35, lw_36, lw_37, lw_38, lw_39, lw_56, lw_57, lw_58, lw_60, lw_61, lw_63, lw_64, lw_65, lw_66, lw_67, lw_68, lw_69, lw_70, lw_71, lw_72, lw_73, lw_74, lw_75, lw_76, lw_77, lw_80, lw_81, lw_82, lw_83, lw_84, lw_85, lw_86, lw_87, lw_88, lw_89, ll_78, ll_79, ll_s, rc6, rc2, rc3, rc5, rc7, rc1, rc0, rc4, rcs_0, rcs_1, rcs_2, rcs_3, rcs_4, mj_ib_nI, ↓reduceIte, mj_bdK, mj_ls, mj_ln, nI_clamp, nI_add, pk_mul, mj_nIeq0, mj_nIlt0, mj_nIle0, mj_nIeq, mj_nIle, mj_nIlt, mj_ok0, mj_ok1, mj_okb, mj_b0, mj_bR, mj_bR2, Nat.reduceEqDiff, s_X2_hasGrown hp, s_X2_hasChild hp, s_X7_isWithin, not_true_eq_false, not_false_eq_true, s_X7_refuse1, n3, n2x, s_X7_shelfAtN h1, ↓e115_0n, c115, c115n, ↓e115_0, ↓e115_1, ↓e115_1n, ↓e115_4, ↓e115_5, ↓e115_6, ↓e115_7, ↓e115_10, ↓e115_13, ↓e115_15, ↓e115_16, ↓e115_17, ↓e115_20, ↓e115_23, ↓e115_24, ↓e115_27, ↓e115_29]) (by simp (maxSteps := 1000000) (disch := first | assumption | omega) only [c153, ↓e153_0, ↓e153_1, ↓e153_2, ↓e153_5, ↓e153_6, ↓e153_7, ↓e153_10, ↓e153_11, ↓e153_12, ↓e153_15, ↓e153_16, ↓e153_17, ↓e153_18, ↓e153_21, ↓e153_22, ↓e153_25, ↓e153_26, ↓e153_29, ↓e153_30, ↓e153_31, ↓e153_34, ↓e153_35, ↓e153_36, ↓e153_39, ↓e153_40, ↓e153_41, ↓e153_44, ↓e153_45, ↓e153_46, ↓e153_49, ↓e153_50, ↓e153_51, ↓e153_54, ↓e153_55, ↓e153_56, ↓e153_57, ↓e153_60, ↓e153_64, ↓e153_67, ↓e153_68, ↓e153_71, ↓e153_72, ↓e153_75, ↓e153_78, ↓e153_79, ↓e153_82, ↓e153_83, ↓e153_86, ↓e153_87, ↓e153_90, ↓e153_91, ↓e153_92, ↓e153_93, ↓e153_95, ↓e153_98, ↓e153_99, ↓e153_100, ↓e153_103, ↓e153_106, ↓e153_108, ↓e153_111, ↓e153_112, ↓e153_113, ↓e153_116, ↓e153_117, ↓e153_118, ↓e153_121, ↓e153_124, ↓e153_125, ↓e153_128, ↓e153_130, ↓e153_133, ↓e153_135, ↓e153_138, ↓e153_139, ↓e153_140, ↓e153_141, ↓e153_142, ↓e153_145, ↓e153_146, ↓e153_149, ↓e153_150, ↓e153_151, ↓e153_154, ↓e153_157, ↓e153_158, ↓e153_160, ↓e153_163, li_p0, li_p1, li_p2, li_p3, li_p4, li_p5, li_p6, li_p7, li_p8, li_p9, li_10, li_11, li_12, li_13, li_14, li_15, li_16, li_17, li_18, li_19, li_20, li_21, li_22, li_23, li_24, li_25, li_26, li_27, li_28, li_29, li_30, li_31, li_32, li_33, li_34, li_35, li_36, li_37, li_38, li_39, li_56, li_57, li_58, li_60, li_61, li_63, li_64, li_65, li_66, li_67, li_68, li_69, li_70, li_71, li_72, li_73, li_74, li_75, li_76, li_77, li_80, li_81, li_82, li_83, li_84, li_85, li_86, li_87, li_88, li_89, li_90, li_91, li_92, lw_q0, lw_q1, lw_q2, lw_q3, lw_q4, lw_q5, lw_q6, lw_q7, lw_q8, lw_q9, lw_10, lw_11, lw_12, lw_13, lw_14, lw_15, lw_16, lw_17, lw_18, lw_19, lw_20, lw_21, lw_22, lw_23, lw_24, lw_25, lw_26, lw_27, lw_28, lw_29, lw_30, lw_31, lw_32, lw_33, lw_34, lw_35, lw_36, lw_37, lw_38, lw_39, lw_56, lw_57, lw_58, lw_60, lw_61, lw_63, lw_64, lw_65, lw_66, lw_67, lw_68, lw_69, lw_70, lw_71, lw_72, lw_73, lw_74, lw_75, lw_76, lw_77, lw_80, lw_81, lw_82, lw_83, lw_84, lw_85, lw_86, lw_87, lw_88, lw_89, ll_78, ll_79, ll_s, rc6, rc2, rc3, rc5, rc7, rc1, rc0, rc4, rcs_0, rcs_1, rcs_2, rcs_3, rcs_4, mj_ib_nI, ↓reduceIte, mj_bdK, mj_ls, mj_ln, nI_clamp, nI_add, pk_mul, mj_nIeq0, mj_nIlt0, mj_nIle0, mj_nIeq, mj_nIle, mj_nIlt, mj_ok0, mj_ok1, mj_okb, mj_b0, mj_bR, mj_bR2, Nat.reduceEqDiff, s_X8_isGrown hw, s_X8_isChild hw, s_X8_isFrom, not_true_eq_false, not_false_eq_true, s_X8_no1, n3, n2x, s_X8_isShelf, mj_bt0 h1, c130, ↓e130_0, ↓e130_1, ↓e130_2, ↓e130_5, ↓e130_8, ↓e130_9, ↓e130_12, ↓e130_13, ↓e130_16, ↓e130_17, ↓e130_18, ↓e130_19, ↓e130_22, ↓e130_24, ↓e130_27, ↓e130_28, ↓e130_31, ↓e130_32, ↓e130_33, ↓e130_36, ↓e130_38, ↓e130_41, ↓e130_42, (by decide : ¬ (-1 : Int32) = 0)]) hx hm

end
