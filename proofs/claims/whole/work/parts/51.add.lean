/-! GROWN and CHILD, both sides -/
section
variable {π : Nat → Nat → Int32} {σ σm : mj_S} {τ τm : mj_T} {A : mj_A} {G C : Nat}
theorem mj_up_self {π : Nat → Nat → Int32} {j i : Nat} {v : Int32} (h : π j i = v) : mj_up π j i v = π := by
  funext a b
  unfold mj_up
  split
  · rename_i q; rw [q.1, q.2]; exact h.symm
  · rfl
theorem mj_up_uc {π : Nat → Nat → Int32} {j i i' : Nat} {v w : Int32} (hj : j < 10) : mj_uc (mj_up π j i v) i' w = mj_up (mj_uc π i' w) j i v := by
  funext a b
  unfold mj_uc mj_up
  by_cases h1 : 10 ≤ a ∧ b = i'
  · rw [if_pos h1, if_neg (by omega)]; exact (if_pos h1).symm
  · rw [if_neg h1]
    split
    · rfl
    · exact (if_neg h1).symm

theorem s_X8_ag_loop {ρ : Nat → Nat → Int32} (hG8 : G < 8) (h0 : ρ 10 0 = nI G) (h9 : ∀ c, c < 6 → ρ 9 (8 * c + G) = nI 0) {l1 l2 l3 l4 : Option Value} : ∀ (n i : Nat), i + n = 6 → mj_E 132 54 [some (.ref 62), l1, l2, l3, l4, some (.int (nI i))] [] (mj_wb 64 62 ρ σ) τ = some (some (.int (nI G)), mj_wb 64 62 (mj_uc ρ 0 (nI (G + 1))) σ, τ) := by
  intro n
  induction n with
  | zero =>
    intro i hi
    have h6 : 6 ≤ i := by omega
    simp (maxSteps := 1000000) (disch := first | assumption | omega) only [c132, ↓e132_0, ↓e132_1, ↓e132_4, ↓e132_5, ↓e132_8, ↓e132_9, ↓e132_10, ↓e132_11, ↓e132_14, ↓e132_15, ↓e132_18, ↓e132_19, ↓e132_20, ↓e132_21, ↓e132_24, ↓e132_25, ↓e132_28, ↓e132_29, ↓e132_30, ↓e132_31, ↓e132_34, ↓e132_35, ↓e132_38, ↓e132_40, ↓e132_41, ↓e132_42, ↓e132_45, ↓e132_46, ↓e132_49, ↓e132_50, ↓e132_51, ↓e132_52, ↓e132_54, ↓e132_56, ↓e132_58, ↓e132_61, ↓e132_62, ↓e132_65, ↓e132_67, ↓e132_69, ↓e132_70, ↓e132_71, ↓e132_74, ↓e132_75, ↓e132_76, ↓e132_77, ↓e132_80, ↓e132_83, ↓e132_84, ↓e132_85, ↓e132_88, ↓e132_89, ↓e132_90, ↓e132_91, ↓e132_94, li_p0, li_p1, li_p2, li_p3, li_p4, li_p5, li_p6, li_p7, li_p8, li_p9, li_10, li_11, li_12, li_13, li_14, li_15, li_16, li_17, li_18, li_19, li_20, li_21, li_22, li_23, li_24, li_25, li_26, li_27, li_28, li_29, li_30, li_31, li_32, li_33, li_34, li_35, li_36, li_37, li_38, li_39, li_56, li_57, li_58, li_60, li_61, li_63, li_64, li_65, li_66, li_67, li_68, li_69, li_70, li_71, li_72, li_73, li_74, li_75, li_76, li_77, li_80, li_81, li_82, li_83, li_84, li_85, li_86, li_87, li_88, li_89, li_90, li_91, li_92, lw_q0, lw_q1, lw_q2, lw_q3, lw_q4, lw_q5, lw_q6, lw_q7, lw_q8, lw_q9, lw_10, lw_11, lw_12, lw_13, lw_14, lw_15, lw_16, lw_17, lw_18, lw_19, lw_20, lw_21, lw_22, lw_23, lw_24, lw_25, lw_26, lw_27, lw_28, lw_29, lw_30, lw_31, lw_32, lw_33, lw_34, lw_35, lw_36, lw_37, lw_38, lw_39, lw_56, lw_57, lw_58, lw_60, lw_61, lw_63, lw_64, lw_65, lw_66, lw_67, lw_68, lw_69, lw_70, lw_71, lw_72, lw_73, lw_74, lw_75, lw_76, lw_77, lw_80, lw_81, lw_82, lw_83, lw_84, lw_85, lw_86, lw_87, lw_88, lw_89, ll_78, ll_79, ll_s, rc6, rc2, rc3, rc5, rc7, rc1, rc0, rc4, rcs_0, rcs_1, rcs_2, rcs_3, rcs_4, mj_ib_nI, ↓reduceIte, mj_bdK, mj_ls, mj_ln, nI_clamp, nI_add, pk_mul, mj_nIeq0, mj_nIlt0, mj_nIle0, mj_nIeq, mj_nIle, mj_nIlt, mj_ok0, mj_ok1, mj_okb, mj_b0, mj_bR, mj_bR2, Nat.reduceEqDiff, wo_0, uo_0, um_9, h0, h6]
  | succ n ih =>
    intro i hi
    have h6 : ¬ 6 ≤ i := by omega
    have q := ih (i + 1) (by omega)
    have q2 := mj_up_self (h9 i (by omega))
    rw [e132_54]
    simp (maxSteps := 1000000) (disch := first | assumption | omega) only [c132, ↓e132_0, ↓e132_1, ↓e132_4, ↓e132_5, ↓e132_8, ↓e132_9, ↓e132_10, ↓e132_11, ↓e132_14, ↓e132_15, ↓e132_18, ↓e132_19, ↓e132_20, ↓e132_21, ↓e132_24, ↓e132_25, ↓e132_28, ↓e132_29, ↓e132_30, ↓e132_31, ↓e132_34, ↓e132_35, ↓e132_38, ↓e132_40, ↓e132_41, ↓e132_42, ↓e132_45, ↓e132_46, ↓e132_49, ↓e132_50, ↓e132_51, ↓e132_52, ↓e132_56, ↓e132_58, ↓e132_61, ↓e132_62, ↓e132_65, ↓e132_67, ↓e132_69, ↓e132_70, ↓e132_71, ↓e132_74, ↓e132_75, ↓e132_76, ↓e132_77, ↓e132_80, ↓e132_83, ↓e132_84, ↓e132_85, ↓e132_88, ↓e132_89, ↓e132_90, ↓e132_91, ↓e132_94, li_p0, li_p1, li_p2, li_p3, li_p4, li_p5, li_p6, li_p7, li_p8, li_p9, li_10, li_11, li_12, li_13, li_14, li_15, li_16, li_17, li_18, li_19, li_20, li_21, li_22, li_23, li_24, li_25, li_26, li_27, li_28, li_29, li_30, li_31, li_32, li_33, li_34, li_35, li_36, li_37, li_38, li_39, li_56, li_57, li_58, li_60, li_61, li_63, li_64, li_65, li_66, li_67, li_68, li_69, li_70, li_71, li_72, li_73, li_74, li_75, li_76, li_77, li_80, li_81, li_82, li_83, li_84, li_85, li_86, li_87, li_88, li_89, li_90, li_91, li_92, lw_q0, lw_q1, lw_q2, lw_q3, lw_q4, lw_q5, lw_q6, lw_q7, lw_q8, lw_q9, lw_10, lw_11, lw_12, lw_13, lw_14, lw_15, lw_16, lw_17, lw_18, lw_19, lw_20, lw_21, lw_22, lw_23, lw_24, lw_25, lw_26, lw_27, lw_28, lw_29, lw_30, lw_31, lw_32, lw_33, lw_34, lw_35, lw_36, lw_37, lw_38, lw_39, lw_56, lw_57, lw_58, lw_60, lw_61, lw_63, lw_64, lw_65, lw_66, lw_67, lw_68, lw_69, lw_70, lw_71, lw_72, lw_73, lw_74, lw_75, lw_76, lw_77, lw_80, lw_81, lw_82, lw_83, lw_84, lw_85, lw_86, lw_87, lw_88, lw_89, ll_78, ll_79, ll_s, rc6, rc2, rc3, rc5, rc7, rc1, rc0, rc4, rcs_0, rcs_1, rcs_2, rcs_3, rcs_4, mj_ib_nI, ↓reduceIte, mj_bdK, mj_ls, mj_ln, nI_clamp, nI_add, pk_mul, mj_nIeq0, mj_nIlt0, mj_nIle0, mj_nIeq, mj_nIle, mj_nIlt, mj_ok0, mj_ok1, mj_okb, mj_b0, mj_bR, mj_bR2, Nat.reduceEqDiff, wo_0, uo_0, um_9, h0, h6, q2, q]

theorem mj_nz_uc {k : Nat} {v : Int32} (hi : k < 5) (h : ((∀ j i, j < 10 → mj_ln_ j ≤ i → π j i = 0) ∧ (∀ j i, 10 ≤ j → π j i = if i < 5 then π 10 i else 0))) : ((∀ j i, j < 10 → mj_ln_ j ≤ i → mj_uc π k v j i = 0) ∧ (∀ j i, 10 ≤ j → mj_uc π k v j i = if i < 5 then mj_uc π k v 10 i else 0)) := by
  refine ⟨fun j x h1 h2 => by rw [mj_uc_lo h1]; exact h.1 j x h1 h2, fun j x h1 => ?_⟩
  by_cases hx : x = k
  · subst hx
    rw [if_pos hi]; unfold mj_uc; rw [if_pos ⟨h1, rfl⟩, if_pos ⟨Nat.le_refl _, rfl⟩]
  · have e1 : mj_uc π k v j x = π j x := by unfold mj_uc; exact if_neg (fun z => hx z.2)
    have e2 : mj_uc π k v 10 x = π 10 x := mj_uc_ne hx
    rw [e1, e2, h.2 j x h1]
theorem mj_wf_ag (h : mj_wf π G C) (hG : G < 8) {k a m t : Int32} (hk : mj_to k 6) (ha : mj_to a 9) (hm : mj_to m 60) (ht : mj_to t 9) : mj_wf (mj_ag π G k a m t) (G + 1) C := by
  obtain ⟨⟨a1, a2, a3, a4, a5⟩, b, d, e, f, q, l, z⟩ := h
  have n : ∀ j, 4 ≤ j → j < 10 → mj_ag π G k a m t j = π j := fun j h1 h2 => by
    unfold mj_ag; rw [mj_pv_up9 (by omega), mj_pv_up9 (by omega), mj_pv_up9 (by omega), mj_pv_up9 (by omega), mj_uc_lo h2]
  have n1 : mj_ag π G k a m t 10 0 = nI (G + 1) := by
    unfold mj_ag; rw [mj_pv_up9 (by decide), mj_pv_up9 (by decide), mj_pv_up9 (by decide), mj_pv_up9 (by decide), mj_uc_at]
  have n2 : ∀ i, ¬ i = 0 → mj_ag π G k a m t 10 i = π 10 i := fun i hi => by
    unfold mj_ag; rw [mj_pv_up9 (by decide), mj_pv_up9 (by decide), mj_pv_up9 (by decide), mj_pv_up9 (by decide), mj_uc_ne hi]
  refine ⟨⟨by omega, a2, n1, by rw [n2 1 (by decide)]; exact a4, by rw [n2 2 (by decide)]; exact a5⟩, fun g hg => ?_, fun c hc => ?_, fun i hi => ?_, fun c hc => ?_, fun g' h1 h2 => ⟨?_, fun c' hc' => ?_⟩, fun c' h1 h2 => ⟨?_, fun g' hg' => ?_⟩, ?_⟩
  · rw [n 4 (by decide) (by decide)]
    obtain ⟨b0, b1, b2, b3, b4⟩ := b g hg
    refine ⟨?_, ?_, ?_, ?_, b4⟩
    · unfold mj_ag; rw [mj_pv_up9 (by decide), mj_pv_up9 (by decide), mj_pv_up9 (by decide)]
      exact mj_up_or (P := fun x => mj_to x 6) hk (by rw [mj_uc_lo (by decide)]; exact b0)
    · unfold mj_ag; rw [mj_pv_up9 (by decide), mj_pv_up9 (by decide)]
      exact mj_up_or (P := fun x => mj_to x 9) ha (by rw [mj_pv_up9 (by decide), mj_uc_lo (by decide)]; exact b1)
    · unfold mj_ag; rw [mj_pv_up9 (by decide)]
      exact mj_up_or (P := fun x => mj_to x 60) hm (by rw [mj_pv_up9 (by decide), mj_pv_up9 (by decide), mj_uc_lo (by decide)]; exact b2)
    · unfold mj_ag
      exact mj_up_or (P := fun x => mj_to x 9) ht (by rw [mj_pv_up9 (by decide), mj_pv_up9 (by decide), mj_pv_up9 (by decide), mj_uc_lo (by decide)]; exact b3)
  · rw [n 5 (by decide) (by decide), n 6 (by decide) (by decide), n 7 (by decide) (by decide), n 8 (by decide) (by decide)]; exact d c hc
  · rw [n 9 (by decide) (by decide)]; exact e i hi
  · rw [n 8 (by decide) (by decide)]
    obtain ⟨g, hg, hb⟩ := f c hc
    exact ⟨g, by omega, hb⟩
  · rw [n 4 (by decide) (by decide)]; exact (q g' (by omega) h2).1
  · rw [n 9 (by decide) (by decide)]; exact (q g' (by omega) h2).2 c' hc'
  · rw [n 7 (by decide) (by decide)]; exact (l c' h1 h2).1
  · rw [n 9 (by decide) (by decide)]; exact (l c' h1 h2).2 g' hg'
  · unfold mj_ag
    exact mj_wf_nz (by decide) (show G < 8 from hG) (mj_wf_nz (by decide) (show G < 8 from hG) (mj_wf_nz (by decide) (show G < 8 from hG) (mj_wf_nz (by decide) (show G < 8 from hG) (mj_nz_uc (by decide) z))))
theorem mj_wf_ac (h : mj_wf π G C) (hC : C < 6) {t w m : Int32} (ht : mj_to t 9) (hw : mj_to w 9) (hm : mj_to m 255) (hb : ∃ g, g < G ∧ mj_bt m g = nI 1) : mj_wf (mj_ac π C t w m) G (C + 1) := by
  obtain ⟨⟨a1, a2, a3, a4, a5⟩, b, d, e, f, q, l, z⟩ := h
  have n : ∀ j, j < 5 ∨ j = 7 ∨ j = 9 → mj_ac π C t w m j = π j := fun j h1 => by
    unfold mj_ac; rw [mj_pv_up9 (by omega), mj_pv_up9 (by omega), mj_pv_up9 (by omega), mj_uc_lo (by omega)]
  have n1 : mj_ac π C t w m 10 1 = nI (C + 1) := by
    unfold mj_ac; rw [mj_pv_up9 (by decide), mj_pv_up9 (by decide), mj_pv_up9 (by decide), mj_uc_at]
  have n2 : ∀ i, ¬ i = 1 → mj_ac π C t w m 10 i = π 10 i := fun i hi => by
    unfold mj_ac; rw [mj_pv_up9 (by decide), mj_pv_up9 (by decide), mj_pv_up9 (by decide), mj_uc_ne hi]
  have n8 : mj_ac π C t w m 8 = mj_up π 8 C m 8 := by
    funext x
    unfold mj_ac mj_up
    split
    · rfl
    · rename_i q1
      rw [if_neg (by omega), if_neg (by omega), mj_uc_lo (by decide)]
  refine ⟨⟨a1, by omega, by rw [n2 0 (by decide)]; exact a3, n1, by rw [n2 2 (by decide)]; exact a5⟩, fun g hg => ?_, fun c hc => ?_, fun i hi => ?_, fun c hc => ?_, fun g' h1 h2 => ⟨?_, fun c' hc' => ?_⟩, fun c' h1 h2 => ⟨?_, fun g' hg' => ?_⟩, ?_⟩
  · rw [n 0 (by decide), n 1 (by decide), n 2 (by decide), n 3 (by decide), n 4 (by decide)]; exact b g hg
  · rw [n 7 (by decide), n8]
    obtain ⟨b0, b1, b2, b3⟩ := d c hc
    refine ⟨?_, ?_, b2, mj_up_or (P := fun x => mj_to x 255) hm b3⟩
    · unfold mj_ac; rw [mj_pv_up9 (by decide), mj_pv_up9 (by decide)]
      exact mj_up_or (P := fun x => mj_to x 9) ht (by rw [mj_uc_lo (by decide)]; exact b0)
    · unfold mj_ac; rw [mj_pv_up9 (by decide)]
      exact mj_up_or (P := fun x => mj_to x 9) hw (by rw [mj_pv_up9 (by decide), mj_uc_lo (by decide)]; exact b1)
  · rw [n 9 (by decide)]; exact e i hi
  · rw [n8]
    by_cases hcc : c = C
    · subst hcc; rw [mj_up_at]; exact hb
    · rw [mj_up_at2 hcc]; exact f c (by omega)
  · rw [n 4 (by decide)]; exact (q g' h1 h2).1
  · rw [n 9 (by decide)]; exact (q g' h1 h2).2 c' hc'
  · rw [n 7 (by decide)]; exact (l c' (by omega) h2).1
  · rw [n 9 (by decide)]; exact (l c' (by omega) h2).2 g' hg'
  · unfold mj_ac
    exact mj_wf_nz (by decide) (show C < 6 from hC) (mj_wf_nz (by decide) (show C < 6 from hC) (mj_wf_nz (by decide) (show C < 6 from hC) (mj_nz_uc (by decide) z)))
/-- three of them as a mask -/
def mj_m3 (a b c : Nat) : Int32 := ((nI 1 <<< (nI a &&& 31)) ||| (nI 1 <<< (nI b &&& 31))) ||| (nI 1 <<< (nI c &&& 31))
theorem mj_m3_chk : (List.range 8).all (fun a => (List.range 8).all (fun b => (List.range 8).all (fun c => decide (a = b) || decide (a = c) || decide (b = c) || (decide (0 ≤ (mj_m3 a b c).toInt) && decide ((mj_m3 a b c).toInt ≤ 255) && decide (mj_bt (mj_m3 a b c) a = nI 1) && decide ((nI 1 <<< (nI a &&& 31)) + (nI 1 <<< (nI b &&& 31)) + (nI 1 <<< (nI c &&& 31)) = mj_m3 a b c))))) = true := by decide +kernel

theorem mj_m3P {a b c : Nat} (ha : a < 8) (hb : b < 8) (hc : c < 8) (h1 : ¬ a = b) (h2 : ¬ a = c) (h3 : ¬ b = c) : mj_to (mj_m3 a b c) 255 ∧ mj_bt (mj_m3 a b c) a = nI 1 ∧ (nI 1 <<< (nI a &&& 31)) + (nI 1 <<< (nI b &&& 31)) + (nI 1 <<< (nI c &&& 31)) = mj_m3 a b c := by
  have q := List.all_eq_true.mp (List.all_eq_true.mp (List.all_eq_true.mp mj_m3_chk a (List.mem_range.mpr ha)) b (List.mem_range.mpr hb)) c (List.mem_range.mpr hc)
  simp only [h1, h2, h3, decide_false, Bool.false_or, Bool.and_eq_true, decide_eq_true_eq] at q
  obtain ⟨⟨⟨q1, q2⟩, q3⟩, q4⟩ := q
  refine ⟨?_, q3, q4⟩
  obtain ⟨j, hj, e⟩ := nI_of (x := mj_m3 a b c) (by rw [Int32.lt_iff_toInt_lt, Int32.toInt_zero]; omega)
  rw [e, nI_toInt hj] at q2
  exact ⟨j, by omega, e⟩
theorem mj_sok_le {π : Nat → Nat → Int32} {G2 : Nat} (h : mj_sok A G) (hG : G ≤ G2) : mj_sok (π, A.2) G2 := by
  intro s hs
  rcases h s hs with q | q | ⟨q, k, hk, e⟩
  · exact Or.inl q
  · exact Or.inr (Or.inl q)
  · exact Or.inr (Or.inr ⟨q, k, by omega, e⟩)
theorem s_X8_addsGrown (h : mj_wf π G C) (hG : G < 8) {k a m t : Int32} : mj_C 132 [.ref 62, .int k, .int a, .int m, .int t] (mj_wb 64 62 π σ) τ = some (some (.int (nI G)), mj_wb 64 62 (mj_ag π G k a m t) σ, τ) := by
  obtain ⟨z4, z9⟩ := h.2.2.2.2.2.1 G (Nat.le_refl G) hG
  have h0 := h.1.2.2.1
  have z : mj_up (mj_up (mj_up (mj_up (mj_up π 0 G k) 1 G a) 2 G m) 3 G t) 4 G (nI 0) = mj_up (mj_up (mj_up (mj_up π 0 G k) 1 G a) 2 G m) 3 G t := mj_up_self (by rw [mj_pv_up9 (by decide), mj_pv_up9 (by decide), mj_pv_up9 (by decide), mj_pv_up9 (by decide)]; exact z4)
  have n10 : mj_up (mj_up (mj_up (mj_up π 0 G k) 1 G a) 2 G m) 3 G t 10 0 = nI G := by rw [mj_pv_up9 (by decide), mj_pv_up9 (by decide), mj_pv_up9 (by decide), mj_pv_up9 (by decide)]; exact h0
  have l := s_X8_ag_loop (σ := σ) (τ := τ) (ρ := mj_up (mj_up (mj_up (mj_up π 0 G k) 1 G a) 2 G m) 3 G t) hG n10 (fun c hc => by rw [mj_pv_up9 (by decide), mj_pv_up9 (by decide), mj_pv_up9 (by decide), mj_pv_up9 (by decide)]; exact z9 c hc) (l1 := some (.int k)) (l2 := some (.int a)) (l3 := some (.int m)) (l4 := some (.int t)) 6 0 rfl
  rw [mj_up_uc (by decide), mj_up_uc (by decide), mj_up_uc (by decide), mj_up_uc (by decide)] at l
  have w0 : ∀ ρ : Nat → Nat → Int32, ρ 10 0 = nI G → ∀ σ, mj_wb 64 62 ρ σ 62 0 = nI G := fun ρ hρ σ => wo_0.trans hρ
  have y0 : (mj_up π 0 G k) 10 0 = nI G := by rw [mj_pv_up9 (by decide)]; exact h0
  have y1 : (mj_up (mj_up π 0 G k) 1 G a) 10 0 = nI G := by rw [mj_pv_up9 (by decide)]; exact y0
  have y2 : (mj_up (mj_up (mj_up π 0 G k) 1 G a) 2 G m) 10 0 = nI G := by rw [mj_pv_up9 (by decide)]; exact y1
  simp (maxSteps := 1000000) (disch := first | assumption | omega) only [c132, ↓e132_0, ↓e132_1, ↓e132_4, ↓e132_5, ↓e132_8, ↓e132_9, ↓e132_10, ↓e132_11, ↓e132_14, ↓e132_15, ↓e132_18, ↓e132_19, ↓e132_20, ↓e132_21, ↓e132_24, ↓e132_25, ↓e132_28, ↓e132_29, ↓e132_30, ↓e132_31, ↓e132_34, ↓e132_35, ↓e132_38, ↓e132_40, ↓e132_41, ↓e132_42, ↓e132_45, ↓e132_46, ↓e132_49, ↓e132_50, ↓e132_51, ↓e132_52, ↓e132_56, ↓e132_58, ↓e132_61, ↓e132_62, ↓e132_65, ↓e132_67, ↓e132_69, ↓e132_70, ↓e132_71, ↓e132_74, ↓e132_75, ↓e132_76, ↓e132_77, ↓e132_80, ↓e132_83, ↓e132_84, ↓e132_85, ↓e132_88, ↓e132_89, ↓e132_90, ↓e132_91, ↓e132_94, li_p0, li_p1, li_p2, li_p3, li_p4, li_p5, li_p6, li_p7, li_p8, li_p9, li_10, li_11, li_12, li_13, li_14, li_15, li_16, li_17, li_18, li_19, li_20, li_21, li_22, li_23, li_24, li_25, li_26, li_27, li_28, li_29, li_30, li_31, li_32, li_33, li_34, li_35, li_36, li_37, li_38, li_39, li_56, li_57, li_58, li_60, li_61, li_63, li_64, li_65, li_66, li_67, li_68, li_69, li_70, li_71, li_72, li_73, li_74, li_75, li_76, li_77, li_80, li_81, li_82, li_83, li_84, li_85, li_86, li_87, li_88, li_89, li_90, li_91, li_92, lw_q0, lw_q1, lw_q2, lw_q3, lw_q4, lw_q5, lw_q6, lw_q7, lw_q8, lw_q9, lw_10, lw_11, lw_12, lw_13, lw_14, lw_15, lw_16, lw_17, lw_18, lw_19, lw_20, lw_21, lw_22, lw_23, lw_24, lw_25, lw_26, lw_27, lw_28, lw_29, lw_30, lw_31, lw_32, lw_33, lw_34, lw_35, lw_36, lw_37, lw_38, lw_39, lw_56, lw_57, lw_58, lw_60, lw_61, lw_63, lw_64, lw_65, lw_66, lw_67, lw_68, lw_69, lw_70, lw_71, lw_72, lw_73, lw_74, lw_75, lw_76, lw_77, lw_80, lw_81, lw_82, lw_83, lw_84, lw_85, lw_86, lw_87, lw_88, lw_89, ll_78, ll_79, ll_s, rc6, rc2, rc3, rc5, rc7, rc1, rc0, rc4, rcs_0, rcs_1, rcs_2, rcs_3, rcs_4, mj_ib_nI, ↓reduceIte, mj_bdK, mj_ls, mj_ln, nI_clamp, nI_add, pk_mul, mj_nIeq0, mj_nIlt0, mj_nIle0, mj_nIeq, mj_nIle, mj_nIlt, mj_ok0, mj_ok1, mj_okb, mj_b0, mj_bR, mj_bR2, Nat.reduceEqDiff, wo_0, um_0, um_1, um_2, um_3, um_4, h0, y0, y1, y2, n10, z]
  exact l
theorem s_X8_ac_loop {ρ : Nat → Nat → Int32} (hC6 : C < 6) (h0 : ρ 10 1 = nI C) (h9 : ∀ g, g < 8 → ρ 9 (8 * C + g) = nI 0) {l1 l2 l3 l4 l5 : Option Value} : ∀ (n i : Nat), i + n = 8 → mj_E 133 55 [some (.ref 62), l1, l2, l3, l4, l5, some (.int (nI i))] [] (mj_wb 64 62 ρ σ) τ = some (some (.int (nI C)), mj_wb 64 62 (mj_uc ρ 1 (nI (C + 1))) σ, τ) := by
  intro n
  induction n with
  | zero =>
    intro i hi
    have h6 : 8 ≤ i := by omega
    simp (maxSteps := 1000000) (disch := first | assumption | omega) only [c133, ↓e133_0, ↓e133_1, ↓e133_4, ↓e133_5, ↓e133_8, ↓e133_9, ↓e133_10, ↓e133_11, ↓e133_14, ↓e133_15, ↓e133_18, ↓e133_19, ↓e133_20, ↓e133_21, ↓e133_24, ↓e133_25, ↓e133_28, ↓e133_29, ↓e133_30, ↓e133_31, ↓e133_34, ↓e133_35, ↓e133_38, ↓e133_39, ↓e133_40, ↓e133_41, ↓e133_42, ↓e133_44, ↓e133_45, ↓e133_46, ↓e133_47, ↓e133_49, ↓e133_50, ↓e133_51, ↓e133_52, ↓e133_53, ↓e133_55, ↓e133_57, ↓e133_59, ↓e133_62, ↓e133_63, ↓e133_66, ↓e133_68, ↓e133_69, ↓e133_72, ↓e133_73, ↓e133_75, ↓e133_76, ↓e133_77, ↓e133_78, ↓e133_81, ↓e133_84, ↓e133_85, ↓e133_86, ↓e133_89, ↓e133_90, ↓e133_91, ↓e133_92, ↓e133_95, li_p0, li_p1, li_p2, li_p3, li_p4, li_p5, li_p6, li_p7, li_p8, li_p9, li_10, li_11, li_12, li_13, li_14, li_15, li_16, li_17, li_18, li_19, li_20, li_21, li_22, li_23, li_24, li_25, li_26, li_27, li_28, li_29, li_30, li_31, li_32, li_33, li_34, li_35, li_36, li_37, li_38, li_39, li_56, li_57, li_58, li_60, li_61, li_63, li_64, li_65, li_66, li_67, li_68, li_69, li_70, li_71, li_72, li_73, li_74, li_75, li_76, li_77, li_80, li_81, li_82, li_83, li_84, li_85, li_86, li_87, li_88, li_89, li_90, li_91, li_92, lw_q0, lw_q1, lw_q2, lw_q3, lw_q4, lw_q5, lw_q6, lw_q7, lw_q8, lw_q9, lw_10, lw_11, lw_12, lw_13, lw_14, lw_15, lw_16, lw_17, lw_18, lw_19, lw_20, lw_21, lw_22, lw_23, lw_24, lw_25, lw_26, lw_27, lw_28, lw_29, lw_30, lw_31, lw_32, lw_33, lw_34, lw_35, lw_36, lw_37, lw_38, lw_39, lw_56, lw_57, lw_58, lw_60, lw_61, lw_63, lw_64, lw_65, lw_66, lw_67, lw_68, lw_69, lw_70, lw_71, lw_72, lw_73, lw_74, lw_75, lw_76, lw_77, lw_80, lw_81, lw_82, lw_83, lw_84, lw_85, lw_86, lw_87, lw_88, lw_89, ll_78, ll_79, ll_s, rc6, rc2, rc3, rc5, rc7, rc1, rc0, rc4, rcs_0, rcs_1, rcs_2, rcs_3, rcs_4, mj_ib_nI, ↓reduceIte, mj_bdK, mj_ls, mj_ln, nI_clamp, nI_add, pk_mul, mj_nIeq0, mj_nIlt0, mj_nIle0, mj_nIeq, mj_nIle, mj_nIlt, mj_ok0, mj_ok1, mj_okb, mj_b0, mj_bR, mj_bR2, Nat.reduceEqDiff, wo_1, uo_1, um_9, h0, h6]
  | succ n ih =>
    intro i hi
    have h6 : ¬ 8 ≤ i := by omega
    have q := ih (i + 1) (by omega)
    have q2 := mj_up_self (h9 i (by omega))
    rw [e133_55]
    simp (maxSteps := 1000000) (disch := first | assumption | omega) only [c133, ↓e133_0, ↓e133_1, ↓e133_4, ↓e133_5, ↓e133_8, ↓e133_9, ↓e133_10, ↓e133_11, ↓e133_14, ↓e133_15, ↓e133_18, ↓e133_19, ↓e133_20, ↓e133_21, ↓e133_24, ↓e133_25, ↓e133_28, ↓e133_29, ↓e133_30, ↓e133_31, ↓e133_34, ↓e133_35, ↓e133_38, ↓e133_39, ↓e133_40, ↓e133_41, ↓e133_42, ↓e133_44, ↓e133_45, ↓e133_46, ↓e133_47, ↓e133_49, ↓e133_50, ↓e133_51, ↓e133_52, ↓e133_53, ↓e133_57, ↓e133_59, ↓e133_62, ↓e133_63, ↓e133_66, ↓e133_68, ↓e133_69, ↓e133_72, ↓e133_73, ↓e133_75, ↓e133_76, ↓e133_77, ↓e133_78, ↓e133_81, ↓e133_84, ↓e133_85, ↓e133_86, ↓e133_89, ↓e133_90, ↓e133_91, ↓e133_92, ↓e133_95, li_p0, li_p1, li_p2, li_p3, li_p4, li_p5, li_p6, li_p7, li_p8, li_p9, li_10, li_11, li_12, li_13, li_14, li_15, li_16, li_17, li_18, li_19, li_20, li_21, li_22, li_23, li_24, li_25, li_26, li_27, li_28, li_29, li_30, li_31, li_32, li_33, li_34, li_35, li_36, li_37, li_38, li_39, li_56, li_57, li_58, li_60, li_61, li_63, li_64, li_65, li_66, li_67, li_68, li_69, li_70, li_71, li_72, li_73, li_74, li_75, li_76, li_77, li_80, li_81, li_82, li_83, li_84, li_85, li_86, li_87, li_88, li_89, li_90, li_91, li_92, lw_q0, lw_q1, lw_q2, lw_q3, lw_q4, lw_q5, lw_q6, lw_q7, lw_q8, lw_q9, lw_10, lw_11, lw_12, lw_13, lw_14, lw_15, lw_16, lw_17, lw_18, lw_19, lw_20, lw_21, lw_22, lw_23, lw_24, lw_25, lw_26, lw_27, lw_28, lw_29, lw_30, lw_31, lw_32, lw_33, lw_34, lw_35, lw_36, lw_37, lw_38, lw_39, lw_56, lw_57, lw_58, lw_60, lw_61, lw_63, lw_64, lw_65, lw_66, lw_67, lw_68, lw_69, lw_70, lw_71, lw_72, lw_73, lw_74, lw_75, lw_76, lw_77, lw_80, lw_81, lw_82, lw_83, lw_84, lw_85, lw_86, lw_87, lw_88, lw_89, ll_78, ll_79, ll_s, rc6, rc2, rc3, rc5, rc7, rc1, rc0, rc4, rcs_0, rcs_1, rcs_2, rcs_3, rcs_4, mj_ib_nI, ↓reduceIte, mj_bdK, mj_ls, mj_ln, nI_clamp, nI_add, pk_mul, mj_nIeq0, mj_nIlt0, mj_nIle0, mj_nIeq, mj_nIle, mj_nIlt, mj_ok0, mj_ok1, mj_okb, mj_b0, mj_bR, mj_bR2, Nat.reduceEqDiff, wo_1, uo_1, um_9, h0, h6, q2, q]
theorem s_X8_addsChild (h : mj_wf π G C) (hC : C < 6) {t w : Int32} {a b c : Nat} (ha : a < 8) (hb : b < 8) (hc : c < 8) (h1 : ¬ a = b) (h2 : ¬ a = c) (h3 : ¬ b = c) : mj_C 133 [.ref 62, .int t, .int w, .int (nI a), .int (nI b), .int (nI c)] (mj_wb 64 62 π σ) τ = some (some (.int (nI C)), mj_wb 64 62 (mj_ac π C t w (mj_m3 a b c)) σ, τ) := by
  obtain ⟨z7, z9⟩ := h.2.2.2.2.2.2.1 C (Nat.le_refl C) hC
  obtain ⟨-, -, m3⟩ := mj_m3P ha hb hc h1 h2 h3
  have h0 := h.1.2.2.2.1
  have y0 : (mj_up π 5 C t) 10 1 = nI C := by rw [mj_pv_up9 (by decide)]; exact h0
  have y1 : (mj_up (mj_up π 5 C t) 6 C w) 10 1 = nI C := by rw [mj_pv_up9 (by decide)]; exact y0
  have y2 : (mj_up (mj_up (mj_up π 5 C t) 6 C w) 8 C (mj_m3 a b c)) 10 1 = nI C := by rw [mj_pv_up9 (by decide)]; exact y1
  have z : mj_up (mj_up (mj_up π 5 C t) 6 C w) 7 C (nI 0) = mj_up (mj_up π 5 C t) 6 C w := mj_up_self (by rw [mj_pv_up9 (by decide), mj_pv_up9 (by decide)]; exact z7)
  have l := s_X8_ac_loop (σ := σ) (τ := τ) (ρ := mj_up (mj_up (mj_up π 5 C t) 6 C w) 8 C (mj_m3 a b c)) hC y2 (fun c hc => by rw [mj_pv_up9 (by decide), mj_pv_up9 (by decide), mj_pv_up9 (by decide)]; exact z9 c hc) (l1 := some (.int t)) (l2 := some (.int w)) (l3 := some (.int (nI a))) (l4 := some (.int (nI b))) (l5 := some (.int (nI c))) 8 0 rfl
  rw [mj_up_uc (by decide), mj_up_uc (by decide), mj_up_uc (by decide)] at l
  simp (maxSteps := 1000000) (disch := first | assumption | omega) only [c133, ↓e133_0, ↓e133_1, ↓e133_4, ↓e133_5, ↓e133_8, ↓e133_9, ↓e133_10, ↓e133_11, ↓e133_14, ↓e133_15, ↓e133_18, ↓e133_19, ↓e133_20, ↓e133_21, ↓e133_24, ↓e133_25, ↓e133_28, ↓e133_29, ↓e133_30, ↓e133_31, ↓e133_34, ↓e133_35, ↓e133_38, ↓e133_39, ↓e133_40, ↓e133_41, ↓e133_42, ↓e133_44, ↓e133_45, ↓e133_46, ↓e133_47, ↓e133_49, ↓e133_50, ↓e133_51, ↓e133_52, ↓e133_53, ↓e133_57, ↓e133_59, ↓e133_62, ↓e133_63, ↓e133_66, ↓e133_68, ↓e133_69, ↓e133_72, ↓e133_73, ↓e133_75, ↓e133_76, ↓e133_77, ↓e133_78, ↓e133_81, ↓e133_84, ↓e133_85, ↓e133_86, ↓e133_89, ↓e133_90, ↓e133_91, ↓e133_92, ↓e133_95, li_p0, li_p1, li_p2, li_p3, li_p4, li_p5, li_p6, li_p7, li_p8, li_p9, li_10, li_11, li_12, li_13, li_14, li_15, li_16, li_17, li_18, li_19, li_20, li_21, li_22, li_23, li_24, li_25, li_26, li_27, li_28, li_29, li_30, li_31, li_32, li_33, li_34, li_35, li_36, li_37, li_38, li_39, li_56, li_57, li_58, li_60, li_61, li_63, li_64, li_65, li_66, li_67, li_68, li_69, li_70, li_71, li_72, li_73, li_74, li_75, li_76, li_77, li_80, li_81, li_82, li_83, li_84, li_85, li_86, li_87, li_88, li_89, li_90, li_91, li_92, lw_q0, lw_q1, lw_q2, lw_q3, lw_q4, lw_q5, lw_q6, lw_q7, lw_q8, lw_q9, lw_10, lw_11, lw_12, lw_13, lw_14, lw_15, lw_16, lw_17, lw_18, lw_19, lw_20, lw_21, lw_22, lw_23, lw_24, lw_25, lw_26, lw_27, lw_28, lw_29, lw_30, lw_31, lw_32, lw_33, lw_34, lw_35, lw_36, lw_37, lw_38, lw_39, lw_56, lw_57, lw_58, lw_60, lw_61, lw_63, lw_64, lw_65, lw_66, lw_67, lw_68, lw_69, lw_70, lw_71, lw_72, lw_73, lw_74, lw_75, lw_76, lw_77, lw_80, lw_81, lw_82, lw_83, lw_84, lw_85, lw_86, lw_87, lw_88, lw_89, ll_78, ll_79, ll_s, rc6, rc2, rc3, rc5, rc7, rc1, rc0, rc4, rcs_0, rcs_1, rcs_2, rcs_3, rcs_4, mj_ib_nI, ↓reduceIte, mj_bdK, mj_ls, mj_ln, nI_clamp, nI_add, pk_mul, mj_nIeq0, mj_nIlt0, mj_nIle0, mj_nIeq, mj_nIle, mj_nIlt, mj_ok0, mj_ok1, mj_okb, mj_b0, mj_bR, mj_bR2, Nat.reduceEqDiff, wo_1, um_5, um_6, um_7, um_8, h0, y0, y1, y2, z, m3]
  exact l

end
