/-! PARISH: the model reads an item, a text -/
section
variable {π ρ : Nat → Nat → Int32} {σ σm : mj_S} {τ τm : mj_T} {A : mj_A} {G C c g s n p w : Nat} {T : Nat → Int32} {pl nb wr : Int32} {t : Nat → Int32} {tn : Nat → Nat}
theorem pp_max_le {a b k : Nat} (ha : a ≤ k) (hb : b ≤ k) : pp_max a b ≤ k := by unfold pp_max; split <;> omega
theorem pp_max_l {a b : Nat} : a ≤ pp_max a b := by unfold pp_max; split <;> omega
theorem pp_max_r {a b : Nat} : b ≤ pp_max a b := by unfold pp_max; split <;> omega
theorem pm_mE {x b : Nat} : pm_m p (p + x) b = p + pp_max x b := by unfold pm_m pp_max; split <;> split <;> omega
def pm_lo (T : Nat → Int32) (n p : Nat) : Nat := pp_max (pp_max (pp_max (pp_max (pp_max 0 (pp_b T n p 0)) (pp_b T n p 1)) (pp_b T n p 2)) (pp_b T n p 3)) (pp_b T n p 4)
theorem pm_lo_n (h : pp_fw T n p = none) : pm_lo T n p = pp_lo T n p ∧ ∀ w, w < 5 → ¬ pp_b T n p w = pp_len w + 1 := by
  obtain ⟨c0, c1, c2, c3, c4⟩ := pp_fw_n h
  have e0 := pp_b_no (T := T) (n := n) (p := p) (w := 0) c0
  have e1 := pp_b_no (T := T) (n := n) (p := p) (w := 1) c1
  have e2 := pp_b_no (T := T) (n := n) (p := p) (w := 2) c2
  have e3 := pp_b_no (T := T) (n := n) (p := p) (w := 3) c3
  have e4 := pp_b_no (T := T) (n := n) (p := p) (w := 4) c4
  refine ⟨by unfold pm_lo pp_lo; rw [e0, e1, e2, e3, e4], fun w hw => ?_⟩
  have hl : pp_a T n p w ≤ pp_len w := pp_al_le _ _
  rcases (show w = 0 ∨ w = 1 ∨ w = 2 ∨ w = 3 ∨ w = 4 by omega) with rfl | rfl | rfl | rfl | rfl
  · rw [e0]; omega
  · rw [e1]; omega
  · rw [e2]; omega
  · rw [e3]; omega
  · rw [e4]; omega
theorem pm_lo_b (h : pp_fw T n p = some w) (hb : ¬ pp_bl T n (p + pp_len w)) : pm_lo T n p = pp_len w ∧ ∀ v, v < 5 → ¬ pp_b T n p v = pp_len v + 1 := by
  obtain ⟨hw, ha⟩ := pp_fw_s h
  have ew := pp_b_nb hw ha hb
  have h1 : 1 ≤ pp_len w := by rcases (show w = 0 ∨ w = 1 ∨ w = 2 ∨ w = 3 ∨ w = 4 by omega) with rfl | rfl | rfl | rfl | rfl <;> decide
  have o : ∀ v, v < 5 → ¬ v = w → pp_b T n p v ≤ 1 := fun v hv hne => (pp_else hw hv hne ha).1
  have le : ∀ v, v < 5 → pp_b T n p v ≤ pp_len w := fun v hv => by
    by_cases q : v = w
    · rw [q, ew]; exact Nat.le_refl _
    · exact Nat.le_trans (o v hv q) h1
  refine ⟨Nat.le_antisymm ?_ ?_, fun v hv => ?_⟩
  · unfold pm_lo
    exact pp_max_le (pp_max_le (pp_max_le (pp_max_le (pp_max_le (Nat.zero_le _) (le 0 (by decide))) (le 1 (by decide))) (le 2 (by decide))) (le 3 (by decide))) (le 4 (by decide))
  · have r : pp_b T n p w ≤ pm_lo T n p := by
      unfold pm_lo
      rcases (show w = 0 ∨ w = 1 ∨ w = 2 ∨ w = 3 ∨ w = 4 by omega) with q | q | q | q | q
      · rw [q]; exact Nat.le_trans (Nat.le_trans (Nat.le_trans (Nat.le_trans pp_max_r pp_max_l) pp_max_l) pp_max_l) pp_max_l
      · rw [q]; exact Nat.le_trans (Nat.le_trans (Nat.le_trans pp_max_r pp_max_l) pp_max_l) pp_max_l
      · rw [q]; exact Nat.le_trans (Nat.le_trans pp_max_r pp_max_l) pp_max_l
      · rw [q]; exact Nat.le_trans pp_max_r pp_max_l
      · rw [q]; exact pp_max_r
    rw [ew] at r; exact r
  · by_cases q : v = w
    · rw [q, ew]; omega
    · have := o v hv q
      have h2 : 1 ≤ pp_len v := by rcases (show v = 0 ∨ v = 1 ∨ v = 2 ∨ v = 3 ∨ v = 4 by omega) with rfl | rfl | rfl | rfl | rfl <;> decide
      omega
theorem pm_word (hs : s < 8) (hbs : σ 62 27 = nI (160 * s)) (hn : σ 62 29 = nI n) (hn2 : n ≤ 160) (hT : ∀ i, i < n → (τ 78 (160 * s + i)).toInt32 = T i) (hwd : ∀ i, i < 32 → σ 80 i = mj_wds.getD i 0) (hp : p ≤ 160) : ((∀ w, w < 5 → ¬ pp_b T n p w = pp_len w + 1) → mj_C 146 [.ref 62] (mj_wb 64 62 π (pp_w σ (nI p) nb wr t)) τ = some (some (.int (-1)), mj_wb 64 62 π (pp_w σ (nI p) nb (nI (p + pm_lo T n p)) t), τ)) ∧ (∀ w, w < 5 → pp_b T n p w = pp_len w + 1 → (∀ v, v < w → ¬ pp_b T n p v = pp_len v + 1) → mj_C 146 [.ref 62] (mj_wb 64 62 π (pp_w σ (nI p) nb wr t)) τ = some (some (.int (nI w)), mj_wb 64 62 π (pp_w σ (nI (p + (pp_len w + 1))) nb wr t), τ)) := by
  have bl : ∀ w, w < 5 → pp_b T n p w ≤ 6 := fun w hw => Nat.le_trans (pp_al_le _ _) (by have := pp_len_le (w := w); omega)
  have fl : ∀ {F b : Nat}, F ≤ 200 → b ≤ 6 → pm_m p F b ≤ 200 := fun {F b} h1 h2 => by unfold pm_m; split <;> omega

  have g1 : (pm_m p p (pp_b T n p 0)) ≤ 200 := fl (by omega) (bl 0 (by decide))
  have g2 : (pm_m p (pm_m p p (pp_b T n p 0)) (pp_b T n p 1)) ≤ 200 := fl g1 (bl 1 (by decide))
  have g3 : (pm_m p (pm_m p (pm_m p p (pp_b T n p 0)) (pp_b T n p 1)) (pp_b T n p 2)) ≤ 200 := fl g2 (bl 2 (by decide))
  have g4 : (pm_m p (pm_m p (pm_m p (pm_m p p (pp_b T n p 0)) (pp_b T n p 1)) (pp_b T n p 2)) (pp_b T n p 3)) ≤ 200 := fl g3 (bl 3 (by decide))
  have g5 : (pm_m p (pm_m p (pm_m p (pm_m p (pm_m p p (pp_b T n p 0)) (pp_b T n p 1)) (pp_b T n p 2)) (pp_b T n p 3)) (pp_b T n p 4)) ≤ 200 := fl g4 (bl 4 (by decide))
  have st : ∀ w, w ≤ 5 → (∀ v, v < w → ¬ pp_b T n p v = pp_len v + 1) → ∃ l4 l5, mj_C 146 [.ref 62] (mj_wb 64 62 π (pp_w σ (nI p) nb wr t)) τ = mj_E 146 9 [some (.ref 62), some (.int (nI (if w = 5 then 32 else pp_off w))), some (.int (nI (if w = 0 then p else if w = 1 then (pm_m p p (pp_b T n p 0)) else if w = 2 then (pm_m p (pm_m p p (pp_b T n p 0)) (pp_b T n p 1)) else if w = 3 then (pm_m p (pm_m p (pm_m p p (pp_b T n p 0)) (pp_b T n p 1)) (pp_b T n p 2)) else if w = 4 then (pm_m p (pm_m p (pm_m p (pm_m p p (pp_b T n p 0)) (pp_b T n p 1)) (pp_b T n p 2)) (pp_b T n p 3)) else (pm_m p (pm_m p (pm_m p (pm_m p (pm_m p p (pp_b T n p 0)) (pp_b T n p 1)) (pp_b T n p 2)) (pp_b T n p 3)) (pp_b T n p 4))))), some (.int (nI w)), l4, l5] [] (mj_wb 64 62 π (pp_w σ (nI p) nb wr t)) τ := by
    intro w hw hno
    have s0 : mj_C 146 [.ref 62] (mj_wb 64 62 π (pp_w σ (nI p) nb wr t)) τ = mj_E 146 9 [some (.ref 62), some (.int (nI 0)), some (.int (nI p)), some (.int (nI 0)), none, none] [] (mj_wb 64 62 π (pp_w σ (nI p) nb wr t)) τ := by
      simp (maxSteps := 1000000) (disch := first | assumption | omega) only [↓e146_0, ↓e146_1, ↓e146_2, ↓e146_3, ↓e146_6, ↓e146_7, ↓e146_8, c146, ↓e146_0, ↓e146_1, ↓e146_3, ↓e146_6, ↓e146_7, ↓e146_8, li_p0, li_p1, li_p2, li_p3, li_p4, li_p5, li_p6, li_p7, li_p8, li_p9, li_10, li_11, li_12, li_13, li_14, li_15, li_16, li_17, li_18, li_19, li_20, li_21, li_22, li_23, li_24, li_25, li_26, li_27, li_28, li_29, li_30, li_31, li_32, li_33, li_34, li_35, li_36, li_37, li_38, li_39, li_56, li_57, li_58, li_60, li_61, li_63, li_64, li_65, li_66, li_67, li_68, li_69, li_70, li_71, li_72, li_73, li_74, li_75, li_76, li_77, li_80, li_81, li_82, li_83, li_84, li_85, li_86, li_87, li_88, li_89, li_90, li_91, li_92, lw_q0, lw_q1, lw_q2, lw_q3, lw_q4, lw_q5, lw_q6, lw_q7, lw_q8, lw_q9, lw_10, lw_11, lw_12, lw_13, lw_14, lw_15, lw_16, lw_17, lw_18, lw_19, lw_20, lw_21, lw_22, lw_23, lw_24, lw_25, lw_26, lw_27, lw_28, lw_29, lw_30, lw_31, lw_32, lw_33, lw_34, lw_35, lw_36, lw_37, lw_38, lw_39, lw_56, lw_57, lw_58, lw_60, lw_61, lw_63, lw_64, lw_65, lw_66, lw_67, lw_68, lw_69, lw_70, lw_71, lw_72, lw_73, lw_74, lw_75, lw_76, lw_77, lw_80, lw_81, lw_82, lw_83, lw_84, lw_85, lw_86, lw_87, lw_88, lw_89, ll_78, ll_79, ll_s, rc6, rc2, rc3, rc5, rc7, rc1, rc0, rc4, rcs_0, rcs_1, rcs_2, rcs_3, rcs_4, mj_ib_nI, ↓reduceIte, mj_bdK, mj_ls, mj_ln, nI_clamp, nI_add, pk_mul, mj_nIeq0, mj_nIlt0, mj_nIle0, mj_nIeq, mj_nIle, mj_nIlt, mj_ok0, mj_ok1, mj_okb, mj_b0, mj_bR, mj_bR2, Nat.reduceEqDiff, pm_p]
    by_cases q0 : w = 0
    · subst q0; exact ⟨none, none, s0⟩
    · obtain ⟨a1, b1, s1⟩ := (pm_word_0 (π := π) (nb := nb) (wr := wr) (t := t) hs hbs hn hn2 hT hwd hp (F := p) (by omega) (l4 := none) (l5 := none)).2 (hno 0 (by omega))
      by_cases q1 : w = 1
      · subst q1; exact ⟨a1, b1, s0.trans s1⟩
      · obtain ⟨a2, b2, s2⟩ := (pm_word_1 (π := π) (nb := nb) (wr := wr) (t := t) hs hbs hn hn2 hT hwd hp (F := (pm_m p p (pp_b T n p 0))) (by omega) (l4 := a1) (l5 := b1)).2 (hno 1 (by omega))
        by_cases q2 : w = 2
        · subst q2; exact ⟨a2, b2, s0.trans (s1.trans s2)⟩
        · obtain ⟨a3, b3, s3⟩ := (pm_word_2 (π := π) (nb := nb) (wr := wr) (t := t) hs hbs hn hn2 hT hwd hp (F := (pm_m p (pm_m p p (pp_b T n p 0)) (pp_b T n p 1))) (by omega) (l4 := a2) (l5 := b2)).2 (hno 2 (by omega))
          by_cases q3 : w = 3
          · subst q3; exact ⟨a3, b3, s0.trans (s1.trans (s2.trans s3))⟩
          · obtain ⟨a4, b4, s4⟩ := (pm_word_3 (π := π) (nb := nb) (wr := wr) (t := t) hs hbs hn hn2 hT hwd hp (F := (pm_m p (pm_m p (pm_m p p (pp_b T n p 0)) (pp_b T n p 1)) (pp_b T n p 2))) (by omega) (l4 := a3) (l5 := b3)).2 (hno 3 (by omega))
            by_cases q4 : w = 4
            · subst q4; exact ⟨a4, b4, s0.trans (s1.trans (s2.trans (s3.trans s4)))⟩
            · obtain ⟨a5, b5, s5⟩ := (pm_word_4 (π := π) (nb := nb) (wr := wr) (t := t) hs hbs hn hn2 hT hwd hp (F := (pm_m p (pm_m p (pm_m p (pm_m p p (pp_b T n p 0)) (pp_b T n p 1)) (pp_b T n p 2)) (pp_b T n p 3))) (by omega) (l4 := a4) (l5 := b4)).2 (hno 4 (by omega))
              obtain rfl : w = 5 := by omega
              exact ⟨a5, b5, s0.trans (s1.trans (s2.trans (s3.trans (s4.trans s5))))⟩
  constructor
  · intro hno
    obtain ⟨l4, l5, s⟩ := st 5 (by decide) hno
    rw [s]
    have e : (pm_m p (pm_m p (pm_m p (pm_m p (pm_m p p (pp_b T n p 0)) (pp_b T n p 1)) (pp_b T n p 2)) (pp_b T n p 3)) (pp_b T n p 4)) = p + pm_lo T n p := by
      unfold pm_lo
      have z : pm_m p p (pp_b T n p 0) = p + pp_max 0 (pp_b T n p 0) := pm_mE (x := 0)
      rw [z, pm_mE, pm_mE, pm_mE, pm_mE]
    rw [show (if (5 : Nat) = 0 then p else if 5 = 1 then (pm_m p p (pp_b T n p 0)) else if 5 = 2 then (pm_m p (pm_m p p (pp_b T n p 0)) (pp_b T n p 1)) else if 5 = 3 then (pm_m p (pm_m p (pm_m p p (pp_b T n p 0)) (pp_b T n p 1)) (pp_b T n p 2)) else if 5 = 4 then (pm_m p (pm_m p (pm_m p (pm_m p p (pp_b T n p 0)) (pp_b T n p 1)) (pp_b T n p 2)) (pp_b T n p 3)) else (pm_m p (pm_m p (pm_m p (pm_m p (pm_m p p (pp_b T n p 0)) (pp_b T n p 1)) (pp_b T n p 2)) (pp_b T n p 3)) (pp_b T n p 4))) = (pm_m p (pm_m p (pm_m p (pm_m p (pm_m p p (pp_b T n p 0)) (pp_b T n p 1)) (pp_b T n p 2)) (pp_b T n p 3)) (pp_b T n p 4)) from rfl, e]
    simp (maxSteps := 1000000) (disch := first | assumption | omega) only [↓e146_9, ↓e146_10, ↓e146_11, ↓e146_129, ↓e146_130, ↓e146_131, ↓e146_134, ↓e146_135, li_p0, li_p1, li_p2, li_p3, li_p4, li_p5, li_p6, li_p7, li_p8, li_p9, li_10, li_11, li_12, li_13, li_14, li_15, li_16, li_17, li_18, li_19, li_20, li_21, li_22, li_23, li_24, li_25, li_26, li_27, li_28, li_29, li_30, li_31, li_32, li_33, li_34, li_35, li_36, li_37, li_38, li_39, li_56, li_57, li_58, li_60, li_61, li_63, li_64, li_65, li_66, li_67, li_68, li_69, li_70, li_71, li_72, li_73, li_74, li_75, li_76, li_77, li_80, li_81, li_82, li_83, li_84, li_85, li_86, li_87, li_88, li_89, li_90, li_91, li_92, lw_q0, lw_q1, lw_q2, lw_q3, lw_q4, lw_q5, lw_q6, lw_q7, lw_q8, lw_q9, lw_10, lw_11, lw_12, lw_13, lw_14, lw_15, lw_16, lw_17, lw_18, lw_19, lw_20, lw_21, lw_22, lw_23, lw_24, lw_25, lw_26, lw_27, lw_28, lw_29, lw_30, lw_31, lw_32, lw_33, lw_34, lw_35, lw_36, lw_37, lw_38, lw_39, lw_56, lw_57, lw_58, lw_60, lw_61, lw_63, lw_64, lw_65, lw_66, lw_67, lw_68, lw_69, lw_70, lw_71, lw_72, lw_73, lw_74, lw_75, lw_76, lw_77, lw_80, lw_81, lw_82, lw_83, lw_84, lw_85, lw_86, lw_87, lw_88, lw_89, ll_78, ll_79, ll_s, rc6, rc2, rc3, rc5, rc7, rc1, rc0, rc4, rcs_0, rcs_1, rcs_2, rcs_3, rcs_4, mj_ib_nI, ↓reduceIte, mj_bdK, mj_ls, mj_ln, nI_clamp, nI_add, pk_mul, mj_nIeq0, mj_nIlt0, mj_nIle0, mj_nIeq, mj_nIle, mj_nIlt, mj_ok0, mj_ok1, mj_okb, mj_b0, mj_bR, mj_bR2, Nat.reduceEqDiff, pm_uw, (by decide : 5 ≤ 5)]
  · intro w hw hyes hno
    obtain ⟨l4, l5, s⟩ := st w (by omega) hno
    rw [s]
    rcases (show w = 0 ∨ w = 1 ∨ w = 2 ∨ w = 3 ∨ w = 4 by omega) with rfl | rfl | rfl | rfl | rfl
    · exact (pm_word_0 (π := π) (nb := nb) (wr := wr) (t := t) hs hbs hn hn2 hT hwd hp (F := p) (by omega)).1 hyes
    · exact (pm_word_1 (π := π) (nb := nb) (wr := wr) (t := t) hs hbs hn hn2 hT hwd hp (F := (pm_m p p (pp_b T n p 0))) (by omega)).1 hyes
    · exact (pm_word_2 (π := π) (nb := nb) (wr := wr) (t := t) hs hbs hn hn2 hT hwd hp (F := (pm_m p (pm_m p p (pp_b T n p 0)) (pp_b T n p 1))) (by omega)).1 hyes
    · exact (pm_word_3 (π := π) (nb := nb) (wr := wr) (t := t) hs hbs hn hn2 hT hwd hp (F := (pm_m p (pm_m p (pm_m p p (pp_b T n p 0)) (pp_b T n p 1)) (pp_b T n p 2))) (by omega)).1 hyes
    · exact (pm_word_4 (π := π) (nb := nb) (wr := wr) (t := t) hs hbs hn hn2 hT hwd hp (F := (pm_m p (pm_m p (pm_m p (pm_m p p (pp_b T n p 0)) (pp_b T n p 1)) (pp_b T n p 2)) (pp_b T n p 3))) (by omega)).1 hyes

end
