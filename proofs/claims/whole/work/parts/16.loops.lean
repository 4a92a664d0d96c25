/-! PARISH: loops over the children and the grown ones -/
theorem mj_ch_eta {σ : mj_S} {k : Nat} : mj_ch σ k (σ k 0) (σ k 1) (σ k 2) (σ k 3) = σ := by
  funext k' i
  by_cases h : k' = k
  · subst h; by_cases h0 : i = 0 <;> by_cases h1 : i = 1 <;> by_cases h2 : i = 2 <;> by_cases h3 : i = 3 <;> simp [mj_ch, h0, h1, h2, h3]
  · simp [mj_ch, h]
def mj_us (x k : Int32) : Int32 := (x.toUInt32 >>> (k.toUInt32 &&& Int32.toUInt32 31)).toInt32
def mj_bc1 (x : Int32) : Int32 := x - (mj_us x (nI 1) &&& nI 1431655765)
def mj_bc2 (x : Int32) : Int32 := (x &&& nI 858993459) + (mj_us x (nI 2) &&& nI 858993459)
def mj_bc3 (x : Int32) : Int32 := (x + mj_us x (nI 4)) &&& nI 252645135
def mj_bc4 (x : Int32) : Int32 := x + mj_us x (nI 8)
def mj_bc5 (x : Int32) : Int32 := x + mj_us x (nI 16)
/-- Integer.bitCount -/
def mj_bcn (x : Int32) : Int32 := mj_bc5 (mj_bc4 (mj_bc3 (mj_bc2 (mj_bc1 x)))) &&& nI 63
theorem s_J6_bitCount {σ : mj_S} {τ : mj_T} {x : Int32} : mj_C 200 [.int x] σ τ = some (some (.int (mj_bcn x)), σ, τ) := by
  simp (maxSteps := 1000000) only [c200, ↓e200_0, ↓e200_1, ↓e200_2, ↓e200_3, ↓e200_4, ↓e200_7, ↓e200_8, ↓e200_9, ↓e200_10, ↓e200_11, ↓e200_14, ↓e200_15, ↓e200_16, ↓e200_17, ↓e200_18, ↓e200_21, ↓e200_22, ↓e200_23, ↓e200_24, ↓e200_25, ↓e200_26, ↓e200_27, ↓e200_28, ↓e200_29, ↓e200_32, ↓e200_33, ↓e200_34, ↓e200_35, ↓e200_36, ↓e200_38, ↓e200_39, ↓e200_40, ↓e200_41, ↓e200_42, ↓e200_43, ↓e200_45, ↓e200_46, ↓e200_47, ↓e200_48, ↓e200_49, ↓e200_51, ↓e200_52]
  rfl
/-- whose three behind CHOOSING hold g, of the first n -/
def mj_ct (π : Nat → Nat → Int32) (G g : Nat) : Nat → Int32
  | 0 => nI 0
  | n + 1 => mj_ct π G g n + mj_bt (mj_th π G n) g
/-- by whom g is given up, kept, taken, of the first n -/
def mj_by (π : Nat → Nat → Int32) (G g w : Nat) : Nat → Int32
  | 0 => nI 0
  | n + 1 => mj_by π G g w n ||| (if mj_wh π G n w = nI g then nI 1 <<< (nI n &&& 31) else nI 0)
def mj_mt (π : Nat → Nat → Int32) (G C : Nat) : Nat → Int32 × Int32
  | 0 => (-1, nI 0)
  | n + 1 => if mj_bcn (mj_by π G n 2 C) ≤ (mj_mt π G C n).2 then mj_mt π G C n else (nI n, mj_bcn (mj_by π G n 2 C))
def mj_ba (π : Nat → Nat → Int32) (G C : Nat) : Nat → Int32
  | 0 => nI 0
  | n + 1 => mj_ba π G C n + (if mj_ct π G n C ≤ π 2 n / nI 5 then nI 0 else nI 1)
section
variable {σ : mj_S} {τ : mj_T} {p c g G C : Nat}
theorem s_X2_chargeThenOf (h : mj_wp σ p G C) : ∃ a b d e, mj_C 26 [.ref p, .int (nI g)] σ τ = some (some (.int (mj_ct (mj_pv (10 * p) p σ) G g C)), mj_ch σ (p + 3) a b d e, τ) := by
  obtain ⟨h1, h2, h3⟩ := id h
  obtain ⟨hC, hC6⟩ := mj_wp_C h
  obtain ⟨hG, hG8⟩ := mj_wp_G h
  have hCc : ∀ a b d e, mj_ch σ (p + 3) a b d e p 1 = nI C := fun a b d e => by rw [mj_ch_ne (by omega)]; exact hC
  have hGc : ∀ a b d e, mj_ch σ (p + 3) a b d e p 0 = nI G := fun a b d e => by rw [mj_ch_ne (by omega)]; exact hG
  have loop : ∀ (n i : Nat) (a b d e : Int32), i + n = C → ∃ a2 b2 d2 e2, mj_E 26 4 [some (.ref p), some (.int (nI g)), some (.int (mj_ct (mj_pv (10 * p) p σ) G g i)), some (.int (nI i))] [] (mj_ch σ (p + 3) a b d e) τ = some (some (.int (mj_ct (mj_pv (10 * p) p σ) G g C)), mj_ch σ (p + 3) a2 b2 d2 e2, τ) := by
    intro n
    induction n with
    | zero =>
      intro i a b d e  hi
      obtain rfl : i = C := by omega
      refine ⟨a, b, d, e, ?_⟩
      simp (maxSteps := 1000000) (disch := first | assumption | omega) only [c26, ↓e26_0, ↓e26_1, ↓e26_2, ↓e26_3, ↓e26_4, ↓e26_5, ↓e26_6, ↓e26_9, ↓e26_12, ↓e26_13, ↓e26_14, ↓e26_15, ↓e26_18, ↓e26_21, ↓e26_22, ↓e26_23, ↓e26_24, ↓e26_25, ↓e26_26, ↓e26_27, ↓e26_30, ↓e26_33, ↓e26_34, li_p0, li_p1, li_p2, li_p3, li_p4, li_p5, li_p6, li_p7, li_p8, li_p9, li_10, li_11, li_12, li_13, li_14, li_15, li_16, li_17, li_18, li_19, li_20, li_21, li_22, li_23, li_24, li_25, li_26, li_27, li_28, li_29, li_30, li_31, li_32, li_33, li_34, li_35, li_36, li_37, li_38, li_39, li_56, li_57, li_58, li_60, li_61, li_63, li_64, li_65, li_66, li_67, li_68, li_69, li_70, li_71, li_72, li_73, li_74, li_75, li_76, li_77, li_80, li_81, li_82, li_83, li_84, li_85, li_86, li_87, li_88, li_89, li_90, li_91, li_92, lw_q0, lw_q1, lw_q2, lw_q3, lw_q4, lw_q5, lw_q6, lw_q7, lw_q8, lw_q9, lw_10, lw_11, lw_12, lw_13, lw_14, lw_15, lw_16, lw_17, lw_18, lw_19, lw_20, lw_21, lw_22, lw_23, lw_24, lw_25, lw_26, lw_27, lw_28, lw_29, lw_30, lw_31, lw_32, lw_33, lw_34, lw_35, lw_36, lw_37, lw_38, lw_39, lw_56, lw_57, lw_58, lw_60, lw_61, lw_63, lw_64, lw_65, lw_66, lw_67, lw_68, lw_69, lw_70, lw_71, lw_72, lw_73, lw_74, lw_75, lw_76, lw_77, lw_80, lw_81, lw_82, lw_83, lw_84, lw_85, lw_86, lw_87, lw_88, lw_89, ll_78, ll_79, ll_s, rc6, rc2, rc3, rc5, rc7, rc1, rc0, rc4, rcs_0, rcs_1, rcs_2, rcs_3, rcs_4, mj_ib_nI, ↓reduceIte, mj_bdK, mj_ls, mj_ln, nI_clamp, nI_add, pk_mul, mj_nIeq0, mj_nIlt0, mj_nIle0, mj_nIeq, mj_nIle, mj_nIlt, mj_ok0, mj_ok1, mj_okb, mj_b0, mj_bR, mj_bR2, Nat.reduceEqDiff, hCc, Nat.le_refl, mj_ch_ne]
    | succ n ih =>
      intro i a b d e  hi
      have hn : ¬ C ≤ i := by omega
      rw [e26_4]
      obtain ⟨a2, b2, d2, e2, hh⟩ := ih (i + 1) _ _ _ _ (by omega)
      refine ⟨a2, b2, d2, e2, ?_⟩
      rw [mj_ct] at hh
      simp (maxSteps := 1000000) (disch := first | assumption | omega) only [c26, ↓e26_0, ↓e26_1, ↓e26_2, ↓e26_3, ↓e26_5, ↓e26_6, ↓e26_9, ↓e26_12, ↓e26_13, ↓e26_14, ↓e26_15, ↓e26_18, ↓e26_21, ↓e26_22, ↓e26_23, ↓e26_24, ↓e26_25, ↓e26_26, ↓e26_27, ↓e26_30, ↓e26_33, ↓e26_34, li_p0, li_p1, li_p2, li_p3, li_p4, li_p5, li_p6, li_p7, li_p8, li_p9, li_10, li_11, li_12, li_13, li_14, li_15, li_16, li_17, li_18, li_19, li_20, li_21, li_22, li_23, li_24, li_25, li_26, li_27, li_28, li_29, li_30, li_31, li_32, li_33, li_34, li_35, li_36, li_37, li_38, li_39, li_56, li_57, li_58, li_60, li_61, li_63, li_64, li_65, li_66, li_67, li_68, li_69, li_70, li_71, li_72, li_73, li_74, li_75, li_76, li_77, li_80, li_81, li_82, li_83, li_84, li_85, li_86, li_87, li_88, li_89, li_90, li_91, li_92, lw_q0, lw_q1, lw_q2, lw_q3, lw_q4, lw_q5, lw_q6, lw_q7, lw_q8, lw_q9, lw_10, lw_11, lw_12, lw_13, lw_14, lw_15, lw_16, lw_17, lw_18, lw_19, lw_20, lw_21, lw_22, lw_23, lw_24, lw_25, lw_26, lw_27, lw_28, lw_29, lw_30, lw_31, lw_32, lw_33, lw_34, lw_35, lw_36, lw_37, lw_38, lw_39, lw_56, lw_57, lw_58, lw_60, lw_61, lw_63, lw_64, lw_65, lw_66, lw_67, lw_68, lw_69, lw_70, lw_71, lw_72, lw_73, lw_74, lw_75, lw_76, lw_77, lw_80, lw_81, lw_82, lw_83, lw_84, lw_85, lw_86, lw_87, lw_88, lw_89, ll_78, ll_79, ll_s, rc6, rc2, rc3, rc5, rc7, rc1, rc0, rc4, rcs_0, rcs_1, rcs_2, rcs_3, rcs_4, mj_ib_nI, ↓reduceIte, mj_bdK, mj_ls, mj_ln, nI_clamp, nI_add, pk_mul, mj_nIeq0, mj_nIlt0, mj_nIle0, mj_nIeq, mj_nIle, mj_nIlt, mj_ok0, mj_ok1, mj_okb, mj_b0, mj_bR, mj_bR2, Nat.reduceEqDiff, s_X2_choiceOf (mj_wp_ch h), mj_pv_ch, mj_ch_ch, mj_ch_0, mj_ch_1, mj_ch_2, mj_ch_3, hCc, hGc, hn]
      exact hh
  obtain ⟨a, b, d, e, h0⟩ := loop C 0 (σ (p + 3) 0) (σ (p + 3) 1) (σ (p + 3) 2) (σ (p + 3) 3)  (by omega)
  refine ⟨a, b, d, e, ?_⟩
  rw [mj_ch_eta] at h0
  simp (maxSteps := 1000000) (disch := first | assumption | omega) only [c26, ↓e26_0, ↓e26_1, ↓e26_2, ↓e26_3, ↓e26_5, ↓e26_6, ↓e26_9, ↓e26_12, ↓e26_13, ↓e26_14, ↓e26_15, ↓e26_18, ↓e26_21, ↓e26_22, ↓e26_23, ↓e26_24, ↓e26_25, ↓e26_26, ↓e26_27, ↓e26_30, ↓e26_33, ↓e26_34, li_p0, li_p1, li_p2, li_p3, li_p4, li_p5, li_p6, li_p7, li_p8, li_p9, li_10, li_11, li_12, li_13, li_14, li_15, li_16, li_17, li_18, li_19, li_20, li_21, li_22, li_23, li_24, li_25, li_26, li_27, li_28, li_29, li_30, li_31, li_32, li_33, li_34, li_35, li_36, li_37, li_38, li_39, li_56, li_57, li_58, li_60, li_61, li_63, li_64, li_65, li_66, li_67, li_68, li_69, li_70, li_71, li_72, li_73, li_74, li_75, li_76, li_77, li_80, li_81, li_82, li_83, li_84, li_85, li_86, li_87, li_88, li_89, li_90, li_91, li_92, lw_q0, lw_q1, lw_q2, lw_q3, lw_q4, lw_q5, lw_q6, lw_q7, lw_q8, lw_q9, lw_10, lw_11, lw_12, lw_13, lw_14, lw_15, lw_16, lw_17, lw_18, lw_19, lw_20, lw_21, lw_22, lw_23, lw_24, lw_25, lw_26, lw_27, lw_28, lw_29, lw_30, lw_31, lw_32, lw_33, lw_34, lw_35, lw_36, lw_37, lw_38, lw_39, lw_56, lw_57, lw_58, lw_60, lw_61, lw_63, lw_64, lw_65, lw_66, lw_67, lw_68, lw_69, lw_70, lw_71, lw_72, lw_73, lw_74, lw_75, lw_76, lw_77, lw_80, lw_81, lw_82, lw_83, lw_84, lw_85, lw_86, lw_87, lw_88, lw_89, ll_78, ll_79, ll_s, rc6, rc2, rc3, rc5, rc7, rc1, rc0, rc4, rcs_0, rcs_1, rcs_2, rcs_3, rcs_4, mj_ib_nI, ↓reduceIte, mj_bdK, mj_ls, mj_ln, nI_clamp, nI_add, pk_mul, mj_nIeq0, mj_nIlt0, mj_nIle0, mj_nIeq, mj_nIle, mj_nIlt, mj_ok0, mj_ok1, mj_okb, mj_b0, mj_bR, mj_bR2, Nat.reduceEqDiff]
  exact h0

theorem s_X2_childrenBy (h : mj_wp σ p G C) {w : Nat} (hw : w < 3) : ∃ a b d e, mj_C 27 [.ref p, .int (nI g), .int (nI w)] σ τ = some (some (.int (mj_by (mj_pv (10 * p) p σ) G g w C)), mj_ch σ (p + 3) a b d e, τ) := by
  obtain ⟨h1, h2, h3⟩ := id h
  obtain ⟨hC, hC6⟩ := mj_wp_C h
  obtain ⟨hG, hG8⟩ := mj_wp_G h
  have hCc : ∀ a b d e, mj_ch σ (p + 3) a b d e p 1 = nI C := fun a b d e => by rw [mj_ch_ne (by omega)]; exact hC
  have hGc : ∀ a b d e, mj_ch σ (p + 3) a b d e p 0 = nI G := fun a b d e => by rw [mj_ch_ne (by omega)]; exact hG
  have loop : ∀ (n i : Nat) (a b d e : Int32), i + n = C → ∃ a2 b2 d2 e2, mj_E 27 5 [some (.ref p), some (.int (nI g)), some (.int (nI w)), some (.int (mj_by (mj_pv (10 * p) p σ) G g w i)), some (.int (nI i))] [] (mj_ch σ (p + 3) a b d e) τ = some (some (.int (mj_by (mj_pv (10 * p) p σ) G g w C)), mj_ch σ (p + 3) a2 b2 d2 e2, τ) := by
    intro n
    induction n with
    | zero =>
      intro i a b d e  hi
      obtain rfl : i = C := by omega
      refine ⟨a, b, d, e, ?_⟩
      simp (maxSteps := 1000000) (disch := first | assumption | omega) only [c27, ↓e27_0, ↓e27_1, ↓e27_2, ↓e27_3, ↓e27_5, ↓e27_7, ↓e27_8, ↓e27_11, ↓e27_14, ↓e27_15, ↓e27_16, ↓e27_18, ↓e27_21, ↓e27_22, ↓e27_25, ↓e27_26, ↓e27_29, ↓e27_30, ↓e27_32, ↓e27_33, ↓e27_36, ↓e27_37, ↓e27_38, ↓e27_39, ↓e27_42, ↓e27_45, ↓e27_46, li_p0, li_p1, li_p2, li_p3, li_p4, li_p5, li_p6, li_p7, li_p8, li_p9, li_10, li_11, li_12, li_13, li_14, li_15, li_16, li_17, li_18, li_19, li_20, li_21, li_22, li_23, li_24, li_25, li_26, li_27, li_28, li_29, li_30, li_31, li_32, li_33, li_34, li_35, li_36, li_37, li_38, li_39, li_56, li_57, li_58, li_60, li_61, li_63, li_64, li_65, li_66, li_67, li_68, li_69, li_70, li_71, li_72, li_73, li_74, li_75, li_76, li_77, li_80, li_81, li_82, li_83, li_84, li_85, li_86, li_87, li_88, li_89, li_90, li_91, li_92, lw_q0, lw_q1, lw_q2, lw_q3, lw_q4, lw_q5, lw_q6, lw_q7, lw_q8, lw_q9, lw_10, lw_11, lw_12, lw_13, lw_14, lw_15, lw_16, lw_17, lw_18, lw_19, lw_20, lw_21, lw_22, lw_23, lw_24, lw_25, lw_26, lw_27, lw_28, lw_29, lw_30, lw_31, lw_32, lw_33, lw_34, lw_35, lw_36, lw_37, lw_38, lw_39, lw_56, lw_57, lw_58, lw_60, lw_61, lw_63, lw_64, lw_65, lw_66, lw_67, lw_68, lw_69, lw_70, lw_71, lw_72, lw_73, lw_74, lw_75, lw_76, lw_77, lw_80, lw_81, lw_82, lw_83, lw_84, lw_85, lw_86, lw_87, lw_88, lw_89, ll_78, ll_79, ll_s, rc6, rc2, rc3, rc5, rc7, rc1, rc0, rc4, rcs_0, rcs_1, rcs_2, rcs_3, rcs_4, mj_ib_nI, ↓reduceIte, mj_bdK, mj_ls, mj_ln, nI_clamp, nI_add, pk_mul, mj_nIeq0, mj_nIlt0, mj_nIle0, mj_nIeq, mj_nIle, mj_nIlt, mj_ok0, mj_ok1, mj_okb, mj_b0, mj_bR, mj_bR2, Nat.reduceEqDiff, hCc, Nat.le_refl, mj_ch_ne]
    | succ n ih =>
      intro i a b d e  hi
      have hn : ¬ C ≤ i := by omega
      rw [e27_5]
      by_cases hw0 : mj_wh (mj_pv (10 * p) p σ) G i w = nI g
      · obtain ⟨a2, b2, d2, e2, hh⟩ := ih (i + 1) _ _ _ _ (by omega)
        refine ⟨a2, b2, d2, e2, ?_⟩
        rw [mj_by, if_pos hw0] at hh
        unfold mj_wh at hw0
        simp (maxSteps := 1000000) (disch := first | assumption | omega) only [c27, ↓e27_0, ↓e27_1, ↓e27_2, ↓e27_3, ↓e27_7, ↓e27_8, ↓e27_11, ↓e27_14, ↓e27_15, ↓e27_16, ↓e27_18, ↓e27_21, ↓e27_22, ↓e27_25, ↓e27_26, ↓e27_29, ↓e27_30, ↓e27_32, ↓e27_33, ↓e27_36, ↓e27_37, ↓e27_38, ↓e27_39, ↓e27_42, ↓e27_45, ↓e27_46, li_p0, li_p1, li_p2, li_p3, li_p4, li_p5, li_p6, li_p7, li_p8, li_p9, li_10, li_11, li_12, li_13, li_14, li_15, li_16, li_17, li_18, li_19, li_20, li_21, li_22, li_23, li_24, li_25, li_26, li_27, li_28, li_29, li_30, li_31, li_32, li_33, li_34, li_35, li_36, li_37, li_38, li_39, li_56, li_57, li_58, li_60, li_61, li_63, li_64, li_65, li_66, li_67, li_68, li_69, li_70, li_71, li_72, li_73, li_74, li_75, li_76, li_77, li_80, li_81, li_82, li_83, li_84, li_85, li_86, li_87, li_88, li_89, li_90, li_91, li_92, lw_q0, lw_q1, lw_q2, lw_q3, lw_q4, lw_q5, lw_q6, lw_q7, lw_q8, lw_q9, lw_10, lw_11, lw_12, lw_13, lw_14, lw_15, lw_16, lw_17, lw_18, lw_19, lw_20, lw_21, lw_22, lw_23, lw_24, lw_25, lw_26, lw_27, lw_28, lw_29, lw_30, lw_31, lw_32, lw_33, lw_34, lw_35, lw_36, lw_37, lw_38, lw_39, lw_56, lw_57, lw_58, lw_60, lw_61, lw_63, lw_64, lw_65, lw_66, lw_67, lw_68, lw_69, lw_70, lw_71, lw_72, lw_73, lw_74, lw_75, lw_76, lw_77, lw_80, lw_81, lw_82, lw_83, lw_84, lw_85, lw_86, lw_87, lw_88, lw_89, ll_78, ll_79, ll_s, rc6, rc2, rc3, rc5, rc7, rc1, rc0, rc4, rcs_0, rcs_1, rcs_2, rcs_3, rcs_4, mj_ib_nI, ↓reduceIte, mj_bdK, mj_ls, mj_ln, nI_clamp, nI_add, pk_mul, mj_nIeq0, mj_nIlt0, mj_nIle0, mj_nIeq, mj_nIle, mj_nIlt, mj_ok0, mj_ok1, mj_okb, mj_b0, mj_bR, mj_bR2, Nat.reduceEqDiff, s_X0_whom, hw0, s_X2_choiceOf (mj_wp_ch h), mj_pv_ch, mj_ch_ch, mj_ch_0, mj_ch_1, mj_ch_2, mj_ch_3, hCc, hGc, hn]
        exact hh
      · obtain ⟨a2, b2, d2, e2, hh⟩ := ih (i + 1) _ _ _ _ (by omega)
        refine ⟨a2, b2, d2, e2, ?_⟩
        rw [mj_by, if_neg hw0] at hh
        unfold mj_wh at hw0
        simp (maxSteps := 1000000) (disch := first | assumption | omega) only [c27, ↓e27_0, ↓e27_1, ↓e27_2, ↓e27_3, ↓e27_7, ↓e27_8, ↓e27_11, ↓e27_14, ↓e27_15, ↓e27_16, ↓e27_18, ↓e27_21, ↓e27_22, ↓e27_25, ↓e27_26, ↓e27_29, ↓e27_30, ↓e27_32, ↓e27_33, ↓e27_36, ↓e27_37, ↓e27_38, ↓e27_39, ↓e27_42, ↓e27_45, ↓e27_46, li_p0, li_p1, li_p2, li_p3, li_p4, li_p5, li_p6, li_p7, li_p8, li_p9, li_10, li_11, li_12, li_13, li_14, li_15, li_16, li_17, li_18, li_19, li_20, li_21, li_22, li_23, li_24, li_25, li_26, li_27, li_28, li_29, li_30, li_31, li_32, li_33, li_34, li_35, li_36, li_37, li_38, li_39, li_56, li_57, li_58, li_60, li_61, li_63, li_64, li_65, li_66, li_67, li_68, li_69, li_70, li_71, li_72, li_73, li_74, li_75, li_76, li_77, li_80, li_81, li_82, li_83, li_84, li_85, li_86, li_87, li_88, li_89, li_90, li_91, li_92, lw_q0, lw_q1, lw_q2, lw_q3, lw_q4, lw_q5, lw_q6, lw_q7, lw_q8, lw_q9, lw_10, lw_11, lw_12, lw_13, lw_14, lw_15, lw_16, lw_17, lw_18, lw_19, lw_20, lw_21, lw_22, lw_23, lw_24, lw_25, lw_26, lw_27, lw_28, lw_29, lw_30, lw_31, lw_32, lw_33, lw_34, lw_35, lw_36, lw_37, lw_38, lw_39, lw_56, lw_57, lw_58, lw_60, lw_61, lw_63, lw_64, lw_65, lw_66, lw_67, lw_68, lw_69, lw_70, lw_71, lw_72, lw_73, lw_74, lw_75, lw_76, lw_77, lw_80, lw_81, lw_82, lw_83, lw_84, lw_85, lw_86, lw_87, lw_88, lw_89, ll_78, ll_79, ll_s, rc6, rc2, rc3, rc5, rc7, rc1, rc0, rc4, rcs_0, rcs_1, rcs_2, rcs_3, rcs_4, mj_ib_nI, ↓reduceIte, mj_bdK, mj_ls, mj_ln, nI_clamp, nI_add, pk_mul, mj_nIeq0, mj_nIlt0, mj_nIle0, mj_nIeq, mj_nIle, mj_nIlt, mj_ok0, mj_ok1, mj_okb, mj_b0, mj_bR, mj_bR2, Nat.reduceEqDiff, s_X0_whom, hw0, s_X2_choiceOf (mj_wp_ch h), mj_pv_ch, mj_ch_ch, mj_ch_0, mj_ch_1, mj_ch_2, mj_ch_3, hCc, hGc, hn]
        exact hh
  obtain ⟨a, b, d, e, h0⟩ := loop C 0 (σ (p + 3) 0) (σ (p + 3) 1) (σ (p + 3) 2) (σ (p + 3) 3)  (by omega)
  refine ⟨a, b, d, e, ?_⟩
  rw [mj_ch_eta] at h0
  simp (maxSteps := 1000000) (disch := first | assumption | omega) only [c27, ↓e27_0, ↓e27_1, ↓e27_2, ↓e27_3, ↓e27_7, ↓e27_8, ↓e27_11, ↓e27_14, ↓e27_15, ↓e27_16, ↓e27_18, ↓e27_21, ↓e27_22, ↓e27_25, ↓e27_26, ↓e27_29, ↓e27_30, ↓e27_32, ↓e27_33, ↓e27_36, ↓e27_37, ↓e27_38, ↓e27_39, ↓e27_42, ↓e27_45, ↓e27_46, li_p0, li_p1, li_p2, li_p3, li_p4, li_p5, li_p6, li_p7, li_p8, li_p9, li_10, li_11, li_12, li_13, li_14, li_15, li_16, li_17, li_18, li_19, li_20, li_21, li_22, li_23, li_24, li_25, li_26, li_27, li_28, li_29, li_30, li_31, li_32, li_33, li_34, li_35, li_36, li_37, li_38, li_39, li_56, li_57, li_58, li_60, li_61, li_63, li_64, li_65, li_66, li_67, li_68, li_69, li_70, li_71, li_72, li_73, li_74, li_75, li_76, li_77, li_80, li_81, li_82, li_83, li_84, li_85, li_86, li_87, li_88, li_89, li_90, li_91, li_92, lw_q0, lw_q1, lw_q2, lw_q3, lw_q4, lw_q5, lw_q6, lw_q7, lw_q8, lw_q9, lw_10, lw_11, lw_12, lw_13, lw_14, lw_15, lw_16, lw_17, lw_18, lw_19, lw_20, lw_21, lw_22, lw_23, lw_24, lw_25, lw_26, lw_27, lw_28, lw_29, lw_30, lw_31, lw_32, lw_33, lw_34, lw_35, lw_36, lw_37, lw_38, lw_39, lw_56, lw_57, lw_58, lw_60, lw_61, lw_63, lw_64, lw_65, lw_66, lw_67, lw_68, lw_69, lw_70, lw_71, lw_72, lw_73, lw_74, lw_75, lw_76, lw_77, lw_80, lw_81, lw_82, lw_83, lw_84, lw_85, lw_86, lw_87, lw_88, lw_89, ll_78, ll_79, ll_s, rc6, rc2, rc3, rc5, rc7, rc1, rc0, rc4, rcs_0, rcs_1, rcs_2, rcs_3, rcs_4, mj_ib_nI, ↓reduceIte, mj_bdK, mj_ls, mj_ln, nI_clamp, nI_add, pk_mul, mj_nIeq0, mj_nIlt0, mj_nIle0, mj_nIeq, mj_nIle, mj_nIlt, mj_ok0, mj_ok1, mj_okb, mj_b0, mj_bR, mj_bR2, Nat.reduceEqDiff]
  exact h0

theorem s_X2_mostTaken (h : mj_wp σ p G C) : ∃ a b d e, mj_C 28 [.ref p] σ τ = some (some (.int ((mj_mt (mj_pv (10 * p) p σ) G C G).1)), mj_ch σ (p + 3) a b d e, τ) := by
  obtain ⟨h1, h2, h3⟩ := id h
  obtain ⟨hC, hC6⟩ := mj_wp_C h
  obtain ⟨hG, hG8⟩ := mj_wp_G h
  have hCc : ∀ a b d e, mj_ch σ (p + 3) a b d e p 1 = nI C := fun a b d e => by rw [mj_ch_ne (by omega)]; exact hC
  have hGc : ∀ a b d e, mj_ch σ (p + 3) a b d e p 0 = nI G := fun a b d e => by rw [mj_ch_ne (by omega)]; exact hG
  have loop : ∀ (n i : Nat) (a b d e : Int32) (j4 : Option Value), i + n = G → ∃ a2 b2 d2 e2, mj_E 28 6 [some (.ref p), some (.int (mj_mt (mj_pv (10 * p) p σ) G C i).1), some (.int (mj_mt (mj_pv (10 * p) p σ) G C i).2), some (.int (nI i)), j4] [] (mj_ch σ (p + 3) a b d e) τ = some (some (.int ((mj_mt (mj_pv (10 * p) p σ) G C G).1)), mj_ch σ (p + 3) a2 b2 d2 e2, τ) := by
    intro n
    induction n with
    | zero =>
      intro i a b d e j4 hi
      obtain rfl : i = G := by omega
      refine ⟨a, b, d, e, ?_⟩
      simp (maxSteps := 1000000) (disch := first | assumption | omega) only [c28, ↓e28_0, ↓e28_1, ↓e28_2, ↓e28_3, ↓e28_4, ↓e28_5, ↓e28_6, ↓e28_7, ↓e28_8, ↓e28_11, ↓e28_14, ↓e28_15, ↓e28_16, ↓e28_17, ↓e28_20, ↓e28_23, ↓e28_25, ↓e28_27, ↓e28_28, ↓e28_31, ↓e28_32, ↓e28_33, ↓e28_35, ↓e28_36, ↓e28_39, ↓e28_42, ↓e28_43, li_p0, li_p1, li_p2, li_p3, li_p4, li_p5, li_p6, li_p7, li_p8, li_p9, li_10, li_11, li_12, li_13, li_14, li_15, li_16, li_17, li_18, li_19, li_20, li_21, li_22, li_23, li_24, li_25, li_26, li_27, li_28, li_29, li_30, li_31, li_32, li_33, li_34, li_35, li_36, li_37, li_38, li_39, li_56, li_57, li_58, li_60, li_61, li_63, li_64, li_65, li_66, li_67, li_68, li_69, li_70, li_71, li_72, li_73, li_74, li_75, li_76, li_77, li_80, li_81, li_82, li_83, li_84, li_85, li_86, li_87, li_88, li_89, li_90, li_91, li_92, lw_q0, lw_q1, lw_q2, lw_q3, lw_q4, lw_q5, lw_q6, lw_q7, lw_q8, lw_q9, lw_10, lw_11, lw_12, lw_13, lw_14, lw_15, lw_16, lw_17, lw_18, lw_19, lw_20, lw_21, lw_22, lw_23, lw_24, lw_25, lw_26, lw_27, lw_28, lw_29, lw_30, lw_31, lw_32, lw_33, lw_34, lw_35, lw_36, lw_37, lw_38, lw_39, lw_56, lw_57, lw_58, lw_60, lw_61, lw_63, lw_64, lw_65, lw_66, lw_67, lw_68, lw_69, lw_70, lw_71, lw_72, lw_73, lw_74, lw_75, lw_76, lw_77, lw_80, lw_81, lw_82, lw_83, lw_84, lw_85, lw_86, lw_87, lw_88, lw_89, ll_78, ll_79, ll_s, rc6, rc2, rc3, rc5, rc7, rc1, rc0, rc4, rcs_0, rcs_1, rcs_2, rcs_3, rcs_4, mj_ib_nI, ↓reduceIte, mj_bdK, mj_ls, mj_ln, nI_clamp, nI_add, pk_mul, mj_nIeq0, mj_nIlt0, mj_nIle0, mj_nIeq, mj_nIle, mj_nIlt, mj_ok0, mj_ok1, mj_okb, mj_b0, mj_bR, mj_bR2, Nat.reduceEqDiff, hGc, Nat.le_refl, mj_ch_ne]
    | succ n ih =>
      intro i a b d e j4 hi
      have hn : ¬ G ≤ i := by omega
      rw [e28_6]
      obtain ⟨a1, b1, d1, e1, hb⟩ := s_X2_childrenBy (τ := τ) (mj_wp_ch h (a := a) (b := b) (d := d) (e := e)) (g := i) (w := 2) (by omega)
      rw [mj_pv_ch h1 h2, mj_ch_ch] at hb
      by_cases hm : mj_bcn (mj_by (mj_pv (10 * p) p σ) G i 2 C) ≤ (mj_mt (mj_pv (10 * p) p σ) G C i).2
      · obtain ⟨a2, b2, d2, e2, hh⟩ := ih (i + 1) a1 b1 d1 e1 (some (.int (mj_bcn (mj_by (mj_pv (10 * p) p σ) G i 2 C)))) (by omega)
        refine ⟨a2, b2, d2, e2, ?_⟩
        rw [mj_mt, if_pos hm] at hh
        simp (maxSteps := 1000000) (disch := first | assumption | omega) only [c28, ↓e28_0, ↓e28_1, ↓e28_2, ↓e28_3, ↓e28_4, ↓e28_5, ↓e28_7, ↓e28_8, ↓e28_11, ↓e28_14, ↓e28_15, ↓e28_16, ↓e28_17, ↓e28_20, ↓e28_23, ↓e28_25, ↓e28_27, ↓e28_28, ↓e28_31, ↓e28_32, ↓e28_33, ↓e28_35, ↓e28_36, ↓e28_39, ↓e28_42, ↓e28_43, li_p0, li_p1, li_p2, li_p3, li_p4, li_p5, li_p6, li_p7, li_p8, li_p9, li_10, li_11, li_12, li_13, li_14, li_15, li_16, li_17, li_18, li_19, li_20, li_21, li_22, li_23, li_24, li_25, li_26, li_27, li_28, li_29, li_30, li_31, li_32, li_33, li_34, li_35, li_36, li_37, li_38, li_39, li_56, li_57, li_58, li_60, li_61, li_63, li_64, li_65, li_66, li_67, li_68, li_69, li_70, li_71, li_72, li_73, li_74, li_75, li_76, li_77, li_80, li_81, li_82, li_83, li_84, li_85, li_86, li_87, li_88, li_89, li_90, li_91, li_92, lw_q0, lw_q1, lw_q2, lw_q3, lw_q4, lw_q5, lw_q6, lw_q7, lw_q8, lw_q9, lw_10, lw_11, lw_12, lw_13, lw_14, lw_15, lw_16, lw_17, lw_18, lw_19, lw_20, lw_21, lw_22, lw_23, lw_24, lw_25, lw_26, lw_27, lw_28, lw_29, lw_30, lw_31, lw_32, lw_33, lw_34, lw_35, lw_36, lw_37, lw_38, lw_39, lw_56, lw_57, lw_58, lw_60, lw_61, lw_63, lw_64, lw_65, lw_66, lw_67, lw_68, lw_69, lw_70, lw_71, lw_72, lw_73, lw_74, lw_75, lw_76, lw_77, lw_80, lw_81, lw_82, lw_83, lw_84, lw_85, lw_86, lw_87, lw_88, lw_89, ll_78, ll_79, ll_s, rc6, rc2, rc3, rc5, rc7, rc1, rc0, rc4, rcs_0, rcs_1, rcs_2, rcs_3, rcs_4, mj_ib_nI, ↓reduceIte, mj_bdK, mj_ls, mj_ln, nI_clamp, nI_add, pk_mul, mj_nIeq0, mj_nIlt0, mj_nIle0, mj_nIeq, mj_nIle, mj_nIlt, mj_ok0, mj_ok1, mj_okb, mj_b0, mj_bR, mj_bR2, Nat.reduceEqDiff, hb, hm, s_J6_bitCount, hGc, hn]
        exact hh
      · obtain ⟨a2, b2, d2, e2, hh⟩ := ih (i + 1) a1 b1 d1 e1 (some (.int (mj_bcn (mj_by (mj_pv (10 * p) p σ) G i 2 C)))) (by omega)
        refine ⟨a2, b2, d2, e2, ?_⟩
        rw [mj_mt, if_neg hm] at hh
        simp (maxSteps := 1000000) (disch := first | assumption | omega) only [c28, ↓e28_0, ↓e28_1, ↓e28_2, ↓e28_3, ↓e28_4, ↓e28_5, ↓e28_7, ↓e28_8, ↓e28_11, ↓e28_14, ↓e28_15, ↓e28_16, ↓e28_17, ↓e28_20, ↓e28_23, ↓e28_25, ↓e28_27, ↓e28_28, ↓e28_31, ↓e28_32, ↓e28_33, ↓e28_35, ↓e28_36, ↓e28_39, ↓e28_42, ↓e28_43, li_p0, li_p1, li_p2, li_p3, li_p4, li_p5, li_p6, li_p7, li_p8, li_p9, li_10, li_11, li_12, li_13, li_14, li_15, li_16, li_17, li_18, li_19, li_20, li_21, li_22, li_23, li_24, li_25, li_26, li_27, li_28, li_29, li_30, li_31, li_32, li_33, li_34, li_35, li_36, li_37, li_38, li_39, li_56, li_57, li_58, li_60, li_61, li_63, li_64, li_65, li_66, li_67, li_68, li_69, li_70, li_71, li_72, li_73, li_74, li_75, li_76, li_77, li_80, li_81, li_82, li_83, li_84, li_85, li_86, li_87, li_88, li_89, li_90, li_91, li_92, lw_q0, lw_q1, lw_q2, lw_q3, lw_q4, lw_q5, lw_q6, lw_q7, lw_q8, lw_q9, lw_10, lw_11, lw_12, lw_13, lw_14, lw_15, lw_16, lw_17, lw_18, lw_19, lw_20, lw_21, lw_22, lw_23, lw_24, lw_25, lw_26, lw_27, lw_28, lw_29, lw_30, lw_31, lw_32, lw_33, lw_34, lw_35, lw_36, lw_37, lw_38, lw_39, lw_56, lw_57, lw_58, lw_60, lw_61, lw_63, lw_64, lw_65, lw_66, lw_67, lw_68, lw_69, lw_70, lw_71, lw_72, lw_73, lw_74, lw_75, lw_76, lw_77, lw_80, lw_81, lw_82, lw_83, lw_84, lw_85, lw_86, lw_87, lw_88, lw_89, ll_78, ll_79, ll_s, rc6, rc2, rc3, rc5, rc7, rc1, rc0, rc4, rcs_0, rcs_1, rcs_2, rcs_3, rcs_4, mj_ib_nI, ↓reduceIte, mj_bdK, mj_ls, mj_ln, nI_clamp, nI_add, pk_mul, mj_nIeq0, mj_nIlt0, mj_nIle0, mj_nIeq, mj_nIle, mj_nIlt, mj_ok0, mj_ok1, mj_okb, mj_b0, mj_bR, mj_bR2, Nat.reduceEqDiff, hb, hm, s_J6_bitCount, hGc, hn]
        exact hh
  obtain ⟨a, b, d, e, h0⟩ := loop G 0 (σ (p + 3) 0) (σ (p + 3) 1) (σ (p + 3) 2) (σ (p + 3) 3) none (by omega)
  refine ⟨a, b, d, e, ?_⟩
  rw [mj_ch_eta] at h0
  simp (maxSteps := 1000000) (disch := first | assumption | omega) only [c28, ↓e28_0, ↓e28_1, ↓e28_2, ↓e28_3, ↓e28_4, ↓e28_5, ↓e28_7, ↓e28_8, ↓e28_11, ↓e28_14, ↓e28_15, ↓e28_16, ↓e28_17, ↓e28_20, ↓e28_23, ↓e28_25, ↓e28_27, ↓e28_28, ↓e28_31, ↓e28_32, ↓e28_33, ↓e28_35, ↓e28_36, ↓e28_39, ↓e28_42, ↓e28_43, li_p0, li_p1, li_p2, li_p3, li_p4, li_p5, li_p6, li_p7, li_p8, li_p9, li_10, li_11, li_12, li_13, li_14, li_15, li_16, li_17, li_18, li_19, li_20, li_21, li_22, li_23, li_24, li_25, li_26, li_27, li_28, li_29, li_30, li_31, li_32, li_33, li_34, li_35, li_36, li_37, li_38, li_39, li_56, li_57, li_58, li_60, li_61, li_63, li_64, li_65, li_66, li_67, li_68, li_69, li_70, li_71, li_72, li_73, li_74, li_75, li_76, li_77, li_80, li_81, li_82, li_83, li_84, li_85, li_86, li_87, li_88, li_89, li_90, li_91, li_92, lw_q0, lw_q1, lw_q2, lw_q3, lw_q4, lw_q5, lw_q6, lw_q7, lw_q8, lw_q9, lw_10, lw_11, lw_12, lw_13, lw_14, lw_15, lw_16, lw_17, lw_18, lw_19, lw_20, lw_21, lw_22, lw_23, lw_24, lw_25, lw_26, lw_27, lw_28, lw_29, lw_30, lw_31, lw_32, lw_33, lw_34, lw_35, lw_36, lw_37, lw_38, lw_39, lw_56, lw_57, lw_58, lw_60, lw_61, lw_63, lw_64, lw_65, lw_66, lw_67, lw_68, lw_69, lw_70, lw_71, lw_72, lw_73, lw_74, lw_75, lw_76, lw_77, lw_80, lw_81, lw_82, lw_83, lw_84, lw_85, lw_86, lw_87, lw_88, lw_89, ll_78, ll_79, ll_s, rc6, rc2, rc3, rc5, rc7, rc1, rc0, rc4, rcs_0, rcs_1, rcs_2, rcs_3, rcs_4, mj_ib_nI, ↓reduceIte, mj_bdK, mj_ls, mj_ln, nI_clamp, nI_add, pk_mul, mj_nIeq0, mj_nIlt0, mj_nIle0, mj_nIeq, mj_nIle, mj_nIlt, mj_ok0, mj_ok1, mj_okb, mj_b0, mj_bR, mj_bR2, Nat.reduceEqDiff]
  exact h0

theorem s_X2_howManyBare (h : mj_wp σ p G C) : ∃ a b d e, mj_C 29 [.ref p] σ τ = some (some (.int (mj_ba (mj_pv (10 * p) p σ) G C G)), mj_ch σ (p + 3) a b d e, τ) := by
  obtain ⟨h1, h2, h3⟩ := id h
  obtain ⟨hC, hC6⟩ := mj_wp_C h
  obtain ⟨hG, hG8⟩ := mj_wp_G h
  have hCc : ∀ a b d e, mj_ch σ (p + 3) a b d e p 1 = nI C := fun a b d e => by rw [mj_ch_ne (by omega)]; exact hC
  have hGc : ∀ a b d e, mj_ch σ (p + 3) a b d e p 0 = nI G := fun a b d e => by rw [mj_ch_ne (by omega)]; exact hG
  have loop : ∀ (n i : Nat) (a b d e : Int32), i + n = G → ∃ a2 b2 d2 e2, mj_E 29 4 [some (.ref p), some (.int (mj_ba (mj_pv (10 * p) p σ) G C i)), some (.int (nI i))] [] (mj_ch σ (p + 3) a b d e) τ = some (some (.int (mj_ba (mj_pv (10 * p) p σ) G C G)), mj_ch σ (p + 3) a2 b2 d2 e2, τ) := by
    intro n
    induction n with
    | zero =>
      intro i a b d e  hi
      obtain rfl : i = G := by omega
      refine ⟨a, b, d, e, ?_⟩
      simp (maxSteps := 1000000) (disch := first | assumption | omega) only [c29, ↓e29_0, ↓e29_1, ↓e29_2, ↓e29_3, ↓e29_4, ↓e29_5, ↓e29_6, ↓e29_9, ↓e29_12, ↓e29_13, ↓e29_14, ↓e29_15, ↓e29_18, ↓e29_19, ↓e29_20, ↓e29_23, ↓e29_26, ↓e29_27, ↓e29_30, ↓e29_31, ↓e29_32, ↓e29_33, ↓e29_36, ↓e29_39, ↓e29_40, li_p0, li_p1, li_p2, li_p3, li_p4, li_p5, li_p6, li_p7, li_p8, li_p9, li_10, li_11, li_12, li_13, li_14, li_15, li_16, li_17, li_18, li_19, li_20, li_21, li_22, li_23, li_24, li_25, li_26, li_27, li_28, li_29, li_30, li_31, li_32, li_33, li_34, li_35, li_36, li_37, li_38, li_39, li_56, li_57, li_58, li_60, li_61, li_63, li_64, li_65, li_66, li_67, li_68, li_69, li_70, li_71, li_72, li_73, li_74, li_75, li_76, li_77, li_80, li_81, li_82, li_83, li_84, li_85, li_86, li_87, li_88, li_89, li_90, li_91, li_92, lw_q0, lw_q1, lw_q2, lw_q3, lw_q4, lw_q5, lw_q6, lw_q7, lw_q8, lw_q9, lw_10, lw_11, lw_12, lw_13, lw_14, lw_15, lw_16, lw_17, lw_18, lw_19, lw_20, lw_21, lw_22, lw_23, lw_24, lw_25, lw_26, lw_27, lw_28, lw_29, lw_30, lw_31, lw_32, lw_33, lw_34, lw_35, lw_36, lw_37, lw_38, lw_39, lw_56, lw_57, lw_58, lw_60, lw_61, lw_63, lw_64, lw_65, lw_66, lw_67, lw_68, lw_69, lw_70, lw_71, lw_72, lw_73, lw_74, lw_75, lw_76, lw_77, lw_80, lw_81, lw_82, lw_83, lw_84, lw_85, lw_86, lw_87, lw_88, lw_89, ll_78, ll_79, ll_s, rc6, rc2, rc3, rc5, rc7, rc1, rc0, rc4, rcs_0, rcs_1, rcs_2, rcs_3, rcs_4, mj_ib_nI, ↓reduceIte, mj_bdK, mj_ls, mj_ln, nI_clamp, nI_add, pk_mul, mj_nIeq0, mj_nIlt0, mj_nIle0, mj_nIeq, mj_nIle, mj_nIlt, mj_ok0, mj_ok1, mj_okb, mj_b0, mj_bR, mj_bR2, Nat.reduceEqDiff, hGc, Nat.le_refl, mj_ch_ne]
    | succ n ih =>
      intro i a b d e  hi
      have hn : ¬ G ≤ i := by omega
      rw [e29_4]
      obtain ⟨a1, b1, d1, e1, hb⟩ := s_X2_chargeThenOf (τ := τ) (mj_wp_ch h (a := a) (b := b) (d := d) (e := e)) (g := i)
      rw [mj_pv_ch h1 h2, mj_ch_ch] at hb
      by_cases hm : mj_ct (mj_pv (10 * p) p σ) G i C ≤ σ (10 * p + 2) i / nI 5
      · obtain ⟨a2, b2, d2, e2, hh⟩ := ih (i + 1) a1 b1 d1 e1 (by omega)
        refine ⟨a2, b2, d2, e2, ?_⟩
        rw [mj_ba, if_pos (show mj_ct (mj_pv (10 * p) p σ) G i C ≤ (mj_pv (10 * p) p σ) 2 i / nI 5 from hm)] at hh
        simp (maxSteps := 1000000) (disch := first | assumption | omega) only [c29, ↓e29_0, ↓e29_1, ↓e29_2, ↓e29_3, ↓e29_5, ↓e29_6, ↓e29_9, ↓e29_12, ↓e29_13, ↓e29_14, ↓e29_15, ↓e29_18, ↓e29_19, ↓e29_20, ↓e29_23, ↓e29_26, ↓e29_27, ↓e29_30, ↓e29_31, ↓e29_32, ↓e29_33, ↓e29_36, ↓e29_39, ↓e29_40, c15, ↓e15_0, ↓e15_1, ↓e15_4, ↓e15_5, ↓e15_6, ↓e15_7, ↓e15_8, li_p0, li_p1, li_p2, li_p3, li_p4, li_p5, li_p6, li_p7, li_p8, li_p9, li_10, li_11, li_12, li_13, li_14, li_15, li_16, li_17, li_18, li_19, li_20, li_21, li_22, li_23, li_24, li_25, li_26, li_27, li_28, li_29, li_30, li_31, li_32, li_33, li_34, li_35, li_36, li_37, li_38, li_39, li_56, li_57, li_58, li_60, li_61, li_63, li_64, li_65, li_66, li_67, li_68, li_69, li_70, li_71, li_72, li_73, li_74, li_75, li_76, li_77, li_80, li_81, li_82, li_83, li_84, li_85, li_86, li_87, li_88, li_89, li_90, li_91, li_92, lw_q0, lw_q1, lw_q2, lw_q3, lw_q4, lw_q5, lw_q6, lw_q7, lw_q8, lw_q9, lw_10, lw_11, lw_12, lw_13, lw_14, lw_15, lw_16, lw_17, lw_18, lw_19, lw_20, lw_21, lw_22, lw_23, lw_24, lw_25, lw_26, lw_27, lw_28, lw_29, lw_30, lw_31, lw_32, lw_33, lw_34, lw_35, lw_36, lw_37, lw_38, lw_39, lw_56, lw_57, lw_58, lw_60, lw_61, lw_63, lw_64, lw_65, lw_66, lw_67, lw_68, lw_69, lw_70, lw_71, lw_72, lw_73, lw_74, lw_75, lw_76, lw_77, lw_80, lw_81, lw_82, lw_83, lw_84, lw_85, lw_86, lw_87, lw_88, lw_89, ll_78, ll_79, ll_s, rc6, rc2, rc3, rc5, rc7, rc1, rc0, rc4, rcs_0, rcs_1, rcs_2, rcs_3, rcs_4, mj_ib_nI, ↓reduceIte, mj_bdK, mj_ls, mj_ln, nI_clamp, nI_add, pk_mul, mj_nIeq0, mj_nIlt0, mj_nIle0, mj_nIeq, mj_nIle, mj_nIlt, mj_ok0, mj_ok1, mj_okb, mj_b0, mj_bR, mj_bR2, Nat.reduceEqDiff, hb, hm, hGc, hn, mj_ch_ne]
        exact hh
      · obtain ⟨a2, b2, d2, e2, hh⟩ := ih (i + 1) a1 b1 d1 e1 (by omega)
        refine ⟨a2, b2, d2, e2, ?_⟩
        rw [mj_ba, if_neg (show ¬ mj_ct (mj_pv (10 * p) p σ) G i C ≤ (mj_pv (10 * p) p σ) 2 i / nI 5 from hm)] at hh
        simp (maxSteps := 1000000) (disch := first | assumption | omega) only [c29, ↓e29_0, ↓e29_1, ↓e29_2, ↓e29_3, ↓e29_5, ↓e29_6, ↓e29_9, ↓e29_12, ↓e29_13, ↓e29_14, ↓e29_15, ↓e29_18, ↓e29_19, ↓e29_20, ↓e29_23, ↓e29_26, ↓e29_27, ↓e29_30, ↓e29_31, ↓e29_32, ↓e29_33, ↓e29_36, ↓e29_39, ↓e29_40, c15, ↓e15_0, ↓e15_1, ↓e15_4, ↓e15_5, ↓e15_6, ↓e15_7, ↓e15_8, li_p0, li_p1, li_p2, li_p3, li_p4, li_p5, li_p6, li_p7, li_p8, li_p9, li_10, li_11, li_12, li_13, li_14, li_15, li_16, li_17, li_18, li_19, li_20, li_21, li_22, li_23, li_24, li_25, li_26, li_27, li_28, li_29, li_30, li_31, li_32, li_33, li_34, li_35, li_36, li_37, li_38, li_39, li_56, li_57, li_58, li_60, li_61, li_63, li_64, li_65, li_66, li_67, li_68, li_69, li_70, li_71, li_72, li_73, li_74, li_75, li_76, li_77, li_80, li_81, li_82, li_83, li_84, li_85, li_86, li_87, li_88, li_89, li_90, li_91, li_92, lw_q0, lw_q1, lw_q2, lw_q3, lw_q4, lw_q5, lw_q6, lw_q7, lw_q8, lw_q9, lw_10, lw_11, lw_12, lw_13, lw_14, lw_15, lw_16, lw_17, lw_18, lw_19, lw_20, lw_21, lw_22, lw_23, lw_24, lw_25, lw_26, lw_27, lw_28, lw_29, lw_30, lw_31, lw_32, lw_33, lw_34, lw_35, lw_36, lw_37, lw_38, lw_39, lw_56, lw_57, lw_58, lw_60, lw_61, lw_63, lw_64, lw_65, lw_66, lw_67, lw_68, lw_69, lw_70, lw_71, lw_72, lw_73, lw_74, lw_75, lw_76, lw_77, lw_80, lw_81, lw_82, lw_83, lw_84, lw_85, lw_86, lw_87, lw_88, lw_89, ll_78, ll_79, ll_s, rc6, rc2, rc3, rc5, rc7, rc1, rc0, rc4, rcs_0, rcs_1, rcs_2, rcs_3, rcs_4, mj_ib_nI, ↓reduceIte, mj_bdK, mj_ls, mj_ln, nI_clamp, nI_add, pk_mul, mj_nIeq0, mj_nIlt0, mj_nIle0, mj_nIeq, mj_nIle, mj_nIlt, mj_ok0, mj_ok1, mj_okb, mj_b0, mj_bR, mj_bR2, Nat.reduceEqDiff, hb, hm, hGc, hn, mj_ch_ne]
        exact hh
  obtain ⟨a, b, d, e, h0⟩ := loop G 0 (σ (p + 3) 0) (σ (p + 3) 1) (σ (p + 3) 2) (σ (p + 3) 3)  (by omega)
  refine ⟨a, b, d, e, ?_⟩
  rw [mj_ch_eta] at h0
  simp (maxSteps := 1000000) (disch := first | assumption | omega) only [c29, ↓e29_0, ↓e29_1, ↓e29_2, ↓e29_3, ↓e29_5, ↓e29_6, ↓e29_9, ↓e29_12, ↓e29_13, ↓e29_14, ↓e29_15, ↓e29_18, ↓e29_19, ↓e29_20, ↓e29_23, ↓e29_26, ↓e29_27, ↓e29_30, ↓e29_31, ↓e29_32, ↓e29_33, ↓e29_36, ↓e29_39, ↓e29_40, li_p0, li_p1, li_p2, li_p3, li_p4, li_p5, li_p6, li_p7, li_p8, li_p9, li_10, li_11, li_12, li_13, li_14, li_15, li_16, li_17, li_18, li_19, li_20, li_21, li_22, li_23, li_24, li_25, li_26, li_27, li_28, li_29, li_30, li_31, li_32, li_33, li_34, li_35, li_36, li_37, li_38, li_39, li_56, li_57, li_58, li_60, li_61, li_63, li_64, li_65, li_66, li_67, li_68, li_69, li_70, li_71, li_72, li_73, li_74, li_75, li_76, li_77, li_80, li_81, li_82, li_83, li_84, li_85, li_86, li_87, li_88, li_89, li_90, li_91, li_92, lw_q0, lw_q1, lw_q2, lw_q3, lw_q4, lw_q5, lw_q6, lw_q7, lw_q8, lw_q9, lw_10, lw_11, lw_12, lw_13, lw_14, lw_15, lw_16, lw_17, lw_18, lw_19, lw_20, lw_21, lw_22, lw_23, lw_24, lw_25, lw_26, lw_27, lw_28, lw_29, lw_30, lw_31, lw_32, lw_33, lw_34, lw_35, lw_36, lw_37, lw_38, lw_39, lw_56, lw_57, lw_58, lw_60, lw_61, lw_63, lw_64, lw_65, lw_66, lw_67, lw_68, lw_69, lw_70, lw_71, lw_72, lw_73, lw_74, lw_75, lw_76, lw_77, lw_80, lw_81, lw_82, lw_83, lw_84, lw_85, lw_86, lw_87, lw_88, lw_89, ll_78, ll_79, ll_s, rc6, rc2, rc3, rc5, rc7, rc1, rc0, rc4, rcs_0, rcs_1, rcs_2, rcs_3, rcs_4, mj_ib_nI, ↓reduceIte, mj_bdK, mj_ls, mj_ln, nI_clamp, nI_add, pk_mul, mj_nIeq0, mj_nIlt0, mj_nIle0, mj_nIeq, mj_nIle, mj_nIlt, mj_ok0, mj_ok1, mj_okb, mj_b0, mj_bR, mj_bR2, Nat.reduceEqDiff]
  exact h0

end
