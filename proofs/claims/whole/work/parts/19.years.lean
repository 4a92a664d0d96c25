/-! PARISH: gifts, years -/
def mj_mn (x : Int32) : Int32 := if x < nI 99 then x else nI 99
def mj_m30 (x : Int32) : Int32 := if x < nI 30 then x else nI 30
theorem mj_mn_to {x : Int32} {n : Nat} (h : mj_to x n) (hn : n < 2 ^ 31) : mj_to (mj_mn x) 99 := by
  obtain ⟨k, hk, rfl⟩ := h
  unfold mj_mn
  split
  · rename_i z
    rw [nI_ltI (by omega) (by decide)] at z
    exact ⟨k, by omega, rfl⟩
  · exact mj_to_n 99
theorem mj_m30_to {x : Int32} {n : Nat} (h : mj_to x n) (hn : n < 2 ^ 31) : mj_to (mj_m30 x) 30 := by
  obtain ⟨k, hk, rfl⟩ := h
  unfold mj_m30
  split
  · rename_i z
    rw [nI_ltI (by omega) (by decide)] at z
    exact ⟨k, by omega, rfl⟩
  · exact mj_to_n 30
/-- n gifts of g to c -/
def mj_gi (π : Nat → Nat → Int32) (c g : Nat) (n : Int32) : Nat → Nat → Int32 := mj_up π 9 (8 * c + g) (mj_mn (π 9 (8 * c + g) + n * π 6 c))
/-- the year's gifts to c, of the first grown ones -/
def mj_tyg (π : Nat → Nat → Int32) (c : Nat) : Nat → Nat → Nat → Int32
  | 0 => π
  | n + 1 => if mj_bt (mj_tyg π c n 8 c) n = nI 1 then (if mj_tyg π c n 0 n = nI 4 then mj_tyg π c n else mj_up (mj_tyg π c n) 9 (8 * c + n) (mj_mn (mj_tyg π c n 9 (8 * c + n) + (nI 1 + mj_tyg π c n 3 n / nI 4)))) else mj_tyg π c n
theorem mj_wf_gi {π : Nat → Nat → Int32} {G C c g k : Nat} (h : mj_wf π G C) (hc : c < C) (hg : g < G) (hk : k ≤ 1000) : mj_wf (mj_gi π c g (nI k)) G C := by
  have hC := h.1.2.1
  have hG := h.1.1
  refine mj_wf_up9 h hc hg (mj_mn_to (mj_to_add (h.2.2.2.1 _ (by omega)) (mj_to_mul (mj_to_n k) (h.2.2.1 c (by omega)).2.1)) (by omega))
theorem mj_wf_tyg {π : Nat → Nat → Int32} {G C c : Nat} (h : mj_wf π G C) (hc : c < C) : ∀ n, n ≤ G → mj_wf (mj_tyg π c n) G C := by
  intro n
  have hC := h.1.2.1
  have hG := h.1.1
  induction n with
  | zero => intro _; exact h
  | succ n ih =>
    intro hn
    have hw := ih (by omega)
    rw [mj_tyg]
    split
    · split
      · exact hw
      · exact mj_wf_up9 hw hc (by omega) (mj_mn_to (mj_to_add (hw.2.2.2.1 _ (by omega)) (mj_to_add (mj_to_n 1) (mj_to_div (d := 4) (hw.2.1 n (by omega)).2.2.2.1 (by decide) (by decide) (by decide)))) (by decide))
    · exact hw
/-- c chooses in truth -/
def mj_lc (π : Nat → Nat → Int32) (G c : Nat) : Nat → Nat → Int32 := if mj_gv π G c = -1 then π else mj_up (mj_up π 8 c (mj_th π G c)) 4 (mj_gv π G c).toNatClampNeg (mj_mn (π 4 (mj_gv π G c).toNatClampNeg + nI 1))
def mj_y1 (π : Nat → Nat → Int32) (G : Nat) : Nat → Nat → Nat → Int32
  | 0 => π
  | n + 1 => mj_tyg (mj_up (mj_y1 π G n) 7 n (mj_m30 (mj_y1 π G n 7 n + nI 1))) n G
def mj_y2 (π : Nat → Nat → Int32) (G : Nat) : Nat → Nat → Nat → Int32
  | 0 => π
  | n + 1 => if mj_y2 π G n 7 n = nI 9 then mj_lc (mj_y2 π G n) G n else mj_y2 π G n
/-- a year -/
def mj_yr (π : Nat → Nat → Int32) (G C : Nat) : Nat → Nat → Int32 := mj_uc (mj_y2 (mj_y1 π G C) G C) 3 (mj_y2 (mj_y1 π G C) G C 10 3 + nI 1)
/-- masks, by counting: the three behind a choice -/
def mj_mk (m d t : Nat) : Int32 := (nI m ^^^ (nI 1 <<< (nI d &&& 31))) ||| (nI 1 <<< (nI t &&& 31))
set_option maxRecDepth 100000 in
theorem mj_mk_chk : (List.range 256).all (fun m => (List.range 8).all (fun d => (List.range 8).all (fun t => !(decide (mj_bt (nI m) d = nI 1)) || !(decide (mj_bt (nI m) t = nI 0)) || (decide (0 ≤ (mj_mk m d t).toInt) && decide ((mj_mk m d t).toInt ≤ 255) && decide (mj_bt (mj_mk m d t) t = nI 1) && decide (mj_mk m d t = nI m + ((nI 1 <<< (nI t &&& 31)) - (nI 1 <<< (nI d &&& 31)))) && (List.range 8).all (fun g => decide (mj_bt (mj_mk m d t) g = if g = t then nI 1 else if g = d then nI 0 else mj_bt (nI m) g)))))) = true := by decide +kernel
theorem mj_mkP {m d t : Nat} (hm : m < 256) (hd : d < 8) (ht : t < 8) (h1 : mj_bt (nI m) d = nI 1) (h2 : mj_bt (nI m) t = nI 0) : mj_to (mj_mk m d t) 255 ∧ mj_bt (mj_mk m d t) t = nI 1 ∧ mj_mk m d t = nI m + ((nI 1 <<< (nI t &&& 31)) - (nI 1 <<< (nI d &&& 31))) ∧ ∀ g, g < 8 → mj_bt (mj_mk m d t) g = if g = t then nI 1 else if g = d then nI 0 else mj_bt (nI m) g := by
  have q := List.all_eq_true.mp (List.all_eq_true.mp (List.all_eq_true.mp mj_mk_chk m (List.mem_range.mpr hm)) d (List.mem_range.mpr hd)) t (List.mem_range.mpr ht)
  simp only [h1, h2, decide_true, Bool.not_true, Bool.false_or, Bool.and_eq_true, decide_eq_true_eq, List.all_eq_true, List.mem_range] at q
  obtain ⟨⟨⟨⟨q1, q2⟩, q3⟩, q4⟩, q5⟩ := q
  refine ⟨?_, q3, q4, q5⟩
  obtain ⟨j, hj, e⟩ := nI_of (x := mj_mk m d t) (by rw [Int32.lt_iff_toInt_lt, Int32.toInt_zero]; omega)
  rw [e, nI_toInt hj] at q2
  exact ⟨j, by omega, e⟩
theorem mj_wf_lc {π : Nat → Nat → Int32} {G C c : Nat} (h : mj_wf π G C) (hc : c < C) : mj_wf (mj_lc π G c) G C := by
  have hC := h.1.2.1
  have hG := h.1.1
  unfold mj_lc
  rcases (mj_choice h hc).2 with ⟨e1, -, -⟩ | ⟨d, t, hd, ht, e1, e2, b1, b2, e3⟩
  · rw [if_pos e1]; exact h
  · rw [e1, if_neg (mj_to_m1 (mj_to_n d) (by omega)).2, nI_clamp (by omega), e3]
    obtain ⟨m, hm, e8⟩ := (h.2.2.1 c (by omega)).2.2.2
    rw [e8] at b1 b2 ⊢
    obtain ⟨m1, m2, m3, m4⟩ := mj_mkP (by omega) (by omega) (by omega) b1 b2
    exact mj_wf_up4 (mj_wf_up8 h hc m1 ⟨t, ht, m2⟩) hd (mj_mn_to (mj_to_add (h.2.1 d (by omega)).2.2.2.2 (mj_to_n 1)) (by decide))
theorem mj_wf_y1 {π : Nat → Nat → Int32} {G C : Nat} (h : mj_wf π G C) : ∀ n, n ≤ C → mj_wf (mj_y1 π G n) G C := by
  intro n
  have hC := h.1.2.1
  induction n with
  | zero => intro _; exact h
  | succ n ih =>
    intro hn
    have hw := ih (by omega)
    exact mj_wf_tyg (mj_wf_up7 hw (by omega) (mj_m30_to (mj_to_add (hw.2.2.1 n (by omega)).2.2.1 (mj_to_n 1)) (by decide))) (by omega) G (Nat.le_refl G)
theorem mj_wf_y2 {π : Nat → Nat → Int32} {G C : Nat} (h : mj_wf π G C) : ∀ n, n ≤ C → mj_wf (mj_y2 π G n) G C := by
  intro n
  induction n with
  | zero => intro _; exact h
  | succ n ih =>
    intro hn
    have hw := ih (by omega)
    rw [mj_y2]
    split
    · exact mj_wf_lc hw (by omega)
    · exact hw
theorem mj_wf_yr {π : Nat → Nat → Int32} {G C : Nat} (h : mj_wf π G C) : mj_wf (mj_yr π G C) G C := mj_wf_uc (mj_wf_y2 (mj_wf_y1 h C (Nat.le_refl C)) C (Nat.le_refl C)) (by decide) (by decide) (fun z => absurd z (by decide))
section
variable {σ : mj_S} {τ : mj_T} {p c g G C : Nat} {π : Nat → Nat → Int32}
theorem mj_wp_wb (h1 : 1 ≤ p) (h2 : p ≤ 3) (h : mj_wf π G C) : mj_wp (mj_wb (10 * p) p π σ) p G C := ⟨h1, h2, by rw [mj_pv_wb (by omega) h]; exact h⟩
theorem s_X2_raiseLiking (h1 : 1 ≤ p) (h2 : p ≤ 3) (hc : c < 6) (hg : g < 8) {b : Int32} : mj_C 19 [.ref p, .int (nI c), .int (nI g), .int b] σ τ = some (none, mj_wb (10 * p) p (mj_up (mj_pv (10 * p) p σ) 9 (8 * c + g) (mj_mn (mj_pv (10 * p) p σ 9 (8 * c + g) + b))) σ, τ) := by
  rw [← mj_up_wb (by decide)]
  simp (maxSteps := 1000000) (disch := first | assumption | omega) only [c19, ↓e19_0, ↓e19_1, ↓e19_4, ↓e19_5, ↓e19_7, ↓e19_8, ↓e19_9, ↓e19_10, ↓e19_12, ↓e19_13, ↓e19_14, ↓e19_15, ↓e19_18, ↓e19_19, ↓e19_20, ↓e19_23, ↓e19_24, li_p0, li_p1, li_p2, li_p3, li_p4, li_p5, li_p6, li_p7, li_p8, li_p9, li_10, li_11, li_12, li_13, li_14, li_15, li_16, li_17, li_18, li_19, li_20, li_21, li_22, li_23, li_24, li_25, li_26, li_27, li_28, li_29, li_30, li_31, li_32, li_33, li_34, li_35, li_36, li_37, li_38, li_39, li_56, li_57, li_58, li_60, li_61, li_63, li_64, li_65, li_66, li_67, li_68, li_69, li_70, li_71, li_72, li_73, li_74, li_75, li_76, li_77, li_80, li_81, li_82, li_83, li_84, li_85, li_86, li_87, li_88, li_89, li_90, li_91, li_92, lw_q0, lw_q1, lw_q2, lw_q3, lw_q4, lw_q5, lw_q6, lw_q7, lw_q8, lw_q9, lw_10, lw_11, lw_12, lw_13, lw_14, lw_15, lw_16, lw_17, lw_18, lw_19, lw_20, lw_21, lw_22, lw_23, lw_24, lw_25, lw_26, lw_27, lw_28, lw_29, lw_30, lw_31, lw_32, lw_33, lw_34, lw_35, lw_36, lw_37, lw_38, lw_39, lw_56, lw_57, lw_58, lw_60, lw_61, lw_63, lw_64, lw_65, lw_66, lw_67, lw_68, lw_69, lw_70, lw_71, lw_72, lw_73, lw_74, lw_75, lw_76, lw_77, lw_80, lw_81, lw_82, lw_83, lw_84, lw_85, lw_86, lw_87, lw_88, lw_89, ll_78, ll_79, ll_s, rc6, rc2, rc3, rc5, rc7, rc1, rc0, rc4, rcs_0, rcs_1, rcs_2, rcs_3, rcs_4, mj_ib_nI, ↓reduceIte, mj_bdK, mj_ls, mj_ln, nI_clamp, nI_add, pk_mul, mj_nIeq0, mj_nIlt0, mj_nIle0, mj_nIeq, mj_nIle, mj_nIlt, mj_ok0, mj_ok1, mj_okb, mj_b0, mj_bR, mj_bR2, Nat.reduceEqDiff, s_X2_likingOf, mj_m8, mj_mn]
theorem s_X2_give (h1 : 1 ≤ p) (h2 : p ≤ 3) (hc : c < 6) (hg : g < 8) {n : Int32} : mj_C 20 [.ref p, .int (nI c), .int (nI g), .int n] σ τ = some (none, mj_wb (10 * p) p (mj_gi (mj_pv (10 * p) p σ) c g n) σ, τ) := by
  simp (maxSteps := 1000000) (disch := first | assumption | omega) only [c20, ↓e20_0, ↓e20_1, ↓e20_2, ↓e20_3, ↓e20_4, ↓e20_5, ↓e20_8, ↓e20_9, ↓e20_10, ↓e20_11, ↓e20_14, li_p0, li_p1, li_p2, li_p3, li_p4, li_p5, li_p6, li_p7, li_p8, li_p9, li_10, li_11, li_12, li_13, li_14, li_15, li_16, li_17, li_18, li_19, li_20, li_21, li_22, li_23, li_24, li_25, li_26, li_27, li_28, li_29, li_30, li_31, li_32, li_33, li_34, li_35, li_36, li_37, li_38, li_39, li_56, li_57, li_58, li_60, li_61, li_63, li_64, li_65, li_66, li_67, li_68, li_69, li_70, li_71, li_72, li_73, li_74, li_75, li_76, li_77, li_80, li_81, li_82, li_83, li_84, li_85, li_86, li_87, li_88, li_89, li_90, li_91, li_92, lw_q0, lw_q1, lw_q2, lw_q3, lw_q4, lw_q5, lw_q6, lw_q7, lw_q8, lw_q9, lw_10, lw_11, lw_12, lw_13, lw_14, lw_15, lw_16, lw_17, lw_18, lw_19, lw_20, lw_21, lw_22, lw_23, lw_24, lw_25, lw_26, lw_27, lw_28, lw_29, lw_30, lw_31, lw_32, lw_33, lw_34, lw_35, lw_36, lw_37, lw_38, lw_39, lw_56, lw_57, lw_58, lw_60, lw_61, lw_63, lw_64, lw_65, lw_66, lw_67, lw_68, lw_69, lw_70, lw_71, lw_72, lw_73, lw_74, lw_75, lw_76, lw_77, lw_80, lw_81, lw_82, lw_83, lw_84, lw_85, lw_86, lw_87, lw_88, lw_89, ll_78, ll_79, ll_s, rc6, rc2, rc3, rc5, rc7, rc1, rc0, rc4, rcs_0, rcs_1, rcs_2, rcs_3, rcs_4, mj_ib_nI, ↓reduceIte, mj_bdK, mj_ls, mj_ln, nI_clamp, nI_add, pk_mul, mj_nIeq0, mj_nIlt0, mj_nIle0, mj_nIeq, mj_nIle, mj_nIlt, mj_ok0, mj_ok1, mj_okb, mj_b0, mj_bR, mj_bR2, Nat.reduceEqDiff, s_X2_raiseLiking, mj_gi]
  rfl
theorem s_X2_takeYearlyGifts (h1 : 1 ≤ p) (h2 : p ≤ 3) (h : mj_wf π G C) (hc : c < C) : mj_C 33 [.ref p, .int (nI c)] (mj_wb (10 * p) p π σ) τ = some (none, mj_wb (10 * p) p (mj_tyg π c G) σ, τ) := by
  have hC := h.1.2.1
  have hG := h.1.1
  have loop : ∀ n i, i + n = G → mj_E 33 2 [some (.ref p), some (.int (nI c)), some (.int (nI i))] [] (mj_wb (10 * p) p (mj_tyg π c i) σ) τ = some (none, mj_wb (10 * p) p (mj_tyg π c G) σ, τ) := by
    intro n
    induction n with
    | zero =>
      intro i hi
      obtain rfl : i = G := by omega
      have hw := mj_wf_tyg h hc i (Nat.le_refl i)
      have h0 := hw.1.2.2.1
      simp (maxSteps := 1000000) (disch := first | assumption | omega) only [c33, ↓e33_0, ↓e33_1, ↓e33_2, ↓e33_3, ↓e33_4, ↓e33_7, ↓e33_10, ↓e33_11, ↓e33_12, ↓e33_13, ↓e33_16, ↓e33_19, ↓e33_20, ↓e33_21, ↓e33_24, ↓e33_27, ↓e33_28, ↓e33_29, ↓e33_30, ↓e33_31, ↓e33_32, ↓e33_35, ↓e33_36, ↓e33_37, ↓e33_38, ↓e33_39, ↓e33_40, ↓e33_43, ↓e33_46, ↓e33_49, li_p0, li_p1, li_p2, li_p3, li_p4, li_p5, li_p6, li_p7, li_p8, li_p9, li_10, li_11, li_12, li_13, li_14, li_15, li_16, li_17, li_18, li_19, li_20, li_21, li_22, li_23, li_24, li_25, li_26, li_27, li_28, li_29, li_30, li_31, li_32, li_33, li_34, li_35, li_36, li_37, li_38, li_39, li_56, li_57, li_58, li_60, li_61, li_63, li_64, li_65, li_66, li_67, li_68, li_69, li_70, li_71, li_72, li_73, li_74, li_75, li_76, li_77, li_80, li_81, li_82, li_83, li_84, li_85, li_86, li_87, li_88, li_89, li_90, li_91, li_92, lw_q0, lw_q1, lw_q2, lw_q3, lw_q4, lw_q5, lw_q6, lw_q7, lw_q8, lw_q9, lw_10, lw_11, lw_12, lw_13, lw_14, lw_15, lw_16, lw_17, lw_18, lw_19, lw_20, lw_21, lw_22, lw_23, lw_24, lw_25, lw_26, lw_27, lw_28, lw_29, lw_30, lw_31, lw_32, lw_33, lw_34, lw_35, lw_36, lw_37, lw_38, lw_39, lw_56, lw_57, lw_58, lw_60, lw_61, lw_63, lw_64, lw_65, lw_66, lw_67, lw_68, lw_69, lw_70, lw_71, lw_72, lw_73, lw_74, lw_75, lw_76, lw_77, lw_80, lw_81, lw_82, lw_83, lw_84, lw_85, lw_86, lw_87, lw_88, lw_89, ll_78, ll_79, ll_s, rc6, rc2, rc3, rc5, rc7, rc1, rc0, rc4, rcs_0, rcs_1, rcs_2, rcs_3, rcs_4, mj_ib_nI, ↓reduceIte, mj_bdK, mj_ls, mj_ln, nI_clamp, nI_add, pk_mul, mj_nIeq0, mj_nIlt0, mj_nIle0, mj_nIeq, mj_nIle, mj_nIlt, mj_ok0, mj_ok1, mj_okb, mj_b0, mj_bR, mj_bR2, Nat.reduceEqDiff, mj_wb_o, h0, Nat.le_refl]
    | succ n ih =>
      intro i hi
      have hn : ¬ G ≤ i := by omega
      have hw := mj_wf_tyg h hc i (by omega)
      have h0 := hw.1.2.2.1
      have hpv : ∀ σ, mj_pv (10 * p) p (mj_wb (10 * p) p (mj_tyg π c i) σ) = mj_tyg π c i := fun σ => mj_pv_wb (by omega) hw
      have := ih (i + 1) (by omega)
      rw [mj_tyg] at this
      rw [e33_2]
      by_cases ho : mj_bt (mj_tyg π c i 8 c) i = nI 1
      · by_cases hd : mj_tyg π c i 0 i = nI 4
        · rw [if_pos ho, if_pos hd] at this
          simp (maxSteps := 1000000) (disch := first | assumption | omega) only [c33, ↓e33_0, ↓e33_1, ↓e33_3, ↓e33_4, ↓e33_7, ↓e33_10, ↓e33_11, ↓e33_12, ↓e33_13, ↓e33_16, ↓e33_19, ↓e33_20, ↓e33_21, ↓e33_24, ↓e33_27, ↓e33_28, ↓e33_29, ↓e33_30, ↓e33_31, ↓e33_32, ↓e33_35, ↓e33_36, ↓e33_37, ↓e33_38, ↓e33_39, ↓e33_40, ↓e33_43, ↓e33_46, ↓e33_49, li_p0, li_p1, li_p2, li_p3, li_p4, li_p5, li_p6, li_p7, li_p8, li_p9, li_10, li_11, li_12, li_13, li_14, li_15, li_16, li_17, li_18, li_19, li_20, li_21, li_22, li_23, li_24, li_25, li_26, li_27, li_28, li_29, li_30, li_31, li_32, li_33, li_34, li_35, li_36, li_37, li_38, li_39, li_56, li_57, li_58, li_60, li_61, li_63, li_64, li_65, li_66, li_67, li_68, li_69, li_70, li_71, li_72, li_73, li_74, li_75, li_76, li_77, li_80, li_81, li_82, li_83, li_84, li_85, li_86, li_87, li_88, li_89, li_90, li_91, li_92, lw_q0, lw_q1, lw_q2, lw_q3, lw_q4, lw_q5, lw_q6, lw_q7, lw_q8, lw_q9, lw_10, lw_11, lw_12, lw_13, lw_14, lw_15, lw_16, lw_17, lw_18, lw_19, lw_20, lw_21, lw_22, lw_23, lw_24, lw_25, lw_26, lw_27, lw_28, lw_29, lw_30, lw_31, lw_32, lw_33, lw_34, lw_35, lw_36, lw_37, lw_38, lw_39, lw_56, lw_57, lw_58, lw_60, lw_61, lw_63, lw_64, lw_65, lw_66, lw_67, lw_68, lw_69, lw_70, lw_71, lw_72, lw_73, lw_74, lw_75, lw_76, lw_77, lw_80, lw_81, lw_82, lw_83, lw_84, lw_85, lw_86, lw_87, lw_88, lw_89, ll_78, ll_79, ll_s, rc6, rc2, rc3, rc5, rc7, rc1, rc0, rc4, rcs_0, rcs_1, rcs_2, rcs_3, rcs_4, mj_ib_nI, ↓reduceIte, mj_bdK, mj_ls, mj_ln, nI_clamp, nI_add, pk_mul, mj_nIeq0, mj_nIlt0, mj_nIle0, mj_nIeq, mj_nIle, mj_nIlt, mj_ok0, mj_ok1, mj_okb, mj_b0, mj_bR, mj_bR2, Nat.reduceEqDiff, mj_wb_o, h0, hn, s_X2_isGodparent, s_X2_isDead, hpv, ho, hd, not_true_eq_false]
          exact this
        · rw [if_pos ho, if_neg hd] at this
          simp (maxSteps := 1000000) (disch := first | assumption | omega) only [c33, ↓e33_0, ↓e33_1, ↓e33_3, ↓e33_4, ↓e33_7, ↓e33_10, ↓e33_11, ↓e33_12, ↓e33_13, ↓e33_16, ↓e33_19, ↓e33_20, ↓e33_21, ↓e33_24, ↓e33_27, ↓e33_28, ↓e33_29, ↓e33_30, ↓e33_31, ↓e33_32, ↓e33_35, ↓e33_36, ↓e33_37, ↓e33_38, ↓e33_39, ↓e33_40, ↓e33_43, ↓e33_46, ↓e33_49, li_p0, li_p1, li_p2, li_p3, li_p4, li_p5, li_p6, li_p7, li_p8, li_p9, li_10, li_11, li_12, li_13, li_14, li_15, li_16, li_17, li_18, li_19, li_20, li_21, li_22, li_23, li_24, li_25, li_26, li_27, li_28, li_29, li_30, li_31, li_32, li_33, li_34, li_35, li_36, li_37, li_38, li_39, li_56, li_57, li_58, li_60, li_61, li_63, li_64, li_65, li_66, li_67, li_68, li_69, li_70, li_71, li_72, li_73, li_74, li_75, li_76, li_77, li_80, li_81, li_82, li_83, li_84, li_85, li_86, li_87, li_88, li_89, li_90, li_91, li_92, lw_q0, lw_q1, lw_q2, lw_q3, lw_q4, lw_q5, lw_q6, lw_q7, lw_q8, lw_q9, lw_10, lw_11, lw_12, lw_13, lw_14, lw_15, lw_16, lw_17, lw_18, lw_19, lw_20, lw_21, lw_22, lw_23, lw_24, lw_25, lw_26, lw_27, lw_28, lw_29, lw_30, lw_31, lw_32, lw_33, lw_34, lw_35, lw_36, lw_37, lw_38, lw_39, lw_56, lw_57, lw_58, lw_60, lw_61, lw_63, lw_64, lw_65, lw_66, lw_67, lw_68, lw_69, lw_70, lw_71, lw_72, lw_73, lw_74, lw_75, lw_76, lw_77, lw_80, lw_81, lw_82, lw_83, lw_84, lw_85, lw_86, lw_87, lw_88, lw_89, ll_78, ll_79, ll_s, rc6, rc2, rc3, rc5, rc7, rc1, rc0, rc4, rcs_0, rcs_1, rcs_2, rcs_3, rcs_4, mj_ib_nI, ↓reduceIte, mj_bdK, mj_ls, mj_ln, nI_clamp, nI_add, pk_mul, mj_nIeq0, mj_nIlt0, mj_nIle0, mj_nIeq, mj_nIle, mj_nIlt, mj_ok0, mj_ok1, mj_okb, mj_b0, mj_bR, mj_bR2, Nat.reduceEqDiff, mj_wb_o, mj_wb_a, h0, hn, s_X2_isGodparent, s_X2_isDead, hpv, ho, hd, not_true_eq_false, not_false_eq_true, s_X2_raiseLiking, mj_wb_wb]
          exact this
      · rw [if_neg ho] at this
        simp (maxSteps := 1000000) (disch := first | assumption | omega) only [c33, ↓e33_0, ↓e33_1, ↓e33_3, ↓e33_4, ↓e33_7, ↓e33_10, ↓e33_11, ↓e33_12, ↓e33_13, ↓e33_16, ↓e33_19, ↓e33_20, ↓e33_21, ↓e33_24, ↓e33_27, ↓e33_28, ↓e33_29, ↓e33_30, ↓e33_31, ↓e33_32, ↓e33_35, ↓e33_36, ↓e33_37, ↓e33_38, ↓e33_39, ↓e33_40, ↓e33_43, ↓e33_46, ↓e33_49, li_p0, li_p1, li_p2, li_p3, li_p4, li_p5, li_p6, li_p7, li_p8, li_p9, li_10, li_11, li_12, li_13, li_14, li_15, li_16, li_17, li_18, li_19, li_20, li_21, li_22, li_23, li_24, li_25, li_26, li_27, li_28, li_29, li_30, li_31, li_32, li_33, li_34, li_35, li_36, li_37, li_38, li_39, li_56, li_57, li_58, li_60, li_61, li_63, li_64, li_65, li_66, li_67, li_68, li_69, li_70, li_71, li_72, li_73, li_74, li_75, li_76, li_77, li_80, li_81, li_82, li_83, li_84, li_85, li_86, li_87, li_88, li_89, li_90, li_91, li_92, lw_q0, lw_q1, lw_q2, lw_q3, lw_q4, lw_q5, lw_q6, lw_q7, lw_q8, lw_q9, lw_10, lw_11, lw_12, lw_13, lw_14, lw_15, lw_16, lw_17, lw_18, lw_19, lw_20, lw_21, lw_22, lw_23, lw_24, lw_25, lw_26, lw_27, lw_28, lw_29, lw_30, lw_31, lw_32, lw_33, lw_34, lw_35, lw_36, lw_37, lw_38, lw_39, lw_56, lw_57, lw_58, lw_60, lw_61, lw_63, lw_64, lw_65, lw_66, lw_67, lw_68, lw_69, lw_70, lw_71, lw_72, lw_73, lw_74, lw_75, lw_76, lw_77, lw_80, lw_81, lw_82, lw_83, lw_84, lw_85, lw_86, lw_87, lw_88, lw_89, ll_78, ll_79, ll_s, rc6, rc2, rc3, rc5, rc7, rc1, rc0, rc4, rcs_0, rcs_1, rcs_2, rcs_3, rcs_4, mj_ib_nI, ↓reduceIte, mj_bdK, mj_ls, mj_ln, nI_clamp, nI_add, pk_mul, mj_nIeq0, mj_nIlt0, mj_nIle0, mj_nIeq, mj_nIle, mj_nIlt, mj_ok0, mj_ok1, mj_okb, mj_b0, mj_bR, mj_bR2, Nat.reduceEqDiff, mj_wb_o, h0, hn, s_X2_isGodparent, s_X2_isDead, hpv, ho, not_false_eq_true]
        exact this
  have h0 := loop G 0 (by omega)
  simp (maxSteps := 1000000) (disch := first | assumption | omega) only [c33, ↓e33_0, ↓e33_1, ↓e33_3, ↓e33_4, ↓e33_7, ↓e33_10, ↓e33_11, ↓e33_12, ↓e33_13, ↓e33_16, ↓e33_19, ↓e33_20, ↓e33_21, ↓e33_24, ↓e33_27, ↓e33_28, ↓e33_29, ↓e33_30, ↓e33_31, ↓e33_32, ↓e33_35, ↓e33_36, ↓e33_37, ↓e33_38, ↓e33_39, ↓e33_40, ↓e33_43, ↓e33_46, ↓e33_49, li_p0, li_p1, li_p2, li_p3, li_p4, li_p5, li_p6, li_p7, li_p8, li_p9, li_10, li_11, li_12, li_13, li_14, li_15, li_16, li_17, li_18, li_19, li_20, li_21, li_22, li_23, li_24, li_25, li_26, li_27, li_28, li_29, li_30, li_31, li_32, li_33, li_34, li_35, li_36, li_37, li_38, li_39, li_56, li_57, li_58, li_60, li_61, li_63, li_64, li_65, li_66, li_67, li_68, li_69, li_70, li_71, li_72, li_73, li_74, li_75, li_76, li_77, li_80, li_81, li_82, li_83, li_84, li_85, li_86, li_87, li_88, li_89, li_90, li_91, li_92, lw_q0, lw_q1, lw_q2, lw_q3, lw_q4, lw_q5, lw_q6, lw_q7, lw_q8, lw_q9, lw_10, lw_11, lw_12, lw_13, lw_14, lw_15, lw_16, lw_17, lw_18, lw_19, lw_20, lw_21, lw_22, lw_23, lw_24, lw_25, lw_26, lw_27, lw_28, lw_29, lw_30, lw_31, lw_32, lw_33, lw_34, lw_35, lw_36, lw_37, lw_38, lw_39, lw_56, lw_57, lw_58, lw_60, lw_61, lw_63, lw_64, lw_65, lw_66, lw_67, lw_68, lw_69, lw_70, lw_71, lw_72, lw_73, lw_74, lw_75, lw_76, lw_77, lw_80, lw_81, lw_82, lw_83, lw_84, lw_85, lw_86, lw_87, lw_88, lw_89, ll_78, ll_79, ll_s, rc6, rc2, rc3, rc5, rc7, rc1, rc0, rc4, rcs_0, rcs_1, rcs_2, rcs_3, rcs_4, mj_ib_nI, ↓reduceIte, mj_bdK, mj_ls, mj_ln, nI_clamp, nI_add, pk_mul, mj_nIeq0, mj_nIlt0, mj_nIle0, mj_nIeq, mj_nIle, mj_nIlt, mj_ok0, mj_ok1, mj_okb, mj_b0, mj_bR, mj_bR2, Nat.reduceEqDiff]
  exact h0
theorem s_X2_letChoose (h1 : 1 ≤ p) (h2 : p ≤ 3) (h : mj_wf π G C) (hc : c < C) : ∃ a b d e, mj_C 31 [.ref p, .int (nI c)] (mj_wb (10 * p) p π σ) τ = some (some (.int (mj_tk π G c)), mj_wb (10 * p) p (mj_lc π G c) (mj_ch σ (p + 3) a b d e), τ) := by
  have hC := h.1.2.1
  have hG := h.1.1
  have hwp : mj_wp (mj_wb (10 * p) p π σ) p G C := mj_wp_wb h1 h2 h
  have hpv : ∀ σ, mj_pv (10 * p) p (mj_wb (10 * p) p π σ) = π := fun σ => mj_pv_wb (by omega) h
  refine ⟨mj_gv π G c, mj_kp π G c, mj_tk π G c, mj_th π G c, ?_⟩
  have hwei := s_X0_weigh (τ := τ) hwp (show c < 6 by omega)
  rw [hpv] at hwei
  have r0 : ∀ a b d e, mj_wb (10 * p) p π (mj_ch σ (p + 3) a b d e) (p + 3) = mj_ch σ (p + 3) a b d e (p + 3) := fun a b d e => mj_wb_ne (by omega) (by omega)
  have r1 : ∀ ρ a b d e, mj_wb (10 * p) p ρ (mj_ch σ (p + 3) a b d e) (p + 3) = mj_ch σ (p + 3) a b d e (p + 3) := fun ρ a b d e => mj_wb_ne (by omega) (by omega)
  rcases (mj_choice h hc).2 with ⟨e1, -, -⟩ | ⟨d, t, hd, ht, e1, e2, b1, b2, e3⟩
  · have hl : mj_lc π G c = π := by unfold mj_lc; rw [if_pos e1]
    rw [hl]
    simp (maxSteps := 1000000) (disch := first | assumption | omega) only [c31, ↓e31_0, ↓e31_1, ↓e31_4, ↓e31_5, ↓e31_6, ↓e31_9, ↓e31_10, ↓e31_13, ↓e31_16, ↓e31_17, ↓e31_20, ↓e31_21, ↓e31_24, ↓e31_25, ↓e31_26, ↓e31_29, ↓e31_32, ↓e31_33, ↓e31_34, ↓e31_37, ↓e31_38, ↓e31_41, ↓e31_44, ↓e31_46, ↓e31_47, ↓e31_50, ↓e31_51, ↓e31_54, ↓e31_57, ↓e31_58, ↓e31_59, ↓e31_60, ↓e31_63, ↓e31_64, ↓e31_65, ↓e31_68, ↓e31_71, li_p0, li_p1, li_p2, li_p3, li_p4, li_p5, li_p6, li_p7, li_p8, li_p9, li_10, li_11, li_12, li_13, li_14, li_15, li_16, li_17, li_18, li_19, li_20, li_21, li_22, li_23, li_24, li_25, li_26, li_27, li_28, li_29, li_30, li_31, li_32, li_33, li_34, li_35, li_36, li_37, li_38, li_39, li_56, li_57, li_58, li_60, li_61, li_63, li_64, li_65, li_66, li_67, li_68, li_69, li_70, li_71, li_72, li_73, li_74, li_75, li_76, li_77, li_80, li_81, li_82, li_83, li_84, li_85, li_86, li_87, li_88, li_89, li_90, li_91, li_92, lw_q0, lw_q1, lw_q2, lw_q3, lw_q4, lw_q5, lw_q6, lw_q7, lw_q8, lw_q9, lw_10, lw_11, lw_12, lw_13, lw_14, lw_15, lw_16, lw_17, lw_18, lw_19, lw_20, lw_21, lw_22, lw_23, lw_24, lw_25, lw_26, lw_27, lw_28, lw_29, lw_30, lw_31, lw_32, lw_33, lw_34, lw_35, lw_36, lw_37, lw_38, lw_39, lw_56, lw_57, lw_58, lw_60, lw_61, lw_63, lw_64, lw_65, lw_66, lw_67, lw_68, lw_69, lw_70, lw_71, lw_72, lw_73, lw_74, lw_75, lw_76, lw_77, lw_80, lw_81, lw_82, lw_83, lw_84, lw_85, lw_86, lw_87, lw_88, lw_89, ll_78, ll_79, ll_s, rc6, rc2, rc3, rc5, rc7, rc1, rc0, rc4, rcs_0, rcs_1, rcs_2, rcs_3, rcs_4, mj_ib_nI, ↓reduceIte, mj_bdK, mj_ls, mj_ln, nI_clamp, nI_add, pk_mul, mj_nIeq0, mj_nIlt0, mj_nIle0, mj_nIeq, mj_nIle, mj_nIlt, mj_ok0, mj_ok1, mj_okb, mj_b0, mj_bR, mj_bR2, Nat.reduceEqDiff, hwei, mj_ch_wb, r0, mj_ch_0, mj_ch_2, e1]
  · have hn1 := (mj_to_m1 (mj_to_n d) (by omega)).2
    have hl : mj_lc π G c = mj_up (mj_up π 8 c (mj_th π G c)) 4 d (mj_mn (π 4 d + nI 1)) := by unfold mj_lc; rw [if_neg (by rw [e1]; exact hn1), e1, nI_clamp (by omega)]
    rw [hl]
    have r4 : ∀ x, mj_up π 8 c x 4 = π 4 := fun x => mj_pv_up9 (by decide)
    simp (maxSteps := 1000000) (disch := first | assumption | omega) only [c31, ↓e31_0, ↓e31_1, ↓e31_4, ↓e31_5, ↓e31_6, ↓e31_9, ↓e31_10, ↓e31_13, ↓e31_16, ↓e31_17, ↓e31_20, ↓e31_21, ↓e31_24, ↓e31_25, ↓e31_26, ↓e31_29, ↓e31_32, ↓e31_33, ↓e31_34, ↓e31_37, ↓e31_38, ↓e31_41, ↓e31_44, ↓e31_46, ↓e31_47, ↓e31_50, ↓e31_51, ↓e31_54, ↓e31_57, ↓e31_58, ↓e31_59, ↓e31_60, ↓e31_63, ↓e31_64, ↓e31_65, ↓e31_68, ↓e31_71, li_p0, li_p1, li_p2, li_p3, li_p4, li_p5, li_p6, li_p7, li_p8, li_p9, li_10, li_11, li_12, li_13, li_14, li_15, li_16, li_17, li_18, li_19, li_20, li_21, li_22, li_23, li_24, li_25, li_26, li_27, li_28, li_29, li_30, li_31, li_32, li_33, li_34, li_35, li_36, li_37, li_38, li_39, li_56, li_57, li_58, li_60, li_61, li_63, li_64, li_65, li_66, li_67, li_68, li_69, li_70, li_71, li_72, li_73, li_74, li_75, li_76, li_77, li_80, li_81, li_82, li_83, li_84, li_85, li_86, li_87, li_88, li_89, li_90, li_91, li_92, lw_q0, lw_q1, lw_q2, lw_q3, lw_q4, lw_q5, lw_q6, lw_q7, lw_q8, lw_q9, lw_10, lw_11, lw_12, lw_13, lw_14, lw_15, lw_16, lw_17, lw_18, lw_19, lw_20, lw_21, lw_22, lw_23, lw_24, lw_25, lw_26, lw_27, lw_28, lw_29, lw_30, lw_31, lw_32, lw_33, lw_34, lw_35, lw_36, lw_37, lw_38, lw_39, lw_56, lw_57, lw_58, lw_60, lw_61, lw_63, lw_64, lw_65, lw_66, lw_67, lw_68, lw_69, lw_70, lw_71, lw_72, lw_73, lw_74, lw_75, lw_76, lw_77, lw_80, lw_81, lw_82, lw_83, lw_84, lw_85, lw_86, lw_87, lw_88, lw_89, ll_78, ll_79, ll_s, rc6, rc2, rc3, rc5, rc7, rc1, rc0, rc4, rcs_0, rcs_1, rcs_2, rcs_3, rcs_4, mj_ib_nI, ↓reduceIte, mj_bdK, mj_ls, mj_ln, nI_clamp, nI_add, pk_mul, mj_nIeq0, mj_nIlt0, mj_nIle0, mj_nIeq, mj_nIle, mj_nIlt, mj_ok0, mj_ok1, mj_okb, mj_b0, mj_bR, mj_bR2, Nat.reduceEqDiff, hwei, mj_ch_wb, r1, mj_ch_0, mj_ch_2, mj_ch_3, e1, hn1, mj_wb_ua, mj_wb_a, mj_mn, r4]
end
