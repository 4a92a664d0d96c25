/-! the equations of the instructions (laid by wip/whole/rows.py) -/
theorem c6 {σ : mj_S} {τ : mj_T} {r : Nat} {x0 : Nat} : mj_C 6 [.ref r, .ref x0] σ τ = mj_E 6 0 [some (.ref r), some (.ref x0)] [] σ τ := rfl
theorem i6_0 : mj_ins 6 0 = some (.aload 0, 1) := by decide +kernel
theorem e6_0 {ls : mj_L} {st : List Value} {σ : mj_S} {τ : mj_T} {v : Nat} : mj_E 6 0 (some (.ref v) :: ls) st σ τ = mj_E 6 1 (some (.ref v) :: ls) (.ref v :: st) σ τ := mj_nx i6_0 rfl
theorem i6_1 : mj_ins 6 1 = some (.aload 1, 2) := by decide +kernel
theorem e6_1 {ls : mj_L} {st : List Value} {σ : mj_S} {τ : mj_T} {a0 : Option Value} {v : Nat} : mj_E 6 1 (a0 :: some (.ref v) :: ls) st σ τ = mj_E 6 2 (a0 :: some (.ref v) :: ls) (.ref v :: st) σ τ := mj_nx i6_1 rfl
theorem i6_2 : mj_ins 6 2 = some (.getfield 100, 5) := by decide +kernel
theorem e6_2 {ls : mj_L} {st : List Value} {σ : mj_S} {τ : mj_T} {k : Nat} (h1 : 1 ≤ k) (h2 : k ≤ 3) : mj_E 6 2 ls (.ref k :: st) σ τ = mj_E 6 5 ls (.int (σ k 0) :: st) σ τ := (mj_gf i6_2).trans (congrArg (fun z => mj_ov z _) (fv1_0 h1 h2))
theorem i6_5 : mj_ins 6 5 = some (.putfield 100, 8) := by decide +kernel
theorem e6_5 {ls : mj_L} {st : List Value} {σ : mj_S} {τ : mj_T} {k : Nat} (h1 : 1 ≤ k) (h2 : k ≤ 3) {v : Int32} : mj_E 6 5 ls (.int v :: .ref k :: st) σ τ = mj_E 6 8 ls st (mj_up σ k 0 v) τ := (mj_pf i6_5 rfl).trans (if_pos (fw1_0 h1 h2))
theorem i6_8 : mj_ins 6 8 = some (.aload 0, 9) := by decide +kernel
theorem e6_8 {ls : mj_L} {st : List Value} {σ : mj_S} {τ : mj_T} {v : Nat} : mj_E 6 8 (some (.ref v) :: ls) st σ τ = mj_E 6 9 (some (.ref v) :: ls) (.ref v :: st) σ τ := mj_nx i6_8 rfl
theorem i6_9 : mj_ins 6 9 = some (.aload 1, 10) := by decide +kernel
theorem e6_9 {ls : mj_L} {st : List Value} {σ : mj_S} {τ : mj_T} {a0 : Option Value} {v : Nat} : mj_E 6 9 (a0 :: some (.ref v) :: ls) st σ τ = mj_E 6 10 (a0 :: some (.ref v) :: ls) (.ref v :: st) σ τ := mj_nx i6_9 rfl
theorem i6_10 : mj_ins 6 10 = some (.getfield 101, 13) := by decide +kernel
theorem e6_10 {ls : mj_L} {st : List Value} {σ : mj_S} {τ : mj_T} {k : Nat} (h1 : 1 ≤ k) (h2 : k ≤ 3) : mj_E 6 10 ls (.ref k :: st) σ τ = mj_E 6 13 ls (.int (σ k 1) :: st) σ τ := (mj_gf i6_10).trans (congrArg (fun z => mj_ov z _) (fv1_1 h1 h2))
theorem i6_13 : mj_ins 6 13 = some (.putfield 101, 16) := by decide +kernel
theorem e6_13 {ls : mj_L} {st : List Value} {σ : mj_S} {τ : mj_T} {k : Nat} (h1 : 1 ≤ k) (h2 : k ≤ 3) {v : Int32} : mj_E 6 13 ls (.int v :: .ref k :: st) σ τ = mj_E 6 16 ls st (mj_up σ k 1 v) τ := (mj_pf i6_13 rfl).trans (if_pos (fw1_1 h1 h2))
theorem i6_16 : mj_ins 6 16 = some (.aload 0, 17) := by decide +kernel
theorem e6_16 {ls : mj_L} {st : List Value} {σ : mj_S} {τ : mj_T} {v : Nat} : mj_E 6 16 (some (.ref v) :: ls) st σ τ = mj_E 6 17 (some (.ref v) :: ls) (.ref v :: st) σ τ := mj_nx i6_16 rfl
theorem i6_17 : mj_ins 6 17 = some (.aload 1, 18) := by decide +kernel
theorem e6_17 {ls : mj_L} {st : List Value} {σ : mj_S} {τ : mj_T} {a0 : Option Value} {v : Nat} : mj_E 6 17 (a0 :: some (.ref v) :: ls) st σ τ = mj_E 6 18 (a0 :: some (.ref v) :: ls) (.ref v :: st) σ τ := mj_nx i6_17 rfl
theorem i6_18 : mj_ins 6 18 = some (.getfield 102, 21) := by decide +kernel
theorem e6_18 {ls : mj_L} {st : List Value} {σ : mj_S} {τ : mj_T} {k : Nat} (h1 : 1 ≤ k) (h2 : k ≤ 3) : mj_E 6 18 ls (.ref k :: st) σ τ = mj_E 6 21 ls (.int (σ k 2) :: st) σ τ := (mj_gf i6_18).trans (congrArg (fun z => mj_ov z _) (fv1_2 h1 h2))
theorem i6_21 : mj_ins 6 21 = some (.putfield 102, 24) := by decide +kernel
theorem e6_21 {ls : mj_L} {st : List Value} {σ : mj_S} {τ : mj_T} {k : Nat} (h1 : 1 ≤ k) (h2 : k ≤ 3) {v : Int32} : mj_E 6 21 ls (.int v :: .ref k :: st) σ τ = mj_E 6 24 ls st (mj_up σ k 2 v) τ := (mj_pf i6_21 rfl).trans (if_pos (fw1_2 h1 h2))
theorem i6_24 : mj_ins 6 24 = some (.aload 0, 25) := by decide +kernel
theorem e6_24 {ls : mj_L} {st : List Value} {σ : mj_S} {τ : mj_T} {v : Nat} : mj_E 6 24 (some (.ref v) :: ls) st σ τ = mj_E 6 25 (some (.ref v) :: ls) (.ref v :: st) σ τ := mj_nx i6_24 rfl
theorem i6_25 : mj_ins 6 25 = some (.aload 1, 26) := by decide +kernel
theorem e6_25 {ls : mj_L} {st : List Value} {σ : mj_S} {τ : mj_T} {a0 : Option Value} {v : Nat} : mj_E 6 25 (a0 :: some (.ref v) :: ls) st σ τ = mj_E 6 26 (a0 :: some (.ref v) :: ls) (.ref v :: st) σ τ := mj_nx i6_25 rfl
theorem i6_26 : mj_ins 6 26 = some (.getfield 103, 29) := by decide +kernel
theorem e6_26 {ls : mj_L} {st : List Value} {σ : mj_S} {τ : mj_T} {k : Nat} (h1 : 1 ≤ k) (h2 : k ≤ 3) : mj_E 6 26 ls (.ref k :: st) σ τ = mj_E 6 29 ls (.int (σ k 3) :: st) σ τ := (mj_gf i6_26).trans (congrArg (fun z => mj_ov z _) (fv1_3 h1 h2))
theorem i6_29 : mj_ins 6 29 = some (.putfield 103, 32) := by decide +kernel
theorem e6_29 {ls : mj_L} {st : List Value} {σ : mj_S} {τ : mj_T} {k : Nat} (h1 : 1 ≤ k) (h2 : k ≤ 3) {v : Int32} : mj_E 6 29 ls (.int v :: .ref k :: st) σ τ = mj_E 6 32 ls st (mj_up σ k 3 v) τ := (mj_pf i6_29 rfl).trans (if_pos (fw1_3 h1 h2))
theorem i6_32 : mj_ins 6 32 = some (.aload 0, 33) := by decide +kernel
theorem e6_32 {ls : mj_L} {st : List Value} {σ : mj_S} {τ : mj_T} {v : Nat} : mj_E 6 32 (some (.ref v) :: ls) st σ τ = mj_E 6 33 (some (.ref v) :: ls) (.ref v :: st) σ τ := mj_nx i6_32 rfl
theorem i6_33 : mj_ins 6 33 = some (.aload 1, 34) := by decide +kernel
theorem e6_33 {ls : mj_L} {st : List Value} {σ : mj_S} {τ : mj_T} {a0 : Option Value} {v : Nat} : mj_E 6 33 (a0 :: some (.ref v) :: ls) st σ τ = mj_E 6 34 (a0 :: some (.ref v) :: ls) (.ref v :: st) σ τ := mj_nx i6_33 rfl
theorem i6_34 : mj_ins 6 34 = some (.getfield 104, 37) := by decide +kernel
theorem e6_34 {ls : mj_L} {st : List Value} {σ : mj_S} {τ : mj_T} {k : Nat} (h1 : 1 ≤ k) (h2 : k ≤ 3) : mj_E 6 34 ls (.ref k :: st) σ τ = mj_E 6 37 ls (.int (σ k 4) :: st) σ τ := (mj_gf i6_34).trans (congrArg (fun z => mj_ov z _) (fv1_4 h1 h2))
theorem i6_37 : mj_ins 6 37 = some (.putfield 104, 40) := by decide +kernel
theorem e6_37 {ls : mj_L} {st : List Value} {σ : mj_S} {τ : mj_T} {k : Nat} (h1 : 1 ≤ k) (h2 : k ≤ 3) {v : Int32} : mj_E 6 37 ls (.int v :: .ref k :: st) σ τ = mj_E 6 40 ls st (mj_up σ k 4 v) τ := (mj_pf i6_37 rfl).trans (if_pos (fw1_4 h1 h2))
theorem i6_40 : mj_ins 6 40 = some (.aload 1, 41) := by decide +kernel
theorem e6_40 {ls : mj_L} {st : List Value} {σ : mj_S} {τ : mj_T} {a0 : Option Value} {v : Nat} : mj_E 6 40 (a0 :: some (.ref v) :: ls) st σ τ = mj_E 6 41 (a0 :: some (.ref v) :: ls) (.ref v :: st) σ τ := mj_nx i6_40 rfl
theorem i6_41 : mj_ins 6 41 = some (.getfield 105, 44) := by decide +kernel
theorem e6_41 {ls : mj_L} {st : List Value} {σ : mj_S} {τ : mj_T} {k : Nat} (h1 : 1 ≤ k) (h2 : k ≤ 3) : mj_E 6 41 ls (.ref k :: st) σ τ = mj_E 6 44 ls (.ref (10 * k + 0) :: st) σ τ := (mj_gf i6_41).trans (congrArg (fun z => mj_ov z _) (fv1_5 h1 h2))
theorem i6_44 : mj_ins 6 44 = some (.iconst (0), 45) := by decide +kernel
theorem e6_44 {ls : mj_L} {st : List Value} {σ : mj_S} {τ : mj_T} : mj_E 6 44 ls st σ τ = mj_E 6 45 ls (.int (nI 0) :: st) σ τ := mj_nx i6_44 rfl
theorem i6_45 : mj_ins 6 45 = some (.aload 0, 46) := by decide +kernel
theorem e6_45 {ls : mj_L} {st : List Value} {σ : mj_S} {τ : mj_T} {v : Nat} : mj_E 6 45 (some (.ref v) :: ls) st σ τ = mj_E 6 46 (some (.ref v) :: ls) (.ref v :: st) σ τ := mj_nx i6_45 rfl
theorem i6_46 : mj_ins 6 46 = some (.getfield 105, 49) := by decide +kernel
theorem e6_46 {ls : mj_L} {st : List Value} {σ : mj_S} {τ : mj_T} {k : Nat} (h1 : 1 ≤ k) (h2 : k ≤ 3) : mj_E 6 46 ls (.ref k :: st) σ τ = mj_E 6 49 ls (.ref (10 * k + 0) :: st) σ τ := (mj_gf i6_46).trans (congrArg (fun z => mj_ov z _) (fv1_5 h1 h2))
theorem i6_49 : mj_ins 6 49 = some (.iconst (0), 50) := by decide +kernel
theorem e6_49 {ls : mj_L} {st : List Value} {σ : mj_S} {τ : mj_T} : mj_E 6 49 ls st σ τ = mj_E 6 50 ls (.int (nI 0) :: st) σ τ := mj_nx i6_49 rfl
theorem i6_50 : mj_ins 6 50 = some (.iconst (8), 52) := by decide +kernel
theorem e6_50 {ls : mj_L} {st : List Value} {σ : mj_S} {τ : mj_T} : mj_E 6 50 ls st σ τ = mj_E 6 52 ls (.int (nI 8) :: st) σ τ := mj_nx i6_50 rfl
theorem i6_52 : mj_ins 6 52 = some (.invokedynamic 4, 55) := by decide +kernel
theorem e6_52 {ls : mj_L} {σ : mj_S} {τ : mj_T} {n dp sp : Int32} {a b : Nat} (h : mj_cpk sp dp n (mj_lw a) (mj_lw b) = true) : mj_E 6 52 ls [.int n, .int dp, .ref b, .int sp, .ref a] σ τ = mj_E 6 55 ls [] (mj_rp σ b (va_cpy (σ a) (σ b) sp.toNatClampNeg dp.toNatClampNeg n.toNatClampNeg)) τ := mj_cpi i6_52 (by decide) h
theorem i6_55 : mj_ins 6 55 = some (.aload 1, 56) := by decide +kernel
theorem e6_55 {ls : mj_L} {st : List Value} {σ : mj_S} {τ : mj_T} {a0 : Option Value} {v : Nat} : mj_E 6 55 (a0 :: some (.ref v) :: ls) st σ τ = mj_E 6 56 (a0 :: some (.ref v) :: ls) (.ref v :: st) σ τ := mj_nx i6_55 rfl
theorem i6_56 : mj_ins 6 56 = some (.getfield 106, 59) := by decide +kernel
theorem e6_56 {ls : mj_L} {st : List Value} {σ : mj_S} {τ : mj_T} {k : Nat} (h1 : 1 ≤ k) (h2 : k ≤ 3) : mj_E 6 56 ls (.ref k :: st) σ τ = mj_E 6 59 ls (.ref (10 * k + 1) :: st) σ τ := (mj_gf i6_56).trans (congrArg (fun z => mj_ov z _) (fv1_6 h1 h2))
theorem i6_59 : mj_ins 6 59 = some (.iconst (0), 60) := by decide +kernel
theorem e6_59 {ls : mj_L} {st : List Value} {σ : mj_S} {τ : mj_T} : mj_E 6 59 ls st σ τ = mj_E 6 60 ls (.int (nI 0) :: st) σ τ := mj_nx i6_59 rfl
theorem i6_60 : mj_ins 6 60 = some (.aload 0, 61) := by decide +kernel
theorem e6_60 {ls : mj_L} {st : List Value} {σ : mj_S} {τ : mj_T} {v : Nat} : mj_E 6 60 (some (.ref v) :: ls) st σ τ = mj_E 6 61 (some (.ref v) :: ls) (.ref v :: st) σ τ := mj_nx i6_60 rfl
theorem i6_61 : mj_ins 6 61 = some (.getfield 106, 64) := by decide +kernel
theorem e6_61 {ls : mj_L} {st : List Value} {σ : mj_S} {τ : mj_T} {k : Nat} (h1 : 1 ≤ k) (h2 : k ≤ 3) : mj_E 6 61 ls (.ref k :: st) σ τ = mj_E 6 64 ls (.ref (10 * k + 1) :: st) σ τ := (mj_gf i6_61).trans (congrArg (fun z => mj_ov z _) (fv1_6 h1 h2))
theorem i6_64 : mj_ins 6 64 = some (.iconst (0), 65) := by decide +kernel
theorem e6_64 {ls : mj_L} {st : List Value} {σ : mj_S} {τ : mj_T} : mj_E 6 64 ls st σ τ = mj_E 6 65 ls (.int (nI 0) :: st) σ τ := mj_nx i6_64 rfl
theorem i6_65 : mj_ins 6 65 = some (.iconst (8), 67) := by decide +kernel
theorem e6_65 {ls : mj_L} {st : List Value} {σ : mj_S} {τ : mj_T} : mj_E 6 65 ls st σ τ = mj_E 6 67 ls (.int (nI 8) :: st) σ τ := mj_nx i6_65 rfl
theorem i6_67 : mj_ins 6 67 = some (.invokedynamic 4, 70) := by decide +kernel
theorem e6_67 {ls : mj_L} {σ : mj_S} {τ : mj_T} {n dp sp : Int32} {a b : Nat} (h : mj_cpk sp dp n (mj_lw a) (mj_lw b) = true) : mj_E 6 67 ls [.int n, .int dp, .ref b, .int sp, .ref a] σ τ = mj_E 6 70 ls [] (mj_rp σ b (va_cpy (σ a) (σ b) sp.toNatClampNeg dp.toNatClampNeg n.toNatClampNeg)) τ := mj_cpi i6_67 (by decide) h
theorem i6_70 : mj_ins 6 70 = some (.aload 1, 71) := by decide +kernel
theorem e6_70 {ls : mj_L} {st : List Value} {σ : mj_S} {τ : mj_T} {a0 : Option Value} {v : Nat} : mj_E 6 70 (a0 :: some (.ref v) :: ls) st σ τ = mj_E 6 71 (a0 :: some (.ref v) :: ls) (.ref v :: st) σ τ := mj_nx i6_70 rfl
theorem i6_71 : mj_ins 6 71 = some (.getfield 107, 74) := by decide +kernel
theorem e6_71 {ls : mj_L} {st : List Value} {σ : mj_S} {τ : mj_T} {k : Nat} (h1 : 1 ≤ k) (h2 : k ≤ 3) : mj_E 6 71 ls (.ref k :: st) σ τ = mj_E 6 74 ls (.ref (10 * k + 2) :: st) σ τ := (mj_gf i6_71).trans (congrArg (fun z => mj_ov z _) (fv1_7 h1 h2))
theorem i6_74 : mj_ins 6 74 = some (.iconst (0), 75) := by decide +kernel
theorem e6_74 {ls : mj_L} {st : List Value} {σ : mj_S} {τ : mj_T} : mj_E 6 74 ls st σ τ = mj_E 6 75 ls (.int (nI 0) :: st) σ τ := mj_nx i6_74 rfl
theorem i6_75 : mj_ins 6 75 = some (.aload 0, 76) := by decide +kernel
theorem e6_75 {ls : mj_L} {st : List Value} {σ : mj_S} {τ : mj_T} {v : Nat} : mj_E 6 75 (some (.ref v) :: ls) st σ τ = mj_E 6 76 (some (.ref v) :: ls) (.ref v :: st) σ τ := mj_nx i6_75 rfl
theorem i6_76 : mj_ins 6 76 = some (.getfield 107, 79) := by decide +kernel
theorem e6_76 {ls : mj_L} {st : List Value} {σ : mj_S} {τ : mj_T} {k : Nat} (h1 : 1 ≤ k) (h2 : k ≤ 3) : mj_E 6 76 ls (.ref k :: st) σ τ = mj_E 6 79 ls (.ref (10 * k + 2) :: st) σ τ := (mj_gf i6_76).trans (congrArg (fun z => mj_ov z _) (fv1_7 h1 h2))
theorem i6_79 : mj_ins 6 79 = some (.iconst (0), 80) := by decide +kernel
theorem e6_79 {ls : mj_L} {st : List Value} {σ : mj_S} {τ : mj_T} : mj_E 6 79 ls st σ τ = mj_E 6 80 ls (.int (nI 0) :: st) σ τ := mj_nx i6_79 rfl
theorem i6_80 : mj_ins 6 80 = some (.iconst (8), 82) := by decide +kernel
theorem e6_80 {ls : mj_L} {st : List Value} {σ : mj_S} {τ : mj_T} : mj_E 6 80 ls st σ τ = mj_E 6 82 ls (.int (nI 8) :: st) σ τ := mj_nx i6_80 rfl
theorem i6_82 : mj_ins 6 82 = some (.invokedynamic 4, 85) := by decide +kernel
theorem e6_82 {ls : mj_L} {σ : mj_S} {τ : mj_T} {n dp sp : Int32} {a b : Nat} (h : mj_cpk sp dp n (mj_lw a) (mj_lw b) = true) : mj_E 6 82 ls [.int n, .int dp, .ref b, .int sp, .ref a] σ τ = mj_E 6 85 ls [] (mj_rp σ b (va_cpy (σ a) (σ b) sp.toNatClampNeg dp.toNatClampNeg n.toNatClampNeg)) τ := mj_cpi i6_82 (by decide) h
theorem i6_85 : mj_ins 6 85 = some (.aload 1, 86) := by decide +kernel
theorem e6_85 {ls : mj_L} {st : List Value} {σ : mj_S} {τ : mj_T} {a0 : Option Value} {v : Nat} : mj_E 6 85 (a0 :: some (.ref v) :: ls) st σ τ = mj_E 6 86 (a0 :: some (.ref v) :: ls) (.ref v :: st) σ τ := mj_nx i6_85 rfl
theorem i6_86 : mj_ins 6 86 = some (.getfield 108, 89) := by decide +kernel
theorem e6_86 {ls : mj_L} {st : List Value} {σ : mj_S} {τ : mj_T} {k : Nat} (h1 : 1 ≤ k) (h2 : k ≤ 3) : mj_E 6 86 ls (.ref k :: st) σ τ = mj_E 6 89 ls (.ref (10 * k + 3) :: st) σ τ := (mj_gf i6_86).trans (congrArg (fun z => mj_ov z _) (fv1_8 h1 h2))
theorem i6_89 : mj_ins 6 89 = some (.iconst (0), 90) := by decide +kernel
theorem e6_89 {ls : mj_L} {st : List Value} {σ : mj_S} {τ : mj_T} : mj_E 6 89 ls st σ τ = mj_E 6 90 ls (.int (nI 0) :: st) σ τ := mj_nx i6_89 rfl
theorem i6_90 : mj_ins 6 90 = some (.aload 0, 91) := by decide +kernel
theorem e6_90 {ls : mj_L} {st : List Value} {σ : mj_S} {τ : mj_T} {v : Nat} : mj_E 6 90 (some (.ref v) :: ls) st σ τ = mj_E 6 91 (some (.ref v) :: ls) (.ref v :: st) σ τ := mj_nx i6_90 rfl
theorem i6_91 : mj_ins 6 91 = some (.getfield 108, 94) := by decide +kernel
theorem e6_91 {ls : mj_L} {st : List Value} {σ : mj_S} {τ : mj_T} {k : Nat} (h1 : 1 ≤ k) (h2 : k ≤ 3) : mj_E 6 91 ls (.ref k :: st) σ τ = mj_E 6 94 ls (.ref (10 * k + 3) :: st) σ τ := (mj_gf i6_91).trans (congrArg (fun z => mj_ov z _) (fv1_8 h1 h2))
theorem i6_94 : mj_ins 6 94 = some (.iconst (0), 95) := by decide +kernel
theorem e6_94 {ls : mj_L} {st : List Value} {σ : mj_S} {τ : mj_T} : mj_E 6 94 ls st σ τ = mj_E 6 95 ls (.int (nI 0) :: st) σ τ := mj_nx i6_94 rfl
theorem i6_95 : mj_ins 6 95 = some (.iconst (8), 97) := by decide +kernel
theorem e6_95 {ls : mj_L} {st : List Value} {σ : mj_S} {τ : mj_T} : mj_E 6 95 ls st σ τ = mj_E 6 97 ls (.int (nI 8) :: st) σ τ := mj_nx i6_95 rfl
theorem i6_97 : mj_ins 6 97 = some (.invokedynamic 4, 100) := by decide +kernel
theorem e6_97 {ls : mj_L} {σ : mj_S} {τ : mj_T} {n dp sp : Int32} {a b : Nat} (h : mj_cpk sp dp n (mj_lw a) (mj_lw b) = true) : mj_E 6 97 ls [.int n, .int dp, .ref b, .int sp, .ref a] σ τ = mj_E 6 100 ls [] (mj_rp σ b (va_cpy (σ a) (σ b) sp.toNatClampNeg dp.toNatClampNeg n.toNatClampNeg)) τ := mj_cpi i6_97 (by decide) h
theorem i6_100 : mj_ins 6 100 = some (.aload 1, 101) := by decide +kernel
theorem e6_100 {ls : mj_L} {st : List Value} {σ : mj_S} {τ : mj_T} {a0 : Option Value} {v : Nat} : mj_E 6 100 (a0 :: some (.ref v) :: ls) st σ τ = mj_E 6 101 (a0 :: some (.ref v) :: ls) (.ref v :: st) σ τ := mj_nx i6_100 rfl
theorem i6_101 : mj_ins 6 101 = some (.getfield 109, 104) := by decide +kernel
theorem e6_101 {ls : mj_L} {st : List Value} {σ : mj_S} {τ : mj_T} {k : Nat} (h1 : 1 ≤ k) (h2 : k ≤ 3) : mj_E 6 101 ls (.ref k :: st) σ τ = mj_E 6 104 ls (.ref (10 * k + 4) :: st) σ τ := (mj_gf i6_101).trans (congrArg (fun z => mj_ov z _) (fv1_9 h1 h2))
theorem i6_104 : mj_ins 6 104 = some (.iconst (0), 105) := by decide +kernel
theorem e6_104 {ls : mj_L} {st : List Value} {σ : mj_S} {τ : mj_T} : mj_E 6 104 ls st σ τ = mj_E 6 105 ls (.int (nI 0) :: st) σ τ := mj_nx i6_104 rfl
theorem i6_105 : mj_ins 6 105 = some (.aload 0, 106) := by decide +kernel
theorem e6_105 {ls : mj_L} {st : List Value} {σ : mj_S} {τ : mj_T} {v : Nat} : mj_E 6 105 (some (.ref v) :: ls) st σ τ = mj_E 6 106 (some (.ref v) :: ls) (.ref v :: st) σ τ := mj_nx i6_105 rfl
theorem i6_106 : mj_ins 6 106 = some (.getfield 109, 109) := by decide +kernel
theorem e6_106 {ls : mj_L} {st : List Value} {σ : mj_S} {τ : mj_T} {k : Nat} (h1 : 1 ≤ k) (h2 : k ≤ 3) : mj_E 6 106 ls (.ref k :: st) σ τ = mj_E 6 109 ls (.ref (10 * k + 4) :: st) σ τ := (mj_gf i6_106).trans (congrArg (fun z => mj_ov z _) (fv1_9 h1 h2))
theorem i6_109 : mj_ins 6 109 = some (.iconst (0), 110) := by decide +kernel
theorem e6_109 {ls : mj_L} {st : List Value} {σ : mj_S} {τ : mj_T} : mj_E 6 109 ls st σ τ = mj_E 6 110 ls (.int (nI 0) :: st) σ τ := mj_nx i6_109 rfl
theorem i6_110 : mj_ins 6 110 = some (.iconst (8), 112) := by decide +kernel
theorem e6_110 {ls : mj_L} {st : List Value} {σ : mj_S} {τ : mj_T} : mj_E 6 110 ls st σ τ = mj_E 6 112 ls (.int (nI 8) :: st) σ τ := mj_nx i6_110 rfl
theorem i6_112 : mj_ins 6 112 = some (.invokedynamic 4, 115) := by decide +kernel
theorem e6_112 {ls : mj_L} {σ : mj_S} {τ : mj_T} {n dp sp : Int32} {a b : Nat} (h : mj_cpk sp dp n (mj_lw a) (mj_lw b) = true) : mj_E 6 112 ls [.int n, .int dp, .ref b, .int sp, .ref a] σ τ = mj_E 6 115 ls [] (mj_rp σ b (va_cpy (σ a) (σ b) sp.toNatClampNeg dp.toNatClampNeg n.toNatClampNeg)) τ := mj_cpi i6_112 (by decide) h
theorem i6_115 : mj_ins 6 115 = some (.aload 1, 116) := by decide +kernel
theorem e6_115 {ls : mj_L} {st : List Value} {σ : mj_S} {τ : mj_T} {a0 : Option Value} {v : Nat} : mj_E 6 115 (a0 :: some (.ref v) :: ls) st σ τ = mj_E 6 116 (a0 :: some (.ref v) :: ls) (.ref v :: st) σ τ := mj_nx i6_115 rfl
theorem i6_116 : mj_ins 6 116 = some (.getfield 110, 119) := by decide +kernel
theorem e6_116 {ls : mj_L} {st : List Value} {σ : mj_S} {τ : mj_T} {k : Nat} (h1 : 1 ≤ k) (h2 : k ≤ 3) : mj_E 6 116 ls (.ref k :: st) σ τ = mj_E 6 119 ls (.ref (10 * k + 5) :: st) σ τ := (mj_gf i6_116).trans (congrArg (fun z => mj_ov z _) (fv1_10 h1 h2))
theorem i6_119 : mj_ins 6 119 = some (.iconst (0), 120) := by decide +kernel
theorem e6_119 {ls : mj_L} {st : List Value} {σ : mj_S} {τ : mj_T} : mj_E 6 119 ls st σ τ = mj_E 6 120 ls (.int (nI 0) :: st) σ τ := mj_nx i6_119 rfl
theorem i6_120 : mj_ins 6 120 = some (.aload 0, 121) := by decide +kernel
theorem e6_120 {ls : mj_L} {st : List Value} {σ : mj_S} {τ : mj_T} {v : Nat} : mj_E 6 120 (some (.ref v) :: ls) st σ τ = mj_E 6 121 (some (.ref v) :: ls) (.ref v :: st) σ τ := mj_nx i6_120 rfl
theorem i6_121 : mj_ins 6 121 = some (.getfield 110, 124) := by decide +kernel
theorem e6_121 {ls : mj_L} {st : List Value} {σ : mj_S} {τ : mj_T} {k : Nat} (h1 : 1 ≤ k) (h2 : k ≤ 3) : mj_E 6 121 ls (.ref k :: st) σ τ = mj_E 6 124 ls (.ref (10 * k + 5) :: st) σ τ := (mj_gf i6_121).trans (congrArg (fun z => mj_ov z _) (fv1_10 h1 h2))
theorem i6_124 : mj_ins 6 124 = some (.iconst (0), 125) := by decide +kernel
theorem e6_124 {ls : mj_L} {st : List Value} {σ : mj_S} {τ : mj_T} : mj_E 6 124 ls st σ τ = mj_E 6 125 ls (.int (nI 0) :: st) σ τ := mj_nx i6_124 rfl
theorem i6_125 : mj_ins 6 125 = some (.iconst (6), 127) := by decide +kernel
theorem e6_125 {ls : mj_L} {st : List Value} {σ : mj_S} {τ : mj_T} : mj_E 6 125 ls st σ τ = mj_E 6 127 ls (.int (nI 6) :: st) σ τ := mj_nx i6_125 rfl
theorem i6_127 : mj_ins 6 127 = some (.invokedynamic 4, 130) := by decide +kernel
theorem e6_127 {ls : mj_L} {σ : mj_S} {τ : mj_T} {n dp sp : Int32} {a b : Nat} (h : mj_cpk sp dp n (mj_lw a) (mj_lw b) = true) : mj_E 6 127 ls [.int n, .int dp, .ref b, .int sp, .ref a] σ τ = mj_E 6 130 ls [] (mj_rp σ b (va_cpy (σ a) (σ b) sp.toNatClampNeg dp.toNatClampNeg n.toNatClampNeg)) τ := mj_cpi i6_127 (by decide) h
theorem i6_130 : mj_ins 6 130 = some (.aload 1, 131) := by decide +kernel
theorem e6_130 {ls : mj_L} {st : List Value} {σ : mj_S} {τ : mj_T} {a0 : Option Value} {v : Nat} : mj_E 6 130 (a0 :: some (.ref v) :: ls) st σ τ = mj_E 6 131 (a0 :: some (.ref v) :: ls) (.ref v :: st) σ τ := mj_nx i6_130 rfl
theorem i6_131 : mj_ins 6 131 = some (.getfield 111, 134) := by decide +kernel
theorem e6_131 {ls : mj_L} {st : List Value} {σ : mj_S} {τ : mj_T} {k : Nat} (h1 : 1 ≤ k) (h2 : k ≤ 3) : mj_E 6 131 ls (.ref k :: st) σ τ = mj_E 6 134 ls (.ref (10 * k + 6) :: st) σ τ := (mj_gf i6_131).trans (congrArg (fun z => mj_ov z _) (fv1_11 h1 h2))
theorem i6_134 : mj_ins 6 134 = some (.iconst (0), 135) := by decide +kernel
theorem e6_134 {ls : mj_L} {st : List Value} {σ : mj_S} {τ : mj_T} : mj_E 6 134 ls st σ τ = mj_E 6 135 ls (.int (nI 0) :: st) σ τ := mj_nx i6_134 rfl
theorem i6_135 : mj_ins 6 135 = some (.aload 0, 136) := by decide +kernel
theorem e6_135 {ls : mj_L} {st : List Value} {σ : mj_S} {τ : mj_T} {v : Nat} : mj_E 6 135 (some (.ref v) :: ls) st σ τ = mj_E 6 136 (some (.ref v) :: ls) (.ref v :: st) σ τ := mj_nx i6_135 rfl
theorem i6_136 : mj_ins 6 136 = some (.getfield 111, 139) := by decide +kernel
theorem e6_136 {ls : mj_L} {st : List Value} {σ : mj_S} {τ : mj_T} {k : Nat} (h1 : 1 ≤ k) (h2 : k ≤ 3) : mj_E 6 136 ls (.ref k :: st) σ τ = mj_E 6 139 ls (.ref (10 * k + 6) :: st) σ τ := (mj_gf i6_136).trans (congrArg (fun z => mj_ov z _) (fv1_11 h1 h2))
theorem i6_139 : mj_ins 6 139 = some (.iconst (0), 140) := by decide +kernel
theorem e6_139 {ls : mj_L} {st : List Value} {σ : mj_S} {τ : mj_T} : mj_E 6 139 ls st σ τ = mj_E 6 140 ls (.int (nI 0) :: st) σ τ := mj_nx i6_139 rfl
theorem i6_140 : mj_ins 6 140 = some (.iconst (6), 142) := by decide +kernel
theorem e6_140 {ls : mj_L} {st : List Value} {σ : mj_S} {τ : mj_T} : mj_E 6 140 ls st σ τ = mj_E 6 142 ls (.int (nI 6) :: st) σ τ := mj_nx i6_140 rfl
theorem i6_142 : mj_ins 6 142 = some (.invokedynamic 4, 145) := by decide +kernel
theorem e6_142 {ls : mj_L} {σ : mj_S} {τ : mj_T} {n dp sp : Int32} {a b : Nat} (h : mj_cpk sp dp n (mj_lw a) (mj_lw b) = true) : mj_E 6 142 ls [.int n, .int dp, .ref b, .int sp, .ref a] σ τ = mj_E 6 145 ls [] (mj_rp σ b (va_cpy (σ a) (σ b) sp.toNatClampNeg dp.toNatClampNeg n.toNatClampNeg)) τ := mj_cpi i6_142 (by decide) h
theorem i6_145 : mj_ins 6 145 = some (.aload 1, 146) := by decide +kernel
theorem e6_145 {ls : mj_L} {st : List Value} {σ : mj_S} {τ : mj_T} {a0 : Option Value} {v : Nat} : mj_E 6 145 (a0 :: some (.ref v) :: ls) st σ τ = mj_E 6 146 (a0 :: some (.ref v) :: ls) (.ref v :: st) σ τ := mj_nx i6_145 rfl
theorem i6_146 : mj_ins 6 146 = some (.getfield 112, 149) := by decide +kernel
theorem e6_146 {ls : mj_L} {st : List Value} {σ : mj_S} {τ : mj_T} {k : Nat} (h1 : 1 ≤ k) (h2 : k ≤ 3) : mj_E 6 146 ls (.ref k :: st) σ τ = mj_E 6 149 ls (.ref (10 * k + 7) :: st) σ τ := (mj_gf i6_146).trans (congrArg (fun z => mj_ov z _) (fv1_12 h1 h2))
theorem i6_149 : mj_ins 6 149 = some (.iconst (0), 150) := by decide +kernel
theorem e6_149 {ls : mj_L} {st : List Value} {σ : mj_S} {τ : mj_T} : mj_E 6 149 ls st σ τ = mj_E 6 150 ls (.int (nI 0) :: st) σ τ := mj_nx i6_149 rfl
theorem i6_150 : mj_ins 6 150 = some (.aload 0, 151) := by decide +kernel
theorem e6_150 {ls : mj_L} {st : List Value} {σ : mj_S} {τ : mj_T} {v : Nat} : mj_E 6 150 (some (.ref v) :: ls) st σ τ = mj_E 6 151 (some (.ref v) :: ls) (.ref v :: st) σ τ := mj_nx i6_150 rfl
theorem i6_151 : mj_ins 6 151 = some (.getfield 112, 154) := by decide +kernel
theorem e6_151 {ls : mj_L} {st : List Value} {σ : mj_S} {τ : mj_T} {k : Nat} (h1 : 1 ≤ k) (h2 : k ≤ 3) : mj_E 6 151 ls (.ref k :: st) σ τ = mj_E 6 154 ls (.ref (10 * k + 7) :: st) σ τ := (mj_gf i6_151).trans (congrArg (fun z => mj_ov z _) (fv1_12 h1 h2))
theorem i6_154 : mj_ins 6 154 = some (.iconst (0), 155) := by decide +kernel
theorem e6_154 {ls : mj_L} {st : List Value} {σ : mj_S} {τ : mj_T} : mj_E 6 154 ls st σ τ = mj_E 6 155 ls (.int (nI 0) :: st) σ τ := mj_nx i6_154 rfl
theorem i6_155 : mj_ins 6 155 = some (.iconst (6), 157) := by decide +kernel
theorem e6_155 {ls : mj_L} {st : List Value} {σ : mj_S} {τ : mj_T} : mj_E 6 155 ls st σ τ = mj_E 6 157 ls (.int (nI 6) :: st) σ τ := mj_nx i6_155 rfl
theorem i6_157 : mj_ins 6 157 = some (.invokedynamic 4, 160) := by decide +kernel
theorem e6_157 {ls : mj_L} {σ : mj_S} {τ : mj_T} {n dp sp : Int32} {a b : Nat} (h : mj_cpk sp dp n (mj_lw a) (mj_lw b) = true) : mj_E 6 157 ls [.int n, .int dp, .ref b, .int sp, .ref a] σ τ = mj_E 6 160 ls [] (mj_rp σ b (va_cpy (σ a) (σ b) sp.toNatClampNeg dp.toNatClampNeg n.toNatClampNeg)) τ := mj_cpi i6_157 (by decide) h
theorem i6_160 : mj_ins 6 160 = some (.aload 1, 161) := by decide +kernel
theorem e6_160 {ls : mj_L} {st : List Value} {σ : mj_S} {τ : mj_T} {a0 : Option Value} {v : Nat} : mj_E 6 160 (a0 :: some (.ref v) :: ls) st σ τ = mj_E 6 161 (a0 :: some (.ref v) :: ls) (.ref v :: st) σ τ := mj_nx i6_160 rfl
theorem i6_161 : mj_ins 6 161 = some (.getfield 113, 164) := by decide +kernel
theorem e6_161 {ls : mj_L} {st : List Value} {σ : mj_S} {τ : mj_T} {k : Nat} (h1 : 1 ≤ k) (h2 : k ≤ 3) : mj_E 6 161 ls (.ref k :: st) σ τ = mj_E 6 164 ls (.ref (10 * k + 8) :: st) σ τ := (mj_gf i6_161).trans (congrArg (fun z => mj_ov z _) (fv1_13 h1 h2))
theorem i6_164 : mj_ins 6 164 = some (.iconst (0), 165) := by decide +kernel
theorem e6_164 {ls : mj_L} {st : List Value} {σ : mj_S} {τ : mj_T} : mj_E 6 164 ls st σ τ = mj_E 6 165 ls (.int (nI 0) :: st) σ τ := mj_nx i6_164 rfl
theorem i6_165 : mj_ins 6 165 = some (.aload 0, 166) := by decide +kernel
theorem e6_165 {ls : mj_L} {st : List Value} {σ : mj_S} {τ : mj_T} {v : Nat} : mj_E 6 165 (some (.ref v) :: ls) st σ τ = mj_E 6 166 (some (.ref v) :: ls) (.ref v :: st) σ τ := mj_nx i6_165 rfl
theorem i6_166 : mj_ins 6 166 = some (.getfield 113, 169) := by decide +kernel
theorem e6_166 {ls : mj_L} {st : List Value} {σ : mj_S} {τ : mj_T} {k : Nat} (h1 : 1 ≤ k) (h2 : k ≤ 3) : mj_E 6 166 ls (.ref k :: st) σ τ = mj_E 6 169 ls (.ref (10 * k + 8) :: st) σ τ := (mj_gf i6_166).trans (congrArg (fun z => mj_ov z _) (fv1_13 h1 h2))
theorem i6_169 : mj_ins 6 169 = some (.iconst (0), 170) := by decide +kernel
theorem e6_169 {ls : mj_L} {st : List Value} {σ : mj_S} {τ : mj_T} : mj_E 6 169 ls st σ τ = mj_E 6 170 ls (.int (nI 0) :: st) σ τ := mj_nx i6_169 rfl
theorem i6_170 : mj_ins 6 170 = some (.iconst (6), 172) := by decide +kernel
theorem e6_170 {ls : mj_L} {st : List Value} {σ : mj_S} {τ : mj_T} : mj_E 6 170 ls st σ τ = mj_E 6 172 ls (.int (nI 6) :: st) σ τ := mj_nx i6_170 rfl
theorem i6_172 : mj_ins 6 172 = some (.invokedynamic 4, 175) := by decide +kernel
theorem e6_172 {ls : mj_L} {σ : mj_S} {τ : mj_T} {n dp sp : Int32} {a b : Nat} (h : mj_cpk sp dp n (mj_lw a) (mj_lw b) = true) : mj_E 6 172 ls [.int n, .int dp, .ref b, .int sp, .ref a] σ τ = mj_E 6 175 ls [] (mj_rp σ b (va_cpy (σ a) (σ b) sp.toNatClampNeg dp.toNatClampNeg n.toNatClampNeg)) τ := mj_cpi i6_172 (by decide) h
theorem i6_175 : mj_ins 6 175 = some (.aload 1, 176) := by decide +kernel
theorem e6_175 {ls : mj_L} {st : List Value} {σ : mj_S} {τ : mj_T} {a0 : Option Value} {v : Nat} : mj_E 6 175 (a0 :: some (.ref v) :: ls) st σ τ = mj_E 6 176 (a0 :: some (.ref v) :: ls) (.ref v :: st) σ τ := mj_nx i6_175 rfl
theorem i6_176 : mj_ins 6 176 = some (.getfield 114, 179) := by decide +kernel
theorem e6_176 {ls : mj_L} {st : List Value} {σ : mj_S} {τ : mj_T} {k : Nat} (h1 : 1 ≤ k) (h2 : k ≤ 3) : mj_E 6 176 ls (.ref k :: st) σ τ = mj_E 6 179 ls (.ref (10 * k + 9) :: st) σ τ := (mj_gf i6_176).trans (congrArg (fun z => mj_ov z _) (fv1_14 h1 h2))
theorem i6_179 : mj_ins 6 179 = some (.iconst (0), 180) := by decide +kernel
theorem e6_179 {ls : mj_L} {st : List Value} {σ : mj_S} {τ : mj_T} : mj_E 6 179 ls st σ τ = mj_E 6 180 ls (.int (nI 0) :: st) σ τ := mj_nx i6_179 rfl
theorem i6_180 : mj_ins 6 180 = some (.aload 0, 181) := by decide +kernel
theorem e6_180 {ls : mj_L} {st : List Value} {σ : mj_S} {τ : mj_T} {v : Nat} : mj_E 6 180 (some (.ref v) :: ls) st σ τ = mj_E 6 181 (some (.ref v) :: ls) (.ref v :: st) σ τ := mj_nx i6_180 rfl
theorem i6_181 : mj_ins 6 181 = some (.getfield 114, 184) := by decide +kernel
theorem e6_181 {ls : mj_L} {st : List Value} {σ : mj_S} {τ : mj_T} {k : Nat} (h1 : 1 ≤ k) (h2 : k ≤ 3) : mj_E 6 181 ls (.ref k :: st) σ τ = mj_E 6 184 ls (.ref (10 * k + 9) :: st) σ τ := (mj_gf i6_181).trans (congrArg (fun z => mj_ov z _) (fv1_14 h1 h2))
theorem i6_184 : mj_ins 6 184 = some (.iconst (0), 185) := by decide +kernel
theorem e6_184 {ls : mj_L} {st : List Value} {σ : mj_S} {τ : mj_T} : mj_E 6 184 ls st σ τ = mj_E 6 185 ls (.int (nI 0) :: st) σ τ := mj_nx i6_184 rfl
theorem i6_185 : mj_ins 6 185 = some (.iconst (48), 187) := by decide +kernel
theorem e6_185 {ls : mj_L} {st : List Value} {σ : mj_S} {τ : mj_T} : mj_E 6 185 ls st σ τ = mj_E 6 187 ls (.int (nI 48) :: st) σ τ := mj_nx i6_185 rfl
theorem i6_187 : mj_ins 6 187 = some (.invokedynamic 4, 190) := by decide +kernel
theorem e6_187 {ls : mj_L} {σ : mj_S} {τ : mj_T} {n dp sp : Int32} {a b : Nat} (h : mj_cpk sp dp n (mj_lw a) (mj_lw b) = true) : mj_E 6 187 ls [.int n, .int dp, .ref b, .int sp, .ref a] σ τ = mj_E 6 190 ls [] (mj_rp σ b (va_cpy (σ a) (σ b) sp.toNatClampNeg dp.toNatClampNeg n.toNatClampNeg)) τ := mj_cpi i6_187 (by decide) h
theorem i6_190 : mj_ins 6 190 = some (.return_, 191) := by decide +kernel
theorem e6_190 {ls : mj_L} {σ : mj_S} {τ : mj_T} : mj_E 6 190 ls [] σ τ = some (none, σ, τ) := mj_vrt i6_190 rfl
theorem c7 {σ : mj_S} {τ : mj_T} {r : Nat} {x0 : Int32} : mj_C 7 [.ref r, .int x0] σ τ = mj_E 7 0 [some (.ref r), some (.int x0)] [] σ τ := rfl
theorem i7_0 : mj_ins 7 0 = some (.iload 1, 1) := by decide +kernel
theorem e7_0 {ls : mj_L} {st : List Value} {σ : mj_S} {τ : mj_T} {a0 : Option Value} {v : Int32} : mj_E 7 0 (a0 :: some (.int v) :: ls) st σ τ = mj_E 7 1 (a0 :: some (.int v) :: ls) (.int v :: st) σ τ := mj_nx i7_0 rfl
theorem i7_1 : mj_ins 7 1 = some (.ifCond .lt 16, 4) := by decide +kernel
theorem e7_1 {ls : mj_L} {st : List Value} {σ : mj_S} {τ : mj_T} {x : Int32} : mj_E 7 1 ls (.int x :: st) σ τ = if x < 0 then mj_E 7 16 ls st σ τ else mj_E 7 4 ls st σ τ := (mj_ifc i7_1).trans (mj_cdT rfl)
theorem i7_4 : mj_ins 7 4 = some (.iload 1, 5) := by decide +kernel
theorem e7_4 {ls : mj_L} {st : List Value} {σ : mj_S} {τ : mj_T} {a0 : Option Value} {v : Int32} : mj_E 7 4 (a0 :: some (.int v) :: ls) st σ τ = mj_E 7 5 (a0 :: some (.int v) :: ls) (.int v :: st) σ τ := mj_nx i7_4 rfl
theorem i7_5 : mj_ins 7 5 = some (.aload 0, 6) := by decide +kernel
theorem e7_5 {ls : mj_L} {st : List Value} {σ : mj_S} {τ : mj_T} {v : Nat} : mj_E 7 5 (some (.ref v) :: ls) st σ τ = mj_E 7 6 (some (.ref v) :: ls) (.ref v :: st) σ τ := mj_nx i7_5 rfl
theorem i7_6 : mj_ins 7 6 = some (.getfield 100, 9) := by decide +kernel
theorem e7_6 {ls : mj_L} {st : List Value} {σ : mj_S} {τ : mj_T} {k : Nat} (h1 : 1 ≤ k) (h2 : k ≤ 3) : mj_E 7 6 ls (.ref k :: st) σ τ = mj_E 7 9 ls (.int (σ k 0) :: st) σ τ := (mj_gf i7_6).trans (congrArg (fun z => mj_ov z _) (fv1_0 h1 h2))
theorem i7_9 : mj_ins 7 9 = some (.if_icmp .ge 16, 12) := by decide +kernel
theorem e7_9 {ls : mj_L} {st : List Value} {σ : mj_S} {τ : mj_T} {x y : Int32} : mj_E 7 9 ls (.int y :: .int x :: st) σ τ = if y ≤ x then mj_E 7 16 ls st σ τ else mj_E 7 12 ls st σ τ := (mj_ifi i7_9).trans (mj_cdT rfl)
theorem i7_12 : mj_ins 7 12 = some (.iconst (1), 13) := by decide +kernel
theorem e7_12 {ls : mj_L} {st : List Value} {σ : mj_S} {τ : mj_T} : mj_E 7 12 ls st σ τ = mj_E 7 13 ls (.int (nI 1) :: st) σ τ := mj_nx i7_12 rfl
theorem i7_13 : mj_ins 7 13 = some (.goto 17, 16) := by decide +kernel
theorem e7_13 {ls : mj_L} {st : List Value} {σ : mj_S} {τ : mj_T} : mj_E 7 13 ls st σ τ = mj_E 7 17 ls st σ τ := mj_nx i7_13 rfl
theorem i7_16 : mj_ins 7 16 = some (.iconst (0), 17) := by decide +kernel
theorem e7_16 {ls : mj_L} {st : List Value} {σ : mj_S} {τ : mj_T} : mj_E 7 16 ls st σ τ = mj_E 7 17 ls (.int (nI 0) :: st) σ τ := mj_nx i7_16 rfl
theorem i7_17 : mj_ins 7 17 = some (.ireturn, 18) := by decide +kernel
theorem e7_17 {ls : mj_L} {σ : mj_S} {τ : mj_T} {v : Int32} : mj_E 7 17 ls [.int v] σ τ = if mj_ok (some .boolean) v = true then some (some (.int v), σ, τ) else none := mj_zrt i7_17 rfl
theorem c8 {σ : mj_S} {τ : mj_T} {r : Nat} {x0 : Int32} : mj_C 8 [.ref r, .int x0] σ τ = mj_E 8 0 [some (.ref r), some (.int x0)] [] σ τ := rfl
theorem i8_0 : mj_ins 8 0 = some (.iload 1, 1) := by decide +kernel
theorem e8_0 {ls : mj_L} {st : List Value} {σ : mj_S} {τ : mj_T} {a0 : Option Value} {v : Int32} : mj_E 8 0 (a0 :: some (.int v) :: ls) st σ τ = mj_E 8 1 (a0 :: some (.int v) :: ls) (.int v :: st) σ τ := mj_nx i8_0 rfl
theorem i8_1 : mj_ins 8 1 = some (.ifCond .lt 16, 4) := by decide +kernel
theorem e8_1 {ls : mj_L} {st : List Value} {σ : mj_S} {τ : mj_T} {x : Int32} : mj_E 8 1 ls (.int x :: st) σ τ = if x < 0 then mj_E 8 16 ls st σ τ else mj_E 8 4 ls st σ τ := (mj_ifc i8_1).trans (mj_cdT rfl)
theorem i8_4 : mj_ins 8 4 = some (.iload 1, 5) := by decide +kernel
theorem e8_4 {ls : mj_L} {st : List Value} {σ : mj_S} {τ : mj_T} {a0 : Option Value} {v : Int32} : mj_E 8 4 (a0 :: some (.int v) :: ls) st σ τ = mj_E 8 5 (a0 :: some (.int v) :: ls) (.int v :: st) σ τ := mj_nx i8_4 rfl
theorem i8_5 : mj_ins 8 5 = some (.aload 0, 6) := by decide +kernel
theorem e8_5 {ls : mj_L} {st : List Value} {σ : mj_S} {τ : mj_T} {v : Nat} : mj_E 8 5 (some (.ref v) :: ls) st σ τ = mj_E 8 6 (some (.ref v) :: ls) (.ref v :: st) σ τ := mj_nx i8_5 rfl
theorem i8_6 : mj_ins 8 6 = some (.getfield 101, 9) := by decide +kernel
theorem e8_6 {ls : mj_L} {st : List Value} {σ : mj_S} {τ : mj_T} {k : Nat} (h1 : 1 ≤ k) (h2 : k ≤ 3) : mj_E 8 6 ls (.ref k :: st) σ τ = mj_E 8 9 ls (.int (σ k 1) :: st) σ τ := (mj_gf i8_6).trans (congrArg (fun z => mj_ov z _) (fv1_1 h1 h2))
theorem i8_9 : mj_ins 8 9 = some (.if_icmp .ge 16, 12) := by decide +kernel
theorem e8_9 {ls : mj_L} {st : List Value} {σ : mj_S} {τ : mj_T} {x y : Int32} : mj_E 8 9 ls (.int y :: .int x :: st) σ τ = if y ≤ x then mj_E 8 16 ls st σ τ else mj_E 8 12 ls st σ τ := (mj_ifi i8_9).trans (mj_cdT rfl)
theorem i8_12 : mj_ins 8 12 = some (.iconst (1), 13) := by decide +kernel
theorem e8_12 {ls : mj_L} {st : List Value} {σ : mj_S} {τ : mj_T} : mj_E 8 12 ls st σ τ = mj_E 8 13 ls (.int (nI 1) :: st) σ τ := mj_nx i8_12 rfl
theorem i8_13 : mj_ins 8 13 = some (.goto 17, 16) := by decide +kernel
theorem e8_13 {ls : mj_L} {st : List Value} {σ : mj_S} {τ : mj_T} : mj_E 8 13 ls st σ τ = mj_E 8 17 ls st σ τ := mj_nx i8_13 rfl
theorem i8_16 : mj_ins 8 16 = some (.iconst (0), 17) := by decide +kernel
theorem e8_16 {ls : mj_L} {st : List Value} {σ : mj_S} {τ : mj_T} : mj_E 8 16 ls st σ τ = mj_E 8 17 ls (.int (nI 0) :: st) σ τ := mj_nx i8_16 rfl
theorem i8_17 : mj_ins 8 17 = some (.ireturn, 18) := by decide +kernel
theorem e8_17 {ls : mj_L} {σ : mj_S} {τ : mj_T} {v : Int32} : mj_E 8 17 ls [.int v] σ τ = if mj_ok (some .boolean) v = true then some (some (.int v), σ, τ) else none := mj_zrt i8_17 rfl
theorem c9 {σ : mj_S} {τ : mj_T} {r : Nat} : mj_C 9 [.ref r] σ τ = mj_E 9 0 [some (.ref r)] [] σ τ := rfl
theorem i9_0 : mj_ins 9 0 = some (.aload 0, 1) := by decide +kernel
theorem e9_0 {ls : mj_L} {st : List Value} {σ : mj_S} {τ : mj_T} {v : Nat} : mj_E 9 0 (some (.ref v) :: ls) st σ τ = mj_E 9 1 (some (.ref v) :: ls) (.ref v :: st) σ τ := mj_nx i9_0 rfl
theorem i9_1 : mj_ins 9 1 = some (.getfield 100, 4) := by decide +kernel
theorem e9_1 {ls : mj_L} {st : List Value} {σ : mj_S} {τ : mj_T} {k : Nat} (h1 : 1 ≤ k) (h2 : k ≤ 3) : mj_E 9 1 ls (.ref k :: st) σ τ = mj_E 9 4 ls (.int (σ k 0) :: st) σ τ := (mj_gf i9_1).trans (congrArg (fun z => mj_ov z _) (fv1_0 h1 h2))
theorem i9_4 : mj_ins 9 4 = some (.iconst (8), 6) := by decide +kernel
theorem e9_4 {ls : mj_L} {st : List Value} {σ : mj_S} {τ : mj_T} : mj_E 9 4 ls st σ τ = mj_E 9 6 ls (.int (nI 8) :: st) σ τ := mj_nx i9_4 rfl
theorem i9_6 : mj_ins 9 6 = some (.if_icmp .ge 13, 9) := by decide +kernel
theorem e9_6 {ls : mj_L} {st : List Value} {σ : mj_S} {τ : mj_T} {x y : Int32} : mj_E 9 6 ls (.int y :: .int x :: st) σ τ = if y ≤ x then mj_E 9 13 ls st σ τ else mj_E 9 9 ls st σ τ := (mj_ifi i9_6).trans (mj_cdT rfl)
theorem i9_9 : mj_ins 9 9 = some (.iconst (1), 10) := by decide +kernel
theorem e9_9 {ls : mj_L} {st : List Value} {σ : mj_S} {τ : mj_T} : mj_E 9 9 ls st σ τ = mj_E 9 10 ls (.int (nI 1) :: st) σ τ := mj_nx i9_9 rfl
theorem i9_10 : mj_ins 9 10 = some (.goto 14, 13) := by decide +kernel
theorem e9_10 {ls : mj_L} {st : List Value} {σ : mj_S} {τ : mj_T} : mj_E 9 10 ls st σ τ = mj_E 9 14 ls st σ τ := mj_nx i9_10 rfl
theorem i9_13 : mj_ins 9 13 = some (.iconst (0), 14) := by decide +kernel
theorem e9_13 {ls : mj_L} {st : List Value} {σ : mj_S} {τ : mj_T} : mj_E 9 13 ls st σ τ = mj_E 9 14 ls (.int (nI 0) :: st) σ τ := mj_nx i9_13 rfl
theorem i9_14 : mj_ins 9 14 = some (.ireturn, 15) := by decide +kernel
theorem e9_14 {ls : mj_L} {σ : mj_S} {τ : mj_T} {v : Int32} : mj_E 9 14 ls [.int v] σ τ = if mj_ok (some .boolean) v = true then some (some (.int v), σ, τ) else none := mj_zrt i9_14 rfl
theorem c10 {σ : mj_S} {τ : mj_T} {r : Nat} : mj_C 10 [.ref r] σ τ = mj_E 10 0 [some (.ref r)] [] σ τ := rfl
theorem i10_0 : mj_ins 10 0 = some (.aload 0, 1) := by decide +kernel
theorem e10_0 {ls : mj_L} {st : List Value} {σ : mj_S} {τ : mj_T} {v : Nat} : mj_E 10 0 (some (.ref v) :: ls) st σ τ = mj_E 10 1 (some (.ref v) :: ls) (.ref v :: st) σ τ := mj_nx i10_0 rfl
theorem i10_1 : mj_ins 10 1 = some (.getfield 101, 4) := by decide +kernel
theorem e10_1 {ls : mj_L} {st : List Value} {σ : mj_S} {τ : mj_T} {k : Nat} (h1 : 1 ≤ k) (h2 : k ≤ 3) : mj_E 10 1 ls (.ref k :: st) σ τ = mj_E 10 4 ls (.int (σ k 1) :: st) σ τ := (mj_gf i10_1).trans (congrArg (fun z => mj_ov z _) (fv1_1 h1 h2))
theorem i10_4 : mj_ins 10 4 = some (.iconst (6), 6) := by decide +kernel
theorem e10_4 {ls : mj_L} {st : List Value} {σ : mj_S} {τ : mj_T} : mj_E 10 4 ls st σ τ = mj_E 10 6 ls (.int (nI 6) :: st) σ τ := mj_nx i10_4 rfl
theorem i10_6 : mj_ins 10 6 = some (.if_icmp .ge 13, 9) := by decide +kernel
theorem e10_6 {ls : mj_L} {st : List Value} {σ : mj_S} {τ : mj_T} {x y : Int32} : mj_E 10 6 ls (.int y :: .int x :: st) σ τ = if y ≤ x then mj_E 10 13 ls st σ τ else mj_E 10 9 ls st σ τ := (mj_ifi i10_6).trans (mj_cdT rfl)
theorem i10_9 : mj_ins 10 9 = some (.iconst (1), 10) := by decide +kernel
theorem e10_9 {ls : mj_L} {st : List Value} {σ : mj_S} {τ : mj_T} : mj_E 10 9 ls st σ τ = mj_E 10 10 ls (.int (nI 1) :: st) σ τ := mj_nx i10_9 rfl
theorem i10_10 : mj_ins 10 10 = some (.goto 14, 13) := by decide +kernel
theorem e10_10 {ls : mj_L} {st : List Value} {σ : mj_S} {τ : mj_T} : mj_E 10 10 ls st σ τ = mj_E 10 14 ls st σ τ := mj_nx i10_10 rfl
theorem i10_13 : mj_ins 10 13 = some (.iconst (0), 14) := by decide +kernel
theorem e10_13 {ls : mj_L} {st : List Value} {σ : mj_S} {τ : mj_T} : mj_E 10 13 ls st σ τ = mj_E 10 14 ls (.int (nI 0) :: st) σ τ := mj_nx i10_13 rfl
theorem i10_14 : mj_ins 10 14 = some (.ireturn, 15) := by decide +kernel
theorem e10_14 {ls : mj_L} {σ : mj_S} {τ : mj_T} {v : Int32} : mj_E 10 14 ls [.int v] σ τ = if mj_ok (some .boolean) v = true then some (some (.int v), σ, τ) else none := mj_zrt i10_14 rfl
theorem c11 {σ : mj_S} {τ : mj_T} {r : Nat} {x0 : Int32} {x1 : Int32} {x2 : Int32} {x3 : Int32} : mj_C 11 [.ref r, .int x0, .int x1, .int x2, .int x3] σ τ = mj_E 11 0 [some (.ref r), some (.int x0), some (.int x1), some (.int x2), some (.int x3), none] [] σ τ := rfl
theorem i11_0 : mj_ins 11 0 = some (.aload 0, 1) := by decide +kernel
theorem e11_0 {ls : mj_L} {st : List Value} {σ : mj_S} {τ : mj_T} {v : Nat} : mj_E 11 0 (some (.ref v) :: ls) st σ τ = mj_E 11 1 (some (.ref v) :: ls) (.ref v :: st) σ τ := mj_nx i11_0 rfl
theorem i11_1 : mj_ins 11 1 = some (.dup, 2) := by decide +kernel
theorem e11_1 {ls : mj_L} {st : List Value} {σ : mj_S} {τ : mj_T} {v : Nat} : mj_E 11 1 ls (.ref v :: st) σ τ = mj_E 11 2 ls (.ref v :: .ref v :: st) σ τ := mj_nx i11_1 rfl
theorem i11_2 : mj_ins 11 2 = some (.getfield 100, 5) := by decide +kernel
theorem e11_2 {ls : mj_L} {st : List Value} {σ : mj_S} {τ : mj_T} {k : Nat} (h1 : 1 ≤ k) (h2 : k ≤ 3) : mj_E 11 2 ls (.ref k :: st) σ τ = mj_E 11 5 ls (.int (σ k 0) :: st) σ τ := (mj_gf i11_2).trans (congrArg (fun z => mj_ov z _) (fv1_0 h1 h2))
theorem i11_5 : mj_ins 11 5 = some (.dup_x1, 6) := by decide +kernel
theorem e11_5 {ls : mj_L} {st : List Value} {σ : mj_S} {τ : mj_T} {y : Int32} {x : Nat} : mj_E 11 5 ls (.int y :: .ref x :: st) σ τ = mj_E 11 6 ls (.int y :: .ref x :: .int y :: st) σ τ := mj_nx i11_5 rfl
theorem i11_6 : mj_ins 11 6 = some (.iconst (1), 7) := by decide +kernel
theorem e11_6 {ls : mj_L} {st : List Value} {σ : mj_S} {τ : mj_T} : mj_E 11 6 ls st σ τ = mj_E 11 7 ls (.int (nI 1) :: st) σ τ := mj_nx i11_6 rfl
theorem i11_7 : mj_ins 11 7 = some (.iadd, 8) := by decide +kernel
theorem e11_7 {ls : mj_L} {st : List Value} {σ : mj_S} {τ : mj_T} {x y : Int32} : mj_E 11 7 ls (.int y :: .int x :: st) σ τ = mj_E 11 8 ls (.int (x + y) :: st) σ τ := mj_nx i11_7 rfl
theorem i11_8 : mj_ins 11 8 = some (.putfield 100, 11) := by decide +kernel
theorem e11_8 {ls : mj_L} {st : List Value} {σ : mj_S} {τ : mj_T} {k : Nat} (h1 : 1 ≤ k) (h2 : k ≤ 3) {v : Int32} : mj_E 11 8 ls (.int v :: .ref k :: st) σ τ = mj_E 11 11 ls st (mj_up σ k 0 v) τ := (mj_pf i11_8 rfl).trans (if_pos (fw1_0 h1 h2))
theorem i11_11 : mj_ins 11 11 = some (.istore 5, 13) := by decide +kernel
theorem e11_11 {ls : mj_L} {st : List Value} {σ : mj_S} {τ : mj_T} {a0 a1 a2 a3 a4 a5 : Option Value} {v : Int32} : mj_E 11 11 (a0 :: a1 :: a2 :: a3 :: a4 :: a5 :: ls) (.int v :: st) σ τ = mj_E 11 13 (a0 :: a1 :: a2 :: a3 :: a4 :: some (.int v) :: ls) st σ τ := mj_nx i11_11 rfl
theorem i11_13 : mj_ins 11 13 = some (.aload 0, 14) := by decide +kernel
theorem e11_13 {ls : mj_L} {st : List Value} {σ : mj_S} {τ : mj_T} {v : Nat} : mj_E 11 13 (some (.ref v) :: ls) st σ τ = mj_E 11 14 (some (.ref v) :: ls) (.ref v :: st) σ τ := mj_nx i11_13 rfl
theorem i11_14 : mj_ins 11 14 = some (.getfield 105, 17) := by decide +kernel
theorem e11_14 {ls : mj_L} {st : List Value} {σ : mj_S} {τ : mj_T} {k : Nat} (h1 : 1 ≤ k) (h2 : k ≤ 3) : mj_E 11 14 ls (.ref k :: st) σ τ = mj_E 11 17 ls (.ref (10 * k + 0) :: st) σ τ := (mj_gf i11_14).trans (congrArg (fun z => mj_ov z _) (fv1_5 h1 h2))
theorem i11_17 : mj_ins 11 17 = some (.iload 5, 19) := by decide +kernel
theorem e11_17 {ls : mj_L} {st : List Value} {σ : mj_S} {τ : mj_T} {a0 a1 a2 a3 a4 : Option Value} {v : Int32} : mj_E 11 17 (a0 :: a1 :: a2 :: a3 :: a4 :: some (.int v) :: ls) st σ τ = mj_E 11 19 (a0 :: a1 :: a2 :: a3 :: a4 :: some (.int v) :: ls) (.int v :: st) σ τ := mj_nx i11_17 rfl
theorem i11_19 : mj_ins 11 19 = some (.iload 1, 20) := by decide +kernel
theorem e11_19 {ls : mj_L} {st : List Value} {σ : mj_S} {τ : mj_T} {a0 : Option Value} {v : Int32} : mj_E 11 19 (a0 :: some (.int v) :: ls) st σ τ = mj_E 11 20 (a0 :: some (.int v) :: ls) (.int v :: st) σ τ := mj_nx i11_19 rfl
theorem i11_20 : mj_ins 11 20 = some (.iastore, 21) := by decide +kernel
theorem e11_20 {ls : mj_L} {st : List Value} {σ : mj_S} {τ : mj_T} {x v : Int32} {k : Nat} : mj_E 11 20 ls (.int v :: .int x :: .ref k :: st) σ τ = if mj_ib (mj_lw k) x = true then mj_E 11 21 ls st (mj_up σ k x.toNatClampNeg v) τ else none := mj_ast i11_20
theorem i11_21 : mj_ins 11 21 = some (.aload 0, 22) := by decide +kernel
theorem e11_21 {ls : mj_L} {st : List Value} {σ : mj_S} {τ : mj_T} {v : Nat} : mj_E 11 21 (some (.ref v) :: ls) st σ τ = mj_E 11 22 (some (.ref v) :: ls) (.ref v :: st) σ τ := mj_nx i11_21 rfl
theorem i11_22 : mj_ins 11 22 = some (.getfield 106, 25) := by decide +kernel
theorem e11_22 {ls : mj_L} {st : List Value} {σ : mj_S} {τ : mj_T} {k : Nat} (h1 : 1 ≤ k) (h2 : k ≤ 3) : mj_E 11 22 ls (.ref k :: st) σ τ = mj_E 11 25 ls (.ref (10 * k + 1) :: st) σ τ := (mj_gf i11_22).trans (congrArg (fun z => mj_ov z _) (fv1_6 h1 h2))
theorem i11_25 : mj_ins 11 25 = some (.iload 5, 27) := by decide +kernel
theorem e11_25 {ls : mj_L} {st : List Value} {σ : mj_S} {τ : mj_T} {a0 a1 a2 a3 a4 : Option Value} {v : Int32} : mj_E 11 25 (a0 :: a1 :: a2 :: a3 :: a4 :: some (.int v) :: ls) st σ τ = mj_E 11 27 (a0 :: a1 :: a2 :: a3 :: a4 :: some (.int v) :: ls) (.int v :: st) σ τ := mj_nx i11_25 rfl
theorem i11_27 : mj_ins 11 27 = some (.iload 2, 28) := by decide +kernel
theorem e11_27 {ls : mj_L} {st : List Value} {σ : mj_S} {τ : mj_T} {a0 a1 : Option Value} {v : Int32} : mj_E 11 27 (a0 :: a1 :: some (.int v) :: ls) st σ τ = mj_E 11 28 (a0 :: a1 :: some (.int v) :: ls) (.int v :: st) σ τ := mj_nx i11_27 rfl
theorem i11_28 : mj_ins 11 28 = some (.iastore, 29) := by decide +kernel
theorem e11_28 {ls : mj_L} {st : List Value} {σ : mj_S} {τ : mj_T} {x v : Int32} {k : Nat} : mj_E 11 28 ls (.int v :: .int x :: .ref k :: st) σ τ = if mj_ib (mj_lw k) x = true then mj_E 11 29 ls st (mj_up σ k x.toNatClampNeg v) τ else none := mj_ast i11_28
theorem i11_29 : mj_ins 11 29 = some (.aload 0, 30) := by decide +kernel
theorem e11_29 {ls : mj_L} {st : List Value} {σ : mj_S} {τ : mj_T} {v : Nat} : mj_E 11 29 (some (.ref v) :: ls) st σ τ = mj_E 11 30 (some (.ref v) :: ls) (.ref v :: st) σ τ := mj_nx i11_29 rfl
theorem i11_30 : mj_ins 11 30 = some (.getfield 107, 33) := by decide +kernel
theorem e11_30 {ls : mj_L} {st : List Value} {σ : mj_S} {τ : mj_T} {k : Nat} (h1 : 1 ≤ k) (h2 : k ≤ 3) : mj_E 11 30 ls (.ref k :: st) σ τ = mj_E 11 33 ls (.ref (10 * k + 2) :: st) σ τ := (mj_gf i11_30).trans (congrArg (fun z => mj_ov z _) (fv1_7 h1 h2))
theorem i11_33 : mj_ins 11 33 = some (.iload 5, 35) := by decide +kernel
theorem e11_33 {ls : mj_L} {st : List Value} {σ : mj_S} {τ : mj_T} {a0 a1 a2 a3 a4 : Option Value} {v : Int32} : mj_E 11 33 (a0 :: a1 :: a2 :: a3 :: a4 :: some (.int v) :: ls) st σ τ = mj_E 11 35 (a0 :: a1 :: a2 :: a3 :: a4 :: some (.int v) :: ls) (.int v :: st) σ τ := mj_nx i11_33 rfl
theorem i11_35 : mj_ins 11 35 = some (.iload 3, 36) := by decide +kernel
theorem e11_35 {ls : mj_L} {st : List Value} {σ : mj_S} {τ : mj_T} {a0 a1 a2 : Option Value} {v : Int32} : mj_E 11 35 (a0 :: a1 :: a2 :: some (.int v) :: ls) st σ τ = mj_E 11 36 (a0 :: a1 :: a2 :: some (.int v) :: ls) (.int v :: st) σ τ := mj_nx i11_35 rfl
theorem i11_36 : mj_ins 11 36 = some (.iastore, 37) := by decide +kernel
theorem e11_36 {ls : mj_L} {st : List Value} {σ : mj_S} {τ : mj_T} {x v : Int32} {k : Nat} : mj_E 11 36 ls (.int v :: .int x :: .ref k :: st) σ τ = if mj_ib (mj_lw k) x = true then mj_E 11 37 ls st (mj_up σ k x.toNatClampNeg v) τ else none := mj_ast i11_36
theorem i11_37 : mj_ins 11 37 = some (.aload 0, 38) := by decide +kernel
theorem e11_37 {ls : mj_L} {st : List Value} {σ : mj_S} {τ : mj_T} {v : Nat} : mj_E 11 37 (some (.ref v) :: ls) st σ τ = mj_E 11 38 (some (.ref v) :: ls) (.ref v :: st) σ τ := mj_nx i11_37 rfl
theorem i11_38 : mj_ins 11 38 = some (.getfield 108, 41) := by decide +kernel
theorem e11_38 {ls : mj_L} {st : List Value} {σ : mj_S} {τ : mj_T} {k : Nat} (h1 : 1 ≤ k) (h2 : k ≤ 3) : mj_E 11 38 ls (.ref k :: st) σ τ = mj_E 11 41 ls (.ref (10 * k + 3) :: st) σ τ := (mj_gf i11_38).trans (congrArg (fun z => mj_ov z _) (fv1_8 h1 h2))
theorem i11_41 : mj_ins 11 41 = some (.iload 5, 43) := by decide +kernel
theorem e11_41 {ls : mj_L} {st : List Value} {σ : mj_S} {τ : mj_T} {a0 a1 a2 a3 a4 : Option Value} {v : Int32} : mj_E 11 41 (a0 :: a1 :: a2 :: a3 :: a4 :: some (.int v) :: ls) st σ τ = mj_E 11 43 (a0 :: a1 :: a2 :: a3 :: a4 :: some (.int v) :: ls) (.int v :: st) σ τ := mj_nx i11_41 rfl
theorem i11_43 : mj_ins 11 43 = some (.iload 4, 45) := by decide +kernel
theorem e11_43 {ls : mj_L} {st : List Value} {σ : mj_S} {τ : mj_T} {a0 a1 a2 a3 : Option Value} {v : Int32} : mj_E 11 43 (a0 :: a1 :: a2 :: a3 :: some (.int v) :: ls) st σ τ = mj_E 11 45 (a0 :: a1 :: a2 :: a3 :: some (.int v) :: ls) (.int v :: st) σ τ := mj_nx i11_43 rfl
theorem i11_45 : mj_ins 11 45 = some (.iastore, 46) := by decide +kernel
theorem e11_45 {ls : mj_L} {st : List Value} {σ : mj_S} {τ : mj_T} {x v : Int32} {k : Nat} : mj_E 11 45 ls (.int v :: .int x :: .ref k :: st) σ τ = if mj_ib (mj_lw k) x = true then mj_E 11 46 ls st (mj_up σ k x.toNatClampNeg v) τ else none := mj_ast i11_45
theorem i11_46 : mj_ins 11 46 = some (.iload 5, 48) := by decide +kernel
theorem e11_46 {ls : mj_L} {st : List Value} {σ : mj_S} {τ : mj_T} {a0 a1 a2 a3 a4 : Option Value} {v : Int32} : mj_E 11 46 (a0 :: a1 :: a2 :: a3 :: a4 :: some (.int v) :: ls) st σ τ = mj_E 11 48 (a0 :: a1 :: a2 :: a3 :: a4 :: some (.int v) :: ls) (.int v :: st) σ τ := mj_nx i11_46 rfl
theorem i11_48 : mj_ins 11 48 = some (.ireturn, 49) := by decide +kernel
theorem e11_48 {ls : mj_L} {σ : mj_S} {τ : mj_T} {v : Int32} : mj_E 11 48 ls [.int v] σ τ = some (some (.int v), σ, τ) := mj_irt i11_48 rfl
theorem c12 {σ : mj_S} {τ : mj_T} {r : Nat} {x0 : Int32} {x1 : Int32} {x2 : Int32} : mj_C 12 [.ref r, .int x0, .int x1, .int x2] σ τ = mj_E 12 0 [some (.ref r), some (.int x0), some (.int x1), some (.int x2), none] [] σ τ := rfl
theorem i12_0 : mj_ins 12 0 = some (.aload 0, 1) := by decide +kernel
theorem e12_0 {ls : mj_L} {st : List Value} {σ : mj_S} {τ : mj_T} {v : Nat} : mj_E 12 0 (some (.ref v) :: ls) st σ τ = mj_E 12 1 (some (.ref v) :: ls) (.ref v :: st) σ τ := mj_nx i12_0 rfl
theorem i12_1 : mj_ins 12 1 = some (.dup, 2) := by decide +kernel
theorem e12_1 {ls : mj_L} {st : List Value} {σ : mj_S} {τ : mj_T} {v : Nat} : mj_E 12 1 ls (.ref v :: st) σ τ = mj_E 12 2 ls (.ref v :: .ref v :: st) σ τ := mj_nx i12_1 rfl
theorem i12_2 : mj_ins 12 2 = some (.getfield 101, 5) := by decide +kernel
theorem e12_2 {ls : mj_L} {st : List Value} {σ : mj_S} {τ : mj_T} {k : Nat} (h1 : 1 ≤ k) (h2 : k ≤ 3) : mj_E 12 2 ls (.ref k :: st) σ τ = mj_E 12 5 ls (.int (σ k 1) :: st) σ τ := (mj_gf i12_2).trans (congrArg (fun z => mj_ov z _) (fv1_1 h1 h2))
theorem i12_5 : mj_ins 12 5 = some (.dup_x1, 6) := by decide +kernel
theorem e12_5 {ls : mj_L} {st : List Value} {σ : mj_S} {τ : mj_T} {y : Int32} {x : Nat} : mj_E 12 5 ls (.int y :: .ref x :: st) σ τ = mj_E 12 6 ls (.int y :: .ref x :: .int y :: st) σ τ := mj_nx i12_5 rfl
theorem i12_6 : mj_ins 12 6 = some (.iconst (1), 7) := by decide +kernel
theorem e12_6 {ls : mj_L} {st : List Value} {σ : mj_S} {τ : mj_T} : mj_E 12 6 ls st σ τ = mj_E 12 7 ls (.int (nI 1) :: st) σ τ := mj_nx i12_6 rfl
theorem i12_7 : mj_ins 12 7 = some (.iadd, 8) := by decide +kernel
theorem e12_7 {ls : mj_L} {st : List Value} {σ : mj_S} {τ : mj_T} {x y : Int32} : mj_E 12 7 ls (.int y :: .int x :: st) σ τ = mj_E 12 8 ls (.int (x + y) :: st) σ τ := mj_nx i12_7 rfl
theorem i12_8 : mj_ins 12 8 = some (.putfield 101, 11) := by decide +kernel
theorem e12_8 {ls : mj_L} {st : List Value} {σ : mj_S} {τ : mj_T} {k : Nat} (h1 : 1 ≤ k) (h2 : k ≤ 3) {v : Int32} : mj_E 12 8 ls (.int v :: .ref k :: st) σ τ = mj_E 12 11 ls st (mj_up σ k 1 v) τ := (mj_pf i12_8 rfl).trans (if_pos (fw1_1 h1 h2))
theorem i12_11 : mj_ins 12 11 = some (.istore 4, 13) := by decide +kernel
theorem e12_11 {ls : mj_L} {st : List Value} {σ : mj_S} {τ : mj_T} {a0 a1 a2 a3 a4 : Option Value} {v : Int32} : mj_E 12 11 (a0 :: a1 :: a2 :: a3 :: a4 :: ls) (.int v :: st) σ τ = mj_E 12 13 (a0 :: a1 :: a2 :: a3 :: some (.int v) :: ls) st σ τ := mj_nx i12_11 rfl
theorem i12_13 : mj_ins 12 13 = some (.aload 0, 14) := by decide +kernel
theorem e12_13 {ls : mj_L} {st : List Value} {σ : mj_S} {τ : mj_T} {v : Nat} : mj_E 12 13 (some (.ref v) :: ls) st σ τ = mj_E 12 14 (some (.ref v) :: ls) (.ref v :: st) σ τ := mj_nx i12_13 rfl
theorem i12_14 : mj_ins 12 14 = some (.getfield 110, 17) := by decide +kernel
theorem e12_14 {ls : mj_L} {st : List Value} {σ : mj_S} {τ : mj_T} {k : Nat} (h1 : 1 ≤ k) (h2 : k ≤ 3) : mj_E 12 14 ls (.ref k :: st) σ τ = mj_E 12 17 ls (.ref (10 * k + 5) :: st) σ τ := (mj_gf i12_14).trans (congrArg (fun z => mj_ov z _) (fv1_10 h1 h2))
theorem i12_17 : mj_ins 12 17 = some (.iload 4, 19) := by decide +kernel
theorem e12_17 {ls : mj_L} {st : List Value} {σ : mj_S} {τ : mj_T} {a0 a1 a2 a3 : Option Value} {v : Int32} : mj_E 12 17 (a0 :: a1 :: a2 :: a3 :: some (.int v) :: ls) st σ τ = mj_E 12 19 (a0 :: a1 :: a2 :: a3 :: some (.int v) :: ls) (.int v :: st) σ τ := mj_nx i12_17 rfl
theorem i12_19 : mj_ins 12 19 = some (.iload 1, 20) := by decide +kernel
theorem e12_19 {ls : mj_L} {st : List Value} {σ : mj_S} {τ : mj_T} {a0 : Option Value} {v : Int32} : mj_E 12 19 (a0 :: some (.int v) :: ls) st σ τ = mj_E 12 20 (a0 :: some (.int v) :: ls) (.int v :: st) σ τ := mj_nx i12_19 rfl
theorem i12_20 : mj_ins 12 20 = some (.iastore, 21) := by decide +kernel
theorem e12_20 {ls : mj_L} {st : List Value} {σ : mj_S} {τ : mj_T} {x v : Int32} {k : Nat} : mj_E 12 20 ls (.int v :: .int x :: .ref k :: st) σ τ = if mj_ib (mj_lw k) x = true then mj_E 12 21 ls st (mj_up σ k x.toNatClampNeg v) τ else none := mj_ast i12_20
theorem i12_21 : mj_ins 12 21 = some (.aload 0, 22) := by decide +kernel
theorem e12_21 {ls : mj_L} {st : List Value} {σ : mj_S} {τ : mj_T} {v : Nat} : mj_E 12 21 (some (.ref v) :: ls) st σ τ = mj_E 12 22 (some (.ref v) :: ls) (.ref v :: st) σ τ := mj_nx i12_21 rfl
theorem i12_22 : mj_ins 12 22 = some (.getfield 111, 25) := by decide +kernel
theorem e12_22 {ls : mj_L} {st : List Value} {σ : mj_S} {τ : mj_T} {k : Nat} (h1 : 1 ≤ k) (h2 : k ≤ 3) : mj_E 12 22 ls (.ref k :: st) σ τ = mj_E 12 25 ls (.ref (10 * k + 6) :: st) σ τ := (mj_gf i12_22).trans (congrArg (fun z => mj_ov z _) (fv1_11 h1 h2))
theorem i12_25 : mj_ins 12 25 = some (.iload 4, 27) := by decide +kernel
theorem e12_25 {ls : mj_L} {st : List Value} {σ : mj_S} {τ : mj_T} {a0 a1 a2 a3 : Option Value} {v : Int32} : mj_E 12 25 (a0 :: a1 :: a2 :: a3 :: some (.int v) :: ls) st σ τ = mj_E 12 27 (a0 :: a1 :: a2 :: a3 :: some (.int v) :: ls) (.int v :: st) σ τ := mj_nx i12_25 rfl
theorem i12_27 : mj_ins 12 27 = some (.iload 2, 28) := by decide +kernel
theorem e12_27 {ls : mj_L} {st : List Value} {σ : mj_S} {τ : mj_T} {a0 a1 : Option Value} {v : Int32} : mj_E 12 27 (a0 :: a1 :: some (.int v) :: ls) st σ τ = mj_E 12 28 (a0 :: a1 :: some (.int v) :: ls) (.int v :: st) σ τ := mj_nx i12_27 rfl
theorem i12_28 : mj_ins 12 28 = some (.iastore, 29) := by decide +kernel
theorem e12_28 {ls : mj_L} {st : List Value} {σ : mj_S} {τ : mj_T} {x v : Int32} {k : Nat} : mj_E 12 28 ls (.int v :: .int x :: .ref k :: st) σ τ = if mj_ib (mj_lw k) x = true then mj_E 12 29 ls st (mj_up σ k x.toNatClampNeg v) τ else none := mj_ast i12_28
theorem i12_29 : mj_ins 12 29 = some (.aload 0, 30) := by decide +kernel
theorem e12_29 {ls : mj_L} {st : List Value} {σ : mj_S} {τ : mj_T} {v : Nat} : mj_E 12 29 (some (.ref v) :: ls) st σ τ = mj_E 12 30 (some (.ref v) :: ls) (.ref v :: st) σ τ := mj_nx i12_29 rfl
theorem i12_30 : mj_ins 12 30 = some (.getfield 113, 33) := by decide +kernel
theorem e12_30 {ls : mj_L} {st : List Value} {σ : mj_S} {τ : mj_T} {k : Nat} (h1 : 1 ≤ k) (h2 : k ≤ 3) : mj_E 12 30 ls (.ref k :: st) σ τ = mj_E 12 33 ls (.ref (10 * k + 8) :: st) σ τ := (mj_gf i12_30).trans (congrArg (fun z => mj_ov z _) (fv1_13 h1 h2))
theorem i12_33 : mj_ins 12 33 = some (.iload 4, 35) := by decide +kernel
theorem e12_33 {ls : mj_L} {st : List Value} {σ : mj_S} {τ : mj_T} {a0 a1 a2 a3 : Option Value} {v : Int32} : mj_E 12 33 (a0 :: a1 :: a2 :: a3 :: some (.int v) :: ls) st σ τ = mj_E 12 35 (a0 :: a1 :: a2 :: a3 :: some (.int v) :: ls) (.int v :: st) σ τ := mj_nx i12_33 rfl
theorem i12_35 : mj_ins 12 35 = some (.iload 3, 36) := by decide +kernel
theorem e12_35 {ls : mj_L} {st : List Value} {σ : mj_S} {τ : mj_T} {a0 a1 a2 : Option Value} {v : Int32} : mj_E 12 35 (a0 :: a1 :: a2 :: some (.int v) :: ls) st σ τ = mj_E 12 36 (a0 :: a1 :: a2 :: some (.int v) :: ls) (.int v :: st) σ τ := mj_nx i12_35 rfl
theorem i12_36 : mj_ins 12 36 = some (.iastore, 37) := by decide +kernel
theorem e12_36 {ls : mj_L} {st : List Value} {σ : mj_S} {τ : mj_T} {x v : Int32} {k : Nat} : mj_E 12 36 ls (.int v :: .int x :: .ref k :: st) σ τ = if mj_ib (mj_lw k) x = true then mj_E 12 37 ls st (mj_up σ k x.toNatClampNeg v) τ else none := mj_ast i12_36
theorem i12_37 : mj_ins 12 37 = some (.iload 4, 39) := by decide +kernel
theorem e12_37 {ls : mj_L} {st : List Value} {σ : mj_S} {τ : mj_T} {a0 a1 a2 a3 : Option Value} {v : Int32} : mj_E 12 37 (a0 :: a1 :: a2 :: a3 :: some (.int v) :: ls) st σ τ = mj_E 12 39 (a0 :: a1 :: a2 :: a3 :: some (.int v) :: ls) (.int v :: st) σ τ := mj_nx i12_37 rfl
theorem i12_39 : mj_ins 12 39 = some (.ireturn, 40) := by decide +kernel
theorem e12_39 {ls : mj_L} {σ : mj_S} {τ : mj_T} {v : Int32} : mj_E 12 39 ls [.int v] σ τ = some (some (.int v), σ, τ) := mj_irt i12_39 rfl
theorem c13 {σ : mj_S} {τ : mj_T} {r : Nat} {x0 : Int32} : mj_C 13 [.ref r, .int x0] σ τ = mj_E 13 0 [some (.ref r), some (.int x0)] [] σ τ := rfl
theorem i13_0 : mj_ins 13 0 = some (.aload 0, 1) := by decide +kernel
theorem e13_0 {ls : mj_L} {st : List Value} {σ : mj_S} {τ : mj_T} {v : Nat} : mj_E 13 0 (some (.ref v) :: ls) st σ τ = mj_E 13 1 (some (.ref v) :: ls) (.ref v :: st) σ τ := mj_nx i13_0 rfl
theorem i13_1 : mj_ins 13 1 = some (.getfield 105, 4) := by decide +kernel
theorem e13_1 {ls : mj_L} {st : List Value} {σ : mj_S} {τ : mj_T} {k : Nat} (h1 : 1 ≤ k) (h2 : k ≤ 3) : mj_E 13 1 ls (.ref k :: st) σ τ = mj_E 13 4 ls (.ref (10 * k + 0) :: st) σ τ := (mj_gf i13_1).trans (congrArg (fun z => mj_ov z _) (fv1_5 h1 h2))
theorem i13_4 : mj_ins 13 4 = some (.iload 1, 5) := by decide +kernel
theorem e13_4 {ls : mj_L} {st : List Value} {σ : mj_S} {τ : mj_T} {a0 : Option Value} {v : Int32} : mj_E 13 4 (a0 :: some (.int v) :: ls) st σ τ = mj_E 13 5 (a0 :: some (.int v) :: ls) (.int v :: st) σ τ := mj_nx i13_4 rfl
theorem i13_5 : mj_ins 13 5 = some (.iaload, 6) := by decide +kernel
theorem e13_5 {ls : mj_L} {st : List Value} {σ : mj_S} {τ : mj_T} {x : Int32} {k : Nat} : mj_E 13 5 ls (.int x :: .ref k :: st) σ τ = if mj_ib (mj_li σ k) x = true then mj_E 13 6 ls (.int (σ k x.toNatClampNeg) :: st) σ τ else none := mj_ald i13_5
theorem i13_6 : mj_ins 13 6 = some (.iconst (4), 7) := by decide +kernel
theorem e13_6 {ls : mj_L} {st : List Value} {σ : mj_S} {τ : mj_T} : mj_E 13 6 ls st σ τ = mj_E 13 7 ls (.int (nI 4) :: st) σ τ := mj_nx i13_6 rfl
theorem i13_7 : mj_ins 13 7 = some (.if_icmp .ne 14, 10) := by decide +kernel
theorem e13_7 {ls : mj_L} {st : List Value} {σ : mj_S} {τ : mj_T} {x y : Int32} : mj_E 13 7 ls (.int y :: .int x :: st) σ τ = if x = y then mj_E 13 10 ls st σ τ else mj_E 13 14 ls st σ τ := (mj_ifi i13_7).trans (mj_cdF rfl)
theorem i13_10 : mj_ins 13 10 = some (.iconst (1), 11) := by decide +kernel
theorem e13_10 {ls : mj_L} {st : List Value} {σ : mj_S} {τ : mj_T} : mj_E 13 10 ls st σ τ = mj_E 13 11 ls (.int (nI 1) :: st) σ τ := mj_nx i13_10 rfl
theorem i13_11 : mj_ins 13 11 = some (.goto 15, 14) := by decide +kernel
theorem e13_11 {ls : mj_L} {st : List Value} {σ : mj_S} {τ : mj_T} : mj_E 13 11 ls st σ τ = mj_E 13 15 ls st σ τ := mj_nx i13_11 rfl
theorem i13_14 : mj_ins 13 14 = some (.iconst (0), 15) := by decide +kernel
theorem e13_14 {ls : mj_L} {st : List Value} {σ : mj_S} {τ : mj_T} : mj_E 13 14 ls st σ τ = mj_E 13 15 ls (.int (nI 0) :: st) σ τ := mj_nx i13_14 rfl
theorem i13_15 : mj_ins 13 15 = some (.ireturn, 16) := by decide +kernel
theorem e13_15 {ls : mj_L} {σ : mj_S} {τ : mj_T} {v : Int32} : mj_E 13 15 ls [.int v] σ τ = if mj_ok (some .boolean) v = true then some (some (.int v), σ, τ) else none := mj_zrt i13_15 rfl
theorem c14 {σ : mj_S} {τ : mj_T} {r : Nat} {x0 : Int32} {x1 : Int32} : mj_C 14 [.ref r, .int x0, .int x1] σ τ = mj_E 14 0 [some (.ref r), some (.int x0), some (.int x1)] [] σ τ := rfl
theorem i14_0 : mj_ins 14 0 = some (.aload 0, 1) := by decide +kernel
theorem e14_0 {ls : mj_L} {st : List Value} {σ : mj_S} {τ : mj_T} {v : Nat} : mj_E 14 0 (some (.ref v) :: ls) st σ τ = mj_E 14 1 (some (.ref v) :: ls) (.ref v :: st) σ τ := mj_nx i14_0 rfl
theorem i14_1 : mj_ins 14 1 = some (.getfield 113, 4) := by decide +kernel
theorem e14_1 {ls : mj_L} {st : List Value} {σ : mj_S} {τ : mj_T} {k : Nat} (h1 : 1 ≤ k) (h2 : k ≤ 3) : mj_E 14 1 ls (.ref k :: st) σ τ = mj_E 14 4 ls (.ref (10 * k + 8) :: st) σ τ := (mj_gf i14_1).trans (congrArg (fun z => mj_ov z _) (fv1_13 h1 h2))
theorem i14_4 : mj_ins 14 4 = some (.iload 1, 5) := by decide +kernel
theorem e14_4 {ls : mj_L} {st : List Value} {σ : mj_S} {τ : mj_T} {a0 : Option Value} {v : Int32} : mj_E 14 4 (a0 :: some (.int v) :: ls) st σ τ = mj_E 14 5 (a0 :: some (.int v) :: ls) (.int v :: st) σ τ := mj_nx i14_4 rfl
theorem i14_5 : mj_ins 14 5 = some (.iaload, 6) := by decide +kernel
theorem e14_5 {ls : mj_L} {st : List Value} {σ : mj_S} {τ : mj_T} {x : Int32} {k : Nat} : mj_E 14 5 ls (.int x :: .ref k :: st) σ τ = if mj_ib (mj_li σ k) x = true then mj_E 14 6 ls (.int (σ k x.toNatClampNeg) :: st) σ τ else none := mj_ald i14_5
theorem i14_6 : mj_ins 14 6 = some (.iload 2, 7) := by decide +kernel
theorem e14_6 {ls : mj_L} {st : List Value} {σ : mj_S} {τ : mj_T} {a0 a1 : Option Value} {v : Int32} : mj_E 14 6 (a0 :: a1 :: some (.int v) :: ls) st σ τ = mj_E 14 7 (a0 :: a1 :: some (.int v) :: ls) (.int v :: st) σ τ := mj_nx i14_6 rfl
theorem i14_7 : mj_ins 14 7 = some (.ishr, 8) := by decide +kernel
theorem e14_7 {ls : mj_L} {st : List Value} {σ : mj_S} {τ : mj_T} {x y : Int32} : mj_E 14 7 ls (.int y :: .int x :: st) σ τ = mj_E 14 8 ls (.int (x >>> (y &&& 31)) :: st) σ τ := mj_nx i14_7 rfl
theorem i14_8 : mj_ins 14 8 = some (.iconst (1), 9) := by decide +kernel
theorem e14_8 {ls : mj_L} {st : List Value} {σ : mj_S} {τ : mj_T} : mj_E 14 8 ls st σ τ = mj_E 14 9 ls (.int (nI 1) :: st) σ τ := mj_nx i14_8 rfl
theorem i14_9 : mj_ins 14 9 = some (.iand, 10) := by decide +kernel
theorem e14_9 {ls : mj_L} {st : List Value} {σ : mj_S} {τ : mj_T} {x y : Int32} : mj_E 14 9 ls (.int y :: .int x :: st) σ τ = mj_E 14 10 ls (.int (x &&& y) :: st) σ τ := mj_nx i14_9 rfl
theorem i14_10 : mj_ins 14 10 = some (.iconst (1), 11) := by decide +kernel
theorem e14_10 {ls : mj_L} {st : List Value} {σ : mj_S} {τ : mj_T} : mj_E 14 10 ls st σ τ = mj_E 14 11 ls (.int (nI 1) :: st) σ τ := mj_nx i14_10 rfl
theorem i14_11 : mj_ins 14 11 = some (.if_icmp .ne 18, 14) := by decide +kernel
theorem e14_11 {ls : mj_L} {st : List Value} {σ : mj_S} {τ : mj_T} {x y : Int32} : mj_E 14 11 ls (.int y :: .int x :: st) σ τ = if x = y then mj_E 14 14 ls st σ τ else mj_E 14 18 ls st σ τ := (mj_ifi i14_11).trans (mj_cdF rfl)
theorem i14_14 : mj_ins 14 14 = some (.iconst (1), 15) := by decide +kernel
theorem e14_14 {ls : mj_L} {st : List Value} {σ : mj_S} {τ : mj_T} : mj_E 14 14 ls st σ τ = mj_E 14 15 ls (.int (nI 1) :: st) σ τ := mj_nx i14_14 rfl
theorem i14_15 : mj_ins 14 15 = some (.goto 19, 18) := by decide +kernel
theorem e14_15 {ls : mj_L} {st : List Value} {σ : mj_S} {τ : mj_T} : mj_E 14 15 ls st σ τ = mj_E 14 19 ls st σ τ := mj_nx i14_15 rfl
theorem i14_18 : mj_ins 14 18 = some (.iconst (0), 19) := by decide +kernel
theorem e14_18 {ls : mj_L} {st : List Value} {σ : mj_S} {τ : mj_T} : mj_E 14 18 ls st σ τ = mj_E 14 19 ls (.int (nI 0) :: st) σ τ := mj_nx i14_18 rfl
theorem i14_19 : mj_ins 14 19 = some (.ireturn, 20) := by decide +kernel
theorem e14_19 {ls : mj_L} {σ : mj_S} {τ : mj_T} {v : Int32} : mj_E 14 19 ls [.int v] σ τ = if mj_ok (some .boolean) v = true then some (some (.int v), σ, τ) else none := mj_zrt i14_19 rfl
theorem c15 {σ : mj_S} {τ : mj_T} {r : Nat} {x0 : Int32} : mj_C 15 [.ref r, .int x0] σ τ = mj_E 15 0 [some (.ref r), some (.int x0)] [] σ τ := rfl
theorem i15_0 : mj_ins 15 0 = some (.aload 0, 1) := by decide +kernel
theorem e15_0 {ls : mj_L} {st : List Value} {σ : mj_S} {τ : mj_T} {v : Nat} : mj_E 15 0 (some (.ref v) :: ls) st σ τ = mj_E 15 1 (some (.ref v) :: ls) (.ref v :: st) σ τ := mj_nx i15_0 rfl
theorem i15_1 : mj_ins 15 1 = some (.getfield 107, 4) := by decide +kernel
theorem e15_1 {ls : mj_L} {st : List Value} {σ : mj_S} {τ : mj_T} {k : Nat} (h1 : 1 ≤ k) (h2 : k ≤ 3) : mj_E 15 1 ls (.ref k :: st) σ τ = mj_E 15 4 ls (.ref (10 * k + 2) :: st) σ τ := (mj_gf i15_1).trans (congrArg (fun z => mj_ov z _) (fv1_7 h1 h2))
theorem i15_4 : mj_ins 15 4 = some (.iload 1, 5) := by decide +kernel
theorem e15_4 {ls : mj_L} {st : List Value} {σ : mj_S} {τ : mj_T} {a0 : Option Value} {v : Int32} : mj_E 15 4 (a0 :: some (.int v) :: ls) st σ τ = mj_E 15 5 (a0 :: some (.int v) :: ls) (.int v :: st) σ τ := mj_nx i15_4 rfl
theorem i15_5 : mj_ins 15 5 = some (.iaload, 6) := by decide +kernel
theorem e15_5 {ls : mj_L} {st : List Value} {σ : mj_S} {τ : mj_T} {x : Int32} {k : Nat} : mj_E 15 5 ls (.int x :: .ref k :: st) σ τ = if mj_ib (mj_li σ k) x = true then mj_E 15 6 ls (.int (σ k x.toNatClampNeg) :: st) σ τ else none := mj_ald i15_5
theorem i15_6 : mj_ins 15 6 = some (.iconst (5), 7) := by decide +kernel
theorem e15_6 {ls : mj_L} {st : List Value} {σ : mj_S} {τ : mj_T} : mj_E 15 6 ls st σ τ = mj_E 15 7 ls (.int (nI 5) :: st) σ τ := mj_nx i15_6 rfl
theorem i15_7 : mj_ins 15 7 = some (.idiv, 8) := by decide +kernel
theorem e15_7 {ls : mj_L} {st : List Value} {σ : mj_S} {τ : mj_T} {x y : Int32} : mj_E 15 7 ls (.int y :: .int x :: st) σ τ = if y = 0 then none else mj_E 15 8 ls (.int (x / y) :: st) σ τ := mj_div i15_7
theorem i15_8 : mj_ins 15 8 = some (.ireturn, 9) := by decide +kernel
theorem e15_8 {ls : mj_L} {σ : mj_S} {τ : mj_T} {v : Int32} : mj_E 15 8 ls [.int v] σ τ = some (some (.int v), σ, τ) := mj_irt i15_8 rfl
theorem c16 {σ : mj_S} {τ : mj_T} {r : Nat} {x0 : Int32} : mj_C 16 [.ref r, .int x0] σ τ = mj_E 16 0 [some (.ref r), some (.int x0)] [] σ τ := rfl
theorem i16_0 : mj_ins 16 0 = some (.aload 0, 1) := by decide +kernel
theorem e16_0 {ls : mj_L} {st : List Value} {σ : mj_S} {τ : mj_T} {v : Nat} : mj_E 16 0 (some (.ref v) :: ls) st σ τ = mj_E 16 1 (some (.ref v) :: ls) (.ref v :: st) σ τ := mj_nx i16_0 rfl
theorem i16_1 : mj_ins 16 1 = some (.getfield 107, 4) := by decide +kernel
theorem e16_1 {ls : mj_L} {st : List Value} {σ : mj_S} {τ : mj_T} {k : Nat} (h1 : 1 ≤ k) (h2 : k ≤ 3) : mj_E 16 1 ls (.ref k :: st) σ τ = mj_E 16 4 ls (.ref (10 * k + 2) :: st) σ τ := (mj_gf i16_1).trans (congrArg (fun z => mj_ov z _) (fv1_7 h1 h2))
theorem i16_4 : mj_ins 16 4 = some (.iload 1, 5) := by decide +kernel
theorem e16_4 {ls : mj_L} {st : List Value} {σ : mj_S} {τ : mj_T} {a0 : Option Value} {v : Int32} : mj_E 16 4 (a0 :: some (.int v) :: ls) st σ τ = mj_E 16 5 (a0 :: some (.int v) :: ls) (.int v :: st) σ τ := mj_nx i16_4 rfl
theorem i16_5 : mj_ins 16 5 = some (.iaload, 6) := by decide +kernel
theorem e16_5 {ls : mj_L} {st : List Value} {σ : mj_S} {τ : mj_T} {x : Int32} {k : Nat} : mj_E 16 5 ls (.int x :: .ref k :: st) σ τ = if mj_ib (mj_li σ k) x = true then mj_E 16 6 ls (.int (σ k x.toNatClampNeg) :: st) σ τ else none := mj_ald i16_5
theorem i16_6 : mj_ins 16 6 = some (.iconst (3), 7) := by decide +kernel
theorem e16_6 {ls : mj_L} {st : List Value} {σ : mj_S} {τ : mj_T} : mj_E 16 6 ls st σ τ = mj_E 16 7 ls (.int (nI 3) :: st) σ τ := mj_nx i16_6 rfl
theorem i16_7 : mj_ins 16 7 = some (.idiv, 8) := by decide +kernel
theorem e16_7 {ls : mj_L} {st : List Value} {σ : mj_S} {τ : mj_T} {x y : Int32} : mj_E 16 7 ls (.int y :: .int x :: st) σ τ = if y = 0 then none else mj_E 16 8 ls (.int (x / y) :: st) σ τ := mj_div i16_7
theorem i16_8 : mj_ins 16 8 = some (.ireturn, 9) := by decide +kernel
theorem e16_8 {ls : mj_L} {σ : mj_S} {τ : mj_T} {v : Int32} : mj_E 16 8 ls [.int v] σ τ = some (some (.int v), σ, τ) := mj_irt i16_8 rfl
theorem c17 {σ : mj_S} {τ : mj_T} {r : Nat} {x0 : Int32} : mj_C 17 [.ref r, .int x0] σ τ = mj_E 17 0 [some (.ref r), some (.int x0), none, none] [] σ τ := rfl
theorem i17_0 : mj_ins 17 0 = some (.iconst (0), 1) := by decide +kernel
theorem e17_0 {ls : mj_L} {st : List Value} {σ : mj_S} {τ : mj_T} : mj_E 17 0 ls st σ τ = mj_E 17 1 ls (.int (nI 0) :: st) σ τ := mj_nx i17_0 rfl
theorem i17_1 : mj_ins 17 1 = some (.istore 2, 2) := by decide +kernel
theorem e17_1 {ls : mj_L} {st : List Value} {σ : mj_S} {τ : mj_T} {a0 a1 a2 : Option Value} {v : Int32} : mj_E 17 1 (a0 :: a1 :: a2 :: ls) (.int v :: st) σ τ = mj_E 17 2 (a0 :: a1 :: some (.int v) :: ls) st σ τ := mj_nx i17_1 rfl
theorem i17_2 : mj_ins 17 2 = some (.iconst (0), 3) := by decide +kernel
theorem e17_2 {ls : mj_L} {st : List Value} {σ : mj_S} {τ : mj_T} : mj_E 17 2 ls st σ τ = mj_E 17 3 ls (.int (nI 0) :: st) σ τ := mj_nx i17_2 rfl
theorem i17_3 : mj_ins 17 3 = some (.istore 3, 4) := by decide +kernel
theorem e17_3 {ls : mj_L} {st : List Value} {σ : mj_S} {τ : mj_T} {a0 a1 a2 a3 : Option Value} {v : Int32} : mj_E 17 3 (a0 :: a1 :: a2 :: a3 :: ls) (.int v :: st) σ τ = mj_E 17 4 (a0 :: a1 :: a2 :: some (.int v) :: ls) st σ τ := mj_nx i17_3 rfl
theorem i17_4 : mj_ins 17 4 = some (.iload 3, 5) := by decide +kernel
theorem e17_4 {ls : mj_L} {st : List Value} {σ : mj_S} {τ : mj_T} {a0 a1 a2 : Option Value} {v : Int32} : mj_E 17 4 (a0 :: a1 :: a2 :: some (.int v) :: ls) st σ τ = mj_E 17 5 (a0 :: a1 :: a2 :: some (.int v) :: ls) (.int v :: st) σ τ := mj_nx i17_4 rfl
theorem i17_5 : mj_ins 17 5 = some (.aload 0, 6) := by decide +kernel
theorem e17_5 {ls : mj_L} {st : List Value} {σ : mj_S} {τ : mj_T} {v : Nat} : mj_E 17 5 (some (.ref v) :: ls) st σ τ = mj_E 17 6 (some (.ref v) :: ls) (.ref v :: st) σ τ := mj_nx i17_5 rfl
theorem i17_6 : mj_ins 17 6 = some (.getfield 101, 9) := by decide +kernel
theorem e17_6 {ls : mj_L} {st : List Value} {σ : mj_S} {τ : mj_T} {k : Nat} (h1 : 1 ≤ k) (h2 : k ≤ 3) : mj_E 17 6 ls (.ref k :: st) σ τ = mj_E 17 9 ls (.int (σ k 1) :: st) σ τ := (mj_gf i17_6).trans (congrArg (fun z => mj_ov z _) (fv1_1 h1 h2))
theorem i17_9 : mj_ins 17 9 = some (.if_icmp .ge 35, 12) := by decide +kernel
theorem e17_9 {ls : mj_L} {st : List Value} {σ : mj_S} {τ : mj_T} {x y : Int32} : mj_E 17 9 ls (.int y :: .int x :: st) σ τ = if y ≤ x then mj_E 17 35 ls st σ τ else mj_E 17 12 ls st σ τ := (mj_ifi i17_9).trans (mj_cdT rfl)
theorem i17_12 : mj_ins 17 12 = some (.iload 2, 13) := by decide +kernel
theorem e17_12 {ls : mj_L} {st : List Value} {σ : mj_S} {τ : mj_T} {a0 a1 : Option Value} {v : Int32} : mj_E 17 12 (a0 :: a1 :: some (.int v) :: ls) st σ τ = mj_E 17 13 (a0 :: a1 :: some (.int v) :: ls) (.int v :: st) σ τ := mj_nx i17_12 rfl
theorem i17_13 : mj_ins 17 13 = some (.aload 0, 14) := by decide +kernel
theorem e17_13 {ls : mj_L} {st : List Value} {σ : mj_S} {τ : mj_T} {v : Nat} : mj_E 17 13 (some (.ref v) :: ls) st σ τ = mj_E 17 14 (some (.ref v) :: ls) (.ref v :: st) σ τ := mj_nx i17_13 rfl
theorem i17_14 : mj_ins 17 14 = some (.iload 3, 15) := by decide +kernel
theorem e17_14 {ls : mj_L} {st : List Value} {σ : mj_S} {τ : mj_T} {a0 a1 a2 : Option Value} {v : Int32} : mj_E 17 14 (a0 :: a1 :: a2 :: some (.int v) :: ls) st σ τ = mj_E 17 15 (a0 :: a1 :: a2 :: some (.int v) :: ls) (.int v :: st) σ τ := mj_nx i17_14 rfl
theorem i17_15 : mj_ins 17 15 = some (.iload 1, 16) := by decide +kernel
theorem e17_15 {ls : mj_L} {st : List Value} {σ : mj_S} {τ : mj_T} {a0 : Option Value} {v : Int32} : mj_E 17 15 (a0 :: some (.int v) :: ls) st σ τ = mj_E 17 16 (a0 :: some (.int v) :: ls) (.int v :: st) σ τ := mj_nx i17_15 rfl
theorem i17_16 : mj_ins 17 16 = some (.invokevirtual 14, 19) := by decide +kernel
theorem e17_16 {ls : mj_L} {σ : mj_S} {τ : mj_T} {r : Nat} {x0 : Int32} {x1 : Int32} {w0 : Value} : mj_E 17 16 ls [.int x1, .int x0, .ref r, w0] σ τ = if mj_rcv r 1 = true then mj_bd (mj_C 14 [.ref r, .int x0, .int x1] σ τ) (mj_K 17 19 ls [w0]) else none := mj_clV (as := [.int x0, .int x1]) (r := [w0]) i17_16 (by decide +kernel : mj_vk 17 14 2 1 3 false = true) (by decide +kernel)
theorem i17_19 : mj_ins 17 19 = some (.ifCond .eq 26, 22) := by decide +kernel
theorem e17_19 {ls : mj_L} {st : List Value} {σ : mj_S} {τ : mj_T} {x : Int32} : mj_E 17 19 ls (.int x :: st) σ τ = if x = 0 then mj_E 17 26 ls st σ τ else mj_E 17 22 ls st σ τ := (mj_ifc i17_19).trans (mj_cdT rfl)
theorem i17_22 : mj_ins 17 22 = some (.iconst (1), 23) := by decide +kernel
theorem e17_22 {ls : mj_L} {st : List Value} {σ : mj_S} {τ : mj_T} : mj_E 17 22 ls st σ τ = mj_E 17 23 ls (.int (nI 1) :: st) σ τ := mj_nx i17_22 rfl
theorem i17_23 : mj_ins 17 23 = some (.goto 27, 26) := by decide +kernel
theorem e17_23 {ls : mj_L} {st : List Value} {σ : mj_S} {τ : mj_T} : mj_E 17 23 ls st σ τ = mj_E 17 27 ls st σ τ := mj_nx i17_23 rfl
theorem i17_26 : mj_ins 17 26 = some (.iconst (0), 27) := by decide +kernel
theorem e17_26 {ls : mj_L} {st : List Value} {σ : mj_S} {τ : mj_T} : mj_E 17 26 ls st σ τ = mj_E 17 27 ls (.int (nI 0) :: st) σ τ := mj_nx i17_26 rfl
theorem i17_27 : mj_ins 17 27 = some (.iadd, 28) := by decide +kernel
theorem e17_27 {ls : mj_L} {st : List Value} {σ : mj_S} {τ : mj_T} {x y : Int32} : mj_E 17 27 ls (.int y :: .int x :: st) σ τ = mj_E 17 28 ls (.int (x + y) :: st) σ τ := mj_nx i17_27 rfl
theorem i17_28 : mj_ins 17 28 = some (.istore 2, 29) := by decide +kernel
theorem e17_28 {ls : mj_L} {st : List Value} {σ : mj_S} {τ : mj_T} {a0 a1 a2 : Option Value} {v : Int32} : mj_E 17 28 (a0 :: a1 :: a2 :: ls) (.int v :: st) σ τ = mj_E 17 29 (a0 :: a1 :: some (.int v) :: ls) st σ τ := mj_nx i17_28 rfl
theorem i17_29 : mj_ins 17 29 = some (.iinc 3 (1), 32) := by decide +kernel
theorem e17_29 {ls : mj_L} {st : List Value} {σ : mj_S} {τ : mj_T} {a0 a1 a2 : Option Value} {v : Int32} : mj_E 17 29 (a0 :: a1 :: a2 :: some (.int v) :: ls) st σ τ = mj_E 17 32 (a0 :: a1 :: a2 :: some (.int (v + nI 1)) :: ls) st σ τ := mj_nx i17_29 rfl
theorem i17_32 : mj_ins 17 32 = some (.goto 4, 35) := by decide +kernel
theorem e17_32 {ls : mj_L} {st : List Value} {σ : mj_S} {τ : mj_T} : mj_E 17 32 ls st σ τ = mj_E 17 4 ls st σ τ := mj_nx i17_32 rfl
theorem i17_35 : mj_ins 17 35 = some (.iload 2, 36) := by decide +kernel
theorem e17_35 {ls : mj_L} {st : List Value} {σ : mj_S} {τ : mj_T} {a0 a1 : Option Value} {v : Int32} : mj_E 17 35 (a0 :: a1 :: some (.int v) :: ls) st σ τ = mj_E 17 36 (a0 :: a1 :: some (.int v) :: ls) (.int v :: st) σ τ := mj_nx i17_35 rfl
theorem i17_36 : mj_ins 17 36 = some (.ireturn, 37) := by decide +kernel
theorem e17_36 {ls : mj_L} {σ : mj_S} {τ : mj_T} {v : Int32} : mj_E 17 36 ls [.int v] σ τ = some (some (.int v), σ, τ) := mj_irt i17_36 rfl
theorem c18 {σ : mj_S} {τ : mj_T} {r : Nat} {x0 : Int32} {x1 : Int32} : mj_C 18 [.ref r, .int x0, .int x1] σ τ = mj_E 18 0 [some (.ref r), some (.int x0), some (.int x1)] [] σ τ := rfl
theorem i18_0 : mj_ins 18 0 = some (.aload 0, 1) := by decide +kernel
theorem e18_0 {ls : mj_L} {st : List Value} {σ : mj_S} {τ : mj_T} {v : Nat} : mj_E 18 0 (some (.ref v) :: ls) st σ τ = mj_E 18 1 (some (.ref v) :: ls) (.ref v :: st) σ τ := mj_nx i18_0 rfl
theorem i18_1 : mj_ins 18 1 = some (.getfield 114, 4) := by decide +kernel
theorem e18_1 {ls : mj_L} {st : List Value} {σ : mj_S} {τ : mj_T} {k : Nat} (h1 : 1 ≤ k) (h2 : k ≤ 3) : mj_E 18 1 ls (.ref k :: st) σ τ = mj_E 18 4 ls (.ref (10 * k + 9) :: st) σ τ := (mj_gf i18_1).trans (congrArg (fun z => mj_ov z _) (fv1_14 h1 h2))
theorem i18_4 : mj_ins 18 4 = some (.iload 1, 5) := by decide +kernel
theorem e18_4 {ls : mj_L} {st : List Value} {σ : mj_S} {τ : mj_T} {a0 : Option Value} {v : Int32} : mj_E 18 4 (a0 :: some (.int v) :: ls) st σ τ = mj_E 18 5 (a0 :: some (.int v) :: ls) (.int v :: st) σ τ := mj_nx i18_4 rfl
theorem i18_5 : mj_ins 18 5 = some (.iconst (8), 7) := by decide +kernel
theorem e18_5 {ls : mj_L} {st : List Value} {σ : mj_S} {τ : mj_T} : mj_E 18 5 ls st σ τ = mj_E 18 7 ls (.int (nI 8) :: st) σ τ := mj_nx i18_5 rfl
theorem i18_7 : mj_ins 18 7 = some (.imul, 8) := by decide +kernel
theorem e18_7 {ls : mj_L} {st : List Value} {σ : mj_S} {τ : mj_T} {x y : Int32} : mj_E 18 7 ls (.int y :: .int x :: st) σ τ = mj_E 18 8 ls (.int (x * y) :: st) σ τ := mj_nx i18_7 rfl
theorem i18_8 : mj_ins 18 8 = some (.iload 2, 9) := by decide +kernel
theorem e18_8 {ls : mj_L} {st : List Value} {σ : mj_S} {τ : mj_T} {a0 a1 : Option Value} {v : Int32} : mj_E 18 8 (a0 :: a1 :: some (.int v) :: ls) st σ τ = mj_E 18 9 (a0 :: a1 :: some (.int v) :: ls) (.int v :: st) σ τ := mj_nx i18_8 rfl
theorem i18_9 : mj_ins 18 9 = some (.iadd, 10) := by decide +kernel
theorem e18_9 {ls : mj_L} {st : List Value} {σ : mj_S} {τ : mj_T} {x y : Int32} : mj_E 18 9 ls (.int y :: .int x :: st) σ τ = mj_E 18 10 ls (.int (x + y) :: st) σ τ := mj_nx i18_9 rfl
theorem i18_10 : mj_ins 18 10 = some (.iaload, 11) := by decide +kernel
theorem e18_10 {ls : mj_L} {st : List Value} {σ : mj_S} {τ : mj_T} {x : Int32} {k : Nat} : mj_E 18 10 ls (.int x :: .ref k :: st) σ τ = if mj_ib (mj_li σ k) x = true then mj_E 18 11 ls (.int (σ k x.toNatClampNeg) :: st) σ τ else none := mj_ald i18_10
theorem i18_11 : mj_ins 18 11 = some (.ireturn, 12) := by decide +kernel
theorem e18_11 {ls : mj_L} {σ : mj_S} {τ : mj_T} {v : Int32} : mj_E 18 11 ls [.int v] σ τ = some (some (.int v), σ, τ) := mj_irt i18_11 rfl
theorem c19 {σ : mj_S} {τ : mj_T} {r : Nat} {x0 : Int32} {x1 : Int32} {x2 : Int32} : mj_C 19 [.ref r, .int x0, .int x1, .int x2] σ τ = mj_E 19 0 [some (.ref r), some (.int x0), some (.int x1), some (.int x2)] [] σ τ := rfl
theorem i19_0 : mj_ins 19 0 = some (.aload 0, 1) := by decide +kernel
theorem e19_0 {ls : mj_L} {st : List Value} {σ : mj_S} {τ : mj_T} {v : Nat} : mj_E 19 0 (some (.ref v) :: ls) st σ τ = mj_E 19 1 (some (.ref v) :: ls) (.ref v :: st) σ τ := mj_nx i19_0 rfl
theorem i19_1 : mj_ins 19 1 = some (.getfield 114, 4) := by decide +kernel
theorem e19_1 {ls : mj_L} {st : List Value} {σ : mj_S} {τ : mj_T} {k : Nat} (h1 : 1 ≤ k) (h2 : k ≤ 3) : mj_E 19 1 ls (.ref k :: st) σ τ = mj_E 19 4 ls (.ref (10 * k + 9) :: st) σ τ := (mj_gf i19_1).trans (congrArg (fun z => mj_ov z _) (fv1_14 h1 h2))
theorem i19_4 : mj_ins 19 4 = some (.iload 1, 5) := by decide +kernel
theorem e19_4 {ls : mj_L} {st : List Value} {σ : mj_S} {τ : mj_T} {a0 : Option Value} {v : Int32} : mj_E 19 4 (a0 :: some (.int v) :: ls) st σ τ = mj_E 19 5 (a0 :: some (.int v) :: ls) (.int v :: st) σ τ := mj_nx i19_4 rfl
theorem i19_5 : mj_ins 19 5 = some (.iconst (8), 7) := by decide +kernel
theorem e19_5 {ls : mj_L} {st : List Value} {σ : mj_S} {τ : mj_T} : mj_E 19 5 ls st σ τ = mj_E 19 7 ls (.int (nI 8) :: st) σ τ := mj_nx i19_5 rfl
theorem i19_7 : mj_ins 19 7 = some (.imul, 8) := by decide +kernel
theorem e19_7 {ls : mj_L} {st : List Value} {σ : mj_S} {τ : mj_T} {x y : Int32} : mj_E 19 7 ls (.int y :: .int x :: st) σ τ = mj_E 19 8 ls (.int (x * y) :: st) σ τ := mj_nx i19_7 rfl
theorem i19_8 : mj_ins 19 8 = some (.iload 2, 9) := by decide +kernel
theorem e19_8 {ls : mj_L} {st : List Value} {σ : mj_S} {τ : mj_T} {a0 a1 : Option Value} {v : Int32} : mj_E 19 8 (a0 :: a1 :: some (.int v) :: ls) st σ τ = mj_E 19 9 (a0 :: a1 :: some (.int v) :: ls) (.int v :: st) σ τ := mj_nx i19_8 rfl
theorem i19_9 : mj_ins 19 9 = some (.iadd, 10) := by decide +kernel
theorem e19_9 {ls : mj_L} {st : List Value} {σ : mj_S} {τ : mj_T} {x y : Int32} : mj_E 19 9 ls (.int y :: .int x :: st) σ τ = mj_E 19 10 ls (.int (x + y) :: st) σ τ := mj_nx i19_9 rfl
theorem i19_10 : mj_ins 19 10 = some (.iconst (99), 12) := by decide +kernel
theorem e19_10 {ls : mj_L} {st : List Value} {σ : mj_S} {τ : mj_T} : mj_E 19 10 ls st σ τ = mj_E 19 12 ls (.int (nI 99) :: st) σ τ := mj_nx i19_10 rfl
theorem i19_12 : mj_ins 19 12 = some (.aload 0, 13) := by decide +kernel
theorem e19_12 {ls : mj_L} {st : List Value} {σ : mj_S} {τ : mj_T} {v : Nat} : mj_E 19 12 (some (.ref v) :: ls) st σ τ = mj_E 19 13 (some (.ref v) :: ls) (.ref v :: st) σ τ := mj_nx i19_12 rfl
theorem i19_13 : mj_ins 19 13 = some (.iload 1, 14) := by decide +kernel
theorem e19_13 {ls : mj_L} {st : List Value} {σ : mj_S} {τ : mj_T} {a0 : Option Value} {v : Int32} : mj_E 19 13 (a0 :: some (.int v) :: ls) st σ τ = mj_E 19 14 (a0 :: some (.int v) :: ls) (.int v :: st) σ τ := mj_nx i19_13 rfl
theorem i19_14 : mj_ins 19 14 = some (.iload 2, 15) := by decide +kernel
theorem e19_14 {ls : mj_L} {st : List Value} {σ : mj_S} {τ : mj_T} {a0 a1 : Option Value} {v : Int32} : mj_E 19 14 (a0 :: a1 :: some (.int v) :: ls) st σ τ = mj_E 19 15 (a0 :: a1 :: some (.int v) :: ls) (.int v :: st) σ τ := mj_nx i19_14 rfl
theorem i19_15 : mj_ins 19 15 = some (.invokevirtual 18, 18) := by decide +kernel
theorem e19_15 {ls : mj_L} {σ : mj_S} {τ : mj_T} {r : Nat} {x0 : Int32} {x1 : Int32} {w0 w1 w2 : Value} : mj_E 19 15 ls [.int x1, .int x0, .ref r, w0, w1, w2] σ τ = if mj_rcv r 1 = true then mj_bd (mj_C 18 [.ref r, .int x0, .int x1] σ τ) (mj_K 19 18 ls [w0, w1, w2]) else none := mj_clV (as := [.int x0, .int x1]) (r := [w0, w1, w2]) i19_15 (by decide +kernel : mj_vk 19 18 2 3 3 false = true) (by decide +kernel)
theorem i19_18 : mj_ins 19 18 = some (.iload 3, 19) := by decide +kernel
theorem e19_18 {ls : mj_L} {st : List Value} {σ : mj_S} {τ : mj_T} {a0 a1 a2 : Option Value} {v : Int32} : mj_E 19 18 (a0 :: a1 :: a2 :: some (.int v) :: ls) st σ τ = mj_E 19 19 (a0 :: a1 :: a2 :: some (.int v) :: ls) (.int v :: st) σ τ := mj_nx i19_18 rfl
theorem i19_19 : mj_ins 19 19 = some (.iadd, 20) := by decide +kernel
theorem e19_19 {ls : mj_L} {st : List Value} {σ : mj_S} {τ : mj_T} {x y : Int32} : mj_E 19 19 ls (.int y :: .int x :: st) σ τ = mj_E 19 20 ls (.int (x + y) :: st) σ τ := mj_nx i19_19 rfl
theorem i19_20 : mj_ins 19 20 = some (.invokedynamic 3, 23) := by decide +kernel
theorem e19_20 {ls : mj_L} {σ : mj_S} {τ : mj_T} {x y : Int32} {w0 w1 : Value} : mj_E 19 20 ls (.int y :: .int x :: w0 :: w1 :: []) σ τ = mj_E 19 23 ls (.int (if y < x then y else x) :: w0 :: w1 :: []) σ τ := mj_nx i19_20 rfl
theorem i19_23 : mj_ins 19 23 = some (.iastore, 24) := by decide +kernel
theorem e19_23 {ls : mj_L} {st : List Value} {σ : mj_S} {τ : mj_T} {x v : Int32} {k : Nat} : mj_E 19 23 ls (.int v :: .int x :: .ref k :: st) σ τ = if mj_ib (mj_lw k) x = true then mj_E 19 24 ls st (mj_up σ k x.toNatClampNeg v) τ else none := mj_ast i19_23
theorem i19_24 : mj_ins 19 24 = some (.return_, 25) := by decide +kernel
theorem e19_24 {ls : mj_L} {σ : mj_S} {τ : mj_T} : mj_E 19 24 ls [] σ τ = some (none, σ, τ) := mj_vrt i19_24 rfl
theorem c20 {σ : mj_S} {τ : mj_T} {r : Nat} {x0 : Int32} {x1 : Int32} {x2 : Int32} : mj_C 20 [.ref r, .int x0, .int x1, .int x2] σ τ = mj_E 20 0 [some (.ref r), some (.int x0), some (.int x1), some (.int x2)] [] σ τ := rfl
theorem i20_0 : mj_ins 20 0 = some (.aload 0, 1) := by decide +kernel
theorem e20_0 {ls : mj_L} {st : List Value} {σ : mj_S} {τ : mj_T} {v : Nat} : mj_E 20 0 (some (.ref v) :: ls) st σ τ = mj_E 20 1 (some (.ref v) :: ls) (.ref v :: st) σ τ := mj_nx i20_0 rfl
theorem i20_1 : mj_ins 20 1 = some (.iload 1, 2) := by decide +kernel
theorem e20_1 {ls : mj_L} {st : List Value} {σ : mj_S} {τ : mj_T} {a0 : Option Value} {v : Int32} : mj_E 20 1 (a0 :: some (.int v) :: ls) st σ τ = mj_E 20 2 (a0 :: some (.int v) :: ls) (.int v :: st) σ τ := mj_nx i20_1 rfl
theorem i20_2 : mj_ins 20 2 = some (.iload 2, 3) := by decide +kernel
theorem e20_2 {ls : mj_L} {st : List Value} {σ : mj_S} {τ : mj_T} {a0 a1 : Option Value} {v : Int32} : mj_E 20 2 (a0 :: a1 :: some (.int v) :: ls) st σ τ = mj_E 20 3 (a0 :: a1 :: some (.int v) :: ls) (.int v :: st) σ τ := mj_nx i20_2 rfl
theorem i20_3 : mj_ins 20 3 = some (.iload 3, 4) := by decide +kernel
theorem e20_3 {ls : mj_L} {st : List Value} {σ : mj_S} {τ : mj_T} {a0 a1 a2 : Option Value} {v : Int32} : mj_E 20 3 (a0 :: a1 :: a2 :: some (.int v) :: ls) st σ τ = mj_E 20 4 (a0 :: a1 :: a2 :: some (.int v) :: ls) (.int v :: st) σ τ := mj_nx i20_3 rfl
theorem i20_4 : mj_ins 20 4 = some (.aload 0, 5) := by decide +kernel
theorem e20_4 {ls : mj_L} {st : List Value} {σ : mj_S} {τ : mj_T} {v : Nat} : mj_E 20 4 (some (.ref v) :: ls) st σ τ = mj_E 20 5 (some (.ref v) :: ls) (.ref v :: st) σ τ := mj_nx i20_4 rfl
theorem i20_5 : mj_ins 20 5 = some (.getfield 111, 8) := by decide +kernel
theorem e20_5 {ls : mj_L} {st : List Value} {σ : mj_S} {τ : mj_T} {k : Nat} (h1 : 1 ≤ k) (h2 : k ≤ 3) : mj_E 20 5 ls (.ref k :: st) σ τ = mj_E 20 8 ls (.ref (10 * k + 6) :: st) σ τ := (mj_gf i20_5).trans (congrArg (fun z => mj_ov z _) (fv1_11 h1 h2))
theorem i20_8 : mj_ins 20 8 = some (.iload 1, 9) := by decide +kernel
theorem e20_8 {ls : mj_L} {st : List Value} {σ : mj_S} {τ : mj_T} {a0 : Option Value} {v : Int32} : mj_E 20 8 (a0 :: some (.int v) :: ls) st σ τ = mj_E 20 9 (a0 :: some (.int v) :: ls) (.int v :: st) σ τ := mj_nx i20_8 rfl
theorem i20_9 : mj_ins 20 9 = some (.iaload, 10) := by decide +kernel
theorem e20_9 {ls : mj_L} {st : List Value} {σ : mj_S} {τ : mj_T} {x : Int32} {k : Nat} : mj_E 20 9 ls (.int x :: .ref k :: st) σ τ = if mj_ib (mj_li σ k) x = true then mj_E 20 10 ls (.int (σ k x.toNatClampNeg) :: st) σ τ else none := mj_ald i20_9
theorem i20_10 : mj_ins 20 10 = some (.imul, 11) := by decide +kernel
theorem e20_10 {ls : mj_L} {st : List Value} {σ : mj_S} {τ : mj_T} {x y : Int32} : mj_E 20 10 ls (.int y :: .int x :: st) σ τ = mj_E 20 11 ls (.int (x * y) :: st) σ τ := mj_nx i20_10 rfl
theorem i20_11 : mj_ins 20 11 = some (.invokevirtual 19, 14) := by decide +kernel
theorem e20_11 {ls : mj_L} {σ : mj_S} {τ : mj_T} {r : Nat} {x0 : Int32} {x1 : Int32} {x2 : Int32} : mj_E 20 11 ls [.int x2, .int x1, .int x0, .ref r] σ τ = if mj_rcv r 1 = true then mj_bd (mj_C 19 [.ref r, .int x0, .int x1, .int x2] σ τ) (mj_K 20 14 ls []) else none := mj_clV (as := [.int x0, .int x1, .int x2]) (r := []) i20_11 (by decide +kernel : mj_vk 20 19 3 0 4 false = true) (by decide +kernel)
theorem i20_14 : mj_ins 20 14 = some (.return_, 15) := by decide +kernel
theorem e20_14 {ls : mj_L} {σ : mj_S} {τ : mj_T} : mj_E 20 14 ls [] σ τ = some (none, σ, τ) := mj_vrt i20_14 rfl
theorem c21 {σ : mj_S} {τ : mj_T} {r : Nat} {x0 : Int32} {x1 : Int32} : mj_C 21 [.ref r, .int x0, .int x1] σ τ = mj_E 21 0 [some (.ref r), some (.int x0), some (.int x1)] [] σ τ := rfl
theorem i21_0 : mj_ins 21 0 = some (.aload 0, 1) := by decide +kernel
theorem e21_0 {ls : mj_L} {st : List Value} {σ : mj_S} {τ : mj_T} {v : Nat} : mj_E 21 0 (some (.ref v) :: ls) st σ τ = mj_E 21 1 (some (.ref v) :: ls) (.ref v :: st) σ τ := mj_nx i21_0 rfl
theorem i21_1 : mj_ins 21 1 = some (.iload 1, 2) := by decide +kernel
theorem e21_1 {ls : mj_L} {st : List Value} {σ : mj_S} {τ : mj_T} {a0 : Option Value} {v : Int32} : mj_E 21 1 (a0 :: some (.int v) :: ls) st σ τ = mj_E 21 2 (a0 :: some (.int v) :: ls) (.int v :: st) σ τ := mj_nx i21_1 rfl
theorem i21_2 : mj_ins 21 2 = some (.iload 2, 3) := by decide +kernel
theorem e21_2 {ls : mj_L} {st : List Value} {σ : mj_S} {τ : mj_T} {a0 a1 : Option Value} {v : Int32} : mj_E 21 2 (a0 :: a1 :: some (.int v) :: ls) st σ τ = mj_E 21 3 (a0 :: a1 :: some (.int v) :: ls) (.int v :: st) σ τ := mj_nx i21_2 rfl
theorem i21_3 : mj_ins 21 3 = some (.aload 0, 4) := by decide +kernel
theorem e21_3 {ls : mj_L} {st : List Value} {σ : mj_S} {τ : mj_T} {v : Nat} : mj_E 21 3 (some (.ref v) :: ls) st σ τ = mj_E 21 4 (some (.ref v) :: ls) (.ref v :: st) σ τ := mj_nx i21_3 rfl
theorem i21_4 : mj_ins 21 4 = some (.iload 1, 5) := by decide +kernel
theorem e21_4 {ls : mj_L} {st : List Value} {σ : mj_S} {τ : mj_T} {a0 : Option Value} {v : Int32} : mj_E 21 4 (a0 :: some (.int v) :: ls) st σ τ = mj_E 21 5 (a0 :: some (.int v) :: ls) (.int v :: st) σ τ := mj_nx i21_4 rfl
theorem i21_5 : mj_ins 21 5 = some (.iload 2, 6) := by decide +kernel
theorem e21_5 {ls : mj_L} {st : List Value} {σ : mj_S} {τ : mj_T} {a0 a1 : Option Value} {v : Int32} : mj_E 21 5 (a0 :: a1 :: some (.int v) :: ls) st σ τ = mj_E 21 6 (a0 :: a1 :: some (.int v) :: ls) (.int v :: st) σ τ := mj_nx i21_5 rfl
theorem i21_6 : mj_ins 21 6 = some (.invokevirtual 18, 9) := by decide +kernel
theorem e21_6 {ls : mj_L} {σ : mj_S} {τ : mj_T} {r : Nat} {x0 : Int32} {x1 : Int32} {w0 w1 w2 : Value} : mj_E 21 6 ls [.int x1, .int x0, .ref r, w0, w1, w2] σ τ = if mj_rcv r 1 = true then mj_bd (mj_C 18 [.ref r, .int x0, .int x1] σ τ) (mj_K 21 9 ls [w0, w1, w2]) else none := mj_clV (as := [.int x0, .int x1]) (r := [w0, w1, w2]) i21_6 (by decide +kernel : mj_vk 21 18 2 3 3 false = true) (by decide +kernel)
theorem i21_9 : mj_ins 21 9 = some (.invokevirtual 23, 12) := by decide +kernel
theorem e21_9 {ls : mj_L} {σ : mj_S} {τ : mj_T} {r : Nat} {x0 : Int32} {x1 : Int32} {x2 : Int32} : mj_E 21 9 ls [.int x2, .int x1, .int x0, .ref r] σ τ = if mj_rcv r 1 = true then mj_bd (mj_C 23 [.ref r, .int x0, .int x1, .int x2] σ τ) (mj_K 21 12 ls []) else none := mj_clV (as := [.int x0, .int x1, .int x2]) (r := []) i21_9 (by decide +kernel : mj_vk 21 23 3 0 4 false = true) (by decide +kernel)
theorem i21_12 : mj_ins 21 12 = some (.ireturn, 13) := by decide +kernel
theorem e21_12 {ls : mj_L} {σ : mj_S} {τ : mj_T} {v : Int32} : mj_E 21 12 ls [.int v] σ τ = some (some (.int v), σ, τ) := mj_irt i21_12 rfl
theorem c22 {σ : mj_S} {τ : mj_T} {r : Nat} {x0 : Int32} {x1 : Int32} {x2 : Int32} : mj_C 22 [.ref r, .int x0, .int x1, .int x2] σ τ = mj_E 22 0 [some (.ref r), some (.int x0), some (.int x1), some (.int x2), none] [] σ τ := rfl
theorem i22_0 : mj_ins 22 0 = some (.iconst (99), 2) := by decide +kernel
theorem e22_0 {ls : mj_L} {st : List Value} {σ : mj_S} {τ : mj_T} : mj_E 22 0 ls st σ τ = mj_E 22 2 ls (.int (nI 99) :: st) σ τ := mj_nx i22_0 rfl
theorem i22_2 : mj_ins 22 2 = some (.aload 0, 3) := by decide +kernel
theorem e22_2 {ls : mj_L} {st : List Value} {σ : mj_S} {τ : mj_T} {v : Nat} : mj_E 22 2 (some (.ref v) :: ls) st σ τ = mj_E 22 3 (some (.ref v) :: ls) (.ref v :: st) σ τ := mj_nx i22_2 rfl
theorem i22_3 : mj_ins 22 3 = some (.iload 1, 4) := by decide +kernel
theorem e22_3 {ls : mj_L} {st : List Value} {σ : mj_S} {τ : mj_T} {a0 : Option Value} {v : Int32} : mj_E 22 3 (a0 :: some (.int v) :: ls) st σ τ = mj_E 22 4 (a0 :: some (.int v) :: ls) (.int v :: st) σ τ := mj_nx i22_3 rfl
theorem i22_4 : mj_ins 22 4 = some (.iload 2, 5) := by decide +kernel
theorem e22_4 {ls : mj_L} {st : List Value} {σ : mj_S} {τ : mj_T} {a0 a1 : Option Value} {v : Int32} : mj_E 22 4 (a0 :: a1 :: some (.int v) :: ls) st σ τ = mj_E 22 5 (a0 :: a1 :: some (.int v) :: ls) (.int v :: st) σ τ := mj_nx i22_4 rfl
theorem i22_5 : mj_ins 22 5 = some (.invokevirtual 18, 8) := by decide +kernel
theorem e22_5 {ls : mj_L} {σ : mj_S} {τ : mj_T} {r : Nat} {x0 : Int32} {x1 : Int32} {w0 : Value} : mj_E 22 5 ls [.int x1, .int x0, .ref r, w0] σ τ = if mj_rcv r 1 = true then mj_bd (mj_C 18 [.ref r, .int x0, .int x1] σ τ) (mj_K 22 8 ls [w0]) else none := mj_clV (as := [.int x0, .int x1]) (r := [w0]) i22_5 (by decide +kernel : mj_vk 22 18 2 1 3 false = true) (by decide +kernel)
theorem i22_8 : mj_ins 22 8 = some (.iload 3, 9) := by decide +kernel
theorem e22_8 {ls : mj_L} {st : List Value} {σ : mj_S} {τ : mj_T} {a0 a1 a2 : Option Value} {v : Int32} : mj_E 22 8 (a0 :: a1 :: a2 :: some (.int v) :: ls) st σ τ = mj_E 22 9 (a0 :: a1 :: a2 :: some (.int v) :: ls) (.int v :: st) σ τ := mj_nx i22_8 rfl
theorem i22_9 : mj_ins 22 9 = some (.aload 0, 10) := by decide +kernel
theorem e22_9 {ls : mj_L} {st : List Value} {σ : mj_S} {τ : mj_T} {v : Nat} : mj_E 22 9 (some (.ref v) :: ls) st σ τ = mj_E 22 10 (some (.ref v) :: ls) (.ref v :: st) σ τ := mj_nx i22_9 rfl
theorem i22_10 : mj_ins 22 10 = some (.getfield 111, 13) := by decide +kernel
theorem e22_10 {ls : mj_L} {st : List Value} {σ : mj_S} {τ : mj_T} {k : Nat} (h1 : 1 ≤ k) (h2 : k ≤ 3) : mj_E 22 10 ls (.ref k :: st) σ τ = mj_E 22 13 ls (.ref (10 * k + 6) :: st) σ τ := (mj_gf i22_10).trans (congrArg (fun z => mj_ov z _) (fv1_11 h1 h2))
theorem i22_13 : mj_ins 22 13 = some (.iload 1, 14) := by decide +kernel
theorem e22_13 {ls : mj_L} {st : List Value} {σ : mj_S} {τ : mj_T} {a0 : Option Value} {v : Int32} : mj_E 22 13 (a0 :: some (.int v) :: ls) st σ τ = mj_E 22 14 (a0 :: some (.int v) :: ls) (.int v :: st) σ τ := mj_nx i22_13 rfl
theorem i22_14 : mj_ins 22 14 = some (.iaload, 15) := by decide +kernel
theorem e22_14 {ls : mj_L} {st : List Value} {σ : mj_S} {τ : mj_T} {x : Int32} {k : Nat} : mj_E 22 14 ls (.int x :: .ref k :: st) σ τ = if mj_ib (mj_li σ k) x = true then mj_E 22 15 ls (.int (σ k x.toNatClampNeg) :: st) σ τ else none := mj_ald i22_14
theorem i22_15 : mj_ins 22 15 = some (.imul, 16) := by decide +kernel
theorem e22_15 {ls : mj_L} {st : List Value} {σ : mj_S} {τ : mj_T} {x y : Int32} : mj_E 22 15 ls (.int y :: .int x :: st) σ τ = mj_E 22 16 ls (.int (x * y) :: st) σ τ := mj_nx i22_15 rfl
theorem i22_16 : mj_ins 22 16 = some (.iadd, 17) := by decide +kernel
theorem e22_16 {ls : mj_L} {st : List Value} {σ : mj_S} {τ : mj_T} {x y : Int32} : mj_E 22 16 ls (.int y :: .int x :: st) σ τ = mj_E 22 17 ls (.int (x + y) :: st) σ τ := mj_nx i22_16 rfl
theorem i22_17 : mj_ins 22 17 = some (.invokedynamic 3, 20) := by decide +kernel
theorem e22_17 {ls : mj_L} {σ : mj_S} {τ : mj_T} {x y : Int32} : mj_E 22 17 ls (.int y :: .int x :: []) σ τ = mj_E 22 20 ls (.int (if y < x then y else x) :: []) σ τ := mj_nx i22_17 rfl
theorem i22_20 : mj_ins 22 20 = some (.istore 4, 22) := by decide +kernel
theorem e22_20 {ls : mj_L} {st : List Value} {σ : mj_S} {τ : mj_T} {a0 a1 a2 a3 a4 : Option Value} {v : Int32} : mj_E 22 20 (a0 :: a1 :: a2 :: a3 :: a4 :: ls) (.int v :: st) σ τ = mj_E 22 22 (a0 :: a1 :: a2 :: a3 :: some (.int v) :: ls) st σ τ := mj_nx i22_20 rfl
theorem i22_22 : mj_ins 22 22 = some (.aload 0, 23) := by decide +kernel
theorem e22_22 {ls : mj_L} {st : List Value} {σ : mj_S} {τ : mj_T} {v : Nat} : mj_E 22 22 (some (.ref v) :: ls) st σ τ = mj_E 22 23 (some (.ref v) :: ls) (.ref v :: st) σ τ := mj_nx i22_22 rfl
theorem i22_23 : mj_ins 22 23 = some (.iload 1, 24) := by decide +kernel
theorem e22_23 {ls : mj_L} {st : List Value} {σ : mj_S} {τ : mj_T} {a0 : Option Value} {v : Int32} : mj_E 22 23 (a0 :: some (.int v) :: ls) st σ τ = mj_E 22 24 (a0 :: some (.int v) :: ls) (.int v :: st) σ τ := mj_nx i22_23 rfl
theorem i22_24 : mj_ins 22 24 = some (.iload 2, 25) := by decide +kernel
theorem e22_24 {ls : mj_L} {st : List Value} {σ : mj_S} {τ : mj_T} {a0 a1 : Option Value} {v : Int32} : mj_E 22 24 (a0 :: a1 :: some (.int v) :: ls) st σ τ = mj_E 22 25 (a0 :: a1 :: some (.int v) :: ls) (.int v :: st) σ τ := mj_nx i22_24 rfl
theorem i22_25 : mj_ins 22 25 = some (.iload 4, 27) := by decide +kernel
theorem e22_25 {ls : mj_L} {st : List Value} {σ : mj_S} {τ : mj_T} {a0 a1 a2 a3 : Option Value} {v : Int32} : mj_E 22 25 (a0 :: a1 :: a2 :: a3 :: some (.int v) :: ls) st σ τ = mj_E 22 27 (a0 :: a1 :: a2 :: a3 :: some (.int v) :: ls) (.int v :: st) σ τ := mj_nx i22_25 rfl
theorem i22_27 : mj_ins 22 27 = some (.invokevirtual 23, 30) := by decide +kernel
theorem e22_27 {ls : mj_L} {σ : mj_S} {τ : mj_T} {r : Nat} {x0 : Int32} {x1 : Int32} {x2 : Int32} : mj_E 22 27 ls [.int x2, .int x1, .int x0, .ref r] σ τ = if mj_rcv r 1 = true then mj_bd (mj_C 23 [.ref r, .int x0, .int x1, .int x2] σ τ) (mj_K 22 30 ls []) else none := mj_clV (as := [.int x0, .int x1, .int x2]) (r := []) i22_27 (by decide +kernel : mj_vk 22 23 3 0 4 false = true) (by decide +kernel)
theorem i22_30 : mj_ins 22 30 = some (.ireturn, 31) := by decide +kernel
theorem e22_30 {ls : mj_L} {σ : mj_S} {τ : mj_T} {v : Int32} : mj_E 22 30 ls [.int v] σ τ = some (some (.int v), σ, τ) := mj_irt i22_30 rfl
theorem c23 {σ : mj_S} {τ : mj_T} {r : Nat} {x0 : Int32} {x1 : Int32} {x2 : Int32} : mj_C 23 [.ref r, .int x0, .int x1, .int x2] σ τ = mj_E 23 0 [some (.ref r), some (.int x0), some (.int x1), some (.int x2), none, none, none, none] [] σ τ := rfl
theorem i23_0 : mj_ins 23 0 = some (.aload 0, 1) := by decide +kernel
theorem e23_0 {ls : mj_L} {st : List Value} {σ : mj_S} {τ : mj_T} {v : Nat} : mj_E 23 0 (some (.ref v) :: ls) st σ τ = mj_E 23 1 (some (.ref v) :: ls) (.ref v :: st) σ τ := mj_nx i23_0 rfl
theorem i23_1 : mj_ins 23 1 = some (.getfield 106, 4) := by decide +kernel
theorem e23_1 {ls : mj_L} {st : List Value} {σ : mj_S} {τ : mj_T} {k : Nat} (h1 : 1 ≤ k) (h2 : k ≤ 3) : mj_E 23 1 ls (.ref k :: st) σ τ = mj_E 23 4 ls (.ref (10 * k + 1) :: st) σ τ := (mj_gf i23_1).trans (congrArg (fun z => mj_ov z _) (fv1_6 h1 h2))
theorem i23_4 : mj_ins 23 4 = some (.iload 2, 5) := by decide +kernel
theorem e23_4 {ls : mj_L} {st : List Value} {σ : mj_S} {τ : mj_T} {a0 a1 : Option Value} {v : Int32} : mj_E 23 4 (a0 :: a1 :: some (.int v) :: ls) st σ τ = mj_E 23 5 (a0 :: a1 :: some (.int v) :: ls) (.int v :: st) σ τ := mj_nx i23_4 rfl
theorem i23_5 : mj_ins 23 5 = some (.iaload, 6) := by decide +kernel
theorem e23_5 {ls : mj_L} {st : List Value} {σ : mj_S} {τ : mj_T} {x : Int32} {k : Nat} : mj_E 23 5 ls (.int x :: .ref k :: st) σ τ = if mj_ib (mj_li σ k) x = true then mj_E 23 6 ls (.int (σ k x.toNatClampNeg) :: st) σ τ else none := mj_ald i23_5
theorem i23_6 : mj_ins 23 6 = some (.istore 4, 8) := by decide +kernel
theorem e23_6 {ls : mj_L} {st : List Value} {σ : mj_S} {τ : mj_T} {a0 a1 a2 a3 a4 : Option Value} {v : Int32} : mj_E 23 6 (a0 :: a1 :: a2 :: a3 :: a4 :: ls) (.int v :: st) σ τ = mj_E 23 8 (a0 :: a1 :: a2 :: a3 :: some (.int v) :: ls) st σ τ := mj_nx i23_6 rfl
theorem i23_8 : mj_ins 23 8 = some (.iload 3, 9) := by decide +kernel
theorem e23_8 {ls : mj_L} {st : List Value} {σ : mj_S} {τ : mj_T} {a0 a1 a2 : Option Value} {v : Int32} : mj_E 23 8 (a0 :: a1 :: a2 :: some (.int v) :: ls) st σ τ = mj_E 23 9 (a0 :: a1 :: a2 :: some (.int v) :: ls) (.int v :: st) σ τ := mj_nx i23_8 rfl
theorem i23_9 : mj_ins 23 9 = some (.aload 0, 10) := by decide +kernel
theorem e23_9 {ls : mj_L} {st : List Value} {σ : mj_S} {τ : mj_T} {v : Nat} : mj_E 23 9 (some (.ref v) :: ls) st σ τ = mj_E 23 10 (some (.ref v) :: ls) (.ref v :: st) σ τ := mj_nx i23_9 rfl
theorem i23_10 : mj_ins 23 10 = some (.getfield 108, 13) := by decide +kernel
theorem e23_10 {ls : mj_L} {st : List Value} {σ : mj_S} {τ : mj_T} {k : Nat} (h1 : 1 ≤ k) (h2 : k ≤ 3) : mj_E 23 10 ls (.ref k :: st) σ τ = mj_E 23 13 ls (.ref (10 * k + 3) :: st) σ τ := (mj_gf i23_10).trans (congrArg (fun z => mj_ov z _) (fv1_8 h1 h2))
theorem i23_13 : mj_ins 23 13 = some (.iload 2, 14) := by decide +kernel
theorem e23_13 {ls : mj_L} {st : List Value} {σ : mj_S} {τ : mj_T} {a0 a1 : Option Value} {v : Int32} : mj_E 23 13 (a0 :: a1 :: some (.int v) :: ls) st σ τ = mj_E 23 14 (a0 :: a1 :: some (.int v) :: ls) (.int v :: st) σ τ := mj_nx i23_13 rfl
theorem i23_14 : mj_ins 23 14 = some (.iaload, 15) := by decide +kernel
theorem e23_14 {ls : mj_L} {st : List Value} {σ : mj_S} {τ : mj_T} {x : Int32} {k : Nat} : mj_E 23 14 ls (.int x :: .ref k :: st) σ τ = if mj_ib (mj_li σ k) x = true then mj_E 23 15 ls (.int (σ k x.toNatClampNeg) :: st) σ τ else none := mj_ald i23_14
theorem i23_15 : mj_ins 23 15 = some (.aload 0, 16) := by decide +kernel
theorem e23_15 {ls : mj_L} {st : List Value} {σ : mj_S} {τ : mj_T} {v : Nat} : mj_E 23 15 (some (.ref v) :: ls) st σ τ = mj_E 23 16 (some (.ref v) :: ls) (.ref v :: st) σ τ := mj_nx i23_15 rfl
theorem i23_16 : mj_ins 23 16 = some (.getfield 110, 19) := by decide +kernel
theorem e23_16 {ls : mj_L} {st : List Value} {σ : mj_S} {τ : mj_T} {k : Nat} (h1 : 1 ≤ k) (h2 : k ≤ 3) : mj_E 23 16 ls (.ref k :: st) σ τ = mj_E 23 19 ls (.ref (10 * k + 5) :: st) σ τ := (mj_gf i23_16).trans (congrArg (fun z => mj_ov z _) (fv1_10 h1 h2))
theorem i23_19 : mj_ins 23 19 = some (.iload 1, 20) := by decide +kernel
theorem e23_19 {ls : mj_L} {st : List Value} {σ : mj_S} {τ : mj_T} {a0 : Option Value} {v : Int32} : mj_E 23 19 (a0 :: some (.int v) :: ls) st σ τ = mj_E 23 20 (a0 :: some (.int v) :: ls) (.int v :: st) σ τ := mj_nx i23_19 rfl
theorem i23_20 : mj_ins 23 20 = some (.iaload, 21) := by decide +kernel
theorem e23_20 {ls : mj_L} {st : List Value} {σ : mj_S} {τ : mj_T} {x : Int32} {k : Nat} : mj_E 23 20 ls (.int x :: .ref k :: st) σ τ = if mj_ib (mj_li σ k) x = true then mj_E 23 21 ls (.int (σ k x.toNatClampNeg) :: st) σ τ else none := mj_ald i23_20
theorem i23_21 : mj_ins 23 21 = some (.imul, 22) := by decide +kernel
theorem e23_21 {ls : mj_L} {st : List Value} {σ : mj_S} {τ : mj_T} {x y : Int32} : mj_E 23 21 ls (.int y :: .int x :: st) σ τ = mj_E 23 22 ls (.int (x * y) :: st) σ τ := mj_nx i23_21 rfl
theorem i23_22 : mj_ins 23 22 = some (.iadd, 23) := by decide +kernel
theorem e23_22 {ls : mj_L} {st : List Value} {σ : mj_S} {τ : mj_T} {x y : Int32} : mj_E 23 22 ls (.int y :: .int x :: st) σ τ = mj_E 23 23 ls (.int (x + y) :: st) σ τ := mj_nx i23_22 rfl
theorem i23_23 : mj_ins 23 23 = some (.istore 5, 25) := by decide +kernel
theorem e23_23 {ls : mj_L} {st : List Value} {σ : mj_S} {τ : mj_T} {a0 a1 a2 a3 a4 a5 : Option Value} {v : Int32} : mj_E 23 23 (a0 :: a1 :: a2 :: a3 :: a4 :: a5 :: ls) (.int v :: st) σ τ = mj_E 23 25 (a0 :: a1 :: a2 :: a3 :: a4 :: some (.int v) :: ls) st σ τ := mj_nx i23_23 rfl
theorem i23_25 : mj_ins 23 25 = some (.aload 0, 26) := by decide +kernel
theorem e23_25 {ls : mj_L} {st : List Value} {σ : mj_S} {τ : mj_T} {v : Nat} : mj_E 23 25 (some (.ref v) :: ls) st σ τ = mj_E 23 26 (some (.ref v) :: ls) (.ref v :: st) σ τ := mj_nx i23_25 rfl
theorem i23_26 : mj_ins 23 26 = some (.getfield 110, 29) := by decide +kernel
theorem e23_26 {ls : mj_L} {st : List Value} {σ : mj_S} {τ : mj_T} {k : Nat} (h1 : 1 ≤ k) (h2 : k ≤ 3) : mj_E 23 26 ls (.ref k :: st) σ τ = mj_E 23 29 ls (.ref (10 * k + 5) :: st) σ τ := (mj_gf i23_26).trans (congrArg (fun z => mj_ov z _) (fv1_10 h1 h2))
theorem i23_29 : mj_ins 23 29 = some (.iload 1, 30) := by decide +kernel
theorem e23_29 {ls : mj_L} {st : List Value} {σ : mj_S} {τ : mj_T} {a0 : Option Value} {v : Int32} : mj_E 23 29 (a0 :: some (.int v) :: ls) st σ τ = mj_E 23 30 (a0 :: some (.int v) :: ls) (.int v :: st) σ τ := mj_nx i23_29 rfl
theorem i23_30 : mj_ins 23 30 = some (.iaload, 31) := by decide +kernel
theorem e23_30 {ls : mj_L} {st : List Value} {σ : mj_S} {τ : mj_T} {x : Int32} {k : Nat} : mj_E 23 30 ls (.int x :: .ref k :: st) σ τ = if mj_ib (mj_li σ k) x = true then mj_E 23 31 ls (.int (σ k x.toNatClampNeg) :: st) σ τ else none := mj_ald i23_30
theorem i23_31 : mj_ins 23 31 = some (.aload 0, 32) := by decide +kernel
theorem e23_31 {ls : mj_L} {st : List Value} {σ : mj_S} {τ : mj_T} {v : Nat} : mj_E 23 31 (some (.ref v) :: ls) st σ τ = mj_E 23 32 (some (.ref v) :: ls) (.ref v :: st) σ τ := mj_nx i23_31 rfl
theorem i23_32 : mj_ins 23 32 = some (.getfield 111, 35) := by decide +kernel
theorem e23_32 {ls : mj_L} {st : List Value} {σ : mj_S} {τ : mj_T} {k : Nat} (h1 : 1 ≤ k) (h2 : k ≤ 3) : mj_E 23 32 ls (.ref k :: st) σ τ = mj_E 23 35 ls (.ref (10 * k + 6) :: st) σ τ := (mj_gf i23_32).trans (congrArg (fun z => mj_ov z _) (fv1_11 h1 h2))
theorem i23_35 : mj_ins 23 35 = some (.iload 1, 36) := by decide +kernel
theorem e23_35 {ls : mj_L} {st : List Value} {σ : mj_S} {τ : mj_T} {a0 : Option Value} {v : Int32} : mj_E 23 35 (a0 :: some (.int v) :: ls) st σ τ = mj_E 23 36 (a0 :: some (.int v) :: ls) (.int v :: st) σ τ := mj_nx i23_35 rfl
theorem i23_36 : mj_ins 23 36 = some (.iaload, 37) := by decide +kernel
theorem e23_36 {ls : mj_L} {st : List Value} {σ : mj_S} {τ : mj_T} {x : Int32} {k : Nat} : mj_E 23 36 ls (.int x :: .ref k :: st) σ τ = if mj_ib (mj_li σ k) x = true then mj_E 23 37 ls (.int (σ k x.toNatClampNeg) :: st) σ τ else none := mj_ald i23_36
theorem i23_37 : mj_ins 23 37 = some (.if_icmp .le 47, 40) := by decide +kernel
theorem e23_37 {ls : mj_L} {st : List Value} {σ : mj_S} {τ : mj_T} {x y : Int32} : mj_E 23 37 ls (.int y :: .int x :: st) σ τ = if x ≤ y then mj_E 23 47 ls st σ τ else mj_E 23 40 ls st σ τ := (mj_ifi i23_37).trans (mj_cdT rfl)
theorem i23_40 : mj_ins 23 40 = some (.iconst (3), 41) := by decide +kernel
theorem e23_40 {ls : mj_L} {st : List Value} {σ : mj_S} {τ : mj_T} : mj_E 23 40 ls st σ τ = mj_E 23 41 ls (.int (nI 3) :: st) σ τ := mj_nx i23_40 rfl
theorem i23_41 : mj_ins 23 41 = some (.iload 4, 43) := by decide +kernel
theorem e23_41 {ls : mj_L} {st : List Value} {σ : mj_S} {τ : mj_T} {a0 a1 a2 a3 : Option Value} {v : Int32} : mj_E 23 41 (a0 :: a1 :: a2 :: a3 :: some (.int v) :: ls) st σ τ = mj_E 23 43 (a0 :: a1 :: a2 :: a3 :: some (.int v) :: ls) (.int v :: st) σ τ := mj_nx i23_41 rfl
theorem i23_43 : mj_ins 23 43 = some (.imul, 44) := by decide +kernel
theorem e23_43 {ls : mj_L} {st : List Value} {σ : mj_S} {τ : mj_T} {x y : Int32} : mj_E 23 43 ls (.int y :: .int x :: st) σ τ = mj_E 23 44 ls (.int (x * y) :: st) σ τ := mj_nx i23_43 rfl
theorem i23_44 : mj_ins 23 44 = some (.goto 48, 47) := by decide +kernel
theorem e23_44 {ls : mj_L} {st : List Value} {σ : mj_S} {τ : mj_T} : mj_E 23 44 ls st σ τ = mj_E 23 48 ls st σ τ := mj_nx i23_44 rfl
theorem i23_47 : mj_ins 23 47 = some (.iconst (0), 48) := by decide +kernel
theorem e23_47 {ls : mj_L} {st : List Value} {σ : mj_S} {τ : mj_T} : mj_E 23 47 ls st σ τ = mj_E 23 48 ls (.int (nI 0) :: st) σ τ := mj_nx i23_47 rfl
theorem i23_48 : mj_ins 23 48 = some (.istore 6, 50) := by decide +kernel
theorem e23_48 {ls : mj_L} {st : List Value} {σ : mj_S} {τ : mj_T} {a0 a1 a2 a3 a4 a5 a6 : Option Value} {v : Int32} : mj_E 23 48 (a0 :: a1 :: a2 :: a3 :: a4 :: a5 :: a6 :: ls) (.int v :: st) σ τ = mj_E 23 50 (a0 :: a1 :: a2 :: a3 :: a4 :: a5 :: some (.int v) :: ls) st σ τ := mj_nx i23_48 rfl
theorem i23_50 : mj_ins 23 50 = some (.iload 5, 52) := by decide +kernel
theorem e23_50 {ls : mj_L} {st : List Value} {σ : mj_S} {τ : mj_T} {a0 a1 a2 a3 a4 : Option Value} {v : Int32} : mj_E 23 50 (a0 :: a1 :: a2 :: a3 :: a4 :: some (.int v) :: ls) st σ τ = mj_E 23 52 (a0 :: a1 :: a2 :: a3 :: a4 :: some (.int v) :: ls) (.int v :: st) σ τ := mj_nx i23_50 rfl
theorem i23_52 : mj_ins 23 52 = some (.iload 4, 54) := by decide +kernel
theorem e23_52 {ls : mj_L} {st : List Value} {σ : mj_S} {τ : mj_T} {a0 a1 a2 a3 : Option Value} {v : Int32} : mj_E 23 52 (a0 :: a1 :: a2 :: a3 :: some (.int v) :: ls) st σ τ = mj_E 23 54 (a0 :: a1 :: a2 :: a3 :: some (.int v) :: ls) (.int v :: st) σ τ := mj_nx i23_52 rfl
theorem i23_54 : mj_ins 23 54 = some (.iadd, 55) := by decide +kernel
theorem e23_54 {ls : mj_L} {st : List Value} {σ : mj_S} {τ : mj_T} {x y : Int32} : mj_E 23 54 ls (.int y :: .int x :: st) σ τ = mj_E 23 55 ls (.int (x + y) :: st) σ τ := mj_nx i23_54 rfl
theorem i23_55 : mj_ins 23 55 = some (.aload 0, 56) := by decide +kernel
theorem e23_55 {ls : mj_L} {st : List Value} {σ : mj_S} {τ : mj_T} {v : Nat} : mj_E 23 55 (some (.ref v) :: ls) st σ τ = mj_E 23 56 (some (.ref v) :: ls) (.ref v :: st) σ τ := mj_nx i23_55 rfl
theorem i23_56 : mj_ins 23 56 = some (.getfield 107, 59) := by decide +kernel
theorem e23_56 {ls : mj_L} {st : List Value} {σ : mj_S} {τ : mj_T} {k : Nat} (h1 : 1 ≤ k) (h2 : k ≤ 3) : mj_E 23 56 ls (.ref k :: st) σ τ = mj_E 23 59 ls (.ref (10 * k + 2) :: st) σ τ := (mj_gf i23_56).trans (congrArg (fun z => mj_ov z _) (fv1_7 h1 h2))
theorem i23_59 : mj_ins 23 59 = some (.iload 2, 60) := by decide +kernel
theorem e23_59 {ls : mj_L} {st : List Value} {σ : mj_S} {τ : mj_T} {a0 a1 : Option Value} {v : Int32} : mj_E 23 59 (a0 :: a1 :: some (.int v) :: ls) st σ τ = mj_E 23 60 (a0 :: a1 :: some (.int v) :: ls) (.int v :: st) σ τ := mj_nx i23_59 rfl
theorem i23_60 : mj_ins 23 60 = some (.iaload, 61) := by decide +kernel
theorem e23_60 {ls : mj_L} {st : List Value} {σ : mj_S} {τ : mj_T} {x : Int32} {k : Nat} : mj_E 23 60 ls (.int x :: .ref k :: st) σ τ = if mj_ib (mj_li σ k) x = true then mj_E 23 61 ls (.int (σ k x.toNatClampNeg) :: st) σ τ else none := mj_ald i23_60
theorem i23_61 : mj_ins 23 61 = some (.iconst (3), 62) := by decide +kernel
theorem e23_61 {ls : mj_L} {st : List Value} {σ : mj_S} {τ : mj_T} : mj_E 23 61 ls st σ τ = mj_E 23 62 ls (.int (nI 3) :: st) σ τ := mj_nx i23_61 rfl
theorem i23_62 : mj_ins 23 62 = some (.idiv, 63) := by decide +kernel
theorem e23_62 {ls : mj_L} {st : List Value} {σ : mj_S} {τ : mj_T} {x y : Int32} : mj_E 23 62 ls (.int y :: .int x :: st) σ τ = if y = 0 then none else mj_E 23 63 ls (.int (x / y) :: st) σ τ := mj_div i23_62
theorem i23_63 : mj_ins 23 63 = some (.iadd, 64) := by decide +kernel
theorem e23_63 {ls : mj_L} {st : List Value} {σ : mj_S} {τ : mj_T} {x y : Int32} : mj_E 23 63 ls (.int y :: .int x :: st) σ τ = mj_E 23 64 ls (.int (x + y) :: st) σ τ := mj_nx i23_63 rfl
theorem i23_64 : mj_ins 23 64 = some (.iconst (2), 65) := by decide +kernel
theorem e23_64 {ls : mj_L} {st : List Value} {σ : mj_S} {τ : mj_T} : mj_E 23 64 ls st σ τ = mj_E 23 65 ls (.int (nI 2) :: st) σ τ := mj_nx i23_64 rfl
theorem i23_65 : mj_ins 23 65 = some (.aload 0, 66) := by decide +kernel
theorem e23_65 {ls : mj_L} {st : List Value} {σ : mj_S} {τ : mj_T} {v : Nat} : mj_E 23 65 (some (.ref v) :: ls) st σ τ = mj_E 23 66 (some (.ref v) :: ls) (.ref v :: st) σ τ := mj_nx i23_65 rfl
theorem i23_66 : mj_ins 23 66 = some (.getfield 109, 69) := by decide +kernel
theorem e23_66 {ls : mj_L} {st : List Value} {σ : mj_S} {τ : mj_T} {k : Nat} (h1 : 1 ≤ k) (h2 : k ≤ 3) : mj_E 23 66 ls (.ref k :: st) σ τ = mj_E 23 69 ls (.ref (10 * k + 4) :: st) σ τ := (mj_gf i23_66).trans (congrArg (fun z => mj_ov z _) (fv1_9 h1 h2))
theorem i23_69 : mj_ins 23 69 = some (.iload 2, 70) := by decide +kernel
theorem e23_69 {ls : mj_L} {st : List Value} {σ : mj_S} {τ : mj_T} {a0 a1 : Option Value} {v : Int32} : mj_E 23 69 (a0 :: a1 :: some (.int v) :: ls) st σ τ = mj_E 23 70 (a0 :: a1 :: some (.int v) :: ls) (.int v :: st) σ τ := mj_nx i23_69 rfl
theorem i23_70 : mj_ins 23 70 = some (.iaload, 71) := by decide +kernel
theorem e23_70 {ls : mj_L} {st : List Value} {σ : mj_S} {τ : mj_T} {x : Int32} {k : Nat} : mj_E 23 70 ls (.int x :: .ref k :: st) σ τ = if mj_ib (mj_li σ k) x = true then mj_E 23 71 ls (.int (σ k x.toNatClampNeg) :: st) σ τ else none := mj_ald i23_70
theorem i23_71 : mj_ins 23 71 = some (.imul, 72) := by decide +kernel
theorem e23_71 {ls : mj_L} {st : List Value} {σ : mj_S} {τ : mj_T} {x y : Int32} : mj_E 23 71 ls (.int y :: .int x :: st) σ τ = mj_E 23 72 ls (.int (x * y) :: st) σ τ := mj_nx i23_71 rfl
theorem i23_72 : mj_ins 23 72 = some (.isub, 73) := by decide +kernel
theorem e23_72 {ls : mj_L} {st : List Value} {σ : mj_S} {τ : mj_T} {x y : Int32} : mj_E 23 72 ls (.int y :: .int x :: st) σ τ = mj_E 23 73 ls (.int (x - y) :: st) σ τ := mj_nx i23_72 rfl
theorem i23_73 : mj_ins 23 73 = some (.istore 7, 75) := by decide +kernel
theorem e23_73 {ls : mj_L} {st : List Value} {σ : mj_S} {τ : mj_T} {a0 a1 a2 a3 a4 a5 a6 a7 : Option Value} {v : Int32} : mj_E 23 73 (a0 :: a1 :: a2 :: a3 :: a4 :: a5 :: a6 :: a7 :: ls) (.int v :: st) σ τ = mj_E 23 75 (a0 :: a1 :: a2 :: a3 :: a4 :: a5 :: a6 :: some (.int v) :: ls) st σ τ := mj_nx i23_73 rfl
theorem i23_75 : mj_ins 23 75 = some (.aload 0, 76) := by decide +kernel
theorem e23_75 {ls : mj_L} {st : List Value} {σ : mj_S} {τ : mj_T} {v : Nat} : mj_E 23 75 (some (.ref v) :: ls) st σ τ = mj_E 23 76 (some (.ref v) :: ls) (.ref v :: st) σ τ := mj_nx i23_75 rfl
theorem i23_76 : mj_ins 23 76 = some (.getfield 105, 79) := by decide +kernel
theorem e23_76 {ls : mj_L} {st : List Value} {σ : mj_S} {τ : mj_T} {k : Nat} (h1 : 1 ≤ k) (h2 : k ≤ 3) : mj_E 23 76 ls (.ref k :: st) σ τ = mj_E 23 79 ls (.ref (10 * k + 0) :: st) σ τ := (mj_gf i23_76).trans (congrArg (fun z => mj_ov z _) (fv1_5 h1 h2))
theorem i23_79 : mj_ins 23 79 = some (.iload 2, 80) := by decide +kernel
theorem e23_79 {ls : mj_L} {st : List Value} {σ : mj_S} {τ : mj_T} {a0 a1 : Option Value} {v : Int32} : mj_E 23 79 (a0 :: a1 :: some (.int v) :: ls) st σ τ = mj_E 23 80 (a0 :: a1 :: some (.int v) :: ls) (.int v :: st) σ τ := mj_nx i23_79 rfl
theorem i23_80 : mj_ins 23 80 = some (.iaload, 81) := by decide +kernel
theorem e23_80 {ls : mj_L} {st : List Value} {σ : mj_S} {τ : mj_T} {x : Int32} {k : Nat} : mj_E 23 80 ls (.int x :: .ref k :: st) σ τ = if mj_ib (mj_li σ k) x = true then mj_E 23 81 ls (.int (σ k x.toNatClampNeg) :: st) σ τ else none := mj_ald i23_80
theorem i23_81 : mj_ins 23 81 = some (.tableswitch 183 (1) (6) #[120, 154, 126, 174, 160, 133], 81) := by decide +kernel
theorem e23_81 {ls : mj_L} {st : List Value} {σ : mj_S} {τ : mj_T} {x : Int32} : mj_E 23 81 ls (.int x :: st) σ τ = if x = nI 1 then mj_E 23 120 ls st σ τ else if x = nI 2 then mj_E 23 154 ls st σ τ else if x = nI 3 then mj_E 23 126 ls st σ τ else if x = nI 4 then mj_E 23 174 ls st σ τ else if x = nI 5 then mj_E 23 160 ls st σ τ else if x = nI 6 then mj_E 23 133 ls st σ τ else mj_E 23 183 ls st σ τ := mj_tsw i23_81 (by decide)
theorem i23_120 : mj_ins 23 120 = some (.iload 5, 122) := by decide +kernel
theorem e23_120 {ls : mj_L} {st : List Value} {σ : mj_S} {τ : mj_T} {a0 a1 a2 a3 a4 : Option Value} {v : Int32} : mj_E 23 120 (a0 :: a1 :: a2 :: a3 :: a4 :: some (.int v) :: ls) st σ τ = mj_E 23 122 (a0 :: a1 :: a2 :: a3 :: a4 :: some (.int v) :: ls) (.int v :: st) σ τ := mj_nx i23_120 rfl
theorem i23_122 : mj_ins 23 122 = some (.iload 4, 124) := by decide +kernel
theorem e23_122 {ls : mj_L} {st : List Value} {σ : mj_S} {τ : mj_T} {a0 a1 a2 a3 : Option Value} {v : Int32} : mj_E 23 122 (a0 :: a1 :: a2 :: a3 :: some (.int v) :: ls) st σ τ = mj_E 23 124 (a0 :: a1 :: a2 :: a3 :: some (.int v) :: ls) (.int v :: st) σ τ := mj_nx i23_122 rfl
theorem i23_124 : mj_ins 23 124 = some (.iadd, 125) := by decide +kernel
theorem e23_124 {ls : mj_L} {st : List Value} {σ : mj_S} {τ : mj_T} {x y : Int32} : mj_E 23 124 ls (.int y :: .int x :: st) σ τ = mj_E 23 125 ls (.int (x + y) :: st) σ τ := mj_nx i23_124 rfl
theorem i23_125 : mj_ins 23 125 = some (.ireturn, 126) := by decide +kernel
theorem e23_125 {ls : mj_L} {σ : mj_S} {τ : mj_T} {v : Int32} : mj_E 23 125 ls [.int v] σ τ = some (some (.int v), σ, τ) := mj_irt i23_125 rfl
theorem i23_126 : mj_ins 23 126 = some (.iconst (0), 127) := by decide +kernel
theorem e23_126 {ls : mj_L} {st : List Value} {σ : mj_S} {τ : mj_T} : mj_E 23 126 ls st σ τ = mj_E 23 127 ls (.int (nI 0) :: st) σ τ := mj_nx i23_126 rfl
theorem i23_127 : mj_ins 23 127 = some (.iload 7, 129) := by decide +kernel
theorem e23_127 {ls : mj_L} {st : List Value} {σ : mj_S} {τ : mj_T} {a0 a1 a2 a3 a4 a5 a6 : Option Value} {v : Int32} : mj_E 23 127 (a0 :: a1 :: a2 :: a3 :: a4 :: a5 :: a6 :: some (.int v) :: ls) st σ τ = mj_E 23 129 (a0 :: a1 :: a2 :: a3 :: a4 :: a5 :: a6 :: some (.int v) :: ls) (.int v :: st) σ τ := mj_nx i23_127 rfl
theorem i23_129 : mj_ins 23 129 = some (.invokedynamic 2, 132) := by decide +kernel
theorem e23_129 {ls : mj_L} {σ : mj_S} {τ : mj_T} {x y : Int32} : mj_E 23 129 ls (.int y :: .int x :: []) σ τ = mj_E 23 132 ls (.int (if x < y then y else x) :: []) σ τ := mj_nx i23_129 rfl
theorem i23_132 : mj_ins 23 132 = some (.ireturn, 133) := by decide +kernel
theorem e23_132 {ls : mj_L} {σ : mj_S} {τ : mj_T} {v : Int32} : mj_E 23 132 ls [.int v] σ τ = some (some (.int v), σ, τ) := mj_irt i23_132 rfl
theorem i23_133 : mj_ins 23 133 = some (.aload 0, 134) := by decide +kernel
theorem e23_133 {ls : mj_L} {st : List Value} {σ : mj_S} {τ : mj_T} {v : Nat} : mj_E 23 133 (some (.ref v) :: ls) st σ τ = mj_E 23 134 (some (.ref v) :: ls) (.ref v :: st) σ τ := mj_nx i23_133 rfl
theorem i23_134 : mj_ins 23 134 = some (.getfield 107, 137) := by decide +kernel
theorem e23_134 {ls : mj_L} {st : List Value} {σ : mj_S} {τ : mj_T} {k : Nat} (h1 : 1 ≤ k) (h2 : k ≤ 3) : mj_E 23 134 ls (.ref k :: st) σ τ = mj_E 23 137 ls (.ref (10 * k + 2) :: st) σ τ := (mj_gf i23_134).trans (congrArg (fun z => mj_ov z _) (fv1_7 h1 h2))
theorem i23_137 : mj_ins 23 137 = some (.iload 2, 138) := by decide +kernel
theorem e23_137 {ls : mj_L} {st : List Value} {σ : mj_S} {τ : mj_T} {a0 a1 : Option Value} {v : Int32} : mj_E 23 137 (a0 :: a1 :: some (.int v) :: ls) st σ τ = mj_E 23 138 (a0 :: a1 :: some (.int v) :: ls) (.int v :: st) σ τ := mj_nx i23_137 rfl
theorem i23_138 : mj_ins 23 138 = some (.iaload, 139) := by decide +kernel
theorem e23_138 {ls : mj_L} {st : List Value} {σ : mj_S} {τ : mj_T} {x : Int32} {k : Nat} : mj_E 23 138 ls (.int x :: .ref k :: st) σ τ = if mj_ib (mj_li σ k) x = true then mj_E 23 139 ls (.int (σ k x.toNatClampNeg) :: st) σ τ else none := mj_ald i23_138
theorem i23_139 : mj_ins 23 139 = some (.iconst (5), 140) := by decide +kernel
theorem e23_139 {ls : mj_L} {st : List Value} {σ : mj_S} {τ : mj_T} : mj_E 23 139 ls st σ τ = mj_E 23 140 ls (.int (nI 5) :: st) σ τ := mj_nx i23_139 rfl
theorem i23_140 : mj_ins 23 140 = some (.if_icmp .lt 147, 143) := by decide +kernel
theorem e23_140 {ls : mj_L} {st : List Value} {σ : mj_S} {τ : mj_T} {x y : Int32} : mj_E 23 140 ls (.int y :: .int x :: st) σ τ = if x < y then mj_E 23 147 ls st σ τ else mj_E 23 143 ls st σ τ := (mj_ifi i23_140).trans (mj_cdT rfl)
theorem i23_143 : mj_ins 23 143 = some (.iconst (0), 144) := by decide +kernel
theorem e23_143 {ls : mj_L} {st : List Value} {σ : mj_S} {τ : mj_T} : mj_E 23 143 ls st σ τ = mj_E 23 144 ls (.int (nI 0) :: st) σ τ := mj_nx i23_143 rfl
theorem i23_144 : mj_ins 23 144 = some (.goto 153, 147) := by decide +kernel
theorem e23_144 {ls : mj_L} {st : List Value} {σ : mj_S} {τ : mj_T} : mj_E 23 144 ls st σ τ = mj_E 23 153 ls st σ τ := mj_nx i23_144 rfl
theorem i23_147 : mj_ins 23 147 = some (.iconst (0), 148) := by decide +kernel
theorem e23_147 {ls : mj_L} {st : List Value} {σ : mj_S} {τ : mj_T} : mj_E 23 147 ls st σ τ = mj_E 23 148 ls (.int (nI 0) :: st) σ τ := mj_nx i23_147 rfl
theorem i23_148 : mj_ins 23 148 = some (.iload 7, 150) := by decide +kernel
theorem e23_148 {ls : mj_L} {st : List Value} {σ : mj_S} {τ : mj_T} {a0 a1 a2 a3 a4 a5 a6 : Option Value} {v : Int32} : mj_E 23 148 (a0 :: a1 :: a2 :: a3 :: a4 :: a5 :: a6 :: some (.int v) :: ls) st σ τ = mj_E 23 150 (a0 :: a1 :: a2 :: a3 :: a4 :: a5 :: a6 :: some (.int v) :: ls) (.int v :: st) σ τ := mj_nx i23_148 rfl
theorem i23_150 : mj_ins 23 150 = some (.invokedynamic 2, 153) := by decide +kernel
theorem e23_150 {ls : mj_L} {σ : mj_S} {τ : mj_T} {x y : Int32} : mj_E 23 150 ls (.int y :: .int x :: []) σ τ = mj_E 23 153 ls (.int (if x < y then y else x) :: []) σ τ := mj_nx i23_150 rfl
theorem i23_153 : mj_ins 23 153 = some (.ireturn, 154) := by decide +kernel
theorem e23_153 {ls : mj_L} {σ : mj_S} {τ : mj_T} {v : Int32} : mj_E 23 153 ls [.int v] σ τ = some (some (.int v), σ, τ) := mj_irt i23_153 rfl
theorem i23_154 : mj_ins 23 154 = some (.iload 5, 156) := by decide +kernel
theorem e23_154 {ls : mj_L} {st : List Value} {σ : mj_S} {τ : mj_T} {a0 a1 a2 a3 a4 : Option Value} {v : Int32} : mj_E 23 154 (a0 :: a1 :: a2 :: a3 :: a4 :: some (.int v) :: ls) st σ τ = mj_E 23 156 (a0 :: a1 :: a2 :: a3 :: a4 :: some (.int v) :: ls) (.int v :: st) σ τ := mj_nx i23_154 rfl
theorem i23_156 : mj_ins 23 156 = some (.iload 6, 158) := by decide +kernel
theorem e23_156 {ls : mj_L} {st : List Value} {σ : mj_S} {τ : mj_T} {a0 a1 a2 a3 a4 a5 : Option Value} {v : Int32} : mj_E 23 156 (a0 :: a1 :: a2 :: a3 :: a4 :: a5 :: some (.int v) :: ls) st σ τ = mj_E 23 158 (a0 :: a1 :: a2 :: a3 :: a4 :: a5 :: some (.int v) :: ls) (.int v :: st) σ τ := mj_nx i23_156 rfl
theorem i23_158 : mj_ins 23 158 = some (.iadd, 159) := by decide +kernel
theorem e23_158 {ls : mj_L} {st : List Value} {σ : mj_S} {τ : mj_T} {x y : Int32} : mj_E 23 158 ls (.int y :: .int x :: st) σ τ = mj_E 23 159 ls (.int (x + y) :: st) σ τ := mj_nx i23_158 rfl
theorem i23_159 : mj_ins 23 159 = some (.ireturn, 160) := by decide +kernel
theorem e23_159 {ls : mj_L} {σ : mj_S} {τ : mj_T} {v : Int32} : mj_E 23 159 ls [.int v] σ τ = some (some (.int v), σ, τ) := mj_irt i23_159 rfl
theorem i23_160 : mj_ins 23 160 = some (.iload 5, 162) := by decide +kernel
theorem e23_160 {ls : mj_L} {st : List Value} {σ : mj_S} {τ : mj_T} {a0 a1 a2 a3 a4 : Option Value} {v : Int32} : mj_E 23 160 (a0 :: a1 :: a2 :: a3 :: a4 :: some (.int v) :: ls) st σ τ = mj_E 23 162 (a0 :: a1 :: a2 :: a3 :: a4 :: some (.int v) :: ls) (.int v :: st) σ τ := mj_nx i23_160 rfl
theorem i23_162 : mj_ins 23 162 = some (.iload 6, 164) := by decide +kernel
theorem e23_162 {ls : mj_L} {st : List Value} {σ : mj_S} {τ : mj_T} {a0 a1 a2 a3 a4 a5 : Option Value} {v : Int32} : mj_E 23 162 (a0 :: a1 :: a2 :: a3 :: a4 :: a5 :: some (.int v) :: ls) st σ τ = mj_E 23 164 (a0 :: a1 :: a2 :: a3 :: a4 :: a5 :: some (.int v) :: ls) (.int v :: st) σ τ := mj_nx i23_162 rfl
theorem i23_164 : mj_ins 23 164 = some (.iadd, 165) := by decide +kernel
theorem e23_164 {ls : mj_L} {st : List Value} {σ : mj_S} {τ : mj_T} {x y : Int32} : mj_E 23 164 ls (.int y :: .int x :: st) σ τ = mj_E 23 165 ls (.int (x + y) :: st) σ τ := mj_nx i23_164 rfl
theorem i23_165 : mj_ins 23 165 = some (.aload 0, 166) := by decide +kernel
theorem e23_165 {ls : mj_L} {st : List Value} {σ : mj_S} {τ : mj_T} {v : Nat} : mj_E 23 165 (some (.ref v) :: ls) st σ τ = mj_E 23 166 (some (.ref v) :: ls) (.ref v :: st) σ τ := mj_nx i23_165 rfl
theorem i23_166 : mj_ins 23 166 = some (.getfield 102, 169) := by decide +kernel
theorem e23_166 {ls : mj_L} {st : List Value} {σ : mj_S} {τ : mj_T} {k : Nat} (h1 : 1 ≤ k) (h2 : k ≤ 3) : mj_E 23 166 ls (.ref k :: st) σ τ = mj_E 23 169 ls (.int (σ k 2) :: st) σ τ := (mj_gf i23_166).trans (congrArg (fun z => mj_ov z _) (fv1_2 h1 h2))
theorem i23_169 : mj_ins 23 169 = some (.iload 4, 171) := by decide +kernel
theorem e23_169 {ls : mj_L} {st : List Value} {σ : mj_S} {τ : mj_T} {a0 a1 a2 a3 : Option Value} {v : Int32} : mj_E 23 169 (a0 :: a1 :: a2 :: a3 :: some (.int v) :: ls) st σ τ = mj_E 23 171 (a0 :: a1 :: a2 :: a3 :: some (.int v) :: ls) (.int v :: st) σ τ := mj_nx i23_169 rfl
theorem i23_171 : mj_ins 23 171 = some (.imul, 172) := by decide +kernel
theorem e23_171 {ls : mj_L} {st : List Value} {σ : mj_S} {τ : mj_T} {x y : Int32} : mj_E 23 171 ls (.int y :: .int x :: st) σ τ = mj_E 23 172 ls (.int (x * y) :: st) σ τ := mj_nx i23_171 rfl
theorem i23_172 : mj_ins 23 172 = some (.iadd, 173) := by decide +kernel
theorem e23_172 {ls : mj_L} {st : List Value} {σ : mj_S} {τ : mj_T} {x y : Int32} : mj_E 23 172 ls (.int y :: .int x :: st) σ τ = mj_E 23 173 ls (.int (x + y) :: st) σ τ := mj_nx i23_172 rfl
theorem i23_173 : mj_ins 23 173 = some (.ireturn, 174) := by decide +kernel
theorem e23_173 {ls : mj_L} {σ : mj_S} {τ : mj_T} {v : Int32} : mj_E 23 173 ls [.int v] σ τ = some (some (.int v), σ, τ) := mj_irt i23_173 rfl
theorem i23_174 : mj_ins 23 174 = some (.iload 3, 175) := by decide +kernel
theorem e23_174 {ls : mj_L} {st : List Value} {σ : mj_S} {τ : mj_T} {a0 a1 a2 : Option Value} {v : Int32} : mj_E 23 174 (a0 :: a1 :: a2 :: some (.int v) :: ls) st σ τ = mj_E 23 175 (a0 :: a1 :: a2 :: some (.int v) :: ls) (.int v :: st) σ τ := mj_nx i23_174 rfl
theorem i23_175 : mj_ins 23 175 = some (.aload 0, 176) := by decide +kernel
theorem e23_175 {ls : mj_L} {st : List Value} {σ : mj_S} {τ : mj_T} {v : Nat} : mj_E 23 175 (some (.ref v) :: ls) st σ τ = mj_E 23 176 (some (.ref v) :: ls) (.ref v :: st) σ τ := mj_nx i23_175 rfl
theorem i23_176 : mj_ins 23 176 = some (.getfield 112, 179) := by decide +kernel
theorem e23_176 {ls : mj_L} {st : List Value} {σ : mj_S} {τ : mj_T} {k : Nat} (h1 : 1 ≤ k) (h2 : k ≤ 3) : mj_E 23 176 ls (.ref k :: st) σ τ = mj_E 23 179 ls (.ref (10 * k + 7) :: st) σ τ := (mj_gf i23_176).trans (congrArg (fun z => mj_ov z _) (fv1_12 h1 h2))
theorem i23_179 : mj_ins 23 179 = some (.iload 1, 180) := by decide +kernel
theorem e23_179 {ls : mj_L} {st : List Value} {σ : mj_S} {τ : mj_T} {a0 : Option Value} {v : Int32} : mj_E 23 179 (a0 :: some (.int v) :: ls) st σ τ = mj_E 23 180 (a0 :: some (.int v) :: ls) (.int v :: st) σ τ := mj_nx i23_179 rfl
theorem i23_180 : mj_ins 23 180 = some (.iaload, 181) := by decide +kernel
theorem e23_180 {ls : mj_L} {st : List Value} {σ : mj_S} {τ : mj_T} {x : Int32} {k : Nat} : mj_E 23 180 ls (.int x :: .ref k :: st) σ τ = if mj_ib (mj_li σ k) x = true then mj_E 23 181 ls (.int (σ k x.toNatClampNeg) :: st) σ τ else none := mj_ald i23_180
theorem i23_181 : mj_ins 23 181 = some (.iadd, 182) := by decide +kernel
theorem e23_181 {ls : mj_L} {st : List Value} {σ : mj_S} {τ : mj_T} {x y : Int32} : mj_E 23 181 ls (.int y :: .int x :: st) σ τ = mj_E 23 182 ls (.int (x + y) :: st) σ τ := mj_nx i23_181 rfl
theorem i23_182 : mj_ins 23 182 = some (.ireturn, 183) := by decide +kernel
theorem e23_182 {ls : mj_L} {σ : mj_S} {τ : mj_T} {v : Int32} : mj_E 23 182 ls [.int v] σ τ = some (some (.int v), σ, τ) := mj_irt i23_182 rfl
theorem i23_183 : mj_ins 23 183 = some (.iload 5, 185) := by decide +kernel
theorem e23_183 {ls : mj_L} {st : List Value} {σ : mj_S} {τ : mj_T} {a0 a1 a2 a3 a4 : Option Value} {v : Int32} : mj_E 23 183 (a0 :: a1 :: a2 :: a3 :: a4 :: some (.int v) :: ls) st σ τ = mj_E 23 185 (a0 :: a1 :: a2 :: a3 :: a4 :: some (.int v) :: ls) (.int v :: st) σ τ := mj_nx i23_183 rfl
theorem i23_185 : mj_ins 23 185 = some (.ireturn, 186) := by decide +kernel
theorem e23_185 {ls : mj_L} {σ : mj_S} {τ : mj_T} {v : Int32} : mj_E 23 185 ls [.int v] σ τ = some (some (.int v), σ, τ) := mj_irt i23_185 rfl
theorem c24 {σ : mj_S} {τ : mj_T} {r : Nat} {x0 : Int32} {x1 : Int32} {x2 : Int32} {x3 : Int32} : mj_C 24 [.ref r, .int x0, .int x1, .int x2, .int x3] σ τ = mj_E 24 0 [some (.ref r), some (.int x0), some (.int x1), some (.int x2), some (.int x3), none, none] [] σ τ := rfl
theorem i24_0 : mj_ins 24 0 = some (.aload 0, 1) := by decide +kernel
theorem e24_0 {ls : mj_L} {st : List Value} {σ : mj_S} {τ : mj_T} {v : Nat} : mj_E 24 0 (some (.ref v) :: ls) st σ τ = mj_E 24 1 (some (.ref v) :: ls) (.ref v :: st) σ τ := mj_nx i24_0 rfl
theorem i24_1 : mj_ins 24 1 = some (.iload 1, 2) := by decide +kernel
theorem e24_1 {ls : mj_L} {st : List Value} {σ : mj_S} {τ : mj_T} {a0 : Option Value} {v : Int32} : mj_E 24 1 (a0 :: some (.int v) :: ls) st σ τ = mj_E 24 2 (a0 :: some (.int v) :: ls) (.int v :: st) σ τ := mj_nx i24_1 rfl
theorem i24_2 : mj_ins 24 2 = some (.iload 2, 3) := by decide +kernel
theorem e24_2 {ls : mj_L} {st : List Value} {σ : mj_S} {τ : mj_T} {a0 a1 : Option Value} {v : Int32} : mj_E 24 2 (a0 :: a1 :: some (.int v) :: ls) st σ τ = mj_E 24 3 (a0 :: a1 :: some (.int v) :: ls) (.int v :: st) σ τ := mj_nx i24_2 rfl
theorem i24_3 : mj_ins 24 3 = some (.iload 3, 4) := by decide +kernel
theorem e24_3 {ls : mj_L} {st : List Value} {σ : mj_S} {τ : mj_T} {a0 a1 a2 : Option Value} {v : Int32} : mj_E 24 3 (a0 :: a1 :: a2 :: some (.int v) :: ls) st σ τ = mj_E 24 4 (a0 :: a1 :: a2 :: some (.int v) :: ls) (.int v :: st) σ τ := mj_nx i24_3 rfl
theorem i24_4 : mj_ins 24 4 = some (.invokevirtual 22, 7) := by decide +kernel
theorem e24_4 {ls : mj_L} {σ : mj_S} {τ : mj_T} {r : Nat} {x0 : Int32} {x1 : Int32} {x2 : Int32} : mj_E 24 4 ls [.int x2, .int x1, .int x0, .ref r] σ τ = if mj_rcv r 1 = true then mj_bd (mj_C 22 [.ref r, .int x0, .int x1, .int x2] σ τ) (mj_K 24 7 ls []) else none := mj_clV (as := [.int x0, .int x1, .int x2]) (r := []) i24_4 (by decide +kernel : mj_vk 24 22 3 0 4 false = true) (by decide +kernel)
theorem i24_7 : mj_ins 24 7 = some (.istore 5, 9) := by decide +kernel
theorem e24_7 {ls : mj_L} {st : List Value} {σ : mj_S} {τ : mj_T} {a0 a1 a2 a3 a4 a5 : Option Value} {v : Int32} : mj_E 24 7 (a0 :: a1 :: a2 :: a3 :: a4 :: a5 :: ls) (.int v :: st) σ τ = mj_E 24 9 (a0 :: a1 :: a2 :: a3 :: a4 :: some (.int v) :: ls) st σ τ := mj_nx i24_7 rfl
theorem i24_9 : mj_ins 24 9 = some (.aload 0, 10) := by decide +kernel
theorem e24_9 {ls : mj_L} {st : List Value} {σ : mj_S} {τ : mj_T} {v : Nat} : mj_E 24 9 (some (.ref v) :: ls) st σ τ = mj_E 24 10 (some (.ref v) :: ls) (.ref v :: st) σ τ := mj_nx i24_9 rfl
theorem i24_10 : mj_ins 24 10 = some (.iload 1, 11) := by decide +kernel
theorem e24_10 {ls : mj_L} {st : List Value} {σ : mj_S} {τ : mj_T} {a0 : Option Value} {v : Int32} : mj_E 24 10 (a0 :: some (.int v) :: ls) st σ τ = mj_E 24 11 (a0 :: some (.int v) :: ls) (.int v :: st) σ τ := mj_nx i24_10 rfl
theorem i24_11 : mj_ins 24 11 = some (.iload 4, 13) := by decide +kernel
theorem e24_11 {ls : mj_L} {st : List Value} {σ : mj_S} {τ : mj_T} {a0 a1 a2 a3 : Option Value} {v : Int32} : mj_E 24 11 (a0 :: a1 :: a2 :: a3 :: some (.int v) :: ls) st σ τ = mj_E 24 13 (a0 :: a1 :: a2 :: a3 :: some (.int v) :: ls) (.int v :: st) σ τ := mj_nx i24_11 rfl
theorem i24_13 : mj_ins 24 13 = some (.aload 0, 14) := by decide +kernel
theorem e24_13 {ls : mj_L} {st : List Value} {σ : mj_S} {τ : mj_T} {v : Nat} : mj_E 24 13 (some (.ref v) :: ls) st σ τ = mj_E 24 14 (some (.ref v) :: ls) (.ref v :: st) σ τ := mj_nx i24_13 rfl
theorem i24_14 : mj_ins 24 14 = some (.iload 4, 16) := by decide +kernel
theorem e24_14 {ls : mj_L} {st : List Value} {σ : mj_S} {τ : mj_T} {a0 a1 a2 a3 : Option Value} {v : Int32} : mj_E 24 14 (a0 :: a1 :: a2 :: a3 :: some (.int v) :: ls) st σ τ = mj_E 24 16 (a0 :: a1 :: a2 :: a3 :: some (.int v) :: ls) (.int v :: st) σ τ := mj_nx i24_14 rfl
theorem i24_16 : mj_ins 24 16 = some (.invokevirtual 16, 19) := by decide +kernel
theorem e24_16 {ls : mj_L} {σ : mj_S} {τ : mj_T} {r : Nat} {x0 : Int32} {w0 w1 w2 : Value} : mj_E 24 16 ls [.int x0, .ref r, w0, w1, w2] σ τ = if mj_rcv r 1 = true then mj_bd (mj_C 16 [.ref r, .int x0] σ τ) (mj_K 24 19 ls [w0, w1, w2]) else none := mj_clV (as := [.int x0]) (r := [w0, w1, w2]) i24_16 (by decide +kernel : mj_vk 24 16 1 3 2 false = true) (by decide +kernel)
theorem i24_19 : mj_ins 24 19 = some (.invokevirtual 22, 22) := by decide +kernel
theorem e24_19 {ls : mj_L} {σ : mj_S} {τ : mj_T} {r : Nat} {x0 : Int32} {x1 : Int32} {x2 : Int32} : mj_E 24 19 ls [.int x2, .int x1, .int x0, .ref r] σ τ = if mj_rcv r 1 = true then mj_bd (mj_C 22 [.ref r, .int x0, .int x1, .int x2] σ τ) (mj_K 24 22 ls []) else none := mj_clV (as := [.int x0, .int x1, .int x2]) (r := []) i24_19 (by decide +kernel : mj_vk 24 22 3 0 4 false = true) (by decide +kernel)
theorem i24_22 : mj_ins 24 22 = some (.istore 6, 24) := by decide +kernel
theorem e24_22 {ls : mj_L} {st : List Value} {σ : mj_S} {τ : mj_T} {a0 a1 a2 a3 a4 a5 a6 : Option Value} {v : Int32} : mj_E 24 22 (a0 :: a1 :: a2 :: a3 :: a4 :: a5 :: a6 :: ls) (.int v :: st) σ τ = mj_E 24 24 (a0 :: a1 :: a2 :: a3 :: a4 :: a5 :: some (.int v) :: ls) st σ τ := mj_nx i24_22 rfl
theorem i24_24 : mj_ins 24 24 = some (.iload 5, 26) := by decide +kernel
theorem e24_24 {ls : mj_L} {st : List Value} {σ : mj_S} {τ : mj_T} {a0 a1 a2 a3 a4 : Option Value} {v : Int32} : mj_E 24 24 (a0 :: a1 :: a2 :: a3 :: a4 :: some (.int v) :: ls) st σ τ = mj_E 24 26 (a0 :: a1 :: a2 :: a3 :: a4 :: some (.int v) :: ls) (.int v :: st) σ τ := mj_nx i24_24 rfl
theorem i24_26 : mj_ins 24 26 = some (.iload 6, 28) := by decide +kernel
theorem e24_26 {ls : mj_L} {st : List Value} {σ : mj_S} {τ : mj_T} {a0 a1 a2 a3 a4 a5 : Option Value} {v : Int32} : mj_E 24 26 (a0 :: a1 :: a2 :: a3 :: a4 :: a5 :: some (.int v) :: ls) st σ τ = mj_E 24 28 (a0 :: a1 :: a2 :: a3 :: a4 :: a5 :: some (.int v) :: ls) (.int v :: st) σ τ := mj_nx i24_26 rfl
theorem i24_28 : mj_ins 24 28 = some (.if_icmp .gt 44, 31) := by decide +kernel
theorem e24_28 {ls : mj_L} {st : List Value} {σ : mj_S} {τ : mj_T} {x y : Int32} : mj_E 24 28 ls (.int y :: .int x :: st) σ τ = if y < x then mj_E 24 44 ls st σ τ else mj_E 24 31 ls st σ τ := (mj_ifi i24_28).trans (mj_cdT rfl)
theorem i24_31 : mj_ins 24 31 = some (.iload 5, 33) := by decide +kernel
theorem e24_31 {ls : mj_L} {st : List Value} {σ : mj_S} {τ : mj_T} {a0 a1 a2 a3 a4 : Option Value} {v : Int32} : mj_E 24 31 (a0 :: a1 :: a2 :: a3 :: a4 :: some (.int v) :: ls) st σ τ = mj_E 24 33 (a0 :: a1 :: a2 :: a3 :: a4 :: some (.int v) :: ls) (.int v :: st) σ τ := mj_nx i24_31 rfl
theorem i24_33 : mj_ins 24 33 = some (.iload 6, 35) := by decide +kernel
theorem e24_33 {ls : mj_L} {st : List Value} {σ : mj_S} {τ : mj_T} {a0 a1 a2 a3 a4 a5 : Option Value} {v : Int32} : mj_E 24 33 (a0 :: a1 :: a2 :: a3 :: a4 :: a5 :: some (.int v) :: ls) st σ τ = mj_E 24 35 (a0 :: a1 :: a2 :: a3 :: a4 :: a5 :: some (.int v) :: ls) (.int v :: st) σ τ := mj_nx i24_33 rfl
theorem i24_35 : mj_ins 24 35 = some (.if_icmp .ne 48, 38) := by decide +kernel
theorem e24_35 {ls : mj_L} {st : List Value} {σ : mj_S} {τ : mj_T} {x y : Int32} : mj_E 24 35 ls (.int y :: .int x :: st) σ τ = if x = y then mj_E 24 38 ls st σ τ else mj_E 24 48 ls st σ τ := (mj_ifi i24_35).trans (mj_cdF rfl)
theorem i24_38 : mj_ins 24 38 = some (.iload 2, 39) := by decide +kernel
theorem e24_38 {ls : mj_L} {st : List Value} {σ : mj_S} {τ : mj_T} {a0 a1 : Option Value} {v : Int32} : mj_E 24 38 (a0 :: a1 :: some (.int v) :: ls) st σ τ = mj_E 24 39 (a0 :: a1 :: some (.int v) :: ls) (.int v :: st) σ τ := mj_nx i24_38 rfl
theorem i24_39 : mj_ins 24 39 = some (.iload 4, 41) := by decide +kernel
theorem e24_39 {ls : mj_L} {st : List Value} {σ : mj_S} {τ : mj_T} {a0 a1 a2 a3 : Option Value} {v : Int32} : mj_E 24 39 (a0 :: a1 :: a2 :: a3 :: some (.int v) :: ls) st σ τ = mj_E 24 41 (a0 :: a1 :: a2 :: a3 :: some (.int v) :: ls) (.int v :: st) σ τ := mj_nx i24_39 rfl
theorem i24_41 : mj_ins 24 41 = some (.if_icmp .ge 48, 44) := by decide +kernel
theorem e24_41 {ls : mj_L} {st : List Value} {σ : mj_S} {τ : mj_T} {x y : Int32} : mj_E 24 41 ls (.int y :: .int x :: st) σ τ = if y ≤ x then mj_E 24 48 ls st σ τ else mj_E 24 44 ls st σ τ := (mj_ifi i24_41).trans (mj_cdT rfl)
theorem i24_44 : mj_ins 24 44 = some (.iconst (1), 45) := by decide +kernel
theorem e24_44 {ls : mj_L} {st : List Value} {σ : mj_S} {τ : mj_T} : mj_E 24 44 ls st σ τ = mj_E 24 45 ls (.int (nI 1) :: st) σ τ := mj_nx i24_44 rfl
theorem i24_45 : mj_ins 24 45 = some (.goto 49, 48) := by decide +kernel
theorem e24_45 {ls : mj_L} {st : List Value} {σ : mj_S} {τ : mj_T} : mj_E 24 45 ls st σ τ = mj_E 24 49 ls st σ τ := mj_nx i24_45 rfl
theorem i24_48 : mj_ins 24 48 = some (.iconst (0), 49) := by decide +kernel
theorem e24_48 {ls : mj_L} {st : List Value} {σ : mj_S} {τ : mj_T} : mj_E 24 48 ls st σ τ = mj_E 24 49 ls (.int (nI 0) :: st) σ τ := mj_nx i24_48 rfl
theorem i24_49 : mj_ins 24 49 = some (.ireturn, 50) := by decide +kernel
theorem e24_49 {ls : mj_L} {σ : mj_S} {τ : mj_T} {v : Int32} : mj_E 24 49 ls [.int v] σ τ = if mj_ok (some .boolean) v = true then some (some (.int v), σ, τ) else none := mj_zrt i24_49 rfl
theorem c25 {σ : mj_S} {τ : mj_T} {r : Nat} {x0 : Int32} : mj_C 25 [.ref r, .int x0] σ τ = mj_E 25 0 [some (.ref r), some (.int x0)] [] σ τ := rfl
theorem i25_0 : mj_ins 25 0 = some (.aload 0, 1) := by decide +kernel
theorem e25_0 {ls : mj_L} {st : List Value} {σ : mj_S} {τ : mj_T} {v : Nat} : mj_E 25 0 (some (.ref v) :: ls) st σ τ = mj_E 25 1 (some (.ref v) :: ls) (.ref v :: st) σ τ := mj_nx i25_0 rfl
theorem i25_1 : mj_ins 25 1 = some (.getfield 115, 4) := by decide +kernel
theorem e25_1 {ls : mj_L} {st : List Value} {σ : mj_S} {τ : mj_T} {k : Nat} (h1 : 1 ≤ k) (h2 : k ≤ 3) : mj_E 25 1 ls (.ref k :: st) σ τ = mj_E 25 4 ls (.ref (k + 3) :: st) σ τ := (mj_gf i25_1).trans (congrArg (fun z => mj_ov z _) (fv1_15 h1 h2))
theorem i25_4 : mj_ins 25 4 = some (.aload 0, 5) := by decide +kernel
theorem e25_4 {ls : mj_L} {st : List Value} {σ : mj_S} {τ : mj_T} {v : Nat} : mj_E 25 4 (some (.ref v) :: ls) st σ τ = mj_E 25 5 (some (.ref v) :: ls) (.ref v :: st) σ τ := mj_nx i25_4 rfl
theorem i25_5 : mj_ins 25 5 = some (.iload 1, 6) := by decide +kernel
theorem e25_5 {ls : mj_L} {st : List Value} {σ : mj_S} {τ : mj_T} {a0 : Option Value} {v : Int32} : mj_E 25 5 (a0 :: some (.int v) :: ls) st σ τ = mj_E 25 6 (a0 :: some (.int v) :: ls) (.int v :: st) σ τ := mj_nx i25_5 rfl
theorem i25_6 : mj_ins 25 6 = some (.invokevirtual 0, 9) := by decide +kernel
theorem e25_6 {ls : mj_L} {σ : mj_S} {τ : mj_T} {r : Nat} {x0 : Nat} {x1 : Int32} : mj_E 25 6 ls [.int x1, .ref x0, .ref r] σ τ = if mj_rcv r 0 = true then mj_bd (mj_C 0 [.ref r, .ref x0, .int x1] σ τ) (mj_K 25 9 ls []) else none := mj_clV (as := [.ref x0, .int x1]) (r := []) i25_6 (by decide +kernel : mj_vk 25 0 2 0 3 false = true) (by decide +kernel)
theorem i25_9 : mj_ins 25 9 = some (.aload 0, 10) := by decide +kernel
theorem e25_9 {ls : mj_L} {st : List Value} {σ : mj_S} {τ : mj_T} {v : Nat} : mj_E 25 9 (some (.ref v) :: ls) st σ τ = mj_E 25 10 (some (.ref v) :: ls) (.ref v :: st) σ τ := mj_nx i25_9 rfl
theorem i25_10 : mj_ins 25 10 = some (.getfield 115, 13) := by decide +kernel
theorem e25_10 {ls : mj_L} {st : List Value} {σ : mj_S} {τ : mj_T} {k : Nat} (h1 : 1 ≤ k) (h2 : k ≤ 3) : mj_E 25 10 ls (.ref k :: st) σ τ = mj_E 25 13 ls (.ref (k + 3) :: st) σ τ := (mj_gf i25_10).trans (congrArg (fun z => mj_ov z _) (fv1_15 h1 h2))
theorem i25_13 : mj_ins 25 13 = some (.areturn, 14) := by decide +kernel
theorem e25_13 {ls : mj_L} {σ : mj_S} {τ : mj_T} {v : Nat} : mj_E 25 13 ls [.ref v] σ τ = some (some (.ref v), σ, τ) := mj_art i25_13 rfl rfl
theorem c26 {σ : mj_S} {τ : mj_T} {r : Nat} {x0 : Int32} : mj_C 26 [.ref r, .int x0] σ τ = mj_E 26 0 [some (.ref r), some (.int x0), none, none] [] σ τ := rfl
theorem i26_0 : mj_ins 26 0 = some (.iconst (0), 1) := by decide +kernel
theorem e26_0 {ls : mj_L} {st : List Value} {σ : mj_S} {τ : mj_T} : mj_E 26 0 ls st σ τ = mj_E 26 1 ls (.int (nI 0) :: st) σ τ := mj_nx i26_0 rfl
theorem i26_1 : mj_ins 26 1 = some (.istore 2, 2) := by decide +kernel
theorem e26_1 {ls : mj_L} {st : List Value} {σ : mj_S} {τ : mj_T} {a0 a1 a2 : Option Value} {v : Int32} : mj_E 26 1 (a0 :: a1 :: a2 :: ls) (.int v :: st) σ τ = mj_E 26 2 (a0 :: a1 :: some (.int v) :: ls) st σ τ := mj_nx i26_1 rfl
theorem i26_2 : mj_ins 26 2 = some (.iconst (0), 3) := by decide +kernel
theorem e26_2 {ls : mj_L} {st : List Value} {σ : mj_S} {τ : mj_T} : mj_E 26 2 ls st σ τ = mj_E 26 3 ls (.int (nI 0) :: st) σ τ := mj_nx i26_2 rfl
theorem i26_3 : mj_ins 26 3 = some (.istore 3, 4) := by decide +kernel
theorem e26_3 {ls : mj_L} {st : List Value} {σ : mj_S} {τ : mj_T} {a0 a1 a2 a3 : Option Value} {v : Int32} : mj_E 26 3 (a0 :: a1 :: a2 :: a3 :: ls) (.int v :: st) σ τ = mj_E 26 4 (a0 :: a1 :: a2 :: some (.int v) :: ls) st σ τ := mj_nx i26_3 rfl
theorem i26_4 : mj_ins 26 4 = some (.iload 3, 5) := by decide +kernel
theorem e26_4 {ls : mj_L} {st : List Value} {σ : mj_S} {τ : mj_T} {a0 a1 a2 : Option Value} {v : Int32} : mj_E 26 4 (a0 :: a1 :: a2 :: some (.int v) :: ls) st σ τ = mj_E 26 5 (a0 :: a1 :: a2 :: some (.int v) :: ls) (.int v :: st) σ τ := mj_nx i26_4 rfl
theorem i26_5 : mj_ins 26 5 = some (.aload 0, 6) := by decide +kernel
theorem e26_5 {ls : mj_L} {st : List Value} {σ : mj_S} {τ : mj_T} {v : Nat} : mj_E 26 5 (some (.ref v) :: ls) st σ τ = mj_E 26 6 (some (.ref v) :: ls) (.ref v :: st) σ τ := mj_nx i26_5 rfl
theorem i26_6 : mj_ins 26 6 = some (.getfield 101, 9) := by decide +kernel
theorem e26_6 {ls : mj_L} {st : List Value} {σ : mj_S} {τ : mj_T} {k : Nat} (h1 : 1 ≤ k) (h2 : k ≤ 3) : mj_E 26 6 ls (.ref k :: st) σ τ = mj_E 26 9 ls (.int (σ k 1) :: st) σ τ := (mj_gf i26_6).trans (congrArg (fun z => mj_ov z _) (fv1_1 h1 h2))
theorem i26_9 : mj_ins 26 9 = some (.if_icmp .ge 33, 12) := by decide +kernel
theorem e26_9 {ls : mj_L} {st : List Value} {σ : mj_S} {τ : mj_T} {x y : Int32} : mj_E 26 9 ls (.int y :: .int x :: st) σ τ = if y ≤ x then mj_E 26 33 ls st σ τ else mj_E 26 12 ls st σ τ := (mj_ifi i26_9).trans (mj_cdT rfl)
theorem i26_12 : mj_ins 26 12 = some (.iload 2, 13) := by decide +kernel
theorem e26_12 {ls : mj_L} {st : List Value} {σ : mj_S} {τ : mj_T} {a0 a1 : Option Value} {v : Int32} : mj_E 26 12 (a0 :: a1 :: some (.int v) :: ls) st σ τ = mj_E 26 13 (a0 :: a1 :: some (.int v) :: ls) (.int v :: st) σ τ := mj_nx i26_12 rfl
theorem i26_13 : mj_ins 26 13 = some (.aload 0, 14) := by decide +kernel
theorem e26_13 {ls : mj_L} {st : List Value} {σ : mj_S} {τ : mj_T} {v : Nat} : mj_E 26 13 (some (.ref v) :: ls) st σ τ = mj_E 26 14 (some (.ref v) :: ls) (.ref v :: st) σ τ := mj_nx i26_13 rfl
theorem i26_14 : mj_ins 26 14 = some (.iload 3, 15) := by decide +kernel
theorem e26_14 {ls : mj_L} {st : List Value} {σ : mj_S} {τ : mj_T} {a0 a1 a2 : Option Value} {v : Int32} : mj_E 26 14 (a0 :: a1 :: a2 :: some (.int v) :: ls) st σ τ = mj_E 26 15 (a0 :: a1 :: a2 :: some (.int v) :: ls) (.int v :: st) σ τ := mj_nx i26_14 rfl
theorem i26_15 : mj_ins 26 15 = some (.invokevirtual 25, 18) := by decide +kernel
theorem e26_15 {ls : mj_L} {σ : mj_S} {τ : mj_T} {r : Nat} {x0 : Int32} {w0 : Value} : mj_E 26 15 ls [.int x0, .ref r, w0] σ τ = if mj_rcv r 1 = true then mj_bd (mj_C 25 [.ref r, .int x0] σ τ) (mj_K 26 18 ls [w0]) else none := mj_clV (as := [.int x0]) (r := [w0]) i26_15 (by decide +kernel : mj_vk 26 25 1 1 2 false = true) (by decide +kernel)
theorem i26_18 : mj_ins 26 18 = some (.getfield 3, 21) := by decide +kernel
theorem e26_18 {ls : mj_L} {st : List Value} {σ : mj_S} {τ : mj_T} {k : Nat} (h1 : 4 ≤ k) (h2 : k ≤ 6) : mj_E 26 18 ls (.ref k :: st) σ τ = mj_E 26 21 ls (.int (σ k 3) :: st) σ τ := (mj_gf i26_18).trans (congrArg (fun z => mj_ov z _) (fv0_3 h1 h2))
theorem i26_21 : mj_ins 26 21 = some (.iload 1, 22) := by decide +kernel
theorem e26_21 {ls : mj_L} {st : List Value} {σ : mj_S} {τ : mj_T} {a0 : Option Value} {v : Int32} : mj_E 26 21 (a0 :: some (.int v) :: ls) st σ τ = mj_E 26 22 (a0 :: some (.int v) :: ls) (.int v :: st) σ τ := mj_nx i26_21 rfl
theorem i26_22 : mj_ins 26 22 = some (.ishr, 23) := by decide +kernel
theorem e26_22 {ls : mj_L} {st : List Value} {σ : mj_S} {τ : mj_T} {x y : Int32} : mj_E 26 22 ls (.int y :: .int x :: st) σ τ = mj_E 26 23 ls (.int (x >>> (y &&& 31)) :: st) σ τ := mj_nx i26_22 rfl
theorem i26_23 : mj_ins 26 23 = some (.iconst (1), 24) := by decide +kernel
theorem e26_23 {ls : mj_L} {st : List Value} {σ : mj_S} {τ : mj_T} : mj_E 26 23 ls st σ τ = mj_E 26 24 ls (.int (nI 1) :: st) σ τ := mj_nx i26_23 rfl
theorem i26_24 : mj_ins 26 24 = some (.iand, 25) := by decide +kernel
theorem e26_24 {ls : mj_L} {st : List Value} {σ : mj_S} {τ : mj_T} {x y : Int32} : mj_E 26 24 ls (.int y :: .int x :: st) σ τ = mj_E 26 25 ls (.int (x &&& y) :: st) σ τ := mj_nx i26_24 rfl
theorem i26_25 : mj_ins 26 25 = some (.iadd, 26) := by decide +kernel
theorem e26_25 {ls : mj_L} {st : List Value} {σ : mj_S} {τ : mj_T} {x y : Int32} : mj_E 26 25 ls (.int y :: .int x :: st) σ τ = mj_E 26 26 ls (.int (x + y) :: st) σ τ := mj_nx i26_25 rfl
theorem i26_26 : mj_ins 26 26 = some (.istore 2, 27) := by decide +kernel
theorem e26_26 {ls : mj_L} {st : List Value} {σ : mj_S} {τ : mj_T} {a0 a1 a2 : Option Value} {v : Int32} : mj_E 26 26 (a0 :: a1 :: a2 :: ls) (.int v :: st) σ τ = mj_E 26 27 (a0 :: a1 :: some (.int v) :: ls) st σ τ := mj_nx i26_26 rfl
theorem i26_27 : mj_ins 26 27 = some (.iinc 3 (1), 30) := by decide +kernel
theorem e26_27 {ls : mj_L} {st : List Value} {σ : mj_S} {τ : mj_T} {a0 a1 a2 : Option Value} {v : Int32} : mj_E 26 27 (a0 :: a1 :: a2 :: some (.int v) :: ls) st σ τ = mj_E 26 30 (a0 :: a1 :: a2 :: some (.int (v + nI 1)) :: ls) st σ τ := mj_nx i26_27 rfl
theorem i26_30 : mj_ins 26 30 = some (.goto 4, 33) := by decide +kernel
theorem e26_30 {ls : mj_L} {st : List Value} {σ : mj_S} {τ : mj_T} : mj_E 26 30 ls st σ τ = mj_E 26 4 ls st σ τ := mj_nx i26_30 rfl
theorem i26_33 : mj_ins 26 33 = some (.iload 2, 34) := by decide +kernel
theorem e26_33 {ls : mj_L} {st : List Value} {σ : mj_S} {τ : mj_T} {a0 a1 : Option Value} {v : Int32} : mj_E 26 33 (a0 :: a1 :: some (.int v) :: ls) st σ τ = mj_E 26 34 (a0 :: a1 :: some (.int v) :: ls) (.int v :: st) σ τ := mj_nx i26_33 rfl
theorem i26_34 : mj_ins 26 34 = some (.ireturn, 35) := by decide +kernel
theorem e26_34 {ls : mj_L} {σ : mj_S} {τ : mj_T} {v : Int32} : mj_E 26 34 ls [.int v] σ τ = some (some (.int v), σ, τ) := mj_irt i26_34 rfl
theorem c27 {σ : mj_S} {τ : mj_T} {r : Nat} {x0 : Int32} {x1 : Int32} : mj_C 27 [.ref r, .int x0, .int x1] σ τ = mj_E 27 0 [some (.ref r), some (.int x0), some (.int x1), none, none] [] σ τ := rfl
theorem i27_0 : mj_ins 27 0 = some (.iconst (0), 1) := by decide +kernel
theorem e27_0 {ls : mj_L} {st : List Value} {σ : mj_S} {τ : mj_T} : mj_E 27 0 ls st σ τ = mj_E 27 1 ls (.int (nI 0) :: st) σ τ := mj_nx i27_0 rfl
theorem i27_1 : mj_ins 27 1 = some (.istore 3, 2) := by decide +kernel
theorem e27_1 {ls : mj_L} {st : List Value} {σ : mj_S} {τ : mj_T} {a0 a1 a2 a3 : Option Value} {v : Int32} : mj_E 27 1 (a0 :: a1 :: a2 :: a3 :: ls) (.int v :: st) σ τ = mj_E 27 2 (a0 :: a1 :: a2 :: some (.int v) :: ls) st σ τ := mj_nx i27_1 rfl
theorem i27_2 : mj_ins 27 2 = some (.iconst (0), 3) := by decide +kernel
theorem e27_2 {ls : mj_L} {st : List Value} {σ : mj_S} {τ : mj_T} : mj_E 27 2 ls st σ τ = mj_E 27 3 ls (.int (nI 0) :: st) σ τ := mj_nx i27_2 rfl
theorem i27_3 : mj_ins 27 3 = some (.istore 4, 5) := by decide +kernel
theorem e27_3 {ls : mj_L} {st : List Value} {σ : mj_S} {τ : mj_T} {a0 a1 a2 a3 a4 : Option Value} {v : Int32} : mj_E 27 3 (a0 :: a1 :: a2 :: a3 :: a4 :: ls) (.int v :: st) σ τ = mj_E 27 5 (a0 :: a1 :: a2 :: a3 :: some (.int v) :: ls) st σ τ := mj_nx i27_3 rfl
theorem i27_5 : mj_ins 27 5 = some (.iload 4, 7) := by decide +kernel
theorem e27_5 {ls : mj_L} {st : List Value} {σ : mj_S} {τ : mj_T} {a0 a1 a2 a3 : Option Value} {v : Int32} : mj_E 27 5 (a0 :: a1 :: a2 :: a3 :: some (.int v) :: ls) st σ τ = mj_E 27 7 (a0 :: a1 :: a2 :: a3 :: some (.int v) :: ls) (.int v :: st) σ τ := mj_nx i27_5 rfl
theorem i27_7 : mj_ins 27 7 = some (.aload 0, 8) := by decide +kernel
theorem e27_7 {ls : mj_L} {st : List Value} {σ : mj_S} {τ : mj_T} {v : Nat} : mj_E 27 7 (some (.ref v) :: ls) st σ τ = mj_E 27 8 (some (.ref v) :: ls) (.ref v :: st) σ τ := mj_nx i27_7 rfl
theorem i27_8 : mj_ins 27 8 = some (.getfield 101, 11) := by decide +kernel
theorem e27_8 {ls : mj_L} {st : List Value} {σ : mj_S} {τ : mj_T} {k : Nat} (h1 : 1 ≤ k) (h2 : k ≤ 3) : mj_E 27 8 ls (.ref k :: st) σ τ = mj_E 27 11 ls (.int (σ k 1) :: st) σ τ := (mj_gf i27_8).trans (congrArg (fun z => mj_ov z _) (fv1_1 h1 h2))
theorem i27_11 : mj_ins 27 11 = some (.if_icmp .ge 45, 14) := by decide +kernel
theorem e27_11 {ls : mj_L} {st : List Value} {σ : mj_S} {τ : mj_T} {x y : Int32} : mj_E 27 11 ls (.int y :: .int x :: st) σ τ = if y ≤ x then mj_E 27 45 ls st σ τ else mj_E 27 14 ls st σ τ := (mj_ifi i27_11).trans (mj_cdT rfl)
theorem i27_14 : mj_ins 27 14 = some (.iload 3, 15) := by decide +kernel
theorem e27_14 {ls : mj_L} {st : List Value} {σ : mj_S} {τ : mj_T} {a0 a1 a2 : Option Value} {v : Int32} : mj_E 27 14 (a0 :: a1 :: a2 :: some (.int v) :: ls) st σ τ = mj_E 27 15 (a0 :: a1 :: a2 :: some (.int v) :: ls) (.int v :: st) σ τ := mj_nx i27_14 rfl
theorem i27_15 : mj_ins 27 15 = some (.aload 0, 16) := by decide +kernel
theorem e27_15 {ls : mj_L} {st : List Value} {σ : mj_S} {τ : mj_T} {v : Nat} : mj_E 27 15 (some (.ref v) :: ls) st σ τ = mj_E 27 16 (some (.ref v) :: ls) (.ref v :: st) σ τ := mj_nx i27_15 rfl
theorem i27_16 : mj_ins 27 16 = some (.iload 4, 18) := by decide +kernel
theorem e27_16 {ls : mj_L} {st : List Value} {σ : mj_S} {τ : mj_T} {a0 a1 a2 a3 : Option Value} {v : Int32} : mj_E 27 16 (a0 :: a1 :: a2 :: a3 :: some (.int v) :: ls) st σ τ = mj_E 27 18 (a0 :: a1 :: a2 :: a3 :: some (.int v) :: ls) (.int v :: st) σ τ := mj_nx i27_16 rfl
theorem i27_18 : mj_ins 27 18 = some (.invokevirtual 25, 21) := by decide +kernel
theorem e27_18 {ls : mj_L} {σ : mj_S} {τ : mj_T} {r : Nat} {x0 : Int32} {w0 : Value} : mj_E 27 18 ls [.int x0, .ref r, w0] σ τ = if mj_rcv r 1 = true then mj_bd (mj_C 25 [.ref r, .int x0] σ τ) (mj_K 27 21 ls [w0]) else none := mj_clV (as := [.int x0]) (r := [w0]) i27_18 (by decide +kernel : mj_vk 27 25 1 1 2 false = true) (by decide +kernel)
theorem i27_21 : mj_ins 27 21 = some (.iload 2, 22) := by decide +kernel
theorem e27_21 {ls : mj_L} {st : List Value} {σ : mj_S} {τ : mj_T} {a0 a1 : Option Value} {v : Int32} : mj_E 27 21 (a0 :: a1 :: some (.int v) :: ls) st σ τ = mj_E 27 22 (a0 :: a1 :: some (.int v) :: ls) (.int v :: st) σ τ := mj_nx i27_21 rfl
theorem i27_22 : mj_ins 27 22 = some (.invokevirtual 2, 25) := by decide +kernel
theorem e27_22 {ls : mj_L} {σ : mj_S} {τ : mj_T} {r : Nat} {x0 : Int32} {w0 : Value} : mj_E 27 22 ls [.int x0, .ref r, w0] σ τ = if mj_rcv r 0 = true then mj_bd (mj_C 2 [.ref r, .int x0] σ τ) (mj_K 27 25 ls [w0]) else none := mj_clV (as := [.int x0]) (r := [w0]) i27_22 (by decide +kernel : mj_vk 27 2 1 1 2 false = true) (by decide +kernel)
theorem i27_25 : mj_ins 27 25 = some (.iload 1, 26) := by decide +kernel
theorem e27_25 {ls : mj_L} {st : List Value} {σ : mj_S} {τ : mj_T} {a0 : Option Value} {v : Int32} : mj_E 27 25 (a0 :: some (.int v) :: ls) st σ τ = mj_E 27 26 (a0 :: some (.int v) :: ls) (.int v :: st) σ τ := mj_nx i27_25 rfl
theorem i27_26 : mj_ins 27 26 = some (.if_icmp .ne 36, 29) := by decide +kernel
theorem e27_26 {ls : mj_L} {st : List Value} {σ : mj_S} {τ : mj_T} {x y : Int32} : mj_E 27 26 ls (.int y :: .int x :: st) σ τ = if x = y then mj_E 27 29 ls st σ τ else mj_E 27 36 ls st σ τ := (mj_ifi i27_26).trans (mj_cdF rfl)
theorem i27_29 : mj_ins 27 29 = some (.iconst (1), 30) := by decide +kernel
theorem e27_29 {ls : mj_L} {st : List Value} {σ : mj_S} {τ : mj_T} : mj_E 27 29 ls st σ τ = mj_E 27 30 ls (.int (nI 1) :: st) σ τ := mj_nx i27_29 rfl
theorem i27_30 : mj_ins 27 30 = some (.iload 4, 32) := by decide +kernel
theorem e27_30 {ls : mj_L} {st : List Value} {σ : mj_S} {τ : mj_T} {a0 a1 a2 a3 : Option Value} {v : Int32} : mj_E 27 30 (a0 :: a1 :: a2 :: a3 :: some (.int v) :: ls) st σ τ = mj_E 27 32 (a0 :: a1 :: a2 :: a3 :: some (.int v) :: ls) (.int v :: st) σ τ := mj_nx i27_30 rfl
theorem i27_32 : mj_ins 27 32 = some (.ishl, 33) := by decide +kernel
theorem e27_32 {ls : mj_L} {st : List Value} {σ : mj_S} {τ : mj_T} {x y : Int32} : mj_E 27 32 ls (.int y :: .int x :: st) σ τ = mj_E 27 33 ls (.int (x <<< (y &&& 31)) :: st) σ τ := mj_nx i27_32 rfl
theorem i27_33 : mj_ins 27 33 = some (.goto 37, 36) := by decide +kernel
theorem e27_33 {ls : mj_L} {st : List Value} {σ : mj_S} {τ : mj_T} : mj_E 27 33 ls st σ τ = mj_E 27 37 ls st σ τ := mj_nx i27_33 rfl
theorem i27_36 : mj_ins 27 36 = some (.iconst (0), 37) := by decide +kernel
theorem e27_36 {ls : mj_L} {st : List Value} {σ : mj_S} {τ : mj_T} : mj_E 27 36 ls st σ τ = mj_E 27 37 ls (.int (nI 0) :: st) σ τ := mj_nx i27_36 rfl
theorem i27_37 : mj_ins 27 37 = some (.ior, 38) := by decide +kernel
theorem e27_37 {ls : mj_L} {st : List Value} {σ : mj_S} {τ : mj_T} {x y : Int32} : mj_E 27 37 ls (.int y :: .int x :: st) σ τ = mj_E 27 38 ls (.int (x ||| y) :: st) σ τ := mj_nx i27_37 rfl
theorem i27_38 : mj_ins 27 38 = some (.istore 3, 39) := by decide +kernel
theorem e27_38 {ls : mj_L} {st : List Value} {σ : mj_S} {τ : mj_T} {a0 a1 a2 a3 : Option Value} {v : Int32} : mj_E 27 38 (a0 :: a1 :: a2 :: a3 :: ls) (.int v :: st) σ τ = mj_E 27 39 (a0 :: a1 :: a2 :: some (.int v) :: ls) st σ τ := mj_nx i27_38 rfl
theorem i27_39 : mj_ins 27 39 = some (.iinc 4 (1), 42) := by decide +kernel
theorem e27_39 {ls : mj_L} {st : List Value} {σ : mj_S} {τ : mj_T} {a0 a1 a2 a3 : Option Value} {v : Int32} : mj_E 27 39 (a0 :: a1 :: a2 :: a3 :: some (.int v) :: ls) st σ τ = mj_E 27 42 (a0 :: a1 :: a2 :: a3 :: some (.int (v + nI 1)) :: ls) st σ τ := mj_nx i27_39 rfl
theorem i27_42 : mj_ins 27 42 = some (.goto 5, 45) := by decide +kernel
theorem e27_42 {ls : mj_L} {st : List Value} {σ : mj_S} {τ : mj_T} : mj_E 27 42 ls st σ τ = mj_E 27 5 ls st σ τ := mj_nx i27_42 rfl
theorem i27_45 : mj_ins 27 45 = some (.iload 3, 46) := by decide +kernel
theorem e27_45 {ls : mj_L} {st : List Value} {σ : mj_S} {τ : mj_T} {a0 a1 a2 : Option Value} {v : Int32} : mj_E 27 45 (a0 :: a1 :: a2 :: some (.int v) :: ls) st σ τ = mj_E 27 46 (a0 :: a1 :: a2 :: some (.int v) :: ls) (.int v :: st) σ τ := mj_nx i27_45 rfl
theorem i27_46 : mj_ins 27 46 = some (.ireturn, 47) := by decide +kernel
theorem e27_46 {ls : mj_L} {σ : mj_S} {τ : mj_T} {v : Int32} : mj_E 27 46 ls [.int v] σ τ = some (some (.int v), σ, τ) := mj_irt i27_46 rfl
theorem c28 {σ : mj_S} {τ : mj_T} {r : Nat} : mj_C 28 [.ref r] σ τ = mj_E 28 0 [some (.ref r), none, none, none, none] [] σ τ := rfl
theorem i28_0 : mj_ins 28 0 = some (.iconst (-1), 1) := by decide +kernel
theorem e28_0 {ls : mj_L} {st : List Value} {σ : mj_S} {τ : mj_T} : mj_E 28 0 ls st σ τ = mj_E 28 1 ls (.int ((-1)) :: st) σ τ := mj_nx i28_0 rfl
theorem i28_1 : mj_ins 28 1 = some (.istore 1, 2) := by decide +kernel
theorem e28_1 {ls : mj_L} {st : List Value} {σ : mj_S} {τ : mj_T} {a0 a1 : Option Value} {v : Int32} : mj_E 28 1 (a0 :: a1 :: ls) (.int v :: st) σ τ = mj_E 28 2 (a0 :: some (.int v) :: ls) st σ τ := mj_nx i28_1 rfl
theorem i28_2 : mj_ins 28 2 = some (.iconst (0), 3) := by decide +kernel
theorem e28_2 {ls : mj_L} {st : List Value} {σ : mj_S} {τ : mj_T} : mj_E 28 2 ls st σ τ = mj_E 28 3 ls (.int (nI 0) :: st) σ τ := mj_nx i28_2 rfl
theorem i28_3 : mj_ins 28 3 = some (.istore 2, 4) := by decide +kernel
theorem e28_3 {ls : mj_L} {st : List Value} {σ : mj_S} {τ : mj_T} {a0 a1 a2 : Option Value} {v : Int32} : mj_E 28 3 (a0 :: a1 :: a2 :: ls) (.int v :: st) σ τ = mj_E 28 4 (a0 :: a1 :: some (.int v) :: ls) st σ τ := mj_nx i28_3 rfl
theorem i28_4 : mj_ins 28 4 = some (.iconst (0), 5) := by decide +kernel
theorem e28_4 {ls : mj_L} {st : List Value} {σ : mj_S} {τ : mj_T} : mj_E 28 4 ls st σ τ = mj_E 28 5 ls (.int (nI 0) :: st) σ τ := mj_nx i28_4 rfl
theorem i28_5 : mj_ins 28 5 = some (.istore 3, 6) := by decide +kernel
theorem e28_5 {ls : mj_L} {st : List Value} {σ : mj_S} {τ : mj_T} {a0 a1 a2 a3 : Option Value} {v : Int32} : mj_E 28 5 (a0 :: a1 :: a2 :: a3 :: ls) (.int v :: st) σ τ = mj_E 28 6 (a0 :: a1 :: a2 :: some (.int v) :: ls) st σ τ := mj_nx i28_5 rfl
theorem i28_6 : mj_ins 28 6 = some (.iload 3, 7) := by decide +kernel
theorem e28_6 {ls : mj_L} {st : List Value} {σ : mj_S} {τ : mj_T} {a0 a1 a2 : Option Value} {v : Int32} : mj_E 28 6 (a0 :: a1 :: a2 :: some (.int v) :: ls) st σ τ = mj_E 28 7 (a0 :: a1 :: a2 :: some (.int v) :: ls) (.int v :: st) σ τ := mj_nx i28_6 rfl
theorem i28_7 : mj_ins 28 7 = some (.aload 0, 8) := by decide +kernel
theorem e28_7 {ls : mj_L} {st : List Value} {σ : mj_S} {τ : mj_T} {v : Nat} : mj_E 28 7 (some (.ref v) :: ls) st σ τ = mj_E 28 8 (some (.ref v) :: ls) (.ref v :: st) σ τ := mj_nx i28_7 rfl
theorem i28_8 : mj_ins 28 8 = some (.getfield 100, 11) := by decide +kernel
theorem e28_8 {ls : mj_L} {st : List Value} {σ : mj_S} {τ : mj_T} {k : Nat} (h1 : 1 ≤ k) (h2 : k ≤ 3) : mj_E 28 8 ls (.ref k :: st) σ τ = mj_E 28 11 ls (.int (σ k 0) :: st) σ τ := (mj_gf i28_8).trans (congrArg (fun z => mj_ov z _) (fv1_0 h1 h2))
theorem i28_11 : mj_ins 28 11 = some (.if_icmp .ge 42, 14) := by decide +kernel
theorem e28_11 {ls : mj_L} {st : List Value} {σ : mj_S} {τ : mj_T} {x y : Int32} : mj_E 28 11 ls (.int y :: .int x :: st) σ τ = if y ≤ x then mj_E 28 42 ls st σ τ else mj_E 28 14 ls st σ τ := (mj_ifi i28_11).trans (mj_cdT rfl)
theorem i28_14 : mj_ins 28 14 = some (.aload 0, 15) := by decide +kernel
theorem e28_14 {ls : mj_L} {st : List Value} {σ : mj_S} {τ : mj_T} {v : Nat} : mj_E 28 14 (some (.ref v) :: ls) st σ τ = mj_E 28 15 (some (.ref v) :: ls) (.ref v :: st) σ τ := mj_nx i28_14 rfl
theorem i28_15 : mj_ins 28 15 = some (.iload 3, 16) := by decide +kernel
theorem e28_15 {ls : mj_L} {st : List Value} {σ : mj_S} {τ : mj_T} {a0 a1 a2 : Option Value} {v : Int32} : mj_E 28 15 (a0 :: a1 :: a2 :: some (.int v) :: ls) st σ τ = mj_E 28 16 (a0 :: a1 :: a2 :: some (.int v) :: ls) (.int v :: st) σ τ := mj_nx i28_15 rfl
theorem i28_16 : mj_ins 28 16 = some (.iconst (2), 17) := by decide +kernel
theorem e28_16 {ls : mj_L} {st : List Value} {σ : mj_S} {τ : mj_T} : mj_E 28 16 ls st σ τ = mj_E 28 17 ls (.int (nI 2) :: st) σ τ := mj_nx i28_16 rfl
theorem i28_17 : mj_ins 28 17 = some (.invokevirtual 27, 20) := by decide +kernel
theorem e28_17 {ls : mj_L} {σ : mj_S} {τ : mj_T} {r : Nat} {x0 : Int32} {x1 : Int32} : mj_E 28 17 ls [.int x1, .int x0, .ref r] σ τ = if mj_rcv r 1 = true then mj_bd (mj_C 27 [.ref r, .int x0, .int x1] σ τ) (mj_K 28 20 ls []) else none := mj_clV (as := [.int x0, .int x1]) (r := []) i28_17 (by decide +kernel : mj_vk 28 27 2 0 3 false = true) (by decide +kernel)
theorem i28_20 : mj_ins 28 20 = some (.invokestatic 200, 23) := by decide +kernel
theorem e28_20 {ls : mj_L} {σ : mj_S} {τ : mj_T} {x0 : Int32} : mj_E 28 20 ls [.int x0] σ τ = mj_bd (mj_C 200 [.int x0] σ τ) (mj_K 28 23 ls []) := mj_clS (as := [.int x0]) (r := []) i28_20 (by decide +kernel : mj_vk 28 200 1 0 1 false = true) rfl
theorem i28_23 : mj_ins 28 23 = some (.istore 4, 25) := by decide +kernel
theorem e28_23 {ls : mj_L} {st : List Value} {σ : mj_S} {τ : mj_T} {a0 a1 a2 a3 a4 : Option Value} {v : Int32} : mj_E 28 23 (a0 :: a1 :: a2 :: a3 :: a4 :: ls) (.int v :: st) σ τ = mj_E 28 25 (a0 :: a1 :: a2 :: a3 :: some (.int v) :: ls) st σ τ := mj_nx i28_23 rfl
theorem i28_25 : mj_ins 28 25 = some (.iload 4, 27) := by decide +kernel
theorem e28_25 {ls : mj_L} {st : List Value} {σ : mj_S} {τ : mj_T} {a0 a1 a2 a3 : Option Value} {v : Int32} : mj_E 28 25 (a0 :: a1 :: a2 :: a3 :: some (.int v) :: ls) st σ τ = mj_E 28 27 (a0 :: a1 :: a2 :: a3 :: some (.int v) :: ls) (.int v :: st) σ τ := mj_nx i28_25 rfl
theorem i28_27 : mj_ins 28 27 = some (.iload 2, 28) := by decide +kernel
theorem e28_27 {ls : mj_L} {st : List Value} {σ : mj_S} {τ : mj_T} {a0 a1 : Option Value} {v : Int32} : mj_E 28 27 (a0 :: a1 :: some (.int v) :: ls) st σ τ = mj_E 28 28 (a0 :: a1 :: some (.int v) :: ls) (.int v :: st) σ τ := mj_nx i28_27 rfl
theorem i28_28 : mj_ins 28 28 = some (.if_icmp .le 36, 31) := by decide +kernel
theorem e28_28 {ls : mj_L} {st : List Value} {σ : mj_S} {τ : mj_T} {x y : Int32} : mj_E 28 28 ls (.int y :: .int x :: st) σ τ = if x ≤ y then mj_E 28 36 ls st σ τ else mj_E 28 31 ls st σ τ := (mj_ifi i28_28).trans (mj_cdT rfl)
theorem i28_31 : mj_ins 28 31 = some (.iload 3, 32) := by decide +kernel
theorem e28_31 {ls : mj_L} {st : List Value} {σ : mj_S} {τ : mj_T} {a0 a1 a2 : Option Value} {v : Int32} : mj_E 28 31 (a0 :: a1 :: a2 :: some (.int v) :: ls) st σ τ = mj_E 28 32 (a0 :: a1 :: a2 :: some (.int v) :: ls) (.int v :: st) σ τ := mj_nx i28_31 rfl
theorem i28_32 : mj_ins 28 32 = some (.istore 1, 33) := by decide +kernel
theorem e28_32 {ls : mj_L} {st : List Value} {σ : mj_S} {τ : mj_T} {a0 a1 : Option Value} {v : Int32} : mj_E 28 32 (a0 :: a1 :: ls) (.int v :: st) σ τ = mj_E 28 33 (a0 :: some (.int v) :: ls) st σ τ := mj_nx i28_32 rfl
theorem i28_33 : mj_ins 28 33 = some (.iload 4, 35) := by decide +kernel
theorem e28_33 {ls : mj_L} {st : List Value} {σ : mj_S} {τ : mj_T} {a0 a1 a2 a3 : Option Value} {v : Int32} : mj_E 28 33 (a0 :: a1 :: a2 :: a3 :: some (.int v) :: ls) st σ τ = mj_E 28 35 (a0 :: a1 :: a2 :: a3 :: some (.int v) :: ls) (.int v :: st) σ τ := mj_nx i28_33 rfl
theorem i28_35 : mj_ins 28 35 = some (.istore 2, 36) := by decide +kernel
theorem e28_35 {ls : mj_L} {st : List Value} {σ : mj_S} {τ : mj_T} {a0 a1 a2 : Option Value} {v : Int32} : mj_E 28 35 (a0 :: a1 :: a2 :: ls) (.int v :: st) σ τ = mj_E 28 36 (a0 :: a1 :: some (.int v) :: ls) st σ τ := mj_nx i28_35 rfl
theorem i28_36 : mj_ins 28 36 = some (.iinc 3 (1), 39) := by decide +kernel
theorem e28_36 {ls : mj_L} {st : List Value} {σ : mj_S} {τ : mj_T} {a0 a1 a2 : Option Value} {v : Int32} : mj_E 28 36 (a0 :: a1 :: a2 :: some (.int v) :: ls) st σ τ = mj_E 28 39 (a0 :: a1 :: a2 :: some (.int (v + nI 1)) :: ls) st σ τ := mj_nx i28_36 rfl
theorem i28_39 : mj_ins 28 39 = some (.goto 6, 42) := by decide +kernel
theorem e28_39 {ls : mj_L} {st : List Value} {σ : mj_S} {τ : mj_T} : mj_E 28 39 ls st σ τ = mj_E 28 6 ls st σ τ := mj_nx i28_39 rfl
theorem i28_42 : mj_ins 28 42 = some (.iload 1, 43) := by decide +kernel
theorem e28_42 {ls : mj_L} {st : List Value} {σ : mj_S} {τ : mj_T} {a0 : Option Value} {v : Int32} : mj_E 28 42 (a0 :: some (.int v) :: ls) st σ τ = mj_E 28 43 (a0 :: some (.int v) :: ls) (.int v :: st) σ τ := mj_nx i28_42 rfl
theorem i28_43 : mj_ins 28 43 = some (.ireturn, 44) := by decide +kernel
theorem e28_43 {ls : mj_L} {σ : mj_S} {τ : mj_T} {v : Int32} : mj_E 28 43 ls [.int v] σ τ = some (some (.int v), σ, τ) := mj_irt i28_43 rfl
theorem c29 {σ : mj_S} {τ : mj_T} {r : Nat} : mj_C 29 [.ref r] σ τ = mj_E 29 0 [some (.ref r), none, none] [] σ τ := rfl
theorem i29_0 : mj_ins 29 0 = some (.iconst (0), 1) := by decide +kernel
theorem e29_0 {ls : mj_L} {st : List Value} {σ : mj_S} {τ : mj_T} : mj_E 29 0 ls st σ τ = mj_E 29 1 ls (.int (nI 0) :: st) σ τ := mj_nx i29_0 rfl
theorem i29_1 : mj_ins 29 1 = some (.istore 1, 2) := by decide +kernel
theorem e29_1 {ls : mj_L} {st : List Value} {σ : mj_S} {τ : mj_T} {a0 a1 : Option Value} {v : Int32} : mj_E 29 1 (a0 :: a1 :: ls) (.int v :: st) σ τ = mj_E 29 2 (a0 :: some (.int v) :: ls) st σ τ := mj_nx i29_1 rfl
theorem i29_2 : mj_ins 29 2 = some (.iconst (0), 3) := by decide +kernel
theorem e29_2 {ls : mj_L} {st : List Value} {σ : mj_S} {τ : mj_T} : mj_E 29 2 ls st σ τ = mj_E 29 3 ls (.int (nI 0) :: st) σ τ := mj_nx i29_2 rfl
theorem i29_3 : mj_ins 29 3 = some (.istore 2, 4) := by decide +kernel
theorem e29_3 {ls : mj_L} {st : List Value} {σ : mj_S} {τ : mj_T} {a0 a1 a2 : Option Value} {v : Int32} : mj_E 29 3 (a0 :: a1 :: a2 :: ls) (.int v :: st) σ τ = mj_E 29 4 (a0 :: a1 :: some (.int v) :: ls) st σ τ := mj_nx i29_3 rfl
theorem i29_4 : mj_ins 29 4 = some (.iload 2, 5) := by decide +kernel
theorem e29_4 {ls : mj_L} {st : List Value} {σ : mj_S} {τ : mj_T} {a0 a1 : Option Value} {v : Int32} : mj_E 29 4 (a0 :: a1 :: some (.int v) :: ls) st σ τ = mj_E 29 5 (a0 :: a1 :: some (.int v) :: ls) (.int v :: st) σ τ := mj_nx i29_4 rfl
theorem i29_5 : mj_ins 29 5 = some (.aload 0, 6) := by decide +kernel
theorem e29_5 {ls : mj_L} {st : List Value} {σ : mj_S} {τ : mj_T} {v : Nat} : mj_E 29 5 (some (.ref v) :: ls) st σ τ = mj_E 29 6 (some (.ref v) :: ls) (.ref v :: st) σ τ := mj_nx i29_5 rfl
theorem i29_6 : mj_ins 29 6 = some (.getfield 100, 9) := by decide +kernel
theorem e29_6 {ls : mj_L} {st : List Value} {σ : mj_S} {τ : mj_T} {k : Nat} (h1 : 1 ≤ k) (h2 : k ≤ 3) : mj_E 29 6 ls (.ref k :: st) σ τ = mj_E 29 9 ls (.int (σ k 0) :: st) σ τ := (mj_gf i29_6).trans (congrArg (fun z => mj_ov z _) (fv1_0 h1 h2))
theorem i29_9 : mj_ins 29 9 = some (.if_icmp .ge 39, 12) := by decide +kernel
theorem e29_9 {ls : mj_L} {st : List Value} {σ : mj_S} {τ : mj_T} {x y : Int32} : mj_E 29 9 ls (.int y :: .int x :: st) σ τ = if y ≤ x then mj_E 29 39 ls st σ τ else mj_E 29 12 ls st σ τ := (mj_ifi i29_9).trans (mj_cdT rfl)
theorem i29_12 : mj_ins 29 12 = some (.iload 1, 13) := by decide +kernel
theorem e29_12 {ls : mj_L} {st : List Value} {σ : mj_S} {τ : mj_T} {a0 : Option Value} {v : Int32} : mj_E 29 12 (a0 :: some (.int v) :: ls) st σ τ = mj_E 29 13 (a0 :: some (.int v) :: ls) (.int v :: st) σ τ := mj_nx i29_12 rfl
theorem i29_13 : mj_ins 29 13 = some (.aload 0, 14) := by decide +kernel
theorem e29_13 {ls : mj_L} {st : List Value} {σ : mj_S} {τ : mj_T} {v : Nat} : mj_E 29 13 (some (.ref v) :: ls) st σ τ = mj_E 29 14 (some (.ref v) :: ls) (.ref v :: st) σ τ := mj_nx i29_13 rfl
theorem i29_14 : mj_ins 29 14 = some (.iload 2, 15) := by decide +kernel
theorem e29_14 {ls : mj_L} {st : List Value} {σ : mj_S} {τ : mj_T} {a0 a1 : Option Value} {v : Int32} : mj_E 29 14 (a0 :: a1 :: some (.int v) :: ls) st σ τ = mj_E 29 15 (a0 :: a1 :: some (.int v) :: ls) (.int v :: st) σ τ := mj_nx i29_14 rfl
theorem i29_15 : mj_ins 29 15 = some (.invokevirtual 26, 18) := by decide +kernel
theorem e29_15 {ls : mj_L} {σ : mj_S} {τ : mj_T} {r : Nat} {x0 : Int32} {w0 : Value} : mj_E 29 15 ls [.int x0, .ref r, w0] σ τ = if mj_rcv r 1 = true then mj_bd (mj_C 26 [.ref r, .int x0] σ τ) (mj_K 29 18 ls [w0]) else none := mj_clV (as := [.int x0]) (r := [w0]) i29_15 (by decide +kernel : mj_vk 29 26 1 1 2 false = true) (by decide +kernel)
theorem i29_18 : mj_ins 29 18 = some (.aload 0, 19) := by decide +kernel
theorem e29_18 {ls : mj_L} {st : List Value} {σ : mj_S} {τ : mj_T} {v : Nat} : mj_E 29 18 (some (.ref v) :: ls) st σ τ = mj_E 29 19 (some (.ref v) :: ls) (.ref v :: st) σ τ := mj_nx i29_18 rfl
theorem i29_19 : mj_ins 29 19 = some (.iload 2, 20) := by decide +kernel
theorem e29_19 {ls : mj_L} {st : List Value} {σ : mj_S} {τ : mj_T} {a0 a1 : Option Value} {v : Int32} : mj_E 29 19 (a0 :: a1 :: some (.int v) :: ls) st σ τ = mj_E 29 20 (a0 :: a1 :: some (.int v) :: ls) (.int v :: st) σ τ := mj_nx i29_19 rfl
theorem i29_20 : mj_ins 29 20 = some (.invokevirtual 15, 23) := by decide +kernel
theorem e29_20 {ls : mj_L} {σ : mj_S} {τ : mj_T} {r : Nat} {x0 : Int32} {w0 w1 : Value} : mj_E 29 20 ls [.int x0, .ref r, w0, w1] σ τ = if mj_rcv r 1 = true then mj_bd (mj_C 15 [.ref r, .int x0] σ τ) (mj_K 29 23 ls [w0, w1]) else none := mj_clV (as := [.int x0]) (r := [w0, w1]) i29_20 (by decide +kernel : mj_vk 29 15 1 2 2 false = true) (by decide +kernel)
theorem i29_23 : mj_ins 29 23 = some (.if_icmp .le 30, 26) := by decide +kernel
theorem e29_23 {ls : mj_L} {st : List Value} {σ : mj_S} {τ : mj_T} {x y : Int32} : mj_E 29 23 ls (.int y :: .int x :: st) σ τ = if x ≤ y then mj_E 29 30 ls st σ τ else mj_E 29 26 ls st σ τ := (mj_ifi i29_23).trans (mj_cdT rfl)
theorem i29_26 : mj_ins 29 26 = some (.iconst (1), 27) := by decide +kernel
theorem e29_26 {ls : mj_L} {st : List Value} {σ : mj_S} {τ : mj_T} : mj_E 29 26 ls st σ τ = mj_E 29 27 ls (.int (nI 1) :: st) σ τ := mj_nx i29_26 rfl
theorem i29_27 : mj_ins 29 27 = some (.goto 31, 30) := by decide +kernel
theorem e29_27 {ls : mj_L} {st : List Value} {σ : mj_S} {τ : mj_T} : mj_E 29 27 ls st σ τ = mj_E 29 31 ls st σ τ := mj_nx i29_27 rfl
theorem i29_30 : mj_ins 29 30 = some (.iconst (0), 31) := by decide +kernel
theorem e29_30 {ls : mj_L} {st : List Value} {σ : mj_S} {τ : mj_T} : mj_E 29 30 ls st σ τ = mj_E 29 31 ls (.int (nI 0) :: st) σ τ := mj_nx i29_30 rfl
theorem i29_31 : mj_ins 29 31 = some (.iadd, 32) := by decide +kernel
theorem e29_31 {ls : mj_L} {st : List Value} {σ : mj_S} {τ : mj_T} {x y : Int32} : mj_E 29 31 ls (.int y :: .int x :: st) σ τ = mj_E 29 32 ls (.int (x + y) :: st) σ τ := mj_nx i29_31 rfl
theorem i29_32 : mj_ins 29 32 = some (.istore 1, 33) := by decide +kernel
theorem e29_32 {ls : mj_L} {st : List Value} {σ : mj_S} {τ : mj_T} {a0 a1 : Option Value} {v : Int32} : mj_E 29 32 (a0 :: a1 :: ls) (.int v :: st) σ τ = mj_E 29 33 (a0 :: some (.int v) :: ls) st σ τ := mj_nx i29_32 rfl
theorem i29_33 : mj_ins 29 33 = some (.iinc 2 (1), 36) := by decide +kernel
theorem e29_33 {ls : mj_L} {st : List Value} {σ : mj_S} {τ : mj_T} {a0 a1 : Option Value} {v : Int32} : mj_E 29 33 (a0 :: a1 :: some (.int v) :: ls) st σ τ = mj_E 29 36 (a0 :: a1 :: some (.int (v + nI 1)) :: ls) st σ τ := mj_nx i29_33 rfl
theorem i29_36 : mj_ins 29 36 = some (.goto 4, 39) := by decide +kernel
theorem e29_36 {ls : mj_L} {st : List Value} {σ : mj_S} {τ : mj_T} : mj_E 29 36 ls st σ τ = mj_E 29 4 ls st σ τ := mj_nx i29_36 rfl
theorem i29_39 : mj_ins 29 39 = some (.iload 1, 40) := by decide +kernel
theorem e29_39 {ls : mj_L} {st : List Value} {σ : mj_S} {τ : mj_T} {a0 : Option Value} {v : Int32} : mj_E 29 39 (a0 :: some (.int v) :: ls) st σ τ = mj_E 29 40 (a0 :: some (.int v) :: ls) (.int v :: st) σ τ := mj_nx i29_39 rfl
theorem i29_40 : mj_ins 29 40 = some (.ireturn, 41) := by decide +kernel
theorem e29_40 {ls : mj_L} {σ : mj_S} {τ : mj_T} {v : Int32} : mj_E 29 40 ls [.int v] σ τ = some (some (.int v), σ, τ) := mj_irt i29_40 rfl
theorem c30 {σ : mj_S} {τ : mj_T} {r : Nat} {x0 : Int32} {x1 : Int32} : mj_C 30 [.ref r, .int x0, .int x1] σ τ = mj_E 30 0 [some (.ref r), some (.int x0), some (.int x1), none, none] [] σ τ := rfl
theorem i30_0 : mj_ins 30 0 = some (.aload 0, 1) := by decide +kernel
theorem e30_0 {ls : mj_L} {st : List Value} {σ : mj_S} {τ : mj_T} {v : Nat} : mj_E 30 0 (some (.ref v) :: ls) st σ τ = mj_E 30 1 (some (.ref v) :: ls) (.ref v :: st) σ τ := mj_nx i30_0 rfl
theorem i30_1 : mj_ins 30 1 = some (.iload 1, 2) := by decide +kernel
theorem e30_1 {ls : mj_L} {st : List Value} {σ : mj_S} {τ : mj_T} {a0 : Option Value} {v : Int32} : mj_E 30 1 (a0 :: some (.int v) :: ls) st σ τ = mj_E 30 2 (a0 :: some (.int v) :: ls) (.int v :: st) σ τ := mj_nx i30_1 rfl
theorem i30_2 : mj_ins 30 2 = some (.invokevirtual 25, 5) := by decide +kernel
theorem e30_2 {ls : mj_L} {σ : mj_S} {τ : mj_T} {r : Nat} {x0 : Int32} : mj_E 30 2 ls [.int x0, .ref r] σ τ = if mj_rcv r 1 = true then mj_bd (mj_C 25 [.ref r, .int x0] σ τ) (mj_K 30 5 ls []) else none := mj_clV (as := [.int x0]) (r := []) i30_2 (by decide +kernel : mj_vk 30 25 1 0 2 false = true) (by decide +kernel)
theorem i30_5 : mj_ins 30 5 = some (.getfield 1, 8) := by decide +kernel
theorem e30_5 {ls : mj_L} {st : List Value} {σ : mj_S} {τ : mj_T} {k : Nat} (h1 : 4 ≤ k) (h2 : k ≤ 6) : mj_E 30 5 ls (.ref k :: st) σ τ = mj_E 30 8 ls (.int (σ k 1) :: st) σ τ := (mj_gf i30_5).trans (congrArg (fun z => mj_ov z _) (fv0_1 h1 h2))
theorem i30_8 : mj_ins 30 8 = some (.istore 3, 9) := by decide +kernel
theorem e30_8 {ls : mj_L} {st : List Value} {σ : mj_S} {τ : mj_T} {a0 a1 a2 a3 : Option Value} {v : Int32} : mj_E 30 8 (a0 :: a1 :: a2 :: a3 :: ls) (.int v :: st) σ τ = mj_E 30 9 (a0 :: a1 :: a2 :: some (.int v) :: ls) st σ τ := mj_nx i30_8 rfl
theorem i30_9 : mj_ins 30 9 = some (.aload 0, 10) := by decide +kernel
theorem e30_9 {ls : mj_L} {st : List Value} {σ : mj_S} {τ : mj_T} {v : Nat} : mj_E 30 9 (some (.ref v) :: ls) st σ τ = mj_E 30 10 (some (.ref v) :: ls) (.ref v :: st) σ τ := mj_nx i30_9 rfl
theorem i30_10 : mj_ins 30 10 = some (.iload 2, 11) := by decide +kernel
theorem e30_10 {ls : mj_L} {st : List Value} {σ : mj_S} {τ : mj_T} {a0 a1 : Option Value} {v : Int32} : mj_E 30 10 (a0 :: a1 :: some (.int v) :: ls) st σ τ = mj_E 30 11 (a0 :: a1 :: some (.int v) :: ls) (.int v :: st) σ τ := mj_nx i30_10 rfl
theorem i30_11 : mj_ins 30 11 = some (.invokevirtual 25, 14) := by decide +kernel
theorem e30_11 {ls : mj_L} {σ : mj_S} {τ : mj_T} {r : Nat} {x0 : Int32} : mj_E 30 11 ls [.int x0, .ref r] σ τ = if mj_rcv r 1 = true then mj_bd (mj_C 25 [.ref r, .int x0] σ τ) (mj_K 30 14 ls []) else none := mj_clV (as := [.int x0]) (r := []) i30_11 (by decide +kernel : mj_vk 30 25 1 0 2 false = true) (by decide +kernel)
theorem i30_14 : mj_ins 30 14 = some (.getfield 1, 17) := by decide +kernel
theorem e30_14 {ls : mj_L} {st : List Value} {σ : mj_S} {τ : mj_T} {k : Nat} (h1 : 4 ≤ k) (h2 : k ≤ 6) : mj_E 30 14 ls (.ref k :: st) σ τ = mj_E 30 17 ls (.int (σ k 1) :: st) σ τ := (mj_gf i30_14).trans (congrArg (fun z => mj_ov z _) (fv0_1 h1 h2))
theorem i30_17 : mj_ins 30 17 = some (.istore 4, 19) := by decide +kernel
theorem e30_17 {ls : mj_L} {st : List Value} {σ : mj_S} {τ : mj_T} {a0 a1 a2 a3 a4 : Option Value} {v : Int32} : mj_E 30 17 (a0 :: a1 :: a2 :: a3 :: a4 :: ls) (.int v :: st) σ τ = mj_E 30 19 (a0 :: a1 :: a2 :: a3 :: some (.int v) :: ls) st σ τ := mj_nx i30_17 rfl
theorem i30_19 : mj_ins 30 19 = some (.iload 3, 20) := by decide +kernel
theorem e30_19 {ls : mj_L} {st : List Value} {σ : mj_S} {τ : mj_T} {a0 a1 a2 : Option Value} {v : Int32} : mj_E 30 19 (a0 :: a1 :: a2 :: some (.int v) :: ls) st σ τ = mj_E 30 20 (a0 :: a1 :: a2 :: some (.int v) :: ls) (.int v :: st) σ τ := mj_nx i30_19 rfl
theorem i30_20 : mj_ins 30 20 = some (.iconst (-1), 21) := by decide +kernel
theorem e30_20 {ls : mj_L} {st : List Value} {σ : mj_S} {τ : mj_T} : mj_E 30 20 ls st σ τ = mj_E 30 21 ls (.int ((-1)) :: st) σ τ := mj_nx i30_20 rfl
theorem i30_21 : mj_ins 30 21 = some (.if_icmp .eq 91, 24) := by decide +kernel
theorem e30_21 {ls : mj_L} {st : List Value} {σ : mj_S} {τ : mj_T} {x y : Int32} : mj_E 30 21 ls (.int y :: .int x :: st) σ τ = if x = y then mj_E 30 91 ls st σ τ else mj_E 30 24 ls st σ τ := (mj_ifi i30_21).trans (mj_cdT rfl)
theorem i30_24 : mj_ins 30 24 = some (.iload 4, 26) := by decide +kernel
theorem e30_24 {ls : mj_L} {st : List Value} {σ : mj_S} {τ : mj_T} {a0 a1 a2 a3 : Option Value} {v : Int32} : mj_E 30 24 (a0 :: a1 :: a2 :: a3 :: some (.int v) :: ls) st σ τ = mj_E 30 26 (a0 :: a1 :: a2 :: a3 :: some (.int v) :: ls) (.int v :: st) σ τ := mj_nx i30_24 rfl
theorem i30_26 : mj_ins 30 26 = some (.iconst (-1), 27) := by decide +kernel
theorem e30_26 {ls : mj_L} {st : List Value} {σ : mj_S} {τ : mj_T} : mj_E 30 26 ls st σ τ = mj_E 30 27 ls (.int ((-1)) :: st) σ τ := mj_nx i30_26 rfl
theorem i30_27 : mj_ins 30 27 = some (.if_icmp .eq 91, 30) := by decide +kernel
theorem e30_27 {ls : mj_L} {st : List Value} {σ : mj_S} {τ : mj_T} {x y : Int32} : mj_E 30 27 ls (.int y :: .int x :: st) σ τ = if x = y then mj_E 30 91 ls st σ τ else mj_E 30 30 ls st σ τ := (mj_ifi i30_27).trans (mj_cdT rfl)
theorem i30_30 : mj_ins 30 30 = some (.iload 3, 31) := by decide +kernel
theorem e30_30 {ls : mj_L} {st : List Value} {σ : mj_S} {τ : mj_T} {a0 a1 a2 : Option Value} {v : Int32} : mj_E 30 30 (a0 :: a1 :: a2 :: some (.int v) :: ls) st σ τ = mj_E 30 31 (a0 :: a1 :: a2 :: some (.int v) :: ls) (.int v :: st) σ τ := mj_nx i30_30 rfl
theorem i30_31 : mj_ins 30 31 = some (.iload 4, 33) := by decide +kernel
theorem e30_31 {ls : mj_L} {st : List Value} {σ : mj_S} {τ : mj_T} {a0 a1 a2 a3 : Option Value} {v : Int32} : mj_E 30 31 (a0 :: a1 :: a2 :: a3 :: some (.int v) :: ls) st σ τ = mj_E 30 33 (a0 :: a1 :: a2 :: a3 :: some (.int v) :: ls) (.int v :: st) σ τ := mj_nx i30_31 rfl
theorem i30_33 : mj_ins 30 33 = some (.if_icmp .eq 91, 36) := by decide +kernel
theorem e30_33 {ls : mj_L} {st : List Value} {σ : mj_S} {τ : mj_T} {x y : Int32} : mj_E 30 33 ls (.int y :: .int x :: st) σ τ = if x = y then mj_E 30 91 ls st σ τ else mj_E 30 36 ls st σ τ := (mj_ifi i30_33).trans (mj_cdT rfl)
theorem i30_36 : mj_ins 30 36 = some (.aload 0, 37) := by decide +kernel
theorem e30_36 {ls : mj_L} {st : List Value} {σ : mj_S} {τ : mj_T} {v : Nat} : mj_E 30 36 (some (.ref v) :: ls) st σ τ = mj_E 30 37 (some (.ref v) :: ls) (.ref v :: st) σ τ := mj_nx i30_36 rfl
theorem i30_37 : mj_ins 30 37 = some (.iload 2, 38) := by decide +kernel
theorem e30_37 {ls : mj_L} {st : List Value} {σ : mj_S} {τ : mj_T} {a0 a1 : Option Value} {v : Int32} : mj_E 30 37 (a0 :: a1 :: some (.int v) :: ls) st σ τ = mj_E 30 38 (a0 :: a1 :: some (.int v) :: ls) (.int v :: st) σ τ := mj_nx i30_37 rfl
theorem i30_38 : mj_ins 30 38 = some (.iload 3, 39) := by decide +kernel
theorem e30_38 {ls : mj_L} {st : List Value} {σ : mj_S} {τ : mj_T} {a0 a1 a2 : Option Value} {v : Int32} : mj_E 30 38 (a0 :: a1 :: a2 :: some (.int v) :: ls) st σ τ = mj_E 30 39 (a0 :: a1 :: a2 :: some (.int v) :: ls) (.int v :: st) σ τ := mj_nx i30_38 rfl
theorem i30_39 : mj_ins 30 39 = some (.invokevirtual 14, 42) := by decide +kernel
theorem e30_39 {ls : mj_L} {σ : mj_S} {τ : mj_T} {r : Nat} {x0 : Int32} {x1 : Int32} : mj_E 30 39 ls [.int x1, .int x0, .ref r] σ τ = if mj_rcv r 1 = true then mj_bd (mj_C 14 [.ref r, .int x0, .int x1] σ τ) (mj_K 30 42 ls []) else none := mj_clV (as := [.int x0, .int x1]) (r := []) i30_39 (by decide +kernel : mj_vk 30 14 2 0 3 false = true) (by decide +kernel)
theorem i30_42 : mj_ins 30 42 = some (.ifCond .ne 91, 45) := by decide +kernel
theorem e30_42 {ls : mj_L} {st : List Value} {σ : mj_S} {τ : mj_T} {x : Int32} : mj_E 30 42 ls (.int x :: st) σ τ = if x = 0 then mj_E 30 45 ls st σ τ else mj_E 30 91 ls st σ τ := (mj_ifc i30_42).trans (mj_cdF rfl)
theorem i30_45 : mj_ins 30 45 = some (.aload 0, 46) := by decide +kernel
theorem e30_45 {ls : mj_L} {st : List Value} {σ : mj_S} {τ : mj_T} {v : Nat} : mj_E 30 45 (some (.ref v) :: ls) st σ τ = mj_E 30 46 (some (.ref v) :: ls) (.ref v :: st) σ τ := mj_nx i30_45 rfl
theorem i30_46 : mj_ins 30 46 = some (.iload 1, 47) := by decide +kernel
theorem e30_46 {ls : mj_L} {st : List Value} {σ : mj_S} {τ : mj_T} {a0 : Option Value} {v : Int32} : mj_E 30 46 (a0 :: some (.int v) :: ls) st σ τ = mj_E 30 47 (a0 :: some (.int v) :: ls) (.int v :: st) σ τ := mj_nx i30_46 rfl
theorem i30_47 : mj_ins 30 47 = some (.iload 4, 49) := by decide +kernel
theorem e30_47 {ls : mj_L} {st : List Value} {σ : mj_S} {τ : mj_T} {a0 a1 a2 a3 : Option Value} {v : Int32} : mj_E 30 47 (a0 :: a1 :: a2 :: a3 :: some (.int v) :: ls) st σ τ = mj_E 30 49 (a0 :: a1 :: a2 :: a3 :: some (.int v) :: ls) (.int v :: st) σ τ := mj_nx i30_47 rfl
theorem i30_49 : mj_ins 30 49 = some (.invokevirtual 14, 52) := by decide +kernel
theorem e30_49 {ls : mj_L} {σ : mj_S} {τ : mj_T} {r : Nat} {x0 : Int32} {x1 : Int32} : mj_E 30 49 ls [.int x1, .int x0, .ref r] σ τ = if mj_rcv r 1 = true then mj_bd (mj_C 14 [.ref r, .int x0, .int x1] σ τ) (mj_K 30 52 ls []) else none := mj_clV (as := [.int x0, .int x1]) (r := []) i30_49 (by decide +kernel : mj_vk 30 14 2 0 3 false = true) (by decide +kernel)
theorem i30_52 : mj_ins 30 52 = some (.ifCond .ne 91, 55) := by decide +kernel
theorem e30_52 {ls : mj_L} {st : List Value} {σ : mj_S} {τ : mj_T} {x : Int32} : mj_E 30 52 ls (.int x :: st) σ τ = if x = 0 then mj_E 30 55 ls st σ τ else mj_E 30 91 ls st σ τ := (mj_ifc i30_52).trans (mj_cdF rfl)
theorem i30_55 : mj_ins 30 55 = some (.aload 0, 56) := by decide +kernel
theorem e30_55 {ls : mj_L} {st : List Value} {σ : mj_S} {τ : mj_T} {v : Nat} : mj_E 30 55 (some (.ref v) :: ls) st σ τ = mj_E 30 56 (some (.ref v) :: ls) (.ref v :: st) σ τ := mj_nx i30_55 rfl
theorem i30_56 : mj_ins 30 56 = some (.iload 1, 57) := by decide +kernel
theorem e30_56 {ls : mj_L} {st : List Value} {σ : mj_S} {τ : mj_T} {a0 : Option Value} {v : Int32} : mj_E 30 56 (a0 :: some (.int v) :: ls) st σ τ = mj_E 30 57 (a0 :: some (.int v) :: ls) (.int v :: st) σ τ := mj_nx i30_56 rfl
theorem i30_57 : mj_ins 30 57 = some (.iload 4, 59) := by decide +kernel
theorem e30_57 {ls : mj_L} {st : List Value} {σ : mj_S} {τ : mj_T} {a0 a1 a2 a3 : Option Value} {v : Int32} : mj_E 30 57 (a0 :: a1 :: a2 :: a3 :: some (.int v) :: ls) st σ τ = mj_E 30 59 (a0 :: a1 :: a2 :: a3 :: some (.int v) :: ls) (.int v :: st) σ τ := mj_nx i30_57 rfl
theorem i30_59 : mj_ins 30 59 = some (.invokevirtual 21, 62) := by decide +kernel
theorem e30_59 {ls : mj_L} {σ : mj_S} {τ : mj_T} {r : Nat} {x0 : Int32} {x1 : Int32} : mj_E 30 59 ls [.int x1, .int x0, .ref r] σ τ = if mj_rcv r 1 = true then mj_bd (mj_C 21 [.ref r, .int x0, .int x1] σ τ) (mj_K 30 62 ls []) else none := mj_clV (as := [.int x0, .int x1]) (r := []) i30_59 (by decide +kernel : mj_vk 30 21 2 0 3 false = true) (by decide +kernel)
theorem i30_62 : mj_ins 30 62 = some (.aload 0, 63) := by decide +kernel
theorem e30_62 {ls : mj_L} {st : List Value} {σ : mj_S} {τ : mj_T} {v : Nat} : mj_E 30 62 (some (.ref v) :: ls) st σ τ = mj_E 30 63 (some (.ref v) :: ls) (.ref v :: st) σ τ := mj_nx i30_62 rfl
theorem i30_63 : mj_ins 30 63 = some (.iload 1, 64) := by decide +kernel
theorem e30_63 {ls : mj_L} {st : List Value} {σ : mj_S} {τ : mj_T} {a0 : Option Value} {v : Int32} : mj_E 30 63 (a0 :: some (.int v) :: ls) st σ τ = mj_E 30 64 (a0 :: some (.int v) :: ls) (.int v :: st) σ τ := mj_nx i30_63 rfl
theorem i30_64 : mj_ins 30 64 = some (.iload 3, 65) := by decide +kernel
theorem e30_64 {ls : mj_L} {st : List Value} {σ : mj_S} {τ : mj_T} {a0 a1 a2 : Option Value} {v : Int32} : mj_E 30 64 (a0 :: a1 :: a2 :: some (.int v) :: ls) st σ τ = mj_E 30 65 (a0 :: a1 :: a2 :: some (.int v) :: ls) (.int v :: st) σ τ := mj_nx i30_64 rfl
theorem i30_65 : mj_ins 30 65 = some (.invokevirtual 21, 68) := by decide +kernel
theorem e30_65 {ls : mj_L} {σ : mj_S} {τ : mj_T} {r : Nat} {x0 : Int32} {x1 : Int32} {w0 : Value} : mj_E 30 65 ls [.int x1, .int x0, .ref r, w0] σ τ = if mj_rcv r 1 = true then mj_bd (mj_C 21 [.ref r, .int x0, .int x1] σ τ) (mj_K 30 68 ls [w0]) else none := mj_clV (as := [.int x0, .int x1]) (r := [w0]) i30_65 (by decide +kernel : mj_vk 30 21 2 1 3 false = true) (by decide +kernel)
theorem i30_68 : mj_ins 30 68 = some (.if_icmp .le 91, 71) := by decide +kernel
theorem e30_68 {ls : mj_L} {st : List Value} {σ : mj_S} {τ : mj_T} {x y : Int32} : mj_E 30 68 ls (.int y :: .int x :: st) σ τ = if x ≤ y then mj_E 30 91 ls st σ τ else mj_E 30 71 ls st σ τ := (mj_ifi i30_68).trans (mj_cdT rfl)
theorem i30_71 : mj_ins 30 71 = some (.aload 0, 72) := by decide +kernel
theorem e30_71 {ls : mj_L} {st : List Value} {σ : mj_S} {τ : mj_T} {v : Nat} : mj_E 30 71 (some (.ref v) :: ls) st σ τ = mj_E 30 72 (some (.ref v) :: ls) (.ref v :: st) σ τ := mj_nx i30_71 rfl
theorem i30_72 : mj_ins 30 72 = some (.iload 2, 73) := by decide +kernel
theorem e30_72 {ls : mj_L} {st : List Value} {σ : mj_S} {τ : mj_T} {a0 a1 : Option Value} {v : Int32} : mj_E 30 72 (a0 :: a1 :: some (.int v) :: ls) st σ τ = mj_E 30 73 (a0 :: a1 :: some (.int v) :: ls) (.int v :: st) σ τ := mj_nx i30_72 rfl
theorem i30_73 : mj_ins 30 73 = some (.iload 3, 74) := by decide +kernel
theorem e30_73 {ls : mj_L} {st : List Value} {σ : mj_S} {τ : mj_T} {a0 a1 a2 : Option Value} {v : Int32} : mj_E 30 73 (a0 :: a1 :: a2 :: some (.int v) :: ls) st σ τ = mj_E 30 74 (a0 :: a1 :: a2 :: some (.int v) :: ls) (.int v :: st) σ τ := mj_nx i30_73 rfl
theorem i30_74 : mj_ins 30 74 = some (.invokevirtual 21, 77) := by decide +kernel
theorem e30_74 {ls : mj_L} {σ : mj_S} {τ : mj_T} {r : Nat} {x0 : Int32} {x1 : Int32} : mj_E 30 74 ls [.int x1, .int x0, .ref r] σ τ = if mj_rcv r 1 = true then mj_bd (mj_C 21 [.ref r, .int x0, .int x1] σ τ) (mj_K 30 77 ls []) else none := mj_clV (as := [.int x0, .int x1]) (r := []) i30_74 (by decide +kernel : mj_vk 30 21 2 0 3 false = true) (by decide +kernel)
theorem i30_77 : mj_ins 30 77 = some (.aload 0, 78) := by decide +kernel
theorem e30_77 {ls : mj_L} {st : List Value} {σ : mj_S} {τ : mj_T} {v : Nat} : mj_E 30 77 (some (.ref v) :: ls) st σ τ = mj_E 30 78 (some (.ref v) :: ls) (.ref v :: st) σ τ := mj_nx i30_77 rfl
theorem i30_78 : mj_ins 30 78 = some (.iload 2, 79) := by decide +kernel
theorem e30_78 {ls : mj_L} {st : List Value} {σ : mj_S} {τ : mj_T} {a0 a1 : Option Value} {v : Int32} : mj_E 30 78 (a0 :: a1 :: some (.int v) :: ls) st σ τ = mj_E 30 79 (a0 :: a1 :: some (.int v) :: ls) (.int v :: st) σ τ := mj_nx i30_78 rfl
theorem i30_79 : mj_ins 30 79 = some (.iload 4, 81) := by decide +kernel
theorem e30_79 {ls : mj_L} {st : List Value} {σ : mj_S} {τ : mj_T} {a0 a1 a2 a3 : Option Value} {v : Int32} : mj_E 30 79 (a0 :: a1 :: a2 :: a3 :: some (.int v) :: ls) st σ τ = mj_E 30 81 (a0 :: a1 :: a2 :: a3 :: some (.int v) :: ls) (.int v :: st) σ τ := mj_nx i30_79 rfl
theorem i30_81 : mj_ins 30 81 = some (.invokevirtual 21, 84) := by decide +kernel
theorem e30_81 {ls : mj_L} {σ : mj_S} {τ : mj_T} {r : Nat} {x0 : Int32} {x1 : Int32} {w0 : Value} : mj_E 30 81 ls [.int x1, .int x0, .ref r, w0] σ τ = if mj_rcv r 1 = true then mj_bd (mj_C 21 [.ref r, .int x0, .int x1] σ τ) (mj_K 30 84 ls [w0]) else none := mj_clV (as := [.int x0, .int x1]) (r := [w0]) i30_81 (by decide +kernel : mj_vk 30 21 2 1 3 false = true) (by decide +kernel)
theorem i30_84 : mj_ins 30 84 = some (.if_icmp .le 91, 87) := by decide +kernel
theorem e30_84 {ls : mj_L} {st : List Value} {σ : mj_S} {τ : mj_T} {x y : Int32} : mj_E 30 84 ls (.int y :: .int x :: st) σ τ = if x ≤ y then mj_E 30 91 ls st σ τ else mj_E 30 87 ls st σ τ := (mj_ifi i30_84).trans (mj_cdT rfl)
theorem i30_87 : mj_ins 30 87 = some (.iconst (1), 88) := by decide +kernel
theorem e30_87 {ls : mj_L} {st : List Value} {σ : mj_S} {τ : mj_T} : mj_E 30 87 ls st σ τ = mj_E 30 88 ls (.int (nI 1) :: st) σ τ := mj_nx i30_87 rfl
theorem i30_88 : mj_ins 30 88 = some (.goto 92, 91) := by decide +kernel
theorem e30_88 {ls : mj_L} {st : List Value} {σ : mj_S} {τ : mj_T} : mj_E 30 88 ls st σ τ = mj_E 30 92 ls st σ τ := mj_nx i30_88 rfl
theorem i30_91 : mj_ins 30 91 = some (.iconst (0), 92) := by decide +kernel
theorem e30_91 {ls : mj_L} {st : List Value} {σ : mj_S} {τ : mj_T} : mj_E 30 91 ls st σ τ = mj_E 30 92 ls (.int (nI 0) :: st) σ τ := mj_nx i30_91 rfl
theorem i30_92 : mj_ins 30 92 = some (.ireturn, 93) := by decide +kernel
theorem e30_92 {ls : mj_L} {σ : mj_S} {τ : mj_T} {v : Int32} : mj_E 30 92 ls [.int v] σ τ = if mj_ok (some .boolean) v = true then some (some (.int v), σ, τ) else none := mj_zrt i30_92 rfl
theorem c31 {σ : mj_S} {τ : mj_T} {r : Nat} {x0 : Int32} : mj_C 31 [.ref r, .int x0] σ τ = mj_E 31 0 [some (.ref r), some (.int x0)] [] σ τ := rfl
theorem i31_0 : mj_ins 31 0 = some (.aload 0, 1) := by decide +kernel
theorem e31_0 {ls : mj_L} {st : List Value} {σ : mj_S} {τ : mj_T} {v : Nat} : mj_E 31 0 (some (.ref v) :: ls) st σ τ = mj_E 31 1 (some (.ref v) :: ls) (.ref v :: st) σ τ := mj_nx i31_0 rfl
theorem i31_1 : mj_ins 31 1 = some (.getfield 115, 4) := by decide +kernel
theorem e31_1 {ls : mj_L} {st : List Value} {σ : mj_S} {τ : mj_T} {k : Nat} (h1 : 1 ≤ k) (h2 : k ≤ 3) : mj_E 31 1 ls (.ref k :: st) σ τ = mj_E 31 4 ls (.ref (k + 3) :: st) σ τ := (mj_gf i31_1).trans (congrArg (fun z => mj_ov z _) (fv1_15 h1 h2))
theorem i31_4 : mj_ins 31 4 = some (.aload 0, 5) := by decide +kernel
theorem e31_4 {ls : mj_L} {st : List Value} {σ : mj_S} {τ : mj_T} {v : Nat} : mj_E 31 4 (some (.ref v) :: ls) st σ τ = mj_E 31 5 (some (.ref v) :: ls) (.ref v :: st) σ τ := mj_nx i31_4 rfl
theorem i31_5 : mj_ins 31 5 = some (.iload 1, 6) := by decide +kernel
theorem e31_5 {ls : mj_L} {st : List Value} {σ : mj_S} {τ : mj_T} {a0 : Option Value} {v : Int32} : mj_E 31 5 (a0 :: some (.int v) :: ls) st σ τ = mj_E 31 6 (a0 :: some (.int v) :: ls) (.int v :: st) σ τ := mj_nx i31_5 rfl
theorem i31_6 : mj_ins 31 6 = some (.invokevirtual 0, 9) := by decide +kernel
theorem e31_6 {ls : mj_L} {σ : mj_S} {τ : mj_T} {r : Nat} {x0 : Nat} {x1 : Int32} : mj_E 31 6 ls [.int x1, .ref x0, .ref r] σ τ = if mj_rcv r 0 = true then mj_bd (mj_C 0 [.ref r, .ref x0, .int x1] σ τ) (mj_K 31 9 ls []) else none := mj_clV (as := [.ref x0, .int x1]) (r := []) i31_6 (by decide +kernel : mj_vk 31 0 2 0 3 false = true) (by decide +kernel)
theorem i31_9 : mj_ins 31 9 = some (.aload 0, 10) := by decide +kernel
theorem e31_9 {ls : mj_L} {st : List Value} {σ : mj_S} {τ : mj_T} {v : Nat} : mj_E 31 9 (some (.ref v) :: ls) st σ τ = mj_E 31 10 (some (.ref v) :: ls) (.ref v :: st) σ τ := mj_nx i31_9 rfl
theorem i31_10 : mj_ins 31 10 = some (.getfield 115, 13) := by decide +kernel
theorem e31_10 {ls : mj_L} {st : List Value} {σ : mj_S} {τ : mj_T} {k : Nat} (h1 : 1 ≤ k) (h2 : k ≤ 3) : mj_E 31 10 ls (.ref k :: st) σ τ = mj_E 31 13 ls (.ref (k + 3) :: st) σ τ := (mj_gf i31_10).trans (congrArg (fun z => mj_ov z _) (fv1_15 h1 h2))
theorem i31_13 : mj_ins 31 13 = some (.getfield 0, 16) := by decide +kernel
theorem e31_13 {ls : mj_L} {st : List Value} {σ : mj_S} {τ : mj_T} {k : Nat} (h1 : 4 ≤ k) (h2 : k ≤ 6) : mj_E 31 13 ls (.ref k :: st) σ τ = mj_E 31 16 ls (.int (σ k 0) :: st) σ τ := (mj_gf i31_13).trans (congrArg (fun z => mj_ov z _) (fv0_0 h1 h2))
theorem i31_16 : mj_ins 31 16 = some (.iconst (-1), 17) := by decide +kernel
theorem e31_16 {ls : mj_L} {st : List Value} {σ : mj_S} {τ : mj_T} : mj_E 31 16 ls st σ τ = mj_E 31 17 ls (.int ((-1)) :: st) σ τ := mj_nx i31_16 rfl
theorem i31_17 : mj_ins 31 17 = some (.if_icmp .eq 64, 20) := by decide +kernel
theorem e31_17 {ls : mj_L} {st : List Value} {σ : mj_S} {τ : mj_T} {x y : Int32} : mj_E 31 17 ls (.int y :: .int x :: st) σ τ = if x = y then mj_E 31 64 ls st σ τ else mj_E 31 20 ls st σ τ := (mj_ifi i31_17).trans (mj_cdT rfl)
theorem i31_20 : mj_ins 31 20 = some (.aload 0, 21) := by decide +kernel
theorem e31_20 {ls : mj_L} {st : List Value} {σ : mj_S} {τ : mj_T} {v : Nat} : mj_E 31 20 (some (.ref v) :: ls) st σ τ = mj_E 31 21 (some (.ref v) :: ls) (.ref v :: st) σ τ := mj_nx i31_20 rfl
theorem i31_21 : mj_ins 31 21 = some (.getfield 113, 24) := by decide +kernel
theorem e31_21 {ls : mj_L} {st : List Value} {σ : mj_S} {τ : mj_T} {k : Nat} (h1 : 1 ≤ k) (h2 : k ≤ 3) : mj_E 31 21 ls (.ref k :: st) σ τ = mj_E 31 24 ls (.ref (10 * k + 8) :: st) σ τ := (mj_gf i31_21).trans (congrArg (fun z => mj_ov z _) (fv1_13 h1 h2))
theorem i31_24 : mj_ins 31 24 = some (.iload 1, 25) := by decide +kernel
theorem e31_24 {ls : mj_L} {st : List Value} {σ : mj_S} {τ : mj_T} {a0 : Option Value} {v : Int32} : mj_E 31 24 (a0 :: some (.int v) :: ls) st σ τ = mj_E 31 25 (a0 :: some (.int v) :: ls) (.int v :: st) σ τ := mj_nx i31_24 rfl
theorem i31_25 : mj_ins 31 25 = some (.aload 0, 26) := by decide +kernel
theorem e31_25 {ls : mj_L} {st : List Value} {σ : mj_S} {τ : mj_T} {v : Nat} : mj_E 31 25 (some (.ref v) :: ls) st σ τ = mj_E 31 26 (some (.ref v) :: ls) (.ref v :: st) σ τ := mj_nx i31_25 rfl
theorem i31_26 : mj_ins 31 26 = some (.getfield 115, 29) := by decide +kernel
theorem e31_26 {ls : mj_L} {st : List Value} {σ : mj_S} {τ : mj_T} {k : Nat} (h1 : 1 ≤ k) (h2 : k ≤ 3) : mj_E 31 26 ls (.ref k :: st) σ τ = mj_E 31 29 ls (.ref (k + 3) :: st) σ τ := (mj_gf i31_26).trans (congrArg (fun z => mj_ov z _) (fv1_15 h1 h2))
theorem i31_29 : mj_ins 31 29 = some (.getfield 3, 32) := by decide +kernel
theorem e31_29 {ls : mj_L} {st : List Value} {σ : mj_S} {τ : mj_T} {k : Nat} (h1 : 4 ≤ k) (h2 : k ≤ 6) : mj_E 31 29 ls (.ref k :: st) σ τ = mj_E 31 32 ls (.int (σ k 3) :: st) σ τ := (mj_gf i31_29).trans (congrArg (fun z => mj_ov z _) (fv0_3 h1 h2))
theorem i31_32 : mj_ins 31 32 = some (.iastore, 33) := by decide +kernel
theorem e31_32 {ls : mj_L} {st : List Value} {σ : mj_S} {τ : mj_T} {x v : Int32} {k : Nat} : mj_E 31 32 ls (.int v :: .int x :: .ref k :: st) σ τ = if mj_ib (mj_lw k) x = true then mj_E 31 33 ls st (mj_up σ k x.toNatClampNeg v) τ else none := mj_ast i31_32
theorem i31_33 : mj_ins 31 33 = some (.aload 0, 34) := by decide +kernel
theorem e31_33 {ls : mj_L} {st : List Value} {σ : mj_S} {τ : mj_T} {v : Nat} : mj_E 31 33 (some (.ref v) :: ls) st σ τ = mj_E 31 34 (some (.ref v) :: ls) (.ref v :: st) σ τ := mj_nx i31_33 rfl
theorem i31_34 : mj_ins 31 34 = some (.getfield 109, 37) := by decide +kernel
theorem e31_34 {ls : mj_L} {st : List Value} {σ : mj_S} {τ : mj_T} {k : Nat} (h1 : 1 ≤ k) (h2 : k ≤ 3) : mj_E 31 34 ls (.ref k :: st) σ τ = mj_E 31 37 ls (.ref (10 * k + 4) :: st) σ τ := (mj_gf i31_34).trans (congrArg (fun z => mj_ov z _) (fv1_9 h1 h2))
theorem i31_37 : mj_ins 31 37 = some (.aload 0, 38) := by decide +kernel
theorem e31_37 {ls : mj_L} {st : List Value} {σ : mj_S} {τ : mj_T} {v : Nat} : mj_E 31 37 (some (.ref v) :: ls) st σ τ = mj_E 31 38 (some (.ref v) :: ls) (.ref v :: st) σ τ := mj_nx i31_37 rfl
theorem i31_38 : mj_ins 31 38 = some (.getfield 115, 41) := by decide +kernel
theorem e31_38 {ls : mj_L} {st : List Value} {σ : mj_S} {τ : mj_T} {k : Nat} (h1 : 1 ≤ k) (h2 : k ≤ 3) : mj_E 31 38 ls (.ref k :: st) σ τ = mj_E 31 41 ls (.ref (k + 3) :: st) σ τ := (mj_gf i31_38).trans (congrArg (fun z => mj_ov z _) (fv1_15 h1 h2))
theorem i31_41 : mj_ins 31 41 = some (.getfield 0, 44) := by decide +kernel
theorem e31_41 {ls : mj_L} {st : List Value} {σ : mj_S} {τ : mj_T} {k : Nat} (h1 : 4 ≤ k) (h2 : k ≤ 6) : mj_E 31 41 ls (.ref k :: st) σ τ = mj_E 31 44 ls (.int (σ k 0) :: st) σ τ := (mj_gf i31_41).trans (congrArg (fun z => mj_ov z _) (fv0_0 h1 h2))
theorem i31_44 : mj_ins 31 44 = some (.iconst (99), 46) := by decide +kernel
theorem e31_44 {ls : mj_L} {st : List Value} {σ : mj_S} {τ : mj_T} : mj_E 31 44 ls st σ τ = mj_E 31 46 ls (.int (nI 99) :: st) σ τ := mj_nx i31_44 rfl
theorem i31_46 : mj_ins 31 46 = some (.aload 0, 47) := by decide +kernel
theorem e31_46 {ls : mj_L} {st : List Value} {σ : mj_S} {τ : mj_T} {v : Nat} : mj_E 31 46 (some (.ref v) :: ls) st σ τ = mj_E 31 47 (some (.ref v) :: ls) (.ref v :: st) σ τ := mj_nx i31_46 rfl
theorem i31_47 : mj_ins 31 47 = some (.getfield 109, 50) := by decide +kernel
theorem e31_47 {ls : mj_L} {st : List Value} {σ : mj_S} {τ : mj_T} {k : Nat} (h1 : 1 ≤ k) (h2 : k ≤ 3) : mj_E 31 47 ls (.ref k :: st) σ τ = mj_E 31 50 ls (.ref (10 * k + 4) :: st) σ τ := (mj_gf i31_47).trans (congrArg (fun z => mj_ov z _) (fv1_9 h1 h2))
theorem i31_50 : mj_ins 31 50 = some (.aload 0, 51) := by decide +kernel
theorem e31_50 {ls : mj_L} {st : List Value} {σ : mj_S} {τ : mj_T} {v : Nat} : mj_E 31 50 (some (.ref v) :: ls) st σ τ = mj_E 31 51 (some (.ref v) :: ls) (.ref v :: st) σ τ := mj_nx i31_50 rfl
theorem i31_51 : mj_ins 31 51 = some (.getfield 115, 54) := by decide +kernel
theorem e31_51 {ls : mj_L} {st : List Value} {σ : mj_S} {τ : mj_T} {k : Nat} (h1 : 1 ≤ k) (h2 : k ≤ 3) : mj_E 31 51 ls (.ref k :: st) σ τ = mj_E 31 54 ls (.ref (k + 3) :: st) σ τ := (mj_gf i31_51).trans (congrArg (fun z => mj_ov z _) (fv1_15 h1 h2))
theorem i31_54 : mj_ins 31 54 = some (.getfield 0, 57) := by decide +kernel
theorem e31_54 {ls : mj_L} {st : List Value} {σ : mj_S} {τ : mj_T} {k : Nat} (h1 : 4 ≤ k) (h2 : k ≤ 6) : mj_E 31 54 ls (.ref k :: st) σ τ = mj_E 31 57 ls (.int (σ k 0) :: st) σ τ := (mj_gf i31_54).trans (congrArg (fun z => mj_ov z _) (fv0_0 h1 h2))
theorem i31_57 : mj_ins 31 57 = some (.iaload, 58) := by decide +kernel
theorem e31_57 {ls : mj_L} {st : List Value} {σ : mj_S} {τ : mj_T} {x : Int32} {k : Nat} : mj_E 31 57 ls (.int x :: .ref k :: st) σ τ = if mj_ib (mj_li σ k) x = true then mj_E 31 58 ls (.int (σ k x.toNatClampNeg) :: st) σ τ else none := mj_ald i31_57
theorem i31_58 : mj_ins 31 58 = some (.iconst (1), 59) := by decide +kernel
theorem e31_58 {ls : mj_L} {st : List Value} {σ : mj_S} {τ : mj_T} : mj_E 31 58 ls st σ τ = mj_E 31 59 ls (.int (nI 1) :: st) σ τ := mj_nx i31_58 rfl
theorem i31_59 : mj_ins 31 59 = some (.iadd, 60) := by decide +kernel
theorem e31_59 {ls : mj_L} {st : List Value} {σ : mj_S} {τ : mj_T} {x y : Int32} : mj_E 31 59 ls (.int y :: .int x :: st) σ τ = mj_E 31 60 ls (.int (x + y) :: st) σ τ := mj_nx i31_59 rfl
theorem i31_60 : mj_ins 31 60 = some (.invokedynamic 3, 63) := by decide +kernel
theorem e31_60 {ls : mj_L} {σ : mj_S} {τ : mj_T} {x y : Int32} {w0 w1 : Value} : mj_E 31 60 ls (.int y :: .int x :: w0 :: w1 :: []) σ τ = mj_E 31 63 ls (.int (if y < x then y else x) :: w0 :: w1 :: []) σ τ := mj_nx i31_60 rfl
theorem i31_63 : mj_ins 31 63 = some (.iastore, 64) := by decide +kernel
theorem e31_63 {ls : mj_L} {st : List Value} {σ : mj_S} {τ : mj_T} {x v : Int32} {k : Nat} : mj_E 31 63 ls (.int v :: .int x :: .ref k :: st) σ τ = if mj_ib (mj_lw k) x = true then mj_E 31 64 ls st (mj_up σ k x.toNatClampNeg v) τ else none := mj_ast i31_63
theorem i31_64 : mj_ins 31 64 = some (.aload 0, 65) := by decide +kernel
theorem e31_64 {ls : mj_L} {st : List Value} {σ : mj_S} {τ : mj_T} {v : Nat} : mj_E 31 64 (some (.ref v) :: ls) st σ τ = mj_E 31 65 (some (.ref v) :: ls) (.ref v :: st) σ τ := mj_nx i31_64 rfl
theorem i31_65 : mj_ins 31 65 = some (.getfield 115, 68) := by decide +kernel
theorem e31_65 {ls : mj_L} {st : List Value} {σ : mj_S} {τ : mj_T} {k : Nat} (h1 : 1 ≤ k) (h2 : k ≤ 3) : mj_E 31 65 ls (.ref k :: st) σ τ = mj_E 31 68 ls (.ref (k + 3) :: st) σ τ := (mj_gf i31_65).trans (congrArg (fun z => mj_ov z _) (fv1_15 h1 h2))
theorem i31_68 : mj_ins 31 68 = some (.getfield 2, 71) := by decide +kernel
theorem e31_68 {ls : mj_L} {st : List Value} {σ : mj_S} {τ : mj_T} {k : Nat} (h1 : 4 ≤ k) (h2 : k ≤ 6) : mj_E 31 68 ls (.ref k :: st) σ τ = mj_E 31 71 ls (.int (σ k 2) :: st) σ τ := (mj_gf i31_68).trans (congrArg (fun z => mj_ov z _) (fv0_2 h1 h2))
theorem i31_71 : mj_ins 31 71 = some (.ireturn, 72) := by decide +kernel
theorem e31_71 {ls : mj_L} {σ : mj_S} {τ : mj_T} {v : Int32} : mj_E 31 71 ls [.int v] σ τ = some (some (.int v), σ, τ) := mj_irt i31_71 rfl
theorem c32 {σ : mj_S} {τ : mj_T} {r : Nat} : mj_C 32 [.ref r] σ τ = mj_E 32 0 [some (.ref r), none] [] σ τ := rfl
theorem i32_0 : mj_ins 32 0 = some (.iconst (0), 1) := by decide +kernel
theorem e32_0 {ls : mj_L} {st : List Value} {σ : mj_S} {τ : mj_T} : mj_E 32 0 ls st σ τ = mj_E 32 1 ls (.int (nI 0) :: st) σ τ := mj_nx i32_0 rfl
theorem i32_1 : mj_ins 32 1 = some (.istore 1, 2) := by decide +kernel
theorem e32_1 {ls : mj_L} {st : List Value} {σ : mj_S} {τ : mj_T} {a0 a1 : Option Value} {v : Int32} : mj_E 32 1 (a0 :: a1 :: ls) (.int v :: st) σ τ = mj_E 32 2 (a0 :: some (.int v) :: ls) st σ τ := mj_nx i32_1 rfl
theorem i32_2 : mj_ins 32 2 = some (.iload 1, 3) := by decide +kernel
theorem e32_2 {ls : mj_L} {st : List Value} {σ : mj_S} {τ : mj_T} {a0 : Option Value} {v : Int32} : mj_E 32 2 (a0 :: some (.int v) :: ls) st σ τ = mj_E 32 3 (a0 :: some (.int v) :: ls) (.int v :: st) σ τ := mj_nx i32_2 rfl
theorem i32_3 : mj_ins 32 3 = some (.aload 0, 4) := by decide +kernel
theorem e32_3 {ls : mj_L} {st : List Value} {σ : mj_S} {τ : mj_T} {v : Nat} : mj_E 32 3 (some (.ref v) :: ls) st σ τ = mj_E 32 4 (some (.ref v) :: ls) (.ref v :: st) σ τ := mj_nx i32_3 rfl
theorem i32_4 : mj_ins 32 4 = some (.getfield 101, 7) := by decide +kernel
theorem e32_4 {ls : mj_L} {st : List Value} {σ : mj_S} {τ : mj_T} {k : Nat} (h1 : 1 ≤ k) (h2 : k ≤ 3) : mj_E 32 4 ls (.ref k :: st) σ τ = mj_E 32 7 ls (.int (σ k 1) :: st) σ τ := (mj_gf i32_4).trans (congrArg (fun z => mj_ov z _) (fv1_1 h1 h2))
theorem i32_7 : mj_ins 32 7 = some (.if_icmp .ge 40, 10) := by decide +kernel
theorem e32_7 {ls : mj_L} {st : List Value} {σ : mj_S} {τ : mj_T} {x y : Int32} : mj_E 32 7 ls (.int y :: .int x :: st) σ τ = if y ≤ x then mj_E 32 40 ls st σ τ else mj_E 32 10 ls st σ τ := (mj_ifi i32_7).trans (mj_cdT rfl)
theorem i32_10 : mj_ins 32 10 = some (.aload 0, 11) := by decide +kernel
theorem e32_10 {ls : mj_L} {st : List Value} {σ : mj_S} {τ : mj_T} {v : Nat} : mj_E 32 10 (some (.ref v) :: ls) st σ τ = mj_E 32 11 (some (.ref v) :: ls) (.ref v :: st) σ τ := mj_nx i32_10 rfl
theorem i32_11 : mj_ins 32 11 = some (.getfield 112, 14) := by decide +kernel
theorem e32_11 {ls : mj_L} {st : List Value} {σ : mj_S} {τ : mj_T} {k : Nat} (h1 : 1 ≤ k) (h2 : k ≤ 3) : mj_E 32 11 ls (.ref k :: st) σ τ = mj_E 32 14 ls (.ref (10 * k + 7) :: st) σ τ := (mj_gf i32_11).trans (congrArg (fun z => mj_ov z _) (fv1_12 h1 h2))
theorem i32_14 : mj_ins 32 14 = some (.iload 1, 15) := by decide +kernel
theorem e32_14 {ls : mj_L} {st : List Value} {σ : mj_S} {τ : mj_T} {a0 : Option Value} {v : Int32} : mj_E 32 14 (a0 :: some (.int v) :: ls) st σ τ = mj_E 32 15 (a0 :: some (.int v) :: ls) (.int v :: st) σ τ := mj_nx i32_14 rfl
theorem i32_15 : mj_ins 32 15 = some (.iconst (30), 17) := by decide +kernel
theorem e32_15 {ls : mj_L} {st : List Value} {σ : mj_S} {τ : mj_T} : mj_E 32 15 ls st σ τ = mj_E 32 17 ls (.int (nI 30) :: st) σ τ := mj_nx i32_15 rfl
theorem i32_17 : mj_ins 32 17 = some (.aload 0, 18) := by decide +kernel
theorem e32_17 {ls : mj_L} {st : List Value} {σ : mj_S} {τ : mj_T} {v : Nat} : mj_E 32 17 (some (.ref v) :: ls) st σ τ = mj_E 32 18 (some (.ref v) :: ls) (.ref v :: st) σ τ := mj_nx i32_17 rfl
theorem i32_18 : mj_ins 32 18 = some (.getfield 112, 21) := by decide +kernel
theorem e32_18 {ls : mj_L} {st : List Value} {σ : mj_S} {τ : mj_T} {k : Nat} (h1 : 1 ≤ k) (h2 : k ≤ 3) : mj_E 32 18 ls (.ref k :: st) σ τ = mj_E 32 21 ls (.ref (10 * k + 7) :: st) σ τ := (mj_gf i32_18).trans (congrArg (fun z => mj_ov z _) (fv1_12 h1 h2))
theorem i32_21 : mj_ins 32 21 = some (.iload 1, 22) := by decide +kernel
theorem e32_21 {ls : mj_L} {st : List Value} {σ : mj_S} {τ : mj_T} {a0 : Option Value} {v : Int32} : mj_E 32 21 (a0 :: some (.int v) :: ls) st σ τ = mj_E 32 22 (a0 :: some (.int v) :: ls) (.int v :: st) σ τ := mj_nx i32_21 rfl
theorem i32_22 : mj_ins 32 22 = some (.iaload, 23) := by decide +kernel
theorem e32_22 {ls : mj_L} {st : List Value} {σ : mj_S} {τ : mj_T} {x : Int32} {k : Nat} : mj_E 32 22 ls (.int x :: .ref k :: st) σ τ = if mj_ib (mj_li σ k) x = true then mj_E 32 23 ls (.int (σ k x.toNatClampNeg) :: st) σ τ else none := mj_ald i32_22
theorem i32_23 : mj_ins 32 23 = some (.iconst (1), 24) := by decide +kernel
theorem e32_23 {ls : mj_L} {st : List Value} {σ : mj_S} {τ : mj_T} : mj_E 32 23 ls st σ τ = mj_E 32 24 ls (.int (nI 1) :: st) σ τ := mj_nx i32_23 rfl
theorem i32_24 : mj_ins 32 24 = some (.iadd, 25) := by decide +kernel
theorem e32_24 {ls : mj_L} {st : List Value} {σ : mj_S} {τ : mj_T} {x y : Int32} : mj_E 32 24 ls (.int y :: .int x :: st) σ τ = mj_E 32 25 ls (.int (x + y) :: st) σ τ := mj_nx i32_24 rfl
theorem i32_25 : mj_ins 32 25 = some (.invokedynamic 3, 28) := by decide +kernel
theorem e32_25 {ls : mj_L} {σ : mj_S} {τ : mj_T} {x y : Int32} {w0 w1 : Value} : mj_E 32 25 ls (.int y :: .int x :: w0 :: w1 :: []) σ τ = mj_E 32 28 ls (.int (if y < x then y else x) :: w0 :: w1 :: []) σ τ := mj_nx i32_25 rfl
theorem i32_28 : mj_ins 32 28 = some (.iastore, 29) := by decide +kernel
theorem e32_28 {ls : mj_L} {st : List Value} {σ : mj_S} {τ : mj_T} {x v : Int32} {k : Nat} : mj_E 32 28 ls (.int v :: .int x :: .ref k :: st) σ τ = if mj_ib (mj_lw k) x = true then mj_E 32 29 ls st (mj_up σ k x.toNatClampNeg v) τ else none := mj_ast i32_28
theorem i32_29 : mj_ins 32 29 = some (.aload 0, 30) := by decide +kernel
theorem e32_29 {ls : mj_L} {st : List Value} {σ : mj_S} {τ : mj_T} {v : Nat} : mj_E 32 29 (some (.ref v) :: ls) st σ τ = mj_E 32 30 (some (.ref v) :: ls) (.ref v :: st) σ τ := mj_nx i32_29 rfl
theorem i32_30 : mj_ins 32 30 = some (.iload 1, 31) := by decide +kernel
theorem e32_30 {ls : mj_L} {st : List Value} {σ : mj_S} {τ : mj_T} {a0 : Option Value} {v : Int32} : mj_E 32 30 (a0 :: some (.int v) :: ls) st σ τ = mj_E 32 31 (a0 :: some (.int v) :: ls) (.int v :: st) σ τ := mj_nx i32_30 rfl
theorem i32_31 : mj_ins 32 31 = some (.invokevirtual 33, 34) := by decide +kernel
theorem e32_31 {ls : mj_L} {σ : mj_S} {τ : mj_T} {r : Nat} {x0 : Int32} : mj_E 32 31 ls [.int x0, .ref r] σ τ = if mj_rcv r 1 = true then mj_bd (mj_C 33 [.ref r, .int x0] σ τ) (mj_K 32 34 ls []) else none := mj_clV (as := [.int x0]) (r := []) i32_31 (by decide +kernel : mj_vk 32 33 1 0 2 false = true) (by decide +kernel)
theorem i32_34 : mj_ins 32 34 = some (.iinc 1 (1), 37) := by decide +kernel
theorem e32_34 {ls : mj_L} {st : List Value} {σ : mj_S} {τ : mj_T} {a0 : Option Value} {v : Int32} : mj_E 32 34 (a0 :: some (.int v) :: ls) st σ τ = mj_E 32 37 (a0 :: some (.int (v + nI 1)) :: ls) st σ τ := mj_nx i32_34 rfl
theorem i32_37 : mj_ins 32 37 = some (.goto 2, 40) := by decide +kernel
theorem e32_37 {ls : mj_L} {st : List Value} {σ : mj_S} {τ : mj_T} : mj_E 32 37 ls st σ τ = mj_E 32 2 ls st σ τ := mj_nx i32_37 rfl
theorem i32_40 : mj_ins 32 40 = some (.iconst (0), 41) := by decide +kernel
theorem e32_40 {ls : mj_L} {st : List Value} {σ : mj_S} {τ : mj_T} : mj_E 32 40 ls st σ τ = mj_E 32 41 ls (.int (nI 0) :: st) σ τ := mj_nx i32_40 rfl
theorem i32_41 : mj_ins 32 41 = some (.istore 1, 42) := by decide +kernel
theorem e32_41 {ls : mj_L} {st : List Value} {σ : mj_S} {τ : mj_T} {a0 a1 : Option Value} {v : Int32} : mj_E 32 41 (a0 :: a1 :: ls) (.int v :: st) σ τ = mj_E 32 42 (a0 :: some (.int v) :: ls) st σ τ := mj_nx i32_41 rfl
theorem i32_42 : mj_ins 32 42 = some (.iload 1, 43) := by decide +kernel
theorem e32_42 {ls : mj_L} {st : List Value} {σ : mj_S} {τ : mj_T} {a0 : Option Value} {v : Int32} : mj_E 32 42 (a0 :: some (.int v) :: ls) st σ τ = mj_E 32 43 (a0 :: some (.int v) :: ls) (.int v :: st) σ τ := mj_nx i32_42 rfl
theorem i32_43 : mj_ins 32 43 = some (.aload 0, 44) := by decide +kernel
theorem e32_43 {ls : mj_L} {st : List Value} {σ : mj_S} {τ : mj_T} {v : Nat} : mj_E 32 43 (some (.ref v) :: ls) st σ τ = mj_E 32 44 (some (.ref v) :: ls) (.ref v :: st) σ τ := mj_nx i32_43 rfl
theorem i32_44 : mj_ins 32 44 = some (.getfield 101, 47) := by decide +kernel
theorem e32_44 {ls : mj_L} {st : List Value} {σ : mj_S} {τ : mj_T} {k : Nat} (h1 : 1 ≤ k) (h2 : k ≤ 3) : mj_E 32 44 ls (.ref k :: st) σ τ = mj_E 32 47 ls (.int (σ k 1) :: st) σ τ := (mj_gf i32_44).trans (congrArg (fun z => mj_ov z _) (fv1_1 h1 h2))
theorem i32_47 : mj_ins 32 47 = some (.if_icmp .ge 73, 50) := by decide +kernel
theorem e32_47 {ls : mj_L} {st : List Value} {σ : mj_S} {τ : mj_T} {x y : Int32} : mj_E 32 47 ls (.int y :: .int x :: st) σ τ = if y ≤ x then mj_E 32 73 ls st σ τ else mj_E 32 50 ls st σ τ := (mj_ifi i32_47).trans (mj_cdT rfl)
theorem i32_50 : mj_ins 32 50 = some (.aload 0, 51) := by decide +kernel
theorem e32_50 {ls : mj_L} {st : List Value} {σ : mj_S} {τ : mj_T} {v : Nat} : mj_E 32 50 (some (.ref v) :: ls) st σ τ = mj_E 32 51 (some (.ref v) :: ls) (.ref v :: st) σ τ := mj_nx i32_50 rfl
theorem i32_51 : mj_ins 32 51 = some (.getfield 112, 54) := by decide +kernel
theorem e32_51 {ls : mj_L} {st : List Value} {σ : mj_S} {τ : mj_T} {k : Nat} (h1 : 1 ≤ k) (h2 : k ≤ 3) : mj_E 32 51 ls (.ref k :: st) σ τ = mj_E 32 54 ls (.ref (10 * k + 7) :: st) σ τ := (mj_gf i32_51).trans (congrArg (fun z => mj_ov z _) (fv1_12 h1 h2))
theorem i32_54 : mj_ins 32 54 = some (.iload 1, 55) := by decide +kernel
theorem e32_54 {ls : mj_L} {st : List Value} {σ : mj_S} {τ : mj_T} {a0 : Option Value} {v : Int32} : mj_E 32 54 (a0 :: some (.int v) :: ls) st σ τ = mj_E 32 55 (a0 :: some (.int v) :: ls) (.int v :: st) σ τ := mj_nx i32_54 rfl
theorem i32_55 : mj_ins 32 55 = some (.iaload, 56) := by decide +kernel
theorem e32_55 {ls : mj_L} {st : List Value} {σ : mj_S} {τ : mj_T} {x : Int32} {k : Nat} : mj_E 32 55 ls (.int x :: .ref k :: st) σ τ = if mj_ib (mj_li σ k) x = true then mj_E 32 56 ls (.int (σ k x.toNatClampNeg) :: st) σ τ else none := mj_ald i32_55
theorem i32_56 : mj_ins 32 56 = some (.iconst (9), 58) := by decide +kernel
theorem e32_56 {ls : mj_L} {st : List Value} {σ : mj_S} {τ : mj_T} : mj_E 32 56 ls st σ τ = mj_E 32 58 ls (.int (nI 9) :: st) σ τ := mj_nx i32_56 rfl
theorem i32_58 : mj_ins 32 58 = some (.if_icmp .ne 67, 61) := by decide +kernel
theorem e32_58 {ls : mj_L} {st : List Value} {σ : mj_S} {τ : mj_T} {x y : Int32} : mj_E 32 58 ls (.int y :: .int x :: st) σ τ = if x = y then mj_E 32 61 ls st σ τ else mj_E 32 67 ls st σ τ := (mj_ifi i32_58).trans (mj_cdF rfl)
theorem i32_61 : mj_ins 32 61 = some (.aload 0, 62) := by decide +kernel
theorem e32_61 {ls : mj_L} {st : List Value} {σ : mj_S} {τ : mj_T} {v : Nat} : mj_E 32 61 (some (.ref v) :: ls) st σ τ = mj_E 32 62 (some (.ref v) :: ls) (.ref v :: st) σ τ := mj_nx i32_61 rfl
theorem i32_62 : mj_ins 32 62 = some (.iload 1, 63) := by decide +kernel
theorem e32_62 {ls : mj_L} {st : List Value} {σ : mj_S} {τ : mj_T} {a0 : Option Value} {v : Int32} : mj_E 32 62 (a0 :: some (.int v) :: ls) st σ τ = mj_E 32 63 (a0 :: some (.int v) :: ls) (.int v :: st) σ τ := mj_nx i32_62 rfl
theorem i32_63 : mj_ins 32 63 = some (.invokevirtual 31, 66) := by decide +kernel
theorem e32_63 {ls : mj_L} {σ : mj_S} {τ : mj_T} {r : Nat} {x0 : Int32} : mj_E 32 63 ls [.int x0, .ref r] σ τ = if mj_rcv r 1 = true then mj_bd (mj_C 31 [.ref r, .int x0] σ τ) (mj_K 32 66 ls []) else none := mj_clV (as := [.int x0]) (r := []) i32_63 (by decide +kernel : mj_vk 32 31 1 0 2 false = true) (by decide +kernel)
theorem i32_66 : mj_ins 32 66 = some (.pop, 67) := by decide +kernel
theorem e32_66 {ls : mj_L} {st : List Value} {σ : mj_S} {τ : mj_T} {v : Int32} : mj_E 32 66 ls (.int v :: st) σ τ = mj_E 32 67 ls st σ τ := mj_nx i32_66 rfl
theorem i32_67 : mj_ins 32 67 = some (.iinc 1 (1), 70) := by decide +kernel
theorem e32_67 {ls : mj_L} {st : List Value} {σ : mj_S} {τ : mj_T} {a0 : Option Value} {v : Int32} : mj_E 32 67 (a0 :: some (.int v) :: ls) st σ τ = mj_E 32 70 (a0 :: some (.int (v + nI 1)) :: ls) st σ τ := mj_nx i32_67 rfl
theorem i32_70 : mj_ins 32 70 = some (.goto 42, 73) := by decide +kernel
theorem e32_70 {ls : mj_L} {st : List Value} {σ : mj_S} {τ : mj_T} : mj_E 32 70 ls st σ τ = mj_E 32 42 ls st σ τ := mj_nx i32_70 rfl
theorem i32_73 : mj_ins 32 73 = some (.aload 0, 74) := by decide +kernel
theorem e32_73 {ls : mj_L} {st : List Value} {σ : mj_S} {τ : mj_T} {v : Nat} : mj_E 32 73 (some (.ref v) :: ls) st σ τ = mj_E 32 74 (some (.ref v) :: ls) (.ref v :: st) σ τ := mj_nx i32_73 rfl
theorem i32_74 : mj_ins 32 74 = some (.dup, 75) := by decide +kernel
theorem e32_74 {ls : mj_L} {st : List Value} {σ : mj_S} {τ : mj_T} {v : Nat} : mj_E 32 74 ls (.ref v :: st) σ τ = mj_E 32 75 ls (.ref v :: .ref v :: st) σ τ := mj_nx i32_74 rfl
theorem i32_75 : mj_ins 32 75 = some (.getfield 103, 78) := by decide +kernel
theorem e32_75 {ls : mj_L} {st : List Value} {σ : mj_S} {τ : mj_T} {k : Nat} (h1 : 1 ≤ k) (h2 : k ≤ 3) : mj_E 32 75 ls (.ref k :: st) σ τ = mj_E 32 78 ls (.int (σ k 3) :: st) σ τ := (mj_gf i32_75).trans (congrArg (fun z => mj_ov z _) (fv1_3 h1 h2))
theorem i32_78 : mj_ins 32 78 = some (.iconst (1), 79) := by decide +kernel
theorem e32_78 {ls : mj_L} {st : List Value} {σ : mj_S} {τ : mj_T} : mj_E 32 78 ls st σ τ = mj_E 32 79 ls (.int (nI 1) :: st) σ τ := mj_nx i32_78 rfl
theorem i32_79 : mj_ins 32 79 = some (.iadd, 80) := by decide +kernel
theorem e32_79 {ls : mj_L} {st : List Value} {σ : mj_S} {τ : mj_T} {x y : Int32} : mj_E 32 79 ls (.int y :: .int x :: st) σ τ = mj_E 32 80 ls (.int (x + y) :: st) σ τ := mj_nx i32_79 rfl
theorem i32_80 : mj_ins 32 80 = some (.putfield 103, 83) := by decide +kernel
theorem e32_80 {ls : mj_L} {st : List Value} {σ : mj_S} {τ : mj_T} {k : Nat} (h1 : 1 ≤ k) (h2 : k ≤ 3) {v : Int32} : mj_E 32 80 ls (.int v :: .ref k :: st) σ τ = mj_E 32 83 ls st (mj_up σ k 3 v) τ := (mj_pf i32_80 rfl).trans (if_pos (fw1_3 h1 h2))
theorem i32_83 : mj_ins 32 83 = some (.return_, 84) := by decide +kernel
theorem e32_83 {ls : mj_L} {σ : mj_S} {τ : mj_T} : mj_E 32 83 ls [] σ τ = some (none, σ, τ) := mj_vrt i32_83 rfl
theorem c33 {σ : mj_S} {τ : mj_T} {r : Nat} {x0 : Int32} : mj_C 33 [.ref r, .int x0] σ τ = mj_E 33 0 [some (.ref r), some (.int x0), none] [] σ τ := rfl
theorem i33_0 : mj_ins 33 0 = some (.iconst (0), 1) := by decide +kernel
theorem e33_0 {ls : mj_L} {st : List Value} {σ : mj_S} {τ : mj_T} : mj_E 33 0 ls st σ τ = mj_E 33 1 ls (.int (nI 0) :: st) σ τ := mj_nx i33_0 rfl
theorem i33_1 : mj_ins 33 1 = some (.istore 2, 2) := by decide +kernel
theorem e33_1 {ls : mj_L} {st : List Value} {σ : mj_S} {τ : mj_T} {a0 a1 a2 : Option Value} {v : Int32} : mj_E 33 1 (a0 :: a1 :: a2 :: ls) (.int v :: st) σ τ = mj_E 33 2 (a0 :: a1 :: some (.int v) :: ls) st σ τ := mj_nx i33_1 rfl
theorem i33_2 : mj_ins 33 2 = some (.iload 2, 3) := by decide +kernel
theorem e33_2 {ls : mj_L} {st : List Value} {σ : mj_S} {τ : mj_T} {a0 a1 : Option Value} {v : Int32} : mj_E 33 2 (a0 :: a1 :: some (.int v) :: ls) st σ τ = mj_E 33 3 (a0 :: a1 :: some (.int v) :: ls) (.int v :: st) σ τ := mj_nx i33_2 rfl
theorem i33_3 : mj_ins 33 3 = some (.aload 0, 4) := by decide +kernel
theorem e33_3 {ls : mj_L} {st : List Value} {σ : mj_S} {τ : mj_T} {v : Nat} : mj_E 33 3 (some (.ref v) :: ls) st σ τ = mj_E 33 4 (some (.ref v) :: ls) (.ref v :: st) σ τ := mj_nx i33_3 rfl
theorem i33_4 : mj_ins 33 4 = some (.getfield 100, 7) := by decide +kernel
theorem e33_4 {ls : mj_L} {st : List Value} {σ : mj_S} {τ : mj_T} {k : Nat} (h1 : 1 ≤ k) (h2 : k ≤ 3) : mj_E 33 4 ls (.ref k :: st) σ τ = mj_E 33 7 ls (.int (σ k 0) :: st) σ τ := (mj_gf i33_4).trans (congrArg (fun z => mj_ov z _) (fv1_0 h1 h2))
theorem i33_7 : mj_ins 33 7 = some (.if_icmp .ge 49, 10) := by decide +kernel
theorem e33_7 {ls : mj_L} {st : List Value} {σ : mj_S} {τ : mj_T} {x y : Int32} : mj_E 33 7 ls (.int y :: .int x :: st) σ τ = if y ≤ x then mj_E 33 49 ls st σ τ else mj_E 33 10 ls st σ τ := (mj_ifi i33_7).trans (mj_cdT rfl)
theorem i33_10 : mj_ins 33 10 = some (.aload 0, 11) := by decide +kernel
theorem e33_10 {ls : mj_L} {st : List Value} {σ : mj_S} {τ : mj_T} {v : Nat} : mj_E 33 10 (some (.ref v) :: ls) st σ τ = mj_E 33 11 (some (.ref v) :: ls) (.ref v :: st) σ τ := mj_nx i33_10 rfl
theorem i33_11 : mj_ins 33 11 = some (.iload 1, 12) := by decide +kernel
theorem e33_11 {ls : mj_L} {st : List Value} {σ : mj_S} {τ : mj_T} {a0 : Option Value} {v : Int32} : mj_E 33 11 (a0 :: some (.int v) :: ls) st σ τ = mj_E 33 12 (a0 :: some (.int v) :: ls) (.int v :: st) σ τ := mj_nx i33_11 rfl
theorem i33_12 : mj_ins 33 12 = some (.iload 2, 13) := by decide +kernel
theorem e33_12 {ls : mj_L} {st : List Value} {σ : mj_S} {τ : mj_T} {a0 a1 : Option Value} {v : Int32} : mj_E 33 12 (a0 :: a1 :: some (.int v) :: ls) st σ τ = mj_E 33 13 (a0 :: a1 :: some (.int v) :: ls) (.int v :: st) σ τ := mj_nx i33_12 rfl
theorem i33_13 : mj_ins 33 13 = some (.invokevirtual 14, 16) := by decide +kernel
theorem e33_13 {ls : mj_L} {σ : mj_S} {τ : mj_T} {r : Nat} {x0 : Int32} {x1 : Int32} : mj_E 33 13 ls [.int x1, .int x0, .ref r] σ τ = if mj_rcv r 1 = true then mj_bd (mj_C 14 [.ref r, .int x0, .int x1] σ τ) (mj_K 33 16 ls []) else none := mj_clV (as := [.int x0, .int x1]) (r := []) i33_13 (by decide +kernel : mj_vk 33 14 2 0 3 false = true) (by decide +kernel)
theorem i33_16 : mj_ins 33 16 = some (.ifCond .eq 43, 19) := by decide +kernel
theorem e33_16 {ls : mj_L} {st : List Value} {σ : mj_S} {τ : mj_T} {x : Int32} : mj_E 33 16 ls (.int x :: st) σ τ = if x = 0 then mj_E 33 43 ls st σ τ else mj_E 33 19 ls st σ τ := (mj_ifc i33_16).trans (mj_cdT rfl)
theorem i33_19 : mj_ins 33 19 = some (.aload 0, 20) := by decide +kernel
theorem e33_19 {ls : mj_L} {st : List Value} {σ : mj_S} {τ : mj_T} {v : Nat} : mj_E 33 19 (some (.ref v) :: ls) st σ τ = mj_E 33 20 (some (.ref v) :: ls) (.ref v :: st) σ τ := mj_nx i33_19 rfl
theorem i33_20 : mj_ins 33 20 = some (.iload 2, 21) := by decide +kernel
theorem e33_20 {ls : mj_L} {st : List Value} {σ : mj_S} {τ : mj_T} {a0 a1 : Option Value} {v : Int32} : mj_E 33 20 (a0 :: a1 :: some (.int v) :: ls) st σ τ = mj_E 33 21 (a0 :: a1 :: some (.int v) :: ls) (.int v :: st) σ τ := mj_nx i33_20 rfl
theorem i33_21 : mj_ins 33 21 = some (.invokevirtual 13, 24) := by decide +kernel
theorem e33_21 {ls : mj_L} {σ : mj_S} {τ : mj_T} {r : Nat} {x0 : Int32} : mj_E 33 21 ls [.int x0, .ref r] σ τ = if mj_rcv r 1 = true then mj_bd (mj_C 13 [.ref r, .int x0] σ τ) (mj_K 33 24 ls []) else none := mj_clV (as := [.int x0]) (r := []) i33_21 (by decide +kernel : mj_vk 33 13 1 0 2 false = true) (by decide +kernel)
theorem i33_24 : mj_ins 33 24 = some (.ifCond .ne 43, 27) := by decide +kernel
theorem e33_24 {ls : mj_L} {st : List Value} {σ : mj_S} {τ : mj_T} {x : Int32} : mj_E 33 24 ls (.int x :: st) σ τ = if x = 0 then mj_E 33 27 ls st σ τ else mj_E 33 43 ls st σ τ := (mj_ifc i33_24).trans (mj_cdF rfl)
theorem i33_27 : mj_ins 33 27 = some (.aload 0, 28) := by decide +kernel
theorem e33_27 {ls : mj_L} {st : List Value} {σ : mj_S} {τ : mj_T} {v : Nat} : mj_E 33 27 (some (.ref v) :: ls) st σ τ = mj_E 33 28 (some (.ref v) :: ls) (.ref v :: st) σ τ := mj_nx i33_27 rfl
theorem i33_28 : mj_ins 33 28 = some (.iload 1, 29) := by decide +kernel
theorem e33_28 {ls : mj_L} {st : List Value} {σ : mj_S} {τ : mj_T} {a0 : Option Value} {v : Int32} : mj_E 33 28 (a0 :: some (.int v) :: ls) st σ τ = mj_E 33 29 (a0 :: some (.int v) :: ls) (.int v :: st) σ τ := mj_nx i33_28 rfl
theorem i33_29 : mj_ins 33 29 = some (.iload 2, 30) := by decide +kernel
theorem e33_29 {ls : mj_L} {st : List Value} {σ : mj_S} {τ : mj_T} {a0 a1 : Option Value} {v : Int32} : mj_E 33 29 (a0 :: a1 :: some (.int v) :: ls) st σ τ = mj_E 33 30 (a0 :: a1 :: some (.int v) :: ls) (.int v :: st) σ τ := mj_nx i33_29 rfl
theorem i33_30 : mj_ins 33 30 = some (.iconst (1), 31) := by decide +kernel
theorem e33_30 {ls : mj_L} {st : List Value} {σ : mj_S} {τ : mj_T} : mj_E 33 30 ls st σ τ = mj_E 33 31 ls (.int (nI 1) :: st) σ τ := mj_nx i33_30 rfl
theorem i33_31 : mj_ins 33 31 = some (.aload 0, 32) := by decide +kernel
theorem e33_31 {ls : mj_L} {st : List Value} {σ : mj_S} {τ : mj_T} {v : Nat} : mj_E 33 31 (some (.ref v) :: ls) st σ τ = mj_E 33 32 (some (.ref v) :: ls) (.ref v :: st) σ τ := mj_nx i33_31 rfl
theorem i33_32 : mj_ins 33 32 = some (.getfield 108, 35) := by decide +kernel
theorem e33_32 {ls : mj_L} {st : List Value} {σ : mj_S} {τ : mj_T} {k : Nat} (h1 : 1 ≤ k) (h2 : k ≤ 3) : mj_E 33 32 ls (.ref k :: st) σ τ = mj_E 33 35 ls (.ref (10 * k + 3) :: st) σ τ := (mj_gf i33_32).trans (congrArg (fun z => mj_ov z _) (fv1_8 h1 h2))
theorem i33_35 : mj_ins 33 35 = some (.iload 2, 36) := by decide +kernel
theorem e33_35 {ls : mj_L} {st : List Value} {σ : mj_S} {τ : mj_T} {a0 a1 : Option Value} {v : Int32} : mj_E 33 35 (a0 :: a1 :: some (.int v) :: ls) st σ τ = mj_E 33 36 (a0 :: a1 :: some (.int v) :: ls) (.int v :: st) σ τ := mj_nx i33_35 rfl
theorem i33_36 : mj_ins 33 36 = some (.iaload, 37) := by decide +kernel
theorem e33_36 {ls : mj_L} {st : List Value} {σ : mj_S} {τ : mj_T} {x : Int32} {k : Nat} : mj_E 33 36 ls (.int x :: .ref k :: st) σ τ = if mj_ib (mj_li σ k) x = true then mj_E 33 37 ls (.int (σ k x.toNatClampNeg) :: st) σ τ else none := mj_ald i33_36
theorem i33_37 : mj_ins 33 37 = some (.iconst (4), 38) := by decide +kernel
theorem e33_37 {ls : mj_L} {st : List Value} {σ : mj_S} {τ : mj_T} : mj_E 33 37 ls st σ τ = mj_E 33 38 ls (.int (nI 4) :: st) σ τ := mj_nx i33_37 rfl
theorem i33_38 : mj_ins 33 38 = some (.idiv, 39) := by decide +kernel
theorem e33_38 {ls : mj_L} {st : List Value} {σ : mj_S} {τ : mj_T} {x y : Int32} : mj_E 33 38 ls (.int y :: .int x :: st) σ τ = if y = 0 then none else mj_E 33 39 ls (.int (x / y) :: st) σ τ := mj_div i33_38
theorem i33_39 : mj_ins 33 39 = some (.iadd, 40) := by decide +kernel
theorem e33_39 {ls : mj_L} {st : List Value} {σ : mj_S} {τ : mj_T} {x y : Int32} : mj_E 33 39 ls (.int y :: .int x :: st) σ τ = mj_E 33 40 ls (.int (x + y) :: st) σ τ := mj_nx i33_39 rfl
theorem i33_40 : mj_ins 33 40 = some (.invokevirtual 19, 43) := by decide +kernel
theorem e33_40 {ls : mj_L} {σ : mj_S} {τ : mj_T} {r : Nat} {x0 : Int32} {x1 : Int32} {x2 : Int32} : mj_E 33 40 ls [.int x2, .int x1, .int x0, .ref r] σ τ = if mj_rcv r 1 = true then mj_bd (mj_C 19 [.ref r, .int x0, .int x1, .int x2] σ τ) (mj_K 33 43 ls []) else none := mj_clV (as := [.int x0, .int x1, .int x2]) (r := []) i33_40 (by decide +kernel : mj_vk 33 19 3 0 4 false = true) (by decide +kernel)
theorem i33_43 : mj_ins 33 43 = some (.iinc 2 (1), 46) := by decide +kernel
theorem e33_43 {ls : mj_L} {st : List Value} {σ : mj_S} {τ : mj_T} {a0 a1 : Option Value} {v : Int32} : mj_E 33 43 (a0 :: a1 :: some (.int v) :: ls) st σ τ = mj_E 33 46 (a0 :: a1 :: some (.int (v + nI 1)) :: ls) st σ τ := mj_nx i33_43 rfl
theorem i33_46 : mj_ins 33 46 = some (.goto 2, 49) := by decide +kernel
theorem e33_46 {ls : mj_L} {st : List Value} {σ : mj_S} {τ : mj_T} : mj_E 33 46 ls st σ τ = mj_E 33 2 ls st σ τ := mj_nx i33_46 rfl
theorem i33_49 : mj_ins 33 49 = some (.return_, 50) := by decide +kernel
theorem e33_49 {ls : mj_L} {σ : mj_S} {τ : mj_T} : mj_E 33 49 ls [] σ τ = some (none, σ, τ) := mj_vrt i33_49 rfl
theorem c34 {σ : mj_S} {τ : mj_T} {r : Nat} : mj_C 34 [.ref r] σ τ = mj_E 34 0 [some (.ref r), none, none, none] [] σ τ := rfl
theorem i34_0 : mj_ins 34 0 = some (.aload 0, 1) := by decide +kernel
theorem e34_0 {ls : mj_L} {st : List Value} {σ : mj_S} {τ : mj_T} {v : Nat} : mj_E 34 0 (some (.ref v) :: ls) st σ τ = mj_E 34 1 (some (.ref v) :: ls) (.ref v :: st) σ τ := mj_nx i34_0 rfl
theorem i34_1 : mj_ins 34 1 = some (.aload 0, 2) := by decide +kernel
theorem e34_1 {ls : mj_L} {st : List Value} {σ : mj_S} {τ : mj_T} {v : Nat} : mj_E 34 1 (some (.ref v) :: ls) st σ τ = mj_E 34 2 (some (.ref v) :: ls) (.ref v :: st) σ τ := mj_nx i34_1 rfl
theorem i34_2 : mj_ins 34 2 = some (.getfield 100, 5) := by decide +kernel
theorem e34_2 {ls : mj_L} {st : List Value} {σ : mj_S} {τ : mj_T} {k : Nat} (h1 : 1 ≤ k) (h2 : k ≤ 3) : mj_E 34 2 ls (.ref k :: st) σ τ = mj_E 34 5 ls (.int (σ k 0) :: st) σ τ := (mj_gf i34_2).trans (congrArg (fun z => mj_ov z _) (fv1_0 h1 h2))
theorem i34_5 : mj_ins 34 5 = some (.invokevirtual 35, 8) := by decide +kernel
theorem e34_5 {ls : mj_L} {σ : mj_S} {τ : mj_T} {r : Nat} {x0 : Int32} : mj_E 34 5 ls [.int x0, .ref r] σ τ = if mj_rcv r 1 = true then mj_bd (mj_C 35 [.ref r, .int x0] σ τ) (mj_K 34 8 ls []) else none := mj_clV (as := [.int x0]) (r := []) i34_5 (by decide +kernel : mj_vk 34 35 1 0 2 false = true) (by decide +kernel)
theorem i34_8 : mj_ins 34 8 = some (.istore 1, 9) := by decide +kernel
theorem e34_8 {ls : mj_L} {st : List Value} {σ : mj_S} {τ : mj_T} {a0 a1 : Option Value} {v : Int32} : mj_E 34 8 (a0 :: a1 :: ls) (.int v :: st) σ τ = mj_E 34 9 (a0 :: some (.int v) :: ls) st σ τ := mj_nx i34_8 rfl
theorem i34_9 : mj_ins 34 9 = some (.aload 0, 10) := by decide +kernel
theorem e34_9 {ls : mj_L} {st : List Value} {σ : mj_S} {τ : mj_T} {v : Nat} : mj_E 34 9 (some (.ref v) :: ls) st σ τ = mj_E 34 10 (some (.ref v) :: ls) (.ref v :: st) σ τ := mj_nx i34_9 rfl
theorem i34_10 : mj_ins 34 10 = some (.aload 0, 11) := by decide +kernel
theorem e34_10 {ls : mj_L} {st : List Value} {σ : mj_S} {τ : mj_T} {v : Nat} : mj_E 34 10 (some (.ref v) :: ls) st σ τ = mj_E 34 11 (some (.ref v) :: ls) (.ref v :: st) σ τ := mj_nx i34_10 rfl
theorem i34_11 : mj_ins 34 11 = some (.getfield 101, 14) := by decide +kernel
theorem e34_11 {ls : mj_L} {st : List Value} {σ : mj_S} {τ : mj_T} {k : Nat} (h1 : 1 ≤ k) (h2 : k ≤ 3) : mj_E 34 11 ls (.ref k :: st) σ τ = mj_E 34 14 ls (.int (σ k 1) :: st) σ τ := (mj_gf i34_11).trans (congrArg (fun z => mj_ov z _) (fv1_1 h1 h2))
theorem i34_14 : mj_ins 34 14 = some (.invokevirtual 35, 17) := by decide +kernel
theorem e34_14 {ls : mj_L} {σ : mj_S} {τ : mj_T} {r : Nat} {x0 : Int32} : mj_E 34 14 ls [.int x0, .ref r] σ τ = if mj_rcv r 1 = true then mj_bd (mj_C 35 [.ref r, .int x0] σ τ) (mj_K 34 17 ls []) else none := mj_clV (as := [.int x0]) (r := []) i34_14 (by decide +kernel : mj_vk 34 35 1 0 2 false = true) (by decide +kernel)
theorem i34_17 : mj_ins 34 17 = some (.istore 2, 18) := by decide +kernel
theorem e34_17 {ls : mj_L} {st : List Value} {σ : mj_S} {τ : mj_T} {a0 a1 a2 : Option Value} {v : Int32} : mj_E 34 17 (a0 :: a1 :: a2 :: ls) (.int v :: st) σ τ = mj_E 34 18 (a0 :: a1 :: some (.int v) :: ls) st σ τ := mj_nx i34_17 rfl
theorem i34_18 : mj_ins 34 18 = some (.iconst (1), 19) := by decide +kernel
theorem e34_18 {ls : mj_L} {st : List Value} {σ : mj_S} {τ : mj_T} : mj_E 34 18 ls st σ τ = mj_E 34 19 ls (.int (nI 1) :: st) σ τ := mj_nx i34_18 rfl
theorem i34_19 : mj_ins 34 19 = some (.aload 0, 20) := by decide +kernel
theorem e34_19 {ls : mj_L} {st : List Value} {σ : mj_S} {τ : mj_T} {v : Nat} : mj_E 34 19 (some (.ref v) :: ls) st σ τ = mj_E 34 20 (some (.ref v) :: ls) (.ref v :: st) σ τ := mj_nx i34_19 rfl
theorem i34_20 : mj_ins 34 20 = some (.iconst (3), 21) := by decide +kernel
theorem e34_20 {ls : mj_L} {st : List Value} {σ : mj_S} {τ : mj_T} : mj_E 34 20 ls st σ τ = mj_E 34 21 ls (.int (nI 3) :: st) σ τ := mj_nx i34_20 rfl
theorem i34_21 : mj_ins 34 21 = some (.invokevirtual 35, 24) := by decide +kernel
theorem e34_21 {ls : mj_L} {σ : mj_S} {τ : mj_T} {r : Nat} {x0 : Int32} {w0 : Value} : mj_E 34 21 ls [.int x0, .ref r, w0] σ τ = if mj_rcv r 1 = true then mj_bd (mj_C 35 [.ref r, .int x0] σ τ) (mj_K 34 24 ls [w0]) else none := mj_clV (as := [.int x0]) (r := [w0]) i34_21 (by decide +kernel : mj_vk 34 35 1 1 2 false = true) (by decide +kernel)
theorem i34_24 : mj_ins 34 24 = some (.iadd, 25) := by decide +kernel
theorem e34_24 {ls : mj_L} {st : List Value} {σ : mj_S} {τ : mj_T} {x y : Int32} : mj_E 34 24 ls (.int y :: .int x :: st) σ τ = mj_E 34 25 ls (.int (x + y) :: st) σ τ := mj_nx i34_24 rfl
theorem i34_25 : mj_ins 34 25 = some (.istore 3, 26) := by decide +kernel
theorem e34_25 {ls : mj_L} {st : List Value} {σ : mj_S} {τ : mj_T} {a0 a1 a2 a3 : Option Value} {v : Int32} : mj_E 34 25 (a0 :: a1 :: a2 :: a3 :: ls) (.int v :: st) σ τ = mj_E 34 26 (a0 :: a1 :: a2 :: some (.int v) :: ls) st σ τ := mj_nx i34_25 rfl
theorem i34_26 : mj_ins 34 26 = some (.aload 0, 27) := by decide +kernel
theorem e34_26 {ls : mj_L} {st : List Value} {σ : mj_S} {τ : mj_T} {v : Nat} : mj_E 34 26 (some (.ref v) :: ls) st σ τ = mj_E 34 27 (some (.ref v) :: ls) (.ref v :: st) σ τ := mj_nx i34_26 rfl
theorem i34_27 : mj_ins 34 27 = some (.iload 1, 28) := by decide +kernel
theorem e34_27 {ls : mj_L} {st : List Value} {σ : mj_S} {τ : mj_T} {a0 : Option Value} {v : Int32} : mj_E 34 27 (a0 :: some (.int v) :: ls) st σ τ = mj_E 34 28 (a0 :: some (.int v) :: ls) (.int v :: st) σ τ := mj_nx i34_27 rfl
theorem i34_28 : mj_ins 34 28 = some (.invokevirtual 13, 31) := by decide +kernel
theorem e34_28 {ls : mj_L} {σ : mj_S} {τ : mj_T} {r : Nat} {x0 : Int32} : mj_E 34 28 ls [.int x0, .ref r] σ τ = if mj_rcv r 1 = true then mj_bd (mj_C 13 [.ref r, .int x0] σ τ) (mj_K 34 31 ls []) else none := mj_clV (as := [.int x0]) (r := []) i34_28 (by decide +kernel : mj_vk 34 13 1 0 2 false = true) (by decide +kernel)
theorem i34_31 : mj_ins 34 31 = some (.ifCond .ne 41, 34) := by decide +kernel
theorem e34_31 {ls : mj_L} {st : List Value} {σ : mj_S} {τ : mj_T} {x : Int32} : mj_E 34 31 ls (.int x :: st) σ τ = if x = 0 then mj_E 34 34 ls st σ τ else mj_E 34 41 ls st σ τ := (mj_ifc i34_31).trans (mj_cdF rfl)
theorem i34_34 : mj_ins 34 34 = some (.aload 0, 35) := by decide +kernel
theorem e34_34 {ls : mj_L} {st : List Value} {σ : mj_S} {τ : mj_T} {v : Nat} : mj_E 34 34 (some (.ref v) :: ls) st σ τ = mj_E 34 35 (some (.ref v) :: ls) (.ref v :: st) σ τ := mj_nx i34_34 rfl
theorem i34_35 : mj_ins 34 35 = some (.iload 2, 36) := by decide +kernel
theorem e34_35 {ls : mj_L} {st : List Value} {σ : mj_S} {τ : mj_T} {a0 a1 : Option Value} {v : Int32} : mj_E 34 35 (a0 :: a1 :: some (.int v) :: ls) st σ τ = mj_E 34 36 (a0 :: a1 :: some (.int v) :: ls) (.int v :: st) σ τ := mj_nx i34_35 rfl
theorem i34_36 : mj_ins 34 36 = some (.iload 1, 37) := by decide +kernel
theorem e34_36 {ls : mj_L} {st : List Value} {σ : mj_S} {τ : mj_T} {a0 : Option Value} {v : Int32} : mj_E 34 36 (a0 :: some (.int v) :: ls) st σ τ = mj_E 34 37 (a0 :: some (.int v) :: ls) (.int v :: st) σ τ := mj_nx i34_36 rfl
theorem i34_37 : mj_ins 34 37 = some (.iload 3, 38) := by decide +kernel
theorem e34_37 {ls : mj_L} {st : List Value} {σ : mj_S} {τ : mj_T} {a0 a1 a2 : Option Value} {v : Int32} : mj_E 34 37 (a0 :: a1 :: a2 :: some (.int v) :: ls) st σ τ = mj_E 34 38 (a0 :: a1 :: a2 :: some (.int v) :: ls) (.int v :: st) σ τ := mj_nx i34_37 rfl
theorem i34_38 : mj_ins 34 38 = some (.invokevirtual 20, 41) := by decide +kernel
theorem e34_38 {ls : mj_L} {σ : mj_S} {τ : mj_T} {r : Nat} {x0 : Int32} {x1 : Int32} {x2 : Int32} : mj_E 34 38 ls [.int x2, .int x1, .int x0, .ref r] σ τ = if mj_rcv r 1 = true then mj_bd (mj_C 20 [.ref r, .int x0, .int x1, .int x2] σ τ) (mj_K 34 41 ls []) else none := mj_clV (as := [.int x0, .int x1, .int x2]) (r := []) i34_38 (by decide +kernel : mj_vk 34 20 3 0 4 false = true) (by decide +kernel)
theorem i34_41 : mj_ins 34 41 = some (.return_, 42) := by decide +kernel
theorem e34_41 {ls : mj_L} {σ : mj_S} {τ : mj_T} : mj_E 34 41 ls [] σ τ = some (none, σ, τ) := mj_vrt i34_41 rfl
theorem c35 {σ : mj_S} {τ : mj_T} {r : Nat} {x0 : Int32} : mj_C 35 [.ref r, .int x0] σ τ = mj_E 35 0 [some (.ref r), some (.int x0)] [] σ τ := rfl
theorem i35_0 : mj_ins 35 0 = some (.aload 0, 1) := by decide +kernel
theorem e35_0 {ls : mj_L} {st : List Value} {σ : mj_S} {τ : mj_T} {v : Nat} : mj_E 35 0 (some (.ref v) :: ls) st σ τ = mj_E 35 1 (some (.ref v) :: ls) (.ref v :: st) σ τ := mj_nx i35_0 rfl
theorem i35_1 : mj_ins 35 1 = some (.aload 0, 2) := by decide +kernel
theorem e35_1 {ls : mj_L} {st : List Value} {σ : mj_S} {τ : mj_T} {v : Nat} : mj_E 35 1 (some (.ref v) :: ls) st σ τ = mj_E 35 2 (some (.ref v) :: ls) (.ref v :: st) σ τ := mj_nx i35_1 rfl
theorem i35_2 : mj_ins 35 2 = some (.getfield 104, 5) := by decide +kernel
theorem e35_2 {ls : mj_L} {st : List Value} {σ : mj_S} {τ : mj_T} {k : Nat} (h1 : 1 ≤ k) (h2 : k ≤ 3) : mj_E 35 2 ls (.ref k :: st) σ τ = mj_E 35 5 ls (.int (σ k 4) :: st) σ τ := (mj_gf i35_2).trans (congrArg (fun z => mj_ov z _) (fv1_4 h1 h2))
theorem i35_5 : mj_ins 35 5 = some (.iconst (1103515245), 7) := by decide +kernel
theorem e35_5 {ls : mj_L} {st : List Value} {σ : mj_S} {τ : mj_T} : mj_E 35 5 ls st σ τ = mj_E 35 7 ls (.int (nI 1103515245) :: st) σ τ := mj_nx i35_5 rfl
theorem i35_7 : mj_ins 35 7 = some (.imul, 8) := by decide +kernel
theorem e35_7 {ls : mj_L} {st : List Value} {σ : mj_S} {τ : mj_T} {x y : Int32} : mj_E 35 7 ls (.int y :: .int x :: st) σ τ = mj_E 35 8 ls (.int (x * y) :: st) σ τ := mj_nx i35_7 rfl
theorem i35_8 : mj_ins 35 8 = some (.iconst (12345), 11) := by decide +kernel
theorem e35_8 {ls : mj_L} {st : List Value} {σ : mj_S} {τ : mj_T} : mj_E 35 8 ls st σ τ = mj_E 35 11 ls (.int (nI 12345) :: st) σ τ := mj_nx i35_8 rfl
theorem i35_11 : mj_ins 35 11 = some (.iadd, 12) := by decide +kernel
theorem e35_11 {ls : mj_L} {st : List Value} {σ : mj_S} {τ : mj_T} {x y : Int32} : mj_E 35 11 ls (.int y :: .int x :: st) σ τ = mj_E 35 12 ls (.int (x + y) :: st) σ τ := mj_nx i35_11 rfl
theorem i35_12 : mj_ins 35 12 = some (.putfield 104, 15) := by decide +kernel
theorem e35_12 {ls : mj_L} {st : List Value} {σ : mj_S} {τ : mj_T} {k : Nat} (h1 : 1 ≤ k) (h2 : k ≤ 3) {v : Int32} : mj_E 35 12 ls (.int v :: .ref k :: st) σ τ = mj_E 35 15 ls st (mj_up σ k 4 v) τ := (mj_pf i35_12 rfl).trans (if_pos (fw1_4 h1 h2))
theorem i35_15 : mj_ins 35 15 = some (.iload 1, 16) := by decide +kernel
theorem e35_15 {ls : mj_L} {st : List Value} {σ : mj_S} {τ : mj_T} {a0 : Option Value} {v : Int32} : mj_E 35 15 (a0 :: some (.int v) :: ls) st σ τ = mj_E 35 16 (a0 :: some (.int v) :: ls) (.int v :: st) σ τ := mj_nx i35_15 rfl
theorem i35_16 : mj_ins 35 16 = some (.ifCond .gt 23, 19) := by decide +kernel
theorem e35_16 {ls : mj_L} {st : List Value} {σ : mj_S} {τ : mj_T} {x : Int32} : mj_E 35 16 ls (.int x :: st) σ τ = if 0 < x then mj_E 35 23 ls st σ τ else mj_E 35 19 ls st σ τ := (mj_ifc i35_16).trans (mj_cdT rfl)
theorem i35_19 : mj_ins 35 19 = some (.iconst (0), 20) := by decide +kernel
theorem e35_19 {ls : mj_L} {st : List Value} {σ : mj_S} {τ : mj_T} : mj_E 35 19 ls st σ τ = mj_E 35 20 ls (.int (nI 0) :: st) σ τ := mj_nx i35_19 rfl
theorem i35_20 : mj_ins 35 20 = some (.goto 32, 23) := by decide +kernel
theorem e35_20 {ls : mj_L} {st : List Value} {σ : mj_S} {τ : mj_T} : mj_E 35 20 ls st σ τ = mj_E 35 32 ls st σ τ := mj_nx i35_20 rfl
theorem i35_23 : mj_ins 35 23 = some (.aload 0, 24) := by decide +kernel
theorem e35_23 {ls : mj_L} {st : List Value} {σ : mj_S} {τ : mj_T} {v : Nat} : mj_E 35 23 (some (.ref v) :: ls) st σ τ = mj_E 35 24 (some (.ref v) :: ls) (.ref v :: st) σ τ := mj_nx i35_23 rfl
theorem i35_24 : mj_ins 35 24 = some (.getfield 104, 27) := by decide +kernel
theorem e35_24 {ls : mj_L} {st : List Value} {σ : mj_S} {τ : mj_T} {k : Nat} (h1 : 1 ≤ k) (h2 : k ≤ 3) : mj_E 35 24 ls (.ref k :: st) σ τ = mj_E 35 27 ls (.int (σ k 4) :: st) σ τ := (mj_gf i35_24).trans (congrArg (fun z => mj_ov z _) (fv1_4 h1 h2))
theorem i35_27 : mj_ins 35 27 = some (.iconst (16), 29) := by decide +kernel
theorem e35_27 {ls : mj_L} {st : List Value} {σ : mj_S} {τ : mj_T} : mj_E 35 27 ls st σ τ = mj_E 35 29 ls (.int (nI 16) :: st) σ τ := mj_nx i35_27 rfl
theorem i35_29 : mj_ins 35 29 = some (.iushr, 30) := by decide +kernel
theorem e35_29 {ls : mj_L} {st : List Value} {σ : mj_S} {τ : mj_T} {x y : Int32} : mj_E 35 29 ls (.int y :: .int x :: st) σ τ = mj_E 35 30 ls (.int ((x.toUInt32 >>> (y.toUInt32 &&& Int32.toUInt32 31)).toInt32) :: st) σ τ := mj_nx i35_29 rfl
theorem i35_30 : mj_ins 35 30 = some (.iload 1, 31) := by decide +kernel
theorem e35_30 {ls : mj_L} {st : List Value} {σ : mj_S} {τ : mj_T} {a0 : Option Value} {v : Int32} : mj_E 35 30 (a0 :: some (.int v) :: ls) st σ τ = mj_E 35 31 (a0 :: some (.int v) :: ls) (.int v :: st) σ τ := mj_nx i35_30 rfl
theorem i35_31 : mj_ins 35 31 = some (.irem, 32) := by decide +kernel
theorem e35_31 {ls : mj_L} {st : List Value} {σ : mj_S} {τ : mj_T} {x y : Int32} : mj_E 35 31 ls (.int y :: .int x :: st) σ τ = if y = 0 then none else mj_E 35 32 ls (.int (x - x / y * y) :: st) σ τ := mj_rem i35_31
theorem i35_32 : mj_ins 35 32 = some (.ireturn, 33) := by decide +kernel
theorem e35_32 {ls : mj_L} {σ : mj_S} {τ : mj_T} {v : Int32} : mj_E 35 32 ls [.int v] σ τ = some (some (.int v), σ, τ) := mj_irt i35_32 rfl
theorem c36 {σ : mj_S} {τ : mj_T} {r : Nat} : mj_C 36 [.ref r] σ τ = mj_E 36 0 [some (.ref r), none, none] [] σ τ := rfl
theorem i36_0 : mj_ins 36 0 = some (.iconst (0), 1) := by decide +kernel
theorem e36_0 {ls : mj_L} {st : List Value} {σ : mj_S} {τ : mj_T} : mj_E 36 0 ls st σ τ = mj_E 36 1 ls (.int (nI 0) :: st) σ τ := mj_nx i36_0 rfl
theorem i36_1 : mj_ins 36 1 = some (.istore 1, 2) := by decide +kernel
theorem e36_1 {ls : mj_L} {st : List Value} {σ : mj_S} {τ : mj_T} {a0 a1 : Option Value} {v : Int32} : mj_E 36 1 (a0 :: a1 :: ls) (.int v :: st) σ τ = mj_E 36 2 (a0 :: some (.int v) :: ls) st σ τ := mj_nx i36_1 rfl
theorem i36_2 : mj_ins 36 2 = some (.iconst (0), 3) := by decide +kernel
theorem e36_2 {ls : mj_L} {st : List Value} {σ : mj_S} {τ : mj_T} : mj_E 36 2 ls st σ τ = mj_E 36 3 ls (.int (nI 0) :: st) σ τ := mj_nx i36_2 rfl
theorem i36_3 : mj_ins 36 3 = some (.istore 2, 4) := by decide +kernel
theorem e36_3 {ls : mj_L} {st : List Value} {σ : mj_S} {τ : mj_T} {a0 a1 a2 : Option Value} {v : Int32} : mj_E 36 3 (a0 :: a1 :: a2 :: ls) (.int v :: st) σ τ = mj_E 36 4 (a0 :: a1 :: some (.int v) :: ls) st σ τ := mj_nx i36_3 rfl
theorem i36_4 : mj_ins 36 4 = some (.iload 2, 5) := by decide +kernel
theorem e36_4 {ls : mj_L} {st : List Value} {σ : mj_S} {τ : mj_T} {a0 a1 : Option Value} {v : Int32} : mj_E 36 4 (a0 :: a1 :: some (.int v) :: ls) st σ τ = mj_E 36 5 (a0 :: a1 :: some (.int v) :: ls) (.int v :: st) σ τ := mj_nx i36_4 rfl
theorem i36_5 : mj_ins 36 5 = some (.aload 0, 6) := by decide +kernel
theorem e36_5 {ls : mj_L} {st : List Value} {σ : mj_S} {τ : mj_T} {v : Nat} : mj_E 36 5 (some (.ref v) :: ls) st σ τ = mj_E 36 6 (some (.ref v) :: ls) (.ref v :: st) σ τ := mj_nx i36_5 rfl
theorem i36_6 : mj_ins 36 6 = some (.getfield 100, 9) := by decide +kernel
theorem e36_6 {ls : mj_L} {st : List Value} {σ : mj_S} {τ : mj_T} {k : Nat} (h1 : 1 ≤ k) (h2 : k ≤ 3) : mj_E 36 6 ls (.ref k :: st) σ τ = mj_E 36 9 ls (.int (σ k 0) :: st) σ τ := (mj_gf i36_6).trans (congrArg (fun z => mj_ov z _) (fv1_0 h1 h2))
theorem i36_9 : mj_ins 36 9 = some (.if_icmp .ge 27, 12) := by decide +kernel
theorem e36_9 {ls : mj_L} {st : List Value} {σ : mj_S} {τ : mj_T} {x y : Int32} : mj_E 36 9 ls (.int y :: .int x :: st) σ τ = if y ≤ x then mj_E 36 27 ls st σ τ else mj_E 36 12 ls st σ τ := (mj_ifi i36_9).trans (mj_cdT rfl)
theorem i36_12 : mj_ins 36 12 = some (.iload 1, 13) := by decide +kernel
theorem e36_12 {ls : mj_L} {st : List Value} {σ : mj_S} {τ : mj_T} {a0 : Option Value} {v : Int32} : mj_E 36 12 (a0 :: some (.int v) :: ls) st σ τ = mj_E 36 13 (a0 :: some (.int v) :: ls) (.int v :: st) σ τ := mj_nx i36_12 rfl
theorem i36_13 : mj_ins 36 13 = some (.aload 0, 14) := by decide +kernel
theorem e36_13 {ls : mj_L} {st : List Value} {σ : mj_S} {τ : mj_T} {v : Nat} : mj_E 36 13 (some (.ref v) :: ls) st σ τ = mj_E 36 14 (some (.ref v) :: ls) (.ref v :: st) σ τ := mj_nx i36_13 rfl
theorem i36_14 : mj_ins 36 14 = some (.getfield 109, 17) := by decide +kernel
theorem e36_14 {ls : mj_L} {st : List Value} {σ : mj_S} {τ : mj_T} {k : Nat} (h1 : 1 ≤ k) (h2 : k ≤ 3) : mj_E 36 14 ls (.ref k :: st) σ τ = mj_E 36 17 ls (.ref (10 * k + 4) :: st) σ τ := (mj_gf i36_14).trans (congrArg (fun z => mj_ov z _) (fv1_9 h1 h2))
theorem i36_17 : mj_ins 36 17 = some (.iload 2, 18) := by decide +kernel
theorem e36_17 {ls : mj_L} {st : List Value} {σ : mj_S} {τ : mj_T} {a0 a1 : Option Value} {v : Int32} : mj_E 36 17 (a0 :: a1 :: some (.int v) :: ls) st σ τ = mj_E 36 18 (a0 :: a1 :: some (.int v) :: ls) (.int v :: st) σ τ := mj_nx i36_17 rfl
theorem i36_18 : mj_ins 36 18 = some (.iaload, 19) := by decide +kernel
theorem e36_18 {ls : mj_L} {st : List Value} {σ : mj_S} {τ : mj_T} {x : Int32} {k : Nat} : mj_E 36 18 ls (.int x :: .ref k :: st) σ τ = if mj_ib (mj_li σ k) x = true then mj_E 36 19 ls (.int (σ k x.toNatClampNeg) :: st) σ τ else none := mj_ald i36_18
theorem i36_19 : mj_ins 36 19 = some (.iadd, 20) := by decide +kernel
theorem e36_19 {ls : mj_L} {st : List Value} {σ : mj_S} {τ : mj_T} {x y : Int32} : mj_E 36 19 ls (.int y :: .int x :: st) σ τ = mj_E 36 20 ls (.int (x + y) :: st) σ τ := mj_nx i36_19 rfl
theorem i36_20 : mj_ins 36 20 = some (.istore 1, 21) := by decide +kernel
theorem e36_20 {ls : mj_L} {st : List Value} {σ : mj_S} {τ : mj_T} {a0 a1 : Option Value} {v : Int32} : mj_E 36 20 (a0 :: a1 :: ls) (.int v :: st) σ τ = mj_E 36 21 (a0 :: some (.int v) :: ls) st σ τ := mj_nx i36_20 rfl
theorem i36_21 : mj_ins 36 21 = some (.iinc 2 (1), 24) := by decide +kernel
theorem e36_21 {ls : mj_L} {st : List Value} {σ : mj_S} {τ : mj_T} {a0 a1 : Option Value} {v : Int32} : mj_E 36 21 (a0 :: a1 :: some (.int v) :: ls) st σ τ = mj_E 36 24 (a0 :: a1 :: some (.int (v + nI 1)) :: ls) st σ τ := mj_nx i36_21 rfl
theorem i36_24 : mj_ins 36 24 = some (.goto 4, 27) := by decide +kernel
theorem e36_24 {ls : mj_L} {st : List Value} {σ : mj_S} {τ : mj_T} : mj_E 36 24 ls st σ τ = mj_E 36 4 ls st σ τ := mj_nx i36_24 rfl
theorem i36_27 : mj_ins 36 27 = some (.iload 1, 28) := by decide +kernel
theorem e36_27 {ls : mj_L} {st : List Value} {σ : mj_S} {τ : mj_T} {a0 : Option Value} {v : Int32} : mj_E 36 27 (a0 :: some (.int v) :: ls) st σ τ = mj_E 36 28 (a0 :: some (.int v) :: ls) (.int v :: st) σ τ := mj_nx i36_27 rfl
theorem i36_28 : mj_ins 36 28 = some (.ireturn, 29) := by decide +kernel
theorem e36_28 {ls : mj_L} {σ : mj_S} {τ : mj_T} {v : Int32} : mj_E 36 28 ls [.int v] σ τ = some (some (.int v), σ, τ) := mj_irt i36_28 rfl
theorem c37 {σ : mj_S} {τ : mj_T} {r : Nat} : mj_C 37 [.ref r] σ τ = mj_E 37 0 [some (.ref r), none, none] [] σ τ := rfl
theorem i37_0 : mj_ins 37 0 = some (.iconst (0), 1) := by decide +kernel
theorem e37_0 {ls : mj_L} {st : List Value} {σ : mj_S} {τ : mj_T} : mj_E 37 0 ls st σ τ = mj_E 37 1 ls (.int (nI 0) :: st) σ τ := mj_nx i37_0 rfl
theorem i37_1 : mj_ins 37 1 = some (.istore 1, 2) := by decide +kernel
theorem e37_1 {ls : mj_L} {st : List Value} {σ : mj_S} {τ : mj_T} {a0 a1 : Option Value} {v : Int32} : mj_E 37 1 (a0 :: a1 :: ls) (.int v :: st) σ τ = mj_E 37 2 (a0 :: some (.int v) :: ls) st σ τ := mj_nx i37_1 rfl
theorem i37_2 : mj_ins 37 2 = some (.iconst (0), 3) := by decide +kernel
theorem e37_2 {ls : mj_L} {st : List Value} {σ : mj_S} {τ : mj_T} : mj_E 37 2 ls st σ τ = mj_E 37 3 ls (.int (nI 0) :: st) σ τ := mj_nx i37_2 rfl
theorem i37_3 : mj_ins 37 3 = some (.istore 2, 4) := by decide +kernel
theorem e37_3 {ls : mj_L} {st : List Value} {σ : mj_S} {τ : mj_T} {a0 a1 a2 : Option Value} {v : Int32} : mj_E 37 3 (a0 :: a1 :: a2 :: ls) (.int v :: st) σ τ = mj_E 37 4 (a0 :: a1 :: some (.int v) :: ls) st σ τ := mj_nx i37_3 rfl
theorem i37_4 : mj_ins 37 4 = some (.iload 2, 5) := by decide +kernel
theorem e37_4 {ls : mj_L} {st : List Value} {σ : mj_S} {τ : mj_T} {a0 a1 : Option Value} {v : Int32} : mj_E 37 4 (a0 :: a1 :: some (.int v) :: ls) st σ τ = mj_E 37 5 (a0 :: a1 :: some (.int v) :: ls) (.int v :: st) σ τ := mj_nx i37_4 rfl
theorem i37_5 : mj_ins 37 5 = some (.aload 0, 6) := by decide +kernel
theorem e37_5 {ls : mj_L} {st : List Value} {σ : mj_S} {τ : mj_T} {v : Nat} : mj_E 37 5 (some (.ref v) :: ls) st σ τ = mj_E 37 6 (some (.ref v) :: ls) (.ref v :: st) σ τ := mj_nx i37_5 rfl
theorem i37_6 : mj_ins 37 6 = some (.getfield 114, 9) := by decide +kernel
theorem e37_6 {ls : mj_L} {st : List Value} {σ : mj_S} {τ : mj_T} {k : Nat} (h1 : 1 ≤ k) (h2 : k ≤ 3) : mj_E 37 6 ls (.ref k :: st) σ τ = mj_E 37 9 ls (.ref (10 * k + 9) :: st) σ τ := (mj_gf i37_6).trans (congrArg (fun z => mj_ov z _) (fv1_14 h1 h2))
theorem i37_9 : mj_ins 37 9 = some (.arraylength, 10) := by decide +kernel
theorem e37_9 {ls : mj_L} {st : List Value} {σ : mj_S} {τ : mj_T} {k : Nat} (h1 : 1 ≤ k) (h2 : k ≤ 3) : mj_E 37 9 ls (.ref (10 * k + 9) :: st) σ τ = mj_E 37 10 ls (.int (nI 48) :: st) σ τ := by
  rcases (show k = 1 ∨ k = 2 ∨ k = 3 by omega) with rfl | rfl | rfl <;> exact mj_nx i37_9 rfl
theorem i37_10 : mj_ins 37 10 = some (.if_icmp .ge 28, 13) := by decide +kernel
theorem e37_10 {ls : mj_L} {st : List Value} {σ : mj_S} {τ : mj_T} {x y : Int32} : mj_E 37 10 ls (.int y :: .int x :: st) σ τ = if y ≤ x then mj_E 37 28 ls st σ τ else mj_E 37 13 ls st σ τ := (mj_ifi i37_10).trans (mj_cdT rfl)
theorem i37_13 : mj_ins 37 13 = some (.iload 1, 14) := by decide +kernel
theorem e37_13 {ls : mj_L} {st : List Value} {σ : mj_S} {τ : mj_T} {a0 : Option Value} {v : Int32} : mj_E 37 13 (a0 :: some (.int v) :: ls) st σ τ = mj_E 37 14 (a0 :: some (.int v) :: ls) (.int v :: st) σ τ := mj_nx i37_13 rfl
theorem i37_14 : mj_ins 37 14 = some (.aload 0, 15) := by decide +kernel
theorem e37_14 {ls : mj_L} {st : List Value} {σ : mj_S} {τ : mj_T} {v : Nat} : mj_E 37 14 (some (.ref v) :: ls) st σ τ = mj_E 37 15 (some (.ref v) :: ls) (.ref v :: st) σ τ := mj_nx i37_14 rfl
theorem i37_15 : mj_ins 37 15 = some (.getfield 114, 18) := by decide +kernel
theorem e37_15 {ls : mj_L} {st : List Value} {σ : mj_S} {τ : mj_T} {k : Nat} (h1 : 1 ≤ k) (h2 : k ≤ 3) : mj_E 37 15 ls (.ref k :: st) σ τ = mj_E 37 18 ls (.ref (10 * k + 9) :: st) σ τ := (mj_gf i37_15).trans (congrArg (fun z => mj_ov z _) (fv1_14 h1 h2))
theorem i37_18 : mj_ins 37 18 = some (.iload 2, 19) := by decide +kernel
theorem e37_18 {ls : mj_L} {st : List Value} {σ : mj_S} {τ : mj_T} {a0 a1 : Option Value} {v : Int32} : mj_E 37 18 (a0 :: a1 :: some (.int v) :: ls) st σ τ = mj_E 37 19 (a0 :: a1 :: some (.int v) :: ls) (.int v :: st) σ τ := mj_nx i37_18 rfl
theorem i37_19 : mj_ins 37 19 = some (.iaload, 20) := by decide +kernel
theorem e37_19 {ls : mj_L} {st : List Value} {σ : mj_S} {τ : mj_T} {x : Int32} {k : Nat} : mj_E 37 19 ls (.int x :: .ref k :: st) σ τ = if mj_ib (mj_li σ k) x = true then mj_E 37 20 ls (.int (σ k x.toNatClampNeg) :: st) σ τ else none := mj_ald i37_19
theorem i37_20 : mj_ins 37 20 = some (.iadd, 21) := by decide +kernel
theorem e37_20 {ls : mj_L} {st : List Value} {σ : mj_S} {τ : mj_T} {x y : Int32} : mj_E 37 20 ls (.int y :: .int x :: st) σ τ = mj_E 37 21 ls (.int (x + y) :: st) σ τ := mj_nx i37_20 rfl
theorem i37_21 : mj_ins 37 21 = some (.istore 1, 22) := by decide +kernel
theorem e37_21 {ls : mj_L} {st : List Value} {σ : mj_S} {τ : mj_T} {a0 a1 : Option Value} {v : Int32} : mj_E 37 21 (a0 :: a1 :: ls) (.int v :: st) σ τ = mj_E 37 22 (a0 :: some (.int v) :: ls) st σ τ := mj_nx i37_21 rfl
theorem i37_22 : mj_ins 37 22 = some (.iinc 2 (1), 25) := by decide +kernel
theorem e37_22 {ls : mj_L} {st : List Value} {σ : mj_S} {τ : mj_T} {a0 a1 : Option Value} {v : Int32} : mj_E 37 22 (a0 :: a1 :: some (.int v) :: ls) st σ τ = mj_E 37 25 (a0 :: a1 :: some (.int (v + nI 1)) :: ls) st σ τ := mj_nx i37_22 rfl
theorem i37_25 : mj_ins 37 25 = some (.goto 4, 28) := by decide +kernel
theorem e37_25 {ls : mj_L} {st : List Value} {σ : mj_S} {τ : mj_T} : mj_E 37 25 ls st σ τ = mj_E 37 4 ls st σ τ := mj_nx i37_25 rfl
theorem i37_28 : mj_ins 37 28 = some (.iload 1, 29) := by decide +kernel
theorem e37_28 {ls : mj_L} {st : List Value} {σ : mj_S} {τ : mj_T} {a0 : Option Value} {v : Int32} : mj_E 37 28 (a0 :: some (.int v) :: ls) st σ τ = mj_E 37 29 (a0 :: some (.int v) :: ls) (.int v :: st) σ τ := mj_nx i37_28 rfl
theorem i37_29 : mj_ins 37 29 = some (.ireturn, 30) := by decide +kernel
theorem e37_29 {ls : mj_L} {σ : mj_S} {τ : mj_T} {v : Int32} : mj_E 37 29 ls [.int v] σ τ = some (some (.int v), σ, τ) := mj_irt i37_29 rfl
