/-! the equations of the instructions (laid by wip/whole/rows.py) -/
theorem c0 {σ : mj_S} {τ : mj_T} {r : Nat} {x0 : Nat} {x1 : Int32} : mj_C 0 [.ref r, .ref x0, .int x1] σ τ = mj_E 0 0 [some (.ref r), some (.ref x0), some (.int x1), none, none, none, none, none, none] [] σ τ := rfl
theorem i0_0 : mj_ins 0 0 = some (.aload 0, 1) := by decide +kernel
theorem e0_0 {ls : mj_L} {st : List Value} {σ : mj_S} {τ : mj_T} {v : Nat} : mj_E 0 0 (some (.ref v) :: ls) st σ τ = mj_E 0 1 (some (.ref v) :: ls) (.ref v :: st) σ τ := mj_nx i0_0 rfl
theorem i0_1 : mj_ins 0 1 = some (.iconst (-1), 2) := by decide +kernel
theorem e0_1 {ls : mj_L} {st : List Value} {σ : mj_S} {τ : mj_T} : mj_E 0 1 ls st σ τ = mj_E 0 2 ls (.int ((-1)) :: st) σ τ := mj_nx i0_1 rfl
theorem i0_2 : mj_ins 0 2 = some (.putfield 0, 5) := by decide +kernel
theorem e0_2 {ls : mj_L} {st : List Value} {σ : mj_S} {τ : mj_T} {k : Nat} (h1 : 4 ≤ k) (h2 : k ≤ 6) {v : Int32} : mj_E 0 2 ls (.int v :: .ref k :: st) σ τ = mj_E 0 5 ls st (mj_up σ k 0 v) τ := (mj_pf i0_2 rfl).trans (if_pos (fw0_0 h1 h2))
theorem i0_5 : mj_ins 0 5 = some (.aload 0, 6) := by decide +kernel
theorem e0_5 {ls : mj_L} {st : List Value} {σ : mj_S} {τ : mj_T} {v : Nat} : mj_E 0 5 (some (.ref v) :: ls) st σ τ = mj_E 0 6 (some (.ref v) :: ls) (.ref v :: st) σ τ := mj_nx i0_5 rfl
theorem i0_6 : mj_ins 0 6 = some (.iconst (-1), 7) := by decide +kernel
theorem e0_6 {ls : mj_L} {st : List Value} {σ : mj_S} {τ : mj_T} : mj_E 0 6 ls st σ τ = mj_E 0 7 ls (.int ((-1)) :: st) σ τ := mj_nx i0_6 rfl
theorem i0_7 : mj_ins 0 7 = some (.putfield 1, 10) := by decide +kernel
theorem e0_7 {ls : mj_L} {st : List Value} {σ : mj_S} {τ : mj_T} {k : Nat} (h1 : 4 ≤ k) (h2 : k ≤ 6) {v : Int32} : mj_E 0 7 ls (.int v :: .ref k :: st) σ τ = mj_E 0 10 ls st (mj_up σ k 1 v) τ := (mj_pf i0_7 rfl).trans (if_pos (fw0_1 h1 h2))
theorem i0_10 : mj_ins 0 10 = some (.aload 0, 11) := by decide +kernel
theorem e0_10 {ls : mj_L} {st : List Value} {σ : mj_S} {τ : mj_T} {v : Nat} : mj_E 0 10 (some (.ref v) :: ls) st σ τ = mj_E 0 11 (some (.ref v) :: ls) (.ref v :: st) σ τ := mj_nx i0_10 rfl
theorem i0_11 : mj_ins 0 11 = some (.iconst (-1), 12) := by decide +kernel
theorem e0_11 {ls : mj_L} {st : List Value} {σ : mj_S} {τ : mj_T} : mj_E 0 11 ls st σ τ = mj_E 0 12 ls (.int ((-1)) :: st) σ τ := mj_nx i0_11 rfl
theorem i0_12 : mj_ins 0 12 = some (.putfield 2, 15) := by decide +kernel
theorem e0_12 {ls : mj_L} {st : List Value} {σ : mj_S} {τ : mj_T} {k : Nat} (h1 : 4 ≤ k) (h2 : k ≤ 6) {v : Int32} : mj_E 0 12 ls (.int v :: .ref k :: st) σ τ = mj_E 0 15 ls st (mj_up σ k 2 v) τ := (mj_pf i0_12 rfl).trans (if_pos (fw0_2 h1 h2))
theorem i0_15 : mj_ins 0 15 = some (.aload 0, 16) := by decide +kernel
theorem e0_15 {ls : mj_L} {st : List Value} {σ : mj_S} {τ : mj_T} {v : Nat} : mj_E 0 15 (some (.ref v) :: ls) st σ τ = mj_E 0 16 (some (.ref v) :: ls) (.ref v :: st) σ τ := mj_nx i0_15 rfl
theorem i0_16 : mj_ins 0 16 = some (.aload 1, 17) := by decide +kernel
theorem e0_16 {ls : mj_L} {st : List Value} {σ : mj_S} {τ : mj_T} {a0 : Option Value} {v : Nat} : mj_E 0 16 (a0 :: some (.ref v) :: ls) st σ τ = mj_E 0 17 (a0 :: some (.ref v) :: ls) (.ref v :: st) σ τ := mj_nx i0_16 rfl
theorem i0_17 : mj_ins 0 17 = some (.getfield 113, 20) := by decide +kernel
theorem e0_17 {ls : mj_L} {st : List Value} {σ : mj_S} {τ : mj_T} {k : Nat} (h1 : 1 ≤ k) (h2 : k ≤ 3) : mj_E 0 17 ls (.ref k :: st) σ τ = mj_E 0 20 ls (.ref (10 * k + 8) :: st) σ τ := (mj_gf i0_17).trans (congrArg (fun z => mj_ov z _) (fv1_13 h1 h2))
theorem i0_20 : mj_ins 0 20 = some (.iload 2, 21) := by decide +kernel
theorem e0_20 {ls : mj_L} {st : List Value} {σ : mj_S} {τ : mj_T} {a0 a1 : Option Value} {v : Int32} : mj_E 0 20 (a0 :: a1 :: some (.int v) :: ls) st σ τ = mj_E 0 21 (a0 :: a1 :: some (.int v) :: ls) (.int v :: st) σ τ := mj_nx i0_20 rfl
theorem i0_21 : mj_ins 0 21 = some (.iaload, 22) := by decide +kernel
theorem e0_21 {ls : mj_L} {st : List Value} {σ : mj_S} {τ : mj_T} {x : Int32} {k : Nat} : mj_E 0 21 ls (.int x :: .ref k :: st) σ τ = if mj_ib (mj_li σ k) x = true then mj_E 0 22 ls (.int (σ k x.toNatClampNeg) :: st) σ τ else none := mj_ald i0_21
theorem i0_22 : mj_ins 0 22 = some (.putfield 3, 25) := by decide +kernel
theorem e0_22 {ls : mj_L} {st : List Value} {σ : mj_S} {τ : mj_T} {k : Nat} (h1 : 4 ≤ k) (h2 : k ≤ 6) {v : Int32} : mj_E 0 22 ls (.int v :: .ref k :: st) σ τ = mj_E 0 25 ls st (mj_up σ k 3 v) τ := (mj_pf i0_22 rfl).trans (if_pos (fw0_3 h1 h2))
theorem i0_25 : mj_ins 0 25 = some (.iconst (0), 26) := by decide +kernel
theorem e0_25 {ls : mj_L} {st : List Value} {σ : mj_S} {τ : mj_T} : mj_E 0 25 ls st σ τ = mj_E 0 26 ls (.int (nI 0) :: st) σ τ := mj_nx i0_25 rfl
theorem i0_26 : mj_ins 0 26 = some (.istore 3, 27) := by decide +kernel
theorem e0_26 {ls : mj_L} {st : List Value} {σ : mj_S} {τ : mj_T} {a0 a1 a2 a3 : Option Value} {v : Int32} : mj_E 0 26 (a0 :: a1 :: a2 :: a3 :: ls) (.int v :: st) σ τ = mj_E 0 27 (a0 :: a1 :: a2 :: some (.int v) :: ls) st σ τ := mj_nx i0_26 rfl
theorem i0_27 : mj_ins 0 27 = some (.iconst (-1), 28) := by decide +kernel
theorem e0_27 {ls : mj_L} {st : List Value} {σ : mj_S} {τ : mj_T} : mj_E 0 27 ls st σ τ = mj_E 0 28 ls (.int ((-1)) :: st) σ τ := mj_nx i0_27 rfl
theorem i0_28 : mj_ins 0 28 = some (.istore 4, 30) := by decide +kernel
theorem e0_28 {ls : mj_L} {st : List Value} {σ : mj_S} {τ : mj_T} {a0 a1 a2 a3 a4 : Option Value} {v : Int32} : mj_E 0 28 (a0 :: a1 :: a2 :: a3 :: a4 :: ls) (.int v :: st) σ τ = mj_E 0 30 (a0 :: a1 :: a2 :: a3 :: some (.int v) :: ls) st σ τ := mj_nx i0_28 rfl
theorem i0_30 : mj_ins 0 30 = some (.iconst (-1), 31) := by decide +kernel
theorem e0_30 {ls : mj_L} {st : List Value} {σ : mj_S} {τ : mj_T} : mj_E 0 30 ls st σ τ = mj_E 0 31 ls (.int ((-1)) :: st) σ τ := mj_nx i0_30 rfl
theorem i0_31 : mj_ins 0 31 = some (.istore 5, 33) := by decide +kernel
theorem e0_31 {ls : mj_L} {st : List Value} {σ : mj_S} {τ : mj_T} {a0 a1 a2 a3 a4 a5 : Option Value} {v : Int32} : mj_E 0 31 (a0 :: a1 :: a2 :: a3 :: a4 :: a5 :: ls) (.int v :: st) σ τ = mj_E 0 33 (a0 :: a1 :: a2 :: a3 :: a4 :: some (.int v) :: ls) st σ τ := mj_nx i0_31 rfl
theorem i0_33 : mj_ins 0 33 = some (.iconst (0), 34) := by decide +kernel
theorem e0_33 {ls : mj_L} {st : List Value} {σ : mj_S} {τ : mj_T} : mj_E 0 33 ls st σ τ = mj_E 0 34 ls (.int (nI 0) :: st) σ τ := mj_nx i0_33 rfl
theorem i0_34 : mj_ins 0 34 = some (.istore 6, 36) := by decide +kernel
theorem e0_34 {ls : mj_L} {st : List Value} {σ : mj_S} {τ : mj_T} {a0 a1 a2 a3 a4 a5 a6 : Option Value} {v : Int32} : mj_E 0 34 (a0 :: a1 :: a2 :: a3 :: a4 :: a5 :: a6 :: ls) (.int v :: st) σ τ = mj_E 0 36 (a0 :: a1 :: a2 :: a3 :: a4 :: a5 :: some (.int v) :: ls) st σ τ := mj_nx i0_34 rfl
theorem i0_36 : mj_ins 0 36 = some (.iload 6, 38) := by decide +kernel
theorem e0_36 {ls : mj_L} {st : List Value} {σ : mj_S} {τ : mj_T} {a0 a1 a2 a3 a4 a5 : Option Value} {v : Int32} : mj_E 0 36 (a0 :: a1 :: a2 :: a3 :: a4 :: a5 :: some (.int v) :: ls) st σ τ = mj_E 0 38 (a0 :: a1 :: a2 :: a3 :: a4 :: a5 :: some (.int v) :: ls) (.int v :: st) σ τ := mj_nx i0_36 rfl
theorem i0_38 : mj_ins 0 38 = some (.aload 1, 39) := by decide +kernel
theorem e0_38 {ls : mj_L} {st : List Value} {σ : mj_S} {τ : mj_T} {a0 : Option Value} {v : Nat} : mj_E 0 38 (a0 :: some (.ref v) :: ls) st σ τ = mj_E 0 39 (a0 :: some (.ref v) :: ls) (.ref v :: st) σ τ := mj_nx i0_38 rfl
theorem i0_39 : mj_ins 0 39 = some (.getfield 100, 42) := by decide +kernel
theorem e0_39 {ls : mj_L} {st : List Value} {σ : mj_S} {τ : mj_T} {k : Nat} (h1 : 1 ≤ k) (h2 : k ≤ 3) : mj_E 0 39 ls (.ref k :: st) σ τ = mj_E 0 42 ls (.int (σ k 0) :: st) σ τ := (mj_gf i0_39).trans (congrArg (fun z => mj_ov z _) (fv1_0 h1 h2))
theorem i0_42 : mj_ins 0 42 = some (.if_icmp .ge 141, 45) := by decide +kernel
theorem e0_42 {ls : mj_L} {st : List Value} {σ : mj_S} {τ : mj_T} {x y : Int32} : mj_E 0 42 ls (.int y :: .int x :: st) σ τ = if y ≤ x then mj_E 0 141 ls st σ τ else mj_E 0 45 ls st σ τ := (mj_ifi i0_42).trans (mj_cdT rfl)
theorem i0_45 : mj_ins 0 45 = some (.aload 1, 46) := by decide +kernel
theorem e0_45 {ls : mj_L} {st : List Value} {σ : mj_S} {τ : mj_T} {a0 : Option Value} {v : Nat} : mj_E 0 45 (a0 :: some (.ref v) :: ls) st σ τ = mj_E 0 46 (a0 :: some (.ref v) :: ls) (.ref v :: st) σ τ := mj_nx i0_45 rfl
theorem i0_46 : mj_ins 0 46 = some (.iload 2, 47) := by decide +kernel
theorem e0_46 {ls : mj_L} {st : List Value} {σ : mj_S} {τ : mj_T} {a0 a1 : Option Value} {v : Int32} : mj_E 0 46 (a0 :: a1 :: some (.int v) :: ls) st σ τ = mj_E 0 47 (a0 :: a1 :: some (.int v) :: ls) (.int v :: st) σ τ := mj_nx i0_46 rfl
theorem i0_47 : mj_ins 0 47 = some (.iload 6, 49) := by decide +kernel
theorem e0_47 {ls : mj_L} {st : List Value} {σ : mj_S} {τ : mj_T} {a0 a1 a2 a3 a4 a5 : Option Value} {v : Int32} : mj_E 0 47 (a0 :: a1 :: a2 :: a3 :: a4 :: a5 :: some (.int v) :: ls) st σ τ = mj_E 0 49 (a0 :: a1 :: a2 :: a3 :: a4 :: a5 :: some (.int v) :: ls) (.int v :: st) σ τ := mj_nx i0_47 rfl
theorem i0_49 : mj_ins 0 49 = some (.invokevirtual 21, 52) := by decide +kernel
theorem e0_49 {ls : mj_L} {σ : mj_S} {τ : mj_T} {r : Nat} {x0 : Int32} {x1 : Int32} : mj_E 0 49 ls [.int x1, .int x0, .ref r] σ τ = if mj_rcv r 1 = true then mj_bd (mj_C 21 [.ref r, .int x0, .int x1] σ τ) (mj_K 0 52 ls []) else none := mj_clV (as := [.int x0, .int x1]) (r := []) i0_49 (by decide +kernel : mj_vk 0 21 2 0 3 false = true) (by decide +kernel)
theorem i0_52 : mj_ins 0 52 = some (.istore 7, 54) := by decide +kernel
theorem e0_52 {ls : mj_L} {st : List Value} {σ : mj_S} {τ : mj_T} {a0 a1 a2 a3 a4 a5 a6 a7 : Option Value} {v : Int32} : mj_E 0 52 (a0 :: a1 :: a2 :: a3 :: a4 :: a5 :: a6 :: a7 :: ls) (.int v :: st) σ τ = mj_E 0 54 (a0 :: a1 :: a2 :: a3 :: a4 :: a5 :: a6 :: some (.int v) :: ls) st σ τ := mj_nx i0_52 rfl
theorem i0_54 : mj_ins 0 54 = some (.aload 1, 55) := by decide +kernel
theorem e0_54 {ls : mj_L} {st : List Value} {σ : mj_S} {τ : mj_T} {a0 : Option Value} {v : Nat} : mj_E 0 54 (a0 :: some (.ref v) :: ls) st σ τ = mj_E 0 55 (a0 :: some (.ref v) :: ls) (.ref v :: st) σ τ := mj_nx i0_54 rfl
theorem i0_55 : mj_ins 0 55 = some (.iload 2, 56) := by decide +kernel
theorem e0_55 {ls : mj_L} {st : List Value} {σ : mj_S} {τ : mj_T} {a0 a1 : Option Value} {v : Int32} : mj_E 0 55 (a0 :: a1 :: some (.int v) :: ls) st σ τ = mj_E 0 56 (a0 :: a1 :: some (.int v) :: ls) (.int v :: st) σ τ := mj_nx i0_55 rfl
theorem i0_56 : mj_ins 0 56 = some (.iload 6, 58) := by decide +kernel
theorem e0_56 {ls : mj_L} {st : List Value} {σ : mj_S} {τ : mj_T} {a0 a1 a2 a3 a4 a5 : Option Value} {v : Int32} : mj_E 0 56 (a0 :: a1 :: a2 :: a3 :: a4 :: a5 :: some (.int v) :: ls) st σ τ = mj_E 0 58 (a0 :: a1 :: a2 :: a3 :: a4 :: a5 :: some (.int v) :: ls) (.int v :: st) σ τ := mj_nx i0_56 rfl
theorem i0_58 : mj_ins 0 58 = some (.invokevirtual 14, 61) := by decide +kernel
theorem e0_58 {ls : mj_L} {σ : mj_S} {τ : mj_T} {r : Nat} {x0 : Int32} {x1 : Int32} : mj_E 0 58 ls [.int x1, .int x0, .ref r] σ τ = if mj_rcv r 1 = true then mj_bd (mj_C 14 [.ref r, .int x0, .int x1] σ τ) (mj_K 0 61 ls []) else none := mj_clV (as := [.int x0, .int x1]) (r := []) i0_58 (by decide +kernel : mj_vk 0 14 2 0 3 false = true) (by decide +kernel)
theorem i0_61 : mj_ins 0 61 = some (.istore 8, 63) := by decide +kernel
theorem e0_61 {ls : mj_L} {st : List Value} {σ : mj_S} {τ : mj_T} {a0 a1 a2 a3 a4 a5 a6 a7 a8 : Option Value} {v : Int32} : mj_E 0 61 (a0 :: a1 :: a2 :: a3 :: a4 :: a5 :: a6 :: a7 :: a8 :: ls) (.int v :: st) σ τ = mj_E 0 63 (a0 :: a1 :: a2 :: a3 :: a4 :: a5 :: a6 :: a7 :: some (.int v) :: ls) st σ τ := mj_nx i0_61 rfl
theorem i0_63 : mj_ins 0 63 = some (.iload 8, 65) := by decide +kernel
theorem e0_63 {ls : mj_L} {st : List Value} {σ : mj_S} {τ : mj_T} {a0 a1 a2 a3 a4 a5 a6 a7 : Option Value} {v : Int32} : mj_E 0 63 (a0 :: a1 :: a2 :: a3 :: a4 :: a5 :: a6 :: a7 :: some (.int v) :: ls) st σ τ = mj_E 0 65 (a0 :: a1 :: a2 :: a3 :: a4 :: a5 :: a6 :: a7 :: some (.int v) :: ls) (.int v :: st) σ τ := mj_nx i0_63 rfl
theorem i0_65 : mj_ins 0 65 = some (.ifCond .eq 85, 68) := by decide +kernel
theorem e0_65 {ls : mj_L} {st : List Value} {σ : mj_S} {τ : mj_T} {x : Int32} : mj_E 0 65 ls (.int x :: st) σ τ = if x = 0 then mj_E 0 85 ls st σ τ else mj_E 0 68 ls st σ τ := (mj_ifc i0_65).trans (mj_cdT rfl)
theorem i0_68 : mj_ins 0 68 = some (.iload 7, 70) := by decide +kernel
theorem e0_68 {ls : mj_L} {st : List Value} {σ : mj_S} {τ : mj_T} {a0 a1 a2 a3 a4 a5 a6 : Option Value} {v : Int32} : mj_E 0 68 (a0 :: a1 :: a2 :: a3 :: a4 :: a5 :: a6 :: some (.int v) :: ls) st σ τ = mj_E 0 70 (a0 :: a1 :: a2 :: a3 :: a4 :: a5 :: a6 :: some (.int v) :: ls) (.int v :: st) σ τ := mj_nx i0_68 rfl
theorem i0_70 : mj_ins 0 70 = some (.iload 4, 72) := by decide +kernel
theorem e0_70 {ls : mj_L} {st : List Value} {σ : mj_S} {τ : mj_T} {a0 a1 a2 a3 : Option Value} {v : Int32} : mj_E 0 70 (a0 :: a1 :: a2 :: a3 :: some (.int v) :: ls) st σ τ = mj_E 0 72 (a0 :: a1 :: a2 :: a3 :: some (.int v) :: ls) (.int v :: st) σ τ := mj_nx i0_70 rfl
theorem i0_72 : mj_ins 0 72 = some (.if_icmp .le 85, 75) := by decide +kernel
theorem e0_72 {ls : mj_L} {st : List Value} {σ : mj_S} {τ : mj_T} {x y : Int32} : mj_E 0 72 ls (.int y :: .int x :: st) σ τ = if x ≤ y then mj_E 0 85 ls st σ τ else mj_E 0 75 ls st σ τ := (mj_ifi i0_72).trans (mj_cdT rfl)
theorem i0_75 : mj_ins 0 75 = some (.aload 0, 76) := by decide +kernel
theorem e0_75 {ls : mj_L} {st : List Value} {σ : mj_S} {τ : mj_T} {v : Nat} : mj_E 0 75 (some (.ref v) :: ls) st σ τ = mj_E 0 76 (some (.ref v) :: ls) (.ref v :: st) σ τ := mj_nx i0_75 rfl
theorem i0_76 : mj_ins 0 76 = some (.iload 6, 78) := by decide +kernel
theorem e0_76 {ls : mj_L} {st : List Value} {σ : mj_S} {τ : mj_T} {a0 a1 a2 a3 a4 a5 : Option Value} {v : Int32} : mj_E 0 76 (a0 :: a1 :: a2 :: a3 :: a4 :: a5 :: some (.int v) :: ls) st σ τ = mj_E 0 78 (a0 :: a1 :: a2 :: a3 :: a4 :: a5 :: some (.int v) :: ls) (.int v :: st) σ τ := mj_nx i0_76 rfl
theorem i0_78 : mj_ins 0 78 = some (.putfield 1, 81) := by decide +kernel
theorem e0_78 {ls : mj_L} {st : List Value} {σ : mj_S} {τ : mj_T} {k : Nat} (h1 : 4 ≤ k) (h2 : k ≤ 6) {v : Int32} : mj_E 0 78 ls (.int v :: .ref k :: st) σ τ = mj_E 0 81 ls st (mj_up σ k 1 v) τ := (mj_pf i0_78 rfl).trans (if_pos (fw0_1 h1 h2))
theorem i0_81 : mj_ins 0 81 = some (.iload 7, 83) := by decide +kernel
theorem e0_81 {ls : mj_L} {st : List Value} {σ : mj_S} {τ : mj_T} {a0 a1 a2 a3 a4 a5 a6 : Option Value} {v : Int32} : mj_E 0 81 (a0 :: a1 :: a2 :: a3 :: a4 :: a5 :: a6 :: some (.int v) :: ls) st σ τ = mj_E 0 83 (a0 :: a1 :: a2 :: a3 :: a4 :: a5 :: a6 :: some (.int v) :: ls) (.int v :: st) σ τ := mj_nx i0_81 rfl
theorem i0_83 : mj_ins 0 83 = some (.istore 4, 85) := by decide +kernel
theorem e0_83 {ls : mj_L} {st : List Value} {σ : mj_S} {τ : mj_T} {a0 a1 a2 a3 a4 : Option Value} {v : Int32} : mj_E 0 83 (a0 :: a1 :: a2 :: a3 :: a4 :: ls) (.int v :: st) σ τ = mj_E 0 85 (a0 :: a1 :: a2 :: a3 :: some (.int v) :: ls) st σ τ := mj_nx i0_83 rfl
theorem i0_85 : mj_ins 0 85 = some (.iload 8, 87) := by decide +kernel
theorem e0_85 {ls : mj_L} {st : List Value} {σ : mj_S} {τ : mj_T} {a0 a1 a2 a3 a4 a5 a6 a7 : Option Value} {v : Int32} : mj_E 0 85 (a0 :: a1 :: a2 :: a3 :: a4 :: a5 :: a6 :: a7 :: some (.int v) :: ls) st σ τ = mj_E 0 87 (a0 :: a1 :: a2 :: a3 :: a4 :: a5 :: a6 :: a7 :: some (.int v) :: ls) (.int v :: st) σ τ := mj_nx i0_85 rfl
theorem i0_87 : mj_ins 0 87 = some (.ifCond .eq 113, 90) := by decide +kernel
theorem e0_87 {ls : mj_L} {st : List Value} {σ : mj_S} {τ : mj_T} {x : Int32} : mj_E 0 87 ls (.int x :: st) σ τ = if x = 0 then mj_E 0 113 ls st σ τ else mj_E 0 90 ls st σ τ := (mj_ifc i0_87).trans (mj_cdT rfl)
theorem i0_90 : mj_ins 0 90 = some (.aload 0, 91) := by decide +kernel
theorem e0_90 {ls : mj_L} {st : List Value} {σ : mj_S} {τ : mj_T} {v : Nat} : mj_E 0 90 (some (.ref v) :: ls) st σ τ = mj_E 0 91 (some (.ref v) :: ls) (.ref v :: st) σ τ := mj_nx i0_90 rfl
theorem i0_91 : mj_ins 0 91 = some (.getfield 0, 94) := by decide +kernel
theorem e0_91 {ls : mj_L} {st : List Value} {σ : mj_S} {τ : mj_T} {k : Nat} (h1 : 4 ≤ k) (h2 : k ≤ 6) : mj_E 0 91 ls (.ref k :: st) σ τ = mj_E 0 94 ls (.int (σ k 0) :: st) σ τ := (mj_gf i0_91).trans (congrArg (fun z => mj_ov z _) (fv0_0 h1 h2))
theorem i0_94 : mj_ins 0 94 = some (.iconst (-1), 95) := by decide +kernel
theorem e0_94 {ls : mj_L} {st : List Value} {σ : mj_S} {τ : mj_T} : mj_E 0 94 ls st σ τ = mj_E 0 95 ls (.int ((-1)) :: st) σ τ := mj_nx i0_94 rfl
theorem i0_95 : mj_ins 0 95 = some (.if_icmp .eq 104, 98) := by decide +kernel
theorem e0_95 {ls : mj_L} {st : List Value} {σ : mj_S} {τ : mj_T} {x y : Int32} : mj_E 0 95 ls (.int y :: .int x :: st) σ τ = if x = y then mj_E 0 104 ls st σ τ else mj_E 0 98 ls st σ τ := (mj_ifi i0_95).trans (mj_cdT rfl)
theorem i0_98 : mj_ins 0 98 = some (.iload 7, 100) := by decide +kernel
theorem e0_98 {ls : mj_L} {st : List Value} {σ : mj_S} {τ : mj_T} {a0 a1 a2 a3 a4 a5 a6 : Option Value} {v : Int32} : mj_E 0 98 (a0 :: a1 :: a2 :: a3 :: a4 :: a5 :: a6 :: some (.int v) :: ls) st σ τ = mj_E 0 100 (a0 :: a1 :: a2 :: a3 :: a4 :: a5 :: a6 :: some (.int v) :: ls) (.int v :: st) σ τ := mj_nx i0_98 rfl
theorem i0_100 : mj_ins 0 100 = some (.iload 3, 101) := by decide +kernel
theorem e0_100 {ls : mj_L} {st : List Value} {σ : mj_S} {τ : mj_T} {a0 a1 a2 : Option Value} {v : Int32} : mj_E 0 100 (a0 :: a1 :: a2 :: some (.int v) :: ls) st σ τ = mj_E 0 101 (a0 :: a1 :: a2 :: some (.int v) :: ls) (.int v :: st) σ τ := mj_nx i0_100 rfl
theorem i0_101 : mj_ins 0 101 = some (.if_icmp .gt 113, 104) := by decide +kernel
theorem e0_101 {ls : mj_L} {st : List Value} {σ : mj_S} {τ : mj_T} {x y : Int32} : mj_E 0 101 ls (.int y :: .int x :: st) σ τ = if y < x then mj_E 0 113 ls st σ τ else mj_E 0 104 ls st σ τ := (mj_ifi i0_101).trans (mj_cdT rfl)
theorem i0_104 : mj_ins 0 104 = some (.aload 0, 105) := by decide +kernel
theorem e0_104 {ls : mj_L} {st : List Value} {σ : mj_S} {τ : mj_T} {v : Nat} : mj_E 0 104 (some (.ref v) :: ls) st σ τ = mj_E 0 105 (some (.ref v) :: ls) (.ref v :: st) σ τ := mj_nx i0_104 rfl
theorem i0_105 : mj_ins 0 105 = some (.iload 6, 107) := by decide +kernel
theorem e0_105 {ls : mj_L} {st : List Value} {σ : mj_S} {τ : mj_T} {a0 a1 a2 a3 a4 a5 : Option Value} {v : Int32} : mj_E 0 105 (a0 :: a1 :: a2 :: a3 :: a4 :: a5 :: some (.int v) :: ls) st σ τ = mj_E 0 107 (a0 :: a1 :: a2 :: a3 :: a4 :: a5 :: some (.int v) :: ls) (.int v :: st) σ τ := mj_nx i0_105 rfl
theorem i0_107 : mj_ins 0 107 = some (.putfield 0, 110) := by decide +kernel
theorem e0_107 {ls : mj_L} {st : List Value} {σ : mj_S} {τ : mj_T} {k : Nat} (h1 : 4 ≤ k) (h2 : k ≤ 6) {v : Int32} : mj_E 0 107 ls (.int v :: .ref k :: st) σ τ = mj_E 0 110 ls st (mj_up σ k 0 v) τ := (mj_pf i0_107 rfl).trans (if_pos (fw0_0 h1 h2))
theorem i0_110 : mj_ins 0 110 = some (.iload 7, 112) := by decide +kernel
theorem e0_110 {ls : mj_L} {st : List Value} {σ : mj_S} {τ : mj_T} {a0 a1 a2 a3 a4 a5 a6 : Option Value} {v : Int32} : mj_E 0 110 (a0 :: a1 :: a2 :: a3 :: a4 :: a5 :: a6 :: some (.int v) :: ls) st σ τ = mj_E 0 112 (a0 :: a1 :: a2 :: a3 :: a4 :: a5 :: a6 :: some (.int v) :: ls) (.int v :: st) σ τ := mj_nx i0_110 rfl
theorem i0_112 : mj_ins 0 112 = some (.istore 3, 113) := by decide +kernel
theorem e0_112 {ls : mj_L} {st : List Value} {σ : mj_S} {τ : mj_T} {a0 a1 a2 a3 : Option Value} {v : Int32} : mj_E 0 112 (a0 :: a1 :: a2 :: a3 :: ls) (.int v :: st) σ τ = mj_E 0 113 (a0 :: a1 :: a2 :: some (.int v) :: ls) st σ τ := mj_nx i0_112 rfl
theorem i0_113 : mj_ins 0 113 = some (.iload 8, 115) := by decide +kernel
theorem e0_113 {ls : mj_L} {st : List Value} {σ : mj_S} {τ : mj_T} {a0 a1 a2 a3 a4 a5 a6 a7 : Option Value} {v : Int32} : mj_E 0 113 (a0 :: a1 :: a2 :: a3 :: a4 :: a5 :: a6 :: a7 :: some (.int v) :: ls) st σ τ = mj_E 0 115 (a0 :: a1 :: a2 :: a3 :: a4 :: a5 :: a6 :: a7 :: some (.int v) :: ls) (.int v :: st) σ τ := mj_nx i0_113 rfl
theorem i0_115 : mj_ins 0 115 = some (.ifCond .ne 135, 118) := by decide +kernel
theorem e0_115 {ls : mj_L} {st : List Value} {σ : mj_S} {τ : mj_T} {x : Int32} : mj_E 0 115 ls (.int x :: st) σ τ = if x = 0 then mj_E 0 118 ls st σ τ else mj_E 0 135 ls st σ τ := (mj_ifc i0_115).trans (mj_cdF rfl)
theorem i0_118 : mj_ins 0 118 = some (.iload 7, 120) := by decide +kernel
theorem e0_118 {ls : mj_L} {st : List Value} {σ : mj_S} {τ : mj_T} {a0 a1 a2 a3 a4 a5 a6 : Option Value} {v : Int32} : mj_E 0 118 (a0 :: a1 :: a2 :: a3 :: a4 :: a5 :: a6 :: some (.int v) :: ls) st σ τ = mj_E 0 120 (a0 :: a1 :: a2 :: a3 :: a4 :: a5 :: a6 :: some (.int v) :: ls) (.int v :: st) σ τ := mj_nx i0_118 rfl
theorem i0_120 : mj_ins 0 120 = some (.iload 5, 122) := by decide +kernel
theorem e0_120 {ls : mj_L} {st : List Value} {σ : mj_S} {τ : mj_T} {a0 a1 a2 a3 a4 : Option Value} {v : Int32} : mj_E 0 120 (a0 :: a1 :: a2 :: a3 :: a4 :: some (.int v) :: ls) st σ τ = mj_E 0 122 (a0 :: a1 :: a2 :: a3 :: a4 :: some (.int v) :: ls) (.int v :: st) σ τ := mj_nx i0_120 rfl
theorem i0_122 : mj_ins 0 122 = some (.if_icmp .le 135, 125) := by decide +kernel
theorem e0_122 {ls : mj_L} {st : List Value} {σ : mj_S} {τ : mj_T} {x y : Int32} : mj_E 0 122 ls (.int y :: .int x :: st) σ τ = if x ≤ y then mj_E 0 135 ls st σ τ else mj_E 0 125 ls st σ τ := (mj_ifi i0_122).trans (mj_cdT rfl)
theorem i0_125 : mj_ins 0 125 = some (.aload 0, 126) := by decide +kernel
theorem e0_125 {ls : mj_L} {st : List Value} {σ : mj_S} {τ : mj_T} {v : Nat} : mj_E 0 125 (some (.ref v) :: ls) st σ τ = mj_E 0 126 (some (.ref v) :: ls) (.ref v :: st) σ τ := mj_nx i0_125 rfl
theorem i0_126 : mj_ins 0 126 = some (.iload 6, 128) := by decide +kernel
theorem e0_126 {ls : mj_L} {st : List Value} {σ : mj_S} {τ : mj_T} {a0 a1 a2 a3 a4 a5 : Option Value} {v : Int32} : mj_E 0 126 (a0 :: a1 :: a2 :: a3 :: a4 :: a5 :: some (.int v) :: ls) st σ τ = mj_E 0 128 (a0 :: a1 :: a2 :: a3 :: a4 :: a5 :: some (.int v) :: ls) (.int v :: st) σ τ := mj_nx i0_126 rfl
theorem i0_128 : mj_ins 0 128 = some (.putfield 2, 131) := by decide +kernel
theorem e0_128 {ls : mj_L} {st : List Value} {σ : mj_S} {τ : mj_T} {k : Nat} (h1 : 4 ≤ k) (h2 : k ≤ 6) {v : Int32} : mj_E 0 128 ls (.int v :: .ref k :: st) σ τ = mj_E 0 131 ls st (mj_up σ k 2 v) τ := (mj_pf i0_128 rfl).trans (if_pos (fw0_2 h1 h2))
theorem i0_131 : mj_ins 0 131 = some (.iload 7, 133) := by decide +kernel
theorem e0_131 {ls : mj_L} {st : List Value} {σ : mj_S} {τ : mj_T} {a0 a1 a2 a3 a4 a5 a6 : Option Value} {v : Int32} : mj_E 0 131 (a0 :: a1 :: a2 :: a3 :: a4 :: a5 :: a6 :: some (.int v) :: ls) st σ τ = mj_E 0 133 (a0 :: a1 :: a2 :: a3 :: a4 :: a5 :: a6 :: some (.int v) :: ls) (.int v :: st) σ τ := mj_nx i0_131 rfl
theorem i0_133 : mj_ins 0 133 = some (.istore 5, 135) := by decide +kernel
theorem e0_133 {ls : mj_L} {st : List Value} {σ : mj_S} {τ : mj_T} {a0 a1 a2 a3 a4 a5 : Option Value} {v : Int32} : mj_E 0 133 (a0 :: a1 :: a2 :: a3 :: a4 :: a5 :: ls) (.int v :: st) σ τ = mj_E 0 135 (a0 :: a1 :: a2 :: a3 :: a4 :: some (.int v) :: ls) st σ τ := mj_nx i0_133 rfl
theorem i0_135 : mj_ins 0 135 = some (.iinc 6 (1), 138) := by decide +kernel
theorem e0_135 {ls : mj_L} {st : List Value} {σ : mj_S} {τ : mj_T} {a0 a1 a2 a3 a4 a5 : Option Value} {v : Int32} : mj_E 0 135 (a0 :: a1 :: a2 :: a3 :: a4 :: a5 :: some (.int v) :: ls) st σ τ = mj_E 0 138 (a0 :: a1 :: a2 :: a3 :: a4 :: a5 :: some (.int (v + nI 1)) :: ls) st σ τ := mj_nx i0_135 rfl
theorem i0_138 : mj_ins 0 138 = some (.goto 36, 141) := by decide +kernel
theorem e0_138 {ls : mj_L} {st : List Value} {σ : mj_S} {τ : mj_T} : mj_E 0 138 ls st σ τ = mj_E 0 36 ls st σ τ := mj_nx i0_138 rfl
theorem i0_141 : mj_ins 0 141 = some (.aload 0, 142) := by decide +kernel
theorem e0_141 {ls : mj_L} {st : List Value} {σ : mj_S} {τ : mj_T} {v : Nat} : mj_E 0 141 (some (.ref v) :: ls) st σ τ = mj_E 0 142 (some (.ref v) :: ls) (.ref v :: st) σ τ := mj_nx i0_141 rfl
theorem i0_142 : mj_ins 0 142 = some (.invokevirtual 1, 145) := by decide +kernel
theorem e0_142 {ls : mj_L} {σ : mj_S} {τ : mj_T} {r : Nat} : mj_E 0 142 ls [.ref r] σ τ = if mj_rcv r 0 = true then mj_bd (mj_C 1 [.ref r] σ τ) (mj_K 0 145 ls []) else none := mj_clV (as := []) (r := []) i0_142 (by decide +kernel : mj_vk 0 1 0 0 1 false = true) (by decide +kernel)
theorem i0_145 : mj_ins 0 145 = some (.return_, 146) := by decide +kernel
theorem e0_145 {ls : mj_L} {σ : mj_S} {τ : mj_T} : mj_E 0 145 ls [] σ τ = some (none, σ, τ) := mj_vrt i0_145 rfl
theorem c1 {σ : mj_S} {τ : mj_T} {r : Nat} : mj_C 1 [.ref r] σ τ = mj_E 1 0 [some (.ref r)] [] σ τ := rfl
theorem i1_0 : mj_ins 1 0 = some (.aload 0, 1) := by decide +kernel
theorem e1_0 {ls : mj_L} {st : List Value} {σ : mj_S} {τ : mj_T} {v : Nat} : mj_E 1 0 (some (.ref v) :: ls) st σ τ = mj_E 1 1 (some (.ref v) :: ls) (.ref v :: st) σ τ := mj_nx i1_0 rfl
theorem i1_1 : mj_ins 1 1 = some (.getfield 2, 4) := by decide +kernel
theorem e1_1 {ls : mj_L} {st : List Value} {σ : mj_S} {τ : mj_T} {k : Nat} (h1 : 4 ≤ k) (h2 : k ≤ 6) : mj_E 1 1 ls (.ref k :: st) σ τ = mj_E 1 4 ls (.int (σ k 2) :: st) σ τ := (mj_gf i1_1).trans (congrArg (fun z => mj_ov z _) (fv0_2 h1 h2))
theorem i1_4 : mj_ins 1 4 = some (.iconst (-1), 5) := by decide +kernel
theorem e1_4 {ls : mj_L} {st : List Value} {σ : mj_S} {τ : mj_T} : mj_E 1 4 ls st σ τ = mj_E 1 5 ls (.int ((-1)) :: st) σ τ := mj_nx i1_4 rfl
theorem i1_5 : mj_ins 1 5 = some (.if_icmp .eq 16, 8) := by decide +kernel
theorem e1_5 {ls : mj_L} {st : List Value} {σ : mj_S} {τ : mj_T} {x y : Int32} : mj_E 1 5 ls (.int y :: .int x :: st) σ τ = if x = y then mj_E 1 16 ls st σ τ else mj_E 1 8 ls st σ τ := (mj_ifi i1_5).trans (mj_cdT rfl)
theorem i1_8 : mj_ins 1 8 = some (.aload 0, 9) := by decide +kernel
theorem e1_8 {ls : mj_L} {st : List Value} {σ : mj_S} {τ : mj_T} {v : Nat} : mj_E 1 8 (some (.ref v) :: ls) st σ τ = mj_E 1 9 (some (.ref v) :: ls) (.ref v :: st) σ τ := mj_nx i1_8 rfl
theorem i1_9 : mj_ins 1 9 = some (.getfield 0, 12) := by decide +kernel
theorem e1_9 {ls : mj_L} {st : List Value} {σ : mj_S} {τ : mj_T} {k : Nat} (h1 : 4 ≤ k) (h2 : k ≤ 6) : mj_E 1 9 ls (.ref k :: st) σ τ = mj_E 1 12 ls (.int (σ k 0) :: st) σ τ := (mj_gf i1_9).trans (congrArg (fun z => mj_ov z _) (fv0_0 h1 h2))
theorem i1_12 : mj_ins 1 12 = some (.iconst (-1), 13) := by decide +kernel
theorem e1_12 {ls : mj_L} {st : List Value} {σ : mj_S} {τ : mj_T} : mj_E 1 12 ls st σ τ = mj_E 1 13 ls (.int ((-1)) :: st) σ τ := mj_nx i1_12 rfl
theorem i1_13 : mj_ins 1 13 = some (.if_icmp .ne 22, 16) := by decide +kernel
theorem e1_13 {ls : mj_L} {st : List Value} {σ : mj_S} {τ : mj_T} {x y : Int32} : mj_E 1 13 ls (.int y :: .int x :: st) σ τ = if x = y then mj_E 1 16 ls st σ τ else mj_E 1 22 ls st σ τ := (mj_ifi i1_13).trans (mj_cdF rfl)
theorem i1_16 : mj_ins 1 16 = some (.aload 0, 17) := by decide +kernel
theorem e1_16 {ls : mj_L} {st : List Value} {σ : mj_S} {τ : mj_T} {v : Nat} : mj_E 1 16 (some (.ref v) :: ls) st σ τ = mj_E 1 17 (some (.ref v) :: ls) (.ref v :: st) σ τ := mj_nx i1_16 rfl
theorem i1_17 : mj_ins 1 17 = some (.iconst (-1), 18) := by decide +kernel
theorem e1_17 {ls : mj_L} {st : List Value} {σ : mj_S} {τ : mj_T} : mj_E 1 17 ls st σ τ = mj_E 1 18 ls (.int ((-1)) :: st) σ τ := mj_nx i1_17 rfl
theorem i1_18 : mj_ins 1 18 = some (.putfield 0, 21) := by decide +kernel
theorem e1_18 {ls : mj_L} {st : List Value} {σ : mj_S} {τ : mj_T} {k : Nat} (h1 : 4 ≤ k) (h2 : k ≤ 6) {v : Int32} : mj_E 1 18 ls (.int v :: .ref k :: st) σ τ = mj_E 1 21 ls st (mj_up σ k 0 v) τ := (mj_pf i1_18 rfl).trans (if_pos (fw0_0 h1 h2))
theorem i1_21 : mj_ins 1 21 = some (.return_, 22) := by decide +kernel
theorem e1_21 {ls : mj_L} {σ : mj_S} {τ : mj_T} : mj_E 1 21 ls [] σ τ = some (none, σ, τ) := mj_vrt i1_21 rfl
theorem i1_22 : mj_ins 1 22 = some (.aload 0, 23) := by decide +kernel
theorem e1_22 {ls : mj_L} {st : List Value} {σ : mj_S} {τ : mj_T} {v : Nat} : mj_E 1 22 (some (.ref v) :: ls) st σ τ = mj_E 1 23 (some (.ref v) :: ls) (.ref v :: st) σ τ := mj_nx i1_22 rfl
theorem i1_23 : mj_ins 1 23 = some (.aload 0, 24) := by decide +kernel
theorem e1_23 {ls : mj_L} {st : List Value} {σ : mj_S} {τ : mj_T} {v : Nat} : mj_E 1 23 (some (.ref v) :: ls) st σ τ = mj_E 1 24 (some (.ref v) :: ls) (.ref v :: st) σ τ := mj_nx i1_23 rfl
theorem i1_24 : mj_ins 1 24 = some (.getfield 3, 27) := by decide +kernel
theorem e1_24 {ls : mj_L} {st : List Value} {σ : mj_S} {τ : mj_T} {k : Nat} (h1 : 4 ≤ k) (h2 : k ≤ 6) : mj_E 1 24 ls (.ref k :: st) σ τ = mj_E 1 27 ls (.int (σ k 3) :: st) σ τ := (mj_gf i1_24).trans (congrArg (fun z => mj_ov z _) (fv0_3 h1 h2))
theorem i1_27 : mj_ins 1 27 = some (.iconst (1), 28) := by decide +kernel
theorem e1_27 {ls : mj_L} {st : List Value} {σ : mj_S} {τ : mj_T} : mj_E 1 27 ls st σ τ = mj_E 1 28 ls (.int (nI 1) :: st) σ τ := mj_nx i1_27 rfl
theorem i1_28 : mj_ins 1 28 = some (.aload 0, 29) := by decide +kernel
theorem e1_28 {ls : mj_L} {st : List Value} {σ : mj_S} {τ : mj_T} {v : Nat} : mj_E 1 28 (some (.ref v) :: ls) st σ τ = mj_E 1 29 (some (.ref v) :: ls) (.ref v :: st) σ τ := mj_nx i1_28 rfl
theorem i1_29 : mj_ins 1 29 = some (.getfield 0, 32) := by decide +kernel
theorem e1_29 {ls : mj_L} {st : List Value} {σ : mj_S} {τ : mj_T} {k : Nat} (h1 : 4 ≤ k) (h2 : k ≤ 6) : mj_E 1 29 ls (.ref k :: st) σ τ = mj_E 1 32 ls (.int (σ k 0) :: st) σ τ := (mj_gf i1_29).trans (congrArg (fun z => mj_ov z _) (fv0_0 h1 h2))
theorem i1_32 : mj_ins 1 32 = some (.ishl, 33) := by decide +kernel
theorem e1_32 {ls : mj_L} {st : List Value} {σ : mj_S} {τ : mj_T} {x y : Int32} : mj_E 1 32 ls (.int y :: .int x :: st) σ τ = mj_E 1 33 ls (.int (x <<< (y &&& 31)) :: st) σ τ := mj_nx i1_32 rfl
theorem i1_33 : mj_ins 1 33 = some (.ixor, 34) := by decide +kernel
theorem e1_33 {ls : mj_L} {st : List Value} {σ : mj_S} {τ : mj_T} {x y : Int32} : mj_E 1 33 ls (.int y :: .int x :: st) σ τ = mj_E 1 34 ls (.int (x ^^^ y) :: st) σ τ := mj_nx i1_33 rfl
theorem i1_34 : mj_ins 1 34 = some (.iconst (1), 35) := by decide +kernel
theorem e1_34 {ls : mj_L} {st : List Value} {σ : mj_S} {τ : mj_T} : mj_E 1 34 ls st σ τ = mj_E 1 35 ls (.int (nI 1) :: st) σ τ := mj_nx i1_34 rfl
theorem i1_35 : mj_ins 1 35 = some (.aload 0, 36) := by decide +kernel
theorem e1_35 {ls : mj_L} {st : List Value} {σ : mj_S} {τ : mj_T} {v : Nat} : mj_E 1 35 (some (.ref v) :: ls) st σ τ = mj_E 1 36 (some (.ref v) :: ls) (.ref v :: st) σ τ := mj_nx i1_35 rfl
theorem i1_36 : mj_ins 1 36 = some (.getfield 2, 39) := by decide +kernel
theorem e1_36 {ls : mj_L} {st : List Value} {σ : mj_S} {τ : mj_T} {k : Nat} (h1 : 4 ≤ k) (h2 : k ≤ 6) : mj_E 1 36 ls (.ref k :: st) σ τ = mj_E 1 39 ls (.int (σ k 2) :: st) σ τ := (mj_gf i1_36).trans (congrArg (fun z => mj_ov z _) (fv0_2 h1 h2))
theorem i1_39 : mj_ins 1 39 = some (.ishl, 40) := by decide +kernel
theorem e1_39 {ls : mj_L} {st : List Value} {σ : mj_S} {τ : mj_T} {x y : Int32} : mj_E 1 39 ls (.int y :: .int x :: st) σ τ = mj_E 1 40 ls (.int (x <<< (y &&& 31)) :: st) σ τ := mj_nx i1_39 rfl
theorem i1_40 : mj_ins 1 40 = some (.ior, 41) := by decide +kernel
theorem e1_40 {ls : mj_L} {st : List Value} {σ : mj_S} {τ : mj_T} {x y : Int32} : mj_E 1 40 ls (.int y :: .int x :: st) σ τ = mj_E 1 41 ls (.int (x ||| y) :: st) σ τ := mj_nx i1_40 rfl
theorem i1_41 : mj_ins 1 41 = some (.putfield 3, 44) := by decide +kernel
theorem e1_41 {ls : mj_L} {st : List Value} {σ : mj_S} {τ : mj_T} {k : Nat} (h1 : 4 ≤ k) (h2 : k ≤ 6) {v : Int32} : mj_E 1 41 ls (.int v :: .ref k :: st) σ τ = mj_E 1 44 ls st (mj_up σ k 3 v) τ := (mj_pf i1_41 rfl).trans (if_pos (fw0_3 h1 h2))
theorem i1_44 : mj_ins 1 44 = some (.return_, 45) := by decide +kernel
theorem e1_44 {ls : mj_L} {σ : mj_S} {τ : mj_T} : mj_E 1 44 ls [] σ τ = some (none, σ, τ) := mj_vrt i1_44 rfl
theorem c2 {σ : mj_S} {τ : mj_T} {r : Nat} {x0 : Int32} : mj_C 2 [.ref r, .int x0] σ τ = mj_E 2 0 [some (.ref r), some (.int x0)] [] σ τ := rfl
theorem i2_0 : mj_ins 2 0 = some (.iload 1, 1) := by decide +kernel
theorem e2_0 {ls : mj_L} {st : List Value} {σ : mj_S} {τ : mj_T} {a0 : Option Value} {v : Int32} : mj_E 2 0 (a0 :: some (.int v) :: ls) st σ τ = mj_E 2 1 (a0 :: some (.int v) :: ls) (.int v :: st) σ τ := mj_nx i2_0 rfl
theorem i2_1 : mj_ins 2 1 = some (.ifCond .ne 9, 4) := by decide +kernel
theorem e2_1 {ls : mj_L} {st : List Value} {σ : mj_S} {τ : mj_T} {x : Int32} : mj_E 2 1 ls (.int x :: st) σ τ = if x = 0 then mj_E 2 4 ls st σ τ else mj_E 2 9 ls st σ τ := (mj_ifc i2_1).trans (mj_cdF rfl)
theorem i2_4 : mj_ins 2 4 = some (.aload 0, 5) := by decide +kernel
theorem e2_4 {ls : mj_L} {st : List Value} {σ : mj_S} {τ : mj_T} {v : Nat} : mj_E 2 4 (some (.ref v) :: ls) st σ τ = mj_E 2 5 (some (.ref v) :: ls) (.ref v :: st) σ τ := mj_nx i2_4 rfl
theorem i2_5 : mj_ins 2 5 = some (.getfield 0, 8) := by decide +kernel
theorem e2_5 {ls : mj_L} {st : List Value} {σ : mj_S} {τ : mj_T} {k : Nat} (h1 : 4 ≤ k) (h2 : k ≤ 6) : mj_E 2 5 ls (.ref k :: st) σ τ = mj_E 2 8 ls (.int (σ k 0) :: st) σ τ := (mj_gf i2_5).trans (congrArg (fun z => mj_ov z _) (fv0_0 h1 h2))
theorem i2_8 : mj_ins 2 8 = some (.ireturn, 9) := by decide +kernel
theorem e2_8 {ls : mj_L} {σ : mj_S} {τ : mj_T} {v : Int32} : mj_E 2 8 ls [.int v] σ τ = some (some (.int v), σ, τ) := mj_irt i2_8 rfl
theorem i2_9 : mj_ins 2 9 = some (.iload 1, 10) := by decide +kernel
theorem e2_9 {ls : mj_L} {st : List Value} {σ : mj_S} {τ : mj_T} {a0 : Option Value} {v : Int32} : mj_E 2 9 (a0 :: some (.int v) :: ls) st σ τ = mj_E 2 10 (a0 :: some (.int v) :: ls) (.int v :: st) σ τ := mj_nx i2_9 rfl
theorem i2_10 : mj_ins 2 10 = some (.iconst (1), 11) := by decide +kernel
theorem e2_10 {ls : mj_L} {st : List Value} {σ : mj_S} {τ : mj_T} : mj_E 2 10 ls st σ τ = mj_E 2 11 ls (.int (nI 1) :: st) σ τ := mj_nx i2_10 rfl
theorem i2_11 : mj_ins 2 11 = some (.if_icmp .ne 21, 14) := by decide +kernel
theorem e2_11 {ls : mj_L} {st : List Value} {σ : mj_S} {τ : mj_T} {x y : Int32} : mj_E 2 11 ls (.int y :: .int x :: st) σ τ = if x = y then mj_E 2 14 ls st σ τ else mj_E 2 21 ls st σ τ := (mj_ifi i2_11).trans (mj_cdF rfl)
theorem i2_14 : mj_ins 2 14 = some (.aload 0, 15) := by decide +kernel
theorem e2_14 {ls : mj_L} {st : List Value} {σ : mj_S} {τ : mj_T} {v : Nat} : mj_E 2 14 (some (.ref v) :: ls) st σ τ = mj_E 2 15 (some (.ref v) :: ls) (.ref v :: st) σ τ := mj_nx i2_14 rfl
theorem i2_15 : mj_ins 2 15 = some (.getfield 1, 18) := by decide +kernel
theorem e2_15 {ls : mj_L} {st : List Value} {σ : mj_S} {τ : mj_T} {k : Nat} (h1 : 4 ≤ k) (h2 : k ≤ 6) : mj_E 2 15 ls (.ref k :: st) σ τ = mj_E 2 18 ls (.int (σ k 1) :: st) σ τ := (mj_gf i2_15).trans (congrArg (fun z => mj_ov z _) (fv0_1 h1 h2))
theorem i2_18 : mj_ins 2 18 = some (.goto 25, 21) := by decide +kernel
theorem e2_18 {ls : mj_L} {st : List Value} {σ : mj_S} {τ : mj_T} : mj_E 2 18 ls st σ τ = mj_E 2 25 ls st σ τ := mj_nx i2_18 rfl
theorem i2_21 : mj_ins 2 21 = some (.aload 0, 22) := by decide +kernel
theorem e2_21 {ls : mj_L} {st : List Value} {σ : mj_S} {τ : mj_T} {v : Nat} : mj_E 2 21 (some (.ref v) :: ls) st σ τ = mj_E 2 22 (some (.ref v) :: ls) (.ref v :: st) σ τ := mj_nx i2_21 rfl
theorem i2_22 : mj_ins 2 22 = some (.getfield 2, 25) := by decide +kernel
theorem e2_22 {ls : mj_L} {st : List Value} {σ : mj_S} {τ : mj_T} {k : Nat} (h1 : 4 ≤ k) (h2 : k ≤ 6) : mj_E 2 22 ls (.ref k :: st) σ τ = mj_E 2 25 ls (.int (σ k 2) :: st) σ τ := (mj_gf i2_22).trans (congrArg (fun z => mj_ov z _) (fv0_2 h1 h2))
theorem i2_25 : mj_ins 2 25 = some (.ireturn, 26) := by decide +kernel
theorem e2_25 {ls : mj_L} {σ : mj_S} {τ : mj_T} {v : Int32} : mj_E 2 25 ls [.int v] σ τ = some (some (.int v), σ, τ) := mj_irt i2_25 rfl
theorem c3 {σ : mj_S} {τ : mj_T} {x0 : Int32} : mj_C 3 [.int x0] σ τ = mj_E 3 0 [some (.int x0)] [] σ τ := rfl
theorem i3_0 : mj_ins 3 0 = some (.iload 0, 1) := by decide +kernel
theorem e3_0 {ls : mj_L} {st : List Value} {σ : mj_S} {τ : mj_T} {v : Int32} : mj_E 3 0 (some (.int v) :: ls) st σ τ = mj_E 3 1 (some (.int v) :: ls) (.int v :: st) σ τ := mj_nx i3_0 rfl
theorem i3_1 : mj_ins 3 1 = some (.iconst (6), 3) := by decide +kernel
theorem e3_1 {ls : mj_L} {st : List Value} {σ : mj_S} {τ : mj_T} : mj_E 3 1 ls st σ τ = mj_E 3 3 ls (.int (nI 6) :: st) σ τ := mj_nx i3_1 rfl
theorem i3_3 : mj_ins 3 3 = some (.invokespecial 116, 6) := by decide +kernel
theorem e3_3 {ls : mj_L} {σ : mj_S} {τ : mj_T} {x0 : Int32} {x1 : Int32} : mj_E 3 3 ls [.int x1, .int x0] σ τ = mj_bd (mj_C 116 [.int x0, .int x1] σ τ) (mj_K 3 6 ls []) := mj_clP_ (as := [.int x0, .int x1]) (r := []) i3_3 (by decide +kernel : mj_vk 3 116 2 0 2 false = true) rfl
theorem i3_6 : mj_ins 3 6 = some (.ireturn, 7) := by decide +kernel
theorem e3_6 {ls : mj_L} {σ : mj_S} {τ : mj_T} {v : Int32} : mj_E 3 6 ls [.int v] σ τ = if mj_ok (some .boolean) v = true then some (some (.int v), σ, τ) else none := mj_zrt i3_6 rfl
theorem c4 {σ : mj_S} {τ : mj_T} {x0 : Int32} : mj_C 4 [.int x0] σ τ = mj_E 4 0 [some (.int x0)] [] σ τ := rfl
theorem i4_0 : mj_ins 4 0 = some (.iload 0, 1) := by decide +kernel
theorem e4_0 {ls : mj_L} {st : List Value} {σ : mj_S} {τ : mj_T} {v : Int32} : mj_E 4 0 (some (.int v) :: ls) st σ τ = mj_E 4 1 (some (.int v) :: ls) (.int v :: st) σ τ := mj_nx i4_0 rfl
theorem i4_1 : mj_ins 4 1 = some (.invokestatic 3, 4) := by decide +kernel
theorem e4_1 {ls : mj_L} {σ : mj_S} {τ : mj_T} {x0 : Int32} : mj_E 4 1 ls [.int x0] σ τ = mj_bd (mj_C 3 [.int x0] σ τ) (mj_K 4 4 ls []) := mj_clS (as := [.int x0]) (r := []) i4_1 (by decide +kernel : mj_vk 4 3 1 0 1 false = true) rfl
theorem i4_4 : mj_ins 4 4 = some (.ifCond .eq 15, 7) := by decide +kernel
theorem e4_4 {ls : mj_L} {st : List Value} {σ : mj_S} {τ : mj_T} {x : Int32} : mj_E 4 4 ls (.int x :: st) σ τ = if x = 0 then mj_E 4 15 ls st σ τ else mj_E 4 7 ls st σ τ := (mj_ifc i4_4).trans (mj_cdT rfl)
theorem i4_7 : mj_ins 4 7 = some (.getstatic 90, 10) := by decide +kernel
theorem e4_7 {ls : mj_L} {st : List Value} {σ : mj_S} {τ : mj_T} : mj_E 4 7 ls st σ τ = mj_E 4 10 ls (.ref 90 :: st) σ τ := mj_nx i4_7 rfl
theorem i4_10 : mj_ins 4 10 = some (.iload 0, 11) := by decide +kernel
theorem e4_10 {ls : mj_L} {st : List Value} {σ : mj_S} {τ : mj_T} {v : Int32} : mj_E 4 10 (some (.int v) :: ls) st σ τ = mj_E 4 11 (some (.int v) :: ls) (.int v :: st) σ τ := mj_nx i4_10 rfl
theorem i4_11 : mj_ins 4 11 = some (.iaload, 12) := by decide +kernel
theorem e4_11 {ls : mj_L} {st : List Value} {σ : mj_S} {τ : mj_T} {x : Int32} {k : Nat} : mj_E 4 11 ls (.int x :: .ref k :: st) σ τ = if mj_ib (mj_li σ k) x = true then mj_E 4 12 ls (.int (σ k x.toNatClampNeg) :: st) σ τ else none := mj_ald i4_11
theorem i4_12 : mj_ins 4 12 = some (.goto 16, 15) := by decide +kernel
theorem e4_12 {ls : mj_L} {st : List Value} {σ : mj_S} {τ : mj_T} : mj_E 4 12 ls st σ τ = mj_E 4 16 ls st σ τ := mj_nx i4_12 rfl
theorem i4_15 : mj_ins 4 15 = some (.iconst (-1), 16) := by decide +kernel
theorem e4_15 {ls : mj_L} {st : List Value} {σ : mj_S} {τ : mj_T} : mj_E 4 15 ls st σ τ = mj_E 4 16 ls (.int ((-1)) :: st) σ τ := mj_nx i4_15 rfl
theorem i4_16 : mj_ins 4 16 = some (.ireturn, 17) := by decide +kernel
theorem e4_16 {ls : mj_L} {σ : mj_S} {τ : mj_T} {v : Int32} : mj_E 4 16 ls [.int v] σ τ = some (some (.int v), σ, τ) := mj_irt i4_16 rfl
theorem c5 {σ : mj_S} {τ : mj_T} {x0 : Int32} {x1 : Int32} : mj_C 5 [.int x0, .int x1] σ τ = mj_E 5 0 [some (.int x0), some (.int x1), none, none] [] σ τ := rfl
theorem i5_0 : mj_ins 5 0 = some (.iload 0, 1) := by decide +kernel
theorem e5_0 {ls : mj_L} {st : List Value} {σ : mj_S} {τ : mj_T} {v : Int32} : mj_E 5 0 (some (.int v) :: ls) st σ τ = mj_E 5 1 (some (.int v) :: ls) (.int v :: st) σ τ := mj_nx i5_0 rfl
theorem i5_1 : mj_ins 5 1 = some (.istore 2, 2) := by decide +kernel
theorem e5_1 {ls : mj_L} {st : List Value} {σ : mj_S} {τ : mj_T} {a0 a1 a2 : Option Value} {v : Int32} : mj_E 5 1 (a0 :: a1 :: a2 :: ls) (.int v :: st) σ τ = mj_E 5 2 (a0 :: a1 :: some (.int v) :: ls) st σ τ := mj_nx i5_1 rfl
theorem i5_2 : mj_ins 5 2 = some (.iconst (0), 3) := by decide +kernel
theorem e5_2 {ls : mj_L} {st : List Value} {σ : mj_S} {τ : mj_T} : mj_E 5 2 ls st σ τ = mj_E 5 3 ls (.int (nI 0) :: st) σ τ := mj_nx i5_2 rfl
theorem i5_3 : mj_ins 5 3 = some (.istore 3, 4) := by decide +kernel
theorem e5_3 {ls : mj_L} {st : List Value} {σ : mj_S} {τ : mj_T} {a0 a1 a2 a3 : Option Value} {v : Int32} : mj_E 5 3 (a0 :: a1 :: a2 :: a3 :: ls) (.int v :: st) σ τ = mj_E 5 4 (a0 :: a1 :: a2 :: some (.int v) :: ls) st σ τ := mj_nx i5_3 rfl
theorem i5_4 : mj_ins 5 4 = some (.iload 3, 5) := by decide +kernel
theorem e5_4 {ls : mj_L} {st : List Value} {σ : mj_S} {τ : mj_T} {a0 a1 a2 : Option Value} {v : Int32} : mj_E 5 4 (a0 :: a1 :: a2 :: some (.int v) :: ls) st σ τ = mj_E 5 5 (a0 :: a1 :: a2 :: some (.int v) :: ls) (.int v :: st) σ τ := mj_nx i5_4 rfl
theorem i5_5 : mj_ins 5 5 = some (.iconst (6), 7) := by decide +kernel
theorem e5_5 {ls : mj_L} {st : List Value} {σ : mj_S} {τ : mj_T} : mj_E 5 5 ls st σ τ = mj_E 5 7 ls (.int (nI 6) :: st) σ τ := mj_nx i5_5 rfl
theorem i5_7 : mj_ins 5 7 = some (.if_icmp .gt 33, 10) := by decide +kernel
theorem e5_7 {ls : mj_L} {st : List Value} {σ : mj_S} {τ : mj_T} {x y : Int32} : mj_E 5 7 ls (.int y :: .int x :: st) σ τ = if y < x then mj_E 5 33 ls st σ τ else mj_E 5 10 ls st σ τ := (mj_ifi i5_7).trans (mj_cdT rfl)
theorem i5_10 : mj_ins 5 10 = some (.iload 2, 11) := by decide +kernel
theorem e5_10 {ls : mj_L} {st : List Value} {σ : mj_S} {τ : mj_T} {a0 a1 : Option Value} {v : Int32} : mj_E 5 10 (a0 :: a1 :: some (.int v) :: ls) st σ τ = mj_E 5 11 (a0 :: a1 :: some (.int v) :: ls) (.int v :: st) σ τ := mj_nx i5_10 rfl
theorem i5_11 : mj_ins 5 11 = some (.iconst (-1), 12) := by decide +kernel
theorem e5_11 {ls : mj_L} {st : List Value} {σ : mj_S} {τ : mj_T} : mj_E 5 11 ls st σ τ = mj_E 5 12 ls (.int ((-1)) :: st) σ τ := mj_nx i5_11 rfl
theorem i5_12 : mj_ins 5 12 = some (.if_icmp .eq 33, 15) := by decide +kernel
theorem e5_12 {ls : mj_L} {st : List Value} {σ : mj_S} {τ : mj_T} {x y : Int32} : mj_E 5 12 ls (.int y :: .int x :: st) σ τ = if x = y then mj_E 5 33 ls st σ τ else mj_E 5 15 ls st σ τ := (mj_ifi i5_12).trans (mj_cdT rfl)
theorem i5_15 : mj_ins 5 15 = some (.iload 2, 16) := by decide +kernel
theorem e5_15 {ls : mj_L} {st : List Value} {σ : mj_S} {τ : mj_T} {a0 a1 : Option Value} {v : Int32} : mj_E 5 15 (a0 :: a1 :: some (.int v) :: ls) st σ τ = mj_E 5 16 (a0 :: a1 :: some (.int v) :: ls) (.int v :: st) σ τ := mj_nx i5_15 rfl
theorem i5_16 : mj_ins 5 16 = some (.iload 1, 17) := by decide +kernel
theorem e5_16 {ls : mj_L} {st : List Value} {σ : mj_S} {τ : mj_T} {a0 : Option Value} {v : Int32} : mj_E 5 16 (a0 :: some (.int v) :: ls) st σ τ = mj_E 5 17 (a0 :: some (.int v) :: ls) (.int v :: st) σ τ := mj_nx i5_16 rfl
theorem i5_17 : mj_ins 5 17 = some (.if_icmp .ne 22, 20) := by decide +kernel
theorem e5_17 {ls : mj_L} {st : List Value} {σ : mj_S} {τ : mj_T} {x y : Int32} : mj_E 5 17 ls (.int y :: .int x :: st) σ τ = if x = y then mj_E 5 20 ls st σ τ else mj_E 5 22 ls st σ τ := (mj_ifi i5_17).trans (mj_cdF rfl)
theorem i5_20 : mj_ins 5 20 = some (.iconst (1), 21) := by decide +kernel
theorem e5_20 {ls : mj_L} {st : List Value} {σ : mj_S} {τ : mj_T} : mj_E 5 20 ls st σ τ = mj_E 5 21 ls (.int (nI 1) :: st) σ τ := mj_nx i5_20 rfl
theorem i5_21 : mj_ins 5 21 = some (.ireturn, 22) := by decide +kernel
theorem e5_21 {ls : mj_L} {σ : mj_S} {τ : mj_T} {v : Int32} : mj_E 5 21 ls [.int v] σ τ = if mj_ok (some .boolean) v = true then some (some (.int v), σ, τ) else none := mj_zrt i5_21 rfl
theorem i5_22 : mj_ins 5 22 = some (.iload 2, 23) := by decide +kernel
theorem e5_22 {ls : mj_L} {st : List Value} {σ : mj_S} {τ : mj_T} {a0 a1 : Option Value} {v : Int32} : mj_E 5 22 (a0 :: a1 :: some (.int v) :: ls) st σ τ = mj_E 5 23 (a0 :: a1 :: some (.int v) :: ls) (.int v :: st) σ τ := mj_nx i5_22 rfl
theorem i5_23 : mj_ins 5 23 = some (.invokestatic 4, 26) := by decide +kernel
theorem e5_23 {ls : mj_L} {σ : mj_S} {τ : mj_T} {x0 : Int32} : mj_E 5 23 ls [.int x0] σ τ = mj_bd (mj_C 4 [.int x0] σ τ) (mj_K 5 26 ls []) := mj_clS (as := [.int x0]) (r := []) i5_23 (by decide +kernel : mj_vk 5 4 1 0 1 false = true) rfl
theorem i5_26 : mj_ins 5 26 = some (.istore 2, 27) := by decide +kernel
theorem e5_26 {ls : mj_L} {st : List Value} {σ : mj_S} {τ : mj_T} {a0 a1 a2 : Option Value} {v : Int32} : mj_E 5 26 (a0 :: a1 :: a2 :: ls) (.int v :: st) σ τ = mj_E 5 27 (a0 :: a1 :: some (.int v) :: ls) st σ τ := mj_nx i5_26 rfl
theorem i5_27 : mj_ins 5 27 = some (.iinc 3 (1), 30) := by decide +kernel
theorem e5_27 {ls : mj_L} {st : List Value} {σ : mj_S} {τ : mj_T} {a0 a1 a2 : Option Value} {v : Int32} : mj_E 5 27 (a0 :: a1 :: a2 :: some (.int v) :: ls) st σ τ = mj_E 5 30 (a0 :: a1 :: a2 :: some (.int (v + nI 1)) :: ls) st σ τ := mj_nx i5_27 rfl
theorem i5_30 : mj_ins 5 30 = some (.goto 4, 33) := by decide +kernel
theorem e5_30 {ls : mj_L} {st : List Value} {σ : mj_S} {τ : mj_T} : mj_E 5 30 ls st σ τ = mj_E 5 4 ls st σ τ := mj_nx i5_30 rfl
theorem i5_33 : mj_ins 5 33 = some (.iconst (0), 34) := by decide +kernel
theorem e5_33 {ls : mj_L} {st : List Value} {σ : mj_S} {τ : mj_T} : mj_E 5 33 ls st σ τ = mj_E 5 34 ls (.int (nI 0) :: st) σ τ := mj_nx i5_33 rfl
theorem i5_34 : mj_ins 5 34 = some (.ireturn, 35) := by decide +kernel
theorem e5_34 {ls : mj_L} {σ : mj_S} {τ : mj_T} {v : Int32} : mj_E 5 34 ls [.int v] σ τ = if mj_ok (some .boolean) v = true then some (some (.int v), σ, τ) else none := mj_zrt i5_34 rfl
theorem c59 {σ : mj_S} {τ : mj_T} {r : Nat} {x0 : Int32} {x1 : Int32} : mj_C 59 [.ref r, .int x0, .int x1] σ τ = mj_E 59 0 [some (.ref r), some (.int x0), some (.int x1), none] [] σ τ := rfl
theorem i59_0 : mj_ins 59 0 = some (.aload 0, 1) := by decide +kernel
theorem e59_0 {ls : mj_L} {st : List Value} {σ : mj_S} {τ : mj_T} {v : Nat} : mj_E 59 0 (some (.ref v) :: ls) st σ τ = mj_E 59 1 (some (.ref v) :: ls) (.ref v :: st) σ τ := mj_nx i59_0 rfl
theorem i59_1 : mj_ins 59 1 = some (.iload 1, 2) := by decide +kernel
theorem e59_1 {ls : mj_L} {st : List Value} {σ : mj_S} {τ : mj_T} {a0 : Option Value} {v : Int32} : mj_E 59 1 (a0 :: some (.int v) :: ls) st σ τ = mj_E 59 2 (a0 :: some (.int v) :: ls) (.int v :: st) σ τ := mj_nx i59_1 rfl
theorem i59_2 : mj_ins 59 2 = some (.putfield 400, 5) := by decide +kernel
theorem e59_2 {ls : mj_L} {st : List Value} {σ : mj_S} {τ : mj_T} {k : Nat} (h1 : 40 ≤ k) (h2 : k ≤ 47) {v : Int32} : mj_E 59 2 ls (.int v :: .ref k :: st) σ τ = mj_E 59 5 ls st (mj_up σ k 0 v) τ := (mj_pf i59_2 rfl).trans (if_pos (fw4_0 h1 h2))
theorem i59_5 : mj_ins 59 5 = some (.aload 0, 6) := by decide +kernel
theorem e59_5 {ls : mj_L} {st : List Value} {σ : mj_S} {τ : mj_T} {v : Nat} : mj_E 59 5 (some (.ref v) :: ls) st σ τ = mj_E 59 6 (some (.ref v) :: ls) (.ref v :: st) σ τ := mj_nx i59_5 rfl
theorem i59_6 : mj_ins 59 6 = some (.iconst (-1), 7) := by decide +kernel
theorem e59_6 {ls : mj_L} {st : List Value} {σ : mj_S} {τ : mj_T} : mj_E 59 6 ls st σ τ = mj_E 59 7 ls (.int ((-1)) :: st) σ τ := mj_nx i59_6 rfl
theorem i59_7 : mj_ins 59 7 = some (.putfield 401, 10) := by decide +kernel
theorem e59_7 {ls : mj_L} {st : List Value} {σ : mj_S} {τ : mj_T} {k : Nat} (h1 : 40 ≤ k) (h2 : k ≤ 47) {v : Int32} : mj_E 59 7 ls (.int v :: .ref k :: st) σ τ = mj_E 59 10 ls st (mj_up σ k 1 v) τ := (mj_pf i59_7 rfl).trans (if_pos (fw4_1 h1 h2))
theorem i59_10 : mj_ins 59 10 = some (.aload 0, 11) := by decide +kernel
theorem e59_10 {ls : mj_L} {st : List Value} {σ : mj_S} {τ : mj_T} {v : Nat} : mj_E 59 10 (some (.ref v) :: ls) st σ τ = mj_E 59 11 (some (.ref v) :: ls) (.ref v :: st) σ τ := mj_nx i59_10 rfl
theorem i59_11 : mj_ins 59 11 = some (.iload 2, 12) := by decide +kernel
theorem e59_11 {ls : mj_L} {st : List Value} {σ : mj_S} {τ : mj_T} {a0 a1 : Option Value} {v : Int32} : mj_E 59 11 (a0 :: a1 :: some (.int v) :: ls) st σ τ = mj_E 59 12 (a0 :: a1 :: some (.int v) :: ls) (.int v :: st) σ τ := mj_nx i59_11 rfl
theorem i59_12 : mj_ins 59 12 = some (.putfield 402, 15) := by decide +kernel
theorem e59_12 {ls : mj_L} {st : List Value} {σ : mj_S} {τ : mj_T} {k : Nat} (h1 : 40 ≤ k) (h2 : k ≤ 47) {v : Int32} : mj_E 59 12 ls (.int v :: .ref k :: st) σ τ = mj_E 59 15 ls st (mj_up σ k 2 v) τ := (mj_pf i59_12 rfl).trans (if_pos (fw4_2 h1 h2))
theorem i59_15 : mj_ins 59 15 = some (.iconst (0), 16) := by decide +kernel
theorem e59_15 {ls : mj_L} {st : List Value} {σ : mj_S} {τ : mj_T} : mj_E 59 15 ls st σ τ = mj_E 59 16 ls (.int (nI 0) :: st) σ τ := mj_nx i59_15 rfl
theorem i59_16 : mj_ins 59 16 = some (.istore 3, 17) := by decide +kernel
theorem e59_16 {ls : mj_L} {st : List Value} {σ : mj_S} {τ : mj_T} {a0 a1 a2 a3 : Option Value} {v : Int32} : mj_E 59 16 (a0 :: a1 :: a2 :: a3 :: ls) (.int v :: st) σ τ = mj_E 59 17 (a0 :: a1 :: a2 :: some (.int v) :: ls) st σ τ := mj_nx i59_16 rfl
theorem i59_17 : mj_ins 59 17 = some (.iload 3, 18) := by decide +kernel
theorem e59_17 {ls : mj_L} {st : List Value} {σ : mj_S} {τ : mj_T} {a0 a1 a2 : Option Value} {v : Int32} : mj_E 59 17 (a0 :: a1 :: a2 :: some (.int v) :: ls) st σ τ = mj_E 59 18 (a0 :: a1 :: a2 :: some (.int v) :: ls) (.int v :: st) σ τ := mj_nx i59_17 rfl
theorem i59_18 : mj_ins 59 18 = some (.iconst (160), 21) := by decide +kernel
theorem e59_18 {ls : mj_L} {st : List Value} {σ : mj_S} {τ : mj_T} : mj_E 59 18 ls st σ τ = mj_E 59 21 ls (.int (nI 160) :: st) σ τ := mj_nx i59_18 rfl
theorem i59_21 : mj_ins 59 21 = some (.if_icmp .ge 37, 24) := by decide +kernel
theorem e59_21 {ls : mj_L} {st : List Value} {σ : mj_S} {τ : mj_T} {x y : Int32} : mj_E 59 21 ls (.int y :: .int x :: st) σ τ = if y ≤ x then mj_E 59 37 ls st σ τ else mj_E 59 24 ls st σ τ := (mj_ifi i59_21).trans (mj_cdT rfl)
theorem i59_24 : mj_ins 59 24 = some (.aload 0, 25) := by decide +kernel
theorem e59_24 {ls : mj_L} {st : List Value} {σ : mj_S} {τ : mj_T} {v : Nat} : mj_E 59 24 (some (.ref v) :: ls) st σ τ = mj_E 59 25 (some (.ref v) :: ls) (.ref v :: st) σ τ := mj_nx i59_24 rfl
theorem i59_25 : mj_ins 59 25 = some (.getfield 403, 28) := by decide +kernel
theorem e59_25 {ls : mj_L} {st : List Value} {σ : mj_S} {τ : mj_T} {k : Nat} (h1 : 40 ≤ k) (h2 : k ≤ 47) : mj_E 59 25 ls (.ref k :: st) σ τ = mj_E 59 28 ls (.ref (k + 8) :: st) σ τ := (mj_gf i59_25).trans (congrArg (fun z => mj_ov z _) (fv4_3 h1 h2))
theorem i59_28 : mj_ins 59 28 = some (.iload 3, 29) := by decide +kernel
theorem e59_28 {ls : mj_L} {st : List Value} {σ : mj_S} {τ : mj_T} {a0 a1 a2 : Option Value} {v : Int32} : mj_E 59 28 (a0 :: a1 :: a2 :: some (.int v) :: ls) st σ τ = mj_E 59 29 (a0 :: a1 :: a2 :: some (.int v) :: ls) (.int v :: st) σ τ := mj_nx i59_28 rfl
theorem i59_29 : mj_ins 59 29 = some (.lconst 0, 30) := by decide +kernel
theorem e59_29 {ls : mj_L} {st : List Value} {σ : mj_S} {τ : mj_T} : mj_E 59 29 ls st σ τ = mj_E 59 30 ls (.long 0 :: st) σ τ := mj_nx i59_29 rfl
theorem i59_30 : mj_ins 59 30 = some (.lastore, 31) := by decide +kernel
theorem e59_30 {ls : mj_L} {st : List Value} {σ : mj_S} {τ : mj_T} {x : Int32} {v : Int64} {k : Nat} : mj_E 59 30 ls (.long v :: .int x :: .ref k :: st) σ τ = if mj_ib (mj_ll k) x = true then mj_E 59 31 ls st σ (mj_uq τ k x.toNatClampNeg v) else none := mj_last i59_30
theorem i59_31 : mj_ins 59 31 = some (.iinc 3 (1), 34) := by decide +kernel
theorem e59_31 {ls : mj_L} {st : List Value} {σ : mj_S} {τ : mj_T} {a0 a1 a2 : Option Value} {v : Int32} : mj_E 59 31 (a0 :: a1 :: a2 :: some (.int v) :: ls) st σ τ = mj_E 59 34 (a0 :: a1 :: a2 :: some (.int (v + nI 1)) :: ls) st σ τ := mj_nx i59_31 rfl
theorem i59_34 : mj_ins 59 34 = some (.goto 17, 37) := by decide +kernel
theorem e59_34 {ls : mj_L} {st : List Value} {σ : mj_S} {τ : mj_T} : mj_E 59 34 ls st σ τ = mj_E 59 17 ls st σ τ := mj_nx i59_34 rfl
theorem i59_37 : mj_ins 59 37 = some (.return_, 38) := by decide +kernel
theorem e59_37 {ls : mj_L} {σ : mj_S} {τ : mj_T} : mj_E 59 37 ls [] σ τ = some (none, σ, τ) := mj_vrt i59_37 rfl
theorem c60 {σ : mj_S} {τ : mj_T} {r : Nat} {x0 : Int32} : mj_C 60 [.ref r, .int x0] σ τ = mj_E 60 0 [some (.ref r), some (.int x0)] [] σ τ := rfl
theorem i60_0 : mj_ins 60 0 = some (.aload 0, 1) := by decide +kernel
theorem e60_0 {ls : mj_L} {st : List Value} {σ : mj_S} {τ : mj_T} {v : Nat} : mj_E 60 0 (some (.ref v) :: ls) st σ τ = mj_E 60 1 (some (.ref v) :: ls) (.ref v :: st) σ τ := mj_nx i60_0 rfl
theorem i60_1 : mj_ins 60 1 = some (.iconst (-1), 2) := by decide +kernel
theorem e60_1 {ls : mj_L} {st : List Value} {σ : mj_S} {τ : mj_T} : mj_E 60 1 ls st σ τ = mj_E 60 2 ls (.int ((-1)) :: st) σ τ := mj_nx i60_1 rfl
theorem i60_2 : mj_ins 60 2 = some (.putfield 400, 5) := by decide +kernel
theorem e60_2 {ls : mj_L} {st : List Value} {σ : mj_S} {τ : mj_T} {k : Nat} (h1 : 40 ≤ k) (h2 : k ≤ 47) {v : Int32} : mj_E 60 2 ls (.int v :: .ref k :: st) σ τ = mj_E 60 5 ls st (mj_up σ k 0 v) τ := (mj_pf i60_2 rfl).trans (if_pos (fw4_0 h1 h2))
theorem i60_5 : mj_ins 60 5 = some (.aload 0, 6) := by decide +kernel
theorem e60_5 {ls : mj_L} {st : List Value} {σ : mj_S} {τ : mj_T} {v : Nat} : mj_E 60 5 (some (.ref v) :: ls) st σ τ = mj_E 60 6 (some (.ref v) :: ls) (.ref v :: st) σ τ := mj_nx i60_5 rfl
theorem i60_6 : mj_ins 60 6 = some (.iload 1, 7) := by decide +kernel
theorem e60_6 {ls : mj_L} {st : List Value} {σ : mj_S} {τ : mj_T} {a0 : Option Value} {v : Int32} : mj_E 60 6 (a0 :: some (.int v) :: ls) st σ τ = mj_E 60 7 (a0 :: some (.int v) :: ls) (.int v :: st) σ τ := mj_nx i60_6 rfl
theorem i60_7 : mj_ins 60 7 = some (.putfield 401, 10) := by decide +kernel
theorem e60_7 {ls : mj_L} {st : List Value} {σ : mj_S} {τ : mj_T} {k : Nat} (h1 : 40 ≤ k) (h2 : k ≤ 47) {v : Int32} : mj_E 60 7 ls (.int v :: .ref k :: st) σ τ = mj_E 60 10 ls st (mj_up σ k 1 v) τ := (mj_pf i60_7 rfl).trans (if_pos (fw4_1 h1 h2))
theorem i60_10 : mj_ins 60 10 = some (.aload 0, 11) := by decide +kernel
theorem e60_10 {ls : mj_L} {st : List Value} {σ : mj_S} {τ : mj_T} {v : Nat} : mj_E 60 10 (some (.ref v) :: ls) st σ τ = mj_E 60 11 (some (.ref v) :: ls) (.ref v :: st) σ τ := mj_nx i60_10 rfl
theorem i60_11 : mj_ins 60 11 = some (.iconst (0), 12) := by decide +kernel
theorem e60_11 {ls : mj_L} {st : List Value} {σ : mj_S} {τ : mj_T} : mj_E 60 11 ls st σ τ = mj_E 60 12 ls (.int (nI 0) :: st) σ τ := mj_nx i60_11 rfl
theorem i60_12 : mj_ins 60 12 = some (.putfield 402, 15) := by decide +kernel
theorem e60_12 {ls : mj_L} {st : List Value} {σ : mj_S} {τ : mj_T} {k : Nat} (h1 : 40 ≤ k) (h2 : k ≤ 47) {v : Int32} : mj_E 60 12 ls (.int v :: .ref k :: st) σ τ = mj_E 60 15 ls st (mj_up σ k 2 v) τ := (mj_pf i60_12 rfl).trans (if_pos (fw4_2 h1 h2))
theorem i60_15 : mj_ins 60 15 = some (.return_, 16) := by decide +kernel
theorem e60_15 {ls : mj_L} {σ : mj_S} {τ : mj_T} : mj_E 60 15 ls [] σ τ = some (none, σ, τ) := mj_vrt i60_15 rfl
theorem c61 {σ : mj_S} {τ : mj_T} {r : Nat} : mj_C 61 [.ref r] σ τ = mj_E 61 0 [some (.ref r)] [] σ τ := rfl
theorem i61_0 : mj_ins 61 0 = some (.aload 0, 1) := by decide +kernel
theorem e61_0 {ls : mj_L} {st : List Value} {σ : mj_S} {τ : mj_T} {v : Nat} : mj_E 61 0 (some (.ref v) :: ls) st σ τ = mj_E 61 1 (some (.ref v) :: ls) (.ref v :: st) σ τ := mj_nx i61_0 rfl
theorem i61_1 : mj_ins 61 1 = some (.getfield 400, 4) := by decide +kernel
theorem e61_1 {ls : mj_L} {st : List Value} {σ : mj_S} {τ : mj_T} {k : Nat} (h1 : 40 ≤ k) (h2 : k ≤ 47) : mj_E 61 1 ls (.ref k :: st) σ τ = mj_E 61 4 ls (.int (σ k 0) :: st) σ τ := (mj_gf i61_1).trans (congrArg (fun z => mj_ov z _) (fv4_0 h1 h2))
theorem i61_4 : mj_ins 61 4 = some (.iconst (-1), 5) := by decide +kernel
theorem e61_4 {ls : mj_L} {st : List Value} {σ : mj_S} {τ : mj_T} : mj_E 61 4 ls st σ τ = mj_E 61 5 ls (.int ((-1)) :: st) σ τ := mj_nx i61_4 rfl
theorem i61_5 : mj_ins 61 5 = some (.if_icmp .eq 12, 8) := by decide +kernel
theorem e61_5 {ls : mj_L} {st : List Value} {σ : mj_S} {τ : mj_T} {x y : Int32} : mj_E 61 5 ls (.int y :: .int x :: st) σ τ = if x = y then mj_E 61 12 ls st σ τ else mj_E 61 8 ls st σ τ := (mj_ifi i61_5).trans (mj_cdT rfl)
theorem i61_8 : mj_ins 61 8 = some (.iconst (1), 9) := by decide +kernel
theorem e61_8 {ls : mj_L} {st : List Value} {σ : mj_S} {τ : mj_T} : mj_E 61 8 ls st σ τ = mj_E 61 9 ls (.int (nI 1) :: st) σ τ := mj_nx i61_8 rfl
theorem i61_9 : mj_ins 61 9 = some (.goto 13, 12) := by decide +kernel
theorem e61_9 {ls : mj_L} {st : List Value} {σ : mj_S} {τ : mj_T} : mj_E 61 9 ls st σ τ = mj_E 61 13 ls st σ τ := mj_nx i61_9 rfl
theorem i61_12 : mj_ins 61 12 = some (.iconst (0), 13) := by decide +kernel
theorem e61_12 {ls : mj_L} {st : List Value} {σ : mj_S} {τ : mj_T} : mj_E 61 12 ls st σ τ = mj_E 61 13 ls (.int (nI 0) :: st) σ τ := mj_nx i61_12 rfl
theorem i61_13 : mj_ins 61 13 = some (.ireturn, 14) := by decide +kernel
theorem e61_13 {ls : mj_L} {σ : mj_S} {τ : mj_T} {v : Int32} : mj_E 61 13 ls [.int v] σ τ = if mj_ok (some .boolean) v = true then some (some (.int v), σ, τ) else none := mj_zrt i61_13 rfl
theorem c62 {σ : mj_S} {τ : mj_T} {r : Nat} : mj_C 62 [.ref r] σ τ = mj_E 62 0 [some (.ref r)] [] σ τ := rfl
theorem i62_0 : mj_ins 62 0 = some (.aload 0, 1) := by decide +kernel
theorem e62_0 {ls : mj_L} {st : List Value} {σ : mj_S} {τ : mj_T} {v : Nat} : mj_E 62 0 (some (.ref v) :: ls) st σ τ = mj_E 62 1 (some (.ref v) :: ls) (.ref v :: st) σ τ := mj_nx i62_0 rfl
theorem i62_1 : mj_ins 62 1 = some (.getfield 401, 4) := by decide +kernel
theorem e62_1 {ls : mj_L} {st : List Value} {σ : mj_S} {τ : mj_T} {k : Nat} (h1 : 40 ≤ k) (h2 : k ≤ 47) : mj_E 62 1 ls (.ref k :: st) σ τ = mj_E 62 4 ls (.int (σ k 1) :: st) σ τ := (mj_gf i62_1).trans (congrArg (fun z => mj_ov z _) (fv4_1 h1 h2))
theorem i62_4 : mj_ins 62 4 = some (.iconst (-1), 5) := by decide +kernel
theorem e62_4 {ls : mj_L} {st : List Value} {σ : mj_S} {τ : mj_T} : mj_E 62 4 ls st σ τ = mj_E 62 5 ls (.int ((-1)) :: st) σ τ := mj_nx i62_4 rfl
theorem i62_5 : mj_ins 62 5 = some (.if_icmp .eq 12, 8) := by decide +kernel
theorem e62_5 {ls : mj_L} {st : List Value} {σ : mj_S} {τ : mj_T} {x y : Int32} : mj_E 62 5 ls (.int y :: .int x :: st) σ τ = if x = y then mj_E 62 12 ls st σ τ else mj_E 62 8 ls st σ τ := (mj_ifi i62_5).trans (mj_cdT rfl)
theorem i62_8 : mj_ins 62 8 = some (.iconst (1), 9) := by decide +kernel
theorem e62_8 {ls : mj_L} {st : List Value} {σ : mj_S} {τ : mj_T} : mj_E 62 8 ls st σ τ = mj_E 62 9 ls (.int (nI 1) :: st) σ τ := mj_nx i62_8 rfl
theorem i62_9 : mj_ins 62 9 = some (.goto 13, 12) := by decide +kernel
theorem e62_9 {ls : mj_L} {st : List Value} {σ : mj_S} {τ : mj_T} : mj_E 62 9 ls st σ τ = mj_E 62 13 ls st σ τ := mj_nx i62_9 rfl
theorem i62_12 : mj_ins 62 12 = some (.iconst (0), 13) := by decide +kernel
theorem e62_12 {ls : mj_L} {st : List Value} {σ : mj_S} {τ : mj_T} : mj_E 62 12 ls st σ τ = mj_E 62 13 ls (.int (nI 0) :: st) σ τ := mj_nx i62_12 rfl
theorem i62_13 : mj_ins 62 13 = some (.ireturn, 14) := by decide +kernel
theorem e62_13 {ls : mj_L} {σ : mj_S} {τ : mj_T} {v : Int32} : mj_E 62 13 ls [.int v] σ τ = if mj_ok (some .boolean) v = true then some (some (.int v), σ, τ) else none := mj_zrt i62_13 rfl
theorem c63 {σ : mj_S} {τ : mj_T} {r : Nat} {x0 : Int32} : mj_C 63 [.ref r, .int x0] σ τ = mj_E 63 0 [some (.ref r), some (.int x0)] [] σ τ := rfl
theorem i63_0 : mj_ins 63 0 = some (.iload 1, 1) := by decide +kernel
theorem e63_0 {ls : mj_L} {st : List Value} {σ : mj_S} {τ : mj_T} {a0 : Option Value} {v : Int32} : mj_E 63 0 (a0 :: some (.int v) :: ls) st σ τ = mj_E 63 1 (a0 :: some (.int v) :: ls) (.int v :: st) σ τ := mj_nx i63_0 rfl
theorem i63_1 : mj_ins 63 1 = some (.ifCond .lt 16, 4) := by decide +kernel
theorem e63_1 {ls : mj_L} {st : List Value} {σ : mj_S} {τ : mj_T} {x : Int32} : mj_E 63 1 ls (.int x :: st) σ τ = if x < 0 then mj_E 63 16 ls st σ τ else mj_E 63 4 ls st σ τ := (mj_ifc i63_1).trans (mj_cdT rfl)
theorem i63_4 : mj_ins 63 4 = some (.iload 1, 5) := by decide +kernel
theorem e63_4 {ls : mj_L} {st : List Value} {σ : mj_S} {τ : mj_T} {a0 : Option Value} {v : Int32} : mj_E 63 4 (a0 :: some (.int v) :: ls) st σ τ = mj_E 63 5 (a0 :: some (.int v) :: ls) (.int v :: st) σ τ := mj_nx i63_4 rfl
theorem i63_5 : mj_ins 63 5 = some (.aload 0, 6) := by decide +kernel
theorem e63_5 {ls : mj_L} {st : List Value} {σ : mj_S} {τ : mj_T} {v : Nat} : mj_E 63 5 (some (.ref v) :: ls) st σ τ = mj_E 63 6 (some (.ref v) :: ls) (.ref v :: st) σ τ := mj_nx i63_5 rfl
theorem i63_6 : mj_ins 63 6 = some (.getfield 402, 9) := by decide +kernel
theorem e63_6 {ls : mj_L} {st : List Value} {σ : mj_S} {τ : mj_T} {k : Nat} (h1 : 40 ≤ k) (h2 : k ≤ 47) : mj_E 63 6 ls (.ref k :: st) σ τ = mj_E 63 9 ls (.int (σ k 2) :: st) σ τ := (mj_gf i63_6).trans (congrArg (fun z => mj_ov z _) (fv4_2 h1 h2))
theorem i63_9 : mj_ins 63 9 = some (.if_icmp .ge 16, 12) := by decide +kernel
theorem e63_9 {ls : mj_L} {st : List Value} {σ : mj_S} {τ : mj_T} {x y : Int32} : mj_E 63 9 ls (.int y :: .int x :: st) σ τ = if y ≤ x then mj_E 63 16 ls st σ τ else mj_E 63 12 ls st σ τ := (mj_ifi i63_9).trans (mj_cdT rfl)
theorem i63_12 : mj_ins 63 12 = some (.iconst (1), 13) := by decide +kernel
theorem e63_12 {ls : mj_L} {st : List Value} {σ : mj_S} {τ : mj_T} : mj_E 63 12 ls st σ τ = mj_E 63 13 ls (.int (nI 1) :: st) σ τ := mj_nx i63_12 rfl
theorem i63_13 : mj_ins 63 13 = some (.goto 17, 16) := by decide +kernel
theorem e63_13 {ls : mj_L} {st : List Value} {σ : mj_S} {τ : mj_T} : mj_E 63 13 ls st σ τ = mj_E 63 17 ls st σ τ := mj_nx i63_13 rfl
theorem i63_16 : mj_ins 63 16 = some (.iconst (0), 17) := by decide +kernel
theorem e63_16 {ls : mj_L} {st : List Value} {σ : mj_S} {τ : mj_T} : mj_E 63 16 ls st σ τ = mj_E 63 17 ls (.int (nI 0) :: st) σ τ := mj_nx i63_16 rfl
theorem i63_17 : mj_ins 63 17 = some (.ireturn, 18) := by decide +kernel
theorem e63_17 {ls : mj_L} {σ : mj_S} {τ : mj_T} {v : Int32} : mj_E 63 17 ls [.int v] σ τ = if mj_ok (some .boolean) v = true then some (some (.int v), σ, τ) else none := mj_zrt i63_17 rfl
theorem c64 {σ : mj_S} {τ : mj_T} {r : Nat} {x0 : Int32} {x1 : Int32} : mj_C 64 [.ref r, .int x0, .int x1] σ τ = mj_E 64 0 [some (.ref r), some (.int x0), some (.int x1)] [] σ τ := rfl
theorem i64_0 : mj_ins 64 0 = some (.iload 1, 1) := by decide +kernel
theorem e64_0 {ls : mj_L} {st : List Value} {σ : mj_S} {τ : mj_T} {a0 : Option Value} {v : Int32} : mj_E 64 0 (a0 :: some (.int v) :: ls) st σ τ = mj_E 64 1 (a0 :: some (.int v) :: ls) (.int v :: st) σ τ := mj_nx i64_0 rfl
theorem i64_1 : mj_ins 64 1 = some (.ifCond .lt 22, 4) := by decide +kernel
theorem e64_1 {ls : mj_L} {st : List Value} {σ : mj_S} {τ : mj_T} {x : Int32} : mj_E 64 1 ls (.int x :: st) σ τ = if x < 0 then mj_E 64 22 ls st σ τ else mj_E 64 4 ls st σ τ := (mj_ifc i64_1).trans (mj_cdT rfl)
theorem i64_4 : mj_ins 64 4 = some (.iload 2, 5) := by decide +kernel
theorem e64_4 {ls : mj_L} {st : List Value} {σ : mj_S} {τ : mj_T} {a0 a1 : Option Value} {v : Int32} : mj_E 64 4 (a0 :: a1 :: some (.int v) :: ls) st σ τ = mj_E 64 5 (a0 :: a1 :: some (.int v) :: ls) (.int v :: st) σ τ := mj_nx i64_4 rfl
theorem i64_5 : mj_ins 64 5 = some (.ifCond .lt 22, 8) := by decide +kernel
theorem e64_5 {ls : mj_L} {st : List Value} {σ : mj_S} {τ : mj_T} {x : Int32} : mj_E 64 5 ls (.int x :: st) σ τ = if x < 0 then mj_E 64 22 ls st σ τ else mj_E 64 8 ls st σ τ := (mj_ifc i64_5).trans (mj_cdT rfl)
theorem i64_8 : mj_ins 64 8 = some (.iload 2, 9) := by decide +kernel
theorem e64_8 {ls : mj_L} {st : List Value} {σ : mj_S} {τ : mj_T} {a0 a1 : Option Value} {v : Int32} : mj_E 64 8 (a0 :: a1 :: some (.int v) :: ls) st σ τ = mj_E 64 9 (a0 :: a1 :: some (.int v) :: ls) (.int v :: st) σ τ := mj_nx i64_8 rfl
theorem i64_9 : mj_ins 64 9 = some (.aload 0, 10) := by decide +kernel
theorem e64_9 {ls : mj_L} {st : List Value} {σ : mj_S} {τ : mj_T} {v : Nat} : mj_E 64 9 (some (.ref v) :: ls) st σ τ = mj_E 64 10 (some (.ref v) :: ls) (.ref v :: st) σ τ := mj_nx i64_9 rfl
theorem i64_10 : mj_ins 64 10 = some (.getfield 402, 13) := by decide +kernel
theorem e64_10 {ls : mj_L} {st : List Value} {σ : mj_S} {τ : mj_T} {k : Nat} (h1 : 40 ≤ k) (h2 : k ≤ 47) : mj_E 64 10 ls (.ref k :: st) σ τ = mj_E 64 13 ls (.int (σ k 2) :: st) σ τ := (mj_gf i64_10).trans (congrArg (fun z => mj_ov z _) (fv4_2 h1 h2))
theorem i64_13 : mj_ins 64 13 = some (.iload 1, 14) := by decide +kernel
theorem e64_13 {ls : mj_L} {st : List Value} {σ : mj_S} {τ : mj_T} {a0 : Option Value} {v : Int32} : mj_E 64 13 (a0 :: some (.int v) :: ls) st σ τ = mj_E 64 14 (a0 :: some (.int v) :: ls) (.int v :: st) σ τ := mj_nx i64_13 rfl
theorem i64_14 : mj_ins 64 14 = some (.isub, 15) := by decide +kernel
theorem e64_14 {ls : mj_L} {st : List Value} {σ : mj_S} {τ : mj_T} {x y : Int32} : mj_E 64 14 ls (.int y :: .int x :: st) σ τ = mj_E 64 15 ls (.int (x - y) :: st) σ τ := mj_nx i64_14 rfl
theorem i64_15 : mj_ins 64 15 = some (.if_icmp .gt 22, 18) := by decide +kernel
theorem e64_15 {ls : mj_L} {st : List Value} {σ : mj_S} {τ : mj_T} {x y : Int32} : mj_E 64 15 ls (.int y :: .int x :: st) σ τ = if y < x then mj_E 64 22 ls st σ τ else mj_E 64 18 ls st σ τ := (mj_ifi i64_15).trans (mj_cdT rfl)
theorem i64_18 : mj_ins 64 18 = some (.iconst (1), 19) := by decide +kernel
theorem e64_18 {ls : mj_L} {st : List Value} {σ : mj_S} {τ : mj_T} : mj_E 64 18 ls st σ τ = mj_E 64 19 ls (.int (nI 1) :: st) σ τ := mj_nx i64_18 rfl
theorem i64_19 : mj_ins 64 19 = some (.goto 23, 22) := by decide +kernel
theorem e64_19 {ls : mj_L} {st : List Value} {σ : mj_S} {τ : mj_T} : mj_E 64 19 ls st σ τ = mj_E 64 23 ls st σ τ := mj_nx i64_19 rfl
theorem i64_22 : mj_ins 64 22 = some (.iconst (0), 23) := by decide +kernel
theorem e64_22 {ls : mj_L} {st : List Value} {σ : mj_S} {τ : mj_T} : mj_E 64 22 ls st σ τ = mj_E 64 23 ls (.int (nI 0) :: st) σ τ := mj_nx i64_22 rfl
theorem i64_23 : mj_ins 64 23 = some (.ireturn, 24) := by decide +kernel
theorem e64_23 {ls : mj_L} {σ : mj_S} {τ : mj_T} {v : Int32} : mj_E 64 23 ls [.int v] σ τ = if mj_ok (some .boolean) v = true then some (some (.int v), σ, τ) else none := mj_zrt i64_23 rfl
theorem c65 {σ : mj_S} {τ : mj_T} {r : Nat} {x0 : Int32} {x1 : Int64} : mj_C 65 [.ref r, .int x0, .long x1] σ τ = mj_E 65 0 [some (.ref r), some (.int x0), some (.long x1), none] [] σ τ := rfl
theorem i65_0 : mj_ins 65 0 = some (.aload 0, 1) := by decide +kernel
theorem e65_0 {ls : mj_L} {st : List Value} {σ : mj_S} {τ : mj_T} {v : Nat} : mj_E 65 0 (some (.ref v) :: ls) st σ τ = mj_E 65 1 (some (.ref v) :: ls) (.ref v :: st) σ τ := mj_nx i65_0 rfl
theorem i65_1 : mj_ins 65 1 = some (.getfield 400, 4) := by decide +kernel
theorem e65_1 {ls : mj_L} {st : List Value} {σ : mj_S} {τ : mj_T} {k : Nat} (h1 : 40 ≤ k) (h2 : k ≤ 47) : mj_E 65 1 ls (.ref k :: st) σ τ = mj_E 65 4 ls (.int (σ k 0) :: st) σ τ := (mj_gf i65_1).trans (congrArg (fun z => mj_ov z _) (fv4_0 h1 h2))
theorem i65_4 : mj_ins 65 4 = some (.tableswitch 70 (0) (2) #[32, 45, 58], 4) := by decide +kernel
theorem e65_4 {ls : mj_L} {st : List Value} {σ : mj_S} {τ : mj_T} {x : Int32} : mj_E 65 4 ls (.int x :: st) σ τ = if x = nI 0 then mj_E 65 32 ls st σ τ else if x = nI 1 then mj_E 65 45 ls st σ τ else if x = nI 2 then mj_E 65 58 ls st σ τ else mj_E 65 70 ls st σ τ := mj_tsw i65_4 (by decide)
theorem i65_32 : mj_ins 65 32 = some (.aload 0, 33) := by decide +kernel
theorem e65_32 {ls : mj_L} {st : List Value} {σ : mj_S} {τ : mj_T} {v : Nat} : mj_E 65 32 (some (.ref v) :: ls) st σ τ = mj_E 65 33 (some (.ref v) :: ls) (.ref v :: st) σ τ := mj_nx i65_32 rfl
theorem i65_33 : mj_ins 65 33 = some (.getfield 403, 36) := by decide +kernel
theorem e65_33 {ls : mj_L} {st : List Value} {σ : mj_S} {τ : mj_T} {k : Nat} (h1 : 40 ≤ k) (h2 : k ≤ 47) : mj_E 65 33 ls (.ref k :: st) σ τ = mj_E 65 36 ls (.ref (k + 8) :: st) σ τ := (mj_gf i65_33).trans (congrArg (fun z => mj_ov z _) (fv4_3 h1 h2))
theorem i65_36 : mj_ins 65 36 = some (.iload 1, 37) := by decide +kernel
theorem e65_36 {ls : mj_L} {st : List Value} {σ : mj_S} {τ : mj_T} {a0 : Option Value} {v : Int32} : mj_E 65 36 (a0 :: some (.int v) :: ls) st σ τ = mj_E 65 37 (a0 :: some (.int v) :: ls) (.int v :: st) σ τ := mj_nx i65_36 rfl
theorem i65_37 : mj_ins 65 37 = some (.lload 2, 38) := by decide +kernel
theorem e65_37 {ls : mj_L} {st : List Value} {σ : mj_S} {τ : mj_T} {a0 a1 : Option Value} {v : Int64} : mj_E 65 37 (a0 :: a1 :: some (.long v) :: ls) st σ τ = mj_E 65 38 (a0 :: a1 :: some (.long v) :: ls) (.long v :: st) σ τ := mj_nx i65_37 rfl
theorem i65_38 : mj_ins 65 38 = some (.l2i, 39) := by decide +kernel
theorem e65_38 {ls : mj_L} {st : List Value} {σ : mj_S} {τ : mj_T} {x : Int64} : mj_E 65 38 ls (.long x :: st) σ τ = mj_E 65 39 ls (.int x.toInt32 :: st) σ τ := mj_nx i65_38 rfl
theorem i65_39 : mj_ins 65 39 = some (.i2b, 40) := by decide +kernel
theorem e65_39 {ls : mj_L} {st : List Value} {σ : mj_S} {τ : mj_T} {x : Int32} : mj_E 65 39 ls (.int x :: st) σ τ = mj_E 65 40 ls (.int x.toInt8.toInt32 :: st) σ τ := mj_nx i65_39 rfl
theorem i65_40 : mj_ins 65 40 = some (.i2l, 41) := by decide +kernel
theorem e65_40 {ls : mj_L} {st : List Value} {σ : mj_S} {τ : mj_T} {x : Int32} : mj_E 65 40 ls (.int x :: st) σ τ = mj_E 65 41 ls (.long x.toInt64 :: st) σ τ := mj_nx i65_40 rfl
theorem i65_41 : mj_ins 65 41 = some (.lastore, 42) := by decide +kernel
theorem e65_41 {ls : mj_L} {st : List Value} {σ : mj_S} {τ : mj_T} {x : Int32} {v : Int64} {k : Nat} : mj_E 65 41 ls (.long v :: .int x :: .ref k :: st) σ τ = if mj_ib (mj_ll k) x = true then mj_E 65 42 ls st σ (mj_uq τ k x.toNatClampNeg v) else none := mj_last i65_41
theorem i65_42 : mj_ins 65 42 = some (.goto 77, 45) := by decide +kernel
theorem e65_42 {ls : mj_L} {st : List Value} {σ : mj_S} {τ : mj_T} : mj_E 65 42 ls st σ τ = mj_E 65 77 ls st σ τ := mj_nx i65_42 rfl
theorem i65_45 : mj_ins 65 45 = some (.aload 0, 46) := by decide +kernel
theorem e65_45 {ls : mj_L} {st : List Value} {σ : mj_S} {τ : mj_T} {v : Nat} : mj_E 65 45 (some (.ref v) :: ls) st σ τ = mj_E 65 46 (some (.ref v) :: ls) (.ref v :: st) σ τ := mj_nx i65_45 rfl
theorem i65_46 : mj_ins 65 46 = some (.getfield 403, 49) := by decide +kernel
theorem e65_46 {ls : mj_L} {st : List Value} {σ : mj_S} {τ : mj_T} {k : Nat} (h1 : 40 ≤ k) (h2 : k ≤ 47) : mj_E 65 46 ls (.ref k :: st) σ τ = mj_E 65 49 ls (.ref (k + 8) :: st) σ τ := (mj_gf i65_46).trans (congrArg (fun z => mj_ov z _) (fv4_3 h1 h2))
theorem i65_49 : mj_ins 65 49 = some (.iload 1, 50) := by decide +kernel
theorem e65_49 {ls : mj_L} {st : List Value} {σ : mj_S} {τ : mj_T} {a0 : Option Value} {v : Int32} : mj_E 65 49 (a0 :: some (.int v) :: ls) st σ τ = mj_E 65 50 (a0 :: some (.int v) :: ls) (.int v :: st) σ τ := mj_nx i65_49 rfl
theorem i65_50 : mj_ins 65 50 = some (.lload 2, 51) := by decide +kernel
theorem e65_50 {ls : mj_L} {st : List Value} {σ : mj_S} {τ : mj_T} {a0 a1 : Option Value} {v : Int64} : mj_E 65 50 (a0 :: a1 :: some (.long v) :: ls) st σ τ = mj_E 65 51 (a0 :: a1 :: some (.long v) :: ls) (.long v :: st) σ τ := mj_nx i65_50 rfl
theorem i65_51 : mj_ins 65 51 = some (.l2i, 52) := by decide +kernel
theorem e65_51 {ls : mj_L} {st : List Value} {σ : mj_S} {τ : mj_T} {x : Int64} : mj_E 65 51 ls (.long x :: st) σ τ = mj_E 65 52 ls (.int x.toInt32 :: st) σ τ := mj_nx i65_51 rfl
theorem i65_52 : mj_ins 65 52 = some (.i2s, 53) := by decide +kernel
theorem e65_52 {ls : mj_L} {st : List Value} {σ : mj_S} {τ : mj_T} {x : Int32} : mj_E 65 52 ls (.int x :: st) σ τ = mj_E 65 53 ls (.int x.toInt16.toInt32 :: st) σ τ := mj_nx i65_52 rfl
theorem i65_53 : mj_ins 65 53 = some (.i2l, 54) := by decide +kernel
theorem e65_53 {ls : mj_L} {st : List Value} {σ : mj_S} {τ : mj_T} {x : Int32} : mj_E 65 53 ls (.int x :: st) σ τ = mj_E 65 54 ls (.long x.toInt64 :: st) σ τ := mj_nx i65_53 rfl
theorem i65_54 : mj_ins 65 54 = some (.lastore, 55) := by decide +kernel
theorem e65_54 {ls : mj_L} {st : List Value} {σ : mj_S} {τ : mj_T} {x : Int32} {v : Int64} {k : Nat} : mj_E 65 54 ls (.long v :: .int x :: .ref k :: st) σ τ = if mj_ib (mj_ll k) x = true then mj_E 65 55 ls st σ (mj_uq τ k x.toNatClampNeg v) else none := mj_last i65_54
theorem i65_55 : mj_ins 65 55 = some (.goto 77, 58) := by decide +kernel
theorem e65_55 {ls : mj_L} {st : List Value} {σ : mj_S} {τ : mj_T} : mj_E 65 55 ls st σ τ = mj_E 65 77 ls st σ τ := mj_nx i65_55 rfl
theorem i65_58 : mj_ins 65 58 = some (.aload 0, 59) := by decide +kernel
theorem e65_58 {ls : mj_L} {st : List Value} {σ : mj_S} {τ : mj_T} {v : Nat} : mj_E 65 58 (some (.ref v) :: ls) st σ τ = mj_E 65 59 (some (.ref v) :: ls) (.ref v :: st) σ τ := mj_nx i65_58 rfl
theorem i65_59 : mj_ins 65 59 = some (.getfield 403, 62) := by decide +kernel
theorem e65_59 {ls : mj_L} {st : List Value} {σ : mj_S} {τ : mj_T} {k : Nat} (h1 : 40 ≤ k) (h2 : k ≤ 47) : mj_E 65 59 ls (.ref k :: st) σ τ = mj_E 65 62 ls (.ref (k + 8) :: st) σ τ := (mj_gf i65_59).trans (congrArg (fun z => mj_ov z _) (fv4_3 h1 h2))
theorem i65_62 : mj_ins 65 62 = some (.iload 1, 63) := by decide +kernel
theorem e65_62 {ls : mj_L} {st : List Value} {σ : mj_S} {τ : mj_T} {a0 : Option Value} {v : Int32} : mj_E 65 62 (a0 :: some (.int v) :: ls) st σ τ = mj_E 65 63 (a0 :: some (.int v) :: ls) (.int v :: st) σ τ := mj_nx i65_62 rfl
theorem i65_63 : mj_ins 65 63 = some (.lload 2, 64) := by decide +kernel
theorem e65_63 {ls : mj_L} {st : List Value} {σ : mj_S} {τ : mj_T} {a0 a1 : Option Value} {v : Int64} : mj_E 65 63 (a0 :: a1 :: some (.long v) :: ls) st σ τ = mj_E 65 64 (a0 :: a1 :: some (.long v) :: ls) (.long v :: st) σ τ := mj_nx i65_63 rfl
theorem i65_64 : mj_ins 65 64 = some (.l2i, 65) := by decide +kernel
theorem e65_64 {ls : mj_L} {st : List Value} {σ : mj_S} {τ : mj_T} {x : Int64} : mj_E 65 64 ls (.long x :: st) σ τ = mj_E 65 65 ls (.int x.toInt32 :: st) σ τ := mj_nx i65_64 rfl
theorem i65_65 : mj_ins 65 65 = some (.i2l, 66) := by decide +kernel
theorem e65_65 {ls : mj_L} {st : List Value} {σ : mj_S} {τ : mj_T} {x : Int32} : mj_E 65 65 ls (.int x :: st) σ τ = mj_E 65 66 ls (.long x.toInt64 :: st) σ τ := mj_nx i65_65 rfl
theorem i65_66 : mj_ins 65 66 = some (.lastore, 67) := by decide +kernel
theorem e65_66 {ls : mj_L} {st : List Value} {σ : mj_S} {τ : mj_T} {x : Int32} {v : Int64} {k : Nat} : mj_E 65 66 ls (.long v :: .int x :: .ref k :: st) σ τ = if mj_ib (mj_ll k) x = true then mj_E 65 67 ls st σ (mj_uq τ k x.toNatClampNeg v) else none := mj_last i65_66
theorem i65_67 : mj_ins 65 67 = some (.goto 77, 70) := by decide +kernel
theorem e65_67 {ls : mj_L} {st : List Value} {σ : mj_S} {τ : mj_T} : mj_E 65 67 ls st σ τ = mj_E 65 77 ls st σ τ := mj_nx i65_67 rfl
theorem i65_70 : mj_ins 65 70 = some (.aload 0, 71) := by decide +kernel
theorem e65_70 {ls : mj_L} {st : List Value} {σ : mj_S} {τ : mj_T} {v : Nat} : mj_E 65 70 (some (.ref v) :: ls) st σ τ = mj_E 65 71 (some (.ref v) :: ls) (.ref v :: st) σ τ := mj_nx i65_70 rfl
theorem i65_71 : mj_ins 65 71 = some (.getfield 403, 74) := by decide +kernel
theorem e65_71 {ls : mj_L} {st : List Value} {σ : mj_S} {τ : mj_T} {k : Nat} (h1 : 40 ≤ k) (h2 : k ≤ 47) : mj_E 65 71 ls (.ref k :: st) σ τ = mj_E 65 74 ls (.ref (k + 8) :: st) σ τ := (mj_gf i65_71).trans (congrArg (fun z => mj_ov z _) (fv4_3 h1 h2))
theorem i65_74 : mj_ins 65 74 = some (.iload 1, 75) := by decide +kernel
theorem e65_74 {ls : mj_L} {st : List Value} {σ : mj_S} {τ : mj_T} {a0 : Option Value} {v : Int32} : mj_E 65 74 (a0 :: some (.int v) :: ls) st σ τ = mj_E 65 75 (a0 :: some (.int v) :: ls) (.int v :: st) σ τ := mj_nx i65_74 rfl
theorem i65_75 : mj_ins 65 75 = some (.lload 2, 76) := by decide +kernel
theorem e65_75 {ls : mj_L} {st : List Value} {σ : mj_S} {τ : mj_T} {a0 a1 : Option Value} {v : Int64} : mj_E 65 75 (a0 :: a1 :: some (.long v) :: ls) st σ τ = mj_E 65 76 (a0 :: a1 :: some (.long v) :: ls) (.long v :: st) σ τ := mj_nx i65_75 rfl
theorem i65_76 : mj_ins 65 76 = some (.lastore, 77) := by decide +kernel
theorem e65_76 {ls : mj_L} {st : List Value} {σ : mj_S} {τ : mj_T} {x : Int32} {v : Int64} {k : Nat} : mj_E 65 76 ls (.long v :: .int x :: .ref k :: st) σ τ = if mj_ib (mj_ll k) x = true then mj_E 65 77 ls st σ (mj_uq τ k x.toNatClampNeg v) else none := mj_last i65_76
theorem i65_77 : mj_ins 65 77 = some (.return_, 78) := by decide +kernel
theorem e65_77 {ls : mj_L} {σ : mj_S} {τ : mj_T} : mj_E 65 77 ls [] σ τ = some (none, σ, τ) := mj_vrt i65_77 rfl
theorem c66 {σ : mj_S} {τ : mj_T} {r : Nat} {x0 : Int32} : mj_C 66 [.ref r, .int x0] σ τ = mj_E 66 0 [some (.ref r), some (.int x0)] [] σ τ := rfl
theorem i66_0 : mj_ins 66 0 = some (.aload 0, 1) := by decide +kernel
theorem e66_0 {ls : mj_L} {st : List Value} {σ : mj_S} {τ : mj_T} {v : Nat} : mj_E 66 0 (some (.ref v) :: ls) st σ τ = mj_E 66 1 (some (.ref v) :: ls) (.ref v :: st) σ τ := mj_nx i66_0 rfl
theorem i66_1 : mj_ins 66 1 = some (.iload 1, 2) := by decide +kernel
theorem e66_1 {ls : mj_L} {st : List Value} {σ : mj_S} {τ : mj_T} {a0 : Option Value} {v : Int32} : mj_E 66 1 (a0 :: some (.int v) :: ls) st σ τ = mj_E 66 2 (a0 :: some (.int v) :: ls) (.int v :: st) σ τ := mj_nx i66_1 rfl
theorem i66_2 : mj_ins 66 2 = some (.invokevirtual 63, 5) := by decide +kernel
theorem e66_2 {ls : mj_L} {σ : mj_S} {τ : mj_T} {r : Nat} {x0 : Int32} : mj_E 66 2 ls [.int x0, .ref r] σ τ = if mj_rcv r 4 = true then mj_bd (mj_C 63 [.ref r, .int x0] σ τ) (mj_K 66 5 ls []) else none := mj_clV (as := [.int x0]) (r := []) i66_2 (by decide +kernel : mj_vk 66 63 1 0 2 false = true) (by decide +kernel)
theorem i66_5 : mj_ins 66 5 = some (.ifCond .eq 18, 8) := by decide +kernel
theorem e66_5 {ls : mj_L} {st : List Value} {σ : mj_S} {τ : mj_T} {x : Int32} : mj_E 66 5 ls (.int x :: st) σ τ = if x = 0 then mj_E 66 18 ls st σ τ else mj_E 66 8 ls st σ τ := (mj_ifc i66_5).trans (mj_cdT rfl)
theorem i66_8 : mj_ins 66 8 = some (.aload 0, 9) := by decide +kernel
theorem e66_8 {ls : mj_L} {st : List Value} {σ : mj_S} {τ : mj_T} {v : Nat} : mj_E 66 8 (some (.ref v) :: ls) st σ τ = mj_E 66 9 (some (.ref v) :: ls) (.ref v :: st) σ τ := mj_nx i66_8 rfl
theorem i66_9 : mj_ins 66 9 = some (.getfield 403, 12) := by decide +kernel
theorem e66_9 {ls : mj_L} {st : List Value} {σ : mj_S} {τ : mj_T} {k : Nat} (h1 : 40 ≤ k) (h2 : k ≤ 47) : mj_E 66 9 ls (.ref k :: st) σ τ = mj_E 66 12 ls (.ref (k + 8) :: st) σ τ := (mj_gf i66_9).trans (congrArg (fun z => mj_ov z _) (fv4_3 h1 h2))
theorem i66_12 : mj_ins 66 12 = some (.iload 1, 13) := by decide +kernel
theorem e66_12 {ls : mj_L} {st : List Value} {σ : mj_S} {τ : mj_T} {a0 : Option Value} {v : Int32} : mj_E 66 12 (a0 :: some (.int v) :: ls) st σ τ = mj_E 66 13 (a0 :: some (.int v) :: ls) (.int v :: st) σ τ := mj_nx i66_12 rfl
theorem i66_13 : mj_ins 66 13 = some (.laload, 14) := by decide +kernel
theorem e66_13 {ls : mj_L} {st : List Value} {σ : mj_S} {τ : mj_T} {x : Int32} {k : Nat} : mj_E 66 13 ls (.int x :: .ref k :: st) σ τ = if mj_ib (mj_ll k) x = true then mj_E 66 14 ls (.long (τ k x.toNatClampNeg) :: st) σ τ else none := mj_lald i66_13
theorem i66_14 : mj_ins 66 14 = some (.l2i, 15) := by decide +kernel
theorem e66_14 {ls : mj_L} {st : List Value} {σ : mj_S} {τ : mj_T} {x : Int64} : mj_E 66 14 ls (.long x :: st) σ τ = mj_E 66 15 ls (.int x.toInt32 :: st) σ τ := mj_nx i66_14 rfl
theorem i66_15 : mj_ins 66 15 = some (.goto 19, 18) := by decide +kernel
theorem e66_15 {ls : mj_L} {st : List Value} {σ : mj_S} {τ : mj_T} : mj_E 66 15 ls st σ τ = mj_E 66 19 ls st σ τ := mj_nx i66_15 rfl
theorem i66_18 : mj_ins 66 18 = some (.iconst (0), 19) := by decide +kernel
theorem e66_18 {ls : mj_L} {st : List Value} {σ : mj_S} {τ : mj_T} : mj_E 66 18 ls st σ τ = mj_E 66 19 ls (.int (nI 0) :: st) σ τ := mj_nx i66_18 rfl
theorem i66_19 : mj_ins 66 19 = some (.ireturn, 20) := by decide +kernel
theorem e66_19 {ls : mj_L} {σ : mj_S} {τ : mj_T} {v : Int32} : mj_E 66 19 ls [.int v] σ τ = some (some (.int v), σ, τ) := mj_irt i66_19 rfl
theorem c67 {σ : mj_S} {τ : mj_T} {r : Nat} : mj_C 67 [.ref r] σ τ = mj_E 67 0 [some (.ref r)] [] σ τ := rfl
theorem i67_0 : mj_ins 67 0 = some (.aload 0, 1) := by decide +kernel
theorem e67_0 {ls : mj_L} {st : List Value} {σ : mj_S} {τ : mj_T} {v : Nat} : mj_E 67 0 (some (.ref v) :: ls) st σ τ = mj_E 67 1 (some (.ref v) :: ls) (.ref v :: st) σ τ := mj_nx i67_0 rfl
theorem i67_1 : mj_ins 67 1 = some (.iconst (0), 2) := by decide +kernel
theorem e67_1 {ls : mj_L} {st : List Value} {σ : mj_S} {τ : mj_T} : mj_E 67 1 ls st σ τ = mj_E 67 2 ls (.int (nI 0) :: st) σ τ := mj_nx i67_1 rfl
theorem i67_2 : mj_ins 67 2 = some (.putfield 500, 5) := by decide +kernel
theorem e67_2 {ls : mj_L} {st : List Value} {σ : mj_S} {τ : mj_T} {v : Int32} : mj_E 67 2 ls (.int v :: .ref 59 :: st) σ τ = mj_E 67 5 ls st (mj_up σ 59 0 v) τ := mj_nx i67_2 rfl
theorem i67_5 : mj_ins 67 5 = some (.return_, 6) := by decide +kernel
theorem e67_5 {ls : mj_L} {σ : mj_S} {τ : mj_T} : mj_E 67 5 ls [] σ τ = some (none, σ, τ) := mj_vrt i67_5 rfl
theorem c68 {σ : mj_S} {τ : mj_T} {r : Nat} {x0 : Int32} : mj_C 68 [.ref r, .int x0] σ τ = mj_E 68 0 [some (.ref r), some (.int x0)] [] σ τ := rfl
theorem i68_0 : mj_ins 68 0 = some (.iload 1, 1) := by decide +kernel
theorem e68_0 {ls : mj_L} {st : List Value} {σ : mj_S} {τ : mj_T} {a0 : Option Value} {v : Int32} : mj_E 68 0 (a0 :: some (.int v) :: ls) st σ τ = mj_E 68 1 (a0 :: some (.int v) :: ls) (.int v :: st) σ τ := mj_nx i68_0 rfl
theorem i68_1 : mj_ins 68 1 = some (.ifCond .lt 27, 4) := by decide +kernel
theorem e68_1 {ls : mj_L} {st : List Value} {σ : mj_S} {τ : mj_T} {x : Int32} : mj_E 68 1 ls (.int x :: st) σ τ = if x < 0 then mj_E 68 27 ls st σ τ else mj_E 68 4 ls st σ τ := (mj_ifc i68_1).trans (mj_cdT rfl)
theorem i68_4 : mj_ins 68 4 = some (.iload 1, 5) := by decide +kernel
theorem e68_4 {ls : mj_L} {st : List Value} {σ : mj_S} {τ : mj_T} {a0 : Option Value} {v : Int32} : mj_E 68 4 (a0 :: some (.int v) :: ls) st σ τ = mj_E 68 5 (a0 :: some (.int v) :: ls) (.int v :: st) σ τ := mj_nx i68_4 rfl
theorem i68_5 : mj_ins 68 5 = some (.aload 0, 6) := by decide +kernel
theorem e68_5 {ls : mj_L} {st : List Value} {σ : mj_S} {τ : mj_T} {v : Nat} : mj_E 68 5 (some (.ref v) :: ls) st σ τ = mj_E 68 6 (some (.ref v) :: ls) (.ref v :: st) σ τ := mj_nx i68_5 rfl
theorem i68_6 : mj_ins 68 6 = some (.getfield 500, 9) := by decide +kernel
theorem e68_6 {ls : mj_L} {st : List Value} {σ : mj_S} {τ : mj_T} : mj_E 68 6 ls (.ref 59 :: st) σ τ = mj_E 68 9 ls (.int (σ 59 0) :: st) σ τ := mj_nx i68_6 rfl
theorem i68_9 : mj_ins 68 9 = some (.if_icmp .ge 27, 12) := by decide +kernel
theorem e68_9 {ls : mj_L} {st : List Value} {σ : mj_S} {τ : mj_T} {x y : Int32} : mj_E 68 9 ls (.int y :: .int x :: st) σ τ = if y ≤ x then mj_E 68 27 ls st σ τ else mj_E 68 12 ls st σ τ := (mj_ifi i68_9).trans (mj_cdT rfl)
theorem i68_12 : mj_ins 68 12 = some (.iload 1, 13) := by decide +kernel
theorem e68_12 {ls : mj_L} {st : List Value} {σ : mj_S} {τ : mj_T} {a0 : Option Value} {v : Int32} : mj_E 68 12 (a0 :: some (.int v) :: ls) st σ τ = mj_E 68 13 (a0 :: some (.int v) :: ls) (.int v :: st) σ τ := mj_nx i68_12 rfl
theorem i68_13 : mj_ins 68 13 = some (.iconst (20), 15) := by decide +kernel
theorem e68_13 {ls : mj_L} {st : List Value} {σ : mj_S} {τ : mj_T} : mj_E 68 13 ls st σ τ = mj_E 68 15 ls (.int (nI 20) :: st) σ τ := mj_nx i68_13 rfl
theorem i68_15 : mj_ins 68 15 = some (.if_icmp .ge 27, 18) := by decide +kernel
theorem e68_15 {ls : mj_L} {st : List Value} {σ : mj_S} {τ : mj_T} {x y : Int32} : mj_E 68 15 ls (.int y :: .int x :: st) σ τ = if y ≤ x then mj_E 68 27 ls st σ τ else mj_E 68 18 ls st σ τ := (mj_ifi i68_15).trans (mj_cdT rfl)
theorem i68_18 : mj_ins 68 18 = some (.aload 0, 19) := by decide +kernel
theorem e68_18 {ls : mj_L} {st : List Value} {σ : mj_S} {τ : mj_T} {v : Nat} : mj_E 68 18 (some (.ref v) :: ls) st σ τ = mj_E 68 19 (some (.ref v) :: ls) (.ref v :: st) σ τ := mj_nx i68_18 rfl
theorem i68_19 : mj_ins 68 19 = some (.getfield 501, 22) := by decide +kernel
theorem e68_19 {ls : mj_L} {st : List Value} {σ : mj_S} {τ : mj_T} : mj_E 68 19 ls (.ref 59 :: st) σ τ = mj_E 68 22 ls (.ref 60 :: st) σ τ := mj_nx i68_19 rfl
theorem i68_22 : mj_ins 68 22 = some (.iload 1, 23) := by decide +kernel
theorem e68_22 {ls : mj_L} {st : List Value} {σ : mj_S} {τ : mj_T} {a0 : Option Value} {v : Int32} : mj_E 68 22 (a0 :: some (.int v) :: ls) st σ τ = mj_E 68 23 (a0 :: some (.int v) :: ls) (.int v :: st) σ τ := mj_nx i68_22 rfl
theorem i68_23 : mj_ins 68 23 = some (.iaload, 24) := by decide +kernel
theorem e68_23 {ls : mj_L} {st : List Value} {σ : mj_S} {τ : mj_T} {x : Int32} {k : Nat} : mj_E 68 23 ls (.int x :: .ref k :: st) σ τ = if mj_ib (mj_li σ k) x = true then mj_E 68 24 ls (.int (σ k x.toNatClampNeg) :: st) σ τ else none := mj_ald i68_23
theorem i68_24 : mj_ins 68 24 = some (.goto 28, 27) := by decide +kernel
theorem e68_24 {ls : mj_L} {st : List Value} {σ : mj_S} {τ : mj_T} : mj_E 68 24 ls st σ τ = mj_E 68 28 ls st σ τ := mj_nx i68_24 rfl
theorem i68_27 : mj_ins 68 27 = some (.iconst (-1), 28) := by decide +kernel
theorem e68_27 {ls : mj_L} {st : List Value} {σ : mj_S} {τ : mj_T} : mj_E 68 27 ls st σ τ = mj_E 68 28 ls (.int ((-1)) :: st) σ τ := mj_nx i68_27 rfl
theorem i68_28 : mj_ins 68 28 = some (.ireturn, 29) := by decide +kernel
theorem e68_28 {ls : mj_L} {σ : mj_S} {τ : mj_T} {v : Int32} : mj_E 68 28 ls [.int v] σ τ = some (some (.int v), σ, τ) := mj_irt i68_28 rfl
theorem c69 {σ : mj_S} {τ : mj_T} {r : Nat} {x0 : Nat} {x1 : Int32} {x2 : Int32} {x3 : Int32} : mj_C 69 [.ref r, .ref x0, .int x1, .int x2, .int x3] σ τ = mj_E 69 0 [some (.ref r), some (.ref x0), some (.int x1), some (.int x2), some (.int x3)] [] σ τ := rfl
theorem i69_0 : mj_ins 69 0 = some (.aload 0, 1) := by decide +kernel
theorem e69_0 {ls : mj_L} {st : List Value} {σ : mj_S} {τ : mj_T} {v : Nat} : mj_E 69 0 (some (.ref v) :: ls) st σ τ = mj_E 69 1 (some (.ref v) :: ls) (.ref v :: st) σ τ := mj_nx i69_0 rfl
theorem i69_1 : mj_ins 69 1 = some (.aload 1, 2) := by decide +kernel
theorem e69_1 {ls : mj_L} {st : List Value} {σ : mj_S} {τ : mj_T} {a0 : Option Value} {v : Nat} : mj_E 69 1 (a0 :: some (.ref v) :: ls) st σ τ = mj_E 69 2 (a0 :: some (.ref v) :: ls) (.ref v :: st) σ τ := mj_nx i69_1 rfl
theorem i69_2 : mj_ins 69 2 = some (.getfield 105, 5) := by decide +kernel
theorem e69_2 {ls : mj_L} {st : List Value} {σ : mj_S} {τ : mj_T} {k : Nat} (h1 : 1 ≤ k) (h2 : k ≤ 3) : mj_E 69 2 ls (.ref k :: st) σ τ = mj_E 69 5 ls (.ref (10 * k + 0) :: st) σ τ := (mj_gf i69_2).trans (congrArg (fun z => mj_ov z _) (fv1_5 h1 h2))
theorem i69_5 : mj_ins 69 5 = some (.iload 2, 6) := by decide +kernel
theorem e69_5 {ls : mj_L} {st : List Value} {σ : mj_S} {τ : mj_T} {a0 a1 : Option Value} {v : Int32} : mj_E 69 5 (a0 :: a1 :: some (.int v) :: ls) st σ τ = mj_E 69 6 (a0 :: a1 :: some (.int v) :: ls) (.int v :: st) σ τ := mj_nx i69_5 rfl
theorem i69_6 : mj_ins 69 6 = some (.iaload, 7) := by decide +kernel
theorem e69_6 {ls : mj_L} {st : List Value} {σ : mj_S} {τ : mj_T} {x : Int32} {k : Nat} : mj_E 69 6 ls (.int x :: .ref k :: st) σ τ = if mj_ib (mj_li σ k) x = true then mj_E 69 7 ls (.int (σ k x.toNatClampNeg) :: st) σ τ else none := mj_ald i69_6
theorem i69_7 : mj_ins 69 7 = some (.putfield 502, 10) := by decide +kernel
theorem e69_7 {ls : mj_L} {st : List Value} {σ : mj_S} {τ : mj_T} {v : Int32} : mj_E 69 7 ls (.int v :: .ref 59 :: st) σ τ = mj_E 69 10 ls st (mj_up σ 59 2 v) τ := mj_nx i69_7 rfl
theorem i69_10 : mj_ins 69 10 = some (.aload 0, 11) := by decide +kernel
theorem e69_10 {ls : mj_L} {st : List Value} {σ : mj_S} {τ : mj_T} {v : Nat} : mj_E 69 10 (some (.ref v) :: ls) st σ τ = mj_E 69 11 (some (.ref v) :: ls) (.ref v :: st) σ τ := mj_nx i69_10 rfl
theorem i69_11 : mj_ins 69 11 = some (.iload 2, 12) := by decide +kernel
theorem e69_11 {ls : mj_L} {st : List Value} {σ : mj_S} {τ : mj_T} {a0 a1 : Option Value} {v : Int32} : mj_E 69 11 (a0 :: a1 :: some (.int v) :: ls) st σ τ = mj_E 69 12 (a0 :: a1 :: some (.int v) :: ls) (.int v :: st) σ τ := mj_nx i69_11 rfl
theorem i69_12 : mj_ins 69 12 = some (.putfield 503, 15) := by decide +kernel
theorem e69_12 {ls : mj_L} {st : List Value} {σ : mj_S} {τ : mj_T} {v : Int32} : mj_E 69 12 ls (.int v :: .ref 59 :: st) σ τ = mj_E 69 15 ls st (mj_up σ 59 3 v) τ := mj_nx i69_12 rfl
theorem i69_15 : mj_ins 69 15 = some (.aload 0, 16) := by decide +kernel
theorem e69_15 {ls : mj_L} {st : List Value} {σ : mj_S} {τ : mj_T} {v : Nat} : mj_E 69 15 (some (.ref v) :: ls) st σ τ = mj_E 69 16 (some (.ref v) :: ls) (.ref v :: st) σ τ := mj_nx i69_15 rfl
theorem i69_16 : mj_ins 69 16 = some (.aload 1, 17) := by decide +kernel
theorem e69_16 {ls : mj_L} {st : List Value} {σ : mj_S} {τ : mj_T} {a0 : Option Value} {v : Nat} : mj_E 69 16 (a0 :: some (.ref v) :: ls) st σ τ = mj_E 69 17 (a0 :: some (.ref v) :: ls) (.ref v :: st) σ τ := mj_nx i69_16 rfl
theorem i69_17 : mj_ins 69 17 = some (.getfield 106, 20) := by decide +kernel
theorem e69_17 {ls : mj_L} {st : List Value} {σ : mj_S} {τ : mj_T} {k : Nat} (h1 : 1 ≤ k) (h2 : k ≤ 3) : mj_E 69 17 ls (.ref k :: st) σ τ = mj_E 69 20 ls (.ref (10 * k + 1) :: st) σ τ := (mj_gf i69_17).trans (congrArg (fun z => mj_ov z _) (fv1_6 h1 h2))
theorem i69_20 : mj_ins 69 20 = some (.iload 2, 21) := by decide +kernel
theorem e69_20 {ls : mj_L} {st : List Value} {σ : mj_S} {τ : mj_T} {a0 a1 : Option Value} {v : Int32} : mj_E 69 20 (a0 :: a1 :: some (.int v) :: ls) st σ τ = mj_E 69 21 (a0 :: a1 :: some (.int v) :: ls) (.int v :: st) σ τ := mj_nx i69_20 rfl
theorem i69_21 : mj_ins 69 21 = some (.iaload, 22) := by decide +kernel
theorem e69_21 {ls : mj_L} {st : List Value} {σ : mj_S} {τ : mj_T} {x : Int32} {k : Nat} : mj_E 69 21 ls (.int x :: .ref k :: st) σ τ = if mj_ib (mj_li σ k) x = true then mj_E 69 22 ls (.int (σ k x.toNatClampNeg) :: st) σ τ else none := mj_ald i69_21
theorem i69_22 : mj_ins 69 22 = some (.putfield 504, 25) := by decide +kernel
theorem e69_22 {ls : mj_L} {st : List Value} {σ : mj_S} {τ : mj_T} {v : Int32} : mj_E 69 22 ls (.int v :: .ref 59 :: st) σ τ = mj_E 69 25 ls st (mj_up σ 59 4 v) τ := mj_nx i69_22 rfl
theorem i69_25 : mj_ins 69 25 = some (.aload 0, 26) := by decide +kernel
theorem e69_25 {ls : mj_L} {st : List Value} {σ : mj_S} {τ : mj_T} {v : Nat} : mj_E 69 25 (some (.ref v) :: ls) st σ τ = mj_E 69 26 (some (.ref v) :: ls) (.ref v :: st) σ τ := mj_nx i69_25 rfl
theorem i69_26 : mj_ins 69 26 = some (.iload 3, 27) := by decide +kernel
theorem e69_26 {ls : mj_L} {st : List Value} {σ : mj_S} {τ : mj_T} {a0 a1 a2 : Option Value} {v : Int32} : mj_E 69 26 (a0 :: a1 :: a2 :: some (.int v) :: ls) st σ τ = mj_E 69 27 (a0 :: a1 :: a2 :: some (.int v) :: ls) (.int v :: st) σ τ := mj_nx i69_26 rfl
theorem i69_27 : mj_ins 69 27 = some (.aload 0, 28) := by decide +kernel
theorem e69_27 {ls : mj_L} {st : List Value} {σ : mj_S} {τ : mj_T} {v : Nat} : mj_E 69 27 (some (.ref v) :: ls) st σ τ = mj_E 69 28 (some (.ref v) :: ls) (.ref v :: st) σ τ := mj_nx i69_27 rfl
theorem i69_28 : mj_ins 69 28 = some (.getfield 502, 31) := by decide +kernel
theorem e69_28 {ls : mj_L} {st : List Value} {σ : mj_S} {τ : mj_T} : mj_E 69 28 ls (.ref 59 :: st) σ τ = mj_E 69 31 ls (.int (σ 59 2) :: st) σ τ := mj_nx i69_28 rfl
theorem i69_31 : mj_ins 69 31 = some (.iload 4, 33) := by decide +kernel
theorem e69_31 {ls : mj_L} {st : List Value} {σ : mj_S} {τ : mj_T} {a0 a1 a2 a3 : Option Value} {v : Int32} : mj_E 69 31 (a0 :: a1 :: a2 :: a3 :: some (.int v) :: ls) st σ τ = mj_E 69 33 (a0 :: a1 :: a2 :: a3 :: some (.int v) :: ls) (.int v :: st) σ τ := mj_nx i69_31 rfl
theorem i69_33 : mj_ins 69 33 = some (.iconst (0), 34) := by decide +kernel
theorem e69_33 {ls : mj_L} {st : List Value} {σ : mj_S} {τ : mj_T} : mj_E 69 33 ls st σ τ = mj_E 69 34 ls (.int (nI 0) :: st) σ τ := mj_nx i69_33 rfl
theorem i69_34 : mj_ins 69 34 = some (.invokestatic 1000, 37) := by decide +kernel
theorem e69_34 {ls : mj_L} {σ : mj_S} {τ : mj_T} {x0 : Nat} {x1 : Int32} {x2 : Int32} {x3 : Int32} {x4 : Int32} : mj_E 69 34 ls [.int x4, .int x3, .int x2, .int x1, .ref x0] σ τ = mj_bd (mj_C 1000 [.ref x0, .int x1, .int x2, .int x3, .int x4] σ τ) (mj_K 69 37 ls []) := mj_clS (as := [.ref x0, .int x1, .int x2, .int x3, .int x4]) (r := []) i69_34 (by decide +kernel : mj_vk 69 1000 5 0 5 false = true) rfl
theorem i69_37 : mj_ins 69 37 = some (.ireturn, 38) := by decide +kernel
theorem e69_37 {ls : mj_L} {σ : mj_S} {τ : mj_T} {v : Int32} : mj_E 69 37 ls [.int v] σ τ = some (some (.int v), σ, τ) := mj_irt i69_37 rfl
theorem c1000 {σ : mj_S} {τ : mj_T} {x0 : Nat} {x1 : Int32} {x2 : Int32} {x3 : Int32} {x4 : Int32} : mj_C 1000 [.ref x0, .int x1, .int x2, .int x3, .int x4] σ τ = mj_E 1000 0 [some (.ref x0), some (.int x1), some (.int x2), some (.int x3), some (.int x4), none, none, none, none] [] σ τ := rfl
theorem i1000_0 : mj_ins 1000 0 = some (.iload 1, 1) := by decide +kernel
theorem e1000_0 {ls : mj_L} {st : List Value} {σ : mj_S} {τ : mj_T} {a0 : Option Value} {v : Int32} : mj_E 1000 0 (a0 :: some (.int v) :: ls) st σ τ = mj_E 1000 1 (a0 :: some (.int v) :: ls) (.int v :: st) σ τ := mj_nx i1000_0 rfl
theorem i1000_1 : mj_ins 1000 1 = some (.iload 2, 2) := by decide +kernel
theorem e1000_1 {ls : mj_L} {st : List Value} {σ : mj_S} {τ : mj_T} {a0 a1 : Option Value} {v : Int32} : mj_E 1000 1 (a0 :: a1 :: some (.int v) :: ls) st σ τ = mj_E 1000 2 (a0 :: a1 :: some (.int v) :: ls) (.int v :: st) σ τ := mj_nx i1000_1 rfl
theorem i1000_2 : mj_ins 1000 2 = some (.invokestatic 71, 5) := by decide +kernel
theorem e1000_2 {ls : mj_L} {σ : mj_S} {τ : mj_T} {x0 : Int32} {x1 : Int32} : mj_E 1000 2 ls [.int x1, .int x0] σ τ = mj_bd (mj_C 71 [.int x0, .int x1] σ τ) (mj_K 1000 5 ls []) := mj_clS (as := [.int x0, .int x1]) (r := []) i1000_2 (by decide +kernel : mj_vk 1000 71 2 0 2 false = true) rfl
theorem i1000_5 : mj_ins 1000 5 = some (.istore 5, 7) := by decide +kernel
theorem e1000_5 {ls : mj_L} {st : List Value} {σ : mj_S} {τ : mj_T} {a0 a1 a2 a3 a4 a5 : Option Value} {v : Int32} : mj_E 1000 5 (a0 :: a1 :: a2 :: a3 :: a4 :: a5 :: ls) (.int v :: st) σ τ = mj_E 1000 7 (a0 :: a1 :: a2 :: a3 :: a4 :: some (.int v) :: ls) st σ τ := mj_nx i1000_5 rfl
theorem i1000_7 : mj_ins 1000 7 = some (.iload 5, 9) := by decide +kernel
theorem e1000_7 {ls : mj_L} {st : List Value} {σ : mj_S} {τ : mj_T} {a0 a1 a2 a3 a4 : Option Value} {v : Int32} : mj_E 1000 7 (a0 :: a1 :: a2 :: a3 :: a4 :: some (.int v) :: ls) st σ τ = mj_E 1000 9 (a0 :: a1 :: a2 :: a3 :: a4 :: some (.int v) :: ls) (.int v :: st) σ τ := mj_nx i1000_7 rfl
theorem i1000_9 : mj_ins 1000 9 = some (.iconst (-1), 10) := by decide +kernel
theorem e1000_9 {ls : mj_L} {st : List Value} {σ : mj_S} {τ : mj_T} : mj_E 1000 9 ls st σ τ = mj_E 1000 10 ls (.int ((-1)) :: st) σ τ := mj_nx i1000_9 rfl
theorem i1000_10 : mj_ins 1000 10 = some (.if_icmp .eq 20, 13) := by decide +kernel
theorem e1000_10 {ls : mj_L} {st : List Value} {σ : mj_S} {τ : mj_T} {x y : Int32} : mj_E 1000 10 ls (.int y :: .int x :: st) σ τ = if x = y then mj_E 1000 20 ls st σ τ else mj_E 1000 13 ls st σ τ := (mj_ifi i1000_10).trans (mj_cdT rfl)
theorem i1000_13 : mj_ins 1000 13 = some (.iload 4, 15) := by decide +kernel
theorem e1000_13 {ls : mj_L} {st : List Value} {σ : mj_S} {τ : mj_T} {a0 a1 a2 a3 : Option Value} {v : Int32} : mj_E 1000 13 (a0 :: a1 :: a2 :: a3 :: some (.int v) :: ls) st σ τ = mj_E 1000 15 (a0 :: a1 :: a2 :: a3 :: some (.int v) :: ls) (.int v :: st) σ τ := mj_nx i1000_13 rfl
theorem i1000_15 : mj_ins 1000 15 = some (.iconst (20), 17) := by decide +kernel
theorem e1000_15 {ls : mj_L} {st : List Value} {σ : mj_S} {τ : mj_T} : mj_E 1000 15 ls st σ τ = mj_E 1000 17 ls (.int (nI 20) :: st) σ τ := mj_nx i1000_15 rfl
theorem i1000_17 : mj_ins 1000 17 = some (.if_icmp .le 22, 20) := by decide +kernel
theorem e1000_17 {ls : mj_L} {st : List Value} {σ : mj_S} {τ : mj_T} {x y : Int32} : mj_E 1000 17 ls (.int y :: .int x :: st) σ τ = if x ≤ y then mj_E 1000 22 ls st σ τ else mj_E 1000 20 ls st σ τ := (mj_ifi i1000_17).trans (mj_cdT rfl)
theorem i1000_20 : mj_ins 1000 20 = some (.iconst (0), 21) := by decide +kernel
theorem e1000_20 {ls : mj_L} {st : List Value} {σ : mj_S} {τ : mj_T} : mj_E 1000 20 ls st σ τ = mj_E 1000 21 ls (.int (nI 0) :: st) σ τ := mj_nx i1000_20 rfl
theorem i1000_21 : mj_ins 1000 21 = some (.ireturn, 22) := by decide +kernel
theorem e1000_21 {ls : mj_L} {σ : mj_S} {τ : mj_T} {v : Int32} : mj_E 1000 21 ls [.int v] σ τ = some (some (.int v), σ, τ) := mj_irt i1000_21 rfl
theorem i1000_22 : mj_ins 1000 22 = some (.getstatic 91, 25) := by decide +kernel
theorem e1000_22 {ls : mj_L} {st : List Value} {σ : mj_S} {τ : mj_T} : mj_E 1000 22 ls st σ τ = mj_E 1000 25 ls (.ref 91 :: st) σ τ := mj_nx i1000_22 rfl
theorem i1000_25 : mj_ins 1000 25 = some (.iconst (3), 26) := by decide +kernel
theorem e1000_25 {ls : mj_L} {st : List Value} {σ : mj_S} {τ : mj_T} : mj_E 1000 25 ls st σ τ = mj_E 1000 26 ls (.int (nI 3) :: st) σ τ := mj_nx i1000_25 rfl
theorem i1000_26 : mj_ins 1000 26 = some (.iload 5, 28) := by decide +kernel
theorem e1000_26 {ls : mj_L} {st : List Value} {σ : mj_S} {τ : mj_T} {a0 a1 a2 a3 a4 : Option Value} {v : Int32} : mj_E 1000 26 (a0 :: a1 :: a2 :: a3 :: a4 :: some (.int v) :: ls) st σ τ = mj_E 1000 28 (a0 :: a1 :: a2 :: a3 :: a4 :: some (.int v) :: ls) (.int v :: st) σ τ := mj_nx i1000_26 rfl
theorem i1000_28 : mj_ins 1000 28 = some (.imul, 29) := by decide +kernel
theorem e1000_28 {ls : mj_L} {st : List Value} {σ : mj_S} {τ : mj_T} {x y : Int32} : mj_E 1000 28 ls (.int y :: .int x :: st) σ τ = mj_E 1000 29 ls (.int (x * y) :: st) σ τ := mj_nx i1000_28 rfl
theorem i1000_29 : mj_ins 1000 29 = some (.iload 1, 30) := by decide +kernel
theorem e1000_29 {ls : mj_L} {st : List Value} {σ : mj_S} {τ : mj_T} {a0 : Option Value} {v : Int32} : mj_E 1000 29 (a0 :: some (.int v) :: ls) st σ τ = mj_E 1000 30 (a0 :: some (.int v) :: ls) (.int v :: st) σ τ := mj_nx i1000_29 rfl
theorem i1000_30 : mj_ins 1000 30 = some (.iadd, 31) := by decide +kernel
theorem e1000_30 {ls : mj_L} {st : List Value} {σ : mj_S} {τ : mj_T} {x y : Int32} : mj_E 1000 30 ls (.int y :: .int x :: st) σ τ = mj_E 1000 31 ls (.int (x + y) :: st) σ τ := mj_nx i1000_30 rfl
theorem i1000_31 : mj_ins 1000 31 = some (.iaload, 32) := by decide +kernel
theorem e1000_31 {ls : mj_L} {st : List Value} {σ : mj_S} {τ : mj_T} {x : Int32} {k : Nat} : mj_E 1000 31 ls (.int x :: .ref k :: st) σ τ = if mj_ib (mj_li σ k) x = true then mj_E 1000 32 ls (.int (σ k x.toNatClampNeg) :: st) σ τ else none := mj_ald i1000_31
theorem i1000_32 : mj_ins 1000 32 = some (.istore 6, 34) := by decide +kernel
theorem e1000_32 {ls : mj_L} {st : List Value} {σ : mj_S} {τ : mj_T} {a0 a1 a2 a3 a4 a5 a6 : Option Value} {v : Int32} : mj_E 1000 32 (a0 :: a1 :: a2 :: a3 :: a4 :: a5 :: a6 :: ls) (.int v :: st) σ τ = mj_E 1000 34 (a0 :: a1 :: a2 :: a3 :: a4 :: a5 :: some (.int v) :: ls) st σ τ := mj_nx i1000_32 rfl
theorem i1000_34 : mj_ins 1000 34 = some (.aload 0, 35) := by decide +kernel
theorem e1000_34 {ls : mj_L} {st : List Value} {σ : mj_S} {τ : mj_T} {v : Nat} : mj_E 1000 34 (some (.ref v) :: ls) st σ τ = mj_E 1000 35 (some (.ref v) :: ls) (.ref v :: st) σ τ := mj_nx i1000_34 rfl
theorem i1000_35 : mj_ins 1000 35 = some (.iload 6, 37) := by decide +kernel
theorem e1000_35 {ls : mj_L} {st : List Value} {σ : mj_S} {τ : mj_T} {a0 a1 a2 a3 a4 a5 : Option Value} {v : Int32} : mj_E 1000 35 (a0 :: a1 :: a2 :: a3 :: a4 :: a5 :: some (.int v) :: ls) st σ τ = mj_E 1000 37 (a0 :: a1 :: a2 :: a3 :: a4 :: a5 :: some (.int v) :: ls) (.int v :: st) σ τ := mj_nx i1000_35 rfl
theorem i1000_37 : mj_ins 1000 37 = some (.invokevirtual 72, 40) := by decide +kernel
theorem e1000_37 {ls : mj_L} {σ : mj_S} {τ : mj_T} {r : Nat} {x0 : Int32} : mj_E 1000 37 ls [.int x0, .ref r] σ τ = if mj_rcv r 5 = true then mj_bd (mj_C 72 [.ref r, .int x0] σ τ) (mj_K 1000 40 ls []) else none := mj_clV (as := [.int x0]) (r := []) i1000_37 (by decide +kernel : mj_vk 1000 72 1 0 2 false = true) (by decide +kernel)
theorem i1000_40 : mj_ins 1000 40 = some (.iload 5, 42) := by decide +kernel
theorem e1000_40 {ls : mj_L} {st : List Value} {σ : mj_S} {τ : mj_T} {a0 a1 a2 a3 a4 : Option Value} {v : Int32} : mj_E 1000 40 (a0 :: a1 :: a2 :: a3 :: a4 :: some (.int v) :: ls) st σ τ = mj_E 1000 42 (a0 :: a1 :: a2 :: a3 :: a4 :: some (.int v) :: ls) (.int v :: st) σ τ := mj_nx i1000_40 rfl
theorem i1000_42 : mj_ins 1000 42 = some (.invokestatic 4, 45) := by decide +kernel
theorem e1000_42 {ls : mj_L} {σ : mj_S} {τ : mj_T} {x0 : Int32} : mj_E 1000 42 ls [.int x0] σ τ = mj_bd (mj_C 4 [.int x0] σ τ) (mj_K 1000 45 ls []) := mj_clS (as := [.int x0]) (r := []) i1000_42 (by decide +kernel : mj_vk 1000 4 1 0 1 false = true) rfl
theorem i1000_45 : mj_ins 1000 45 = some (.istore 7, 47) := by decide +kernel
theorem e1000_45 {ls : mj_L} {st : List Value} {σ : mj_S} {τ : mj_T} {a0 a1 a2 a3 a4 a5 a6 a7 : Option Value} {v : Int32} : mj_E 1000 45 (a0 :: a1 :: a2 :: a3 :: a4 :: a5 :: a6 :: a7 :: ls) (.int v :: st) σ τ = mj_E 1000 47 (a0 :: a1 :: a2 :: a3 :: a4 :: a5 :: a6 :: some (.int v) :: ls) st σ τ := mj_nx i1000_45 rfl
theorem i1000_47 : mj_ins 1000 47 = some (.iload 4, 49) := by decide +kernel
theorem e1000_47 {ls : mj_L} {st : List Value} {σ : mj_S} {τ : mj_T} {a0 a1 a2 a3 : Option Value} {v : Int32} : mj_E 1000 47 (a0 :: a1 :: a2 :: a3 :: some (.int v) :: ls) st σ τ = mj_E 1000 49 (a0 :: a1 :: a2 :: a3 :: some (.int v) :: ls) (.int v :: st) σ τ := mj_nx i1000_47 rfl
theorem i1000_49 : mj_ins 1000 49 = some (.iconst (1), 50) := by decide +kernel
theorem e1000_49 {ls : mj_L} {st : List Value} {σ : mj_S} {τ : mj_T} : mj_E 1000 49 ls st σ τ = mj_E 1000 50 ls (.int (nI 1) :: st) σ τ := mj_nx i1000_49 rfl
theorem i1000_50 : mj_ins 1000 50 = some (.iadd, 51) := by decide +kernel
theorem e1000_50 {ls : mj_L} {st : List Value} {σ : mj_S} {τ : mj_T} {x y : Int32} : mj_E 1000 50 ls (.int y :: .int x :: st) σ τ = mj_E 1000 51 ls (.int (x + y) :: st) σ τ := mj_nx i1000_50 rfl
theorem i1000_51 : mj_ins 1000 51 = some (.istore 8, 53) := by decide +kernel
theorem e1000_51 {ls : mj_L} {st : List Value} {σ : mj_S} {τ : mj_T} {a0 a1 a2 a3 a4 a5 a6 a7 a8 : Option Value} {v : Int32} : mj_E 1000 51 (a0 :: a1 :: a2 :: a3 :: a4 :: a5 :: a6 :: a7 :: a8 :: ls) (.int v :: st) σ τ = mj_E 1000 53 (a0 :: a1 :: a2 :: a3 :: a4 :: a5 :: a6 :: a7 :: some (.int v) :: ls) st σ τ := mj_nx i1000_51 rfl
theorem i1000_53 : mj_ins 1000 53 = some (.iload 6, 55) := by decide +kernel
theorem e1000_53 {ls : mj_L} {st : List Value} {σ : mj_S} {τ : mj_T} {a0 a1 a2 a3 a4 a5 : Option Value} {v : Int32} : mj_E 1000 53 (a0 :: a1 :: a2 :: a3 :: a4 :: a5 :: some (.int v) :: ls) st σ τ = mj_E 1000 55 (a0 :: a1 :: a2 :: a3 :: a4 :: a5 :: some (.int v) :: ls) (.int v :: st) σ τ := mj_nx i1000_53 rfl
theorem i1000_55 : mj_ins 1000 55 = some (.lookupswitch (238) #[(10, 89), (11, 96), (12, 111), (20, 142), (30, 158), (40, 171), (50, 184), (51, 196), (60, 212), (70, 225)], 55) := by decide +kernel
theorem e1000_55 {ls : mj_L} {st : List Value} {σ : mj_S} {τ : mj_T} {x : Int32} : mj_E 1000 55 ls (.int x :: st) σ τ = if x = nI 10 then mj_E 1000 144 ls st σ τ else if x = nI 11 then mj_E 1000 151 ls st σ τ else if x = nI 12 then mj_E 1000 166 ls st σ τ else if x = nI 20 then mj_E 1000 197 ls st σ τ else if x = nI 30 then mj_E 1000 213 ls st σ τ else if x = nI 40 then mj_E 1000 226 ls st σ τ else if x = nI 50 then mj_E 1000 239 ls st σ τ else if x = nI 51 then mj_E 1000 251 ls st σ τ else if x = nI 60 then mj_E 1000 267 ls st σ τ else if x = nI 70 then mj_E 1000 280 ls st σ τ else mj_E 1000 293 ls st σ τ := mj_lusw i1000_55 rfl
theorem i1000_144 : mj_ins 1000 144 = some (.iload 3, 145) := by decide +kernel
theorem e1000_144 {ls : mj_L} {st : List Value} {σ : mj_S} {τ : mj_T} {a0 a1 a2 : Option Value} {v : Int32} : mj_E 1000 144 (a0 :: a1 :: a2 :: some (.int v) :: ls) st σ τ = mj_E 1000 145 (a0 :: a1 :: a2 :: some (.int v) :: ls) (.int v :: st) σ τ := mj_nx i1000_144 rfl
theorem i1000_145 : mj_ins 1000 145 = some (.aload 0, 146) := by decide +kernel
theorem e1000_145 {ls : mj_L} {st : List Value} {σ : mj_S} {τ : mj_T} {v : Nat} : mj_E 1000 145 (some (.ref v) :: ls) st σ τ = mj_E 1000 146 (some (.ref v) :: ls) (.ref v :: st) σ τ := mj_nx i1000_145 rfl
theorem i1000_146 : mj_ins 1000 146 = some (.getfield 503, 149) := by decide +kernel
theorem e1000_146 {ls : mj_L} {st : List Value} {σ : mj_S} {τ : mj_T} : mj_E 1000 146 ls (.ref 59 :: st) σ τ = mj_E 1000 149 ls (.int (σ 59 3) :: st) σ τ := mj_nx i1000_146 rfl
theorem i1000_149 : mj_ins 1000 149 = some (.iadd, 150) := by decide +kernel
theorem e1000_149 {ls : mj_L} {st : List Value} {σ : mj_S} {τ : mj_T} {x y : Int32} : mj_E 1000 149 ls (.int y :: .int x :: st) σ τ = mj_E 1000 150 ls (.int (x + y) :: st) σ τ := mj_nx i1000_149 rfl
theorem i1000_150 : mj_ins 1000 150 = some (.ireturn, 151) := by decide +kernel
theorem e1000_150 {ls : mj_L} {σ : mj_S} {τ : mj_T} {v : Int32} : mj_E 1000 150 ls [.int v] σ τ = some (some (.int v), σ, τ) := mj_irt i1000_150 rfl
theorem i1000_151 : mj_ins 1000 151 = some (.aload 0, 152) := by decide +kernel
theorem e1000_151 {ls : mj_L} {st : List Value} {σ : mj_S} {τ : mj_T} {v : Nat} : mj_E 1000 151 (some (.ref v) :: ls) st σ τ = mj_E 1000 152 (some (.ref v) :: ls) (.ref v :: st) σ τ := mj_nx i1000_151 rfl
theorem i1000_152 : mj_ins 1000 152 = some (.iconst (0), 153) := by decide +kernel
theorem e1000_152 {ls : mj_L} {st : List Value} {σ : mj_S} {τ : mj_T} : mj_E 1000 152 ls st σ τ = mj_E 1000 153 ls (.int (nI 0) :: st) σ τ := mj_nx i1000_152 rfl
theorem i1000_153 : mj_ins 1000 153 = some (.aload 0, 154) := by decide +kernel
theorem e1000_153 {ls : mj_L} {st : List Value} {σ : mj_S} {τ : mj_T} {v : Nat} : mj_E 1000 153 (some (.ref v) :: ls) st σ τ = mj_E 1000 154 (some (.ref v) :: ls) (.ref v :: st) σ τ := mj_nx i1000_153 rfl
theorem i1000_154 : mj_ins 1000 154 = some (.getfield 502, 157) := by decide +kernel
theorem e1000_154 {ls : mj_L} {st : List Value} {σ : mj_S} {τ : mj_T} : mj_E 1000 154 ls (.ref 59 :: st) σ τ = mj_E 1000 157 ls (.int (σ 59 2) :: st) σ τ := mj_nx i1000_154 rfl
theorem i1000_157 : mj_ins 1000 157 = some (.iload 3, 158) := by decide +kernel
theorem e1000_157 {ls : mj_L} {st : List Value} {σ : mj_S} {τ : mj_T} {a0 a1 a2 : Option Value} {v : Int32} : mj_E 1000 157 (a0 :: a1 :: a2 :: some (.int v) :: ls) st σ τ = mj_E 1000 158 (a0 :: a1 :: a2 :: some (.int v) :: ls) (.int v :: st) σ τ := mj_nx i1000_157 rfl
theorem i1000_158 : mj_ins 1000 158 = some (.iload 8, 160) := by decide +kernel
theorem e1000_158 {ls : mj_L} {st : List Value} {σ : mj_S} {τ : mj_T} {a0 a1 a2 a3 a4 a5 a6 a7 : Option Value} {v : Int32} : mj_E 1000 158 (a0 :: a1 :: a2 :: a3 :: a4 :: a5 :: a6 :: a7 :: some (.int v) :: ls) st σ τ = mj_E 1000 160 (a0 :: a1 :: a2 :: a3 :: a4 :: a5 :: a6 :: a7 :: some (.int v) :: ls) (.int v :: st) σ τ := mj_nx i1000_158 rfl
theorem i1000_160 : mj_ins 1000 160 = some (.invokestatic 1001, 163) := by decide +kernel
theorem e1000_160 {ls : mj_L} {σ : mj_S} {τ : mj_T} {x0 : Nat} {x1 : Int32} {x2 : Int32} {x3 : Int32} {x4 : Int32} : mj_E 1000 160 ls [.int x4, .int x3, .int x2, .int x1, .ref x0] σ τ = mj_bd (mj_C 1001 [.ref x0, .int x1, .int x2, .int x3, .int x4] σ τ) (mj_K 1000 163 ls []) := mj_clS (as := [.ref x0, .int x1, .int x2, .int x3, .int x4]) (r := []) i1000_160 (by decide +kernel : mj_vk 1000 1001 5 0 5 false = true) rfl
theorem i1000_163 : mj_ins 1000 163 = some (.iconst (2), 164) := by decide +kernel
theorem e1000_163 {ls : mj_L} {st : List Value} {σ : mj_S} {τ : mj_T} : mj_E 1000 163 ls st σ τ = mj_E 1000 164 ls (.int (nI 2) :: st) σ τ := mj_nx i1000_163 rfl
theorem i1000_164 : mj_ins 1000 164 = some (.imul, 165) := by decide +kernel
theorem e1000_164 {ls : mj_L} {st : List Value} {σ : mj_S} {τ : mj_T} {x y : Int32} : mj_E 1000 164 ls (.int y :: .int x :: st) σ τ = mj_E 1000 165 ls (.int (x * y) :: st) σ τ := mj_nx i1000_164 rfl
theorem i1000_165 : mj_ins 1000 165 = some (.ireturn, 166) := by decide +kernel
theorem e1000_165 {ls : mj_L} {σ : mj_S} {τ : mj_T} {v : Int32} : mj_E 1000 165 ls [.int v] σ τ = some (some (.int v), σ, τ) := mj_irt i1000_165 rfl
theorem i1000_166 : mj_ins 1000 166 = some (.aload 0, 167) := by decide +kernel
theorem e1000_166 {ls : mj_L} {st : List Value} {σ : mj_S} {τ : mj_T} {v : Nat} : mj_E 1000 166 (some (.ref v) :: ls) st σ τ = mj_E 1000 167 (some (.ref v) :: ls) (.ref v :: st) σ τ := mj_nx i1000_166 rfl
theorem i1000_167 : mj_ins 1000 167 = some (.iconst (1), 168) := by decide +kernel
theorem e1000_167 {ls : mj_L} {st : List Value} {σ : mj_S} {τ : mj_T} : mj_E 1000 167 ls st σ τ = mj_E 1000 168 ls (.int (nI 1) :: st) σ τ := mj_nx i1000_167 rfl
theorem i1000_168 : mj_ins 1000 168 = some (.aload 0, 169) := by decide +kernel
theorem e1000_168 {ls : mj_L} {st : List Value} {σ : mj_S} {τ : mj_T} {v : Nat} : mj_E 1000 168 (some (.ref v) :: ls) st σ τ = mj_E 1000 169 (some (.ref v) :: ls) (.ref v :: st) σ τ := mj_nx i1000_168 rfl
theorem i1000_169 : mj_ins 1000 169 = some (.getfield 502, 172) := by decide +kernel
theorem e1000_169 {ls : mj_L} {st : List Value} {σ : mj_S} {τ : mj_T} : mj_E 1000 169 ls (.ref 59 :: st) σ τ = mj_E 1000 172 ls (.int (σ 59 2) :: st) σ τ := mj_nx i1000_169 rfl
theorem i1000_172 : mj_ins 1000 172 = some (.iload 3, 173) := by decide +kernel
theorem e1000_172 {ls : mj_L} {st : List Value} {σ : mj_S} {τ : mj_T} {a0 a1 a2 : Option Value} {v : Int32} : mj_E 1000 172 (a0 :: a1 :: a2 :: some (.int v) :: ls) st σ τ = mj_E 1000 173 (a0 :: a1 :: a2 :: some (.int v) :: ls) (.int v :: st) σ τ := mj_nx i1000_172 rfl
theorem i1000_173 : mj_ins 1000 173 = some (.iload 8, 175) := by decide +kernel
theorem e1000_173 {ls : mj_L} {st : List Value} {σ : mj_S} {τ : mj_T} {a0 a1 a2 a3 a4 a5 a6 a7 : Option Value} {v : Int32} : mj_E 1000 173 (a0 :: a1 :: a2 :: a3 :: a4 :: a5 :: a6 :: a7 :: some (.int v) :: ls) st σ τ = mj_E 1000 175 (a0 :: a1 :: a2 :: a3 :: a4 :: a5 :: a6 :: a7 :: some (.int v) :: ls) (.int v :: st) σ τ := mj_nx i1000_173 rfl
theorem i1000_175 : mj_ins 1000 175 = some (.invokestatic 1001, 178) := by decide +kernel
theorem e1000_175 {ls : mj_L} {σ : mj_S} {τ : mj_T} {x0 : Nat} {x1 : Int32} {x2 : Int32} {x3 : Int32} {x4 : Int32} : mj_E 1000 175 ls [.int x4, .int x3, .int x2, .int x1, .ref x0] σ τ = mj_bd (mj_C 1001 [.ref x0, .int x1, .int x2, .int x3, .int x4] σ τ) (mj_K 1000 178 ls []) := mj_clS (as := [.ref x0, .int x1, .int x2, .int x3, .int x4]) (r := []) i1000_175 (by decide +kernel : mj_vk 1000 1001 5 0 5 false = true) rfl
theorem i1000_178 : mj_ins 1000 178 = some (.aload 0, 179) := by decide +kernel
theorem e1000_178 {ls : mj_L} {st : List Value} {σ : mj_S} {τ : mj_T} {v : Nat} : mj_E 1000 178 (some (.ref v) :: ls) st σ τ = mj_E 1000 179 (some (.ref v) :: ls) (.ref v :: st) σ τ := mj_nx i1000_178 rfl
theorem i1000_179 : mj_ins 1000 179 = some (.iconst (0), 180) := by decide +kernel
theorem e1000_179 {ls : mj_L} {st : List Value} {σ : mj_S} {τ : mj_T} : mj_E 1000 179 ls st σ τ = mj_E 1000 180 ls (.int (nI 0) :: st) σ τ := mj_nx i1000_179 rfl
theorem i1000_180 : mj_ins 1000 180 = some (.aload 0, 181) := by decide +kernel
theorem e1000_180 {ls : mj_L} {st : List Value} {σ : mj_S} {τ : mj_T} {v : Nat} : mj_E 1000 180 (some (.ref v) :: ls) st σ τ = mj_E 1000 181 (some (.ref v) :: ls) (.ref v :: st) σ τ := mj_nx i1000_180 rfl
theorem i1000_181 : mj_ins 1000 181 = some (.getfield 502, 184) := by decide +kernel
theorem e1000_181 {ls : mj_L} {st : List Value} {σ : mj_S} {τ : mj_T} : mj_E 1000 181 ls (.ref 59 :: st) σ τ = mj_E 1000 184 ls (.int (σ 59 2) :: st) σ τ := mj_nx i1000_181 rfl
theorem i1000_184 : mj_ins 1000 184 = some (.iload 3, 185) := by decide +kernel
theorem e1000_184 {ls : mj_L} {st : List Value} {σ : mj_S} {τ : mj_T} {a0 a1 a2 : Option Value} {v : Int32} : mj_E 1000 184 (a0 :: a1 :: a2 :: some (.int v) :: ls) st σ τ = mj_E 1000 185 (a0 :: a1 :: a2 :: some (.int v) :: ls) (.int v :: st) σ τ := mj_nx i1000_184 rfl
theorem i1000_185 : mj_ins 1000 185 = some (.aload 0, 186) := by decide +kernel
theorem e1000_185 {ls : mj_L} {st : List Value} {σ : mj_S} {τ : mj_T} {v : Nat} : mj_E 1000 185 (some (.ref v) :: ls) st σ τ = mj_E 1000 186 (some (.ref v) :: ls) (.ref v :: st) σ τ := mj_nx i1000_185 rfl
theorem i1000_186 : mj_ins 1000 186 = some (.getfield 504, 189) := by decide +kernel
theorem e1000_186 {ls : mj_L} {st : List Value} {σ : mj_S} {τ : mj_T} : mj_E 1000 186 ls (.ref 59 :: st) σ τ = mj_E 1000 189 ls (.int (σ 59 4) :: st) σ τ := mj_nx i1000_186 rfl
theorem i1000_189 : mj_ins 1000 189 = some (.isub, 190) := by decide +kernel
theorem e1000_189 {ls : mj_L} {st : List Value} {σ : mj_S} {τ : mj_T} {x y : Int32} : mj_E 1000 189 ls (.int y :: .int x :: st) σ τ = mj_E 1000 190 ls (.int (x - y) :: st) σ τ := mj_nx i1000_189 rfl
theorem i1000_190 : mj_ins 1000 190 = some (.iload 8, 192) := by decide +kernel
theorem e1000_190 {ls : mj_L} {st : List Value} {σ : mj_S} {τ : mj_T} {a0 a1 a2 a3 a4 a5 a6 a7 : Option Value} {v : Int32} : mj_E 1000 190 (a0 :: a1 :: a2 :: a3 :: a4 :: a5 :: a6 :: a7 :: some (.int v) :: ls) st σ τ = mj_E 1000 192 (a0 :: a1 :: a2 :: a3 :: a4 :: a5 :: a6 :: a7 :: some (.int v) :: ls) (.int v :: st) σ τ := mj_nx i1000_190 rfl
theorem i1000_192 : mj_ins 1000 192 = some (.invokestatic 1001, 195) := by decide +kernel
theorem e1000_192 {ls : mj_L} {σ : mj_S} {τ : mj_T} {x0 : Nat} {x1 : Int32} {x2 : Int32} {x3 : Int32} {x4 : Int32} {w0 : Value} : mj_E 1000 192 ls [.int x4, .int x3, .int x2, .int x1, .ref x0, w0] σ τ = mj_bd (mj_C 1001 [.ref x0, .int x1, .int x2, .int x3, .int x4] σ τ) (mj_K 1000 195 ls [w0]) := mj_clS (as := [.ref x0, .int x1, .int x2, .int x3, .int x4]) (r := [w0]) i1000_192 (by decide +kernel : mj_vk 1000 1001 5 1 5 false = true) rfl
theorem i1000_195 : mj_ins 1000 195 = some (.ixor, 196) := by decide +kernel
theorem e1000_195 {ls : mj_L} {st : List Value} {σ : mj_S} {τ : mj_T} {x y : Int32} : mj_E 1000 195 ls (.int y :: .int x :: st) σ τ = mj_E 1000 196 ls (.int (x ^^^ y) :: st) σ τ := mj_nx i1000_195 rfl
theorem i1000_196 : mj_ins 1000 196 = some (.ireturn, 197) := by decide +kernel
theorem e1000_196 {ls : mj_L} {σ : mj_S} {τ : mj_T} {v : Int32} : mj_E 1000 196 ls [.int v] σ τ = some (some (.int v), σ, τ) := mj_irt i1000_196 rfl
theorem i1000_197 : mj_ins 1000 197 = some (.aload 0, 198) := by decide +kernel
theorem e1000_197 {ls : mj_L} {st : List Value} {σ : mj_S} {τ : mj_T} {v : Nat} : mj_E 1000 197 (some (.ref v) :: ls) st σ τ = mj_E 1000 198 (some (.ref v) :: ls) (.ref v :: st) σ τ := mj_nx i1000_197 rfl
theorem i1000_198 : mj_ins 1000 198 = some (.iconst (0), 199) := by decide +kernel
theorem e1000_198 {ls : mj_L} {st : List Value} {σ : mj_S} {τ : mj_T} : mj_E 1000 198 ls st σ τ = mj_E 1000 199 ls (.int (nI 0) :: st) σ τ := mj_nx i1000_198 rfl
theorem i1000_199 : mj_ins 1000 199 = some (.iload 7, 201) := by decide +kernel
theorem e1000_199 {ls : mj_L} {st : List Value} {σ : mj_S} {τ : mj_T} {a0 a1 a2 a3 a4 a5 a6 : Option Value} {v : Int32} : mj_E 1000 199 (a0 :: a1 :: a2 :: a3 :: a4 :: a5 :: a6 :: some (.int v) :: ls) st σ τ = mj_E 1000 201 (a0 :: a1 :: a2 :: a3 :: a4 :: a5 :: a6 :: some (.int v) :: ls) (.int v :: st) σ τ := mj_nx i1000_199 rfl
theorem i1000_201 : mj_ins 1000 201 = some (.iload 3, 202) := by decide +kernel
theorem e1000_201 {ls : mj_L} {st : List Value} {σ : mj_S} {τ : mj_T} {a0 a1 a2 : Option Value} {v : Int32} : mj_E 1000 201 (a0 :: a1 :: a2 :: some (.int v) :: ls) st σ τ = mj_E 1000 202 (a0 :: a1 :: a2 :: some (.int v) :: ls) (.int v :: st) σ τ := mj_nx i1000_201 rfl
theorem i1000_202 : mj_ins 1000 202 = some (.iload 8, 204) := by decide +kernel
theorem e1000_202 {ls : mj_L} {st : List Value} {σ : mj_S} {τ : mj_T} {a0 a1 a2 a3 a4 a5 a6 a7 : Option Value} {v : Int32} : mj_E 1000 202 (a0 :: a1 :: a2 :: a3 :: a4 :: a5 :: a6 :: a7 :: some (.int v) :: ls) st σ τ = mj_E 1000 204 (a0 :: a1 :: a2 :: a3 :: a4 :: a5 :: a6 :: a7 :: some (.int v) :: ls) (.int v :: st) σ τ := mj_nx i1000_202 rfl
theorem i1000_204 : mj_ins 1000 204 = some (.invokestatic 1001, 207) := by decide +kernel
theorem e1000_204 {ls : mj_L} {σ : mj_S} {τ : mj_T} {x0 : Nat} {x1 : Int32} {x2 : Int32} {x3 : Int32} {x4 : Int32} : mj_E 1000 204 ls [.int x4, .int x3, .int x2, .int x1, .ref x0] σ τ = mj_bd (mj_C 1001 [.ref x0, .int x1, .int x2, .int x3, .int x4] σ τ) (mj_K 1000 207 ls []) := mj_clS (as := [.ref x0, .int x1, .int x2, .int x3, .int x4]) (r := []) i1000_204 (by decide +kernel : mj_vk 1000 1001 5 0 5 false = true) rfl
theorem i1000_207 : mj_ins 1000 207 = some (.aload 0, 208) := by decide +kernel
theorem e1000_207 {ls : mj_L} {st : List Value} {σ : mj_S} {τ : mj_T} {v : Nat} : mj_E 1000 207 (some (.ref v) :: ls) st σ τ = mj_E 1000 208 (some (.ref v) :: ls) (.ref v :: st) σ τ := mj_nx i1000_207 rfl
theorem i1000_208 : mj_ins 1000 208 = some (.getfield 504, 211) := by decide +kernel
theorem e1000_208 {ls : mj_L} {st : List Value} {σ : mj_S} {τ : mj_T} : mj_E 1000 208 ls (.ref 59 :: st) σ τ = mj_E 1000 211 ls (.int (σ 59 4) :: st) σ τ := mj_nx i1000_208 rfl
theorem i1000_211 : mj_ins 1000 211 = some (.iadd, 212) := by decide +kernel
theorem e1000_211 {ls : mj_L} {st : List Value} {σ : mj_S} {τ : mj_T} {x y : Int32} : mj_E 1000 211 ls (.int y :: .int x :: st) σ τ = mj_E 1000 212 ls (.int (x + y) :: st) σ τ := mj_nx i1000_211 rfl
theorem i1000_212 : mj_ins 1000 212 = some (.ireturn, 213) := by decide +kernel
theorem e1000_212 {ls : mj_L} {σ : mj_S} {τ : mj_T} {v : Int32} : mj_E 1000 212 ls [.int v] σ τ = some (some (.int v), σ, τ) := mj_irt i1000_212 rfl
theorem i1000_213 : mj_ins 1000 213 = some (.aload 0, 214) := by decide +kernel
theorem e1000_213 {ls : mj_L} {st : List Value} {σ : mj_S} {τ : mj_T} {v : Nat} : mj_E 1000 213 (some (.ref v) :: ls) st σ τ = mj_E 1000 214 (some (.ref v) :: ls) (.ref v :: st) σ τ := mj_nx i1000_213 rfl
theorem i1000_214 : mj_ins 1000 214 = some (.iconst (1), 215) := by decide +kernel
theorem e1000_214 {ls : mj_L} {st : List Value} {σ : mj_S} {τ : mj_T} : mj_E 1000 214 ls st σ τ = mj_E 1000 215 ls (.int (nI 1) :: st) σ τ := mj_nx i1000_214 rfl
theorem i1000_215 : mj_ins 1000 215 = some (.iload 7, 217) := by decide +kernel
theorem e1000_215 {ls : mj_L} {st : List Value} {σ : mj_S} {τ : mj_T} {a0 a1 a2 a3 a4 a5 a6 : Option Value} {v : Int32} : mj_E 1000 215 (a0 :: a1 :: a2 :: a3 :: a4 :: a5 :: a6 :: some (.int v) :: ls) st σ τ = mj_E 1000 217 (a0 :: a1 :: a2 :: a3 :: a4 :: a5 :: a6 :: some (.int v) :: ls) (.int v :: st) σ τ := mj_nx i1000_215 rfl
theorem i1000_217 : mj_ins 1000 217 = some (.iload 3, 218) := by decide +kernel
theorem e1000_217 {ls : mj_L} {st : List Value} {σ : mj_S} {τ : mj_T} {a0 a1 a2 : Option Value} {v : Int32} : mj_E 1000 217 (a0 :: a1 :: a2 :: some (.int v) :: ls) st σ τ = mj_E 1000 218 (a0 :: a1 :: a2 :: some (.int v) :: ls) (.int v :: st) σ τ := mj_nx i1000_217 rfl
theorem i1000_218 : mj_ins 1000 218 = some (.iload 8, 220) := by decide +kernel
theorem e1000_218 {ls : mj_L} {st : List Value} {σ : mj_S} {τ : mj_T} {a0 a1 a2 a3 a4 a5 a6 a7 : Option Value} {v : Int32} : mj_E 1000 218 (a0 :: a1 :: a2 :: a3 :: a4 :: a5 :: a6 :: a7 :: some (.int v) :: ls) st σ τ = mj_E 1000 220 (a0 :: a1 :: a2 :: a3 :: a4 :: a5 :: a6 :: a7 :: some (.int v) :: ls) (.int v :: st) σ τ := mj_nx i1000_218 rfl
theorem i1000_220 : mj_ins 1000 220 = some (.invokestatic 1001, 223) := by decide +kernel
theorem e1000_220 {ls : mj_L} {σ : mj_S} {τ : mj_T} {x0 : Nat} {x1 : Int32} {x2 : Int32} {x3 : Int32} {x4 : Int32} : mj_E 1000 220 ls [.int x4, .int x3, .int x2, .int x1, .ref x0] σ τ = mj_bd (mj_C 1001 [.ref x0, .int x1, .int x2, .int x3, .int x4] σ τ) (mj_K 1000 223 ls []) := mj_clS (as := [.ref x0, .int x1, .int x2, .int x3, .int x4]) (r := []) i1000_220 (by decide +kernel : mj_vk 1000 1001 5 0 5 false = true) rfl
theorem i1000_223 : mj_ins 1000 223 = some (.iconst (3), 224) := by decide +kernel
theorem e1000_223 {ls : mj_L} {st : List Value} {σ : mj_S} {τ : mj_T} : mj_E 1000 223 ls st σ τ = mj_E 1000 224 ls (.int (nI 3) :: st) σ τ := mj_nx i1000_223 rfl
theorem i1000_224 : mj_ins 1000 224 = some (.imul, 225) := by decide +kernel
theorem e1000_224 {ls : mj_L} {st : List Value} {σ : mj_S} {τ : mj_T} {x y : Int32} : mj_E 1000 224 ls (.int y :: .int x :: st) σ τ = mj_E 1000 225 ls (.int (x * y) :: st) σ τ := mj_nx i1000_224 rfl
theorem i1000_225 : mj_ins 1000 225 = some (.ireturn, 226) := by decide +kernel
theorem e1000_225 {ls : mj_L} {σ : mj_S} {τ : mj_T} {v : Int32} : mj_E 1000 225 ls [.int v] σ τ = some (some (.int v), σ, τ) := mj_irt i1000_225 rfl
theorem i1000_226 : mj_ins 1000 226 = some (.aload 0, 227) := by decide +kernel
theorem e1000_226 {ls : mj_L} {st : List Value} {σ : mj_S} {τ : mj_T} {v : Nat} : mj_E 1000 226 (some (.ref v) :: ls) st σ τ = mj_E 1000 227 (some (.ref v) :: ls) (.ref v :: st) σ τ := mj_nx i1000_226 rfl
theorem i1000_227 : mj_ins 1000 227 = some (.iconst (1), 228) := by decide +kernel
theorem e1000_227 {ls : mj_L} {st : List Value} {σ : mj_S} {τ : mj_T} : mj_E 1000 227 ls st σ τ = mj_E 1000 228 ls (.int (nI 1) :: st) σ τ := mj_nx i1000_227 rfl
theorem i1000_228 : mj_ins 1000 228 = some (.iload 7, 230) := by decide +kernel
theorem e1000_228 {ls : mj_L} {st : List Value} {σ : mj_S} {τ : mj_T} {a0 a1 a2 a3 a4 a5 a6 : Option Value} {v : Int32} : mj_E 1000 228 (a0 :: a1 :: a2 :: a3 :: a4 :: a5 :: a6 :: some (.int v) :: ls) st σ τ = mj_E 1000 230 (a0 :: a1 :: a2 :: a3 :: a4 :: a5 :: a6 :: some (.int v) :: ls) (.int v :: st) σ τ := mj_nx i1000_228 rfl
theorem i1000_230 : mj_ins 1000 230 = some (.iload 3, 231) := by decide +kernel
theorem e1000_230 {ls : mj_L} {st : List Value} {σ : mj_S} {τ : mj_T} {a0 a1 a2 : Option Value} {v : Int32} : mj_E 1000 230 (a0 :: a1 :: a2 :: some (.int v) :: ls) st σ τ = mj_E 1000 231 (a0 :: a1 :: a2 :: some (.int v) :: ls) (.int v :: st) σ τ := mj_nx i1000_230 rfl
theorem i1000_231 : mj_ins 1000 231 = some (.iconst (1), 232) := by decide +kernel
theorem e1000_231 {ls : mj_L} {st : List Value} {σ : mj_S} {τ : mj_T} : mj_E 1000 231 ls st σ τ = mj_E 1000 232 ls (.int (nI 1) :: st) σ τ := mj_nx i1000_231 rfl
theorem i1000_232 : mj_ins 1000 232 = some (.iadd, 233) := by decide +kernel
theorem e1000_232 {ls : mj_L} {st : List Value} {σ : mj_S} {τ : mj_T} {x y : Int32} : mj_E 1000 232 ls (.int y :: .int x :: st) σ τ = mj_E 1000 233 ls (.int (x + y) :: st) σ τ := mj_nx i1000_232 rfl
theorem i1000_233 : mj_ins 1000 233 = some (.iload 8, 235) := by decide +kernel
theorem e1000_233 {ls : mj_L} {st : List Value} {σ : mj_S} {τ : mj_T} {a0 a1 a2 a3 a4 a5 a6 a7 : Option Value} {v : Int32} : mj_E 1000 233 (a0 :: a1 :: a2 :: a3 :: a4 :: a5 :: a6 :: a7 :: some (.int v) :: ls) st σ τ = mj_E 1000 235 (a0 :: a1 :: a2 :: a3 :: a4 :: a5 :: a6 :: a7 :: some (.int v) :: ls) (.int v :: st) σ τ := mj_nx i1000_233 rfl
theorem i1000_235 : mj_ins 1000 235 = some (.invokestatic 1001, 238) := by decide +kernel
theorem e1000_235 {ls : mj_L} {σ : mj_S} {τ : mj_T} {x0 : Nat} {x1 : Int32} {x2 : Int32} {x3 : Int32} {x4 : Int32} : mj_E 1000 235 ls [.int x4, .int x3, .int x2, .int x1, .ref x0] σ τ = mj_bd (mj_C 1001 [.ref x0, .int x1, .int x2, .int x3, .int x4] σ τ) (mj_K 1000 238 ls []) := mj_clS (as := [.ref x0, .int x1, .int x2, .int x3, .int x4]) (r := []) i1000_235 (by decide +kernel : mj_vk 1000 1001 5 0 5 false = true) rfl
theorem i1000_238 : mj_ins 1000 238 = some (.ireturn, 239) := by decide +kernel
theorem e1000_238 {ls : mj_L} {σ : mj_S} {τ : mj_T} {v : Int32} : mj_E 1000 238 ls [.int v] σ τ = some (some (.int v), σ, τ) := mj_irt i1000_238 rfl
theorem i1000_239 : mj_ins 1000 239 = some (.aload 0, 240) := by decide +kernel
theorem e1000_239 {ls : mj_L} {st : List Value} {σ : mj_S} {τ : mj_T} {v : Nat} : mj_E 1000 239 (some (.ref v) :: ls) st σ τ = mj_E 1000 240 (some (.ref v) :: ls) (.ref v :: st) σ τ := mj_nx i1000_239 rfl
theorem i1000_240 : mj_ins 1000 240 = some (.iconst (2), 241) := by decide +kernel
theorem e1000_240 {ls : mj_L} {st : List Value} {σ : mj_S} {τ : mj_T} : mj_E 1000 240 ls st σ τ = mj_E 1000 241 ls (.int (nI 2) :: st) σ τ := mj_nx i1000_240 rfl
theorem i1000_241 : mj_ins 1000 241 = some (.iload 7, 243) := by decide +kernel
theorem e1000_241 {ls : mj_L} {st : List Value} {σ : mj_S} {τ : mj_T} {a0 a1 a2 a3 a4 a5 a6 : Option Value} {v : Int32} : mj_E 1000 241 (a0 :: a1 :: a2 :: a3 :: a4 :: a5 :: a6 :: some (.int v) :: ls) st σ τ = mj_E 1000 243 (a0 :: a1 :: a2 :: a3 :: a4 :: a5 :: a6 :: some (.int v) :: ls) (.int v :: st) σ τ := mj_nx i1000_241 rfl
theorem i1000_243 : mj_ins 1000 243 = some (.iload 3, 244) := by decide +kernel
theorem e1000_243 {ls : mj_L} {st : List Value} {σ : mj_S} {τ : mj_T} {a0 a1 a2 : Option Value} {v : Int32} : mj_E 1000 243 (a0 :: a1 :: a2 :: some (.int v) :: ls) st σ τ = mj_E 1000 244 (a0 :: a1 :: a2 :: some (.int v) :: ls) (.int v :: st) σ τ := mj_nx i1000_243 rfl
theorem i1000_244 : mj_ins 1000 244 = some (.iload 8, 246) := by decide +kernel
theorem e1000_244 {ls : mj_L} {st : List Value} {σ : mj_S} {τ : mj_T} {a0 a1 a2 a3 a4 a5 a6 a7 : Option Value} {v : Int32} : mj_E 1000 244 (a0 :: a1 :: a2 :: a3 :: a4 :: a5 :: a6 :: a7 :: some (.int v) :: ls) st σ τ = mj_E 1000 246 (a0 :: a1 :: a2 :: a3 :: a4 :: a5 :: a6 :: a7 :: some (.int v) :: ls) (.int v :: st) σ τ := mj_nx i1000_244 rfl
theorem i1000_246 : mj_ins 1000 246 = some (.invokestatic 1001, 249) := by decide +kernel
theorem e1000_246 {ls : mj_L} {σ : mj_S} {τ : mj_T} {x0 : Nat} {x1 : Int32} {x2 : Int32} {x3 : Int32} {x4 : Int32} : mj_E 1000 246 ls [.int x4, .int x3, .int x2, .int x1, .ref x0] σ τ = mj_bd (mj_C 1001 [.ref x0, .int x1, .int x2, .int x3, .int x4] σ τ) (mj_K 1000 249 ls []) := mj_clS (as := [.ref x0, .int x1, .int x2, .int x3, .int x4]) (r := []) i1000_246 (by decide +kernel : mj_vk 1000 1001 5 0 5 false = true) rfl
theorem i1000_249 : mj_ins 1000 249 = some (.ineg, 250) := by decide +kernel
theorem e1000_249 {ls : mj_L} {st : List Value} {σ : mj_S} {τ : mj_T} {x : Int32} : mj_E 1000 249 ls (.int x :: st) σ τ = mj_E 1000 250 ls (.int (-x) :: st) σ τ := mj_nx i1000_249 rfl
theorem i1000_250 : mj_ins 1000 250 = some (.ireturn, 251) := by decide +kernel
theorem e1000_250 {ls : mj_L} {σ : mj_S} {τ : mj_T} {v : Int32} : mj_E 1000 250 ls [.int v] σ τ = some (some (.int v), σ, τ) := mj_irt i1000_250 rfl
theorem i1000_251 : mj_ins 1000 251 = some (.aload 0, 252) := by decide +kernel
theorem e1000_251 {ls : mj_L} {st : List Value} {σ : mj_S} {τ : mj_T} {v : Nat} : mj_E 1000 251 (some (.ref v) :: ls) st σ τ = mj_E 1000 252 (some (.ref v) :: ls) (.ref v :: st) σ τ := mj_nx i1000_251 rfl
theorem i1000_252 : mj_ins 1000 252 = some (.iconst (0), 253) := by decide +kernel
theorem e1000_252 {ls : mj_L} {st : List Value} {σ : mj_S} {τ : mj_T} : mj_E 1000 252 ls st σ τ = mj_E 1000 253 ls (.int (nI 0) :: st) σ τ := mj_nx i1000_252 rfl
theorem i1000_253 : mj_ins 1000 253 = some (.iload 7, 255) := by decide +kernel
theorem e1000_253 {ls : mj_L} {st : List Value} {σ : mj_S} {τ : mj_T} {a0 a1 a2 a3 a4 a5 a6 : Option Value} {v : Int32} : mj_E 1000 253 (a0 :: a1 :: a2 :: a3 :: a4 :: a5 :: a6 :: some (.int v) :: ls) st σ τ = mj_E 1000 255 (a0 :: a1 :: a2 :: a3 :: a4 :: a5 :: a6 :: some (.int v) :: ls) (.int v :: st) σ τ := mj_nx i1000_253 rfl
theorem i1000_255 : mj_ins 1000 255 = some (.iload 3, 256) := by decide +kernel
theorem e1000_255 {ls : mj_L} {st : List Value} {σ : mj_S} {τ : mj_T} {a0 a1 a2 : Option Value} {v : Int32} : mj_E 1000 255 (a0 :: a1 :: a2 :: some (.int v) :: ls) st σ τ = mj_E 1000 256 (a0 :: a1 :: a2 :: some (.int v) :: ls) (.int v :: st) σ τ := mj_nx i1000_255 rfl
theorem i1000_256 : mj_ins 1000 256 = some (.iload 8, 258) := by decide +kernel
theorem e1000_256 {ls : mj_L} {st : List Value} {σ : mj_S} {τ : mj_T} {a0 a1 a2 a3 a4 a5 a6 a7 : Option Value} {v : Int32} : mj_E 1000 256 (a0 :: a1 :: a2 :: a3 :: a4 :: a5 :: a6 :: a7 :: some (.int v) :: ls) st σ τ = mj_E 1000 258 (a0 :: a1 :: a2 :: a3 :: a4 :: a5 :: a6 :: a7 :: some (.int v) :: ls) (.int v :: st) σ τ := mj_nx i1000_256 rfl
theorem i1000_258 : mj_ins 1000 258 = some (.invokestatic 1001, 261) := by decide +kernel
theorem e1000_258 {ls : mj_L} {σ : mj_S} {τ : mj_T} {x0 : Nat} {x1 : Int32} {x2 : Int32} {x3 : Int32} {x4 : Int32} : mj_E 1000 258 ls [.int x4, .int x3, .int x2, .int x1, .ref x0] σ τ = mj_bd (mj_C 1001 [.ref x0, .int x1, .int x2, .int x3, .int x4] σ τ) (mj_K 1000 261 ls []) := mj_clS (as := [.ref x0, .int x1, .int x2, .int x3, .int x4]) (r := []) i1000_258 (by decide +kernel : mj_vk 1000 1001 5 0 5 false = true) rfl
theorem i1000_261 : mj_ins 1000 261 = some (.aload 0, 262) := by decide +kernel
theorem e1000_261 {ls : mj_L} {st : List Value} {σ : mj_S} {τ : mj_T} {v : Nat} : mj_E 1000 261 (some (.ref v) :: ls) st σ τ = mj_E 1000 262 (some (.ref v) :: ls) (.ref v :: st) σ τ := mj_nx i1000_261 rfl
theorem i1000_262 : mj_ins 1000 262 = some (.getfield 503, 265) := by decide +kernel
theorem e1000_262 {ls : mj_L} {st : List Value} {σ : mj_S} {τ : mj_T} : mj_E 1000 262 ls (.ref 59 :: st) σ τ = mj_E 1000 265 ls (.int (σ 59 3) :: st) σ τ := mj_nx i1000_262 rfl
theorem i1000_265 : mj_ins 1000 265 = some (.isub, 266) := by decide +kernel
theorem e1000_265 {ls : mj_L} {st : List Value} {σ : mj_S} {τ : mj_T} {x y : Int32} : mj_E 1000 265 ls (.int y :: .int x :: st) σ τ = mj_E 1000 266 ls (.int (x - y) :: st) σ τ := mj_nx i1000_265 rfl
theorem i1000_266 : mj_ins 1000 266 = some (.ireturn, 267) := by decide +kernel
theorem e1000_266 {ls : mj_L} {σ : mj_S} {τ : mj_T} {v : Int32} : mj_E 1000 266 ls [.int v] σ τ = some (some (.int v), σ, τ) := mj_irt i1000_266 rfl
theorem i1000_267 : mj_ins 1000 267 = some (.aload 0, 268) := by decide +kernel
theorem e1000_267 {ls : mj_L} {st : List Value} {σ : mj_S} {τ : mj_T} {v : Nat} : mj_E 1000 267 (some (.ref v) :: ls) st σ τ = mj_E 1000 268 (some (.ref v) :: ls) (.ref v :: st) σ τ := mj_nx i1000_267 rfl
theorem i1000_268 : mj_ins 1000 268 = some (.iconst (2), 269) := by decide +kernel
theorem e1000_268 {ls : mj_L} {st : List Value} {σ : mj_S} {τ : mj_T} : mj_E 1000 268 ls st σ τ = mj_E 1000 269 ls (.int (nI 2) :: st) σ τ := mj_nx i1000_268 rfl
theorem i1000_269 : mj_ins 1000 269 = some (.iload 7, 271) := by decide +kernel
theorem e1000_269 {ls : mj_L} {st : List Value} {σ : mj_S} {τ : mj_T} {a0 a1 a2 a3 a4 a5 a6 : Option Value} {v : Int32} : mj_E 1000 269 (a0 :: a1 :: a2 :: a3 :: a4 :: a5 :: a6 :: some (.int v) :: ls) st σ τ = mj_E 1000 271 (a0 :: a1 :: a2 :: a3 :: a4 :: a5 :: a6 :: some (.int v) :: ls) (.int v :: st) σ τ := mj_nx i1000_269 rfl
theorem i1000_271 : mj_ins 1000 271 = some (.iload 3, 272) := by decide +kernel
theorem e1000_271 {ls : mj_L} {st : List Value} {σ : mj_S} {τ : mj_T} {a0 a1 a2 : Option Value} {v : Int32} : mj_E 1000 271 (a0 :: a1 :: a2 :: some (.int v) :: ls) st σ τ = mj_E 1000 272 (a0 :: a1 :: a2 :: some (.int v) :: ls) (.int v :: st) σ τ := mj_nx i1000_271 rfl
theorem i1000_272 : mj_ins 1000 272 = some (.iload 8, 274) := by decide +kernel
theorem e1000_272 {ls : mj_L} {st : List Value} {σ : mj_S} {τ : mj_T} {a0 a1 a2 a3 a4 a5 a6 a7 : Option Value} {v : Int32} : mj_E 1000 272 (a0 :: a1 :: a2 :: a3 :: a4 :: a5 :: a6 :: a7 :: some (.int v) :: ls) st σ τ = mj_E 1000 274 (a0 :: a1 :: a2 :: a3 :: a4 :: a5 :: a6 :: a7 :: some (.int v) :: ls) (.int v :: st) σ τ := mj_nx i1000_272 rfl
theorem i1000_274 : mj_ins 1000 274 = some (.invokestatic 1001, 277) := by decide +kernel
theorem e1000_274 {ls : mj_L} {σ : mj_S} {τ : mj_T} {x0 : Nat} {x1 : Int32} {x2 : Int32} {x3 : Int32} {x4 : Int32} : mj_E 1000 274 ls [.int x4, .int x3, .int x2, .int x1, .ref x0] σ τ = mj_bd (mj_C 1001 [.ref x0, .int x1, .int x2, .int x3, .int x4] σ τ) (mj_K 1000 277 ls []) := mj_clS (as := [.ref x0, .int x1, .int x2, .int x3, .int x4]) (r := []) i1000_274 (by decide +kernel : mj_vk 1000 1001 5 0 5 false = true) rfl
theorem i1000_277 : mj_ins 1000 277 = some (.iconst (5), 278) := by decide +kernel
theorem e1000_277 {ls : mj_L} {st : List Value} {σ : mj_S} {τ : mj_T} : mj_E 1000 277 ls st σ τ = mj_E 1000 278 ls (.int (nI 5) :: st) σ τ := mj_nx i1000_277 rfl
theorem i1000_278 : mj_ins 1000 278 = some (.ixor, 279) := by decide +kernel
theorem e1000_278 {ls : mj_L} {st : List Value} {σ : mj_S} {τ : mj_T} {x y : Int32} : mj_E 1000 278 ls (.int y :: .int x :: st) σ τ = mj_E 1000 279 ls (.int (x ^^^ y) :: st) σ τ := mj_nx i1000_278 rfl
theorem i1000_279 : mj_ins 1000 279 = some (.ireturn, 280) := by decide +kernel
theorem e1000_279 {ls : mj_L} {σ : mj_S} {τ : mj_T} {v : Int32} : mj_E 1000 279 ls [.int v] σ τ = some (some (.int v), σ, τ) := mj_irt i1000_279 rfl
theorem i1000_280 : mj_ins 1000 280 = some (.aload 0, 281) := by decide +kernel
theorem e1000_280 {ls : mj_L} {st : List Value} {σ : mj_S} {τ : mj_T} {v : Nat} : mj_E 1000 280 (some (.ref v) :: ls) st σ τ = mj_E 1000 281 (some (.ref v) :: ls) (.ref v :: st) σ τ := mj_nx i1000_280 rfl
theorem i1000_281 : mj_ins 1000 281 = some (.iconst (0), 282) := by decide +kernel
theorem e1000_281 {ls : mj_L} {st : List Value} {σ : mj_S} {τ : mj_T} : mj_E 1000 281 ls st σ τ = mj_E 1000 282 ls (.int (nI 0) :: st) σ τ := mj_nx i1000_281 rfl
theorem i1000_282 : mj_ins 1000 282 = some (.iload 7, 284) := by decide +kernel
theorem e1000_282 {ls : mj_L} {st : List Value} {σ : mj_S} {τ : mj_T} {a0 a1 a2 a3 a4 a5 a6 : Option Value} {v : Int32} : mj_E 1000 282 (a0 :: a1 :: a2 :: a3 :: a4 :: a5 :: a6 :: some (.int v) :: ls) st σ τ = mj_E 1000 284 (a0 :: a1 :: a2 :: a3 :: a4 :: a5 :: a6 :: some (.int v) :: ls) (.int v :: st) σ τ := mj_nx i1000_282 rfl
theorem i1000_284 : mj_ins 1000 284 = some (.iload 3, 285) := by decide +kernel
theorem e1000_284 {ls : mj_L} {st : List Value} {σ : mj_S} {τ : mj_T} {a0 a1 a2 : Option Value} {v : Int32} : mj_E 1000 284 (a0 :: a1 :: a2 :: some (.int v) :: ls) st σ τ = mj_E 1000 285 (a0 :: a1 :: a2 :: some (.int v) :: ls) (.int v :: st) σ τ := mj_nx i1000_284 rfl
theorem i1000_285 : mj_ins 1000 285 = some (.iload 8, 287) := by decide +kernel
theorem e1000_285 {ls : mj_L} {st : List Value} {σ : mj_S} {τ : mj_T} {a0 a1 a2 a3 a4 a5 a6 a7 : Option Value} {v : Int32} : mj_E 1000 285 (a0 :: a1 :: a2 :: a3 :: a4 :: a5 :: a6 :: a7 :: some (.int v) :: ls) st σ τ = mj_E 1000 287 (a0 :: a1 :: a2 :: a3 :: a4 :: a5 :: a6 :: a7 :: some (.int v) :: ls) (.int v :: st) σ τ := mj_nx i1000_285 rfl
theorem i1000_287 : mj_ins 1000 287 = some (.invokestatic 1001, 290) := by decide +kernel
theorem e1000_287 {ls : mj_L} {σ : mj_S} {τ : mj_T} {x0 : Nat} {x1 : Int32} {x2 : Int32} {x3 : Int32} {x4 : Int32} : mj_E 1000 287 ls [.int x4, .int x3, .int x2, .int x1, .ref x0] σ τ = mj_bd (mj_C 1001 [.ref x0, .int x1, .int x2, .int x3, .int x4] σ τ) (mj_K 1000 290 ls []) := mj_clS (as := [.ref x0, .int x1, .int x2, .int x3, .int x4]) (r := []) i1000_287 (by decide +kernel : mj_vk 1000 1001 5 0 5 false = true) rfl
theorem i1000_290 : mj_ins 1000 290 = some (.iconst (2), 291) := by decide +kernel
theorem e1000_290 {ls : mj_L} {st : List Value} {σ : mj_S} {τ : mj_T} : mj_E 1000 290 ls st σ τ = mj_E 1000 291 ls (.int (nI 2) :: st) σ τ := mj_nx i1000_290 rfl
theorem i1000_291 : mj_ins 1000 291 = some (.imul, 292) := by decide +kernel
theorem e1000_291 {ls : mj_L} {st : List Value} {σ : mj_S} {τ : mj_T} {x y : Int32} : mj_E 1000 291 ls (.int y :: .int x :: st) σ τ = mj_E 1000 292 ls (.int (x * y) :: st) σ τ := mj_nx i1000_291 rfl
theorem i1000_292 : mj_ins 1000 292 = some (.ireturn, 293) := by decide +kernel
theorem e1000_292 {ls : mj_L} {σ : mj_S} {τ : mj_T} {v : Int32} : mj_E 1000 292 ls [.int v] σ τ = some (some (.int v), σ, τ) := mj_irt i1000_292 rfl
theorem i1000_293 : mj_ins 1000 293 = some (.aload 0, 294) := by decide +kernel
theorem e1000_293 {ls : mj_L} {st : List Value} {σ : mj_S} {τ : mj_T} {v : Nat} : mj_E 1000 293 (some (.ref v) :: ls) st σ τ = mj_E 1000 294 (some (.ref v) :: ls) (.ref v :: st) σ τ := mj_nx i1000_293 rfl
theorem i1000_294 : mj_ins 1000 294 = some (.iconst (1), 295) := by decide +kernel
theorem e1000_294 {ls : mj_L} {st : List Value} {σ : mj_S} {τ : mj_T} : mj_E 1000 294 ls st σ τ = mj_E 1000 295 ls (.int (nI 1) :: st) σ τ := mj_nx i1000_294 rfl
theorem i1000_295 : mj_ins 1000 295 = some (.iload 7, 297) := by decide +kernel
theorem e1000_295 {ls : mj_L} {st : List Value} {σ : mj_S} {τ : mj_T} {a0 a1 a2 a3 a4 a5 a6 : Option Value} {v : Int32} : mj_E 1000 295 (a0 :: a1 :: a2 :: a3 :: a4 :: a5 :: a6 :: some (.int v) :: ls) st σ τ = mj_E 1000 297 (a0 :: a1 :: a2 :: a3 :: a4 :: a5 :: a6 :: some (.int v) :: ls) (.int v :: st) σ τ := mj_nx i1000_295 rfl
theorem i1000_297 : mj_ins 1000 297 = some (.iload 3, 298) := by decide +kernel
theorem e1000_297 {ls : mj_L} {st : List Value} {σ : mj_S} {τ : mj_T} {a0 a1 a2 : Option Value} {v : Int32} : mj_E 1000 297 (a0 :: a1 :: a2 :: some (.int v) :: ls) st σ τ = mj_E 1000 298 (a0 :: a1 :: a2 :: some (.int v) :: ls) (.int v :: st) σ τ := mj_nx i1000_297 rfl
theorem i1000_298 : mj_ins 1000 298 = some (.aload 0, 299) := by decide +kernel
theorem e1000_298 {ls : mj_L} {st : List Value} {σ : mj_S} {τ : mj_T} {v : Nat} : mj_E 1000 298 (some (.ref v) :: ls) st σ τ = mj_E 1000 299 (some (.ref v) :: ls) (.ref v :: st) σ τ := mj_nx i1000_298 rfl
theorem i1000_299 : mj_ins 1000 299 = some (.getfield 504, 302) := by decide +kernel
theorem e1000_299 {ls : mj_L} {st : List Value} {σ : mj_S} {τ : mj_T} : mj_E 1000 299 ls (.ref 59 :: st) σ τ = mj_E 1000 302 ls (.int (σ 59 4) :: st) σ τ := mj_nx i1000_299 rfl
theorem i1000_302 : mj_ins 1000 302 = some (.isub, 303) := by decide +kernel
theorem e1000_302 {ls : mj_L} {st : List Value} {σ : mj_S} {τ : mj_T} {x y : Int32} : mj_E 1000 302 ls (.int y :: .int x :: st) σ τ = mj_E 1000 303 ls (.int (x - y) :: st) σ τ := mj_nx i1000_302 rfl
theorem i1000_303 : mj_ins 1000 303 = some (.iload 8, 305) := by decide +kernel
theorem e1000_303 {ls : mj_L} {st : List Value} {σ : mj_S} {τ : mj_T} {a0 a1 a2 a3 a4 a5 a6 a7 : Option Value} {v : Int32} : mj_E 1000 303 (a0 :: a1 :: a2 :: a3 :: a4 :: a5 :: a6 :: a7 :: some (.int v) :: ls) st σ τ = mj_E 1000 305 (a0 :: a1 :: a2 :: a3 :: a4 :: a5 :: a6 :: a7 :: some (.int v) :: ls) (.int v :: st) σ τ := mj_nx i1000_303 rfl
theorem i1000_305 : mj_ins 1000 305 = some (.invokestatic 1001, 308) := by decide +kernel
theorem e1000_305 {ls : mj_L} {σ : mj_S} {τ : mj_T} {x0 : Nat} {x1 : Int32} {x2 : Int32} {x3 : Int32} {x4 : Int32} : mj_E 1000 305 ls [.int x4, .int x3, .int x2, .int x1, .ref x0] σ τ = mj_bd (mj_C 1001 [.ref x0, .int x1, .int x2, .int x3, .int x4] σ τ) (mj_K 1000 308 ls []) := mj_clS (as := [.ref x0, .int x1, .int x2, .int x3, .int x4]) (r := []) i1000_305 (by decide +kernel : mj_vk 1000 1001 5 0 5 false = true) rfl
theorem i1000_308 : mj_ins 1000 308 = some (.ireturn, 309) := by decide +kernel
theorem e1000_308 {ls : mj_L} {σ : mj_S} {τ : mj_T} {v : Int32} : mj_E 1000 308 ls [.int v] σ τ = some (some (.int v), σ, τ) := mj_irt i1000_308 rfl
theorem c1001 {σ : mj_S} {τ : mj_T} {x0 : Nat} {x1 : Int32} {x2 : Int32} {x3 : Int32} {x4 : Int32} : mj_C 1001 [.ref x0, .int x1, .int x2, .int x3, .int x4] σ τ = mj_E 1001 0 [some (.ref x0), some (.int x1), some (.int x2), some (.int x3), some (.int x4), none, none, none, none] [] σ τ := rfl
theorem i1001_0 : mj_ins 1001 0 = some (.iload 1, 1) := by decide +kernel
theorem e1001_0 {ls : mj_L} {st : List Value} {σ : mj_S} {τ : mj_T} {a0 : Option Value} {v : Int32} : mj_E 1001 0 (a0 :: some (.int v) :: ls) st σ τ = mj_E 1001 1 (a0 :: some (.int v) :: ls) (.int v :: st) σ τ := mj_nx i1001_0 rfl
theorem i1001_1 : mj_ins 1001 1 = some (.iload 2, 2) := by decide +kernel
theorem e1001_1 {ls : mj_L} {st : List Value} {σ : mj_S} {τ : mj_T} {a0 a1 : Option Value} {v : Int32} : mj_E 1001 1 (a0 :: a1 :: some (.int v) :: ls) st σ τ = mj_E 1001 2 (a0 :: a1 :: some (.int v) :: ls) (.int v :: st) σ τ := mj_nx i1001_1 rfl
theorem i1001_2 : mj_ins 1001 2 = some (.invokestatic 71, 5) := by decide +kernel
theorem e1001_2 {ls : mj_L} {σ : mj_S} {τ : mj_T} {x0 : Int32} {x1 : Int32} : mj_E 1001 2 ls [.int x1, .int x0] σ τ = mj_bd (mj_C 71 [.int x0, .int x1] σ τ) (mj_K 1001 5 ls []) := mj_clS (as := [.int x0, .int x1]) (r := []) i1001_2 (by decide +kernel : mj_vk 1001 71 2 0 2 false = true) rfl
theorem i1001_5 : mj_ins 1001 5 = some (.istore 5, 7) := by decide +kernel
theorem e1001_5 {ls : mj_L} {st : List Value} {σ : mj_S} {τ : mj_T} {a0 a1 a2 a3 a4 a5 : Option Value} {v : Int32} : mj_E 1001 5 (a0 :: a1 :: a2 :: a3 :: a4 :: a5 :: ls) (.int v :: st) σ τ = mj_E 1001 7 (a0 :: a1 :: a2 :: a3 :: a4 :: some (.int v) :: ls) st σ τ := mj_nx i1001_5 rfl
theorem i1001_7 : mj_ins 1001 7 = some (.iload 5, 9) := by decide +kernel
theorem e1001_7 {ls : mj_L} {st : List Value} {σ : mj_S} {τ : mj_T} {a0 a1 a2 a3 a4 : Option Value} {v : Int32} : mj_E 1001 7 (a0 :: a1 :: a2 :: a3 :: a4 :: some (.int v) :: ls) st σ τ = mj_E 1001 9 (a0 :: a1 :: a2 :: a3 :: a4 :: some (.int v) :: ls) (.int v :: st) σ τ := mj_nx i1001_7 rfl
theorem i1001_9 : mj_ins 1001 9 = some (.iconst (-1), 10) := by decide +kernel
theorem e1001_9 {ls : mj_L} {st : List Value} {σ : mj_S} {τ : mj_T} : mj_E 1001 9 ls st σ τ = mj_E 1001 10 ls (.int ((-1)) :: st) σ τ := mj_nx i1001_9 rfl
theorem i1001_10 : mj_ins 1001 10 = some (.if_icmp .eq 20, 13) := by decide +kernel
theorem e1001_10 {ls : mj_L} {st : List Value} {σ : mj_S} {τ : mj_T} {x y : Int32} : mj_E 1001 10 ls (.int y :: .int x :: st) σ τ = if x = y then mj_E 1001 20 ls st σ τ else mj_E 1001 13 ls st σ τ := (mj_ifi i1001_10).trans (mj_cdT rfl)
theorem i1001_13 : mj_ins 1001 13 = some (.iload 4, 15) := by decide +kernel
theorem e1001_13 {ls : mj_L} {st : List Value} {σ : mj_S} {τ : mj_T} {a0 a1 a2 a3 : Option Value} {v : Int32} : mj_E 1001 13 (a0 :: a1 :: a2 :: a3 :: some (.int v) :: ls) st σ τ = mj_E 1001 15 (a0 :: a1 :: a2 :: a3 :: some (.int v) :: ls) (.int v :: st) σ τ := mj_nx i1001_13 rfl
theorem i1001_15 : mj_ins 1001 15 = some (.iconst (20), 17) := by decide +kernel
theorem e1001_15 {ls : mj_L} {st : List Value} {σ : mj_S} {τ : mj_T} : mj_E 1001 15 ls st σ τ = mj_E 1001 17 ls (.int (nI 20) :: st) σ τ := mj_nx i1001_15 rfl
theorem i1001_17 : mj_ins 1001 17 = some (.if_icmp .le 22, 20) := by decide +kernel
theorem e1001_17 {ls : mj_L} {st : List Value} {σ : mj_S} {τ : mj_T} {x y : Int32} : mj_E 1001 17 ls (.int y :: .int x :: st) σ τ = if x ≤ y then mj_E 1001 22 ls st σ τ else mj_E 1001 20 ls st σ τ := (mj_ifi i1001_17).trans (mj_cdT rfl)
theorem i1001_20 : mj_ins 1001 20 = some (.iconst (0), 21) := by decide +kernel
theorem e1001_20 {ls : mj_L} {st : List Value} {σ : mj_S} {τ : mj_T} : mj_E 1001 20 ls st σ τ = mj_E 1001 21 ls (.int (nI 0) :: st) σ τ := mj_nx i1001_20 rfl
theorem i1001_21 : mj_ins 1001 21 = some (.ireturn, 22) := by decide +kernel
theorem e1001_21 {ls : mj_L} {σ : mj_S} {τ : mj_T} {v : Int32} : mj_E 1001 21 ls [.int v] σ τ = some (some (.int v), σ, τ) := mj_irt i1001_21 rfl
theorem i1001_22 : mj_ins 1001 22 = some (.getstatic 91, 25) := by decide +kernel
theorem e1001_22 {ls : mj_L} {st : List Value} {σ : mj_S} {τ : mj_T} : mj_E 1001 22 ls st σ τ = mj_E 1001 25 ls (.ref 91 :: st) σ τ := mj_nx i1001_22 rfl
theorem i1001_25 : mj_ins 1001 25 = some (.iconst (3), 26) := by decide +kernel
theorem e1001_25 {ls : mj_L} {st : List Value} {σ : mj_S} {τ : mj_T} : mj_E 1001 25 ls st σ τ = mj_E 1001 26 ls (.int (nI 3) :: st) σ τ := mj_nx i1001_25 rfl
theorem i1001_26 : mj_ins 1001 26 = some (.iload 5, 28) := by decide +kernel
theorem e1001_26 {ls : mj_L} {st : List Value} {σ : mj_S} {τ : mj_T} {a0 a1 a2 a3 a4 : Option Value} {v : Int32} : mj_E 1001 26 (a0 :: a1 :: a2 :: a3 :: a4 :: some (.int v) :: ls) st σ τ = mj_E 1001 28 (a0 :: a1 :: a2 :: a3 :: a4 :: some (.int v) :: ls) (.int v :: st) σ τ := mj_nx i1001_26 rfl
theorem i1001_28 : mj_ins 1001 28 = some (.imul, 29) := by decide +kernel
theorem e1001_28 {ls : mj_L} {st : List Value} {σ : mj_S} {τ : mj_T} {x y : Int32} : mj_E 1001 28 ls (.int y :: .int x :: st) σ τ = mj_E 1001 29 ls (.int (x * y) :: st) σ τ := mj_nx i1001_28 rfl
theorem i1001_29 : mj_ins 1001 29 = some (.iload 1, 30) := by decide +kernel
theorem e1001_29 {ls : mj_L} {st : List Value} {σ : mj_S} {τ : mj_T} {a0 : Option Value} {v : Int32} : mj_E 1001 29 (a0 :: some (.int v) :: ls) st σ τ = mj_E 1001 30 (a0 :: some (.int v) :: ls) (.int v :: st) σ τ := mj_nx i1001_29 rfl
theorem i1001_30 : mj_ins 1001 30 = some (.iadd, 31) := by decide +kernel
theorem e1001_30 {ls : mj_L} {st : List Value} {σ : mj_S} {τ : mj_T} {x y : Int32} : mj_E 1001 30 ls (.int y :: .int x :: st) σ τ = mj_E 1001 31 ls (.int (x + y) :: st) σ τ := mj_nx i1001_30 rfl
theorem i1001_31 : mj_ins 1001 31 = some (.iaload, 32) := by decide +kernel
theorem e1001_31 {ls : mj_L} {st : List Value} {σ : mj_S} {τ : mj_T} {x : Int32} {k : Nat} : mj_E 1001 31 ls (.int x :: .ref k :: st) σ τ = if mj_ib (mj_li σ k) x = true then mj_E 1001 32 ls (.int (σ k x.toNatClampNeg) :: st) σ τ else none := mj_ald i1001_31
theorem i1001_32 : mj_ins 1001 32 = some (.istore 6, 34) := by decide +kernel
theorem e1001_32 {ls : mj_L} {st : List Value} {σ : mj_S} {τ : mj_T} {a0 a1 a2 a3 a4 a5 a6 : Option Value} {v : Int32} : mj_E 1001 32 (a0 :: a1 :: a2 :: a3 :: a4 :: a5 :: a6 :: ls) (.int v :: st) σ τ = mj_E 1001 34 (a0 :: a1 :: a2 :: a3 :: a4 :: a5 :: some (.int v) :: ls) st σ τ := mj_nx i1001_32 rfl
theorem i1001_34 : mj_ins 1001 34 = some (.aload 0, 35) := by decide +kernel
theorem e1001_34 {ls : mj_L} {st : List Value} {σ : mj_S} {τ : mj_T} {v : Nat} : mj_E 1001 34 (some (.ref v) :: ls) st σ τ = mj_E 1001 35 (some (.ref v) :: ls) (.ref v :: st) σ τ := mj_nx i1001_34 rfl
theorem i1001_35 : mj_ins 1001 35 = some (.iload 6, 37) := by decide +kernel
theorem e1001_35 {ls : mj_L} {st : List Value} {σ : mj_S} {τ : mj_T} {a0 a1 a2 a3 a4 a5 : Option Value} {v : Int32} : mj_E 1001 35 (a0 :: a1 :: a2 :: a3 :: a4 :: a5 :: some (.int v) :: ls) st σ τ = mj_E 1001 37 (a0 :: a1 :: a2 :: a3 :: a4 :: a5 :: some (.int v) :: ls) (.int v :: st) σ τ := mj_nx i1001_35 rfl
theorem i1001_37 : mj_ins 1001 37 = some (.invokevirtual 72, 40) := by decide +kernel
theorem e1001_37 {ls : mj_L} {σ : mj_S} {τ : mj_T} {r : Nat} {x0 : Int32} : mj_E 1001 37 ls [.int x0, .ref r] σ τ = if mj_rcv r 5 = true then mj_bd (mj_C 72 [.ref r, .int x0] σ τ) (mj_K 1001 40 ls []) else none := mj_clV (as := [.int x0]) (r := []) i1001_37 (by decide +kernel : mj_vk 1001 72 1 0 2 false = true) (by decide +kernel)
theorem i1001_40 : mj_ins 1001 40 = some (.iload 5, 42) := by decide +kernel
theorem e1001_40 {ls : mj_L} {st : List Value} {σ : mj_S} {τ : mj_T} {a0 a1 a2 a3 a4 : Option Value} {v : Int32} : mj_E 1001 40 (a0 :: a1 :: a2 :: a3 :: a4 :: some (.int v) :: ls) st σ τ = mj_E 1001 42 (a0 :: a1 :: a2 :: a3 :: a4 :: some (.int v) :: ls) (.int v :: st) σ τ := mj_nx i1001_40 rfl
theorem i1001_42 : mj_ins 1001 42 = some (.invokestatic 4, 45) := by decide +kernel
theorem e1001_42 {ls : mj_L} {σ : mj_S} {τ : mj_T} {x0 : Int32} : mj_E 1001 42 ls [.int x0] σ τ = mj_bd (mj_C 4 [.int x0] σ τ) (mj_K 1001 45 ls []) := mj_clS (as := [.int x0]) (r := []) i1001_42 (by decide +kernel : mj_vk 1001 4 1 0 1 false = true) rfl
theorem i1001_45 : mj_ins 1001 45 = some (.istore 7, 47) := by decide +kernel
theorem e1001_45 {ls : mj_L} {st : List Value} {σ : mj_S} {τ : mj_T} {a0 a1 a2 a3 a4 a5 a6 a7 : Option Value} {v : Int32} : mj_E 1001 45 (a0 :: a1 :: a2 :: a3 :: a4 :: a5 :: a6 :: a7 :: ls) (.int v :: st) σ τ = mj_E 1001 47 (a0 :: a1 :: a2 :: a3 :: a4 :: a5 :: a6 :: some (.int v) :: ls) st σ τ := mj_nx i1001_45 rfl
theorem i1001_47 : mj_ins 1001 47 = some (.iload 4, 49) := by decide +kernel
theorem e1001_47 {ls : mj_L} {st : List Value} {σ : mj_S} {τ : mj_T} {a0 a1 a2 a3 : Option Value} {v : Int32} : mj_E 1001 47 (a0 :: a1 :: a2 :: a3 :: some (.int v) :: ls) st σ τ = mj_E 1001 49 (a0 :: a1 :: a2 :: a3 :: some (.int v) :: ls) (.int v :: st) σ τ := mj_nx i1001_47 rfl
theorem i1001_49 : mj_ins 1001 49 = some (.iconst (1), 50) := by decide +kernel
theorem e1001_49 {ls : mj_L} {st : List Value} {σ : mj_S} {τ : mj_T} : mj_E 1001 49 ls st σ τ = mj_E 1001 50 ls (.int (nI 1) :: st) σ τ := mj_nx i1001_49 rfl
theorem i1001_50 : mj_ins 1001 50 = some (.iadd, 51) := by decide +kernel
theorem e1001_50 {ls : mj_L} {st : List Value} {σ : mj_S} {τ : mj_T} {x y : Int32} : mj_E 1001 50 ls (.int y :: .int x :: st) σ τ = mj_E 1001 51 ls (.int (x + y) :: st) σ τ := mj_nx i1001_50 rfl
theorem i1001_51 : mj_ins 1001 51 = some (.istore 8, 53) := by decide +kernel
theorem e1001_51 {ls : mj_L} {st : List Value} {σ : mj_S} {τ : mj_T} {a0 a1 a2 a3 a4 a5 a6 a7 a8 : Option Value} {v : Int32} : mj_E 1001 51 (a0 :: a1 :: a2 :: a3 :: a4 :: a5 :: a6 :: a7 :: a8 :: ls) (.int v :: st) σ τ = mj_E 1001 53 (a0 :: a1 :: a2 :: a3 :: a4 :: a5 :: a6 :: a7 :: some (.int v) :: ls) st σ τ := mj_nx i1001_51 rfl
theorem i1001_53 : mj_ins 1001 53 = some (.iload 6, 55) := by decide +kernel
theorem e1001_53 {ls : mj_L} {st : List Value} {σ : mj_S} {τ : mj_T} {a0 a1 a2 a3 a4 a5 : Option Value} {v : Int32} : mj_E 1001 53 (a0 :: a1 :: a2 :: a3 :: a4 :: a5 :: some (.int v) :: ls) st σ τ = mj_E 1001 55 (a0 :: a1 :: a2 :: a3 :: a4 :: a5 :: some (.int v) :: ls) (.int v :: st) σ τ := mj_nx i1001_53 rfl
theorem i1001_55 : mj_ins 1001 55 = some (.lookupswitch (238) #[(10, 89), (11, 96), (12, 111), (20, 142), (30, 158), (40, 171), (50, 184), (51, 196), (60, 212), (70, 225)], 55) := by decide +kernel
theorem e1001_55 {ls : mj_L} {st : List Value} {σ : mj_S} {τ : mj_T} {x : Int32} : mj_E 1001 55 ls (.int x :: st) σ τ = if x = nI 10 then mj_E 1001 144 ls st σ τ else if x = nI 11 then mj_E 1001 151 ls st σ τ else if x = nI 12 then mj_E 1001 166 ls st σ τ else if x = nI 20 then mj_E 1001 197 ls st σ τ else if x = nI 30 then mj_E 1001 213 ls st σ τ else if x = nI 40 then mj_E 1001 226 ls st σ τ else if x = nI 50 then mj_E 1001 239 ls st σ τ else if x = nI 51 then mj_E 1001 251 ls st σ τ else if x = nI 60 then mj_E 1001 267 ls st σ τ else if x = nI 70 then mj_E 1001 280 ls st σ τ else mj_E 1001 293 ls st σ τ := mj_lusw i1001_55 rfl
theorem i1001_144 : mj_ins 1001 144 = some (.iload 3, 145) := by decide +kernel
theorem e1001_144 {ls : mj_L} {st : List Value} {σ : mj_S} {τ : mj_T} {a0 a1 a2 : Option Value} {v : Int32} : mj_E 1001 144 (a0 :: a1 :: a2 :: some (.int v) :: ls) st σ τ = mj_E 1001 145 (a0 :: a1 :: a2 :: some (.int v) :: ls) (.int v :: st) σ τ := mj_nx i1001_144 rfl
theorem i1001_145 : mj_ins 1001 145 = some (.aload 0, 146) := by decide +kernel
theorem e1001_145 {ls : mj_L} {st : List Value} {σ : mj_S} {τ : mj_T} {v : Nat} : mj_E 1001 145 (some (.ref v) :: ls) st σ τ = mj_E 1001 146 (some (.ref v) :: ls) (.ref v :: st) σ τ := mj_nx i1001_145 rfl
theorem i1001_146 : mj_ins 1001 146 = some (.getfield 503, 149) := by decide +kernel
theorem e1001_146 {ls : mj_L} {st : List Value} {σ : mj_S} {τ : mj_T} : mj_E 1001 146 ls (.ref 59 :: st) σ τ = mj_E 1001 149 ls (.int (σ 59 3) :: st) σ τ := mj_nx i1001_146 rfl
theorem i1001_149 : mj_ins 1001 149 = some (.iadd, 150) := by decide +kernel
theorem e1001_149 {ls : mj_L} {st : List Value} {σ : mj_S} {τ : mj_T} {x y : Int32} : mj_E 1001 149 ls (.int y :: .int x :: st) σ τ = mj_E 1001 150 ls (.int (x + y) :: st) σ τ := mj_nx i1001_149 rfl
theorem i1001_150 : mj_ins 1001 150 = some (.ireturn, 151) := by decide +kernel
theorem e1001_150 {ls : mj_L} {σ : mj_S} {τ : mj_T} {v : Int32} : mj_E 1001 150 ls [.int v] σ τ = some (some (.int v), σ, τ) := mj_irt i1001_150 rfl
theorem i1001_151 : mj_ins 1001 151 = some (.aload 0, 152) := by decide +kernel
theorem e1001_151 {ls : mj_L} {st : List Value} {σ : mj_S} {τ : mj_T} {v : Nat} : mj_E 1001 151 (some (.ref v) :: ls) st σ τ = mj_E 1001 152 (some (.ref v) :: ls) (.ref v :: st) σ τ := mj_nx i1001_151 rfl
theorem i1001_152 : mj_ins 1001 152 = some (.iconst (0), 153) := by decide +kernel
theorem e1001_152 {ls : mj_L} {st : List Value} {σ : mj_S} {τ : mj_T} : mj_E 1001 152 ls st σ τ = mj_E 1001 153 ls (.int (nI 0) :: st) σ τ := mj_nx i1001_152 rfl
theorem i1001_153 : mj_ins 1001 153 = some (.aload 0, 154) := by decide +kernel
theorem e1001_153 {ls : mj_L} {st : List Value} {σ : mj_S} {τ : mj_T} {v : Nat} : mj_E 1001 153 (some (.ref v) :: ls) st σ τ = mj_E 1001 154 (some (.ref v) :: ls) (.ref v :: st) σ τ := mj_nx i1001_153 rfl
theorem i1001_154 : mj_ins 1001 154 = some (.getfield 502, 157) := by decide +kernel
theorem e1001_154 {ls : mj_L} {st : List Value} {σ : mj_S} {τ : mj_T} : mj_E 1001 154 ls (.ref 59 :: st) σ τ = mj_E 1001 157 ls (.int (σ 59 2) :: st) σ τ := mj_nx i1001_154 rfl
theorem i1001_157 : mj_ins 1001 157 = some (.iload 3, 158) := by decide +kernel
theorem e1001_157 {ls : mj_L} {st : List Value} {σ : mj_S} {τ : mj_T} {a0 a1 a2 : Option Value} {v : Int32} : mj_E 1001 157 (a0 :: a1 :: a2 :: some (.int v) :: ls) st σ τ = mj_E 1001 158 (a0 :: a1 :: a2 :: some (.int v) :: ls) (.int v :: st) σ τ := mj_nx i1001_157 rfl
theorem i1001_158 : mj_ins 1001 158 = some (.iload 8, 160) := by decide +kernel
theorem e1001_158 {ls : mj_L} {st : List Value} {σ : mj_S} {τ : mj_T} {a0 a1 a2 a3 a4 a5 a6 a7 : Option Value} {v : Int32} : mj_E 1001 158 (a0 :: a1 :: a2 :: a3 :: a4 :: a5 :: a6 :: a7 :: some (.int v) :: ls) st σ τ = mj_E 1001 160 (a0 :: a1 :: a2 :: a3 :: a4 :: a5 :: a6 :: a7 :: some (.int v) :: ls) (.int v :: st) σ τ := mj_nx i1001_158 rfl
theorem i1001_160 : mj_ins 1001 160 = some (.invokestatic 1002, 163) := by decide +kernel
theorem e1001_160 {ls : mj_L} {σ : mj_S} {τ : mj_T} {x0 : Nat} {x1 : Int32} {x2 : Int32} {x3 : Int32} {x4 : Int32} : mj_E 1001 160 ls [.int x4, .int x3, .int x2, .int x1, .ref x0] σ τ = mj_bd (mj_C 1002 [.ref x0, .int x1, .int x2, .int x3, .int x4] σ τ) (mj_K 1001 163 ls []) := mj_clS (as := [.ref x0, .int x1, .int x2, .int x3, .int x4]) (r := []) i1001_160 (by decide +kernel : mj_vk 1001 1002 5 0 5 false = true) rfl
theorem i1001_163 : mj_ins 1001 163 = some (.iconst (2), 164) := by decide +kernel
theorem e1001_163 {ls : mj_L} {st : List Value} {σ : mj_S} {τ : mj_T} : mj_E 1001 163 ls st σ τ = mj_E 1001 164 ls (.int (nI 2) :: st) σ τ := mj_nx i1001_163 rfl
theorem i1001_164 : mj_ins 1001 164 = some (.imul, 165) := by decide +kernel
theorem e1001_164 {ls : mj_L} {st : List Value} {σ : mj_S} {τ : mj_T} {x y : Int32} : mj_E 1001 164 ls (.int y :: .int x :: st) σ τ = mj_E 1001 165 ls (.int (x * y) :: st) σ τ := mj_nx i1001_164 rfl
theorem i1001_165 : mj_ins 1001 165 = some (.ireturn, 166) := by decide +kernel
theorem e1001_165 {ls : mj_L} {σ : mj_S} {τ : mj_T} {v : Int32} : mj_E 1001 165 ls [.int v] σ τ = some (some (.int v), σ, τ) := mj_irt i1001_165 rfl
theorem i1001_166 : mj_ins 1001 166 = some (.aload 0, 167) := by decide +kernel
theorem e1001_166 {ls : mj_L} {st : List Value} {σ : mj_S} {τ : mj_T} {v : Nat} : mj_E 1001 166 (some (.ref v) :: ls) st σ τ = mj_E 1001 167 (some (.ref v) :: ls) (.ref v :: st) σ τ := mj_nx i1001_166 rfl
theorem i1001_167 : mj_ins 1001 167 = some (.iconst (1), 168) := by decide +kernel
theorem e1001_167 {ls : mj_L} {st : List Value} {σ : mj_S} {τ : mj_T} : mj_E 1001 167 ls st σ τ = mj_E 1001 168 ls (.int (nI 1) :: st) σ τ := mj_nx i1001_167 rfl
theorem i1001_168 : mj_ins 1001 168 = some (.aload 0, 169) := by decide +kernel
theorem e1001_168 {ls : mj_L} {st : List Value} {σ : mj_S} {τ : mj_T} {v : Nat} : mj_E 1001 168 (some (.ref v) :: ls) st σ τ = mj_E 1001 169 (some (.ref v) :: ls) (.ref v :: st) σ τ := mj_nx i1001_168 rfl
theorem i1001_169 : mj_ins 1001 169 = some (.getfield 502, 172) := by decide +kernel
theorem e1001_169 {ls : mj_L} {st : List Value} {σ : mj_S} {τ : mj_T} : mj_E 1001 169 ls (.ref 59 :: st) σ τ = mj_E 1001 172 ls (.int (σ 59 2) :: st) σ τ := mj_nx i1001_169 rfl
theorem i1001_172 : mj_ins 1001 172 = some (.iload 3, 173) := by decide +kernel
theorem e1001_172 {ls : mj_L} {st : List Value} {σ : mj_S} {τ : mj_T} {a0 a1 a2 : Option Value} {v : Int32} : mj_E 1001 172 (a0 :: a1 :: a2 :: some (.int v) :: ls) st σ τ = mj_E 1001 173 (a0 :: a1 :: a2 :: some (.int v) :: ls) (.int v :: st) σ τ := mj_nx i1001_172 rfl
theorem i1001_173 : mj_ins 1001 173 = some (.iload 8, 175) := by decide +kernel
theorem e1001_173 {ls : mj_L} {st : List Value} {σ : mj_S} {τ : mj_T} {a0 a1 a2 a3 a4 a5 a6 a7 : Option Value} {v : Int32} : mj_E 1001 173 (a0 :: a1 :: a2 :: a3 :: a4 :: a5 :: a6 :: a7 :: some (.int v) :: ls) st σ τ = mj_E 1001 175 (a0 :: a1 :: a2 :: a3 :: a4 :: a5 :: a6 :: a7 :: some (.int v) :: ls) (.int v :: st) σ τ := mj_nx i1001_173 rfl
theorem i1001_175 : mj_ins 1001 175 = some (.invokestatic 1002, 178) := by decide +kernel
theorem e1001_175 {ls : mj_L} {σ : mj_S} {τ : mj_T} {x0 : Nat} {x1 : Int32} {x2 : Int32} {x3 : Int32} {x4 : Int32} : mj_E 1001 175 ls [.int x4, .int x3, .int x2, .int x1, .ref x0] σ τ = mj_bd (mj_C 1002 [.ref x0, .int x1, .int x2, .int x3, .int x4] σ τ) (mj_K 1001 178 ls []) := mj_clS (as := [.ref x0, .int x1, .int x2, .int x3, .int x4]) (r := []) i1001_175 (by decide +kernel : mj_vk 1001 1002 5 0 5 false = true) rfl
theorem i1001_178 : mj_ins 1001 178 = some (.aload 0, 179) := by decide +kernel
theorem e1001_178 {ls : mj_L} {st : List Value} {σ : mj_S} {τ : mj_T} {v : Nat} : mj_E 1001 178 (some (.ref v) :: ls) st σ τ = mj_E 1001 179 (some (.ref v) :: ls) (.ref v :: st) σ τ := mj_nx i1001_178 rfl
theorem i1001_179 : mj_ins 1001 179 = some (.iconst (0), 180) := by decide +kernel
theorem e1001_179 {ls : mj_L} {st : List Value} {σ : mj_S} {τ : mj_T} : mj_E 1001 179 ls st σ τ = mj_E 1001 180 ls (.int (nI 0) :: st) σ τ := mj_nx i1001_179 rfl
theorem i1001_180 : mj_ins 1001 180 = some (.aload 0, 181) := by decide +kernel
theorem e1001_180 {ls : mj_L} {st : List Value} {σ : mj_S} {τ : mj_T} {v : Nat} : mj_E 1001 180 (some (.ref v) :: ls) st σ τ = mj_E 1001 181 (some (.ref v) :: ls) (.ref v :: st) σ τ := mj_nx i1001_180 rfl
theorem i1001_181 : mj_ins 1001 181 = some (.getfield 502, 184) := by decide +kernel
theorem e1001_181 {ls : mj_L} {st : List Value} {σ : mj_S} {τ : mj_T} : mj_E 1001 181 ls (.ref 59 :: st) σ τ = mj_E 1001 184 ls (.int (σ 59 2) :: st) σ τ := mj_nx i1001_181 rfl
theorem i1001_184 : mj_ins 1001 184 = some (.iload 3, 185) := by decide +kernel
theorem e1001_184 {ls : mj_L} {st : List Value} {σ : mj_S} {τ : mj_T} {a0 a1 a2 : Option Value} {v : Int32} : mj_E 1001 184 (a0 :: a1 :: a2 :: some (.int v) :: ls) st σ τ = mj_E 1001 185 (a0 :: a1 :: a2 :: some (.int v) :: ls) (.int v :: st) σ τ := mj_nx i1001_184 rfl
theorem i1001_185 : mj_ins 1001 185 = some (.aload 0, 186) := by decide +kernel
theorem e1001_185 {ls : mj_L} {st : List Value} {σ : mj_S} {τ : mj_T} {v : Nat} : mj_E 1001 185 (some (.ref v) :: ls) st σ τ = mj_E 1001 186 (some (.ref v) :: ls) (.ref v :: st) σ τ := mj_nx i1001_185 rfl
theorem i1001_186 : mj_ins 1001 186 = some (.getfield 504, 189) := by decide +kernel
theorem e1001_186 {ls : mj_L} {st : List Value} {σ : mj_S} {τ : mj_T} : mj_E 1001 186 ls (.ref 59 :: st) σ τ = mj_E 1001 189 ls (.int (σ 59 4) :: st) σ τ := mj_nx i1001_186 rfl
theorem i1001_189 : mj_ins 1001 189 = some (.isub, 190) := by decide +kernel
theorem e1001_189 {ls : mj_L} {st : List Value} {σ : mj_S} {τ : mj_T} {x y : Int32} : mj_E 1001 189 ls (.int y :: .int x :: st) σ τ = mj_E 1001 190 ls (.int (x - y) :: st) σ τ := mj_nx i1001_189 rfl
theorem i1001_190 : mj_ins 1001 190 = some (.iload 8, 192) := by decide +kernel
theorem e1001_190 {ls : mj_L} {st : List Value} {σ : mj_S} {τ : mj_T} {a0 a1 a2 a3 a4 a5 a6 a7 : Option Value} {v : Int32} : mj_E 1001 190 (a0 :: a1 :: a2 :: a3 :: a4 :: a5 :: a6 :: a7 :: some (.int v) :: ls) st σ τ = mj_E 1001 192 (a0 :: a1 :: a2 :: a3 :: a4 :: a5 :: a6 :: a7 :: some (.int v) :: ls) (.int v :: st) σ τ := mj_nx i1001_190 rfl
theorem i1001_192 : mj_ins 1001 192 = some (.invokestatic 1002, 195) := by decide +kernel
theorem e1001_192 {ls : mj_L} {σ : mj_S} {τ : mj_T} {x0 : Nat} {x1 : Int32} {x2 : Int32} {x3 : Int32} {x4 : Int32} {w0 : Value} : mj_E 1001 192 ls [.int x4, .int x3, .int x2, .int x1, .ref x0, w0] σ τ = mj_bd (mj_C 1002 [.ref x0, .int x1, .int x2, .int x3, .int x4] σ τ) (mj_K 1001 195 ls [w0]) := mj_clS (as := [.ref x0, .int x1, .int x2, .int x3, .int x4]) (r := [w0]) i1001_192 (by decide +kernel : mj_vk 1001 1002 5 1 5 false = true) rfl
theorem i1001_195 : mj_ins 1001 195 = some (.ixor, 196) := by decide +kernel
theorem e1001_195 {ls : mj_L} {st : List Value} {σ : mj_S} {τ : mj_T} {x y : Int32} : mj_E 1001 195 ls (.int y :: .int x :: st) σ τ = mj_E 1001 196 ls (.int (x ^^^ y) :: st) σ τ := mj_nx i1001_195 rfl
theorem i1001_196 : mj_ins 1001 196 = some (.ireturn, 197) := by decide +kernel
theorem e1001_196 {ls : mj_L} {σ : mj_S} {τ : mj_T} {v : Int32} : mj_E 1001 196 ls [.int v] σ τ = some (some (.int v), σ, τ) := mj_irt i1001_196 rfl
theorem i1001_197 : mj_ins 1001 197 = some (.aload 0, 198) := by decide +kernel
theorem e1001_197 {ls : mj_L} {st : List Value} {σ : mj_S} {τ : mj_T} {v : Nat} : mj_E 1001 197 (some (.ref v) :: ls) st σ τ = mj_E 1001 198 (some (.ref v) :: ls) (.ref v :: st) σ τ := mj_nx i1001_197 rfl
theorem i1001_198 : mj_ins 1001 198 = some (.iconst (0), 199) := by decide +kernel
theorem e1001_198 {ls : mj_L} {st : List Value} {σ : mj_S} {τ : mj_T} : mj_E 1001 198 ls st σ τ = mj_E 1001 199 ls (.int (nI 0) :: st) σ τ := mj_nx i1001_198 rfl
theorem i1001_199 : mj_ins 1001 199 = some (.iload 7, 201) := by decide +kernel
theorem e1001_199 {ls : mj_L} {st : List Value} {σ : mj_S} {τ : mj_T} {a0 a1 a2 a3 a4 a5 a6 : Option Value} {v : Int32} : mj_E 1001 199 (a0 :: a1 :: a2 :: a3 :: a4 :: a5 :: a6 :: some (.int v) :: ls) st σ τ = mj_E 1001 201 (a0 :: a1 :: a2 :: a3 :: a4 :: a5 :: a6 :: some (.int v) :: ls) (.int v :: st) σ τ := mj_nx i1001_199 rfl
theorem i1001_201 : mj_ins 1001 201 = some (.iload 3, 202) := by decide +kernel
theorem e1001_201 {ls : mj_L} {st : List Value} {σ : mj_S} {τ : mj_T} {a0 a1 a2 : Option Value} {v : Int32} : mj_E 1001 201 (a0 :: a1 :: a2 :: some (.int v) :: ls) st σ τ = mj_E 1001 202 (a0 :: a1 :: a2 :: some (.int v) :: ls) (.int v :: st) σ τ := mj_nx i1001_201 rfl
theorem i1001_202 : mj_ins 1001 202 = some (.iload 8, 204) := by decide +kernel
theorem e1001_202 {ls : mj_L} {st : List Value} {σ : mj_S} {τ : mj_T} {a0 a1 a2 a3 a4 a5 a6 a7 : Option Value} {v : Int32} : mj_E 1001 202 (a0 :: a1 :: a2 :: a3 :: a4 :: a5 :: a6 :: a7 :: some (.int v) :: ls) st σ τ = mj_E 1001 204 (a0 :: a1 :: a2 :: a3 :: a4 :: a5 :: a6 :: a7 :: some (.int v) :: ls) (.int v :: st) σ τ := mj_nx i1001_202 rfl
theorem i1001_204 : mj_ins 1001 204 = some (.invokestatic 1002, 207) := by decide +kernel
theorem e1001_204 {ls : mj_L} {σ : mj_S} {τ : mj_T} {x0 : Nat} {x1 : Int32} {x2 : Int32} {x3 : Int32} {x4 : Int32} : mj_E 1001 204 ls [.int x4, .int x3, .int x2, .int x1, .ref x0] σ τ = mj_bd (mj_C 1002 [.ref x0, .int x1, .int x2, .int x3, .int x4] σ τ) (mj_K 1001 207 ls []) := mj_clS (as := [.ref x0, .int x1, .int x2, .int x3, .int x4]) (r := []) i1001_204 (by decide +kernel : mj_vk 1001 1002 5 0 5 false = true) rfl
theorem i1001_207 : mj_ins 1001 207 = some (.aload 0, 208) := by decide +kernel
theorem e1001_207 {ls : mj_L} {st : List Value} {σ : mj_S} {τ : mj_T} {v : Nat} : mj_E 1001 207 (some (.ref v) :: ls) st σ τ = mj_E 1001 208 (some (.ref v) :: ls) (.ref v :: st) σ τ := mj_nx i1001_207 rfl
theorem i1001_208 : mj_ins 1001 208 = some (.getfield 504, 211) := by decide +kernel
theorem e1001_208 {ls : mj_L} {st : List Value} {σ : mj_S} {τ : mj_T} : mj_E 1001 208 ls (.ref 59 :: st) σ τ = mj_E 1001 211 ls (.int (σ 59 4) :: st) σ τ := mj_nx i1001_208 rfl
theorem i1001_211 : mj_ins 1001 211 = some (.iadd, 212) := by decide +kernel
theorem e1001_211 {ls : mj_L} {st : List Value} {σ : mj_S} {τ : mj_T} {x y : Int32} : mj_E 1001 211 ls (.int y :: .int x :: st) σ τ = mj_E 1001 212 ls (.int (x + y) :: st) σ τ := mj_nx i1001_211 rfl
theorem i1001_212 : mj_ins 1001 212 = some (.ireturn, 213) := by decide +kernel
theorem e1001_212 {ls : mj_L} {σ : mj_S} {τ : mj_T} {v : Int32} : mj_E 1001 212 ls [.int v] σ τ = some (some (.int v), σ, τ) := mj_irt i1001_212 rfl
theorem i1001_213 : mj_ins 1001 213 = some (.aload 0, 214) := by decide +kernel
theorem e1001_213 {ls : mj_L} {st : List Value} {σ : mj_S} {τ : mj_T} {v : Nat} : mj_E 1001 213 (some (.ref v) :: ls) st σ τ = mj_E 1001 214 (some (.ref v) :: ls) (.ref v :: st) σ τ := mj_nx i1001_213 rfl
theorem i1001_214 : mj_ins 1001 214 = some (.iconst (1), 215) := by decide +kernel
theorem e1001_214 {ls : mj_L} {st : List Value} {σ : mj_S} {τ : mj_T} : mj_E 1001 214 ls st σ τ = mj_E 1001 215 ls (.int (nI 1) :: st) σ τ := mj_nx i1001_214 rfl
theorem i1001_215 : mj_ins 1001 215 = some (.iload 7, 217) := by decide +kernel
theorem e1001_215 {ls : mj_L} {st : List Value} {σ : mj_S} {τ : mj_T} {a0 a1 a2 a3 a4 a5 a6 : Option Value} {v : Int32} : mj_E 1001 215 (a0 :: a1 :: a2 :: a3 :: a4 :: a5 :: a6 :: some (.int v) :: ls) st σ τ = mj_E 1001 217 (a0 :: a1 :: a2 :: a3 :: a4 :: a5 :: a6 :: some (.int v) :: ls) (.int v :: st) σ τ := mj_nx i1001_215 rfl
theorem i1001_217 : mj_ins 1001 217 = some (.iload 3, 218) := by decide +kernel
theorem e1001_217 {ls : mj_L} {st : List Value} {σ : mj_S} {τ : mj_T} {a0 a1 a2 : Option Value} {v : Int32} : mj_E 1001 217 (a0 :: a1 :: a2 :: some (.int v) :: ls) st σ τ = mj_E 1001 218 (a0 :: a1 :: a2 :: some (.int v) :: ls) (.int v :: st) σ τ := mj_nx i1001_217 rfl
theorem i1001_218 : mj_ins 1001 218 = some (.iload 8, 220) := by decide +kernel
theorem e1001_218 {ls : mj_L} {st : List Value} {σ : mj_S} {τ : mj_T} {a0 a1 a2 a3 a4 a5 a6 a7 : Option Value} {v : Int32} : mj_E 1001 218 (a0 :: a1 :: a2 :: a3 :: a4 :: a5 :: a6 :: a7 :: some (.int v) :: ls) st σ τ = mj_E 1001 220 (a0 :: a1 :: a2 :: a3 :: a4 :: a5 :: a6 :: a7 :: some (.int v) :: ls) (.int v :: st) σ τ := mj_nx i1001_218 rfl
theorem i1001_220 : mj_ins 1001 220 = some (.invokestatic 1002, 223) := by decide +kernel
theorem e1001_220 {ls : mj_L} {σ : mj_S} {τ : mj_T} {x0 : Nat} {x1 : Int32} {x2 : Int32} {x3 : Int32} {x4 : Int32} : mj_E 1001 220 ls [.int x4, .int x3, .int x2, .int x1, .ref x0] σ τ = mj_bd (mj_C 1002 [.ref x0, .int x1, .int x2, .int x3, .int x4] σ τ) (mj_K 1001 223 ls []) := mj_clS (as := [.ref x0, .int x1, .int x2, .int x3, .int x4]) (r := []) i1001_220 (by decide +kernel : mj_vk 1001 1002 5 0 5 false = true) rfl
theorem i1001_223 : mj_ins 1001 223 = some (.iconst (3), 224) := by decide +kernel
theorem e1001_223 {ls : mj_L} {st : List Value} {σ : mj_S} {τ : mj_T} : mj_E 1001 223 ls st σ τ = mj_E 1001 224 ls (.int (nI 3) :: st) σ τ := mj_nx i1001_223 rfl
theorem i1001_224 : mj_ins 1001 224 = some (.imul, 225) := by decide +kernel
theorem e1001_224 {ls : mj_L} {st : List Value} {σ : mj_S} {τ : mj_T} {x y : Int32} : mj_E 1001 224 ls (.int y :: .int x :: st) σ τ = mj_E 1001 225 ls (.int (x * y) :: st) σ τ := mj_nx i1001_224 rfl
theorem i1001_225 : mj_ins 1001 225 = some (.ireturn, 226) := by decide +kernel
theorem e1001_225 {ls : mj_L} {σ : mj_S} {τ : mj_T} {v : Int32} : mj_E 1001 225 ls [.int v] σ τ = some (some (.int v), σ, τ) := mj_irt i1001_225 rfl
theorem i1001_226 : mj_ins 1001 226 = some (.aload 0, 227) := by decide +kernel
theorem e1001_226 {ls : mj_L} {st : List Value} {σ : mj_S} {τ : mj_T} {v : Nat} : mj_E 1001 226 (some (.ref v) :: ls) st σ τ = mj_E 1001 227 (some (.ref v) :: ls) (.ref v :: st) σ τ := mj_nx i1001_226 rfl
theorem i1001_227 : mj_ins 1001 227 = some (.iconst (1), 228) := by decide +kernel
theorem e1001_227 {ls : mj_L} {st : List Value} {σ : mj_S} {τ : mj_T} : mj_E 1001 227 ls st σ τ = mj_E 1001 228 ls (.int (nI 1) :: st) σ τ := mj_nx i1001_227 rfl
theorem i1001_228 : mj_ins 1001 228 = some (.iload 7, 230) := by decide +kernel
theorem e1001_228 {ls : mj_L} {st : List Value} {σ : mj_S} {τ : mj_T} {a0 a1 a2 a3 a4 a5 a6 : Option Value} {v : Int32} : mj_E 1001 228 (a0 :: a1 :: a2 :: a3 :: a4 :: a5 :: a6 :: some (.int v) :: ls) st σ τ = mj_E 1001 230 (a0 :: a1 :: a2 :: a3 :: a4 :: a5 :: a6 :: some (.int v) :: ls) (.int v :: st) σ τ := mj_nx i1001_228 rfl
theorem i1001_230 : mj_ins 1001 230 = some (.iload 3, 231) := by decide +kernel
theorem e1001_230 {ls : mj_L} {st : List Value} {σ : mj_S} {τ : mj_T} {a0 a1 a2 : Option Value} {v : Int32} : mj_E 1001 230 (a0 :: a1 :: a2 :: some (.int v) :: ls) st σ τ = mj_E 1001 231 (a0 :: a1 :: a2 :: some (.int v) :: ls) (.int v :: st) σ τ := mj_nx i1001_230 rfl
theorem i1001_231 : mj_ins 1001 231 = some (.iconst (1), 232) := by decide +kernel
theorem e1001_231 {ls : mj_L} {st : List Value} {σ : mj_S} {τ : mj_T} : mj_E 1001 231 ls st σ τ = mj_E 1001 232 ls (.int (nI 1) :: st) σ τ := mj_nx i1001_231 rfl
theorem i1001_232 : mj_ins 1001 232 = some (.iadd, 233) := by decide +kernel
theorem e1001_232 {ls : mj_L} {st : List Value} {σ : mj_S} {τ : mj_T} {x y : Int32} : mj_E 1001 232 ls (.int y :: .int x :: st) σ τ = mj_E 1001 233 ls (.int (x + y) :: st) σ τ := mj_nx i1001_232 rfl
theorem i1001_233 : mj_ins 1001 233 = some (.iload 8, 235) := by decide +kernel
theorem e1001_233 {ls : mj_L} {st : List Value} {σ : mj_S} {τ : mj_T} {a0 a1 a2 a3 a4 a5 a6 a7 : Option Value} {v : Int32} : mj_E 1001 233 (a0 :: a1 :: a2 :: a3 :: a4 :: a5 :: a6 :: a7 :: some (.int v) :: ls) st σ τ = mj_E 1001 235 (a0 :: a1 :: a2 :: a3 :: a4 :: a5 :: a6 :: a7 :: some (.int v) :: ls) (.int v :: st) σ τ := mj_nx i1001_233 rfl
theorem i1001_235 : mj_ins 1001 235 = some (.invokestatic 1002, 238) := by decide +kernel
theorem e1001_235 {ls : mj_L} {σ : mj_S} {τ : mj_T} {x0 : Nat} {x1 : Int32} {x2 : Int32} {x3 : Int32} {x4 : Int32} : mj_E 1001 235 ls [.int x4, .int x3, .int x2, .int x1, .ref x0] σ τ = mj_bd (mj_C 1002 [.ref x0, .int x1, .int x2, .int x3, .int x4] σ τ) (mj_K 1001 238 ls []) := mj_clS (as := [.ref x0, .int x1, .int x2, .int x3, .int x4]) (r := []) i1001_235 (by decide +kernel : mj_vk 1001 1002 5 0 5 false = true) rfl
theorem i1001_238 : mj_ins 1001 238 = some (.ireturn, 239) := by decide +kernel
theorem e1001_238 {ls : mj_L} {σ : mj_S} {τ : mj_T} {v : Int32} : mj_E 1001 238 ls [.int v] σ τ = some (some (.int v), σ, τ) := mj_irt i1001_238 rfl
theorem i1001_239 : mj_ins 1001 239 = some (.aload 0, 240) := by decide +kernel
theorem e1001_239 {ls : mj_L} {st : List Value} {σ : mj_S} {τ : mj_T} {v : Nat} : mj_E 1001 239 (some (.ref v) :: ls) st σ τ = mj_E 1001 240 (some (.ref v) :: ls) (.ref v :: st) σ τ := mj_nx i1001_239 rfl
theorem i1001_240 : mj_ins 1001 240 = some (.iconst (2), 241) := by decide +kernel
theorem e1001_240 {ls : mj_L} {st : List Value} {σ : mj_S} {τ : mj_T} : mj_E 1001 240 ls st σ τ = mj_E 1001 241 ls (.int (nI 2) :: st) σ τ := mj_nx i1001_240 rfl
theorem i1001_241 : mj_ins 1001 241 = some (.iload 7, 243) := by decide +kernel
theorem e1001_241 {ls : mj_L} {st : List Value} {σ : mj_S} {τ : mj_T} {a0 a1 a2 a3 a4 a5 a6 : Option Value} {v : Int32} : mj_E 1001 241 (a0 :: a1 :: a2 :: a3 :: a4 :: a5 :: a6 :: some (.int v) :: ls) st σ τ = mj_E 1001 243 (a0 :: a1 :: a2 :: a3 :: a4 :: a5 :: a6 :: some (.int v) :: ls) (.int v :: st) σ τ := mj_nx i1001_241 rfl
theorem i1001_243 : mj_ins 1001 243 = some (.iload 3, 244) := by decide +kernel
theorem e1001_243 {ls : mj_L} {st : List Value} {σ : mj_S} {τ : mj_T} {a0 a1 a2 : Option Value} {v : Int32} : mj_E 1001 243 (a0 :: a1 :: a2 :: some (.int v) :: ls) st σ τ = mj_E 1001 244 (a0 :: a1 :: a2 :: some (.int v) :: ls) (.int v :: st) σ τ := mj_nx i1001_243 rfl
theorem i1001_244 : mj_ins 1001 244 = some (.iload 8, 246) := by decide +kernel
theorem e1001_244 {ls : mj_L} {st : List Value} {σ : mj_S} {τ : mj_T} {a0 a1 a2 a3 a4 a5 a6 a7 : Option Value} {v : Int32} : mj_E 1001 244 (a0 :: a1 :: a2 :: a3 :: a4 :: a5 :: a6 :: a7 :: some (.int v) :: ls) st σ τ = mj_E 1001 246 (a0 :: a1 :: a2 :: a3 :: a4 :: a5 :: a6 :: a7 :: some (.int v) :: ls) (.int v :: st) σ τ := mj_nx i1001_244 rfl
theorem i1001_246 : mj_ins 1001 246 = some (.invokestatic 1002, 249) := by decide +kernel
theorem e1001_246 {ls : mj_L} {σ : mj_S} {τ : mj_T} {x0 : Nat} {x1 : Int32} {x2 : Int32} {x3 : Int32} {x4 : Int32} : mj_E 1001 246 ls [.int x4, .int x3, .int x2, .int x1, .ref x0] σ τ = mj_bd (mj_C 1002 [.ref x0, .int x1, .int x2, .int x3, .int x4] σ τ) (mj_K 1001 249 ls []) := mj_clS (as := [.ref x0, .int x1, .int x2, .int x3, .int x4]) (r := []) i1001_246 (by decide +kernel : mj_vk 1001 1002 5 0 5 false = true) rfl
theorem i1001_249 : mj_ins 1001 249 = some (.ineg, 250) := by decide +kernel
theorem e1001_249 {ls : mj_L} {st : List Value} {σ : mj_S} {τ : mj_T} {x : Int32} : mj_E 1001 249 ls (.int x :: st) σ τ = mj_E 1001 250 ls (.int (-x) :: st) σ τ := mj_nx i1001_249 rfl
theorem i1001_250 : mj_ins 1001 250 = some (.ireturn, 251) := by decide +kernel
theorem e1001_250 {ls : mj_L} {σ : mj_S} {τ : mj_T} {v : Int32} : mj_E 1001 250 ls [.int v] σ τ = some (some (.int v), σ, τ) := mj_irt i1001_250 rfl
theorem i1001_251 : mj_ins 1001 251 = some (.aload 0, 252) := by decide +kernel
theorem e1001_251 {ls : mj_L} {st : List Value} {σ : mj_S} {τ : mj_T} {v : Nat} : mj_E 1001 251 (some (.ref v) :: ls) st σ τ = mj_E 1001 252 (some (.ref v) :: ls) (.ref v :: st) σ τ := mj_nx i1001_251 rfl
theorem i1001_252 : mj_ins 1001 252 = some (.iconst (0), 253) := by decide +kernel
theorem e1001_252 {ls : mj_L} {st : List Value} {σ : mj_S} {τ : mj_T} : mj_E 1001 252 ls st σ τ = mj_E 1001 253 ls (.int (nI 0) :: st) σ τ := mj_nx i1001_252 rfl
theorem i1001_253 : mj_ins 1001 253 = some (.iload 7, 255) := by decide +kernel
theorem e1001_253 {ls : mj_L} {st : List Value} {σ : mj_S} {τ : mj_T} {a0 a1 a2 a3 a4 a5 a6 : Option Value} {v : Int32} : mj_E 1001 253 (a0 :: a1 :: a2 :: a3 :: a4 :: a5 :: a6 :: some (.int v) :: ls) st σ τ = mj_E 1001 255 (a0 :: a1 :: a2 :: a3 :: a4 :: a5 :: a6 :: some (.int v) :: ls) (.int v :: st) σ τ := mj_nx i1001_253 rfl
theorem i1001_255 : mj_ins 1001 255 = some (.iload 3, 256) := by decide +kernel
theorem e1001_255 {ls : mj_L} {st : List Value} {σ : mj_S} {τ : mj_T} {a0 a1 a2 : Option Value} {v : Int32} : mj_E 1001 255 (a0 :: a1 :: a2 :: some (.int v) :: ls) st σ τ = mj_E 1001 256 (a0 :: a1 :: a2 :: some (.int v) :: ls) (.int v :: st) σ τ := mj_nx i1001_255 rfl
theorem i1001_256 : mj_ins 1001 256 = some (.iload 8, 258) := by decide +kernel
theorem e1001_256 {ls : mj_L} {st : List Value} {σ : mj_S} {τ : mj_T} {a0 a1 a2 a3 a4 a5 a6 a7 : Option Value} {v : Int32} : mj_E 1001 256 (a0 :: a1 :: a2 :: a3 :: a4 :: a5 :: a6 :: a7 :: some (.int v) :: ls) st σ τ = mj_E 1001 258 (a0 :: a1 :: a2 :: a3 :: a4 :: a5 :: a6 :: a7 :: some (.int v) :: ls) (.int v :: st) σ τ := mj_nx i1001_256 rfl
theorem i1001_258 : mj_ins 1001 258 = some (.invokestatic 1002, 261) := by decide +kernel
theorem e1001_258 {ls : mj_L} {σ : mj_S} {τ : mj_T} {x0 : Nat} {x1 : Int32} {x2 : Int32} {x3 : Int32} {x4 : Int32} : mj_E 1001 258 ls [.int x4, .int x3, .int x2, .int x1, .ref x0] σ τ = mj_bd (mj_C 1002 [.ref x0, .int x1, .int x2, .int x3, .int x4] σ τ) (mj_K 1001 261 ls []) := mj_clS (as := [.ref x0, .int x1, .int x2, .int x3, .int x4]) (r := []) i1001_258 (by decide +kernel : mj_vk 1001 1002 5 0 5 false = true) rfl
theorem i1001_261 : mj_ins 1001 261 = some (.aload 0, 262) := by decide +kernel
theorem e1001_261 {ls : mj_L} {st : List Value} {σ : mj_S} {τ : mj_T} {v : Nat} : mj_E 1001 261 (some (.ref v) :: ls) st σ τ = mj_E 1001 262 (some (.ref v) :: ls) (.ref v :: st) σ τ := mj_nx i1001_261 rfl
theorem i1001_262 : mj_ins 1001 262 = some (.getfield 503, 265) := by decide +kernel
theorem e1001_262 {ls : mj_L} {st : List Value} {σ : mj_S} {τ : mj_T} : mj_E 1001 262 ls (.ref 59 :: st) σ τ = mj_E 1001 265 ls (.int (σ 59 3) :: st) σ τ := mj_nx i1001_262 rfl
theorem i1001_265 : mj_ins 1001 265 = some (.isub, 266) := by decide +kernel
theorem e1001_265 {ls : mj_L} {st : List Value} {σ : mj_S} {τ : mj_T} {x y : Int32} : mj_E 1001 265 ls (.int y :: .int x :: st) σ τ = mj_E 1001 266 ls (.int (x - y) :: st) σ τ := mj_nx i1001_265 rfl
theorem i1001_266 : mj_ins 1001 266 = some (.ireturn, 267) := by decide +kernel
theorem e1001_266 {ls : mj_L} {σ : mj_S} {τ : mj_T} {v : Int32} : mj_E 1001 266 ls [.int v] σ τ = some (some (.int v), σ, τ) := mj_irt i1001_266 rfl
theorem i1001_267 : mj_ins 1001 267 = some (.aload 0, 268) := by decide +kernel
theorem e1001_267 {ls : mj_L} {st : List Value} {σ : mj_S} {τ : mj_T} {v : Nat} : mj_E 1001 267 (some (.ref v) :: ls) st σ τ = mj_E 1001 268 (some (.ref v) :: ls) (.ref v :: st) σ τ := mj_nx i1001_267 rfl
theorem i1001_268 : mj_ins 1001 268 = some (.iconst (2), 269) := by decide +kernel
theorem e1001_268 {ls : mj_L} {st : List Value} {σ : mj_S} {τ : mj_T} : mj_E 1001 268 ls st σ τ = mj_E 1001 269 ls (.int (nI 2) :: st) σ τ := mj_nx i1001_268 rfl
theorem i1001_269 : mj_ins 1001 269 = some (.iload 7, 271) := by decide +kernel
theorem e1001_269 {ls : mj_L} {st : List Value} {σ : mj_S} {τ : mj_T} {a0 a1 a2 a3 a4 a5 a6 : Option Value} {v : Int32} : mj_E 1001 269 (a0 :: a1 :: a2 :: a3 :: a4 :: a5 :: a6 :: some (.int v) :: ls) st σ τ = mj_E 1001 271 (a0 :: a1 :: a2 :: a3 :: a4 :: a5 :: a6 :: some (.int v) :: ls) (.int v :: st) σ τ := mj_nx i1001_269 rfl
theorem i1001_271 : mj_ins 1001 271 = some (.iload 3, 272) := by decide +kernel
theorem e1001_271 {ls : mj_L} {st : List Value} {σ : mj_S} {τ : mj_T} {a0 a1 a2 : Option Value} {v : Int32} : mj_E 1001 271 (a0 :: a1 :: a2 :: some (.int v) :: ls) st σ τ = mj_E 1001 272 (a0 :: a1 :: a2 :: some (.int v) :: ls) (.int v :: st) σ τ := mj_nx i1001_271 rfl
theorem i1001_272 : mj_ins 1001 272 = some (.iload 8, 274) := by decide +kernel
theorem e1001_272 {ls : mj_L} {st : List Value} {σ : mj_S} {τ : mj_T} {a0 a1 a2 a3 a4 a5 a6 a7 : Option Value} {v : Int32} : mj_E 1001 272 (a0 :: a1 :: a2 :: a3 :: a4 :: a5 :: a6 :: a7 :: some (.int v) :: ls) st σ τ = mj_E 1001 274 (a0 :: a1 :: a2 :: a3 :: a4 :: a5 :: a6 :: a7 :: some (.int v) :: ls) (.int v :: st) σ τ := mj_nx i1001_272 rfl
theorem i1001_274 : mj_ins 1001 274 = some (.invokestatic 1002, 277) := by decide +kernel
theorem e1001_274 {ls : mj_L} {σ : mj_S} {τ : mj_T} {x0 : Nat} {x1 : Int32} {x2 : Int32} {x3 : Int32} {x4 : Int32} : mj_E 1001 274 ls [.int x4, .int x3, .int x2, .int x1, .ref x0] σ τ = mj_bd (mj_C 1002 [.ref x0, .int x1, .int x2, .int x3, .int x4] σ τ) (mj_K 1001 277 ls []) := mj_clS (as := [.ref x0, .int x1, .int x2, .int x3, .int x4]) (r := []) i1001_274 (by decide +kernel : mj_vk 1001 1002 5 0 5 false = true) rfl
theorem i1001_277 : mj_ins 1001 277 = some (.iconst (5), 278) := by decide +kernel
theorem e1001_277 {ls : mj_L} {st : List Value} {σ : mj_S} {τ : mj_T} : mj_E 1001 277 ls st σ τ = mj_E 1001 278 ls (.int (nI 5) :: st) σ τ := mj_nx i1001_277 rfl
theorem i1001_278 : mj_ins 1001 278 = some (.ixor, 279) := by decide +kernel
theorem e1001_278 {ls : mj_L} {st : List Value} {σ : mj_S} {τ : mj_T} {x y : Int32} : mj_E 1001 278 ls (.int y :: .int x :: st) σ τ = mj_E 1001 279 ls (.int (x ^^^ y) :: st) σ τ := mj_nx i1001_278 rfl
theorem i1001_279 : mj_ins 1001 279 = some (.ireturn, 280) := by decide +kernel
theorem e1001_279 {ls : mj_L} {σ : mj_S} {τ : mj_T} {v : Int32} : mj_E 1001 279 ls [.int v] σ τ = some (some (.int v), σ, τ) := mj_irt i1001_279 rfl
theorem i1001_280 : mj_ins 1001 280 = some (.aload 0, 281) := by decide +kernel
theorem e1001_280 {ls : mj_L} {st : List Value} {σ : mj_S} {τ : mj_T} {v : Nat} : mj_E 1001 280 (some (.ref v) :: ls) st σ τ = mj_E 1001 281 (some (.ref v) :: ls) (.ref v :: st) σ τ := mj_nx i1001_280 rfl
theorem i1001_281 : mj_ins 1001 281 = some (.iconst (0), 282) := by decide +kernel
theorem e1001_281 {ls : mj_L} {st : List Value} {σ : mj_S} {τ : mj_T} : mj_E 1001 281 ls st σ τ = mj_E 1001 282 ls (.int (nI 0) :: st) σ τ := mj_nx i1001_281 rfl
theorem i1001_282 : mj_ins 1001 282 = some (.iload 7, 284) := by decide +kernel
theorem e1001_282 {ls : mj_L} {st : List Value} {σ : mj_S} {τ : mj_T} {a0 a1 a2 a3 a4 a5 a6 : Option Value} {v : Int32} : mj_E 1001 282 (a0 :: a1 :: a2 :: a3 :: a4 :: a5 :: a6 :: some (.int v) :: ls) st σ τ = mj_E 1001 284 (a0 :: a1 :: a2 :: a3 :: a4 :: a5 :: a6 :: some (.int v) :: ls) (.int v :: st) σ τ := mj_nx i1001_282 rfl
theorem i1001_284 : mj_ins 1001 284 = some (.iload 3, 285) := by decide +kernel
theorem e1001_284 {ls : mj_L} {st : List Value} {σ : mj_S} {τ : mj_T} {a0 a1 a2 : Option Value} {v : Int32} : mj_E 1001 284 (a0 :: a1 :: a2 :: some (.int v) :: ls) st σ τ = mj_E 1001 285 (a0 :: a1 :: a2 :: some (.int v) :: ls) (.int v :: st) σ τ := mj_nx i1001_284 rfl
theorem i1001_285 : mj_ins 1001 285 = some (.iload 8, 287) := by decide +kernel
theorem e1001_285 {ls : mj_L} {st : List Value} {σ : mj_S} {τ : mj_T} {a0 a1 a2 a3 a4 a5 a6 a7 : Option Value} {v : Int32} : mj_E 1001 285 (a0 :: a1 :: a2 :: a3 :: a4 :: a5 :: a6 :: a7 :: some (.int v) :: ls) st σ τ = mj_E 1001 287 (a0 :: a1 :: a2 :: a3 :: a4 :: a5 :: a6 :: a7 :: some (.int v) :: ls) (.int v :: st) σ τ := mj_nx i1001_285 rfl
theorem i1001_287 : mj_ins 1001 287 = some (.invokestatic 1002, 290) := by decide +kernel
theorem e1001_287 {ls : mj_L} {σ : mj_S} {τ : mj_T} {x0 : Nat} {x1 : Int32} {x2 : Int32} {x3 : Int32} {x4 : Int32} : mj_E 1001 287 ls [.int x4, .int x3, .int x2, .int x1, .ref x0] σ τ = mj_bd (mj_C 1002 [.ref x0, .int x1, .int x2, .int x3, .int x4] σ τ) (mj_K 1001 290 ls []) := mj_clS (as := [.ref x0, .int x1, .int x2, .int x3, .int x4]) (r := []) i1001_287 (by decide +kernel : mj_vk 1001 1002 5 0 5 false = true) rfl
theorem i1001_290 : mj_ins 1001 290 = some (.iconst (2), 291) := by decide +kernel
theorem e1001_290 {ls : mj_L} {st : List Value} {σ : mj_S} {τ : mj_T} : mj_E 1001 290 ls st σ τ = mj_E 1001 291 ls (.int (nI 2) :: st) σ τ := mj_nx i1001_290 rfl
theorem i1001_291 : mj_ins 1001 291 = some (.imul, 292) := by decide +kernel
theorem e1001_291 {ls : mj_L} {st : List Value} {σ : mj_S} {τ : mj_T} {x y : Int32} : mj_E 1001 291 ls (.int y :: .int x :: st) σ τ = mj_E 1001 292 ls (.int (x * y) :: st) σ τ := mj_nx i1001_291 rfl
theorem i1001_292 : mj_ins 1001 292 = some (.ireturn, 293) := by decide +kernel
theorem e1001_292 {ls : mj_L} {σ : mj_S} {τ : mj_T} {v : Int32} : mj_E 1001 292 ls [.int v] σ τ = some (some (.int v), σ, τ) := mj_irt i1001_292 rfl
theorem i1001_293 : mj_ins 1001 293 = some (.aload 0, 294) := by decide +kernel
theorem e1001_293 {ls : mj_L} {st : List Value} {σ : mj_S} {τ : mj_T} {v : Nat} : mj_E 1001 293 (some (.ref v) :: ls) st σ τ = mj_E 1001 294 (some (.ref v) :: ls) (.ref v :: st) σ τ := mj_nx i1001_293 rfl
theorem i1001_294 : mj_ins 1001 294 = some (.iconst (1), 295) := by decide +kernel
theorem e1001_294 {ls : mj_L} {st : List Value} {σ : mj_S} {τ : mj_T} : mj_E 1001 294 ls st σ τ = mj_E 1001 295 ls (.int (nI 1) :: st) σ τ := mj_nx i1001_294 rfl
theorem i1001_295 : mj_ins 1001 295 = some (.iload 7, 297) := by decide +kernel
theorem e1001_295 {ls : mj_L} {st : List Value} {σ : mj_S} {τ : mj_T} {a0 a1 a2 a3 a4 a5 a6 : Option Value} {v : Int32} : mj_E 1001 295 (a0 :: a1 :: a2 :: a3 :: a4 :: a5 :: a6 :: some (.int v) :: ls) st σ τ = mj_E 1001 297 (a0 :: a1 :: a2 :: a3 :: a4 :: a5 :: a6 :: some (.int v) :: ls) (.int v :: st) σ τ := mj_nx i1001_295 rfl
theorem i1001_297 : mj_ins 1001 297 = some (.iload 3, 298) := by decide +kernel
theorem e1001_297 {ls : mj_L} {st : List Value} {σ : mj_S} {τ : mj_T} {a0 a1 a2 : Option Value} {v : Int32} : mj_E 1001 297 (a0 :: a1 :: a2 :: some (.int v) :: ls) st σ τ = mj_E 1001 298 (a0 :: a1 :: a2 :: some (.int v) :: ls) (.int v :: st) σ τ := mj_nx i1001_297 rfl
theorem i1001_298 : mj_ins 1001 298 = some (.aload 0, 299) := by decide +kernel
theorem e1001_298 {ls : mj_L} {st : List Value} {σ : mj_S} {τ : mj_T} {v : Nat} : mj_E 1001 298 (some (.ref v) :: ls) st σ τ = mj_E 1001 299 (some (.ref v) :: ls) (.ref v :: st) σ τ := mj_nx i1001_298 rfl
theorem i1001_299 : mj_ins 1001 299 = some (.getfield 504, 302) := by decide +kernel
theorem e1001_299 {ls : mj_L} {st : List Value} {σ : mj_S} {τ : mj_T} : mj_E 1001 299 ls (.ref 59 :: st) σ τ = mj_E 1001 302 ls (.int (σ 59 4) :: st) σ τ := mj_nx i1001_299 rfl
theorem i1001_302 : mj_ins 1001 302 = some (.isub, 303) := by decide +kernel
theorem e1001_302 {ls : mj_L} {st : List Value} {σ : mj_S} {τ : mj_T} {x y : Int32} : mj_E 1001 302 ls (.int y :: .int x :: st) σ τ = mj_E 1001 303 ls (.int (x - y) :: st) σ τ := mj_nx i1001_302 rfl
theorem i1001_303 : mj_ins 1001 303 = some (.iload 8, 305) := by decide +kernel
theorem e1001_303 {ls : mj_L} {st : List Value} {σ : mj_S} {τ : mj_T} {a0 a1 a2 a3 a4 a5 a6 a7 : Option Value} {v : Int32} : mj_E 1001 303 (a0 :: a1 :: a2 :: a3 :: a4 :: a5 :: a6 :: a7 :: some (.int v) :: ls) st σ τ = mj_E 1001 305 (a0 :: a1 :: a2 :: a3 :: a4 :: a5 :: a6 :: a7 :: some (.int v) :: ls) (.int v :: st) σ τ := mj_nx i1001_303 rfl
theorem i1001_305 : mj_ins 1001 305 = some (.invokestatic 1002, 308) := by decide +kernel
theorem e1001_305 {ls : mj_L} {σ : mj_S} {τ : mj_T} {x0 : Nat} {x1 : Int32} {x2 : Int32} {x3 : Int32} {x4 : Int32} : mj_E 1001 305 ls [.int x4, .int x3, .int x2, .int x1, .ref x0] σ τ = mj_bd (mj_C 1002 [.ref x0, .int x1, .int x2, .int x3, .int x4] σ τ) (mj_K 1001 308 ls []) := mj_clS (as := [.ref x0, .int x1, .int x2, .int x3, .int x4]) (r := []) i1001_305 (by decide +kernel : mj_vk 1001 1002 5 0 5 false = true) rfl
theorem i1001_308 : mj_ins 1001 308 = some (.ireturn, 309) := by decide +kernel
theorem e1001_308 {ls : mj_L} {σ : mj_S} {τ : mj_T} {v : Int32} : mj_E 1001 308 ls [.int v] σ τ = some (some (.int v), σ, τ) := mj_irt i1001_308 rfl
theorem c1002 {σ : mj_S} {τ : mj_T} {x0 : Nat} {x1 : Int32} {x2 : Int32} {x3 : Int32} {x4 : Int32} : mj_C 1002 [.ref x0, .int x1, .int x2, .int x3, .int x4] σ τ = mj_E 1002 0 [some (.ref x0), some (.int x1), some (.int x2), some (.int x3), some (.int x4), none, none, none, none] [] σ τ := rfl
theorem i1002_0 : mj_ins 1002 0 = some (.iload 1, 1) := by decide +kernel
theorem e1002_0 {ls : mj_L} {st : List Value} {σ : mj_S} {τ : mj_T} {a0 : Option Value} {v : Int32} : mj_E 1002 0 (a0 :: some (.int v) :: ls) st σ τ = mj_E 1002 1 (a0 :: some (.int v) :: ls) (.int v :: st) σ τ := mj_nx i1002_0 rfl
theorem i1002_1 : mj_ins 1002 1 = some (.iload 2, 2) := by decide +kernel
theorem e1002_1 {ls : mj_L} {st : List Value} {σ : mj_S} {τ : mj_T} {a0 a1 : Option Value} {v : Int32} : mj_E 1002 1 (a0 :: a1 :: some (.int v) :: ls) st σ τ = mj_E 1002 2 (a0 :: a1 :: some (.int v) :: ls) (.int v :: st) σ τ := mj_nx i1002_1 rfl
theorem i1002_2 : mj_ins 1002 2 = some (.invokestatic 71, 5) := by decide +kernel
theorem e1002_2 {ls : mj_L} {σ : mj_S} {τ : mj_T} {x0 : Int32} {x1 : Int32} : mj_E 1002 2 ls [.int x1, .int x0] σ τ = mj_bd (mj_C 71 [.int x0, .int x1] σ τ) (mj_K 1002 5 ls []) := mj_clS (as := [.int x0, .int x1]) (r := []) i1002_2 (by decide +kernel : mj_vk 1002 71 2 0 2 false = true) rfl
theorem i1002_5 : mj_ins 1002 5 = some (.istore 5, 7) := by decide +kernel
theorem e1002_5 {ls : mj_L} {st : List Value} {σ : mj_S} {τ : mj_T} {a0 a1 a2 a3 a4 a5 : Option Value} {v : Int32} : mj_E 1002 5 (a0 :: a1 :: a2 :: a3 :: a4 :: a5 :: ls) (.int v :: st) σ τ = mj_E 1002 7 (a0 :: a1 :: a2 :: a3 :: a4 :: some (.int v) :: ls) st σ τ := mj_nx i1002_5 rfl
theorem i1002_7 : mj_ins 1002 7 = some (.iload 5, 9) := by decide +kernel
theorem e1002_7 {ls : mj_L} {st : List Value} {σ : mj_S} {τ : mj_T} {a0 a1 a2 a3 a4 : Option Value} {v : Int32} : mj_E 1002 7 (a0 :: a1 :: a2 :: a3 :: a4 :: some (.int v) :: ls) st σ τ = mj_E 1002 9 (a0 :: a1 :: a2 :: a3 :: a4 :: some (.int v) :: ls) (.int v :: st) σ τ := mj_nx i1002_7 rfl
theorem i1002_9 : mj_ins 1002 9 = some (.iconst (-1), 10) := by decide +kernel
theorem e1002_9 {ls : mj_L} {st : List Value} {σ : mj_S} {τ : mj_T} : mj_E 1002 9 ls st σ τ = mj_E 1002 10 ls (.int ((-1)) :: st) σ τ := mj_nx i1002_9 rfl
theorem i1002_10 : mj_ins 1002 10 = some (.if_icmp .eq 20, 13) := by decide +kernel
theorem e1002_10 {ls : mj_L} {st : List Value} {σ : mj_S} {τ : mj_T} {x y : Int32} : mj_E 1002 10 ls (.int y :: .int x :: st) σ τ = if x = y then mj_E 1002 20 ls st σ τ else mj_E 1002 13 ls st σ τ := (mj_ifi i1002_10).trans (mj_cdT rfl)
theorem i1002_13 : mj_ins 1002 13 = some (.iload 4, 15) := by decide +kernel
theorem e1002_13 {ls : mj_L} {st : List Value} {σ : mj_S} {τ : mj_T} {a0 a1 a2 a3 : Option Value} {v : Int32} : mj_E 1002 13 (a0 :: a1 :: a2 :: a3 :: some (.int v) :: ls) st σ τ = mj_E 1002 15 (a0 :: a1 :: a2 :: a3 :: some (.int v) :: ls) (.int v :: st) σ τ := mj_nx i1002_13 rfl
theorem i1002_15 : mj_ins 1002 15 = some (.iconst (20), 17) := by decide +kernel
theorem e1002_15 {ls : mj_L} {st : List Value} {σ : mj_S} {τ : mj_T} : mj_E 1002 15 ls st σ τ = mj_E 1002 17 ls (.int (nI 20) :: st) σ τ := mj_nx i1002_15 rfl
theorem i1002_17 : mj_ins 1002 17 = some (.if_icmp .le 22, 20) := by decide +kernel
theorem e1002_17 {ls : mj_L} {st : List Value} {σ : mj_S} {τ : mj_T} {x y : Int32} : mj_E 1002 17 ls (.int y :: .int x :: st) σ τ = if x ≤ y then mj_E 1002 22 ls st σ τ else mj_E 1002 20 ls st σ τ := (mj_ifi i1002_17).trans (mj_cdT rfl)
theorem i1002_20 : mj_ins 1002 20 = some (.iconst (0), 21) := by decide +kernel
theorem e1002_20 {ls : mj_L} {st : List Value} {σ : mj_S} {τ : mj_T} : mj_E 1002 20 ls st σ τ = mj_E 1002 21 ls (.int (nI 0) :: st) σ τ := mj_nx i1002_20 rfl
theorem i1002_21 : mj_ins 1002 21 = some (.ireturn, 22) := by decide +kernel
theorem e1002_21 {ls : mj_L} {σ : mj_S} {τ : mj_T} {v : Int32} : mj_E 1002 21 ls [.int v] σ τ = some (some (.int v), σ, τ) := mj_irt i1002_21 rfl
theorem i1002_22 : mj_ins 1002 22 = some (.getstatic 91, 25) := by decide +kernel
theorem e1002_22 {ls : mj_L} {st : List Value} {σ : mj_S} {τ : mj_T} : mj_E 1002 22 ls st σ τ = mj_E 1002 25 ls (.ref 91 :: st) σ τ := mj_nx i1002_22 rfl
theorem i1002_25 : mj_ins 1002 25 = some (.iconst (3), 26) := by decide +kernel
theorem e1002_25 {ls : mj_L} {st : List Value} {σ : mj_S} {τ : mj_T} : mj_E 1002 25 ls st σ τ = mj_E 1002 26 ls (.int (nI 3) :: st) σ τ := mj_nx i1002_25 rfl
theorem i1002_26 : mj_ins 1002 26 = some (.iload 5, 28) := by decide +kernel
theorem e1002_26 {ls : mj_L} {st : List Value} {σ : mj_S} {τ : mj_T} {a0 a1 a2 a3 a4 : Option Value} {v : Int32} : mj_E 1002 26 (a0 :: a1 :: a2 :: a3 :: a4 :: some (.int v) :: ls) st σ τ = mj_E 1002 28 (a0 :: a1 :: a2 :: a3 :: a4 :: some (.int v) :: ls) (.int v :: st) σ τ := mj_nx i1002_26 rfl
theorem i1002_28 : mj_ins 1002 28 = some (.imul, 29) := by decide +kernel
theorem e1002_28 {ls : mj_L} {st : List Value} {σ : mj_S} {τ : mj_T} {x y : Int32} : mj_E 1002 28 ls (.int y :: .int x :: st) σ τ = mj_E 1002 29 ls (.int (x * y) :: st) σ τ := mj_nx i1002_28 rfl
theorem i1002_29 : mj_ins 1002 29 = some (.iload 1, 30) := by decide +kernel
theorem e1002_29 {ls : mj_L} {st : List Value} {σ : mj_S} {τ : mj_T} {a0 : Option Value} {v : Int32} : mj_E 1002 29 (a0 :: some (.int v) :: ls) st σ τ = mj_E 1002 30 (a0 :: some (.int v) :: ls) (.int v :: st) σ τ := mj_nx i1002_29 rfl
theorem i1002_30 : mj_ins 1002 30 = some (.iadd, 31) := by decide +kernel
theorem e1002_30 {ls : mj_L} {st : List Value} {σ : mj_S} {τ : mj_T} {x y : Int32} : mj_E 1002 30 ls (.int y :: .int x :: st) σ τ = mj_E 1002 31 ls (.int (x + y) :: st) σ τ := mj_nx i1002_30 rfl
theorem i1002_31 : mj_ins 1002 31 = some (.iaload, 32) := by decide +kernel
theorem e1002_31 {ls : mj_L} {st : List Value} {σ : mj_S} {τ : mj_T} {x : Int32} {k : Nat} : mj_E 1002 31 ls (.int x :: .ref k :: st) σ τ = if mj_ib (mj_li σ k) x = true then mj_E 1002 32 ls (.int (σ k x.toNatClampNeg) :: st) σ τ else none := mj_ald i1002_31
theorem i1002_32 : mj_ins 1002 32 = some (.istore 6, 34) := by decide +kernel
theorem e1002_32 {ls : mj_L} {st : List Value} {σ : mj_S} {τ : mj_T} {a0 a1 a2 a3 a4 a5 a6 : Option Value} {v : Int32} : mj_E 1002 32 (a0 :: a1 :: a2 :: a3 :: a4 :: a5 :: a6 :: ls) (.int v :: st) σ τ = mj_E 1002 34 (a0 :: a1 :: a2 :: a3 :: a4 :: a5 :: some (.int v) :: ls) st σ τ := mj_nx i1002_32 rfl
theorem i1002_34 : mj_ins 1002 34 = some (.aload 0, 35) := by decide +kernel
theorem e1002_34 {ls : mj_L} {st : List Value} {σ : mj_S} {τ : mj_T} {v : Nat} : mj_E 1002 34 (some (.ref v) :: ls) st σ τ = mj_E 1002 35 (some (.ref v) :: ls) (.ref v :: st) σ τ := mj_nx i1002_34 rfl
theorem i1002_35 : mj_ins 1002 35 = some (.iload 6, 37) := by decide +kernel
theorem e1002_35 {ls : mj_L} {st : List Value} {σ : mj_S} {τ : mj_T} {a0 a1 a2 a3 a4 a5 : Option Value} {v : Int32} : mj_E 1002 35 (a0 :: a1 :: a2 :: a3 :: a4 :: a5 :: some (.int v) :: ls) st σ τ = mj_E 1002 37 (a0 :: a1 :: a2 :: a3 :: a4 :: a5 :: some (.int v) :: ls) (.int v :: st) σ τ := mj_nx i1002_35 rfl
theorem i1002_37 : mj_ins 1002 37 = some (.invokevirtual 72, 40) := by decide +kernel
theorem e1002_37 {ls : mj_L} {σ : mj_S} {τ : mj_T} {r : Nat} {x0 : Int32} : mj_E 1002 37 ls [.int x0, .ref r] σ τ = if mj_rcv r 5 = true then mj_bd (mj_C 72 [.ref r, .int x0] σ τ) (mj_K 1002 40 ls []) else none := mj_clV (as := [.int x0]) (r := []) i1002_37 (by decide +kernel : mj_vk 1002 72 1 0 2 false = true) (by decide +kernel)
theorem i1002_40 : mj_ins 1002 40 = some (.iload 5, 42) := by decide +kernel
theorem e1002_40 {ls : mj_L} {st : List Value} {σ : mj_S} {τ : mj_T} {a0 a1 a2 a3 a4 : Option Value} {v : Int32} : mj_E 1002 40 (a0 :: a1 :: a2 :: a3 :: a4 :: some (.int v) :: ls) st σ τ = mj_E 1002 42 (a0 :: a1 :: a2 :: a3 :: a4 :: some (.int v) :: ls) (.int v :: st) σ τ := mj_nx i1002_40 rfl
theorem i1002_42 : mj_ins 1002 42 = some (.invokestatic 4, 45) := by decide +kernel
theorem e1002_42 {ls : mj_L} {σ : mj_S} {τ : mj_T} {x0 : Int32} : mj_E 1002 42 ls [.int x0] σ τ = mj_bd (mj_C 4 [.int x0] σ τ) (mj_K 1002 45 ls []) := mj_clS (as := [.int x0]) (r := []) i1002_42 (by decide +kernel : mj_vk 1002 4 1 0 1 false = true) rfl
theorem i1002_45 : mj_ins 1002 45 = some (.istore 7, 47) := by decide +kernel
theorem e1002_45 {ls : mj_L} {st : List Value} {σ : mj_S} {τ : mj_T} {a0 a1 a2 a3 a4 a5 a6 a7 : Option Value} {v : Int32} : mj_E 1002 45 (a0 :: a1 :: a2 :: a3 :: a4 :: a5 :: a6 :: a7 :: ls) (.int v :: st) σ τ = mj_E 1002 47 (a0 :: a1 :: a2 :: a3 :: a4 :: a5 :: a6 :: some (.int v) :: ls) st σ τ := mj_nx i1002_45 rfl
theorem i1002_47 : mj_ins 1002 47 = some (.iload 4, 49) := by decide +kernel
theorem e1002_47 {ls : mj_L} {st : List Value} {σ : mj_S} {τ : mj_T} {a0 a1 a2 a3 : Option Value} {v : Int32} : mj_E 1002 47 (a0 :: a1 :: a2 :: a3 :: some (.int v) :: ls) st σ τ = mj_E 1002 49 (a0 :: a1 :: a2 :: a3 :: some (.int v) :: ls) (.int v :: st) σ τ := mj_nx i1002_47 rfl
theorem i1002_49 : mj_ins 1002 49 = some (.iconst (1), 50) := by decide +kernel
theorem e1002_49 {ls : mj_L} {st : List Value} {σ : mj_S} {τ : mj_T} : mj_E 1002 49 ls st σ τ = mj_E 1002 50 ls (.int (nI 1) :: st) σ τ := mj_nx i1002_49 rfl
theorem i1002_50 : mj_ins 1002 50 = some (.iadd, 51) := by decide +kernel
theorem e1002_50 {ls : mj_L} {st : List Value} {σ : mj_S} {τ : mj_T} {x y : Int32} : mj_E 1002 50 ls (.int y :: .int x :: st) σ τ = mj_E 1002 51 ls (.int (x + y) :: st) σ τ := mj_nx i1002_50 rfl
theorem i1002_51 : mj_ins 1002 51 = some (.istore 8, 53) := by decide +kernel
theorem e1002_51 {ls : mj_L} {st : List Value} {σ : mj_S} {τ : mj_T} {a0 a1 a2 a3 a4 a5 a6 a7 a8 : Option Value} {v : Int32} : mj_E 1002 51 (a0 :: a1 :: a2 :: a3 :: a4 :: a5 :: a6 :: a7 :: a8 :: ls) (.int v :: st) σ τ = mj_E 1002 53 (a0 :: a1 :: a2 :: a3 :: a4 :: a5 :: a6 :: a7 :: some (.int v) :: ls) st σ τ := mj_nx i1002_51 rfl
theorem i1002_53 : mj_ins 1002 53 = some (.iload 6, 55) := by decide +kernel
theorem e1002_53 {ls : mj_L} {st : List Value} {σ : mj_S} {τ : mj_T} {a0 a1 a2 a3 a4 a5 : Option Value} {v : Int32} : mj_E 1002 53 (a0 :: a1 :: a2 :: a3 :: a4 :: a5 :: some (.int v) :: ls) st σ τ = mj_E 1002 55 (a0 :: a1 :: a2 :: a3 :: a4 :: a5 :: some (.int v) :: ls) (.int v :: st) σ τ := mj_nx i1002_53 rfl
theorem i1002_55 : mj_ins 1002 55 = some (.lookupswitch (238) #[(10, 89), (11, 96), (12, 111), (20, 142), (30, 158), (40, 171), (50, 184), (51, 196), (60, 212), (70, 225)], 55) := by decide +kernel
theorem e1002_55 {ls : mj_L} {st : List Value} {σ : mj_S} {τ : mj_T} {x : Int32} : mj_E 1002 55 ls (.int x :: st) σ τ = if x = nI 10 then mj_E 1002 144 ls st σ τ else if x = nI 11 then mj_E 1002 151 ls st σ τ else if x = nI 12 then mj_E 1002 166 ls st σ τ else if x = nI 20 then mj_E 1002 197 ls st σ τ else if x = nI 30 then mj_E 1002 213 ls st σ τ else if x = nI 40 then mj_E 1002 226 ls st σ τ else if x = nI 50 then mj_E 1002 239 ls st σ τ else if x = nI 51 then mj_E 1002 251 ls st σ τ else if x = nI 60 then mj_E 1002 267 ls st σ τ else if x = nI 70 then mj_E 1002 280 ls st σ τ else mj_E 1002 293 ls st σ τ := mj_lusw i1002_55 rfl
theorem i1002_144 : mj_ins 1002 144 = some (.iload 3, 145) := by decide +kernel
theorem e1002_144 {ls : mj_L} {st : List Value} {σ : mj_S} {τ : mj_T} {a0 a1 a2 : Option Value} {v : Int32} : mj_E 1002 144 (a0 :: a1 :: a2 :: some (.int v) :: ls) st σ τ = mj_E 1002 145 (a0 :: a1 :: a2 :: some (.int v) :: ls) (.int v :: st) σ τ := mj_nx i1002_144 rfl
theorem i1002_145 : mj_ins 1002 145 = some (.aload 0, 146) := by decide +kernel
theorem e1002_145 {ls : mj_L} {st : List Value} {σ : mj_S} {τ : mj_T} {v : Nat} : mj_E 1002 145 (some (.ref v) :: ls) st σ τ = mj_E 1002 146 (some (.ref v) :: ls) (.ref v :: st) σ τ := mj_nx i1002_145 rfl
theorem i1002_146 : mj_ins 1002 146 = some (.getfield 503, 149) := by decide +kernel
theorem e1002_146 {ls : mj_L} {st : List Value} {σ : mj_S} {τ : mj_T} : mj_E 1002 146 ls (.ref 59 :: st) σ τ = mj_E 1002 149 ls (.int (σ 59 3) :: st) σ τ := mj_nx i1002_146 rfl
theorem i1002_149 : mj_ins 1002 149 = some (.iadd, 150) := by decide +kernel
theorem e1002_149 {ls : mj_L} {st : List Value} {σ : mj_S} {τ : mj_T} {x y : Int32} : mj_E 1002 149 ls (.int y :: .int x :: st) σ τ = mj_E 1002 150 ls (.int (x + y) :: st) σ τ := mj_nx i1002_149 rfl
theorem i1002_150 : mj_ins 1002 150 = some (.ireturn, 151) := by decide +kernel
theorem e1002_150 {ls : mj_L} {σ : mj_S} {τ : mj_T} {v : Int32} : mj_E 1002 150 ls [.int v] σ τ = some (some (.int v), σ, τ) := mj_irt i1002_150 rfl
theorem i1002_151 : mj_ins 1002 151 = some (.aload 0, 152) := by decide +kernel
theorem e1002_151 {ls : mj_L} {st : List Value} {σ : mj_S} {τ : mj_T} {v : Nat} : mj_E 1002 151 (some (.ref v) :: ls) st σ τ = mj_E 1002 152 (some (.ref v) :: ls) (.ref v :: st) σ τ := mj_nx i1002_151 rfl
theorem i1002_152 : mj_ins 1002 152 = some (.iconst (0), 153) := by decide +kernel
theorem e1002_152 {ls : mj_L} {st : List Value} {σ : mj_S} {τ : mj_T} : mj_E 1002 152 ls st σ τ = mj_E 1002 153 ls (.int (nI 0) :: st) σ τ := mj_nx i1002_152 rfl
theorem i1002_153 : mj_ins 1002 153 = some (.aload 0, 154) := by decide +kernel
theorem e1002_153 {ls : mj_L} {st : List Value} {σ : mj_S} {τ : mj_T} {v : Nat} : mj_E 1002 153 (some (.ref v) :: ls) st σ τ = mj_E 1002 154 (some (.ref v) :: ls) (.ref v :: st) σ τ := mj_nx i1002_153 rfl
theorem i1002_154 : mj_ins 1002 154 = some (.getfield 502, 157) := by decide +kernel
theorem e1002_154 {ls : mj_L} {st : List Value} {σ : mj_S} {τ : mj_T} : mj_E 1002 154 ls (.ref 59 :: st) σ τ = mj_E 1002 157 ls (.int (σ 59 2) :: st) σ τ := mj_nx i1002_154 rfl
theorem i1002_157 : mj_ins 1002 157 = some (.iload 3, 158) := by decide +kernel
theorem e1002_157 {ls : mj_L} {st : List Value} {σ : mj_S} {τ : mj_T} {a0 a1 a2 : Option Value} {v : Int32} : mj_E 1002 157 (a0 :: a1 :: a2 :: some (.int v) :: ls) st σ τ = mj_E 1002 158 (a0 :: a1 :: a2 :: some (.int v) :: ls) (.int v :: st) σ τ := mj_nx i1002_157 rfl
theorem i1002_158 : mj_ins 1002 158 = some (.iload 8, 160) := by decide +kernel
theorem e1002_158 {ls : mj_L} {st : List Value} {σ : mj_S} {τ : mj_T} {a0 a1 a2 a3 a4 a5 a6 a7 : Option Value} {v : Int32} : mj_E 1002 158 (a0 :: a1 :: a2 :: a3 :: a4 :: a5 :: a6 :: a7 :: some (.int v) :: ls) st σ τ = mj_E 1002 160 (a0 :: a1 :: a2 :: a3 :: a4 :: a5 :: a6 :: a7 :: some (.int v) :: ls) (.int v :: st) σ τ := mj_nx i1002_158 rfl
theorem i1002_160 : mj_ins 1002 160 = some (.invokestatic 1003, 163) := by decide +kernel
theorem e1002_160 {ls : mj_L} {σ : mj_S} {τ : mj_T} {x0 : Nat} {x1 : Int32} {x2 : Int32} {x3 : Int32} {x4 : Int32} : mj_E 1002 160 ls [.int x4, .int x3, .int x2, .int x1, .ref x0] σ τ = mj_bd (mj_C 1003 [.ref x0, .int x1, .int x2, .int x3, .int x4] σ τ) (mj_K 1002 163 ls []) := mj_clS (as := [.ref x0, .int x1, .int x2, .int x3, .int x4]) (r := []) i1002_160 (by decide +kernel : mj_vk 1002 1003 5 0 5 false = true) rfl
theorem i1002_163 : mj_ins 1002 163 = some (.iconst (2), 164) := by decide +kernel
theorem e1002_163 {ls : mj_L} {st : List Value} {σ : mj_S} {τ : mj_T} : mj_E 1002 163 ls st σ τ = mj_E 1002 164 ls (.int (nI 2) :: st) σ τ := mj_nx i1002_163 rfl
theorem i1002_164 : mj_ins 1002 164 = some (.imul, 165) := by decide +kernel
theorem e1002_164 {ls : mj_L} {st : List Value} {σ : mj_S} {τ : mj_T} {x y : Int32} : mj_E 1002 164 ls (.int y :: .int x :: st) σ τ = mj_E 1002 165 ls (.int (x * y) :: st) σ τ := mj_nx i1002_164 rfl
theorem i1002_165 : mj_ins 1002 165 = some (.ireturn, 166) := by decide +kernel
theorem e1002_165 {ls : mj_L} {σ : mj_S} {τ : mj_T} {v : Int32} : mj_E 1002 165 ls [.int v] σ τ = some (some (.int v), σ, τ) := mj_irt i1002_165 rfl
theorem i1002_166 : mj_ins 1002 166 = some (.aload 0, 167) := by decide +kernel
theorem e1002_166 {ls : mj_L} {st : List Value} {σ : mj_S} {τ : mj_T} {v : Nat} : mj_E 1002 166 (some (.ref v) :: ls) st σ τ = mj_E 1002 167 (some (.ref v) :: ls) (.ref v :: st) σ τ := mj_nx i1002_166 rfl
theorem i1002_167 : mj_ins 1002 167 = some (.iconst (1), 168) := by decide +kernel
theorem e1002_167 {ls : mj_L} {st : List Value} {σ : mj_S} {τ : mj_T} : mj_E 1002 167 ls st σ τ = mj_E 1002 168 ls (.int (nI 1) :: st) σ τ := mj_nx i1002_167 rfl
theorem i1002_168 : mj_ins 1002 168 = some (.aload 0, 169) := by decide +kernel
theorem e1002_168 {ls : mj_L} {st : List Value} {σ : mj_S} {τ : mj_T} {v : Nat} : mj_E 1002 168 (some (.ref v) :: ls) st σ τ = mj_E 1002 169 (some (.ref v) :: ls) (.ref v :: st) σ τ := mj_nx i1002_168 rfl
theorem i1002_169 : mj_ins 1002 169 = some (.getfield 502, 172) := by decide +kernel
theorem e1002_169 {ls : mj_L} {st : List Value} {σ : mj_S} {τ : mj_T} : mj_E 1002 169 ls (.ref 59 :: st) σ τ = mj_E 1002 172 ls (.int (σ 59 2) :: st) σ τ := mj_nx i1002_169 rfl
theorem i1002_172 : mj_ins 1002 172 = some (.iload 3, 173) := by decide +kernel
theorem e1002_172 {ls : mj_L} {st : List Value} {σ : mj_S} {τ : mj_T} {a0 a1 a2 : Option Value} {v : Int32} : mj_E 1002 172 (a0 :: a1 :: a2 :: some (.int v) :: ls) st σ τ = mj_E 1002 173 (a0 :: a1 :: a2 :: some (.int v) :: ls) (.int v :: st) σ τ := mj_nx i1002_172 rfl
theorem i1002_173 : mj_ins 1002 173 = some (.iload 8, 175) := by decide +kernel
theorem e1002_173 {ls : mj_L} {st : List Value} {σ : mj_S} {τ : mj_T} {a0 a1 a2 a3 a4 a5 a6 a7 : Option Value} {v : Int32} : mj_E 1002 173 (a0 :: a1 :: a2 :: a3 :: a4 :: a5 :: a6 :: a7 :: some (.int v) :: ls) st σ τ = mj_E 1002 175 (a0 :: a1 :: a2 :: a3 :: a4 :: a5 :: a6 :: a7 :: some (.int v) :: ls) (.int v :: st) σ τ := mj_nx i1002_173 rfl
theorem i1002_175 : mj_ins 1002 175 = some (.invokestatic 1003, 178) := by decide +kernel
theorem e1002_175 {ls : mj_L} {σ : mj_S} {τ : mj_T} {x0 : Nat} {x1 : Int32} {x2 : Int32} {x3 : Int32} {x4 : Int32} : mj_E 1002 175 ls [.int x4, .int x3, .int x2, .int x1, .ref x0] σ τ = mj_bd (mj_C 1003 [.ref x0, .int x1, .int x2, .int x3, .int x4] σ τ) (mj_K 1002 178 ls []) := mj_clS (as := [.ref x0, .int x1, .int x2, .int x3, .int x4]) (r := []) i1002_175 (by decide +kernel : mj_vk 1002 1003 5 0 5 false = true) rfl
theorem i1002_178 : mj_ins 1002 178 = some (.aload 0, 179) := by decide +kernel
theorem e1002_178 {ls : mj_L} {st : List Value} {σ : mj_S} {τ : mj_T} {v : Nat} : mj_E 1002 178 (some (.ref v) :: ls) st σ τ = mj_E 1002 179 (some (.ref v) :: ls) (.ref v :: st) σ τ := mj_nx i1002_178 rfl
theorem i1002_179 : mj_ins 1002 179 = some (.iconst (0), 180) := by decide +kernel
theorem e1002_179 {ls : mj_L} {st : List Value} {σ : mj_S} {τ : mj_T} : mj_E 1002 179 ls st σ τ = mj_E 1002 180 ls (.int (nI 0) :: st) σ τ := mj_nx i1002_179 rfl
theorem i1002_180 : mj_ins 1002 180 = some (.aload 0, 181) := by decide +kernel
theorem e1002_180 {ls : mj_L} {st : List Value} {σ : mj_S} {τ : mj_T} {v : Nat} : mj_E 1002 180 (some (.ref v) :: ls) st σ τ = mj_E 1002 181 (some (.ref v) :: ls) (.ref v :: st) σ τ := mj_nx i1002_180 rfl
theorem i1002_181 : mj_ins 1002 181 = some (.getfield 502, 184) := by decide +kernel
theorem e1002_181 {ls : mj_L} {st : List Value} {σ : mj_S} {τ : mj_T} : mj_E 1002 181 ls (.ref 59 :: st) σ τ = mj_E 1002 184 ls (.int (σ 59 2) :: st) σ τ := mj_nx i1002_181 rfl
theorem i1002_184 : mj_ins 1002 184 = some (.iload 3, 185) := by decide +kernel
theorem e1002_184 {ls : mj_L} {st : List Value} {σ : mj_S} {τ : mj_T} {a0 a1 a2 : Option Value} {v : Int32} : mj_E 1002 184 (a0 :: a1 :: a2 :: some (.int v) :: ls) st σ τ = mj_E 1002 185 (a0 :: a1 :: a2 :: some (.int v) :: ls) (.int v :: st) σ τ := mj_nx i1002_184 rfl
theorem i1002_185 : mj_ins 1002 185 = some (.aload 0, 186) := by decide +kernel
theorem e1002_185 {ls : mj_L} {st : List Value} {σ : mj_S} {τ : mj_T} {v : Nat} : mj_E 1002 185 (some (.ref v) :: ls) st σ τ = mj_E 1002 186 (some (.ref v) :: ls) (.ref v :: st) σ τ := mj_nx i1002_185 rfl
theorem i1002_186 : mj_ins 1002 186 = some (.getfield 504, 189) := by decide +kernel
theorem e1002_186 {ls : mj_L} {st : List Value} {σ : mj_S} {τ : mj_T} : mj_E 1002 186 ls (.ref 59 :: st) σ τ = mj_E 1002 189 ls (.int (σ 59 4) :: st) σ τ := mj_nx i1002_186 rfl
theorem i1002_189 : mj_ins 1002 189 = some (.isub, 190) := by decide +kernel
theorem e1002_189 {ls : mj_L} {st : List Value} {σ : mj_S} {τ : mj_T} {x y : Int32} : mj_E 1002 189 ls (.int y :: .int x :: st) σ τ = mj_E 1002 190 ls (.int (x - y) :: st) σ τ := mj_nx i1002_189 rfl
theorem i1002_190 : mj_ins 1002 190 = some (.iload 8, 192) := by decide +kernel
theorem e1002_190 {ls : mj_L} {st : List Value} {σ : mj_S} {τ : mj_T} {a0 a1 a2 a3 a4 a5 a6 a7 : Option Value} {v : Int32} : mj_E 1002 190 (a0 :: a1 :: a2 :: a3 :: a4 :: a5 :: a6 :: a7 :: some (.int v) :: ls) st σ τ = mj_E 1002 192 (a0 :: a1 :: a2 :: a3 :: a4 :: a5 :: a6 :: a7 :: some (.int v) :: ls) (.int v :: st) σ τ := mj_nx i1002_190 rfl
theorem i1002_192 : mj_ins 1002 192 = some (.invokestatic 1003, 195) := by decide +kernel
theorem e1002_192 {ls : mj_L} {σ : mj_S} {τ : mj_T} {x0 : Nat} {x1 : Int32} {x2 : Int32} {x3 : Int32} {x4 : Int32} {w0 : Value} : mj_E 1002 192 ls [.int x4, .int x3, .int x2, .int x1, .ref x0, w0] σ τ = mj_bd (mj_C 1003 [.ref x0, .int x1, .int x2, .int x3, .int x4] σ τ) (mj_K 1002 195 ls [w0]) := mj_clS (as := [.ref x0, .int x1, .int x2, .int x3, .int x4]) (r := [w0]) i1002_192 (by decide +kernel : mj_vk 1002 1003 5 1 5 false = true) rfl
theorem i1002_195 : mj_ins 1002 195 = some (.ixor, 196) := by decide +kernel
theorem e1002_195 {ls : mj_L} {st : List Value} {σ : mj_S} {τ : mj_T} {x y : Int32} : mj_E 1002 195 ls (.int y :: .int x :: st) σ τ = mj_E 1002 196 ls (.int (x ^^^ y) :: st) σ τ := mj_nx i1002_195 rfl
theorem i1002_196 : mj_ins 1002 196 = some (.ireturn, 197) := by decide +kernel
theorem e1002_196 {ls : mj_L} {σ : mj_S} {τ : mj_T} {v : Int32} : mj_E 1002 196 ls [.int v] σ τ = some (some (.int v), σ, τ) := mj_irt i1002_196 rfl
theorem i1002_197 : mj_ins 1002 197 = some (.aload 0, 198) := by decide +kernel
theorem e1002_197 {ls : mj_L} {st : List Value} {σ : mj_S} {τ : mj_T} {v : Nat} : mj_E 1002 197 (some (.ref v) :: ls) st σ τ = mj_E 1002 198 (some (.ref v) :: ls) (.ref v :: st) σ τ := mj_nx i1002_197 rfl
theorem i1002_198 : mj_ins 1002 198 = some (.iconst (0), 199) := by decide +kernel
theorem e1002_198 {ls : mj_L} {st : List Value} {σ : mj_S} {τ : mj_T} : mj_E 1002 198 ls st σ τ = mj_E 1002 199 ls (.int (nI 0) :: st) σ τ := mj_nx i1002_198 rfl
theorem i1002_199 : mj_ins 1002 199 = some (.iload 7, 201) := by decide +kernel
theorem e1002_199 {ls : mj_L} {st : List Value} {σ : mj_S} {τ : mj_T} {a0 a1 a2 a3 a4 a5 a6 : Option Value} {v : Int32} : mj_E 1002 199 (a0 :: a1 :: a2 :: a3 :: a4 :: a5 :: a6 :: some (.int v) :: ls) st σ τ = mj_E 1002 201 (a0 :: a1 :: a2 :: a3 :: a4 :: a5 :: a6 :: some (.int v) :: ls) (.int v :: st) σ τ := mj_nx i1002_199 rfl
theorem i1002_201 : mj_ins 1002 201 = some (.iload 3, 202) := by decide +kernel
theorem e1002_201 {ls : mj_L} {st : List Value} {σ : mj_S} {τ : mj_T} {a0 a1 a2 : Option Value} {v : Int32} : mj_E 1002 201 (a0 :: a1 :: a2 :: some (.int v) :: ls) st σ τ = mj_E 1002 202 (a0 :: a1 :: a2 :: some (.int v) :: ls) (.int v :: st) σ τ := mj_nx i1002_201 rfl
theorem i1002_202 : mj_ins 1002 202 = some (.iload 8, 204) := by decide +kernel
theorem e1002_202 {ls : mj_L} {st : List Value} {σ : mj_S} {τ : mj_T} {a0 a1 a2 a3 a4 a5 a6 a7 : Option Value} {v : Int32} : mj_E 1002 202 (a0 :: a1 :: a2 :: a3 :: a4 :: a5 :: a6 :: a7 :: some (.int v) :: ls) st σ τ = mj_E 1002 204 (a0 :: a1 :: a2 :: a3 :: a4 :: a5 :: a6 :: a7 :: some (.int v) :: ls) (.int v :: st) σ τ := mj_nx i1002_202 rfl
theorem i1002_204 : mj_ins 1002 204 = some (.invokestatic 1003, 207) := by decide +kernel
theorem e1002_204 {ls : mj_L} {σ : mj_S} {τ : mj_T} {x0 : Nat} {x1 : Int32} {x2 : Int32} {x3 : Int32} {x4 : Int32} : mj_E 1002 204 ls [.int x4, .int x3, .int x2, .int x1, .ref x0] σ τ = mj_bd (mj_C 1003 [.ref x0, .int x1, .int x2, .int x3, .int x4] σ τ) (mj_K 1002 207 ls []) := mj_clS (as := [.ref x0, .int x1, .int x2, .int x3, .int x4]) (r := []) i1002_204 (by decide +kernel : mj_vk 1002 1003 5 0 5 false = true) rfl
theorem i1002_207 : mj_ins 1002 207 = some (.aload 0, 208) := by decide +kernel
theorem e1002_207 {ls : mj_L} {st : List Value} {σ : mj_S} {τ : mj_T} {v : Nat} : mj_E 1002 207 (some (.ref v) :: ls) st σ τ = mj_E 1002 208 (some (.ref v) :: ls) (.ref v :: st) σ τ := mj_nx i1002_207 rfl
theorem i1002_208 : mj_ins 1002 208 = some (.getfield 504, 211) := by decide +kernel
theorem e1002_208 {ls : mj_L} {st : List Value} {σ : mj_S} {τ : mj_T} : mj_E 1002 208 ls (.ref 59 :: st) σ τ = mj_E 1002 211 ls (.int (σ 59 4) :: st) σ τ := mj_nx i1002_208 rfl
theorem i1002_211 : mj_ins 1002 211 = some (.iadd, 212) := by decide +kernel
theorem e1002_211 {ls : mj_L} {st : List Value} {σ : mj_S} {τ : mj_T} {x y : Int32} : mj_E 1002 211 ls (.int y :: .int x :: st) σ τ = mj_E 1002 212 ls (.int (x + y) :: st) σ τ := mj_nx i1002_211 rfl
theorem i1002_212 : mj_ins 1002 212 = some (.ireturn, 213) := by decide +kernel
theorem e1002_212 {ls : mj_L} {σ : mj_S} {τ : mj_T} {v : Int32} : mj_E 1002 212 ls [.int v] σ τ = some (some (.int v), σ, τ) := mj_irt i1002_212 rfl
theorem i1002_213 : mj_ins 1002 213 = some (.aload 0, 214) := by decide +kernel
theorem e1002_213 {ls : mj_L} {st : List Value} {σ : mj_S} {τ : mj_T} {v : Nat} : mj_E 1002 213 (some (.ref v) :: ls) st σ τ = mj_E 1002 214 (some (.ref v) :: ls) (.ref v :: st) σ τ := mj_nx i1002_213 rfl
theorem i1002_214 : mj_ins 1002 214 = some (.iconst (1), 215) := by decide +kernel
theorem e1002_214 {ls : mj_L} {st : List Value} {σ : mj_S} {τ : mj_T} : mj_E 1002 214 ls st σ τ = mj_E 1002 215 ls (.int (nI 1) :: st) σ τ := mj_nx i1002_214 rfl
theorem i1002_215 : mj_ins 1002 215 = some (.iload 7, 217) := by decide +kernel
theorem e1002_215 {ls : mj_L} {st : List Value} {σ : mj_S} {τ : mj_T} {a0 a1 a2 a3 a4 a5 a6 : Option Value} {v : Int32} : mj_E 1002 215 (a0 :: a1 :: a2 :: a3 :: a4 :: a5 :: a6 :: some (.int v) :: ls) st σ τ = mj_E 1002 217 (a0 :: a1 :: a2 :: a3 :: a4 :: a5 :: a6 :: some (.int v) :: ls) (.int v :: st) σ τ := mj_nx i1002_215 rfl
theorem i1002_217 : mj_ins 1002 217 = some (.iload 3, 218) := by decide +kernel
theorem e1002_217 {ls : mj_L} {st : List Value} {σ : mj_S} {τ : mj_T} {a0 a1 a2 : Option Value} {v : Int32} : mj_E 1002 217 (a0 :: a1 :: a2 :: some (.int v) :: ls) st σ τ = mj_E 1002 218 (a0 :: a1 :: a2 :: some (.int v) :: ls) (.int v :: st) σ τ := mj_nx i1002_217 rfl
theorem i1002_218 : mj_ins 1002 218 = some (.iload 8, 220) := by decide +kernel
theorem e1002_218 {ls : mj_L} {st : List Value} {σ : mj_S} {τ : mj_T} {a0 a1 a2 a3 a4 a5 a6 a7 : Option Value} {v : Int32} : mj_E 1002 218 (a0 :: a1 :: a2 :: a3 :: a4 :: a5 :: a6 :: a7 :: some (.int v) :: ls) st σ τ = mj_E 1002 220 (a0 :: a1 :: a2 :: a3 :: a4 :: a5 :: a6 :: a7 :: some (.int v) :: ls) (.int v :: st) σ τ := mj_nx i1002_218 rfl
theorem i1002_220 : mj_ins 1002 220 = some (.invokestatic 1003, 223) := by decide +kernel
theorem e1002_220 {ls : mj_L} {σ : mj_S} {τ : mj_T} {x0 : Nat} {x1 : Int32} {x2 : Int32} {x3 : Int32} {x4 : Int32} : mj_E 1002 220 ls [.int x4, .int x3, .int x2, .int x1, .ref x0] σ τ = mj_bd (mj_C 1003 [.ref x0, .int x1, .int x2, .int x3, .int x4] σ τ) (mj_K 1002 223 ls []) := mj_clS (as := [.ref x0, .int x1, .int x2, .int x3, .int x4]) (r := []) i1002_220 (by decide +kernel : mj_vk 1002 1003 5 0 5 false = true) rfl
theorem i1002_223 : mj_ins 1002 223 = some (.iconst (3), 224) := by decide +kernel
theorem e1002_223 {ls : mj_L} {st : List Value} {σ : mj_S} {τ : mj_T} : mj_E 1002 223 ls st σ τ = mj_E 1002 224 ls (.int (nI 3) :: st) σ τ := mj_nx i1002_223 rfl
theorem i1002_224 : mj_ins 1002 224 = some (.imul, 225) := by decide +kernel
theorem e1002_224 {ls : mj_L} {st : List Value} {σ : mj_S} {τ : mj_T} {x y : Int32} : mj_E 1002 224 ls (.int y :: .int x :: st) σ τ = mj_E 1002 225 ls (.int (x * y) :: st) σ τ := mj_nx i1002_224 rfl
theorem i1002_225 : mj_ins 1002 225 = some (.ireturn, 226) := by decide +kernel
theorem e1002_225 {ls : mj_L} {σ : mj_S} {τ : mj_T} {v : Int32} : mj_E 1002 225 ls [.int v] σ τ = some (some (.int v), σ, τ) := mj_irt i1002_225 rfl
theorem i1002_226 : mj_ins 1002 226 = some (.aload 0, 227) := by decide +kernel
theorem e1002_226 {ls : mj_L} {st : List Value} {σ : mj_S} {τ : mj_T} {v : Nat} : mj_E 1002 226 (some (.ref v) :: ls) st σ τ = mj_E 1002 227 (some (.ref v) :: ls) (.ref v :: st) σ τ := mj_nx i1002_226 rfl
theorem i1002_227 : mj_ins 1002 227 = some (.iconst (1), 228) := by decide +kernel
theorem e1002_227 {ls : mj_L} {st : List Value} {σ : mj_S} {τ : mj_T} : mj_E 1002 227 ls st σ τ = mj_E 1002 228 ls (.int (nI 1) :: st) σ τ := mj_nx i1002_227 rfl
theorem i1002_228 : mj_ins 1002 228 = some (.iload 7, 230) := by decide +kernel
theorem e1002_228 {ls : mj_L} {st : List Value} {σ : mj_S} {τ : mj_T} {a0 a1 a2 a3 a4 a5 a6 : Option Value} {v : Int32} : mj_E 1002 228 (a0 :: a1 :: a2 :: a3 :: a4 :: a5 :: a6 :: some (.int v) :: ls) st σ τ = mj_E 1002 230 (a0 :: a1 :: a2 :: a3 :: a4 :: a5 :: a6 :: some (.int v) :: ls) (.int v :: st) σ τ := mj_nx i1002_228 rfl
theorem i1002_230 : mj_ins 1002 230 = some (.iload 3, 231) := by decide +kernel
theorem e1002_230 {ls : mj_L} {st : List Value} {σ : mj_S} {τ : mj_T} {a0 a1 a2 : Option Value} {v : Int32} : mj_E 1002 230 (a0 :: a1 :: a2 :: some (.int v) :: ls) st σ τ = mj_E 1002 231 (a0 :: a1 :: a2 :: some (.int v) :: ls) (.int v :: st) σ τ := mj_nx i1002_230 rfl
theorem i1002_231 : mj_ins 1002 231 = some (.iconst (1), 232) := by decide +kernel
theorem e1002_231 {ls : mj_L} {st : List Value} {σ : mj_S} {τ : mj_T} : mj_E 1002 231 ls st σ τ = mj_E 1002 232 ls (.int (nI 1) :: st) σ τ := mj_nx i1002_231 rfl
theorem i1002_232 : mj_ins 1002 232 = some (.iadd, 233) := by decide +kernel
theorem e1002_232 {ls : mj_L} {st : List Value} {σ : mj_S} {τ : mj_T} {x y : Int32} : mj_E 1002 232 ls (.int y :: .int x :: st) σ τ = mj_E 1002 233 ls (.int (x + y) :: st) σ τ := mj_nx i1002_232 rfl
theorem i1002_233 : mj_ins 1002 233 = some (.iload 8, 235) := by decide +kernel
theorem e1002_233 {ls : mj_L} {st : List Value} {σ : mj_S} {τ : mj_T} {a0 a1 a2 a3 a4 a5 a6 a7 : Option Value} {v : Int32} : mj_E 1002 233 (a0 :: a1 :: a2 :: a3 :: a4 :: a5 :: a6 :: a7 :: some (.int v) :: ls) st σ τ = mj_E 1002 235 (a0 :: a1 :: a2 :: a3 :: a4 :: a5 :: a6 :: a7 :: some (.int v) :: ls) (.int v :: st) σ τ := mj_nx i1002_233 rfl
theorem i1002_235 : mj_ins 1002 235 = some (.invokestatic 1003, 238) := by decide +kernel
theorem e1002_235 {ls : mj_L} {σ : mj_S} {τ : mj_T} {x0 : Nat} {x1 : Int32} {x2 : Int32} {x3 : Int32} {x4 : Int32} : mj_E 1002 235 ls [.int x4, .int x3, .int x2, .int x1, .ref x0] σ τ = mj_bd (mj_C 1003 [.ref x0, .int x1, .int x2, .int x3, .int x4] σ τ) (mj_K 1002 238 ls []) := mj_clS (as := [.ref x0, .int x1, .int x2, .int x3, .int x4]) (r := []) i1002_235 (by decide +kernel : mj_vk 1002 1003 5 0 5 false = true) rfl
theorem i1002_238 : mj_ins 1002 238 = some (.ireturn, 239) := by decide +kernel
theorem e1002_238 {ls : mj_L} {σ : mj_S} {τ : mj_T} {v : Int32} : mj_E 1002 238 ls [.int v] σ τ = some (some (.int v), σ, τ) := mj_irt i1002_238 rfl
theorem i1002_239 : mj_ins 1002 239 = some (.aload 0, 240) := by decide +kernel
theorem e1002_239 {ls : mj_L} {st : List Value} {σ : mj_S} {τ : mj_T} {v : Nat} : mj_E 1002 239 (some (.ref v) :: ls) st σ τ = mj_E 1002 240 (some (.ref v) :: ls) (.ref v :: st) σ τ := mj_nx i1002_239 rfl
theorem i1002_240 : mj_ins 1002 240 = some (.iconst (2), 241) := by decide +kernel
theorem e1002_240 {ls : mj_L} {st : List Value} {σ : mj_S} {τ : mj_T} : mj_E 1002 240 ls st σ τ = mj_E 1002 241 ls (.int (nI 2) :: st) σ τ := mj_nx i1002_240 rfl
theorem i1002_241 : mj_ins 1002 241 = some (.iload 7, 243) := by decide +kernel
theorem e1002_241 {ls : mj_L} {st : List Value} {σ : mj_S} {τ : mj_T} {a0 a1 a2 a3 a4 a5 a6 : Option Value} {v : Int32} : mj_E 1002 241 (a0 :: a1 :: a2 :: a3 :: a4 :: a5 :: a6 :: some (.int v) :: ls) st σ τ = mj_E 1002 243 (a0 :: a1 :: a2 :: a3 :: a4 :: a5 :: a6 :: some (.int v) :: ls) (.int v :: st) σ τ := mj_nx i1002_241 rfl
theorem i1002_243 : mj_ins 1002 243 = some (.iload 3, 244) := by decide +kernel
theorem e1002_243 {ls : mj_L} {st : List Value} {σ : mj_S} {τ : mj_T} {a0 a1 a2 : Option Value} {v : Int32} : mj_E 1002 243 (a0 :: a1 :: a2 :: some (.int v) :: ls) st σ τ = mj_E 1002 244 (a0 :: a1 :: a2 :: some (.int v) :: ls) (.int v :: st) σ τ := mj_nx i1002_243 rfl
theorem i1002_244 : mj_ins 1002 244 = some (.iload 8, 246) := by decide +kernel
theorem e1002_244 {ls : mj_L} {st : List Value} {σ : mj_S} {τ : mj_T} {a0 a1 a2 a3 a4 a5 a6 a7 : Option Value} {v : Int32} : mj_E 1002 244 (a0 :: a1 :: a2 :: a3 :: a4 :: a5 :: a6 :: a7 :: some (.int v) :: ls) st σ τ = mj_E 1002 246 (a0 :: a1 :: a2 :: a3 :: a4 :: a5 :: a6 :: a7 :: some (.int v) :: ls) (.int v :: st) σ τ := mj_nx i1002_244 rfl
theorem i1002_246 : mj_ins 1002 246 = some (.invokestatic 1003, 249) := by decide +kernel
theorem e1002_246 {ls : mj_L} {σ : mj_S} {τ : mj_T} {x0 : Nat} {x1 : Int32} {x2 : Int32} {x3 : Int32} {x4 : Int32} : mj_E 1002 246 ls [.int x4, .int x3, .int x2, .int x1, .ref x0] σ τ = mj_bd (mj_C 1003 [.ref x0, .int x1, .int x2, .int x3, .int x4] σ τ) (mj_K 1002 249 ls []) := mj_clS (as := [.ref x0, .int x1, .int x2, .int x3, .int x4]) (r := []) i1002_246 (by decide +kernel : mj_vk 1002 1003 5 0 5 false = true) rfl
theorem i1002_249 : mj_ins 1002 249 = some (.ineg, 250) := by decide +kernel
theorem e1002_249 {ls : mj_L} {st : List Value} {σ : mj_S} {τ : mj_T} {x : Int32} : mj_E 1002 249 ls (.int x :: st) σ τ = mj_E 1002 250 ls (.int (-x) :: st) σ τ := mj_nx i1002_249 rfl
theorem i1002_250 : mj_ins 1002 250 = some (.ireturn, 251) := by decide +kernel
theorem e1002_250 {ls : mj_L} {σ : mj_S} {τ : mj_T} {v : Int32} : mj_E 1002 250 ls [.int v] σ τ = some (some (.int v), σ, τ) := mj_irt i1002_250 rfl
theorem i1002_251 : mj_ins 1002 251 = some (.aload 0, 252) := by decide +kernel
theorem e1002_251 {ls : mj_L} {st : List Value} {σ : mj_S} {τ : mj_T} {v : Nat} : mj_E 1002 251 (some (.ref v) :: ls) st σ τ = mj_E 1002 252 (some (.ref v) :: ls) (.ref v :: st) σ τ := mj_nx i1002_251 rfl
theorem i1002_252 : mj_ins 1002 252 = some (.iconst (0), 253) := by decide +kernel
theorem e1002_252 {ls : mj_L} {st : List Value} {σ : mj_S} {τ : mj_T} : mj_E 1002 252 ls st σ τ = mj_E 1002 253 ls (.int (nI 0) :: st) σ τ := mj_nx i1002_252 rfl
theorem i1002_253 : mj_ins 1002 253 = some (.iload 7, 255) := by decide +kernel
theorem e1002_253 {ls : mj_L} {st : List Value} {σ : mj_S} {τ : mj_T} {a0 a1 a2 a3 a4 a5 a6 : Option Value} {v : Int32} : mj_E 1002 253 (a0 :: a1 :: a2 :: a3 :: a4 :: a5 :: a6 :: some (.int v) :: ls) st σ τ = mj_E 1002 255 (a0 :: a1 :: a2 :: a3 :: a4 :: a5 :: a6 :: some (.int v) :: ls) (.int v :: st) σ τ := mj_nx i1002_253 rfl
theorem i1002_255 : mj_ins 1002 255 = some (.iload 3, 256) := by decide +kernel
theorem e1002_255 {ls : mj_L} {st : List Value} {σ : mj_S} {τ : mj_T} {a0 a1 a2 : Option Value} {v : Int32} : mj_E 1002 255 (a0 :: a1 :: a2 :: some (.int v) :: ls) st σ τ = mj_E 1002 256 (a0 :: a1 :: a2 :: some (.int v) :: ls) (.int v :: st) σ τ := mj_nx i1002_255 rfl
theorem i1002_256 : mj_ins 1002 256 = some (.iload 8, 258) := by decide +kernel
theorem e1002_256 {ls : mj_L} {st : List Value} {σ : mj_S} {τ : mj_T} {a0 a1 a2 a3 a4 a5 a6 a7 : Option Value} {v : Int32} : mj_E 1002 256 (a0 :: a1 :: a2 :: a3 :: a4 :: a5 :: a6 :: a7 :: some (.int v) :: ls) st σ τ = mj_E 1002 258 (a0 :: a1 :: a2 :: a3 :: a4 :: a5 :: a6 :: a7 :: some (.int v) :: ls) (.int v :: st) σ τ := mj_nx i1002_256 rfl
theorem i1002_258 : mj_ins 1002 258 = some (.invokestatic 1003, 261) := by decide +kernel
theorem e1002_258 {ls : mj_L} {σ : mj_S} {τ : mj_T} {x0 : Nat} {x1 : Int32} {x2 : Int32} {x3 : Int32} {x4 : Int32} : mj_E 1002 258 ls [.int x4, .int x3, .int x2, .int x1, .ref x0] σ τ = mj_bd (mj_C 1003 [.ref x0, .int x1, .int x2, .int x3, .int x4] σ τ) (mj_K 1002 261 ls []) := mj_clS (as := [.ref x0, .int x1, .int x2, .int x3, .int x4]) (r := []) i1002_258 (by decide +kernel : mj_vk 1002 1003 5 0 5 false = true) rfl
theorem i1002_261 : mj_ins 1002 261 = some (.aload 0, 262) := by decide +kernel
theorem e1002_261 {ls : mj_L} {st : List Value} {σ : mj_S} {τ : mj_T} {v : Nat} : mj_E 1002 261 (some (.ref v) :: ls) st σ τ = mj_E 1002 262 (some (.ref v) :: ls) (.ref v :: st) σ τ := mj_nx i1002_261 rfl
theorem i1002_262 : mj_ins 1002 262 = some (.getfield 503, 265) := by decide +kernel
theorem e1002_262 {ls : mj_L} {st : List Value} {σ : mj_S} {τ : mj_T} : mj_E 1002 262 ls (.ref 59 :: st) σ τ = mj_E 1002 265 ls (.int (σ 59 3) :: st) σ τ := mj_nx i1002_262 rfl
theorem i1002_265 : mj_ins 1002 265 = some (.isub, 266) := by decide +kernel
theorem e1002_265 {ls : mj_L} {st : List Value} {σ : mj_S} {τ : mj_T} {x y : Int32} : mj_E 1002 265 ls (.int y :: .int x :: st) σ τ = mj_E 1002 266 ls (.int (x - y) :: st) σ τ := mj_nx i1002_265 rfl
theorem i1002_266 : mj_ins 1002 266 = some (.ireturn, 267) := by decide +kernel
theorem e1002_266 {ls : mj_L} {σ : mj_S} {τ : mj_T} {v : Int32} : mj_E 1002 266 ls [.int v] σ τ = some (some (.int v), σ, τ) := mj_irt i1002_266 rfl
theorem i1002_267 : mj_ins 1002 267 = some (.aload 0, 268) := by decide +kernel
theorem e1002_267 {ls : mj_L} {st : List Value} {σ : mj_S} {τ : mj_T} {v : Nat} : mj_E 1002 267 (some (.ref v) :: ls) st σ τ = mj_E 1002 268 (some (.ref v) :: ls) (.ref v :: st) σ τ := mj_nx i1002_267 rfl
theorem i1002_268 : mj_ins 1002 268 = some (.iconst (2), 269) := by decide +kernel
theorem e1002_268 {ls : mj_L} {st : List Value} {σ : mj_S} {τ : mj_T} : mj_E 1002 268 ls st σ τ = mj_E 1002 269 ls (.int (nI 2) :: st) σ τ := mj_nx i1002_268 rfl
theorem i1002_269 : mj_ins 1002 269 = some (.iload 7, 271) := by decide +kernel
theorem e1002_269 {ls : mj_L} {st : List Value} {σ : mj_S} {τ : mj_T} {a0 a1 a2 a3 a4 a5 a6 : Option Value} {v : Int32} : mj_E 1002 269 (a0 :: a1 :: a2 :: a3 :: a4 :: a5 :: a6 :: some (.int v) :: ls) st σ τ = mj_E 1002 271 (a0 :: a1 :: a2 :: a3 :: a4 :: a5 :: a6 :: some (.int v) :: ls) (.int v :: st) σ τ := mj_nx i1002_269 rfl
theorem i1002_271 : mj_ins 1002 271 = some (.iload 3, 272) := by decide +kernel
theorem e1002_271 {ls : mj_L} {st : List Value} {σ : mj_S} {τ : mj_T} {a0 a1 a2 : Option Value} {v : Int32} : mj_E 1002 271 (a0 :: a1 :: a2 :: some (.int v) :: ls) st σ τ = mj_E 1002 272 (a0 :: a1 :: a2 :: some (.int v) :: ls) (.int v :: st) σ τ := mj_nx i1002_271 rfl
theorem i1002_272 : mj_ins 1002 272 = some (.iload 8, 274) := by decide +kernel
theorem e1002_272 {ls : mj_L} {st : List Value} {σ : mj_S} {τ : mj_T} {a0 a1 a2 a3 a4 a5 a6 a7 : Option Value} {v : Int32} : mj_E 1002 272 (a0 :: a1 :: a2 :: a3 :: a4 :: a5 :: a6 :: a7 :: some (.int v) :: ls) st σ τ = mj_E 1002 274 (a0 :: a1 :: a2 :: a3 :: a4 :: a5 :: a6 :: a7 :: some (.int v) :: ls) (.int v :: st) σ τ := mj_nx i1002_272 rfl
theorem i1002_274 : mj_ins 1002 274 = some (.invokestatic 1003, 277) := by decide +kernel
theorem e1002_274 {ls : mj_L} {σ : mj_S} {τ : mj_T} {x0 : Nat} {x1 : Int32} {x2 : Int32} {x3 : Int32} {x4 : Int32} : mj_E 1002 274 ls [.int x4, .int x3, .int x2, .int x1, .ref x0] σ τ = mj_bd (mj_C 1003 [.ref x0, .int x1, .int x2, .int x3, .int x4] σ τ) (mj_K 1002 277 ls []) := mj_clS (as := [.ref x0, .int x1, .int x2, .int x3, .int x4]) (r := []) i1002_274 (by decide +kernel : mj_vk 1002 1003 5 0 5 false = true) rfl
theorem i1002_277 : mj_ins 1002 277 = some (.iconst (5), 278) := by decide +kernel
theorem e1002_277 {ls : mj_L} {st : List Value} {σ : mj_S} {τ : mj_T} : mj_E 1002 277 ls st σ τ = mj_E 1002 278 ls (.int (nI 5) :: st) σ τ := mj_nx i1002_277 rfl
theorem i1002_278 : mj_ins 1002 278 = some (.ixor, 279) := by decide +kernel
theorem e1002_278 {ls : mj_L} {st : List Value} {σ : mj_S} {τ : mj_T} {x y : Int32} : mj_E 1002 278 ls (.int y :: .int x :: st) σ τ = mj_E 1002 279 ls (.int (x ^^^ y) :: st) σ τ := mj_nx i1002_278 rfl
theorem i1002_279 : mj_ins 1002 279 = some (.ireturn, 280) := by decide +kernel
theorem e1002_279 {ls : mj_L} {σ : mj_S} {τ : mj_T} {v : Int32} : mj_E 1002 279 ls [.int v] σ τ = some (some (.int v), σ, τ) := mj_irt i1002_279 rfl
theorem i1002_280 : mj_ins 1002 280 = some (.aload 0, 281) := by decide +kernel
theorem e1002_280 {ls : mj_L} {st : List Value} {σ : mj_S} {τ : mj_T} {v : Nat} : mj_E 1002 280 (some (.ref v) :: ls) st σ τ = mj_E 1002 281 (some (.ref v) :: ls) (.ref v :: st) σ τ := mj_nx i1002_280 rfl
theorem i1002_281 : mj_ins 1002 281 = some (.iconst (0), 282) := by decide +kernel
theorem e1002_281 {ls : mj_L} {st : List Value} {σ : mj_S} {τ : mj_T} : mj_E 1002 281 ls st σ τ = mj_E 1002 282 ls (.int (nI 0) :: st) σ τ := mj_nx i1002_281 rfl
theorem i1002_282 : mj_ins 1002 282 = some (.iload 7, 284) := by decide +kernel
theorem e1002_282 {ls : mj_L} {st : List Value} {σ : mj_S} {τ : mj_T} {a0 a1 a2 a3 a4 a5 a6 : Option Value} {v : Int32} : mj_E 1002 282 (a0 :: a1 :: a2 :: a3 :: a4 :: a5 :: a6 :: some (.int v) :: ls) st σ τ = mj_E 1002 284 (a0 :: a1 :: a2 :: a3 :: a4 :: a5 :: a6 :: some (.int v) :: ls) (.int v :: st) σ τ := mj_nx i1002_282 rfl
theorem i1002_284 : mj_ins 1002 284 = some (.iload 3, 285) := by decide +kernel
theorem e1002_284 {ls : mj_L} {st : List Value} {σ : mj_S} {τ : mj_T} {a0 a1 a2 : Option Value} {v : Int32} : mj_E 1002 284 (a0 :: a1 :: a2 :: some (.int v) :: ls) st σ τ = mj_E 1002 285 (a0 :: a1 :: a2 :: some (.int v) :: ls) (.int v :: st) σ τ := mj_nx i1002_284 rfl
theorem i1002_285 : mj_ins 1002 285 = some (.iload 8, 287) := by decide +kernel
theorem e1002_285 {ls : mj_L} {st : List Value} {σ : mj_S} {τ : mj_T} {a0 a1 a2 a3 a4 a5 a6 a7 : Option Value} {v : Int32} : mj_E 1002 285 (a0 :: a1 :: a2 :: a3 :: a4 :: a5 :: a6 :: a7 :: some (.int v) :: ls) st σ τ = mj_E 1002 287 (a0 :: a1 :: a2 :: a3 :: a4 :: a5 :: a6 :: a7 :: some (.int v) :: ls) (.int v :: st) σ τ := mj_nx i1002_285 rfl
theorem i1002_287 : mj_ins 1002 287 = some (.invokestatic 1003, 290) := by decide +kernel
theorem e1002_287 {ls : mj_L} {σ : mj_S} {τ : mj_T} {x0 : Nat} {x1 : Int32} {x2 : Int32} {x3 : Int32} {x4 : Int32} : mj_E 1002 287 ls [.int x4, .int x3, .int x2, .int x1, .ref x0] σ τ = mj_bd (mj_C 1003 [.ref x0, .int x1, .int x2, .int x3, .int x4] σ τ) (mj_K 1002 290 ls []) := mj_clS (as := [.ref x0, .int x1, .int x2, .int x3, .int x4]) (r := []) i1002_287 (by decide +kernel : mj_vk 1002 1003 5 0 5 false = true) rfl
theorem i1002_290 : mj_ins 1002 290 = some (.iconst (2), 291) := by decide +kernel
theorem e1002_290 {ls : mj_L} {st : List Value} {σ : mj_S} {τ : mj_T} : mj_E 1002 290 ls st σ τ = mj_E 1002 291 ls (.int (nI 2) :: st) σ τ := mj_nx i1002_290 rfl
theorem i1002_291 : mj_ins 1002 291 = some (.imul, 292) := by decide +kernel
theorem e1002_291 {ls : mj_L} {st : List Value} {σ : mj_S} {τ : mj_T} {x y : Int32} : mj_E 1002 291 ls (.int y :: .int x :: st) σ τ = mj_E 1002 292 ls (.int (x * y) :: st) σ τ := mj_nx i1002_291 rfl
theorem i1002_292 : mj_ins 1002 292 = some (.ireturn, 293) := by decide +kernel
theorem e1002_292 {ls : mj_L} {σ : mj_S} {τ : mj_T} {v : Int32} : mj_E 1002 292 ls [.int v] σ τ = some (some (.int v), σ, τ) := mj_irt i1002_292 rfl
theorem i1002_293 : mj_ins 1002 293 = some (.aload 0, 294) := by decide +kernel
theorem e1002_293 {ls : mj_L} {st : List Value} {σ : mj_S} {τ : mj_T} {v : Nat} : mj_E 1002 293 (some (.ref v) :: ls) st σ τ = mj_E 1002 294 (some (.ref v) :: ls) (.ref v :: st) σ τ := mj_nx i1002_293 rfl
theorem i1002_294 : mj_ins 1002 294 = some (.iconst (1), 295) := by decide +kernel
theorem e1002_294 {ls : mj_L} {st : List Value} {σ : mj_S} {τ : mj_T} : mj_E 1002 294 ls st σ τ = mj_E 1002 295 ls (.int (nI 1) :: st) σ τ := mj_nx i1002_294 rfl
theorem i1002_295 : mj_ins 1002 295 = some (.iload 7, 297) := by decide +kernel
theorem e1002_295 {ls : mj_L} {st : List Value} {σ : mj_S} {τ : mj_T} {a0 a1 a2 a3 a4 a5 a6 : Option Value} {v : Int32} : mj_E 1002 295 (a0 :: a1 :: a2 :: a3 :: a4 :: a5 :: a6 :: some (.int v) :: ls) st σ τ = mj_E 1002 297 (a0 :: a1 :: a2 :: a3 :: a4 :: a5 :: a6 :: some (.int v) :: ls) (.int v :: st) σ τ := mj_nx i1002_295 rfl
theorem i1002_297 : mj_ins 1002 297 = some (.iload 3, 298) := by decide +kernel
theorem e1002_297 {ls : mj_L} {st : List Value} {σ : mj_S} {τ : mj_T} {a0 a1 a2 : Option Value} {v : Int32} : mj_E 1002 297 (a0 :: a1 :: a2 :: some (.int v) :: ls) st σ τ = mj_E 1002 298 (a0 :: a1 :: a2 :: some (.int v) :: ls) (.int v :: st) σ τ := mj_nx i1002_297 rfl
theorem i1002_298 : mj_ins 1002 298 = some (.aload 0, 299) := by decide +kernel
theorem e1002_298 {ls : mj_L} {st : List Value} {σ : mj_S} {τ : mj_T} {v : Nat} : mj_E 1002 298 (some (.ref v) :: ls) st σ τ = mj_E 1002 299 (some (.ref v) :: ls) (.ref v :: st) σ τ := mj_nx i1002_298 rfl
theorem i1002_299 : mj_ins 1002 299 = some (.getfield 504, 302) := by decide +kernel
theorem e1002_299 {ls : mj_L} {st : List Value} {σ : mj_S} {τ : mj_T} : mj_E 1002 299 ls (.ref 59 :: st) σ τ = mj_E 1002 302 ls (.int (σ 59 4) :: st) σ τ := mj_nx i1002_299 rfl
theorem i1002_302 : mj_ins 1002 302 = some (.isub, 303) := by decide +kernel
theorem e1002_302 {ls : mj_L} {st : List Value} {σ : mj_S} {τ : mj_T} {x y : Int32} : mj_E 1002 302 ls (.int y :: .int x :: st) σ τ = mj_E 1002 303 ls (.int (x - y) :: st) σ τ := mj_nx i1002_302 rfl
theorem i1002_303 : mj_ins 1002 303 = some (.iload 8, 305) := by decide +kernel
theorem e1002_303 {ls : mj_L} {st : List Value} {σ : mj_S} {τ : mj_T} {a0 a1 a2 a3 a4 a5 a6 a7 : Option Value} {v : Int32} : mj_E 1002 303 (a0 :: a1 :: a2 :: a3 :: a4 :: a5 :: a6 :: a7 :: some (.int v) :: ls) st σ τ = mj_E 1002 305 (a0 :: a1 :: a2 :: a3 :: a4 :: a5 :: a6 :: a7 :: some (.int v) :: ls) (.int v :: st) σ τ := mj_nx i1002_303 rfl
theorem i1002_305 : mj_ins 1002 305 = some (.invokestatic 1003, 308) := by decide +kernel
theorem e1002_305 {ls : mj_L} {σ : mj_S} {τ : mj_T} {x0 : Nat} {x1 : Int32} {x2 : Int32} {x3 : Int32} {x4 : Int32} : mj_E 1002 305 ls [.int x4, .int x3, .int x2, .int x1, .ref x0] σ τ = mj_bd (mj_C 1003 [.ref x0, .int x1, .int x2, .int x3, .int x4] σ τ) (mj_K 1002 308 ls []) := mj_clS (as := [.ref x0, .int x1, .int x2, .int x3, .int x4]) (r := []) i1002_305 (by decide +kernel : mj_vk 1002 1003 5 0 5 false = true) rfl
theorem i1002_308 : mj_ins 1002 308 = some (.ireturn, 309) := by decide +kernel
theorem e1002_308 {ls : mj_L} {σ : mj_S} {τ : mj_T} {v : Int32} : mj_E 1002 308 ls [.int v] σ τ = some (some (.int v), σ, τ) := mj_irt i1002_308 rfl
theorem c1003 {σ : mj_S} {τ : mj_T} {x0 : Nat} {x1 : Int32} {x2 : Int32} {x3 : Int32} {x4 : Int32} : mj_C 1003 [.ref x0, .int x1, .int x2, .int x3, .int x4] σ τ = mj_E 1003 0 [some (.ref x0), some (.int x1), some (.int x2), some (.int x3), some (.int x4), none, none, none, none] [] σ τ := rfl
theorem i1003_0 : mj_ins 1003 0 = some (.iload 1, 1) := by decide +kernel
theorem e1003_0 {ls : mj_L} {st : List Value} {σ : mj_S} {τ : mj_T} {a0 : Option Value} {v : Int32} : mj_E 1003 0 (a0 :: some (.int v) :: ls) st σ τ = mj_E 1003 1 (a0 :: some (.int v) :: ls) (.int v :: st) σ τ := mj_nx i1003_0 rfl
theorem i1003_1 : mj_ins 1003 1 = some (.iload 2, 2) := by decide +kernel
theorem e1003_1 {ls : mj_L} {st : List Value} {σ : mj_S} {τ : mj_T} {a0 a1 : Option Value} {v : Int32} : mj_E 1003 1 (a0 :: a1 :: some (.int v) :: ls) st σ τ = mj_E 1003 2 (a0 :: a1 :: some (.int v) :: ls) (.int v :: st) σ τ := mj_nx i1003_1 rfl
theorem i1003_2 : mj_ins 1003 2 = some (.invokestatic 71, 5) := by decide +kernel
theorem e1003_2 {ls : mj_L} {σ : mj_S} {τ : mj_T} {x0 : Int32} {x1 : Int32} : mj_E 1003 2 ls [.int x1, .int x0] σ τ = mj_bd (mj_C 71 [.int x0, .int x1] σ τ) (mj_K 1003 5 ls []) := mj_clS (as := [.int x0, .int x1]) (r := []) i1003_2 (by decide +kernel : mj_vk 1003 71 2 0 2 false = true) rfl
theorem i1003_5 : mj_ins 1003 5 = some (.istore 5, 7) := by decide +kernel
theorem e1003_5 {ls : mj_L} {st : List Value} {σ : mj_S} {τ : mj_T} {a0 a1 a2 a3 a4 a5 : Option Value} {v : Int32} : mj_E 1003 5 (a0 :: a1 :: a2 :: a3 :: a4 :: a5 :: ls) (.int v :: st) σ τ = mj_E 1003 7 (a0 :: a1 :: a2 :: a3 :: a4 :: some (.int v) :: ls) st σ τ := mj_nx i1003_5 rfl
theorem i1003_7 : mj_ins 1003 7 = some (.iload 5, 9) := by decide +kernel
theorem e1003_7 {ls : mj_L} {st : List Value} {σ : mj_S} {τ : mj_T} {a0 a1 a2 a3 a4 : Option Value} {v : Int32} : mj_E 1003 7 (a0 :: a1 :: a2 :: a3 :: a4 :: some (.int v) :: ls) st σ τ = mj_E 1003 9 (a0 :: a1 :: a2 :: a3 :: a4 :: some (.int v) :: ls) (.int v :: st) σ τ := mj_nx i1003_7 rfl
theorem i1003_9 : mj_ins 1003 9 = some (.iconst (-1), 10) := by decide +kernel
theorem e1003_9 {ls : mj_L} {st : List Value} {σ : mj_S} {τ : mj_T} : mj_E 1003 9 ls st σ τ = mj_E 1003 10 ls (.int ((-1)) :: st) σ τ := mj_nx i1003_9 rfl
theorem i1003_10 : mj_ins 1003 10 = some (.if_icmp .eq 20, 13) := by decide +kernel
theorem e1003_10 {ls : mj_L} {st : List Value} {σ : mj_S} {τ : mj_T} {x y : Int32} : mj_E 1003 10 ls (.int y :: .int x :: st) σ τ = if x = y then mj_E 1003 20 ls st σ τ else mj_E 1003 13 ls st σ τ := (mj_ifi i1003_10).trans (mj_cdT rfl)
theorem i1003_13 : mj_ins 1003 13 = some (.iload 4, 15) := by decide +kernel
theorem e1003_13 {ls : mj_L} {st : List Value} {σ : mj_S} {τ : mj_T} {a0 a1 a2 a3 : Option Value} {v : Int32} : mj_E 1003 13 (a0 :: a1 :: a2 :: a3 :: some (.int v) :: ls) st σ τ = mj_E 1003 15 (a0 :: a1 :: a2 :: a3 :: some (.int v) :: ls) (.int v :: st) σ τ := mj_nx i1003_13 rfl
theorem i1003_15 : mj_ins 1003 15 = some (.iconst (20), 17) := by decide +kernel
theorem e1003_15 {ls : mj_L} {st : List Value} {σ : mj_S} {τ : mj_T} : mj_E 1003 15 ls st σ τ = mj_E 1003 17 ls (.int (nI 20) :: st) σ τ := mj_nx i1003_15 rfl
theorem i1003_17 : mj_ins 1003 17 = some (.if_icmp .le 22, 20) := by decide +kernel
theorem e1003_17 {ls : mj_L} {st : List Value} {σ : mj_S} {τ : mj_T} {x y : Int32} : mj_E 1003 17 ls (.int y :: .int x :: st) σ τ = if x ≤ y then mj_E 1003 22 ls st σ τ else mj_E 1003 20 ls st σ τ := (mj_ifi i1003_17).trans (mj_cdT rfl)
theorem i1003_20 : mj_ins 1003 20 = some (.iconst (0), 21) := by decide +kernel
theorem e1003_20 {ls : mj_L} {st : List Value} {σ : mj_S} {τ : mj_T} : mj_E 1003 20 ls st σ τ = mj_E 1003 21 ls (.int (nI 0) :: st) σ τ := mj_nx i1003_20 rfl
theorem i1003_21 : mj_ins 1003 21 = some (.ireturn, 22) := by decide +kernel
theorem e1003_21 {ls : mj_L} {σ : mj_S} {τ : mj_T} {v : Int32} : mj_E 1003 21 ls [.int v] σ τ = some (some (.int v), σ, τ) := mj_irt i1003_21 rfl
theorem i1003_22 : mj_ins 1003 22 = some (.getstatic 91, 25) := by decide +kernel
theorem e1003_22 {ls : mj_L} {st : List Value} {σ : mj_S} {τ : mj_T} : mj_E 1003 22 ls st σ τ = mj_E 1003 25 ls (.ref 91 :: st) σ τ := mj_nx i1003_22 rfl
theorem i1003_25 : mj_ins 1003 25 = some (.iconst (3), 26) := by decide +kernel
theorem e1003_25 {ls : mj_L} {st : List Value} {σ : mj_S} {τ : mj_T} : mj_E 1003 25 ls st σ τ = mj_E 1003 26 ls (.int (nI 3) :: st) σ τ := mj_nx i1003_25 rfl
theorem i1003_26 : mj_ins 1003 26 = some (.iload 5, 28) := by decide +kernel
theorem e1003_26 {ls : mj_L} {st : List Value} {σ : mj_S} {τ : mj_T} {a0 a1 a2 a3 a4 : Option Value} {v : Int32} : mj_E 1003 26 (a0 :: a1 :: a2 :: a3 :: a4 :: some (.int v) :: ls) st σ τ = mj_E 1003 28 (a0 :: a1 :: a2 :: a3 :: a4 :: some (.int v) :: ls) (.int v :: st) σ τ := mj_nx i1003_26 rfl
theorem i1003_28 : mj_ins 1003 28 = some (.imul, 29) := by decide +kernel
theorem e1003_28 {ls : mj_L} {st : List Value} {σ : mj_S} {τ : mj_T} {x y : Int32} : mj_E 1003 28 ls (.int y :: .int x :: st) σ τ = mj_E 1003 29 ls (.int (x * y) :: st) σ τ := mj_nx i1003_28 rfl
theorem i1003_29 : mj_ins 1003 29 = some (.iload 1, 30) := by decide +kernel
theorem e1003_29 {ls : mj_L} {st : List Value} {σ : mj_S} {τ : mj_T} {a0 : Option Value} {v : Int32} : mj_E 1003 29 (a0 :: some (.int v) :: ls) st σ τ = mj_E 1003 30 (a0 :: some (.int v) :: ls) (.int v :: st) σ τ := mj_nx i1003_29 rfl
theorem i1003_30 : mj_ins 1003 30 = some (.iadd, 31) := by decide +kernel
theorem e1003_30 {ls : mj_L} {st : List Value} {σ : mj_S} {τ : mj_T} {x y : Int32} : mj_E 1003 30 ls (.int y :: .int x :: st) σ τ = mj_E 1003 31 ls (.int (x + y) :: st) σ τ := mj_nx i1003_30 rfl
theorem i1003_31 : mj_ins 1003 31 = some (.iaload, 32) := by decide +kernel
theorem e1003_31 {ls : mj_L} {st : List Value} {σ : mj_S} {τ : mj_T} {x : Int32} {k : Nat} : mj_E 1003 31 ls (.int x :: .ref k :: st) σ τ = if mj_ib (mj_li σ k) x = true then mj_E 1003 32 ls (.int (σ k x.toNatClampNeg) :: st) σ τ else none := mj_ald i1003_31
theorem i1003_32 : mj_ins 1003 32 = some (.istore 6, 34) := by decide +kernel
theorem e1003_32 {ls : mj_L} {st : List Value} {σ : mj_S} {τ : mj_T} {a0 a1 a2 a3 a4 a5 a6 : Option Value} {v : Int32} : mj_E 1003 32 (a0 :: a1 :: a2 :: a3 :: a4 :: a5 :: a6 :: ls) (.int v :: st) σ τ = mj_E 1003 34 (a0 :: a1 :: a2 :: a3 :: a4 :: a5 :: some (.int v) :: ls) st σ τ := mj_nx i1003_32 rfl
theorem i1003_34 : mj_ins 1003 34 = some (.aload 0, 35) := by decide +kernel
theorem e1003_34 {ls : mj_L} {st : List Value} {σ : mj_S} {τ : mj_T} {v : Nat} : mj_E 1003 34 (some (.ref v) :: ls) st σ τ = mj_E 1003 35 (some (.ref v) :: ls) (.ref v :: st) σ τ := mj_nx i1003_34 rfl
theorem i1003_35 : mj_ins 1003 35 = some (.iload 6, 37) := by decide +kernel
theorem e1003_35 {ls : mj_L} {st : List Value} {σ : mj_S} {τ : mj_T} {a0 a1 a2 a3 a4 a5 : Option Value} {v : Int32} : mj_E 1003 35 (a0 :: a1 :: a2 :: a3 :: a4 :: a5 :: some (.int v) :: ls) st σ τ = mj_E 1003 37 (a0 :: a1 :: a2 :: a3 :: a4 :: a5 :: some (.int v) :: ls) (.int v :: st) σ τ := mj_nx i1003_35 rfl
theorem i1003_37 : mj_ins 1003 37 = some (.invokevirtual 72, 40) := by decide +kernel
theorem e1003_37 {ls : mj_L} {σ : mj_S} {τ : mj_T} {r : Nat} {x0 : Int32} : mj_E 1003 37 ls [.int x0, .ref r] σ τ = if mj_rcv r 5 = true then mj_bd (mj_C 72 [.ref r, .int x0] σ τ) (mj_K 1003 40 ls []) else none := mj_clV (as := [.int x0]) (r := []) i1003_37 (by decide +kernel : mj_vk 1003 72 1 0 2 false = true) (by decide +kernel)
theorem i1003_40 : mj_ins 1003 40 = some (.iload 5, 42) := by decide +kernel
theorem e1003_40 {ls : mj_L} {st : List Value} {σ : mj_S} {τ : mj_T} {a0 a1 a2 a3 a4 : Option Value} {v : Int32} : mj_E 1003 40 (a0 :: a1 :: a2 :: a3 :: a4 :: some (.int v) :: ls) st σ τ = mj_E 1003 42 (a0 :: a1 :: a2 :: a3 :: a4 :: some (.int v) :: ls) (.int v :: st) σ τ := mj_nx i1003_40 rfl
theorem i1003_42 : mj_ins 1003 42 = some (.invokestatic 4, 45) := by decide +kernel
theorem e1003_42 {ls : mj_L} {σ : mj_S} {τ : mj_T} {x0 : Int32} : mj_E 1003 42 ls [.int x0] σ τ = mj_bd (mj_C 4 [.int x0] σ τ) (mj_K 1003 45 ls []) := mj_clS (as := [.int x0]) (r := []) i1003_42 (by decide +kernel : mj_vk 1003 4 1 0 1 false = true) rfl
theorem i1003_45 : mj_ins 1003 45 = some (.istore 7, 47) := by decide +kernel
theorem e1003_45 {ls : mj_L} {st : List Value} {σ : mj_S} {τ : mj_T} {a0 a1 a2 a3 a4 a5 a6 a7 : Option Value} {v : Int32} : mj_E 1003 45 (a0 :: a1 :: a2 :: a3 :: a4 :: a5 :: a6 :: a7 :: ls) (.int v :: st) σ τ = mj_E 1003 47 (a0 :: a1 :: a2 :: a3 :: a4 :: a5 :: a6 :: some (.int v) :: ls) st σ τ := mj_nx i1003_45 rfl
theorem i1003_47 : mj_ins 1003 47 = some (.iload 4, 49) := by decide +kernel
theorem e1003_47 {ls : mj_L} {st : List Value} {σ : mj_S} {τ : mj_T} {a0 a1 a2 a3 : Option Value} {v : Int32} : mj_E 1003 47 (a0 :: a1 :: a2 :: a3 :: some (.int v) :: ls) st σ τ = mj_E 1003 49 (a0 :: a1 :: a2 :: a3 :: some (.int v) :: ls) (.int v :: st) σ τ := mj_nx i1003_47 rfl
theorem i1003_49 : mj_ins 1003 49 = some (.iconst (1), 50) := by decide +kernel
theorem e1003_49 {ls : mj_L} {st : List Value} {σ : mj_S} {τ : mj_T} : mj_E 1003 49 ls st σ τ = mj_E 1003 50 ls (.int (nI 1) :: st) σ τ := mj_nx i1003_49 rfl
theorem i1003_50 : mj_ins 1003 50 = some (.iadd, 51) := by decide +kernel
theorem e1003_50 {ls : mj_L} {st : List Value} {σ : mj_S} {τ : mj_T} {x y : Int32} : mj_E 1003 50 ls (.int y :: .int x :: st) σ τ = mj_E 1003 51 ls (.int (x + y) :: st) σ τ := mj_nx i1003_50 rfl
theorem i1003_51 : mj_ins 1003 51 = some (.istore 8, 53) := by decide +kernel
theorem e1003_51 {ls : mj_L} {st : List Value} {σ : mj_S} {τ : mj_T} {a0 a1 a2 a3 a4 a5 a6 a7 a8 : Option Value} {v : Int32} : mj_E 1003 51 (a0 :: a1 :: a2 :: a3 :: a4 :: a5 :: a6 :: a7 :: a8 :: ls) (.int v :: st) σ τ = mj_E 1003 53 (a0 :: a1 :: a2 :: a3 :: a4 :: a5 :: a6 :: a7 :: some (.int v) :: ls) st σ τ := mj_nx i1003_51 rfl
theorem i1003_53 : mj_ins 1003 53 = some (.iload 6, 55) := by decide +kernel
theorem e1003_53 {ls : mj_L} {st : List Value} {σ : mj_S} {τ : mj_T} {a0 a1 a2 a3 a4 a5 : Option Value} {v : Int32} : mj_E 1003 53 (a0 :: a1 :: a2 :: a3 :: a4 :: a5 :: some (.int v) :: ls) st σ τ = mj_E 1003 55 (a0 :: a1 :: a2 :: a3 :: a4 :: a5 :: some (.int v) :: ls) (.int v :: st) σ τ := mj_nx i1003_53 rfl
theorem i1003_55 : mj_ins 1003 55 = some (.lookupswitch (238) #[(10, 89), (11, 96), (12, 111), (20, 142), (30, 158), (40, 171), (50, 184), (51, 196), (60, 212), (70, 225)], 55) := by decide +kernel
theorem e1003_55 {ls : mj_L} {st : List Value} {σ : mj_S} {τ : mj_T} {x : Int32} : mj_E 1003 55 ls (.int x :: st) σ τ = if x = nI 10 then mj_E 1003 144 ls st σ τ else if x = nI 11 then mj_E 1003 151 ls st σ τ else if x = nI 12 then mj_E 1003 166 ls st σ τ else if x = nI 20 then mj_E 1003 197 ls st σ τ else if x = nI 30 then mj_E 1003 213 ls st σ τ else if x = nI 40 then mj_E 1003 226 ls st σ τ else if x = nI 50 then mj_E 1003 239 ls st σ τ else if x = nI 51 then mj_E 1003 251 ls st σ τ else if x = nI 60 then mj_E 1003 267 ls st σ τ else if x = nI 70 then mj_E 1003 280 ls st σ τ else mj_E 1003 293 ls st σ τ := mj_lusw i1003_55 rfl
theorem i1003_144 : mj_ins 1003 144 = some (.iload 3, 145) := by decide +kernel
theorem e1003_144 {ls : mj_L} {st : List Value} {σ : mj_S} {τ : mj_T} {a0 a1 a2 : Option Value} {v : Int32} : mj_E 1003 144 (a0 :: a1 :: a2 :: some (.int v) :: ls) st σ τ = mj_E 1003 145 (a0 :: a1 :: a2 :: some (.int v) :: ls) (.int v :: st) σ τ := mj_nx i1003_144 rfl
theorem i1003_145 : mj_ins 1003 145 = some (.aload 0, 146) := by decide +kernel
theorem e1003_145 {ls : mj_L} {st : List Value} {σ : mj_S} {τ : mj_T} {v : Nat} : mj_E 1003 145 (some (.ref v) :: ls) st σ τ = mj_E 1003 146 (some (.ref v) :: ls) (.ref v :: st) σ τ := mj_nx i1003_145 rfl
theorem i1003_146 : mj_ins 1003 146 = some (.getfield 503, 149) := by decide +kernel
theorem e1003_146 {ls : mj_L} {st : List Value} {σ : mj_S} {τ : mj_T} : mj_E 1003 146 ls (.ref 59 :: st) σ τ = mj_E 1003 149 ls (.int (σ 59 3) :: st) σ τ := mj_nx i1003_146 rfl
theorem i1003_149 : mj_ins 1003 149 = some (.iadd, 150) := by decide +kernel
theorem e1003_149 {ls : mj_L} {st : List Value} {σ : mj_S} {τ : mj_T} {x y : Int32} : mj_E 1003 149 ls (.int y :: .int x :: st) σ τ = mj_E 1003 150 ls (.int (x + y) :: st) σ τ := mj_nx i1003_149 rfl
theorem i1003_150 : mj_ins 1003 150 = some (.ireturn, 151) := by decide +kernel
theorem e1003_150 {ls : mj_L} {σ : mj_S} {τ : mj_T} {v : Int32} : mj_E 1003 150 ls [.int v] σ τ = some (some (.int v), σ, τ) := mj_irt i1003_150 rfl
theorem i1003_151 : mj_ins 1003 151 = some (.aload 0, 152) := by decide +kernel
theorem e1003_151 {ls : mj_L} {st : List Value} {σ : mj_S} {τ : mj_T} {v : Nat} : mj_E 1003 151 (some (.ref v) :: ls) st σ τ = mj_E 1003 152 (some (.ref v) :: ls) (.ref v :: st) σ τ := mj_nx i1003_151 rfl
theorem i1003_152 : mj_ins 1003 152 = some (.iconst (0), 153) := by decide +kernel
theorem e1003_152 {ls : mj_L} {st : List Value} {σ : mj_S} {τ : mj_T} : mj_E 1003 152 ls st σ τ = mj_E 1003 153 ls (.int (nI 0) :: st) σ τ := mj_nx i1003_152 rfl
theorem i1003_153 : mj_ins 1003 153 = some (.aload 0, 154) := by decide +kernel
theorem e1003_153 {ls : mj_L} {st : List Value} {σ : mj_S} {τ : mj_T} {v : Nat} : mj_E 1003 153 (some (.ref v) :: ls) st σ τ = mj_E 1003 154 (some (.ref v) :: ls) (.ref v :: st) σ τ := mj_nx i1003_153 rfl
theorem i1003_154 : mj_ins 1003 154 = some (.getfield 502, 157) := by decide +kernel
theorem e1003_154 {ls : mj_L} {st : List Value} {σ : mj_S} {τ : mj_T} : mj_E 1003 154 ls (.ref 59 :: st) σ τ = mj_E 1003 157 ls (.int (σ 59 2) :: st) σ τ := mj_nx i1003_154 rfl
theorem i1003_157 : mj_ins 1003 157 = some (.iload 3, 158) := by decide +kernel
theorem e1003_157 {ls : mj_L} {st : List Value} {σ : mj_S} {τ : mj_T} {a0 a1 a2 : Option Value} {v : Int32} : mj_E 1003 157 (a0 :: a1 :: a2 :: some (.int v) :: ls) st σ τ = mj_E 1003 158 (a0 :: a1 :: a2 :: some (.int v) :: ls) (.int v :: st) σ τ := mj_nx i1003_157 rfl
theorem i1003_158 : mj_ins 1003 158 = some (.iload 8, 160) := by decide +kernel
theorem e1003_158 {ls : mj_L} {st : List Value} {σ : mj_S} {τ : mj_T} {a0 a1 a2 a3 a4 a5 a6 a7 : Option Value} {v : Int32} : mj_E 1003 158 (a0 :: a1 :: a2 :: a3 :: a4 :: a5 :: a6 :: a7 :: some (.int v) :: ls) st σ τ = mj_E 1003 160 (a0 :: a1 :: a2 :: a3 :: a4 :: a5 :: a6 :: a7 :: some (.int v) :: ls) (.int v :: st) σ τ := mj_nx i1003_158 rfl
theorem i1003_160 : mj_ins 1003 160 = some (.invokestatic 1004, 163) := by decide +kernel
theorem e1003_160 {ls : mj_L} {σ : mj_S} {τ : mj_T} {x0 : Nat} {x1 : Int32} {x2 : Int32} {x3 : Int32} {x4 : Int32} : mj_E 1003 160 ls [.int x4, .int x3, .int x2, .int x1, .ref x0] σ τ = mj_bd (mj_C 1004 [.ref x0, .int x1, .int x2, .int x3, .int x4] σ τ) (mj_K 1003 163 ls []) := mj_clS (as := [.ref x0, .int x1, .int x2, .int x3, .int x4]) (r := []) i1003_160 (by decide +kernel : mj_vk 1003 1004 5 0 5 false = true) rfl
theorem i1003_163 : mj_ins 1003 163 = some (.iconst (2), 164) := by decide +kernel
theorem e1003_163 {ls : mj_L} {st : List Value} {σ : mj_S} {τ : mj_T} : mj_E 1003 163 ls st σ τ = mj_E 1003 164 ls (.int (nI 2) :: st) σ τ := mj_nx i1003_163 rfl
theorem i1003_164 : mj_ins 1003 164 = some (.imul, 165) := by decide +kernel
theorem e1003_164 {ls : mj_L} {st : List Value} {σ : mj_S} {τ : mj_T} {x y : Int32} : mj_E 1003 164 ls (.int y :: .int x :: st) σ τ = mj_E 1003 165 ls (.int (x * y) :: st) σ τ := mj_nx i1003_164 rfl
theorem i1003_165 : mj_ins 1003 165 = some (.ireturn, 166) := by decide +kernel
theorem e1003_165 {ls : mj_L} {σ : mj_S} {τ : mj_T} {v : Int32} : mj_E 1003 165 ls [.int v] σ τ = some (some (.int v), σ, τ) := mj_irt i1003_165 rfl
theorem i1003_166 : mj_ins 1003 166 = some (.aload 0, 167) := by decide +kernel
theorem e1003_166 {ls : mj_L} {st : List Value} {σ : mj_S} {τ : mj_T} {v : Nat} : mj_E 1003 166 (some (.ref v) :: ls) st σ τ = mj_E 1003 167 (some (.ref v) :: ls) (.ref v :: st) σ τ := mj_nx i1003_166 rfl
theorem i1003_167 : mj_ins 1003 167 = some (.iconst (1), 168) := by decide +kernel
theorem e1003_167 {ls : mj_L} {st : List Value} {σ : mj_S} {τ : mj_T} : mj_E 1003 167 ls st σ τ = mj_E 1003 168 ls (.int (nI 1) :: st) σ τ := mj_nx i1003_167 rfl
theorem i1003_168 : mj_ins 1003 168 = some (.aload 0, 169) := by decide +kernel
theorem e1003_168 {ls : mj_L} {st : List Value} {σ : mj_S} {τ : mj_T} {v : Nat} : mj_E 1003 168 (some (.ref v) :: ls) st σ τ = mj_E 1003 169 (some (.ref v) :: ls) (.ref v :: st) σ τ := mj_nx i1003_168 rfl
theorem i1003_169 : mj_ins 1003 169 = some (.getfield 502, 172) := by decide +kernel
theorem e1003_169 {ls : mj_L} {st : List Value} {σ : mj_S} {τ : mj_T} : mj_E 1003 169 ls (.ref 59 :: st) σ τ = mj_E 1003 172 ls (.int (σ 59 2) :: st) σ τ := mj_nx i1003_169 rfl
theorem i1003_172 : mj_ins 1003 172 = some (.iload 3, 173) := by decide +kernel
theorem e1003_172 {ls : mj_L} {st : List Value} {σ : mj_S} {τ : mj_T} {a0 a1 a2 : Option Value} {v : Int32} : mj_E 1003 172 (a0 :: a1 :: a2 :: some (.int v) :: ls) st σ τ = mj_E 1003 173 (a0 :: a1 :: a2 :: some (.int v) :: ls) (.int v :: st) σ τ := mj_nx i1003_172 rfl
theorem i1003_173 : mj_ins 1003 173 = some (.iload 8, 175) := by decide +kernel
theorem e1003_173 {ls : mj_L} {st : List Value} {σ : mj_S} {τ : mj_T} {a0 a1 a2 a3 a4 a5 a6 a7 : Option Value} {v : Int32} : mj_E 1003 173 (a0 :: a1 :: a2 :: a3 :: a4 :: a5 :: a6 :: a7 :: some (.int v) :: ls) st σ τ = mj_E 1003 175 (a0 :: a1 :: a2 :: a3 :: a4 :: a5 :: a6 :: a7 :: some (.int v) :: ls) (.int v :: st) σ τ := mj_nx i1003_173 rfl
theorem i1003_175 : mj_ins 1003 175 = some (.invokestatic 1004, 178) := by decide +kernel
theorem e1003_175 {ls : mj_L} {σ : mj_S} {τ : mj_T} {x0 : Nat} {x1 : Int32} {x2 : Int32} {x3 : Int32} {x4 : Int32} : mj_E 1003 175 ls [.int x4, .int x3, .int x2, .int x1, .ref x0] σ τ = mj_bd (mj_C 1004 [.ref x0, .int x1, .int x2, .int x3, .int x4] σ τ) (mj_K 1003 178 ls []) := mj_clS (as := [.ref x0, .int x1, .int x2, .int x3, .int x4]) (r := []) i1003_175 (by decide +kernel : mj_vk 1003 1004 5 0 5 false = true) rfl
theorem i1003_178 : mj_ins 1003 178 = some (.aload 0, 179) := by decide +kernel
theorem e1003_178 {ls : mj_L} {st : List Value} {σ : mj_S} {τ : mj_T} {v : Nat} : mj_E 1003 178 (some (.ref v) :: ls) st σ τ = mj_E 1003 179 (some (.ref v) :: ls) (.ref v :: st) σ τ := mj_nx i1003_178 rfl
theorem i1003_179 : mj_ins 1003 179 = some (.iconst (0), 180) := by decide +kernel
theorem e1003_179 {ls : mj_L} {st : List Value} {σ : mj_S} {τ : mj_T} : mj_E 1003 179 ls st σ τ = mj_E 1003 180 ls (.int (nI 0) :: st) σ τ := mj_nx i1003_179 rfl
theorem i1003_180 : mj_ins 1003 180 = some (.aload 0, 181) := by decide +kernel
theorem e1003_180 {ls : mj_L} {st : List Value} {σ : mj_S} {τ : mj_T} {v : Nat} : mj_E 1003 180 (some (.ref v) :: ls) st σ τ = mj_E 1003 181 (some (.ref v) :: ls) (.ref v :: st) σ τ := mj_nx i1003_180 rfl
theorem i1003_181 : mj_ins 1003 181 = some (.getfield 502, 184) := by decide +kernel
theorem e1003_181 {ls : mj_L} {st : List Value} {σ : mj_S} {τ : mj_T} : mj_E 1003 181 ls (.ref 59 :: st) σ τ = mj_E 1003 184 ls (.int (σ 59 2) :: st) σ τ := mj_nx i1003_181 rfl
theorem i1003_184 : mj_ins 1003 184 = some (.iload 3, 185) := by decide +kernel
theorem e1003_184 {ls : mj_L} {st : List Value} {σ : mj_S} {τ : mj_T} {a0 a1 a2 : Option Value} {v : Int32} : mj_E 1003 184 (a0 :: a1 :: a2 :: some (.int v) :: ls) st σ τ = mj_E 1003 185 (a0 :: a1 :: a2 :: some (.int v) :: ls) (.int v :: st) σ τ := mj_nx i1003_184 rfl
theorem i1003_185 : mj_ins 1003 185 = some (.aload 0, 186) := by decide +kernel
theorem e1003_185 {ls : mj_L} {st : List Value} {σ : mj_S} {τ : mj_T} {v : Nat} : mj_E 1003 185 (some (.ref v) :: ls) st σ τ = mj_E 1003 186 (some (.ref v) :: ls) (.ref v :: st) σ τ := mj_nx i1003_185 rfl
theorem i1003_186 : mj_ins 1003 186 = some (.getfield 504, 189) := by decide +kernel
theorem e1003_186 {ls : mj_L} {st : List Value} {σ : mj_S} {τ : mj_T} : mj_E 1003 186 ls (.ref 59 :: st) σ τ = mj_E 1003 189 ls (.int (σ 59 4) :: st) σ τ := mj_nx i1003_186 rfl
theorem i1003_189 : mj_ins 1003 189 = some (.isub, 190) := by decide +kernel
theorem e1003_189 {ls : mj_L} {st : List Value} {σ : mj_S} {τ : mj_T} {x y : Int32} : mj_E 1003 189 ls (.int y :: .int x :: st) σ τ = mj_E 1003 190 ls (.int (x - y) :: st) σ τ := mj_nx i1003_189 rfl
theorem i1003_190 : mj_ins 1003 190 = some (.iload 8, 192) := by decide +kernel
theorem e1003_190 {ls : mj_L} {st : List Value} {σ : mj_S} {τ : mj_T} {a0 a1 a2 a3 a4 a5 a6 a7 : Option Value} {v : Int32} : mj_E 1003 190 (a0 :: a1 :: a2 :: a3 :: a4 :: a5 :: a6 :: a7 :: some (.int v) :: ls) st σ τ = mj_E 1003 192 (a0 :: a1 :: a2 :: a3 :: a4 :: a5 :: a6 :: a7 :: some (.int v) :: ls) (.int v :: st) σ τ := mj_nx i1003_190 rfl
theorem i1003_192 : mj_ins 1003 192 = some (.invokestatic 1004, 195) := by decide +kernel
theorem e1003_192 {ls : mj_L} {σ : mj_S} {τ : mj_T} {x0 : Nat} {x1 : Int32} {x2 : Int32} {x3 : Int32} {x4 : Int32} {w0 : Value} : mj_E 1003 192 ls [.int x4, .int x3, .int x2, .int x1, .ref x0, w0] σ τ = mj_bd (mj_C 1004 [.ref x0, .int x1, .int x2, .int x3, .int x4] σ τ) (mj_K 1003 195 ls [w0]) := mj_clS (as := [.ref x0, .int x1, .int x2, .int x3, .int x4]) (r := [w0]) i1003_192 (by decide +kernel : mj_vk 1003 1004 5 1 5 false = true) rfl
theorem i1003_195 : mj_ins 1003 195 = some (.ixor, 196) := by decide +kernel
theorem e1003_195 {ls : mj_L} {st : List Value} {σ : mj_S} {τ : mj_T} {x y : Int32} : mj_E 1003 195 ls (.int y :: .int x :: st) σ τ = mj_E 1003 196 ls (.int (x ^^^ y) :: st) σ τ := mj_nx i1003_195 rfl
theorem i1003_196 : mj_ins 1003 196 = some (.ireturn, 197) := by decide +kernel
theorem e1003_196 {ls : mj_L} {σ : mj_S} {τ : mj_T} {v : Int32} : mj_E 1003 196 ls [.int v] σ τ = some (some (.int v), σ, τ) := mj_irt i1003_196 rfl
theorem i1003_197 : mj_ins 1003 197 = some (.aload 0, 198) := by decide +kernel
theorem e1003_197 {ls : mj_L} {st : List Value} {σ : mj_S} {τ : mj_T} {v : Nat} : mj_E 1003 197 (some (.ref v) :: ls) st σ τ = mj_E 1003 198 (some (.ref v) :: ls) (.ref v :: st) σ τ := mj_nx i1003_197 rfl
theorem i1003_198 : mj_ins 1003 198 = some (.iconst (0), 199) := by decide +kernel
theorem e1003_198 {ls : mj_L} {st : List Value} {σ : mj_S} {τ : mj_T} : mj_E 1003 198 ls st σ τ = mj_E 1003 199 ls (.int (nI 0) :: st) σ τ := mj_nx i1003_198 rfl
theorem i1003_199 : mj_ins 1003 199 = some (.iload 7, 201) := by decide +kernel
theorem e1003_199 {ls : mj_L} {st : List Value} {σ : mj_S} {τ : mj_T} {a0 a1 a2 a3 a4 a5 a6 : Option Value} {v : Int32} : mj_E 1003 199 (a0 :: a1 :: a2 :: a3 :: a4 :: a5 :: a6 :: some (.int v) :: ls) st σ τ = mj_E 1003 201 (a0 :: a1 :: a2 :: a3 :: a4 :: a5 :: a6 :: some (.int v) :: ls) (.int v :: st) σ τ := mj_nx i1003_199 rfl
theorem i1003_201 : mj_ins 1003 201 = some (.iload 3, 202) := by decide +kernel
theorem e1003_201 {ls : mj_L} {st : List Value} {σ : mj_S} {τ : mj_T} {a0 a1 a2 : Option Value} {v : Int32} : mj_E 1003 201 (a0 :: a1 :: a2 :: some (.int v) :: ls) st σ τ = mj_E 1003 202 (a0 :: a1 :: a2 :: some (.int v) :: ls) (.int v :: st) σ τ := mj_nx i1003_201 rfl
theorem i1003_202 : mj_ins 1003 202 = some (.iload 8, 204) := by decide +kernel
theorem e1003_202 {ls : mj_L} {st : List Value} {σ : mj_S} {τ : mj_T} {a0 a1 a2 a3 a4 a5 a6 a7 : Option Value} {v : Int32} : mj_E 1003 202 (a0 :: a1 :: a2 :: a3 :: a4 :: a5 :: a6 :: a7 :: some (.int v) :: ls) st σ τ = mj_E 1003 204 (a0 :: a1 :: a2 :: a3 :: a4 :: a5 :: a6 :: a7 :: some (.int v) :: ls) (.int v :: st) σ τ := mj_nx i1003_202 rfl
theorem i1003_204 : mj_ins 1003 204 = some (.invokestatic 1004, 207) := by decide +kernel
theorem e1003_204 {ls : mj_L} {σ : mj_S} {τ : mj_T} {x0 : Nat} {x1 : Int32} {x2 : Int32} {x3 : Int32} {x4 : Int32} : mj_E 1003 204 ls [.int x4, .int x3, .int x2, .int x1, .ref x0] σ τ = mj_bd (mj_C 1004 [.ref x0, .int x1, .int x2, .int x3, .int x4] σ τ) (mj_K 1003 207 ls []) := mj_clS (as := [.ref x0, .int x1, .int x2, .int x3, .int x4]) (r := []) i1003_204 (by decide +kernel : mj_vk 1003 1004 5 0 5 false = true) rfl
theorem i1003_207 : mj_ins 1003 207 = some (.aload 0, 208) := by decide +kernel
theorem e1003_207 {ls : mj_L} {st : List Value} {σ : mj_S} {τ : mj_T} {v : Nat} : mj_E 1003 207 (some (.ref v) :: ls) st σ τ = mj_E 1003 208 (some (.ref v) :: ls) (.ref v :: st) σ τ := mj_nx i1003_207 rfl
theorem i1003_208 : mj_ins 1003 208 = some (.getfield 504, 211) := by decide +kernel
theorem e1003_208 {ls : mj_L} {st : List Value} {σ : mj_S} {τ : mj_T} : mj_E 1003 208 ls (.ref 59 :: st) σ τ = mj_E 1003 211 ls (.int (σ 59 4) :: st) σ τ := mj_nx i1003_208 rfl
theorem i1003_211 : mj_ins 1003 211 = some (.iadd, 212) := by decide +kernel
theorem e1003_211 {ls : mj_L} {st : List Value} {σ : mj_S} {τ : mj_T} {x y : Int32} : mj_E 1003 211 ls (.int y :: .int x :: st) σ τ = mj_E 1003 212 ls (.int (x + y) :: st) σ τ := mj_nx i1003_211 rfl
theorem i1003_212 : mj_ins 1003 212 = some (.ireturn, 213) := by decide +kernel
theorem e1003_212 {ls : mj_L} {σ : mj_S} {τ : mj_T} {v : Int32} : mj_E 1003 212 ls [.int v] σ τ = some (some (.int v), σ, τ) := mj_irt i1003_212 rfl
theorem i1003_213 : mj_ins 1003 213 = some (.aload 0, 214) := by decide +kernel
theorem e1003_213 {ls : mj_L} {st : List Value} {σ : mj_S} {τ : mj_T} {v : Nat} : mj_E 1003 213 (some (.ref v) :: ls) st σ τ = mj_E 1003 214 (some (.ref v) :: ls) (.ref v :: st) σ τ := mj_nx i1003_213 rfl
theorem i1003_214 : mj_ins 1003 214 = some (.iconst (1), 215) := by decide +kernel
theorem e1003_214 {ls : mj_L} {st : List Value} {σ : mj_S} {τ : mj_T} : mj_E 1003 214 ls st σ τ = mj_E 1003 215 ls (.int (nI 1) :: st) σ τ := mj_nx i1003_214 rfl
theorem i1003_215 : mj_ins 1003 215 = some (.iload 7, 217) := by decide +kernel
theorem e1003_215 {ls : mj_L} {st : List Value} {σ : mj_S} {τ : mj_T} {a0 a1 a2 a3 a4 a5 a6 : Option Value} {v : Int32} : mj_E 1003 215 (a0 :: a1 :: a2 :: a3 :: a4 :: a5 :: a6 :: some (.int v) :: ls) st σ τ = mj_E 1003 217 (a0 :: a1 :: a2 :: a3 :: a4 :: a5 :: a6 :: some (.int v) :: ls) (.int v :: st) σ τ := mj_nx i1003_215 rfl
theorem i1003_217 : mj_ins 1003 217 = some (.iload 3, 218) := by decide +kernel
theorem e1003_217 {ls : mj_L} {st : List Value} {σ : mj_S} {τ : mj_T} {a0 a1 a2 : Option Value} {v : Int32} : mj_E 1003 217 (a0 :: a1 :: a2 :: some (.int v) :: ls) st σ τ = mj_E 1003 218 (a0 :: a1 :: a2 :: some (.int v) :: ls) (.int v :: st) σ τ := mj_nx i1003_217 rfl
theorem i1003_218 : mj_ins 1003 218 = some (.iload 8, 220) := by decide +kernel
theorem e1003_218 {ls : mj_L} {st : List Value} {σ : mj_S} {τ : mj_T} {a0 a1 a2 a3 a4 a5 a6 a7 : Option Value} {v : Int32} : mj_E 1003 218 (a0 :: a1 :: a2 :: a3 :: a4 :: a5 :: a6 :: a7 :: some (.int v) :: ls) st σ τ = mj_E 1003 220 (a0 :: a1 :: a2 :: a3 :: a4 :: a5 :: a6 :: a7 :: some (.int v) :: ls) (.int v :: st) σ τ := mj_nx i1003_218 rfl
theorem i1003_220 : mj_ins 1003 220 = some (.invokestatic 1004, 223) := by decide +kernel
theorem e1003_220 {ls : mj_L} {σ : mj_S} {τ : mj_T} {x0 : Nat} {x1 : Int32} {x2 : Int32} {x3 : Int32} {x4 : Int32} : mj_E 1003 220 ls [.int x4, .int x3, .int x2, .int x1, .ref x0] σ τ = mj_bd (mj_C 1004 [.ref x0, .int x1, .int x2, .int x3, .int x4] σ τ) (mj_K 1003 223 ls []) := mj_clS (as := [.ref x0, .int x1, .int x2, .int x3, .int x4]) (r := []) i1003_220 (by decide +kernel : mj_vk 1003 1004 5 0 5 false = true) rfl
theorem i1003_223 : mj_ins 1003 223 = some (.iconst (3), 224) := by decide +kernel
theorem e1003_223 {ls : mj_L} {st : List Value} {σ : mj_S} {τ : mj_T} : mj_E 1003 223 ls st σ τ = mj_E 1003 224 ls (.int (nI 3) :: st) σ τ := mj_nx i1003_223 rfl
theorem i1003_224 : mj_ins 1003 224 = some (.imul, 225) := by decide +kernel
theorem e1003_224 {ls : mj_L} {st : List Value} {σ : mj_S} {τ : mj_T} {x y : Int32} : mj_E 1003 224 ls (.int y :: .int x :: st) σ τ = mj_E 1003 225 ls (.int (x * y) :: st) σ τ := mj_nx i1003_224 rfl
theorem i1003_225 : mj_ins 1003 225 = some (.ireturn, 226) := by decide +kernel
theorem e1003_225 {ls : mj_L} {σ : mj_S} {τ : mj_T} {v : Int32} : mj_E 1003 225 ls [.int v] σ τ = some (some (.int v), σ, τ) := mj_irt i1003_225 rfl
theorem i1003_226 : mj_ins 1003 226 = some (.aload 0, 227) := by decide +kernel
theorem e1003_226 {ls : mj_L} {st : List Value} {σ : mj_S} {τ : mj_T} {v : Nat} : mj_E 1003 226 (some (.ref v) :: ls) st σ τ = mj_E 1003 227 (some (.ref v) :: ls) (.ref v :: st) σ τ := mj_nx i1003_226 rfl
theorem i1003_227 : mj_ins 1003 227 = some (.iconst (1), 228) := by decide +kernel
theorem e1003_227 {ls : mj_L} {st : List Value} {σ : mj_S} {τ : mj_T} : mj_E 1003 227 ls st σ τ = mj_E 1003 228 ls (.int (nI 1) :: st) σ τ := mj_nx i1003_227 rfl
theorem i1003_228 : mj_ins 1003 228 = some (.iload 7, 230) := by decide +kernel
theorem e1003_228 {ls : mj_L} {st : List Value} {σ : mj_S} {τ : mj_T} {a0 a1 a2 a3 a4 a5 a6 : Option Value} {v : Int32} : mj_E 1003 228 (a0 :: a1 :: a2 :: a3 :: a4 :: a5 :: a6 :: some (.int v) :: ls) st σ τ = mj_E 1003 230 (a0 :: a1 :: a2 :: a3 :: a4 :: a5 :: a6 :: some (.int v) :: ls) (.int v :: st) σ τ := mj_nx i1003_228 rfl
theorem i1003_230 : mj_ins 1003 230 = some (.iload 3, 231) := by decide +kernel
theorem e1003_230 {ls : mj_L} {st : List Value} {σ : mj_S} {τ : mj_T} {a0 a1 a2 : Option Value} {v : Int32} : mj_E 1003 230 (a0 :: a1 :: a2 :: some (.int v) :: ls) st σ τ = mj_E 1003 231 (a0 :: a1 :: a2 :: some (.int v) :: ls) (.int v :: st) σ τ := mj_nx i1003_230 rfl
theorem i1003_231 : mj_ins 1003 231 = some (.iconst (1), 232) := by decide +kernel
theorem e1003_231 {ls : mj_L} {st : List Value} {σ : mj_S} {τ : mj_T} : mj_E 1003 231 ls st σ τ = mj_E 1003 232 ls (.int (nI 1) :: st) σ τ := mj_nx i1003_231 rfl
theorem i1003_232 : mj_ins 1003 232 = some (.iadd, 233) := by decide +kernel
theorem e1003_232 {ls : mj_L} {st : List Value} {σ : mj_S} {τ : mj_T} {x y : Int32} : mj_E 1003 232 ls (.int y :: .int x :: st) σ τ = mj_E 1003 233 ls (.int (x + y) :: st) σ τ := mj_nx i1003_232 rfl
theorem i1003_233 : mj_ins 1003 233 = some (.iload 8, 235) := by decide +kernel
theorem e1003_233 {ls : mj_L} {st : List Value} {σ : mj_S} {τ : mj_T} {a0 a1 a2 a3 a4 a5 a6 a7 : Option Value} {v : Int32} : mj_E 1003 233 (a0 :: a1 :: a2 :: a3 :: a4 :: a5 :: a6 :: a7 :: some (.int v) :: ls) st σ τ = mj_E 1003 235 (a0 :: a1 :: a2 :: a3 :: a4 :: a5 :: a6 :: a7 :: some (.int v) :: ls) (.int v :: st) σ τ := mj_nx i1003_233 rfl
theorem i1003_235 : mj_ins 1003 235 = some (.invokestatic 1004, 238) := by decide +kernel
theorem e1003_235 {ls : mj_L} {σ : mj_S} {τ : mj_T} {x0 : Nat} {x1 : Int32} {x2 : Int32} {x3 : Int32} {x4 : Int32} : mj_E 1003 235 ls [.int x4, .int x3, .int x2, .int x1, .ref x0] σ τ = mj_bd (mj_C 1004 [.ref x0, .int x1, .int x2, .int x3, .int x4] σ τ) (mj_K 1003 238 ls []) := mj_clS (as := [.ref x0, .int x1, .int x2, .int x3, .int x4]) (r := []) i1003_235 (by decide +kernel : mj_vk 1003 1004 5 0 5 false = true) rfl
theorem i1003_238 : mj_ins 1003 238 = some (.ireturn, 239) := by decide +kernel
theorem e1003_238 {ls : mj_L} {σ : mj_S} {τ : mj_T} {v : Int32} : mj_E 1003 238 ls [.int v] σ τ = some (some (.int v), σ, τ) := mj_irt i1003_238 rfl
theorem i1003_239 : mj_ins 1003 239 = some (.aload 0, 240) := by decide +kernel
theorem e1003_239 {ls : mj_L} {st : List Value} {σ : mj_S} {τ : mj_T} {v : Nat} : mj_E 1003 239 (some (.ref v) :: ls) st σ τ = mj_E 1003 240 (some (.ref v) :: ls) (.ref v :: st) σ τ := mj_nx i1003_239 rfl
theorem i1003_240 : mj_ins 1003 240 = some (.iconst (2), 241) := by decide +kernel
theorem e1003_240 {ls : mj_L} {st : List Value} {σ : mj_S} {τ : mj_T} : mj_E 1003 240 ls st σ τ = mj_E 1003 241 ls (.int (nI 2) :: st) σ τ := mj_nx i1003_240 rfl
theorem i1003_241 : mj_ins 1003 241 = some (.iload 7, 243) := by decide +kernel
theorem e1003_241 {ls : mj_L} {st : List Value} {σ : mj_S} {τ : mj_T} {a0 a1 a2 a3 a4 a5 a6 : Option Value} {v : Int32} : mj_E 1003 241 (a0 :: a1 :: a2 :: a3 :: a4 :: a5 :: a6 :: some (.int v) :: ls) st σ τ = mj_E 1003 243 (a0 :: a1 :: a2 :: a3 :: a4 :: a5 :: a6 :: some (.int v) :: ls) (.int v :: st) σ τ := mj_nx i1003_241 rfl
theorem i1003_243 : mj_ins 1003 243 = some (.iload 3, 244) := by decide +kernel
theorem e1003_243 {ls : mj_L} {st : List Value} {σ : mj_S} {τ : mj_T} {a0 a1 a2 : Option Value} {v : Int32} : mj_E 1003 243 (a0 :: a1 :: a2 :: some (.int v) :: ls) st σ τ = mj_E 1003 244 (a0 :: a1 :: a2 :: some (.int v) :: ls) (.int v :: st) σ τ := mj_nx i1003_243 rfl
theorem i1003_244 : mj_ins 1003 244 = some (.iload 8, 246) := by decide +kernel
theorem e1003_244 {ls : mj_L} {st : List Value} {σ : mj_S} {τ : mj_T} {a0 a1 a2 a3 a4 a5 a6 a7 : Option Value} {v : Int32} : mj_E 1003 244 (a0 :: a1 :: a2 :: a3 :: a4 :: a5 :: a6 :: a7 :: some (.int v) :: ls) st σ τ = mj_E 1003 246 (a0 :: a1 :: a2 :: a3 :: a4 :: a5 :: a6 :: a7 :: some (.int v) :: ls) (.int v :: st) σ τ := mj_nx i1003_244 rfl
theorem i1003_246 : mj_ins 1003 246 = some (.invokestatic 1004, 249) := by decide +kernel
theorem e1003_246 {ls : mj_L} {σ : mj_S} {τ : mj_T} {x0 : Nat} {x1 : Int32} {x2 : Int32} {x3 : Int32} {x4 : Int32} : mj_E 1003 246 ls [.int x4, .int x3, .int x2, .int x1, .ref x0] σ τ = mj_bd (mj_C 1004 [.ref x0, .int x1, .int x2, .int x3, .int x4] σ τ) (mj_K 1003 249 ls []) := mj_clS (as := [.ref x0, .int x1, .int x2, .int x3, .int x4]) (r := []) i1003_246 (by decide +kernel : mj_vk 1003 1004 5 0 5 false = true) rfl
theorem i1003_249 : mj_ins 1003 249 = some (.ineg, 250) := by decide +kernel
theorem e1003_249 {ls : mj_L} {st : List Value} {σ : mj_S} {τ : mj_T} {x : Int32} : mj_E 1003 249 ls (.int x :: st) σ τ = mj_E 1003 250 ls (.int (-x) :: st) σ τ := mj_nx i1003_249 rfl
theorem i1003_250 : mj_ins 1003 250 = some (.ireturn, 251) := by decide +kernel
theorem e1003_250 {ls : mj_L} {σ : mj_S} {τ : mj_T} {v : Int32} : mj_E 1003 250 ls [.int v] σ τ = some (some (.int v), σ, τ) := mj_irt i1003_250 rfl
theorem i1003_251 : mj_ins 1003 251 = some (.aload 0, 252) := by decide +kernel
theorem e1003_251 {ls : mj_L} {st : List Value} {σ : mj_S} {τ : mj_T} {v : Nat} : mj_E 1003 251 (some (.ref v) :: ls) st σ τ = mj_E 1003 252 (some (.ref v) :: ls) (.ref v :: st) σ τ := mj_nx i1003_251 rfl
theorem i1003_252 : mj_ins 1003 252 = some (.iconst (0), 253) := by decide +kernel
theorem e1003_252 {ls : mj_L} {st : List Value} {σ : mj_S} {τ : mj_T} : mj_E 1003 252 ls st σ τ = mj_E 1003 253 ls (.int (nI 0) :: st) σ τ := mj_nx i1003_252 rfl
theorem i1003_253 : mj_ins 1003 253 = some (.iload 7, 255) := by decide +kernel
theorem e1003_253 {ls : mj_L} {st : List Value} {σ : mj_S} {τ : mj_T} {a0 a1 a2 a3 a4 a5 a6 : Option Value} {v : Int32} : mj_E 1003 253 (a0 :: a1 :: a2 :: a3 :: a4 :: a5 :: a6 :: some (.int v) :: ls) st σ τ = mj_E 1003 255 (a0 :: a1 :: a2 :: a3 :: a4 :: a5 :: a6 :: some (.int v) :: ls) (.int v :: st) σ τ := mj_nx i1003_253 rfl
theorem i1003_255 : mj_ins 1003 255 = some (.iload 3, 256) := by decide +kernel
theorem e1003_255 {ls : mj_L} {st : List Value} {σ : mj_S} {τ : mj_T} {a0 a1 a2 : Option Value} {v : Int32} : mj_E 1003 255 (a0 :: a1 :: a2 :: some (.int v) :: ls) st σ τ = mj_E 1003 256 (a0 :: a1 :: a2 :: some (.int v) :: ls) (.int v :: st) σ τ := mj_nx i1003_255 rfl
theorem i1003_256 : mj_ins 1003 256 = some (.iload 8, 258) := by decide +kernel
theorem e1003_256 {ls : mj_L} {st : List Value} {σ : mj_S} {τ : mj_T} {a0 a1 a2 a3 a4 a5 a6 a7 : Option Value} {v : Int32} : mj_E 1003 256 (a0 :: a1 :: a2 :: a3 :: a4 :: a5 :: a6 :: a7 :: some (.int v) :: ls) st σ τ = mj_E 1003 258 (a0 :: a1 :: a2 :: a3 :: a4 :: a5 :: a6 :: a7 :: some (.int v) :: ls) (.int v :: st) σ τ := mj_nx i1003_256 rfl
theorem i1003_258 : mj_ins 1003 258 = some (.invokestatic 1004, 261) := by decide +kernel
theorem e1003_258 {ls : mj_L} {σ : mj_S} {τ : mj_T} {x0 : Nat} {x1 : Int32} {x2 : Int32} {x3 : Int32} {x4 : Int32} : mj_E 1003 258 ls [.int x4, .int x3, .int x2, .int x1, .ref x0] σ τ = mj_bd (mj_C 1004 [.ref x0, .int x1, .int x2, .int x3, .int x4] σ τ) (mj_K 1003 261 ls []) := mj_clS (as := [.ref x0, .int x1, .int x2, .int x3, .int x4]) (r := []) i1003_258 (by decide +kernel : mj_vk 1003 1004 5 0 5 false = true) rfl
theorem i1003_261 : mj_ins 1003 261 = some (.aload 0, 262) := by decide +kernel
theorem e1003_261 {ls : mj_L} {st : List Value} {σ : mj_S} {τ : mj_T} {v : Nat} : mj_E 1003 261 (some (.ref v) :: ls) st σ τ = mj_E 1003 262 (some (.ref v) :: ls) (.ref v :: st) σ τ := mj_nx i1003_261 rfl
theorem i1003_262 : mj_ins 1003 262 = some (.getfield 503, 265) := by decide +kernel
theorem e1003_262 {ls : mj_L} {st : List Value} {σ : mj_S} {τ : mj_T} : mj_E 1003 262 ls (.ref 59 :: st) σ τ = mj_E 1003 265 ls (.int (σ 59 3) :: st) σ τ := mj_nx i1003_262 rfl
theorem i1003_265 : mj_ins 1003 265 = some (.isub, 266) := by decide +kernel
theorem e1003_265 {ls : mj_L} {st : List Value} {σ : mj_S} {τ : mj_T} {x y : Int32} : mj_E 1003 265 ls (.int y :: .int x :: st) σ τ = mj_E 1003 266 ls (.int (x - y) :: st) σ τ := mj_nx i1003_265 rfl
theorem i1003_266 : mj_ins 1003 266 = some (.ireturn, 267) := by decide +kernel
theorem e1003_266 {ls : mj_L} {σ : mj_S} {τ : mj_T} {v : Int32} : mj_E 1003 266 ls [.int v] σ τ = some (some (.int v), σ, τ) := mj_irt i1003_266 rfl
theorem i1003_267 : mj_ins 1003 267 = some (.aload 0, 268) := by decide +kernel
theorem e1003_267 {ls : mj_L} {st : List Value} {σ : mj_S} {τ : mj_T} {v : Nat} : mj_E 1003 267 (some (.ref v) :: ls) st σ τ = mj_E 1003 268 (some (.ref v) :: ls) (.ref v :: st) σ τ := mj_nx i1003_267 rfl
theorem i1003_268 : mj_ins 1003 268 = some (.iconst (2), 269) := by decide +kernel
theorem e1003_268 {ls : mj_L} {st : List Value} {σ : mj_S} {τ : mj_T} : mj_E 1003 268 ls st σ τ = mj_E 1003 269 ls (.int (nI 2) :: st) σ τ := mj_nx i1003_268 rfl
theorem i1003_269 : mj_ins 1003 269 = some (.iload 7, 271) := by decide +kernel
theorem e1003_269 {ls : mj_L} {st : List Value} {σ : mj_S} {τ : mj_T} {a0 a1 a2 a3 a4 a5 a6 : Option Value} {v : Int32} : mj_E 1003 269 (a0 :: a1 :: a2 :: a3 :: a4 :: a5 :: a6 :: some (.int v) :: ls) st σ τ = mj_E 1003 271 (a0 :: a1 :: a2 :: a3 :: a4 :: a5 :: a6 :: some (.int v) :: ls) (.int v :: st) σ τ := mj_nx i1003_269 rfl
theorem i1003_271 : mj_ins 1003 271 = some (.iload 3, 272) := by decide +kernel
theorem e1003_271 {ls : mj_L} {st : List Value} {σ : mj_S} {τ : mj_T} {a0 a1 a2 : Option Value} {v : Int32} : mj_E 1003 271 (a0 :: a1 :: a2 :: some (.int v) :: ls) st σ τ = mj_E 1003 272 (a0 :: a1 :: a2 :: some (.int v) :: ls) (.int v :: st) σ τ := mj_nx i1003_271 rfl
theorem i1003_272 : mj_ins 1003 272 = some (.iload 8, 274) := by decide +kernel
theorem e1003_272 {ls : mj_L} {st : List Value} {σ : mj_S} {τ : mj_T} {a0 a1 a2 a3 a4 a5 a6 a7 : Option Value} {v : Int32} : mj_E 1003 272 (a0 :: a1 :: a2 :: a3 :: a4 :: a5 :: a6 :: a7 :: some (.int v) :: ls) st σ τ = mj_E 1003 274 (a0 :: a1 :: a2 :: a3 :: a4 :: a5 :: a6 :: a7 :: some (.int v) :: ls) (.int v :: st) σ τ := mj_nx i1003_272 rfl
theorem i1003_274 : mj_ins 1003 274 = some (.invokestatic 1004, 277) := by decide +kernel
theorem e1003_274 {ls : mj_L} {σ : mj_S} {τ : mj_T} {x0 : Nat} {x1 : Int32} {x2 : Int32} {x3 : Int32} {x4 : Int32} : mj_E 1003 274 ls [.int x4, .int x3, .int x2, .int x1, .ref x0] σ τ = mj_bd (mj_C 1004 [.ref x0, .int x1, .int x2, .int x3, .int x4] σ τ) (mj_K 1003 277 ls []) := mj_clS (as := [.ref x0, .int x1, .int x2, .int x3, .int x4]) (r := []) i1003_274 (by decide +kernel : mj_vk 1003 1004 5 0 5 false = true) rfl
theorem i1003_277 : mj_ins 1003 277 = some (.iconst (5), 278) := by decide +kernel
theorem e1003_277 {ls : mj_L} {st : List Value} {σ : mj_S} {τ : mj_T} : mj_E 1003 277 ls st σ τ = mj_E 1003 278 ls (.int (nI 5) :: st) σ τ := mj_nx i1003_277 rfl
theorem i1003_278 : mj_ins 1003 278 = some (.ixor, 279) := by decide +kernel
theorem e1003_278 {ls : mj_L} {st : List Value} {σ : mj_S} {τ : mj_T} {x y : Int32} : mj_E 1003 278 ls (.int y :: .int x :: st) σ τ = mj_E 1003 279 ls (.int (x ^^^ y) :: st) σ τ := mj_nx i1003_278 rfl
theorem i1003_279 : mj_ins 1003 279 = some (.ireturn, 280) := by decide +kernel
theorem e1003_279 {ls : mj_L} {σ : mj_S} {τ : mj_T} {v : Int32} : mj_E 1003 279 ls [.int v] σ τ = some (some (.int v), σ, τ) := mj_irt i1003_279 rfl
theorem i1003_280 : mj_ins 1003 280 = some (.aload 0, 281) := by decide +kernel
theorem e1003_280 {ls : mj_L} {st : List Value} {σ : mj_S} {τ : mj_T} {v : Nat} : mj_E 1003 280 (some (.ref v) :: ls) st σ τ = mj_E 1003 281 (some (.ref v) :: ls) (.ref v :: st) σ τ := mj_nx i1003_280 rfl
theorem i1003_281 : mj_ins 1003 281 = some (.iconst (0), 282) := by decide +kernel
theorem e1003_281 {ls : mj_L} {st : List Value} {σ : mj_S} {τ : mj_T} : mj_E 1003 281 ls st σ τ = mj_E 1003 282 ls (.int (nI 0) :: st) σ τ := mj_nx i1003_281 rfl
theorem i1003_282 : mj_ins 1003 282 = some (.iload 7, 284) := by decide +kernel
theorem e1003_282 {ls : mj_L} {st : List Value} {σ : mj_S} {τ : mj_T} {a0 a1 a2 a3 a4 a5 a6 : Option Value} {v : Int32} : mj_E 1003 282 (a0 :: a1 :: a2 :: a3 :: a4 :: a5 :: a6 :: some (.int v) :: ls) st σ τ = mj_E 1003 284 (a0 :: a1 :: a2 :: a3 :: a4 :: a5 :: a6 :: some (.int v) :: ls) (.int v :: st) σ τ := mj_nx i1003_282 rfl
theorem i1003_284 : mj_ins 1003 284 = some (.iload 3, 285) := by decide +kernel
theorem e1003_284 {ls : mj_L} {st : List Value} {σ : mj_S} {τ : mj_T} {a0 a1 a2 : Option Value} {v : Int32} : mj_E 1003 284 (a0 :: a1 :: a2 :: some (.int v) :: ls) st σ τ = mj_E 1003 285 (a0 :: a1 :: a2 :: some (.int v) :: ls) (.int v :: st) σ τ := mj_nx i1003_284 rfl
theorem i1003_285 : mj_ins 1003 285 = some (.iload 8, 287) := by decide +kernel
theorem e1003_285 {ls : mj_L} {st : List Value} {σ : mj_S} {τ : mj_T} {a0 a1 a2 a3 a4 a5 a6 a7 : Option Value} {v : Int32} : mj_E 1003 285 (a0 :: a1 :: a2 :: a3 :: a4 :: a5 :: a6 :: a7 :: some (.int v) :: ls) st σ τ = mj_E 1003 287 (a0 :: a1 :: a2 :: a3 :: a4 :: a5 :: a6 :: a7 :: some (.int v) :: ls) (.int v :: st) σ τ := mj_nx i1003_285 rfl
theorem i1003_287 : mj_ins 1003 287 = some (.invokestatic 1004, 290) := by decide +kernel
theorem e1003_287 {ls : mj_L} {σ : mj_S} {τ : mj_T} {x0 : Nat} {x1 : Int32} {x2 : Int32} {x3 : Int32} {x4 : Int32} : mj_E 1003 287 ls [.int x4, .int x3, .int x2, .int x1, .ref x0] σ τ = mj_bd (mj_C 1004 [.ref x0, .int x1, .int x2, .int x3, .int x4] σ τ) (mj_K 1003 290 ls []) := mj_clS (as := [.ref x0, .int x1, .int x2, .int x3, .int x4]) (r := []) i1003_287 (by decide +kernel : mj_vk 1003 1004 5 0 5 false = true) rfl
theorem i1003_290 : mj_ins 1003 290 = some (.iconst (2), 291) := by decide +kernel
theorem e1003_290 {ls : mj_L} {st : List Value} {σ : mj_S} {τ : mj_T} : mj_E 1003 290 ls st σ τ = mj_E 1003 291 ls (.int (nI 2) :: st) σ τ := mj_nx i1003_290 rfl
theorem i1003_291 : mj_ins 1003 291 = some (.imul, 292) := by decide +kernel
theorem e1003_291 {ls : mj_L} {st : List Value} {σ : mj_S} {τ : mj_T} {x y : Int32} : mj_E 1003 291 ls (.int y :: .int x :: st) σ τ = mj_E 1003 292 ls (.int (x * y) :: st) σ τ := mj_nx i1003_291 rfl
theorem i1003_292 : mj_ins 1003 292 = some (.ireturn, 293) := by decide +kernel
theorem e1003_292 {ls : mj_L} {σ : mj_S} {τ : mj_T} {v : Int32} : mj_E 1003 292 ls [.int v] σ τ = some (some (.int v), σ, τ) := mj_irt i1003_292 rfl
theorem i1003_293 : mj_ins 1003 293 = some (.aload 0, 294) := by decide +kernel
theorem e1003_293 {ls : mj_L} {st : List Value} {σ : mj_S} {τ : mj_T} {v : Nat} : mj_E 1003 293 (some (.ref v) :: ls) st σ τ = mj_E 1003 294 (some (.ref v) :: ls) (.ref v :: st) σ τ := mj_nx i1003_293 rfl
theorem i1003_294 : mj_ins 1003 294 = some (.iconst (1), 295) := by decide +kernel
theorem e1003_294 {ls : mj_L} {st : List Value} {σ : mj_S} {τ : mj_T} : mj_E 1003 294 ls st σ τ = mj_E 1003 295 ls (.int (nI 1) :: st) σ τ := mj_nx i1003_294 rfl
theorem i1003_295 : mj_ins 1003 295 = some (.iload 7, 297) := by decide +kernel
theorem e1003_295 {ls : mj_L} {st : List Value} {σ : mj_S} {τ : mj_T} {a0 a1 a2 a3 a4 a5 a6 : Option Value} {v : Int32} : mj_E 1003 295 (a0 :: a1 :: a2 :: a3 :: a4 :: a5 :: a6 :: some (.int v) :: ls) st σ τ = mj_E 1003 297 (a0 :: a1 :: a2 :: a3 :: a4 :: a5 :: a6 :: some (.int v) :: ls) (.int v :: st) σ τ := mj_nx i1003_295 rfl
theorem i1003_297 : mj_ins 1003 297 = some (.iload 3, 298) := by decide +kernel
theorem e1003_297 {ls : mj_L} {st : List Value} {σ : mj_S} {τ : mj_T} {a0 a1 a2 : Option Value} {v : Int32} : mj_E 1003 297 (a0 :: a1 :: a2 :: some (.int v) :: ls) st σ τ = mj_E 1003 298 (a0 :: a1 :: a2 :: some (.int v) :: ls) (.int v :: st) σ τ := mj_nx i1003_297 rfl
theorem i1003_298 : mj_ins 1003 298 = some (.aload 0, 299) := by decide +kernel
theorem e1003_298 {ls : mj_L} {st : List Value} {σ : mj_S} {τ : mj_T} {v : Nat} : mj_E 1003 298 (some (.ref v) :: ls) st σ τ = mj_E 1003 299 (some (.ref v) :: ls) (.ref v :: st) σ τ := mj_nx i1003_298 rfl
theorem i1003_299 : mj_ins 1003 299 = some (.getfield 504, 302) := by decide +kernel
theorem e1003_299 {ls : mj_L} {st : List Value} {σ : mj_S} {τ : mj_T} : mj_E 1003 299 ls (.ref 59 :: st) σ τ = mj_E 1003 302 ls (.int (σ 59 4) :: st) σ τ := mj_nx i1003_299 rfl
theorem i1003_302 : mj_ins 1003 302 = some (.isub, 303) := by decide +kernel
theorem e1003_302 {ls : mj_L} {st : List Value} {σ : mj_S} {τ : mj_T} {x y : Int32} : mj_E 1003 302 ls (.int y :: .int x :: st) σ τ = mj_E 1003 303 ls (.int (x - y) :: st) σ τ := mj_nx i1003_302 rfl
theorem i1003_303 : mj_ins 1003 303 = some (.iload 8, 305) := by decide +kernel
theorem e1003_303 {ls : mj_L} {st : List Value} {σ : mj_S} {τ : mj_T} {a0 a1 a2 a3 a4 a5 a6 a7 : Option Value} {v : Int32} : mj_E 1003 303 (a0 :: a1 :: a2 :: a3 :: a4 :: a5 :: a6 :: a7 :: some (.int v) :: ls) st σ τ = mj_E 1003 305 (a0 :: a1 :: a2 :: a3 :: a4 :: a5 :: a6 :: a7 :: some (.int v) :: ls) (.int v :: st) σ τ := mj_nx i1003_303 rfl
theorem i1003_305 : mj_ins 1003 305 = some (.invokestatic 1004, 308) := by decide +kernel
theorem e1003_305 {ls : mj_L} {σ : mj_S} {τ : mj_T} {x0 : Nat} {x1 : Int32} {x2 : Int32} {x3 : Int32} {x4 : Int32} : mj_E 1003 305 ls [.int x4, .int x3, .int x2, .int x1, .ref x0] σ τ = mj_bd (mj_C 1004 [.ref x0, .int x1, .int x2, .int x3, .int x4] σ τ) (mj_K 1003 308 ls []) := mj_clS (as := [.ref x0, .int x1, .int x2, .int x3, .int x4]) (r := []) i1003_305 (by decide +kernel : mj_vk 1003 1004 5 0 5 false = true) rfl
theorem i1003_308 : mj_ins 1003 308 = some (.ireturn, 309) := by decide +kernel
theorem e1003_308 {ls : mj_L} {σ : mj_S} {τ : mj_T} {v : Int32} : mj_E 1003 308 ls [.int v] σ τ = some (some (.int v), σ, τ) := mj_irt i1003_308 rfl
theorem c1004 {σ : mj_S} {τ : mj_T} {x0 : Nat} {x1 : Int32} {x2 : Int32} {x3 : Int32} {x4 : Int32} : mj_C 1004 [.ref x0, .int x1, .int x2, .int x3, .int x4] σ τ = mj_E 1004 0 [some (.ref x0), some (.int x1), some (.int x2), some (.int x3), some (.int x4), none, none, none, none] [] σ τ := rfl
theorem i1004_0 : mj_ins 1004 0 = some (.iload 1, 1) := by decide +kernel
theorem e1004_0 {ls : mj_L} {st : List Value} {σ : mj_S} {τ : mj_T} {a0 : Option Value} {v : Int32} : mj_E 1004 0 (a0 :: some (.int v) :: ls) st σ τ = mj_E 1004 1 (a0 :: some (.int v) :: ls) (.int v :: st) σ τ := mj_nx i1004_0 rfl
theorem i1004_1 : mj_ins 1004 1 = some (.iload 2, 2) := by decide +kernel
theorem e1004_1 {ls : mj_L} {st : List Value} {σ : mj_S} {τ : mj_T} {a0 a1 : Option Value} {v : Int32} : mj_E 1004 1 (a0 :: a1 :: some (.int v) :: ls) st σ τ = mj_E 1004 2 (a0 :: a1 :: some (.int v) :: ls) (.int v :: st) σ τ := mj_nx i1004_1 rfl
theorem i1004_2 : mj_ins 1004 2 = some (.invokestatic 71, 5) := by decide +kernel
theorem e1004_2 {ls : mj_L} {σ : mj_S} {τ : mj_T} {x0 : Int32} {x1 : Int32} : mj_E 1004 2 ls [.int x1, .int x0] σ τ = mj_bd (mj_C 71 [.int x0, .int x1] σ τ) (mj_K 1004 5 ls []) := mj_clS (as := [.int x0, .int x1]) (r := []) i1004_2 (by decide +kernel : mj_vk 1004 71 2 0 2 false = true) rfl
theorem i1004_5 : mj_ins 1004 5 = some (.istore 5, 7) := by decide +kernel
theorem e1004_5 {ls : mj_L} {st : List Value} {σ : mj_S} {τ : mj_T} {a0 a1 a2 a3 a4 a5 : Option Value} {v : Int32} : mj_E 1004 5 (a0 :: a1 :: a2 :: a3 :: a4 :: a5 :: ls) (.int v :: st) σ τ = mj_E 1004 7 (a0 :: a1 :: a2 :: a3 :: a4 :: some (.int v) :: ls) st σ τ := mj_nx i1004_5 rfl
theorem i1004_7 : mj_ins 1004 7 = some (.iload 5, 9) := by decide +kernel
theorem e1004_7 {ls : mj_L} {st : List Value} {σ : mj_S} {τ : mj_T} {a0 a1 a2 a3 a4 : Option Value} {v : Int32} : mj_E 1004 7 (a0 :: a1 :: a2 :: a3 :: a4 :: some (.int v) :: ls) st σ τ = mj_E 1004 9 (a0 :: a1 :: a2 :: a3 :: a4 :: some (.int v) :: ls) (.int v :: st) σ τ := mj_nx i1004_7 rfl
theorem i1004_9 : mj_ins 1004 9 = some (.iconst (-1), 10) := by decide +kernel
theorem e1004_9 {ls : mj_L} {st : List Value} {σ : mj_S} {τ : mj_T} : mj_E 1004 9 ls st σ τ = mj_E 1004 10 ls (.int ((-1)) :: st) σ τ := mj_nx i1004_9 rfl
theorem i1004_10 : mj_ins 1004 10 = some (.if_icmp .eq 20, 13) := by decide +kernel
theorem e1004_10 {ls : mj_L} {st : List Value} {σ : mj_S} {τ : mj_T} {x y : Int32} : mj_E 1004 10 ls (.int y :: .int x :: st) σ τ = if x = y then mj_E 1004 20 ls st σ τ else mj_E 1004 13 ls st σ τ := (mj_ifi i1004_10).trans (mj_cdT rfl)
theorem i1004_13 : mj_ins 1004 13 = some (.iload 4, 15) := by decide +kernel
theorem e1004_13 {ls : mj_L} {st : List Value} {σ : mj_S} {τ : mj_T} {a0 a1 a2 a3 : Option Value} {v : Int32} : mj_E 1004 13 (a0 :: a1 :: a2 :: a3 :: some (.int v) :: ls) st σ τ = mj_E 1004 15 (a0 :: a1 :: a2 :: a3 :: some (.int v) :: ls) (.int v :: st) σ τ := mj_nx i1004_13 rfl
theorem i1004_15 : mj_ins 1004 15 = some (.iconst (20), 17) := by decide +kernel
theorem e1004_15 {ls : mj_L} {st : List Value} {σ : mj_S} {τ : mj_T} : mj_E 1004 15 ls st σ τ = mj_E 1004 17 ls (.int (nI 20) :: st) σ τ := mj_nx i1004_15 rfl
theorem i1004_17 : mj_ins 1004 17 = some (.if_icmp .le 22, 20) := by decide +kernel
theorem e1004_17 {ls : mj_L} {st : List Value} {σ : mj_S} {τ : mj_T} {x y : Int32} : mj_E 1004 17 ls (.int y :: .int x :: st) σ τ = if x ≤ y then mj_E 1004 22 ls st σ τ else mj_E 1004 20 ls st σ τ := (mj_ifi i1004_17).trans (mj_cdT rfl)
theorem i1004_20 : mj_ins 1004 20 = some (.iconst (0), 21) := by decide +kernel
theorem e1004_20 {ls : mj_L} {st : List Value} {σ : mj_S} {τ : mj_T} : mj_E 1004 20 ls st σ τ = mj_E 1004 21 ls (.int (nI 0) :: st) σ τ := mj_nx i1004_20 rfl
theorem i1004_21 : mj_ins 1004 21 = some (.ireturn, 22) := by decide +kernel
theorem e1004_21 {ls : mj_L} {σ : mj_S} {τ : mj_T} {v : Int32} : mj_E 1004 21 ls [.int v] σ τ = some (some (.int v), σ, τ) := mj_irt i1004_21 rfl
theorem i1004_22 : mj_ins 1004 22 = some (.getstatic 91, 25) := by decide +kernel
theorem e1004_22 {ls : mj_L} {st : List Value} {σ : mj_S} {τ : mj_T} : mj_E 1004 22 ls st σ τ = mj_E 1004 25 ls (.ref 91 :: st) σ τ := mj_nx i1004_22 rfl
theorem i1004_25 : mj_ins 1004 25 = some (.iconst (3), 26) := by decide +kernel
theorem e1004_25 {ls : mj_L} {st : List Value} {σ : mj_S} {τ : mj_T} : mj_E 1004 25 ls st σ τ = mj_E 1004 26 ls (.int (nI 3) :: st) σ τ := mj_nx i1004_25 rfl
theorem i1004_26 : mj_ins 1004 26 = some (.iload 5, 28) := by decide +kernel
theorem e1004_26 {ls : mj_L} {st : List Value} {σ : mj_S} {τ : mj_T} {a0 a1 a2 a3 a4 : Option Value} {v : Int32} : mj_E 1004 26 (a0 :: a1 :: a2 :: a3 :: a4 :: some (.int v) :: ls) st σ τ = mj_E 1004 28 (a0 :: a1 :: a2 :: a3 :: a4 :: some (.int v) :: ls) (.int v :: st) σ τ := mj_nx i1004_26 rfl
theorem i1004_28 : mj_ins 1004 28 = some (.imul, 29) := by decide +kernel
theorem e1004_28 {ls : mj_L} {st : List Value} {σ : mj_S} {τ : mj_T} {x y : Int32} : mj_E 1004 28 ls (.int y :: .int x :: st) σ τ = mj_E 1004 29 ls (.int (x * y) :: st) σ τ := mj_nx i1004_28 rfl
theorem i1004_29 : mj_ins 1004 29 = some (.iload 1, 30) := by decide +kernel
theorem e1004_29 {ls : mj_L} {st : List Value} {σ : mj_S} {τ : mj_T} {a0 : Option Value} {v : Int32} : mj_E 1004 29 (a0 :: some (.int v) :: ls) st σ τ = mj_E 1004 30 (a0 :: some (.int v) :: ls) (.int v :: st) σ τ := mj_nx i1004_29 rfl
theorem i1004_30 : mj_ins 1004 30 = some (.iadd, 31) := by decide +kernel
theorem e1004_30 {ls : mj_L} {st : List Value} {σ : mj_S} {τ : mj_T} {x y : Int32} : mj_E 1004 30 ls (.int y :: .int x :: st) σ τ = mj_E 1004 31 ls (.int (x + y) :: st) σ τ := mj_nx i1004_30 rfl
theorem i1004_31 : mj_ins 1004 31 = some (.iaload, 32) := by decide +kernel
theorem e1004_31 {ls : mj_L} {st : List Value} {σ : mj_S} {τ : mj_T} {x : Int32} {k : Nat} : mj_E 1004 31 ls (.int x :: .ref k :: st) σ τ = if mj_ib (mj_li σ k) x = true then mj_E 1004 32 ls (.int (σ k x.toNatClampNeg) :: st) σ τ else none := mj_ald i1004_31
theorem i1004_32 : mj_ins 1004 32 = some (.istore 6, 34) := by decide +kernel
theorem e1004_32 {ls : mj_L} {st : List Value} {σ : mj_S} {τ : mj_T} {a0 a1 a2 a3 a4 a5 a6 : Option Value} {v : Int32} : mj_E 1004 32 (a0 :: a1 :: a2 :: a3 :: a4 :: a5 :: a6 :: ls) (.int v :: st) σ τ = mj_E 1004 34 (a0 :: a1 :: a2 :: a3 :: a4 :: a5 :: some (.int v) :: ls) st σ τ := mj_nx i1004_32 rfl
theorem i1004_34 : mj_ins 1004 34 = some (.aload 0, 35) := by decide +kernel
theorem e1004_34 {ls : mj_L} {st : List Value} {σ : mj_S} {τ : mj_T} {v : Nat} : mj_E 1004 34 (some (.ref v) :: ls) st σ τ = mj_E 1004 35 (some (.ref v) :: ls) (.ref v :: st) σ τ := mj_nx i1004_34 rfl
theorem i1004_35 : mj_ins 1004 35 = some (.iload 6, 37) := by decide +kernel
theorem e1004_35 {ls : mj_L} {st : List Value} {σ : mj_S} {τ : mj_T} {a0 a1 a2 a3 a4 a5 : Option Value} {v : Int32} : mj_E 1004 35 (a0 :: a1 :: a2 :: a3 :: a4 :: a5 :: some (.int v) :: ls) st σ τ = mj_E 1004 37 (a0 :: a1 :: a2 :: a3 :: a4 :: a5 :: some (.int v) :: ls) (.int v :: st) σ τ := mj_nx i1004_35 rfl
theorem i1004_37 : mj_ins 1004 37 = some (.invokevirtual 72, 40) := by decide +kernel
theorem e1004_37 {ls : mj_L} {σ : mj_S} {τ : mj_T} {r : Nat} {x0 : Int32} : mj_E 1004 37 ls [.int x0, .ref r] σ τ = if mj_rcv r 5 = true then mj_bd (mj_C 72 [.ref r, .int x0] σ τ) (mj_K 1004 40 ls []) else none := mj_clV (as := [.int x0]) (r := []) i1004_37 (by decide +kernel : mj_vk 1004 72 1 0 2 false = true) (by decide +kernel)
theorem i1004_40 : mj_ins 1004 40 = some (.iload 5, 42) := by decide +kernel
theorem e1004_40 {ls : mj_L} {st : List Value} {σ : mj_S} {τ : mj_T} {a0 a1 a2 a3 a4 : Option Value} {v : Int32} : mj_E 1004 40 (a0 :: a1 :: a2 :: a3 :: a4 :: some (.int v) :: ls) st σ τ = mj_E 1004 42 (a0 :: a1 :: a2 :: a3 :: a4 :: some (.int v) :: ls) (.int v :: st) σ τ := mj_nx i1004_40 rfl
theorem i1004_42 : mj_ins 1004 42 = some (.invokestatic 4, 45) := by decide +kernel
theorem e1004_42 {ls : mj_L} {σ : mj_S} {τ : mj_T} {x0 : Int32} : mj_E 1004 42 ls [.int x0] σ τ = mj_bd (mj_C 4 [.int x0] σ τ) (mj_K 1004 45 ls []) := mj_clS (as := [.int x0]) (r := []) i1004_42 (by decide +kernel : mj_vk 1004 4 1 0 1 false = true) rfl
theorem i1004_45 : mj_ins 1004 45 = some (.istore 7, 47) := by decide +kernel
theorem e1004_45 {ls : mj_L} {st : List Value} {σ : mj_S} {τ : mj_T} {a0 a1 a2 a3 a4 a5 a6 a7 : Option Value} {v : Int32} : mj_E 1004 45 (a0 :: a1 :: a2 :: a3 :: a4 :: a5 :: a6 :: a7 :: ls) (.int v :: st) σ τ = mj_E 1004 47 (a0 :: a1 :: a2 :: a3 :: a4 :: a5 :: a6 :: some (.int v) :: ls) st σ τ := mj_nx i1004_45 rfl
theorem i1004_47 : mj_ins 1004 47 = some (.iload 4, 49) := by decide +kernel
theorem e1004_47 {ls : mj_L} {st : List Value} {σ : mj_S} {τ : mj_T} {a0 a1 a2 a3 : Option Value} {v : Int32} : mj_E 1004 47 (a0 :: a1 :: a2 :: a3 :: some (.int v) :: ls) st σ τ = mj_E 1004 49 (a0 :: a1 :: a2 :: a3 :: some (.int v) :: ls) (.int v :: st) σ τ := mj_nx i1004_47 rfl
theorem i1004_49 : mj_ins 1004 49 = some (.iconst (1), 50) := by decide +kernel
theorem e1004_49 {ls : mj_L} {st : List Value} {σ : mj_S} {τ : mj_T} : mj_E 1004 49 ls st σ τ = mj_E 1004 50 ls (.int (nI 1) :: st) σ τ := mj_nx i1004_49 rfl
theorem i1004_50 : mj_ins 1004 50 = some (.iadd, 51) := by decide +kernel
theorem e1004_50 {ls : mj_L} {st : List Value} {σ : mj_S} {τ : mj_T} {x y : Int32} : mj_E 1004 50 ls (.int y :: .int x :: st) σ τ = mj_E 1004 51 ls (.int (x + y) :: st) σ τ := mj_nx i1004_50 rfl
theorem i1004_51 : mj_ins 1004 51 = some (.istore 8, 53) := by decide +kernel
theorem e1004_51 {ls : mj_L} {st : List Value} {σ : mj_S} {τ : mj_T} {a0 a1 a2 a3 a4 a5 a6 a7 a8 : Option Value} {v : Int32} : mj_E 1004 51 (a0 :: a1 :: a2 :: a3 :: a4 :: a5 :: a6 :: a7 :: a8 :: ls) (.int v :: st) σ τ = mj_E 1004 53 (a0 :: a1 :: a2 :: a3 :: a4 :: a5 :: a6 :: a7 :: some (.int v) :: ls) st σ τ := mj_nx i1004_51 rfl
theorem i1004_53 : mj_ins 1004 53 = some (.iload 6, 55) := by decide +kernel
theorem e1004_53 {ls : mj_L} {st : List Value} {σ : mj_S} {τ : mj_T} {a0 a1 a2 a3 a4 a5 : Option Value} {v : Int32} : mj_E 1004 53 (a0 :: a1 :: a2 :: a3 :: a4 :: a5 :: some (.int v) :: ls) st σ τ = mj_E 1004 55 (a0 :: a1 :: a2 :: a3 :: a4 :: a5 :: some (.int v) :: ls) (.int v :: st) σ τ := mj_nx i1004_53 rfl
theorem i1004_55 : mj_ins 1004 55 = some (.lookupswitch (238) #[(10, 89), (11, 96), (12, 111), (20, 142), (30, 158), (40, 171), (50, 184), (51, 196), (60, 212), (70, 225)], 55) := by decide +kernel
theorem e1004_55 {ls : mj_L} {st : List Value} {σ : mj_S} {τ : mj_T} {x : Int32} : mj_E 1004 55 ls (.int x :: st) σ τ = if x = nI 10 then mj_E 1004 144 ls st σ τ else if x = nI 11 then mj_E 1004 151 ls st σ τ else if x = nI 12 then mj_E 1004 166 ls st σ τ else if x = nI 20 then mj_E 1004 197 ls st σ τ else if x = nI 30 then mj_E 1004 213 ls st σ τ else if x = nI 40 then mj_E 1004 226 ls st σ τ else if x = nI 50 then mj_E 1004 239 ls st σ τ else if x = nI 51 then mj_E 1004 251 ls st σ τ else if x = nI 60 then mj_E 1004 267 ls st σ τ else if x = nI 70 then mj_E 1004 280 ls st σ τ else mj_E 1004 293 ls st σ τ := mj_lusw i1004_55 rfl
theorem i1004_144 : mj_ins 1004 144 = some (.iload 3, 145) := by decide +kernel
theorem e1004_144 {ls : mj_L} {st : List Value} {σ : mj_S} {τ : mj_T} {a0 a1 a2 : Option Value} {v : Int32} : mj_E 1004 144 (a0 :: a1 :: a2 :: some (.int v) :: ls) st σ τ = mj_E 1004 145 (a0 :: a1 :: a2 :: some (.int v) :: ls) (.int v :: st) σ τ := mj_nx i1004_144 rfl
theorem i1004_145 : mj_ins 1004 145 = some (.aload 0, 146) := by decide +kernel
theorem e1004_145 {ls : mj_L} {st : List Value} {σ : mj_S} {τ : mj_T} {v : Nat} : mj_E 1004 145 (some (.ref v) :: ls) st σ τ = mj_E 1004 146 (some (.ref v) :: ls) (.ref v :: st) σ τ := mj_nx i1004_145 rfl
theorem i1004_146 : mj_ins 1004 146 = some (.getfield 503, 149) := by decide +kernel
theorem e1004_146 {ls : mj_L} {st : List Value} {σ : mj_S} {τ : mj_T} : mj_E 1004 146 ls (.ref 59 :: st) σ τ = mj_E 1004 149 ls (.int (σ 59 3) :: st) σ τ := mj_nx i1004_146 rfl
theorem i1004_149 : mj_ins 1004 149 = some (.iadd, 150) := by decide +kernel
theorem e1004_149 {ls : mj_L} {st : List Value} {σ : mj_S} {τ : mj_T} {x y : Int32} : mj_E 1004 149 ls (.int y :: .int x :: st) σ τ = mj_E 1004 150 ls (.int (x + y) :: st) σ τ := mj_nx i1004_149 rfl
theorem i1004_150 : mj_ins 1004 150 = some (.ireturn, 151) := by decide +kernel
theorem e1004_150 {ls : mj_L} {σ : mj_S} {τ : mj_T} {v : Int32} : mj_E 1004 150 ls [.int v] σ τ = some (some (.int v), σ, τ) := mj_irt i1004_150 rfl
theorem i1004_151 : mj_ins 1004 151 = some (.aload 0, 152) := by decide +kernel
theorem e1004_151 {ls : mj_L} {st : List Value} {σ : mj_S} {τ : mj_T} {v : Nat} : mj_E 1004 151 (some (.ref v) :: ls) st σ τ = mj_E 1004 152 (some (.ref v) :: ls) (.ref v :: st) σ τ := mj_nx i1004_151 rfl
theorem i1004_152 : mj_ins 1004 152 = some (.iconst (0), 153) := by decide +kernel
theorem e1004_152 {ls : mj_L} {st : List Value} {σ : mj_S} {τ : mj_T} : mj_E 1004 152 ls st σ τ = mj_E 1004 153 ls (.int (nI 0) :: st) σ τ := mj_nx i1004_152 rfl
theorem i1004_153 : mj_ins 1004 153 = some (.aload 0, 154) := by decide +kernel
theorem e1004_153 {ls : mj_L} {st : List Value} {σ : mj_S} {τ : mj_T} {v : Nat} : mj_E 1004 153 (some (.ref v) :: ls) st σ τ = mj_E 1004 154 (some (.ref v) :: ls) (.ref v :: st) σ τ := mj_nx i1004_153 rfl
theorem i1004_154 : mj_ins 1004 154 = some (.getfield 502, 157) := by decide +kernel
theorem e1004_154 {ls : mj_L} {st : List Value} {σ : mj_S} {τ : mj_T} : mj_E 1004 154 ls (.ref 59 :: st) σ τ = mj_E 1004 157 ls (.int (σ 59 2) :: st) σ τ := mj_nx i1004_154 rfl
theorem i1004_157 : mj_ins 1004 157 = some (.iload 3, 158) := by decide +kernel
theorem e1004_157 {ls : mj_L} {st : List Value} {σ : mj_S} {τ : mj_T} {a0 a1 a2 : Option Value} {v : Int32} : mj_E 1004 157 (a0 :: a1 :: a2 :: some (.int v) :: ls) st σ τ = mj_E 1004 158 (a0 :: a1 :: a2 :: some (.int v) :: ls) (.int v :: st) σ τ := mj_nx i1004_157 rfl
theorem i1004_158 : mj_ins 1004 158 = some (.iload 8, 160) := by decide +kernel
theorem e1004_158 {ls : mj_L} {st : List Value} {σ : mj_S} {τ : mj_T} {a0 a1 a2 a3 a4 a5 a6 a7 : Option Value} {v : Int32} : mj_E 1004 158 (a0 :: a1 :: a2 :: a3 :: a4 :: a5 :: a6 :: a7 :: some (.int v) :: ls) st σ τ = mj_E 1004 160 (a0 :: a1 :: a2 :: a3 :: a4 :: a5 :: a6 :: a7 :: some (.int v) :: ls) (.int v :: st) σ τ := mj_nx i1004_158 rfl
theorem i1004_160 : mj_ins 1004 160 = some (.invokestatic 1005, 163) := by decide +kernel
theorem e1004_160 {ls : mj_L} {σ : mj_S} {τ : mj_T} {x0 : Nat} {x1 : Int32} {x2 : Int32} {x3 : Int32} {x4 : Int32} : mj_E 1004 160 ls [.int x4, .int x3, .int x2, .int x1, .ref x0] σ τ = mj_bd (mj_C 1005 [.ref x0, .int x1, .int x2, .int x3, .int x4] σ τ) (mj_K 1004 163 ls []) := mj_clS (as := [.ref x0, .int x1, .int x2, .int x3, .int x4]) (r := []) i1004_160 (by decide +kernel : mj_vk 1004 1005 5 0 5 false = true) rfl
theorem i1004_163 : mj_ins 1004 163 = some (.iconst (2), 164) := by decide +kernel
theorem e1004_163 {ls : mj_L} {st : List Value} {σ : mj_S} {τ : mj_T} : mj_E 1004 163 ls st σ τ = mj_E 1004 164 ls (.int (nI 2) :: st) σ τ := mj_nx i1004_163 rfl
theorem i1004_164 : mj_ins 1004 164 = some (.imul, 165) := by decide +kernel
theorem e1004_164 {ls : mj_L} {st : List Value} {σ : mj_S} {τ : mj_T} {x y : Int32} : mj_E 1004 164 ls (.int y :: .int x :: st) σ τ = mj_E 1004 165 ls (.int (x * y) :: st) σ τ := mj_nx i1004_164 rfl
theorem i1004_165 : mj_ins 1004 165 = some (.ireturn, 166) := by decide +kernel
theorem e1004_165 {ls : mj_L} {σ : mj_S} {τ : mj_T} {v : Int32} : mj_E 1004 165 ls [.int v] σ τ = some (some (.int v), σ, τ) := mj_irt i1004_165 rfl
theorem i1004_166 : mj_ins 1004 166 = some (.aload 0, 167) := by decide +kernel
theorem e1004_166 {ls : mj_L} {st : List Value} {σ : mj_S} {τ : mj_T} {v : Nat} : mj_E 1004 166 (some (.ref v) :: ls) st σ τ = mj_E 1004 167 (some (.ref v) :: ls) (.ref v :: st) σ τ := mj_nx i1004_166 rfl
theorem i1004_167 : mj_ins 1004 167 = some (.iconst (1), 168) := by decide +kernel
theorem e1004_167 {ls : mj_L} {st : List Value} {σ : mj_S} {τ : mj_T} : mj_E 1004 167 ls st σ τ = mj_E 1004 168 ls (.int (nI 1) :: st) σ τ := mj_nx i1004_167 rfl
theorem i1004_168 : mj_ins 1004 168 = some (.aload 0, 169) := by decide +kernel
theorem e1004_168 {ls : mj_L} {st : List Value} {σ : mj_S} {τ : mj_T} {v : Nat} : mj_E 1004 168 (some (.ref v) :: ls) st σ τ = mj_E 1004 169 (some (.ref v) :: ls) (.ref v :: st) σ τ := mj_nx i1004_168 rfl
theorem i1004_169 : mj_ins 1004 169 = some (.getfield 502, 172) := by decide +kernel
theorem e1004_169 {ls : mj_L} {st : List Value} {σ : mj_S} {τ : mj_T} : mj_E 1004 169 ls (.ref 59 :: st) σ τ = mj_E 1004 172 ls (.int (σ 59 2) :: st) σ τ := mj_nx i1004_169 rfl
theorem i1004_172 : mj_ins 1004 172 = some (.iload 3, 173) := by decide +kernel
theorem e1004_172 {ls : mj_L} {st : List Value} {σ : mj_S} {τ : mj_T} {a0 a1 a2 : Option Value} {v : Int32} : mj_E 1004 172 (a0 :: a1 :: a2 :: some (.int v) :: ls) st σ τ = mj_E 1004 173 (a0 :: a1 :: a2 :: some (.int v) :: ls) (.int v :: st) σ τ := mj_nx i1004_172 rfl
theorem i1004_173 : mj_ins 1004 173 = some (.iload 8, 175) := by decide +kernel
theorem e1004_173 {ls : mj_L} {st : List Value} {σ : mj_S} {τ : mj_T} {a0 a1 a2 a3 a4 a5 a6 a7 : Option Value} {v : Int32} : mj_E 1004 173 (a0 :: a1 :: a2 :: a3 :: a4 :: a5 :: a6 :: a7 :: some (.int v) :: ls) st σ τ = mj_E 1004 175 (a0 :: a1 :: a2 :: a3 :: a4 :: a5 :: a6 :: a7 :: some (.int v) :: ls) (.int v :: st) σ τ := mj_nx i1004_173 rfl
theorem i1004_175 : mj_ins 1004 175 = some (.invokestatic 1005, 178) := by decide +kernel
theorem e1004_175 {ls : mj_L} {σ : mj_S} {τ : mj_T} {x0 : Nat} {x1 : Int32} {x2 : Int32} {x3 : Int32} {x4 : Int32} : mj_E 1004 175 ls [.int x4, .int x3, .int x2, .int x1, .ref x0] σ τ = mj_bd (mj_C 1005 [.ref x0, .int x1, .int x2, .int x3, .int x4] σ τ) (mj_K 1004 178 ls []) := mj_clS (as := [.ref x0, .int x1, .int x2, .int x3, .int x4]) (r := []) i1004_175 (by decide +kernel : mj_vk 1004 1005 5 0 5 false = true) rfl
theorem i1004_178 : mj_ins 1004 178 = some (.aload 0, 179) := by decide +kernel
theorem e1004_178 {ls : mj_L} {st : List Value} {σ : mj_S} {τ : mj_T} {v : Nat} : mj_E 1004 178 (some (.ref v) :: ls) st σ τ = mj_E 1004 179 (some (.ref v) :: ls) (.ref v :: st) σ τ := mj_nx i1004_178 rfl
theorem i1004_179 : mj_ins 1004 179 = some (.iconst (0), 180) := by decide +kernel
theorem e1004_179 {ls : mj_L} {st : List Value} {σ : mj_S} {τ : mj_T} : mj_E 1004 179 ls st σ τ = mj_E 1004 180 ls (.int (nI 0) :: st) σ τ := mj_nx i1004_179 rfl
theorem i1004_180 : mj_ins 1004 180 = some (.aload 0, 181) := by decide +kernel
theorem e1004_180 {ls : mj_L} {st : List Value} {σ : mj_S} {τ : mj_T} {v : Nat} : mj_E 1004 180 (some (.ref v) :: ls) st σ τ = mj_E 1004 181 (some (.ref v) :: ls) (.ref v :: st) σ τ := mj_nx i1004_180 rfl
theorem i1004_181 : mj_ins 1004 181 = some (.getfield 502, 184) := by decide +kernel
theorem e1004_181 {ls : mj_L} {st : List Value} {σ : mj_S} {τ : mj_T} : mj_E 1004 181 ls (.ref 59 :: st) σ τ = mj_E 1004 184 ls (.int (σ 59 2) :: st) σ τ := mj_nx i1004_181 rfl
theorem i1004_184 : mj_ins 1004 184 = some (.iload 3, 185) := by decide +kernel
theorem e1004_184 {ls : mj_L} {st : List Value} {σ : mj_S} {τ : mj_T} {a0 a1 a2 : Option Value} {v : Int32} : mj_E 1004 184 (a0 :: a1 :: a2 :: some (.int v) :: ls) st σ τ = mj_E 1004 185 (a0 :: a1 :: a2 :: some (.int v) :: ls) (.int v :: st) σ τ := mj_nx i1004_184 rfl
theorem i1004_185 : mj_ins 1004 185 = some (.aload 0, 186) := by decide +kernel
theorem e1004_185 {ls : mj_L} {st : List Value} {σ : mj_S} {τ : mj_T} {v : Nat} : mj_E 1004 185 (some (.ref v) :: ls) st σ τ = mj_E 1004 186 (some (.ref v) :: ls) (.ref v :: st) σ τ := mj_nx i1004_185 rfl
theorem i1004_186 : mj_ins 1004 186 = some (.getfield 504, 189) := by decide +kernel
theorem e1004_186 {ls : mj_L} {st : List Value} {σ : mj_S} {τ : mj_T} : mj_E 1004 186 ls (.ref 59 :: st) σ τ = mj_E 1004 189 ls (.int (σ 59 4) :: st) σ τ := mj_nx i1004_186 rfl
theorem i1004_189 : mj_ins 1004 189 = some (.isub, 190) := by decide +kernel
theorem e1004_189 {ls : mj_L} {st : List Value} {σ : mj_S} {τ : mj_T} {x y : Int32} : mj_E 1004 189 ls (.int y :: .int x :: st) σ τ = mj_E 1004 190 ls (.int (x - y) :: st) σ τ := mj_nx i1004_189 rfl
theorem i1004_190 : mj_ins 1004 190 = some (.iload 8, 192) := by decide +kernel
theorem e1004_190 {ls : mj_L} {st : List Value} {σ : mj_S} {τ : mj_T} {a0 a1 a2 a3 a4 a5 a6 a7 : Option Value} {v : Int32} : mj_E 1004 190 (a0 :: a1 :: a2 :: a3 :: a4 :: a5 :: a6 :: a7 :: some (.int v) :: ls) st σ τ = mj_E 1004 192 (a0 :: a1 :: a2 :: a3 :: a4 :: a5 :: a6 :: a7 :: some (.int v) :: ls) (.int v :: st) σ τ := mj_nx i1004_190 rfl
theorem i1004_192 : mj_ins 1004 192 = some (.invokestatic 1005, 195) := by decide +kernel
theorem e1004_192 {ls : mj_L} {σ : mj_S} {τ : mj_T} {x0 : Nat} {x1 : Int32} {x2 : Int32} {x3 : Int32} {x4 : Int32} {w0 : Value} : mj_E 1004 192 ls [.int x4, .int x3, .int x2, .int x1, .ref x0, w0] σ τ = mj_bd (mj_C 1005 [.ref x0, .int x1, .int x2, .int x3, .int x4] σ τ) (mj_K 1004 195 ls [w0]) := mj_clS (as := [.ref x0, .int x1, .int x2, .int x3, .int x4]) (r := [w0]) i1004_192 (by decide +kernel : mj_vk 1004 1005 5 1 5 false = true) rfl
theorem i1004_195 : mj_ins 1004 195 = some (.ixor, 196) := by decide +kernel
theorem e1004_195 {ls : mj_L} {st : List Value} {σ : mj_S} {τ : mj_T} {x y : Int32} : mj_E 1004 195 ls (.int y :: .int x :: st) σ τ = mj_E 1004 196 ls (.int (x ^^^ y) :: st) σ τ := mj_nx i1004_195 rfl
theorem i1004_196 : mj_ins 1004 196 = some (.ireturn, 197) := by decide +kernel
theorem e1004_196 {ls : mj_L} {σ : mj_S} {τ : mj_T} {v : Int32} : mj_E 1004 196 ls [.int v] σ τ = some (some (.int v), σ, τ) := mj_irt i1004_196 rfl
theorem i1004_197 : mj_ins 1004 197 = some (.aload 0, 198) := by decide +kernel
theorem e1004_197 {ls : mj_L} {st : List Value} {σ : mj_S} {τ : mj_T} {v : Nat} : mj_E 1004 197 (some (.ref v) :: ls) st σ τ = mj_E 1004 198 (some (.ref v) :: ls) (.ref v :: st) σ τ := mj_nx i1004_197 rfl
theorem i1004_198 : mj_ins 1004 198 = some (.iconst (0), 199) := by decide +kernel
theorem e1004_198 {ls : mj_L} {st : List Value} {σ : mj_S} {τ : mj_T} : mj_E 1004 198 ls st σ τ = mj_E 1004 199 ls (.int (nI 0) :: st) σ τ := mj_nx i1004_198 rfl
theorem i1004_199 : mj_ins 1004 199 = some (.iload 7, 201) := by decide +kernel
theorem e1004_199 {ls : mj_L} {st : List Value} {σ : mj_S} {τ : mj_T} {a0 a1 a2 a3 a4 a5 a6 : Option Value} {v : Int32} : mj_E 1004 199 (a0 :: a1 :: a2 :: a3 :: a4 :: a5 :: a6 :: some (.int v) :: ls) st σ τ = mj_E 1004 201 (a0 :: a1 :: a2 :: a3 :: a4 :: a5 :: a6 :: some (.int v) :: ls) (.int v :: st) σ τ := mj_nx i1004_199 rfl
theorem i1004_201 : mj_ins 1004 201 = some (.iload 3, 202) := by decide +kernel
theorem e1004_201 {ls : mj_L} {st : List Value} {σ : mj_S} {τ : mj_T} {a0 a1 a2 : Option Value} {v : Int32} : mj_E 1004 201 (a0 :: a1 :: a2 :: some (.int v) :: ls) st σ τ = mj_E 1004 202 (a0 :: a1 :: a2 :: some (.int v) :: ls) (.int v :: st) σ τ := mj_nx i1004_201 rfl
theorem i1004_202 : mj_ins 1004 202 = some (.iload 8, 204) := by decide +kernel
theorem e1004_202 {ls : mj_L} {st : List Value} {σ : mj_S} {τ : mj_T} {a0 a1 a2 a3 a4 a5 a6 a7 : Option Value} {v : Int32} : mj_E 1004 202 (a0 :: a1 :: a2 :: a3 :: a4 :: a5 :: a6 :: a7 :: some (.int v) :: ls) st σ τ = mj_E 1004 204 (a0 :: a1 :: a2 :: a3 :: a4 :: a5 :: a6 :: a7 :: some (.int v) :: ls) (.int v :: st) σ τ := mj_nx i1004_202 rfl
theorem i1004_204 : mj_ins 1004 204 = some (.invokestatic 1005, 207) := by decide +kernel
theorem e1004_204 {ls : mj_L} {σ : mj_S} {τ : mj_T} {x0 : Nat} {x1 : Int32} {x2 : Int32} {x3 : Int32} {x4 : Int32} : mj_E 1004 204 ls [.int x4, .int x3, .int x2, .int x1, .ref x0] σ τ = mj_bd (mj_C 1005 [.ref x0, .int x1, .int x2, .int x3, .int x4] σ τ) (mj_K 1004 207 ls []) := mj_clS (as := [.ref x0, .int x1, .int x2, .int x3, .int x4]) (r := []) i1004_204 (by decide +kernel : mj_vk 1004 1005 5 0 5 false = true) rfl
theorem i1004_207 : mj_ins 1004 207 = some (.aload 0, 208) := by decide +kernel
theorem e1004_207 {ls : mj_L} {st : List Value} {σ : mj_S} {τ : mj_T} {v : Nat} : mj_E 1004 207 (some (.ref v) :: ls) st σ τ = mj_E 1004 208 (some (.ref v) :: ls) (.ref v :: st) σ τ := mj_nx i1004_207 rfl
theorem i1004_208 : mj_ins 1004 208 = some (.getfield 504, 211) := by decide +kernel
theorem e1004_208 {ls : mj_L} {st : List Value} {σ : mj_S} {τ : mj_T} : mj_E 1004 208 ls (.ref 59 :: st) σ τ = mj_E 1004 211 ls (.int (σ 59 4) :: st) σ τ := mj_nx i1004_208 rfl
theorem i1004_211 : mj_ins 1004 211 = some (.iadd, 212) := by decide +kernel
theorem e1004_211 {ls : mj_L} {st : List Value} {σ : mj_S} {τ : mj_T} {x y : Int32} : mj_E 1004 211 ls (.int y :: .int x :: st) σ τ = mj_E 1004 212 ls (.int (x + y) :: st) σ τ := mj_nx i1004_211 rfl
theorem i1004_212 : mj_ins 1004 212 = some (.ireturn, 213) := by decide +kernel
theorem e1004_212 {ls : mj_L} {σ : mj_S} {τ : mj_T} {v : Int32} : mj_E 1004 212 ls [.int v] σ τ = some (some (.int v), σ, τ) := mj_irt i1004_212 rfl
theorem i1004_213 : mj_ins 1004 213 = some (.aload 0, 214) := by decide +kernel
theorem e1004_213 {ls : mj_L} {st : List Value} {σ : mj_S} {τ : mj_T} {v : Nat} : mj_E 1004 213 (some (.ref v) :: ls) st σ τ = mj_E 1004 214 (some (.ref v) :: ls) (.ref v :: st) σ τ := mj_nx i1004_213 rfl
theorem i1004_214 : mj_ins 1004 214 = some (.iconst (1), 215) := by decide +kernel
theorem e1004_214 {ls : mj_L} {st : List Value} {σ : mj_S} {τ : mj_T} : mj_E 1004 214 ls st σ τ = mj_E 1004 215 ls (.int (nI 1) :: st) σ τ := mj_nx i1004_214 rfl
theorem i1004_215 : mj_ins 1004 215 = some (.iload 7, 217) := by decide +kernel
theorem e1004_215 {ls : mj_L} {st : List Value} {σ : mj_S} {τ : mj_T} {a0 a1 a2 a3 a4 a5 a6 : Option Value} {v : Int32} : mj_E 1004 215 (a0 :: a1 :: a2 :: a3 :: a4 :: a5 :: a6 :: some (.int v) :: ls) st σ τ = mj_E 1004 217 (a0 :: a1 :: a2 :: a3 :: a4 :: a5 :: a6 :: some (.int v) :: ls) (.int v :: st) σ τ := mj_nx i1004_215 rfl
theorem i1004_217 : mj_ins 1004 217 = some (.iload 3, 218) := by decide +kernel
theorem e1004_217 {ls : mj_L} {st : List Value} {σ : mj_S} {τ : mj_T} {a0 a1 a2 : Option Value} {v : Int32} : mj_E 1004 217 (a0 :: a1 :: a2 :: some (.int v) :: ls) st σ τ = mj_E 1004 218 (a0 :: a1 :: a2 :: some (.int v) :: ls) (.int v :: st) σ τ := mj_nx i1004_217 rfl
theorem i1004_218 : mj_ins 1004 218 = some (.iload 8, 220) := by decide +kernel
theorem e1004_218 {ls : mj_L} {st : List Value} {σ : mj_S} {τ : mj_T} {a0 a1 a2 a3 a4 a5 a6 a7 : Option Value} {v : Int32} : mj_E 1004 218 (a0 :: a1 :: a2 :: a3 :: a4 :: a5 :: a6 :: a7 :: some (.int v) :: ls) st σ τ = mj_E 1004 220 (a0 :: a1 :: a2 :: a3 :: a4 :: a5 :: a6 :: a7 :: some (.int v) :: ls) (.int v :: st) σ τ := mj_nx i1004_218 rfl
theorem i1004_220 : mj_ins 1004 220 = some (.invokestatic 1005, 223) := by decide +kernel
theorem e1004_220 {ls : mj_L} {σ : mj_S} {τ : mj_T} {x0 : Nat} {x1 : Int32} {x2 : Int32} {x3 : Int32} {x4 : Int32} : mj_E 1004 220 ls [.int x4, .int x3, .int x2, .int x1, .ref x0] σ τ = mj_bd (mj_C 1005 [.ref x0, .int x1, .int x2, .int x3, .int x4] σ τ) (mj_K 1004 223 ls []) := mj_clS (as := [.ref x0, .int x1, .int x2, .int x3, .int x4]) (r := []) i1004_220 (by decide +kernel : mj_vk 1004 1005 5 0 5 false = true) rfl
theorem i1004_223 : mj_ins 1004 223 = some (.iconst (3), 224) := by decide +kernel
theorem e1004_223 {ls : mj_L} {st : List Value} {σ : mj_S} {τ : mj_T} : mj_E 1004 223 ls st σ τ = mj_E 1004 224 ls (.int (nI 3) :: st) σ τ := mj_nx i1004_223 rfl
theorem i1004_224 : mj_ins 1004 224 = some (.imul, 225) := by decide +kernel
theorem e1004_224 {ls : mj_L} {st : List Value} {σ : mj_S} {τ : mj_T} {x y : Int32} : mj_E 1004 224 ls (.int y :: .int x :: st) σ τ = mj_E 1004 225 ls (.int (x * y) :: st) σ τ := mj_nx i1004_224 rfl
theorem i1004_225 : mj_ins 1004 225 = some (.ireturn, 226) := by decide +kernel
theorem e1004_225 {ls : mj_L} {σ : mj_S} {τ : mj_T} {v : Int32} : mj_E 1004 225 ls [.int v] σ τ = some (some (.int v), σ, τ) := mj_irt i1004_225 rfl
theorem i1004_226 : mj_ins 1004 226 = some (.aload 0, 227) := by decide +kernel
theorem e1004_226 {ls : mj_L} {st : List Value} {σ : mj_S} {τ : mj_T} {v : Nat} : mj_E 1004 226 (some (.ref v) :: ls) st σ τ = mj_E 1004 227 (some (.ref v) :: ls) (.ref v :: st) σ τ := mj_nx i1004_226 rfl
theorem i1004_227 : mj_ins 1004 227 = some (.iconst (1), 228) := by decide +kernel
theorem e1004_227 {ls : mj_L} {st : List Value} {σ : mj_S} {τ : mj_T} : mj_E 1004 227 ls st σ τ = mj_E 1004 228 ls (.int (nI 1) :: st) σ τ := mj_nx i1004_227 rfl
theorem i1004_228 : mj_ins 1004 228 = some (.iload 7, 230) := by decide +kernel
theorem e1004_228 {ls : mj_L} {st : List Value} {σ : mj_S} {τ : mj_T} {a0 a1 a2 a3 a4 a5 a6 : Option Value} {v : Int32} : mj_E 1004 228 (a0 :: a1 :: a2 :: a3 :: a4 :: a5 :: a6 :: some (.int v) :: ls) st σ τ = mj_E 1004 230 (a0 :: a1 :: a2 :: a3 :: a4 :: a5 :: a6 :: some (.int v) :: ls) (.int v :: st) σ τ := mj_nx i1004_228 rfl
theorem i1004_230 : mj_ins 1004 230 = some (.iload 3, 231) := by decide +kernel
theorem e1004_230 {ls : mj_L} {st : List Value} {σ : mj_S} {τ : mj_T} {a0 a1 a2 : Option Value} {v : Int32} : mj_E 1004 230 (a0 :: a1 :: a2 :: some (.int v) :: ls) st σ τ = mj_E 1004 231 (a0 :: a1 :: a2 :: some (.int v) :: ls) (.int v :: st) σ τ := mj_nx i1004_230 rfl
theorem i1004_231 : mj_ins 1004 231 = some (.iconst (1), 232) := by decide +kernel
theorem e1004_231 {ls : mj_L} {st : List Value} {σ : mj_S} {τ : mj_T} : mj_E 1004 231 ls st σ τ = mj_E 1004 232 ls (.int (nI 1) :: st) σ τ := mj_nx i1004_231 rfl
theorem i1004_232 : mj_ins 1004 232 = some (.iadd, 233) := by decide +kernel
theorem e1004_232 {ls : mj_L} {st : List Value} {σ : mj_S} {τ : mj_T} {x y : Int32} : mj_E 1004 232 ls (.int y :: .int x :: st) σ τ = mj_E 1004 233 ls (.int (x + y) :: st) σ τ := mj_nx i1004_232 rfl
theorem i1004_233 : mj_ins 1004 233 = some (.iload 8, 235) := by decide +kernel
theorem e1004_233 {ls : mj_L} {st : List Value} {σ : mj_S} {τ : mj_T} {a0 a1 a2 a3 a4 a5 a6 a7 : Option Value} {v : Int32} : mj_E 1004 233 (a0 :: a1 :: a2 :: a3 :: a4 :: a5 :: a6 :: a7 :: some (.int v) :: ls) st σ τ = mj_E 1004 235 (a0 :: a1 :: a2 :: a3 :: a4 :: a5 :: a6 :: a7 :: some (.int v) :: ls) (.int v :: st) σ τ := mj_nx i1004_233 rfl
theorem i1004_235 : mj_ins 1004 235 = some (.invokestatic 1005, 238) := by decide +kernel
theorem e1004_235 {ls : mj_L} {σ : mj_S} {τ : mj_T} {x0 : Nat} {x1 : Int32} {x2 : Int32} {x3 : Int32} {x4 : Int32} : mj_E 1004 235 ls [.int x4, .int x3, .int x2, .int x1, .ref x0] σ τ = mj_bd (mj_C 1005 [.ref x0, .int x1, .int x2, .int x3, .int x4] σ τ) (mj_K 1004 238 ls []) := mj_clS (as := [.ref x0, .int x1, .int x2, .int x3, .int x4]) (r := []) i1004_235 (by decide +kernel : mj_vk 1004 1005 5 0 5 false = true) rfl
theorem i1004_238 : mj_ins 1004 238 = some (.ireturn, 239) := by decide +kernel
theorem e1004_238 {ls : mj_L} {σ : mj_S} {τ : mj_T} {v : Int32} : mj_E 1004 238 ls [.int v] σ τ = some (some (.int v), σ, τ) := mj_irt i1004_238 rfl
theorem i1004_239 : mj_ins 1004 239 = some (.aload 0, 240) := by decide +kernel
theorem e1004_239 {ls : mj_L} {st : List Value} {σ : mj_S} {τ : mj_T} {v : Nat} : mj_E 1004 239 (some (.ref v) :: ls) st σ τ = mj_E 1004 240 (some (.ref v) :: ls) (.ref v :: st) σ τ := mj_nx i1004_239 rfl
theorem i1004_240 : mj_ins 1004 240 = some (.iconst (2), 241) := by decide +kernel
theorem e1004_240 {ls : mj_L} {st : List Value} {σ : mj_S} {τ : mj_T} : mj_E 1004 240 ls st σ τ = mj_E 1004 241 ls (.int (nI 2) :: st) σ τ := mj_nx i1004_240 rfl
theorem i1004_241 : mj_ins 1004 241 = some (.iload 7, 243) := by decide +kernel
theorem e1004_241 {ls : mj_L} {st : List Value} {σ : mj_S} {τ : mj_T} {a0 a1 a2 a3 a4 a5 a6 : Option Value} {v : Int32} : mj_E 1004 241 (a0 :: a1 :: a2 :: a3 :: a4 :: a5 :: a6 :: some (.int v) :: ls) st σ τ = mj_E 1004 243 (a0 :: a1 :: a2 :: a3 :: a4 :: a5 :: a6 :: some (.int v) :: ls) (.int v :: st) σ τ := mj_nx i1004_241 rfl
theorem i1004_243 : mj_ins 1004 243 = some (.iload 3, 244) := by decide +kernel
theorem e1004_243 {ls : mj_L} {st : List Value} {σ : mj_S} {τ : mj_T} {a0 a1 a2 : Option Value} {v : Int32} : mj_E 1004 243 (a0 :: a1 :: a2 :: some (.int v) :: ls) st σ τ = mj_E 1004 244 (a0 :: a1 :: a2 :: some (.int v) :: ls) (.int v :: st) σ τ := mj_nx i1004_243 rfl
theorem i1004_244 : mj_ins 1004 244 = some (.iload 8, 246) := by decide +kernel
theorem e1004_244 {ls : mj_L} {st : List Value} {σ : mj_S} {τ : mj_T} {a0 a1 a2 a3 a4 a5 a6 a7 : Option Value} {v : Int32} : mj_E 1004 244 (a0 :: a1 :: a2 :: a3 :: a4 :: a5 :: a6 :: a7 :: some (.int v) :: ls) st σ τ = mj_E 1004 246 (a0 :: a1 :: a2 :: a3 :: a4 :: a5 :: a6 :: a7 :: some (.int v) :: ls) (.int v :: st) σ τ := mj_nx i1004_244 rfl
theorem i1004_246 : mj_ins 1004 246 = some (.invokestatic 1005, 249) := by decide +kernel
theorem e1004_246 {ls : mj_L} {σ : mj_S} {τ : mj_T} {x0 : Nat} {x1 : Int32} {x2 : Int32} {x3 : Int32} {x4 : Int32} : mj_E 1004 246 ls [.int x4, .int x3, .int x2, .int x1, .ref x0] σ τ = mj_bd (mj_C 1005 [.ref x0, .int x1, .int x2, .int x3, .int x4] σ τ) (mj_K 1004 249 ls []) := mj_clS (as := [.ref x0, .int x1, .int x2, .int x3, .int x4]) (r := []) i1004_246 (by decide +kernel : mj_vk 1004 1005 5 0 5 false = true) rfl
theorem i1004_249 : mj_ins 1004 249 = some (.ineg, 250) := by decide +kernel
theorem e1004_249 {ls : mj_L} {st : List Value} {σ : mj_S} {τ : mj_T} {x : Int32} : mj_E 1004 249 ls (.int x :: st) σ τ = mj_E 1004 250 ls (.int (-x) :: st) σ τ := mj_nx i1004_249 rfl
theorem i1004_250 : mj_ins 1004 250 = some (.ireturn, 251) := by decide +kernel
theorem e1004_250 {ls : mj_L} {σ : mj_S} {τ : mj_T} {v : Int32} : mj_E 1004 250 ls [.int v] σ τ = some (some (.int v), σ, τ) := mj_irt i1004_250 rfl
theorem i1004_251 : mj_ins 1004 251 = some (.aload 0, 252) := by decide +kernel
theorem e1004_251 {ls : mj_L} {st : List Value} {σ : mj_S} {τ : mj_T} {v : Nat} : mj_E 1004 251 (some (.ref v) :: ls) st σ τ = mj_E 1004 252 (some (.ref v) :: ls) (.ref v :: st) σ τ := mj_nx i1004_251 rfl
theorem i1004_252 : mj_ins 1004 252 = some (.iconst (0), 253) := by decide +kernel
theorem e1004_252 {ls : mj_L} {st : List Value} {σ : mj_S} {τ : mj_T} : mj_E 1004 252 ls st σ τ = mj_E 1004 253 ls (.int (nI 0) :: st) σ τ := mj_nx i1004_252 rfl
theorem i1004_253 : mj_ins 1004 253 = some (.iload 7, 255) := by decide +kernel
theorem e1004_253 {ls : mj_L} {st : List Value} {σ : mj_S} {τ : mj_T} {a0 a1 a2 a3 a4 a5 a6 : Option Value} {v : Int32} : mj_E 1004 253 (a0 :: a1 :: a2 :: a3 :: a4 :: a5 :: a6 :: some (.int v) :: ls) st σ τ = mj_E 1004 255 (a0 :: a1 :: a2 :: a3 :: a4 :: a5 :: a6 :: some (.int v) :: ls) (.int v :: st) σ τ := mj_nx i1004_253 rfl
theorem i1004_255 : mj_ins 1004 255 = some (.iload 3, 256) := by decide +kernel
theorem e1004_255 {ls : mj_L} {st : List Value} {σ : mj_S} {τ : mj_T} {a0 a1 a2 : Option Value} {v : Int32} : mj_E 1004 255 (a0 :: a1 :: a2 :: some (.int v) :: ls) st σ τ = mj_E 1004 256 (a0 :: a1 :: a2 :: some (.int v) :: ls) (.int v :: st) σ τ := mj_nx i1004_255 rfl
theorem i1004_256 : mj_ins 1004 256 = some (.iload 8, 258) := by decide +kernel
theorem e1004_256 {ls : mj_L} {st : List Value} {σ : mj_S} {τ : mj_T} {a0 a1 a2 a3 a4 a5 a6 a7 : Option Value} {v : Int32} : mj_E 1004 256 (a0 :: a1 :: a2 :: a3 :: a4 :: a5 :: a6 :: a7 :: some (.int v) :: ls) st σ τ = mj_E 1004 258 (a0 :: a1 :: a2 :: a3 :: a4 :: a5 :: a6 :: a7 :: some (.int v) :: ls) (.int v :: st) σ τ := mj_nx i1004_256 rfl
theorem i1004_258 : mj_ins 1004 258 = some (.invokestatic 1005, 261) := by decide +kernel
theorem e1004_258 {ls : mj_L} {σ : mj_S} {τ : mj_T} {x0 : Nat} {x1 : Int32} {x2 : Int32} {x3 : Int32} {x4 : Int32} : mj_E 1004 258 ls [.int x4, .int x3, .int x2, .int x1, .ref x0] σ τ = mj_bd (mj_C 1005 [.ref x0, .int x1, .int x2, .int x3, .int x4] σ τ) (mj_K 1004 261 ls []) := mj_clS (as := [.ref x0, .int x1, .int x2, .int x3, .int x4]) (r := []) i1004_258 (by decide +kernel : mj_vk 1004 1005 5 0 5 false = true) rfl
theorem i1004_261 : mj_ins 1004 261 = some (.aload 0, 262) := by decide +kernel
theorem e1004_261 {ls : mj_L} {st : List Value} {σ : mj_S} {τ : mj_T} {v : Nat} : mj_E 1004 261 (some (.ref v) :: ls) st σ τ = mj_E 1004 262 (some (.ref v) :: ls) (.ref v :: st) σ τ := mj_nx i1004_261 rfl
theorem i1004_262 : mj_ins 1004 262 = some (.getfield 503, 265) := by decide +kernel
theorem e1004_262 {ls : mj_L} {st : List Value} {σ : mj_S} {τ : mj_T} : mj_E 1004 262 ls (.ref 59 :: st) σ τ = mj_E 1004 265 ls (.int (σ 59 3) :: st) σ τ := mj_nx i1004_262 rfl
theorem i1004_265 : mj_ins 1004 265 = some (.isub, 266) := by decide +kernel
theorem e1004_265 {ls : mj_L} {st : List Value} {σ : mj_S} {τ : mj_T} {x y : Int32} : mj_E 1004 265 ls (.int y :: .int x :: st) σ τ = mj_E 1004 266 ls (.int (x - y) :: st) σ τ := mj_nx i1004_265 rfl
theorem i1004_266 : mj_ins 1004 266 = some (.ireturn, 267) := by decide +kernel
theorem e1004_266 {ls : mj_L} {σ : mj_S} {τ : mj_T} {v : Int32} : mj_E 1004 266 ls [.int v] σ τ = some (some (.int v), σ, τ) := mj_irt i1004_266 rfl
theorem i1004_267 : mj_ins 1004 267 = some (.aload 0, 268) := by decide +kernel
theorem e1004_267 {ls : mj_L} {st : List Value} {σ : mj_S} {τ : mj_T} {v : Nat} : mj_E 1004 267 (some (.ref v) :: ls) st σ τ = mj_E 1004 268 (some (.ref v) :: ls) (.ref v :: st) σ τ := mj_nx i1004_267 rfl
theorem i1004_268 : mj_ins 1004 268 = some (.iconst (2), 269) := by decide +kernel
theorem e1004_268 {ls : mj_L} {st : List Value} {σ : mj_S} {τ : mj_T} : mj_E 1004 268 ls st σ τ = mj_E 1004 269 ls (.int (nI 2) :: st) σ τ := mj_nx i1004_268 rfl
theorem i1004_269 : mj_ins 1004 269 = some (.iload 7, 271) := by decide +kernel
theorem e1004_269 {ls : mj_L} {st : List Value} {σ : mj_S} {τ : mj_T} {a0 a1 a2 a3 a4 a5 a6 : Option Value} {v : Int32} : mj_E 1004 269 (a0 :: a1 :: a2 :: a3 :: a4 :: a5 :: a6 :: some (.int v) :: ls) st σ τ = mj_E 1004 271 (a0 :: a1 :: a2 :: a3 :: a4 :: a5 :: a6 :: some (.int v) :: ls) (.int v :: st) σ τ := mj_nx i1004_269 rfl
theorem i1004_271 : mj_ins 1004 271 = some (.iload 3, 272) := by decide +kernel
theorem e1004_271 {ls : mj_L} {st : List Value} {σ : mj_S} {τ : mj_T} {a0 a1 a2 : Option Value} {v : Int32} : mj_E 1004 271 (a0 :: a1 :: a2 :: some (.int v) :: ls) st σ τ = mj_E 1004 272 (a0 :: a1 :: a2 :: some (.int v) :: ls) (.int v :: st) σ τ := mj_nx i1004_271 rfl
theorem i1004_272 : mj_ins 1004 272 = some (.iload 8, 274) := by decide +kernel
theorem e1004_272 {ls : mj_L} {st : List Value} {σ : mj_S} {τ : mj_T} {a0 a1 a2 a3 a4 a5 a6 a7 : Option Value} {v : Int32} : mj_E 1004 272 (a0 :: a1 :: a2 :: a3 :: a4 :: a5 :: a6 :: a7 :: some (.int v) :: ls) st σ τ = mj_E 1004 274 (a0 :: a1 :: a2 :: a3 :: a4 :: a5 :: a6 :: a7 :: some (.int v) :: ls) (.int v :: st) σ τ := mj_nx i1004_272 rfl
theorem i1004_274 : mj_ins 1004 274 = some (.invokestatic 1005, 277) := by decide +kernel
theorem e1004_274 {ls : mj_L} {σ : mj_S} {τ : mj_T} {x0 : Nat} {x1 : Int32} {x2 : Int32} {x3 : Int32} {x4 : Int32} : mj_E 1004 274 ls [.int x4, .int x3, .int x2, .int x1, .ref x0] σ τ = mj_bd (mj_C 1005 [.ref x0, .int x1, .int x2, .int x3, .int x4] σ τ) (mj_K 1004 277 ls []) := mj_clS (as := [.ref x0, .int x1, .int x2, .int x3, .int x4]) (r := []) i1004_274 (by decide +kernel : mj_vk 1004 1005 5 0 5 false = true) rfl
theorem i1004_277 : mj_ins 1004 277 = some (.iconst (5), 278) := by decide +kernel
theorem e1004_277 {ls : mj_L} {st : List Value} {σ : mj_S} {τ : mj_T} : mj_E 1004 277 ls st σ τ = mj_E 1004 278 ls (.int (nI 5) :: st) σ τ := mj_nx i1004_277 rfl
theorem i1004_278 : mj_ins 1004 278 = some (.ixor, 279) := by decide +kernel
theorem e1004_278 {ls : mj_L} {st : List Value} {σ : mj_S} {τ : mj_T} {x y : Int32} : mj_E 1004 278 ls (.int y :: .int x :: st) σ τ = mj_E 1004 279 ls (.int (x ^^^ y) :: st) σ τ := mj_nx i1004_278 rfl
theorem i1004_279 : mj_ins 1004 279 = some (.ireturn, 280) := by decide +kernel
theorem e1004_279 {ls : mj_L} {σ : mj_S} {τ : mj_T} {v : Int32} : mj_E 1004 279 ls [.int v] σ τ = some (some (.int v), σ, τ) := mj_irt i1004_279 rfl
theorem i1004_280 : mj_ins 1004 280 = some (.aload 0, 281) := by decide +kernel
theorem e1004_280 {ls : mj_L} {st : List Value} {σ : mj_S} {τ : mj_T} {v : Nat} : mj_E 1004 280 (some (.ref v) :: ls) st σ τ = mj_E 1004 281 (some (.ref v) :: ls) (.ref v :: st) σ τ := mj_nx i1004_280 rfl
theorem i1004_281 : mj_ins 1004 281 = some (.iconst (0), 282) := by decide +kernel
theorem e1004_281 {ls : mj_L} {st : List Value} {σ : mj_S} {τ : mj_T} : mj_E 1004 281 ls st σ τ = mj_E 1004 282 ls (.int (nI 0) :: st) σ τ := mj_nx i1004_281 rfl
theorem i1004_282 : mj_ins 1004 282 = some (.iload 7, 284) := by decide +kernel
theorem e1004_282 {ls : mj_L} {st : List Value} {σ : mj_S} {τ : mj_T} {a0 a1 a2 a3 a4 a5 a6 : Option Value} {v : Int32} : mj_E 1004 282 (a0 :: a1 :: a2 :: a3 :: a4 :: a5 :: a6 :: some (.int v) :: ls) st σ τ = mj_E 1004 284 (a0 :: a1 :: a2 :: a3 :: a4 :: a5 :: a6 :: some (.int v) :: ls) (.int v :: st) σ τ := mj_nx i1004_282 rfl
theorem i1004_284 : mj_ins 1004 284 = some (.iload 3, 285) := by decide +kernel
theorem e1004_284 {ls : mj_L} {st : List Value} {σ : mj_S} {τ : mj_T} {a0 a1 a2 : Option Value} {v : Int32} : mj_E 1004 284 (a0 :: a1 :: a2 :: some (.int v) :: ls) st σ τ = mj_E 1004 285 (a0 :: a1 :: a2 :: some (.int v) :: ls) (.int v :: st) σ τ := mj_nx i1004_284 rfl
theorem i1004_285 : mj_ins 1004 285 = some (.iload 8, 287) := by decide +kernel
theorem e1004_285 {ls : mj_L} {st : List Value} {σ : mj_S} {τ : mj_T} {a0 a1 a2 a3 a4 a5 a6 a7 : Option Value} {v : Int32} : mj_E 1004 285 (a0 :: a1 :: a2 :: a3 :: a4 :: a5 :: a6 :: a7 :: some (.int v) :: ls) st σ τ = mj_E 1004 287 (a0 :: a1 :: a2 :: a3 :: a4 :: a5 :: a6 :: a7 :: some (.int v) :: ls) (.int v :: st) σ τ := mj_nx i1004_285 rfl
theorem i1004_287 : mj_ins 1004 287 = some (.invokestatic 1005, 290) := by decide +kernel
theorem e1004_287 {ls : mj_L} {σ : mj_S} {τ : mj_T} {x0 : Nat} {x1 : Int32} {x2 : Int32} {x3 : Int32} {x4 : Int32} : mj_E 1004 287 ls [.int x4, .int x3, .int x2, .int x1, .ref x0] σ τ = mj_bd (mj_C 1005 [.ref x0, .int x1, .int x2, .int x3, .int x4] σ τ) (mj_K 1004 290 ls []) := mj_clS (as := [.ref x0, .int x1, .int x2, .int x3, .int x4]) (r := []) i1004_287 (by decide +kernel : mj_vk 1004 1005 5 0 5 false = true) rfl
theorem i1004_290 : mj_ins 1004 290 = some (.iconst (2), 291) := by decide +kernel
theorem e1004_290 {ls : mj_L} {st : List Value} {σ : mj_S} {τ : mj_T} : mj_E 1004 290 ls st σ τ = mj_E 1004 291 ls (.int (nI 2) :: st) σ τ := mj_nx i1004_290 rfl
theorem i1004_291 : mj_ins 1004 291 = some (.imul, 292) := by decide +kernel
theorem e1004_291 {ls : mj_L} {st : List Value} {σ : mj_S} {τ : mj_T} {x y : Int32} : mj_E 1004 291 ls (.int y :: .int x :: st) σ τ = mj_E 1004 292 ls (.int (x * y) :: st) σ τ := mj_nx i1004_291 rfl
theorem i1004_292 : mj_ins 1004 292 = some (.ireturn, 293) := by decide +kernel
theorem e1004_292 {ls : mj_L} {σ : mj_S} {τ : mj_T} {v : Int32} : mj_E 1004 292 ls [.int v] σ τ = some (some (.int v), σ, τ) := mj_irt i1004_292 rfl
theorem i1004_293 : mj_ins 1004 293 = some (.aload 0, 294) := by decide +kernel
theorem e1004_293 {ls : mj_L} {st : List Value} {σ : mj_S} {τ : mj_T} {v : Nat} : mj_E 1004 293 (some (.ref v) :: ls) st σ τ = mj_E 1004 294 (some (.ref v) :: ls) (.ref v :: st) σ τ := mj_nx i1004_293 rfl
theorem i1004_294 : mj_ins 1004 294 = some (.iconst (1), 295) := by decide +kernel
theorem e1004_294 {ls : mj_L} {st : List Value} {σ : mj_S} {τ : mj_T} : mj_E 1004 294 ls st σ τ = mj_E 1004 295 ls (.int (nI 1) :: st) σ τ := mj_nx i1004_294 rfl
theorem i1004_295 : mj_ins 1004 295 = some (.iload 7, 297) := by decide +kernel
theorem e1004_295 {ls : mj_L} {st : List Value} {σ : mj_S} {τ : mj_T} {a0 a1 a2 a3 a4 a5 a6 : Option Value} {v : Int32} : mj_E 1004 295 (a0 :: a1 :: a2 :: a3 :: a4 :: a5 :: a6 :: some (.int v) :: ls) st σ τ = mj_E 1004 297 (a0 :: a1 :: a2 :: a3 :: a4 :: a5 :: a6 :: some (.int v) :: ls) (.int v :: st) σ τ := mj_nx i1004_295 rfl
theorem i1004_297 : mj_ins 1004 297 = some (.iload 3, 298) := by decide +kernel
theorem e1004_297 {ls : mj_L} {st : List Value} {σ : mj_S} {τ : mj_T} {a0 a1 a2 : Option Value} {v : Int32} : mj_E 1004 297 (a0 :: a1 :: a2 :: some (.int v) :: ls) st σ τ = mj_E 1004 298 (a0 :: a1 :: a2 :: some (.int v) :: ls) (.int v :: st) σ τ := mj_nx i1004_297 rfl
theorem i1004_298 : mj_ins 1004 298 = some (.aload 0, 299) := by decide +kernel
theorem e1004_298 {ls : mj_L} {st : List Value} {σ : mj_S} {τ : mj_T} {v : Nat} : mj_E 1004 298 (some (.ref v) :: ls) st σ τ = mj_E 1004 299 (some (.ref v) :: ls) (.ref v :: st) σ τ := mj_nx i1004_298 rfl
theorem i1004_299 : mj_ins 1004 299 = some (.getfield 504, 302) := by decide +kernel
theorem e1004_299 {ls : mj_L} {st : List Value} {σ : mj_S} {τ : mj_T} : mj_E 1004 299 ls (.ref 59 :: st) σ τ = mj_E 1004 302 ls (.int (σ 59 4) :: st) σ τ := mj_nx i1004_299 rfl
theorem i1004_302 : mj_ins 1004 302 = some (.isub, 303) := by decide +kernel
theorem e1004_302 {ls : mj_L} {st : List Value} {σ : mj_S} {τ : mj_T} {x y : Int32} : mj_E 1004 302 ls (.int y :: .int x :: st) σ τ = mj_E 1004 303 ls (.int (x - y) :: st) σ τ := mj_nx i1004_302 rfl
theorem i1004_303 : mj_ins 1004 303 = some (.iload 8, 305) := by decide +kernel
theorem e1004_303 {ls : mj_L} {st : List Value} {σ : mj_S} {τ : mj_T} {a0 a1 a2 a3 a4 a5 a6 a7 : Option Value} {v : Int32} : mj_E 1004 303 (a0 :: a1 :: a2 :: a3 :: a4 :: a5 :: a6 :: a7 :: some (.int v) :: ls) st σ τ = mj_E 1004 305 (a0 :: a1 :: a2 :: a3 :: a4 :: a5 :: a6 :: a7 :: some (.int v) :: ls) (.int v :: st) σ τ := mj_nx i1004_303 rfl
theorem i1004_305 : mj_ins 1004 305 = some (.invokestatic 1005, 308) := by decide +kernel
theorem e1004_305 {ls : mj_L} {σ : mj_S} {τ : mj_T} {x0 : Nat} {x1 : Int32} {x2 : Int32} {x3 : Int32} {x4 : Int32} : mj_E 1004 305 ls [.int x4, .int x3, .int x2, .int x1, .ref x0] σ τ = mj_bd (mj_C 1005 [.ref x0, .int x1, .int x2, .int x3, .int x4] σ τ) (mj_K 1004 308 ls []) := mj_clS (as := [.ref x0, .int x1, .int x2, .int x3, .int x4]) (r := []) i1004_305 (by decide +kernel : mj_vk 1004 1005 5 0 5 false = true) rfl
theorem i1004_308 : mj_ins 1004 308 = some (.ireturn, 309) := by decide +kernel
theorem e1004_308 {ls : mj_L} {σ : mj_S} {τ : mj_T} {v : Int32} : mj_E 1004 308 ls [.int v] σ τ = some (some (.int v), σ, τ) := mj_irt i1004_308 rfl
theorem c1005 {σ : mj_S} {τ : mj_T} {x0 : Nat} {x1 : Int32} {x2 : Int32} {x3 : Int32} {x4 : Int32} : mj_C 1005 [.ref x0, .int x1, .int x2, .int x3, .int x4] σ τ = mj_E 1005 0 [some (.ref x0), some (.int x1), some (.int x2), some (.int x3), some (.int x4), none, none, none, none] [] σ τ := rfl
theorem i1005_0 : mj_ins 1005 0 = some (.iload 1, 1) := by decide +kernel
theorem e1005_0 {ls : mj_L} {st : List Value} {σ : mj_S} {τ : mj_T} {a0 : Option Value} {v : Int32} : mj_E 1005 0 (a0 :: some (.int v) :: ls) st σ τ = mj_E 1005 1 (a0 :: some (.int v) :: ls) (.int v :: st) σ τ := mj_nx i1005_0 rfl
theorem i1005_1 : mj_ins 1005 1 = some (.iload 2, 2) := by decide +kernel
theorem e1005_1 {ls : mj_L} {st : List Value} {σ : mj_S} {τ : mj_T} {a0 a1 : Option Value} {v : Int32} : mj_E 1005 1 (a0 :: a1 :: some (.int v) :: ls) st σ τ = mj_E 1005 2 (a0 :: a1 :: some (.int v) :: ls) (.int v :: st) σ τ := mj_nx i1005_1 rfl
theorem i1005_2 : mj_ins 1005 2 = some (.invokestatic 71, 5) := by decide +kernel
theorem e1005_2 {ls : mj_L} {σ : mj_S} {τ : mj_T} {x0 : Int32} {x1 : Int32} : mj_E 1005 2 ls [.int x1, .int x0] σ τ = mj_bd (mj_C 71 [.int x0, .int x1] σ τ) (mj_K 1005 5 ls []) := mj_clS (as := [.int x0, .int x1]) (r := []) i1005_2 (by decide +kernel : mj_vk 1005 71 2 0 2 false = true) rfl
theorem i1005_5 : mj_ins 1005 5 = some (.istore 5, 7) := by decide +kernel
theorem e1005_5 {ls : mj_L} {st : List Value} {σ : mj_S} {τ : mj_T} {a0 a1 a2 a3 a4 a5 : Option Value} {v : Int32} : mj_E 1005 5 (a0 :: a1 :: a2 :: a3 :: a4 :: a5 :: ls) (.int v :: st) σ τ = mj_E 1005 7 (a0 :: a1 :: a2 :: a3 :: a4 :: some (.int v) :: ls) st σ τ := mj_nx i1005_5 rfl
theorem i1005_7 : mj_ins 1005 7 = some (.iload 5, 9) := by decide +kernel
theorem e1005_7 {ls : mj_L} {st : List Value} {σ : mj_S} {τ : mj_T} {a0 a1 a2 a3 a4 : Option Value} {v : Int32} : mj_E 1005 7 (a0 :: a1 :: a2 :: a3 :: a4 :: some (.int v) :: ls) st σ τ = mj_E 1005 9 (a0 :: a1 :: a2 :: a3 :: a4 :: some (.int v) :: ls) (.int v :: st) σ τ := mj_nx i1005_7 rfl
theorem i1005_9 : mj_ins 1005 9 = some (.iconst (-1), 10) := by decide +kernel
theorem e1005_9 {ls : mj_L} {st : List Value} {σ : mj_S} {τ : mj_T} : mj_E 1005 9 ls st σ τ = mj_E 1005 10 ls (.int ((-1)) :: st) σ τ := mj_nx i1005_9 rfl
theorem i1005_10 : mj_ins 1005 10 = some (.if_icmp .eq 20, 13) := by decide +kernel
theorem e1005_10 {ls : mj_L} {st : List Value} {σ : mj_S} {τ : mj_T} {x y : Int32} : mj_E 1005 10 ls (.int y :: .int x :: st) σ τ = if x = y then mj_E 1005 20 ls st σ τ else mj_E 1005 13 ls st σ τ := (mj_ifi i1005_10).trans (mj_cdT rfl)
theorem i1005_13 : mj_ins 1005 13 = some (.iload 4, 15) := by decide +kernel
theorem e1005_13 {ls : mj_L} {st : List Value} {σ : mj_S} {τ : mj_T} {a0 a1 a2 a3 : Option Value} {v : Int32} : mj_E 1005 13 (a0 :: a1 :: a2 :: a3 :: some (.int v) :: ls) st σ τ = mj_E 1005 15 (a0 :: a1 :: a2 :: a3 :: some (.int v) :: ls) (.int v :: st) σ τ := mj_nx i1005_13 rfl
theorem i1005_15 : mj_ins 1005 15 = some (.iconst (20), 17) := by decide +kernel
theorem e1005_15 {ls : mj_L} {st : List Value} {σ : mj_S} {τ : mj_T} : mj_E 1005 15 ls st σ τ = mj_E 1005 17 ls (.int (nI 20) :: st) σ τ := mj_nx i1005_15 rfl
theorem i1005_17 : mj_ins 1005 17 = some (.if_icmp .le 22, 20) := by decide +kernel
theorem e1005_17 {ls : mj_L} {st : List Value} {σ : mj_S} {τ : mj_T} {x y : Int32} : mj_E 1005 17 ls (.int y :: .int x :: st) σ τ = if x ≤ y then mj_E 1005 22 ls st σ τ else mj_E 1005 20 ls st σ τ := (mj_ifi i1005_17).trans (mj_cdT rfl)
theorem i1005_20 : mj_ins 1005 20 = some (.iconst (0), 21) := by decide +kernel
theorem e1005_20 {ls : mj_L} {st : List Value} {σ : mj_S} {τ : mj_T} : mj_E 1005 20 ls st σ τ = mj_E 1005 21 ls (.int (nI 0) :: st) σ τ := mj_nx i1005_20 rfl
theorem i1005_21 : mj_ins 1005 21 = some (.ireturn, 22) := by decide +kernel
theorem e1005_21 {ls : mj_L} {σ : mj_S} {τ : mj_T} {v : Int32} : mj_E 1005 21 ls [.int v] σ τ = some (some (.int v), σ, τ) := mj_irt i1005_21 rfl
theorem i1005_22 : mj_ins 1005 22 = some (.getstatic 91, 25) := by decide +kernel
theorem e1005_22 {ls : mj_L} {st : List Value} {σ : mj_S} {τ : mj_T} : mj_E 1005 22 ls st σ τ = mj_E 1005 25 ls (.ref 91 :: st) σ τ := mj_nx i1005_22 rfl
theorem i1005_25 : mj_ins 1005 25 = some (.iconst (3), 26) := by decide +kernel
theorem e1005_25 {ls : mj_L} {st : List Value} {σ : mj_S} {τ : mj_T} : mj_E 1005 25 ls st σ τ = mj_E 1005 26 ls (.int (nI 3) :: st) σ τ := mj_nx i1005_25 rfl
theorem i1005_26 : mj_ins 1005 26 = some (.iload 5, 28) := by decide +kernel
theorem e1005_26 {ls : mj_L} {st : List Value} {σ : mj_S} {τ : mj_T} {a0 a1 a2 a3 a4 : Option Value} {v : Int32} : mj_E 1005 26 (a0 :: a1 :: a2 :: a3 :: a4 :: some (.int v) :: ls) st σ τ = mj_E 1005 28 (a0 :: a1 :: a2 :: a3 :: a4 :: some (.int v) :: ls) (.int v :: st) σ τ := mj_nx i1005_26 rfl
theorem i1005_28 : mj_ins 1005 28 = some (.imul, 29) := by decide +kernel
theorem e1005_28 {ls : mj_L} {st : List Value} {σ : mj_S} {τ : mj_T} {x y : Int32} : mj_E 1005 28 ls (.int y :: .int x :: st) σ τ = mj_E 1005 29 ls (.int (x * y) :: st) σ τ := mj_nx i1005_28 rfl
theorem i1005_29 : mj_ins 1005 29 = some (.iload 1, 30) := by decide +kernel
theorem e1005_29 {ls : mj_L} {st : List Value} {σ : mj_S} {τ : mj_T} {a0 : Option Value} {v : Int32} : mj_E 1005 29 (a0 :: some (.int v) :: ls) st σ τ = mj_E 1005 30 (a0 :: some (.int v) :: ls) (.int v :: st) σ τ := mj_nx i1005_29 rfl
theorem i1005_30 : mj_ins 1005 30 = some (.iadd, 31) := by decide +kernel
theorem e1005_30 {ls : mj_L} {st : List Value} {σ : mj_S} {τ : mj_T} {x y : Int32} : mj_E 1005 30 ls (.int y :: .int x :: st) σ τ = mj_E 1005 31 ls (.int (x + y) :: st) σ τ := mj_nx i1005_30 rfl
theorem i1005_31 : mj_ins 1005 31 = some (.iaload, 32) := by decide +kernel
theorem e1005_31 {ls : mj_L} {st : List Value} {σ : mj_S} {τ : mj_T} {x : Int32} {k : Nat} : mj_E 1005 31 ls (.int x :: .ref k :: st) σ τ = if mj_ib (mj_li σ k) x = true then mj_E 1005 32 ls (.int (σ k x.toNatClampNeg) :: st) σ τ else none := mj_ald i1005_31
theorem i1005_32 : mj_ins 1005 32 = some (.istore 6, 34) := by decide +kernel
theorem e1005_32 {ls : mj_L} {st : List Value} {σ : mj_S} {τ : mj_T} {a0 a1 a2 a3 a4 a5 a6 : Option Value} {v : Int32} : mj_E 1005 32 (a0 :: a1 :: a2 :: a3 :: a4 :: a5 :: a6 :: ls) (.int v :: st) σ τ = mj_E 1005 34 (a0 :: a1 :: a2 :: a3 :: a4 :: a5 :: some (.int v) :: ls) st σ τ := mj_nx i1005_32 rfl
theorem i1005_34 : mj_ins 1005 34 = some (.aload 0, 35) := by decide +kernel
theorem e1005_34 {ls : mj_L} {st : List Value} {σ : mj_S} {τ : mj_T} {v : Nat} : mj_E 1005 34 (some (.ref v) :: ls) st σ τ = mj_E 1005 35 (some (.ref v) :: ls) (.ref v :: st) σ τ := mj_nx i1005_34 rfl
theorem i1005_35 : mj_ins 1005 35 = some (.iload 6, 37) := by decide +kernel
theorem e1005_35 {ls : mj_L} {st : List Value} {σ : mj_S} {τ : mj_T} {a0 a1 a2 a3 a4 a5 : Option Value} {v : Int32} : mj_E 1005 35 (a0 :: a1 :: a2 :: a3 :: a4 :: a5 :: some (.int v) :: ls) st σ τ = mj_E 1005 37 (a0 :: a1 :: a2 :: a3 :: a4 :: a5 :: some (.int v) :: ls) (.int v :: st) σ τ := mj_nx i1005_35 rfl
theorem i1005_37 : mj_ins 1005 37 = some (.invokevirtual 72, 40) := by decide +kernel
theorem e1005_37 {ls : mj_L} {σ : mj_S} {τ : mj_T} {r : Nat} {x0 : Int32} : mj_E 1005 37 ls [.int x0, .ref r] σ τ = if mj_rcv r 5 = true then mj_bd (mj_C 72 [.ref r, .int x0] σ τ) (mj_K 1005 40 ls []) else none := mj_clV (as := [.int x0]) (r := []) i1005_37 (by decide +kernel : mj_vk 1005 72 1 0 2 false = true) (by decide +kernel)
theorem i1005_40 : mj_ins 1005 40 = some (.iload 5, 42) := by decide +kernel
theorem e1005_40 {ls : mj_L} {st : List Value} {σ : mj_S} {τ : mj_T} {a0 a1 a2 a3 a4 : Option Value} {v : Int32} : mj_E 1005 40 (a0 :: a1 :: a2 :: a3 :: a4 :: some (.int v) :: ls) st σ τ = mj_E 1005 42 (a0 :: a1 :: a2 :: a3 :: a4 :: some (.int v) :: ls) (.int v :: st) σ τ := mj_nx i1005_40 rfl
theorem i1005_42 : mj_ins 1005 42 = some (.invokestatic 4, 45) := by decide +kernel
theorem e1005_42 {ls : mj_L} {σ : mj_S} {τ : mj_T} {x0 : Int32} : mj_E 1005 42 ls [.int x0] σ τ = mj_bd (mj_C 4 [.int x0] σ τ) (mj_K 1005 45 ls []) := mj_clS (as := [.int x0]) (r := []) i1005_42 (by decide +kernel : mj_vk 1005 4 1 0 1 false = true) rfl
theorem i1005_45 : mj_ins 1005 45 = some (.istore 7, 47) := by decide +kernel
theorem e1005_45 {ls : mj_L} {st : List Value} {σ : mj_S} {τ : mj_T} {a0 a1 a2 a3 a4 a5 a6 a7 : Option Value} {v : Int32} : mj_E 1005 45 (a0 :: a1 :: a2 :: a3 :: a4 :: a5 :: a6 :: a7 :: ls) (.int v :: st) σ τ = mj_E 1005 47 (a0 :: a1 :: a2 :: a3 :: a4 :: a5 :: a6 :: some (.int v) :: ls) st σ τ := mj_nx i1005_45 rfl
theorem i1005_47 : mj_ins 1005 47 = some (.iload 4, 49) := by decide +kernel
theorem e1005_47 {ls : mj_L} {st : List Value} {σ : mj_S} {τ : mj_T} {a0 a1 a2 a3 : Option Value} {v : Int32} : mj_E 1005 47 (a0 :: a1 :: a2 :: a3 :: some (.int v) :: ls) st σ τ = mj_E 1005 49 (a0 :: a1 :: a2 :: a3 :: some (.int v) :: ls) (.int v :: st) σ τ := mj_nx i1005_47 rfl
theorem i1005_49 : mj_ins 1005 49 = some (.iconst (1), 50) := by decide +kernel
theorem e1005_49 {ls : mj_L} {st : List Value} {σ : mj_S} {τ : mj_T} : mj_E 1005 49 ls st σ τ = mj_E 1005 50 ls (.int (nI 1) :: st) σ τ := mj_nx i1005_49 rfl
theorem i1005_50 : mj_ins 1005 50 = some (.iadd, 51) := by decide +kernel
theorem e1005_50 {ls : mj_L} {st : List Value} {σ : mj_S} {τ : mj_T} {x y : Int32} : mj_E 1005 50 ls (.int y :: .int x :: st) σ τ = mj_E 1005 51 ls (.int (x + y) :: st) σ τ := mj_nx i1005_50 rfl
theorem i1005_51 : mj_ins 1005 51 = some (.istore 8, 53) := by decide +kernel
theorem e1005_51 {ls : mj_L} {st : List Value} {σ : mj_S} {τ : mj_T} {a0 a1 a2 a3 a4 a5 a6 a7 a8 : Option Value} {v : Int32} : mj_E 1005 51 (a0 :: a1 :: a2 :: a3 :: a4 :: a5 :: a6 :: a7 :: a8 :: ls) (.int v :: st) σ τ = mj_E 1005 53 (a0 :: a1 :: a2 :: a3 :: a4 :: a5 :: a6 :: a7 :: some (.int v) :: ls) st σ τ := mj_nx i1005_51 rfl
theorem i1005_53 : mj_ins 1005 53 = some (.iload 6, 55) := by decide +kernel
theorem e1005_53 {ls : mj_L} {st : List Value} {σ : mj_S} {τ : mj_T} {a0 a1 a2 a3 a4 a5 : Option Value} {v : Int32} : mj_E 1005 53 (a0 :: a1 :: a2 :: a3 :: a4 :: a5 :: some (.int v) :: ls) st σ τ = mj_E 1005 55 (a0 :: a1 :: a2 :: a3 :: a4 :: a5 :: some (.int v) :: ls) (.int v :: st) σ τ := mj_nx i1005_53 rfl
theorem i1005_55 : mj_ins 1005 55 = some (.lookupswitch (238) #[(10, 89), (11, 96), (12, 111), (20, 142), (30, 158), (40, 171), (50, 184), (51, 196), (60, 212), (70, 225)], 55) := by decide +kernel
theorem e1005_55 {ls : mj_L} {st : List Value} {σ : mj_S} {τ : mj_T} {x : Int32} : mj_E 1005 55 ls (.int x :: st) σ τ = if x = nI 10 then mj_E 1005 144 ls st σ τ else if x = nI 11 then mj_E 1005 151 ls st σ τ else if x = nI 12 then mj_E 1005 166 ls st σ τ else if x = nI 20 then mj_E 1005 197 ls st σ τ else if x = nI 30 then mj_E 1005 213 ls st σ τ else if x = nI 40 then mj_E 1005 226 ls st σ τ else if x = nI 50 then mj_E 1005 239 ls st σ τ else if x = nI 51 then mj_E 1005 251 ls st σ τ else if x = nI 60 then mj_E 1005 267 ls st σ τ else if x = nI 70 then mj_E 1005 280 ls st σ τ else mj_E 1005 293 ls st σ τ := mj_lusw i1005_55 rfl
theorem i1005_144 : mj_ins 1005 144 = some (.iload 3, 145) := by decide +kernel
theorem e1005_144 {ls : mj_L} {st : List Value} {σ : mj_S} {τ : mj_T} {a0 a1 a2 : Option Value} {v : Int32} : mj_E 1005 144 (a0 :: a1 :: a2 :: some (.int v) :: ls) st σ τ = mj_E 1005 145 (a0 :: a1 :: a2 :: some (.int v) :: ls) (.int v :: st) σ τ := mj_nx i1005_144 rfl
theorem i1005_145 : mj_ins 1005 145 = some (.aload 0, 146) := by decide +kernel
theorem e1005_145 {ls : mj_L} {st : List Value} {σ : mj_S} {τ : mj_T} {v : Nat} : mj_E 1005 145 (some (.ref v) :: ls) st σ τ = mj_E 1005 146 (some (.ref v) :: ls) (.ref v :: st) σ τ := mj_nx i1005_145 rfl
theorem i1005_146 : mj_ins 1005 146 = some (.getfield 503, 149) := by decide +kernel
theorem e1005_146 {ls : mj_L} {st : List Value} {σ : mj_S} {τ : mj_T} : mj_E 1005 146 ls (.ref 59 :: st) σ τ = mj_E 1005 149 ls (.int (σ 59 3) :: st) σ τ := mj_nx i1005_146 rfl
theorem i1005_149 : mj_ins 1005 149 = some (.iadd, 150) := by decide +kernel
theorem e1005_149 {ls : mj_L} {st : List Value} {σ : mj_S} {τ : mj_T} {x y : Int32} : mj_E 1005 149 ls (.int y :: .int x :: st) σ τ = mj_E 1005 150 ls (.int (x + y) :: st) σ τ := mj_nx i1005_149 rfl
theorem i1005_150 : mj_ins 1005 150 = some (.ireturn, 151) := by decide +kernel
theorem e1005_150 {ls : mj_L} {σ : mj_S} {τ : mj_T} {v : Int32} : mj_E 1005 150 ls [.int v] σ τ = some (some (.int v), σ, τ) := mj_irt i1005_150 rfl
theorem i1005_151 : mj_ins 1005 151 = some (.aload 0, 152) := by decide +kernel
theorem e1005_151 {ls : mj_L} {st : List Value} {σ : mj_S} {τ : mj_T} {v : Nat} : mj_E 1005 151 (some (.ref v) :: ls) st σ τ = mj_E 1005 152 (some (.ref v) :: ls) (.ref v :: st) σ τ := mj_nx i1005_151 rfl
theorem i1005_152 : mj_ins 1005 152 = some (.iconst (0), 153) := by decide +kernel
theorem e1005_152 {ls : mj_L} {st : List Value} {σ : mj_S} {τ : mj_T} : mj_E 1005 152 ls st σ τ = mj_E 1005 153 ls (.int (nI 0) :: st) σ τ := mj_nx i1005_152 rfl
theorem i1005_153 : mj_ins 1005 153 = some (.aload 0, 154) := by decide +kernel
theorem e1005_153 {ls : mj_L} {st : List Value} {σ : mj_S} {τ : mj_T} {v : Nat} : mj_E 1005 153 (some (.ref v) :: ls) st σ τ = mj_E 1005 154 (some (.ref v) :: ls) (.ref v :: st) σ τ := mj_nx i1005_153 rfl
theorem i1005_154 : mj_ins 1005 154 = some (.getfield 502, 157) := by decide +kernel
theorem e1005_154 {ls : mj_L} {st : List Value} {σ : mj_S} {τ : mj_T} : mj_E 1005 154 ls (.ref 59 :: st) σ τ = mj_E 1005 157 ls (.int (σ 59 2) :: st) σ τ := mj_nx i1005_154 rfl
theorem i1005_157 : mj_ins 1005 157 = some (.iload 3, 158) := by decide +kernel
theorem e1005_157 {ls : mj_L} {st : List Value} {σ : mj_S} {τ : mj_T} {a0 a1 a2 : Option Value} {v : Int32} : mj_E 1005 157 (a0 :: a1 :: a2 :: some (.int v) :: ls) st σ τ = mj_E 1005 158 (a0 :: a1 :: a2 :: some (.int v) :: ls) (.int v :: st) σ τ := mj_nx i1005_157 rfl
theorem i1005_158 : mj_ins 1005 158 = some (.iload 8, 160) := by decide +kernel
theorem e1005_158 {ls : mj_L} {st : List Value} {σ : mj_S} {τ : mj_T} {a0 a1 a2 a3 a4 a5 a6 a7 : Option Value} {v : Int32} : mj_E 1005 158 (a0 :: a1 :: a2 :: a3 :: a4 :: a5 :: a6 :: a7 :: some (.int v) :: ls) st σ τ = mj_E 1005 160 (a0 :: a1 :: a2 :: a3 :: a4 :: a5 :: a6 :: a7 :: some (.int v) :: ls) (.int v :: st) σ τ := mj_nx i1005_158 rfl
theorem i1005_160 : mj_ins 1005 160 = some (.invokestatic 1006, 163) := by decide +kernel
theorem e1005_160 {ls : mj_L} {σ : mj_S} {τ : mj_T} {x0 : Nat} {x1 : Int32} {x2 : Int32} {x3 : Int32} {x4 : Int32} : mj_E 1005 160 ls [.int x4, .int x3, .int x2, .int x1, .ref x0] σ τ = mj_bd (mj_C 1006 [.ref x0, .int x1, .int x2, .int x3, .int x4] σ τ) (mj_K 1005 163 ls []) := mj_clS (as := [.ref x0, .int x1, .int x2, .int x3, .int x4]) (r := []) i1005_160 (by decide +kernel : mj_vk 1005 1006 5 0 5 false = true) rfl
theorem i1005_163 : mj_ins 1005 163 = some (.iconst (2), 164) := by decide +kernel
theorem e1005_163 {ls : mj_L} {st : List Value} {σ : mj_S} {τ : mj_T} : mj_E 1005 163 ls st σ τ = mj_E 1005 164 ls (.int (nI 2) :: st) σ τ := mj_nx i1005_163 rfl
theorem i1005_164 : mj_ins 1005 164 = some (.imul, 165) := by decide +kernel
theorem e1005_164 {ls : mj_L} {st : List Value} {σ : mj_S} {τ : mj_T} {x y : Int32} : mj_E 1005 164 ls (.int y :: .int x :: st) σ τ = mj_E 1005 165 ls (.int (x * y) :: st) σ τ := mj_nx i1005_164 rfl
theorem i1005_165 : mj_ins 1005 165 = some (.ireturn, 166) := by decide +kernel
theorem e1005_165 {ls : mj_L} {σ : mj_S} {τ : mj_T} {v : Int32} : mj_E 1005 165 ls [.int v] σ τ = some (some (.int v), σ, τ) := mj_irt i1005_165 rfl
theorem i1005_166 : mj_ins 1005 166 = some (.aload 0, 167) := by decide +kernel
theorem e1005_166 {ls : mj_L} {st : List Value} {σ : mj_S} {τ : mj_T} {v : Nat} : mj_E 1005 166 (some (.ref v) :: ls) st σ τ = mj_E 1005 167 (some (.ref v) :: ls) (.ref v :: st) σ τ := mj_nx i1005_166 rfl
theorem i1005_167 : mj_ins 1005 167 = some (.iconst (1), 168) := by decide +kernel
theorem e1005_167 {ls : mj_L} {st : List Value} {σ : mj_S} {τ : mj_T} : mj_E 1005 167 ls st σ τ = mj_E 1005 168 ls (.int (nI 1) :: st) σ τ := mj_nx i1005_167 rfl
theorem i1005_168 : mj_ins 1005 168 = some (.aload 0, 169) := by decide +kernel
theorem e1005_168 {ls : mj_L} {st : List Value} {σ : mj_S} {τ : mj_T} {v : Nat} : mj_E 1005 168 (some (.ref v) :: ls) st σ τ = mj_E 1005 169 (some (.ref v) :: ls) (.ref v :: st) σ τ := mj_nx i1005_168 rfl
theorem i1005_169 : mj_ins 1005 169 = some (.getfield 502, 172) := by decide +kernel
theorem e1005_169 {ls : mj_L} {st : List Value} {σ : mj_S} {τ : mj_T} : mj_E 1005 169 ls (.ref 59 :: st) σ τ = mj_E 1005 172 ls (.int (σ 59 2) :: st) σ τ := mj_nx i1005_169 rfl
theorem i1005_172 : mj_ins 1005 172 = some (.iload 3, 173) := by decide +kernel
theorem e1005_172 {ls : mj_L} {st : List Value} {σ : mj_S} {τ : mj_T} {a0 a1 a2 : Option Value} {v : Int32} : mj_E 1005 172 (a0 :: a1 :: a2 :: some (.int v) :: ls) st σ τ = mj_E 1005 173 (a0 :: a1 :: a2 :: some (.int v) :: ls) (.int v :: st) σ τ := mj_nx i1005_172 rfl
theorem i1005_173 : mj_ins 1005 173 = some (.iload 8, 175) := by decide +kernel
theorem e1005_173 {ls : mj_L} {st : List Value} {σ : mj_S} {τ : mj_T} {a0 a1 a2 a3 a4 a5 a6 a7 : Option Value} {v : Int32} : mj_E 1005 173 (a0 :: a1 :: a2 :: a3 :: a4 :: a5 :: a6 :: a7 :: some (.int v) :: ls) st σ τ = mj_E 1005 175 (a0 :: a1 :: a2 :: a3 :: a4 :: a5 :: a6 :: a7 :: some (.int v) :: ls) (.int v :: st) σ τ := mj_nx i1005_173 rfl
theorem i1005_175 : mj_ins 1005 175 = some (.invokestatic 1006, 178) := by decide +kernel
theorem e1005_175 {ls : mj_L} {σ : mj_S} {τ : mj_T} {x0 : Nat} {x1 : Int32} {x2 : Int32} {x3 : Int32} {x4 : Int32} : mj_E 1005 175 ls [.int x4, .int x3, .int x2, .int x1, .ref x0] σ τ = mj_bd (mj_C 1006 [.ref x0, .int x1, .int x2, .int x3, .int x4] σ τ) (mj_K 1005 178 ls []) := mj_clS (as := [.ref x0, .int x1, .int x2, .int x3, .int x4]) (r := []) i1005_175 (by decide +kernel : mj_vk 1005 1006 5 0 5 false = true) rfl
theorem i1005_178 : mj_ins 1005 178 = some (.aload 0, 179) := by decide +kernel
theorem e1005_178 {ls : mj_L} {st : List Value} {σ : mj_S} {τ : mj_T} {v : Nat} : mj_E 1005 178 (some (.ref v) :: ls) st σ τ = mj_E 1005 179 (some (.ref v) :: ls) (.ref v :: st) σ τ := mj_nx i1005_178 rfl
theorem i1005_179 : mj_ins 1005 179 = some (.iconst (0), 180) := by decide +kernel
theorem e1005_179 {ls : mj_L} {st : List Value} {σ : mj_S} {τ : mj_T} : mj_E 1005 179 ls st σ τ = mj_E 1005 180 ls (.int (nI 0) :: st) σ τ := mj_nx i1005_179 rfl
theorem i1005_180 : mj_ins 1005 180 = some (.aload 0, 181) := by decide +kernel
theorem e1005_180 {ls : mj_L} {st : List Value} {σ : mj_S} {τ : mj_T} {v : Nat} : mj_E 1005 180 (some (.ref v) :: ls) st σ τ = mj_E 1005 181 (some (.ref v) :: ls) (.ref v :: st) σ τ := mj_nx i1005_180 rfl
theorem i1005_181 : mj_ins 1005 181 = some (.getfield 502, 184) := by decide +kernel
theorem e1005_181 {ls : mj_L} {st : List Value} {σ : mj_S} {τ : mj_T} : mj_E 1005 181 ls (.ref 59 :: st) σ τ = mj_E 1005 184 ls (.int (σ 59 2) :: st) σ τ := mj_nx i1005_181 rfl
theorem i1005_184 : mj_ins 1005 184 = some (.iload 3, 185) := by decide +kernel
theorem e1005_184 {ls : mj_L} {st : List Value} {σ : mj_S} {τ : mj_T} {a0 a1 a2 : Option Value} {v : Int32} : mj_E 1005 184 (a0 :: a1 :: a2 :: some (.int v) :: ls) st σ τ = mj_E 1005 185 (a0 :: a1 :: a2 :: some (.int v) :: ls) (.int v :: st) σ τ := mj_nx i1005_184 rfl
theorem i1005_185 : mj_ins 1005 185 = some (.aload 0, 186) := by decide +kernel
theorem e1005_185 {ls : mj_L} {st : List Value} {σ : mj_S} {τ : mj_T} {v : Nat} : mj_E 1005 185 (some (.ref v) :: ls) st σ τ = mj_E 1005 186 (some (.ref v) :: ls) (.ref v :: st) σ τ := mj_nx i1005_185 rfl
theorem i1005_186 : mj_ins 1005 186 = some (.getfield 504, 189) := by decide +kernel
theorem e1005_186 {ls : mj_L} {st : List Value} {σ : mj_S} {τ : mj_T} : mj_E 1005 186 ls (.ref 59 :: st) σ τ = mj_E 1005 189 ls (.int (σ 59 4) :: st) σ τ := mj_nx i1005_186 rfl
theorem i1005_189 : mj_ins 1005 189 = some (.isub, 190) := by decide +kernel
theorem e1005_189 {ls : mj_L} {st : List Value} {σ : mj_S} {τ : mj_T} {x y : Int32} : mj_E 1005 189 ls (.int y :: .int x :: st) σ τ = mj_E 1005 190 ls (.int (x - y) :: st) σ τ := mj_nx i1005_189 rfl
theorem i1005_190 : mj_ins 1005 190 = some (.iload 8, 192) := by decide +kernel
theorem e1005_190 {ls : mj_L} {st : List Value} {σ : mj_S} {τ : mj_T} {a0 a1 a2 a3 a4 a5 a6 a7 : Option Value} {v : Int32} : mj_E 1005 190 (a0 :: a1 :: a2 :: a3 :: a4 :: a5 :: a6 :: a7 :: some (.int v) :: ls) st σ τ = mj_E 1005 192 (a0 :: a1 :: a2 :: a3 :: a4 :: a5 :: a6 :: a7 :: some (.int v) :: ls) (.int v :: st) σ τ := mj_nx i1005_190 rfl
theorem i1005_192 : mj_ins 1005 192 = some (.invokestatic 1006, 195) := by decide +kernel
theorem e1005_192 {ls : mj_L} {σ : mj_S} {τ : mj_T} {x0 : Nat} {x1 : Int32} {x2 : Int32} {x3 : Int32} {x4 : Int32} {w0 : Value} : mj_E 1005 192 ls [.int x4, .int x3, .int x2, .int x1, .ref x0, w0] σ τ = mj_bd (mj_C 1006 [.ref x0, .int x1, .int x2, .int x3, .int x4] σ τ) (mj_K 1005 195 ls [w0]) := mj_clS (as := [.ref x0, .int x1, .int x2, .int x3, .int x4]) (r := [w0]) i1005_192 (by decide +kernel : mj_vk 1005 1006 5 1 5 false = true) rfl
theorem i1005_195 : mj_ins 1005 195 = some (.ixor, 196) := by decide +kernel
theorem e1005_195 {ls : mj_L} {st : List Value} {σ : mj_S} {τ : mj_T} {x y : Int32} : mj_E 1005 195 ls (.int y :: .int x :: st) σ τ = mj_E 1005 196 ls (.int (x ^^^ y) :: st) σ τ := mj_nx i1005_195 rfl
theorem i1005_196 : mj_ins 1005 196 = some (.ireturn, 197) := by decide +kernel
theorem e1005_196 {ls : mj_L} {σ : mj_S} {τ : mj_T} {v : Int32} : mj_E 1005 196 ls [.int v] σ τ = some (some (.int v), σ, τ) := mj_irt i1005_196 rfl
theorem i1005_197 : mj_ins 1005 197 = some (.aload 0, 198) := by decide +kernel
theorem e1005_197 {ls : mj_L} {st : List Value} {σ : mj_S} {τ : mj_T} {v : Nat} : mj_E 1005 197 (some (.ref v) :: ls) st σ τ = mj_E 1005 198 (some (.ref v) :: ls) (.ref v :: st) σ τ := mj_nx i1005_197 rfl
theorem i1005_198 : mj_ins 1005 198 = some (.iconst (0), 199) := by decide +kernel
theorem e1005_198 {ls : mj_L} {st : List Value} {σ : mj_S} {τ : mj_T} : mj_E 1005 198 ls st σ τ = mj_E 1005 199 ls (.int (nI 0) :: st) σ τ := mj_nx i1005_198 rfl
theorem i1005_199 : mj_ins 1005 199 = some (.iload 7, 201) := by decide +kernel
theorem e1005_199 {ls : mj_L} {st : List Value} {σ : mj_S} {τ : mj_T} {a0 a1 a2 a3 a4 a5 a6 : Option Value} {v : Int32} : mj_E 1005 199 (a0 :: a1 :: a2 :: a3 :: a4 :: a5 :: a6 :: some (.int v) :: ls) st σ τ = mj_E 1005 201 (a0 :: a1 :: a2 :: a3 :: a4 :: a5 :: a6 :: some (.int v) :: ls) (.int v :: st) σ τ := mj_nx i1005_199 rfl
theorem i1005_201 : mj_ins 1005 201 = some (.iload 3, 202) := by decide +kernel
theorem e1005_201 {ls : mj_L} {st : List Value} {σ : mj_S} {τ : mj_T} {a0 a1 a2 : Option Value} {v : Int32} : mj_E 1005 201 (a0 :: a1 :: a2 :: some (.int v) :: ls) st σ τ = mj_E 1005 202 (a0 :: a1 :: a2 :: some (.int v) :: ls) (.int v :: st) σ τ := mj_nx i1005_201 rfl
theorem i1005_202 : mj_ins 1005 202 = some (.iload 8, 204) := by decide +kernel
theorem e1005_202 {ls : mj_L} {st : List Value} {σ : mj_S} {τ : mj_T} {a0 a1 a2 a3 a4 a5 a6 a7 : Option Value} {v : Int32} : mj_E 1005 202 (a0 :: a1 :: a2 :: a3 :: a4 :: a5 :: a6 :: a7 :: some (.int v) :: ls) st σ τ = mj_E 1005 204 (a0 :: a1 :: a2 :: a3 :: a4 :: a5 :: a6 :: a7 :: some (.int v) :: ls) (.int v :: st) σ τ := mj_nx i1005_202 rfl
theorem i1005_204 : mj_ins 1005 204 = some (.invokestatic 1006, 207) := by decide +kernel
theorem e1005_204 {ls : mj_L} {σ : mj_S} {τ : mj_T} {x0 : Nat} {x1 : Int32} {x2 : Int32} {x3 : Int32} {x4 : Int32} : mj_E 1005 204 ls [.int x4, .int x3, .int x2, .int x1, .ref x0] σ τ = mj_bd (mj_C 1006 [.ref x0, .int x1, .int x2, .int x3, .int x4] σ τ) (mj_K 1005 207 ls []) := mj_clS (as := [.ref x0, .int x1, .int x2, .int x3, .int x4]) (r := []) i1005_204 (by decide +kernel : mj_vk 1005 1006 5 0 5 false = true) rfl
theorem i1005_207 : mj_ins 1005 207 = some (.aload 0, 208) := by decide +kernel
theorem e1005_207 {ls : mj_L} {st : List Value} {σ : mj_S} {τ : mj_T} {v : Nat} : mj_E 1005 207 (some (.ref v) :: ls) st σ τ = mj_E 1005 208 (some (.ref v) :: ls) (.ref v :: st) σ τ := mj_nx i1005_207 rfl
theorem i1005_208 : mj_ins 1005 208 = some (.getfield 504, 211) := by decide +kernel
theorem e1005_208 {ls : mj_L} {st : List Value} {σ : mj_S} {τ : mj_T} : mj_E 1005 208 ls (.ref 59 :: st) σ τ = mj_E 1005 211 ls (.int (σ 59 4) :: st) σ τ := mj_nx i1005_208 rfl
theorem i1005_211 : mj_ins 1005 211 = some (.iadd, 212) := by decide +kernel
theorem e1005_211 {ls : mj_L} {st : List Value} {σ : mj_S} {τ : mj_T} {x y : Int32} : mj_E 1005 211 ls (.int y :: .int x :: st) σ τ = mj_E 1005 212 ls (.int (x + y) :: st) σ τ := mj_nx i1005_211 rfl
theorem i1005_212 : mj_ins 1005 212 = some (.ireturn, 213) := by decide +kernel
theorem e1005_212 {ls : mj_L} {σ : mj_S} {τ : mj_T} {v : Int32} : mj_E 1005 212 ls [.int v] σ τ = some (some (.int v), σ, τ) := mj_irt i1005_212 rfl
theorem i1005_213 : mj_ins 1005 213 = some (.aload 0, 214) := by decide +kernel
theorem e1005_213 {ls : mj_L} {st : List Value} {σ : mj_S} {τ : mj_T} {v : Nat} : mj_E 1005 213 (some (.ref v) :: ls) st σ τ = mj_E 1005 214 (some (.ref v) :: ls) (.ref v :: st) σ τ := mj_nx i1005_213 rfl
theorem i1005_214 : mj_ins 1005 214 = some (.iconst (1), 215) := by decide +kernel
theorem e1005_214 {ls : mj_L} {st : List Value} {σ : mj_S} {τ : mj_T} : mj_E 1005 214 ls st σ τ = mj_E 1005 215 ls (.int (nI 1) :: st) σ τ := mj_nx i1005_214 rfl
theorem i1005_215 : mj_ins 1005 215 = some (.iload 7, 217) := by decide +kernel
theorem e1005_215 {ls : mj_L} {st : List Value} {σ : mj_S} {τ : mj_T} {a0 a1 a2 a3 a4 a5 a6 : Option Value} {v : Int32} : mj_E 1005 215 (a0 :: a1 :: a2 :: a3 :: a4 :: a5 :: a6 :: some (.int v) :: ls) st σ τ = mj_E 1005 217 (a0 :: a1 :: a2 :: a3 :: a4 :: a5 :: a6 :: some (.int v) :: ls) (.int v :: st) σ τ := mj_nx i1005_215 rfl
theorem i1005_217 : mj_ins 1005 217 = some (.iload 3, 218) := by decide +kernel
theorem e1005_217 {ls : mj_L} {st : List Value} {σ : mj_S} {τ : mj_T} {a0 a1 a2 : Option Value} {v : Int32} : mj_E 1005 217 (a0 :: a1 :: a2 :: some (.int v) :: ls) st σ τ = mj_E 1005 218 (a0 :: a1 :: a2 :: some (.int v) :: ls) (.int v :: st) σ τ := mj_nx i1005_217 rfl
theorem i1005_218 : mj_ins 1005 218 = some (.iload 8, 220) := by decide +kernel
theorem e1005_218 {ls : mj_L} {st : List Value} {σ : mj_S} {τ : mj_T} {a0 a1 a2 a3 a4 a5 a6 a7 : Option Value} {v : Int32} : mj_E 1005 218 (a0 :: a1 :: a2 :: a3 :: a4 :: a5 :: a6 :: a7 :: some (.int v) :: ls) st σ τ = mj_E 1005 220 (a0 :: a1 :: a2 :: a3 :: a4 :: a5 :: a6 :: a7 :: some (.int v) :: ls) (.int v :: st) σ τ := mj_nx i1005_218 rfl
theorem i1005_220 : mj_ins 1005 220 = some (.invokestatic 1006, 223) := by decide +kernel
theorem e1005_220 {ls : mj_L} {σ : mj_S} {τ : mj_T} {x0 : Nat} {x1 : Int32} {x2 : Int32} {x3 : Int32} {x4 : Int32} : mj_E 1005 220 ls [.int x4, .int x3, .int x2, .int x1, .ref x0] σ τ = mj_bd (mj_C 1006 [.ref x0, .int x1, .int x2, .int x3, .int x4] σ τ) (mj_K 1005 223 ls []) := mj_clS (as := [.ref x0, .int x1, .int x2, .int x3, .int x4]) (r := []) i1005_220 (by decide +kernel : mj_vk 1005 1006 5 0 5 false = true) rfl
theorem i1005_223 : mj_ins 1005 223 = some (.iconst (3), 224) := by decide +kernel
theorem e1005_223 {ls : mj_L} {st : List Value} {σ : mj_S} {τ : mj_T} : mj_E 1005 223 ls st σ τ = mj_E 1005 224 ls (.int (nI 3) :: st) σ τ := mj_nx i1005_223 rfl
theorem i1005_224 : mj_ins 1005 224 = some (.imul, 225) := by decide +kernel
theorem e1005_224 {ls : mj_L} {st : List Value} {σ : mj_S} {τ : mj_T} {x y : Int32} : mj_E 1005 224 ls (.int y :: .int x :: st) σ τ = mj_E 1005 225 ls (.int (x * y) :: st) σ τ := mj_nx i1005_224 rfl
theorem i1005_225 : mj_ins 1005 225 = some (.ireturn, 226) := by decide +kernel
theorem e1005_225 {ls : mj_L} {σ : mj_S} {τ : mj_T} {v : Int32} : mj_E 1005 225 ls [.int v] σ τ = some (some (.int v), σ, τ) := mj_irt i1005_225 rfl
theorem i1005_226 : mj_ins 1005 226 = some (.aload 0, 227) := by decide +kernel
theorem e1005_226 {ls : mj_L} {st : List Value} {σ : mj_S} {τ : mj_T} {v : Nat} : mj_E 1005 226 (some (.ref v) :: ls) st σ τ = mj_E 1005 227 (some (.ref v) :: ls) (.ref v :: st) σ τ := mj_nx i1005_226 rfl
theorem i1005_227 : mj_ins 1005 227 = some (.iconst (1), 228) := by decide +kernel
theorem e1005_227 {ls : mj_L} {st : List Value} {σ : mj_S} {τ : mj_T} : mj_E 1005 227 ls st σ τ = mj_E 1005 228 ls (.int (nI 1) :: st) σ τ := mj_nx i1005_227 rfl
theorem i1005_228 : mj_ins 1005 228 = some (.iload 7, 230) := by decide +kernel
theorem e1005_228 {ls : mj_L} {st : List Value} {σ : mj_S} {τ : mj_T} {a0 a1 a2 a3 a4 a5 a6 : Option Value} {v : Int32} : mj_E 1005 228 (a0 :: a1 :: a2 :: a3 :: a4 :: a5 :: a6 :: some (.int v) :: ls) st σ τ = mj_E 1005 230 (a0 :: a1 :: a2 :: a3 :: a4 :: a5 :: a6 :: some (.int v) :: ls) (.int v :: st) σ τ := mj_nx i1005_228 rfl
theorem i1005_230 : mj_ins 1005 230 = some (.iload 3, 231) := by decide +kernel
theorem e1005_230 {ls : mj_L} {st : List Value} {σ : mj_S} {τ : mj_T} {a0 a1 a2 : Option Value} {v : Int32} : mj_E 1005 230 (a0 :: a1 :: a2 :: some (.int v) :: ls) st σ τ = mj_E 1005 231 (a0 :: a1 :: a2 :: some (.int v) :: ls) (.int v :: st) σ τ := mj_nx i1005_230 rfl
theorem i1005_231 : mj_ins 1005 231 = some (.iconst (1), 232) := by decide +kernel
theorem e1005_231 {ls : mj_L} {st : List Value} {σ : mj_S} {τ : mj_T} : mj_E 1005 231 ls st σ τ = mj_E 1005 232 ls (.int (nI 1) :: st) σ τ := mj_nx i1005_231 rfl
theorem i1005_232 : mj_ins 1005 232 = some (.iadd, 233) := by decide +kernel
theorem e1005_232 {ls : mj_L} {st : List Value} {σ : mj_S} {τ : mj_T} {x y : Int32} : mj_E 1005 232 ls (.int y :: .int x :: st) σ τ = mj_E 1005 233 ls (.int (x + y) :: st) σ τ := mj_nx i1005_232 rfl
theorem i1005_233 : mj_ins 1005 233 = some (.iload 8, 235) := by decide +kernel
theorem e1005_233 {ls : mj_L} {st : List Value} {σ : mj_S} {τ : mj_T} {a0 a1 a2 a3 a4 a5 a6 a7 : Option Value} {v : Int32} : mj_E 1005 233 (a0 :: a1 :: a2 :: a3 :: a4 :: a5 :: a6 :: a7 :: some (.int v) :: ls) st σ τ = mj_E 1005 235 (a0 :: a1 :: a2 :: a3 :: a4 :: a5 :: a6 :: a7 :: some (.int v) :: ls) (.int v :: st) σ τ := mj_nx i1005_233 rfl
theorem i1005_235 : mj_ins 1005 235 = some (.invokestatic 1006, 238) := by decide +kernel
theorem e1005_235 {ls : mj_L} {σ : mj_S} {τ : mj_T} {x0 : Nat} {x1 : Int32} {x2 : Int32} {x3 : Int32} {x4 : Int32} : mj_E 1005 235 ls [.int x4, .int x3, .int x2, .int x1, .ref x0] σ τ = mj_bd (mj_C 1006 [.ref x0, .int x1, .int x2, .int x3, .int x4] σ τ) (mj_K 1005 238 ls []) := mj_clS (as := [.ref x0, .int x1, .int x2, .int x3, .int x4]) (r := []) i1005_235 (by decide +kernel : mj_vk 1005 1006 5 0 5 false = true) rfl
theorem i1005_238 : mj_ins 1005 238 = some (.ireturn, 239) := by decide +kernel
theorem e1005_238 {ls : mj_L} {σ : mj_S} {τ : mj_T} {v : Int32} : mj_E 1005 238 ls [.int v] σ τ = some (some (.int v), σ, τ) := mj_irt i1005_238 rfl
theorem i1005_239 : mj_ins 1005 239 = some (.aload 0, 240) := by decide +kernel
theorem e1005_239 {ls : mj_L} {st : List Value} {σ : mj_S} {τ : mj_T} {v : Nat} : mj_E 1005 239 (some (.ref v) :: ls) st σ τ = mj_E 1005 240 (some (.ref v) :: ls) (.ref v :: st) σ τ := mj_nx i1005_239 rfl
theorem i1005_240 : mj_ins 1005 240 = some (.iconst (2), 241) := by decide +kernel
theorem e1005_240 {ls : mj_L} {st : List Value} {σ : mj_S} {τ : mj_T} : mj_E 1005 240 ls st σ τ = mj_E 1005 241 ls (.int (nI 2) :: st) σ τ := mj_nx i1005_240 rfl
theorem i1005_241 : mj_ins 1005 241 = some (.iload 7, 243) := by decide +kernel
theorem e1005_241 {ls : mj_L} {st : List Value} {σ : mj_S} {τ : mj_T} {a0 a1 a2 a3 a4 a5 a6 : Option Value} {v : Int32} : mj_E 1005 241 (a0 :: a1 :: a2 :: a3 :: a4 :: a5 :: a6 :: some (.int v) :: ls) st σ τ = mj_E 1005 243 (a0 :: a1 :: a2 :: a3 :: a4 :: a5 :: a6 :: some (.int v) :: ls) (.int v :: st) σ τ := mj_nx i1005_241 rfl
theorem i1005_243 : mj_ins 1005 243 = some (.iload 3, 244) := by decide +kernel
theorem e1005_243 {ls : mj_L} {st : List Value} {σ : mj_S} {τ : mj_T} {a0 a1 a2 : Option Value} {v : Int32} : mj_E 1005 243 (a0 :: a1 :: a2 :: some (.int v) :: ls) st σ τ = mj_E 1005 244 (a0 :: a1 :: a2 :: some (.int v) :: ls) (.int v :: st) σ τ := mj_nx i1005_243 rfl
theorem i1005_244 : mj_ins 1005 244 = some (.iload 8, 246) := by decide +kernel
theorem e1005_244 {ls : mj_L} {st : List Value} {σ : mj_S} {τ : mj_T} {a0 a1 a2 a3 a4 a5 a6 a7 : Option Value} {v : Int32} : mj_E 1005 244 (a0 :: a1 :: a2 :: a3 :: a4 :: a5 :: a6 :: a7 :: some (.int v) :: ls) st σ τ = mj_E 1005 246 (a0 :: a1 :: a2 :: a3 :: a4 :: a5 :: a6 :: a7 :: some (.int v) :: ls) (.int v :: st) σ τ := mj_nx i1005_244 rfl
theorem i1005_246 : mj_ins 1005 246 = some (.invokestatic 1006, 249) := by decide +kernel
theorem e1005_246 {ls : mj_L} {σ : mj_S} {τ : mj_T} {x0 : Nat} {x1 : Int32} {x2 : Int32} {x3 : Int32} {x4 : Int32} : mj_E 1005 246 ls [.int x4, .int x3, .int x2, .int x1, .ref x0] σ τ = mj_bd (mj_C 1006 [.ref x0, .int x1, .int x2, .int x3, .int x4] σ τ) (mj_K 1005 249 ls []) := mj_clS (as := [.ref x0, .int x1, .int x2, .int x3, .int x4]) (r := []) i1005_246 (by decide +kernel : mj_vk 1005 1006 5 0 5 false = true) rfl
theorem i1005_249 : mj_ins 1005 249 = some (.ineg, 250) := by decide +kernel
theorem e1005_249 {ls : mj_L} {st : List Value} {σ : mj_S} {τ : mj_T} {x : Int32} : mj_E 1005 249 ls (.int x :: st) σ τ = mj_E 1005 250 ls (.int (-x) :: st) σ τ := mj_nx i1005_249 rfl
theorem i1005_250 : mj_ins 1005 250 = some (.ireturn, 251) := by decide +kernel
theorem e1005_250 {ls : mj_L} {σ : mj_S} {τ : mj_T} {v : Int32} : mj_E 1005 250 ls [.int v] σ τ = some (some (.int v), σ, τ) := mj_irt i1005_250 rfl
theorem i1005_251 : mj_ins 1005 251 = some (.aload 0, 252) := by decide +kernel
theorem e1005_251 {ls : mj_L} {st : List Value} {σ : mj_S} {τ : mj_T} {v : Nat} : mj_E 1005 251 (some (.ref v) :: ls) st σ τ = mj_E 1005 252 (some (.ref v) :: ls) (.ref v :: st) σ τ := mj_nx i1005_251 rfl
theorem i1005_252 : mj_ins 1005 252 = some (.iconst (0), 253) := by decide +kernel
theorem e1005_252 {ls : mj_L} {st : List Value} {σ : mj_S} {τ : mj_T} : mj_E 1005 252 ls st σ τ = mj_E 1005 253 ls (.int (nI 0) :: st) σ τ := mj_nx i1005_252 rfl
theorem i1005_253 : mj_ins 1005 253 = some (.iload 7, 255) := by decide +kernel
theorem e1005_253 {ls : mj_L} {st : List Value} {σ : mj_S} {τ : mj_T} {a0 a1 a2 a3 a4 a5 a6 : Option Value} {v : Int32} : mj_E 1005 253 (a0 :: a1 :: a2 :: a3 :: a4 :: a5 :: a6 :: some (.int v) :: ls) st σ τ = mj_E 1005 255 (a0 :: a1 :: a2 :: a3 :: a4 :: a5 :: a6 :: some (.int v) :: ls) (.int v :: st) σ τ := mj_nx i1005_253 rfl
theorem i1005_255 : mj_ins 1005 255 = some (.iload 3, 256) := by decide +kernel
theorem e1005_255 {ls : mj_L} {st : List Value} {σ : mj_S} {τ : mj_T} {a0 a1 a2 : Option Value} {v : Int32} : mj_E 1005 255 (a0 :: a1 :: a2 :: some (.int v) :: ls) st σ τ = mj_E 1005 256 (a0 :: a1 :: a2 :: some (.int v) :: ls) (.int v :: st) σ τ := mj_nx i1005_255 rfl
theorem i1005_256 : mj_ins 1005 256 = some (.iload 8, 258) := by decide +kernel
theorem e1005_256 {ls : mj_L} {st : List Value} {σ : mj_S} {τ : mj_T} {a0 a1 a2 a3 a4 a5 a6 a7 : Option Value} {v : Int32} : mj_E 1005 256 (a0 :: a1 :: a2 :: a3 :: a4 :: a5 :: a6 :: a7 :: some (.int v) :: ls) st σ τ = mj_E 1005 258 (a0 :: a1 :: a2 :: a3 :: a4 :: a5 :: a6 :: a7 :: some (.int v) :: ls) (.int v :: st) σ τ := mj_nx i1005_256 rfl
theorem i1005_258 : mj_ins 1005 258 = some (.invokestatic 1006, 261) := by decide +kernel
theorem e1005_258 {ls : mj_L} {σ : mj_S} {τ : mj_T} {x0 : Nat} {x1 : Int32} {x2 : Int32} {x3 : Int32} {x4 : Int32} : mj_E 1005 258 ls [.int x4, .int x3, .int x2, .int x1, .ref x0] σ τ = mj_bd (mj_C 1006 [.ref x0, .int x1, .int x2, .int x3, .int x4] σ τ) (mj_K 1005 261 ls []) := mj_clS (as := [.ref x0, .int x1, .int x2, .int x3, .int x4]) (r := []) i1005_258 (by decide +kernel : mj_vk 1005 1006 5 0 5 false = true) rfl
theorem i1005_261 : mj_ins 1005 261 = some (.aload 0, 262) := by decide +kernel
theorem e1005_261 {ls : mj_L} {st : List Value} {σ : mj_S} {τ : mj_T} {v : Nat} : mj_E 1005 261 (some (.ref v) :: ls) st σ τ = mj_E 1005 262 (some (.ref v) :: ls) (.ref v :: st) σ τ := mj_nx i1005_261 rfl
theorem i1005_262 : mj_ins 1005 262 = some (.getfield 503, 265) := by decide +kernel
theorem e1005_262 {ls : mj_L} {st : List Value} {σ : mj_S} {τ : mj_T} : mj_E 1005 262 ls (.ref 59 :: st) σ τ = mj_E 1005 265 ls (.int (σ 59 3) :: st) σ τ := mj_nx i1005_262 rfl
theorem i1005_265 : mj_ins 1005 265 = some (.isub, 266) := by decide +kernel
theorem e1005_265 {ls : mj_L} {st : List Value} {σ : mj_S} {τ : mj_T} {x y : Int32} : mj_E 1005 265 ls (.int y :: .int x :: st) σ τ = mj_E 1005 266 ls (.int (x - y) :: st) σ τ := mj_nx i1005_265 rfl
theorem i1005_266 : mj_ins 1005 266 = some (.ireturn, 267) := by decide +kernel
theorem e1005_266 {ls : mj_L} {σ : mj_S} {τ : mj_T} {v : Int32} : mj_E 1005 266 ls [.int v] σ τ = some (some (.int v), σ, τ) := mj_irt i1005_266 rfl
theorem i1005_267 : mj_ins 1005 267 = some (.aload 0, 268) := by decide +kernel
theorem e1005_267 {ls : mj_L} {st : List Value} {σ : mj_S} {τ : mj_T} {v : Nat} : mj_E 1005 267 (some (.ref v) :: ls) st σ τ = mj_E 1005 268 (some (.ref v) :: ls) (.ref v :: st) σ τ := mj_nx i1005_267 rfl
theorem i1005_268 : mj_ins 1005 268 = some (.iconst (2), 269) := by decide +kernel
theorem e1005_268 {ls : mj_L} {st : List Value} {σ : mj_S} {τ : mj_T} : mj_E 1005 268 ls st σ τ = mj_E 1005 269 ls (.int (nI 2) :: st) σ τ := mj_nx i1005_268 rfl
theorem i1005_269 : mj_ins 1005 269 = some (.iload 7, 271) := by decide +kernel
theorem e1005_269 {ls : mj_L} {st : List Value} {σ : mj_S} {τ : mj_T} {a0 a1 a2 a3 a4 a5 a6 : Option Value} {v : Int32} : mj_E 1005 269 (a0 :: a1 :: a2 :: a3 :: a4 :: a5 :: a6 :: some (.int v) :: ls) st σ τ = mj_E 1005 271 (a0 :: a1 :: a2 :: a3 :: a4 :: a5 :: a6 :: some (.int v) :: ls) (.int v :: st) σ τ := mj_nx i1005_269 rfl
theorem i1005_271 : mj_ins 1005 271 = some (.iload 3, 272) := by decide +kernel
theorem e1005_271 {ls : mj_L} {st : List Value} {σ : mj_S} {τ : mj_T} {a0 a1 a2 : Option Value} {v : Int32} : mj_E 1005 271 (a0 :: a1 :: a2 :: some (.int v) :: ls) st σ τ = mj_E 1005 272 (a0 :: a1 :: a2 :: some (.int v) :: ls) (.int v :: st) σ τ := mj_nx i1005_271 rfl
theorem i1005_272 : mj_ins 1005 272 = some (.iload 8, 274) := by decide +kernel
theorem e1005_272 {ls : mj_L} {st : List Value} {σ : mj_S} {τ : mj_T} {a0 a1 a2 a3 a4 a5 a6 a7 : Option Value} {v : Int32} : mj_E 1005 272 (a0 :: a1 :: a2 :: a3 :: a4 :: a5 :: a6 :: a7 :: some (.int v) :: ls) st σ τ = mj_E 1005 274 (a0 :: a1 :: a2 :: a3 :: a4 :: a5 :: a6 :: a7 :: some (.int v) :: ls) (.int v :: st) σ τ := mj_nx i1005_272 rfl
theorem i1005_274 : mj_ins 1005 274 = some (.invokestatic 1006, 277) := by decide +kernel
theorem e1005_274 {ls : mj_L} {σ : mj_S} {τ : mj_T} {x0 : Nat} {x1 : Int32} {x2 : Int32} {x3 : Int32} {x4 : Int32} : mj_E 1005 274 ls [.int x4, .int x3, .int x2, .int x1, .ref x0] σ τ = mj_bd (mj_C 1006 [.ref x0, .int x1, .int x2, .int x3, .int x4] σ τ) (mj_K 1005 277 ls []) := mj_clS (as := [.ref x0, .int x1, .int x2, .int x3, .int x4]) (r := []) i1005_274 (by decide +kernel : mj_vk 1005 1006 5 0 5 false = true) rfl
theorem i1005_277 : mj_ins 1005 277 = some (.iconst (5), 278) := by decide +kernel
theorem e1005_277 {ls : mj_L} {st : List Value} {σ : mj_S} {τ : mj_T} : mj_E 1005 277 ls st σ τ = mj_E 1005 278 ls (.int (nI 5) :: st) σ τ := mj_nx i1005_277 rfl
theorem i1005_278 : mj_ins 1005 278 = some (.ixor, 279) := by decide +kernel
theorem e1005_278 {ls : mj_L} {st : List Value} {σ : mj_S} {τ : mj_T} {x y : Int32} : mj_E 1005 278 ls (.int y :: .int x :: st) σ τ = mj_E 1005 279 ls (.int (x ^^^ y) :: st) σ τ := mj_nx i1005_278 rfl
theorem i1005_279 : mj_ins 1005 279 = some (.ireturn, 280) := by decide +kernel
theorem e1005_279 {ls : mj_L} {σ : mj_S} {τ : mj_T} {v : Int32} : mj_E 1005 279 ls [.int v] σ τ = some (some (.int v), σ, τ) := mj_irt i1005_279 rfl
theorem i1005_280 : mj_ins 1005 280 = some (.aload 0, 281) := by decide +kernel
theorem e1005_280 {ls : mj_L} {st : List Value} {σ : mj_S} {τ : mj_T} {v : Nat} : mj_E 1005 280 (some (.ref v) :: ls) st σ τ = mj_E 1005 281 (some (.ref v) :: ls) (.ref v :: st) σ τ := mj_nx i1005_280 rfl
theorem i1005_281 : mj_ins 1005 281 = some (.iconst (0), 282) := by decide +kernel
theorem e1005_281 {ls : mj_L} {st : List Value} {σ : mj_S} {τ : mj_T} : mj_E 1005 281 ls st σ τ = mj_E 1005 282 ls (.int (nI 0) :: st) σ τ := mj_nx i1005_281 rfl
theorem i1005_282 : mj_ins 1005 282 = some (.iload 7, 284) := by decide +kernel
theorem e1005_282 {ls : mj_L} {st : List Value} {σ : mj_S} {τ : mj_T} {a0 a1 a2 a3 a4 a5 a6 : Option Value} {v : Int32} : mj_E 1005 282 (a0 :: a1 :: a2 :: a3 :: a4 :: a5 :: a6 :: some (.int v) :: ls) st σ τ = mj_E 1005 284 (a0 :: a1 :: a2 :: a3 :: a4 :: a5 :: a6 :: some (.int v) :: ls) (.int v :: st) σ τ := mj_nx i1005_282 rfl
theorem i1005_284 : mj_ins 1005 284 = some (.iload 3, 285) := by decide +kernel
theorem e1005_284 {ls : mj_L} {st : List Value} {σ : mj_S} {τ : mj_T} {a0 a1 a2 : Option Value} {v : Int32} : mj_E 1005 284 (a0 :: a1 :: a2 :: some (.int v) :: ls) st σ τ = mj_E 1005 285 (a0 :: a1 :: a2 :: some (.int v) :: ls) (.int v :: st) σ τ := mj_nx i1005_284 rfl
theorem i1005_285 : mj_ins 1005 285 = some (.iload 8, 287) := by decide +kernel
theorem e1005_285 {ls : mj_L} {st : List Value} {σ : mj_S} {τ : mj_T} {a0 a1 a2 a3 a4 a5 a6 a7 : Option Value} {v : Int32} : mj_E 1005 285 (a0 :: a1 :: a2 :: a3 :: a4 :: a5 :: a6 :: a7 :: some (.int v) :: ls) st σ τ = mj_E 1005 287 (a0 :: a1 :: a2 :: a3 :: a4 :: a5 :: a6 :: a7 :: some (.int v) :: ls) (.int v :: st) σ τ := mj_nx i1005_285 rfl
theorem i1005_287 : mj_ins 1005 287 = some (.invokestatic 1006, 290) := by decide +kernel
theorem e1005_287 {ls : mj_L} {σ : mj_S} {τ : mj_T} {x0 : Nat} {x1 : Int32} {x2 : Int32} {x3 : Int32} {x4 : Int32} : mj_E 1005 287 ls [.int x4, .int x3, .int x2, .int x1, .ref x0] σ τ = mj_bd (mj_C 1006 [.ref x0, .int x1, .int x2, .int x3, .int x4] σ τ) (mj_K 1005 290 ls []) := mj_clS (as := [.ref x0, .int x1, .int x2, .int x3, .int x4]) (r := []) i1005_287 (by decide +kernel : mj_vk 1005 1006 5 0 5 false = true) rfl
theorem i1005_290 : mj_ins 1005 290 = some (.iconst (2), 291) := by decide +kernel
theorem e1005_290 {ls : mj_L} {st : List Value} {σ : mj_S} {τ : mj_T} : mj_E 1005 290 ls st σ τ = mj_E 1005 291 ls (.int (nI 2) :: st) σ τ := mj_nx i1005_290 rfl
theorem i1005_291 : mj_ins 1005 291 = some (.imul, 292) := by decide +kernel
theorem e1005_291 {ls : mj_L} {st : List Value} {σ : mj_S} {τ : mj_T} {x y : Int32} : mj_E 1005 291 ls (.int y :: .int x :: st) σ τ = mj_E 1005 292 ls (.int (x * y) :: st) σ τ := mj_nx i1005_291 rfl
theorem i1005_292 : mj_ins 1005 292 = some (.ireturn, 293) := by decide +kernel
theorem e1005_292 {ls : mj_L} {σ : mj_S} {τ : mj_T} {v : Int32} : mj_E 1005 292 ls [.int v] σ τ = some (some (.int v), σ, τ) := mj_irt i1005_292 rfl
theorem i1005_293 : mj_ins 1005 293 = some (.aload 0, 294) := by decide +kernel
theorem e1005_293 {ls : mj_L} {st : List Value} {σ : mj_S} {τ : mj_T} {v : Nat} : mj_E 1005 293 (some (.ref v) :: ls) st σ τ = mj_E 1005 294 (some (.ref v) :: ls) (.ref v :: st) σ τ := mj_nx i1005_293 rfl
theorem i1005_294 : mj_ins 1005 294 = some (.iconst (1), 295) := by decide +kernel
theorem e1005_294 {ls : mj_L} {st : List Value} {σ : mj_S} {τ : mj_T} : mj_E 1005 294 ls st σ τ = mj_E 1005 295 ls (.int (nI 1) :: st) σ τ := mj_nx i1005_294 rfl
theorem i1005_295 : mj_ins 1005 295 = some (.iload 7, 297) := by decide +kernel
theorem e1005_295 {ls : mj_L} {st : List Value} {σ : mj_S} {τ : mj_T} {a0 a1 a2 a3 a4 a5 a6 : Option Value} {v : Int32} : mj_E 1005 295 (a0 :: a1 :: a2 :: a3 :: a4 :: a5 :: a6 :: some (.int v) :: ls) st σ τ = mj_E 1005 297 (a0 :: a1 :: a2 :: a3 :: a4 :: a5 :: a6 :: some (.int v) :: ls) (.int v :: st) σ τ := mj_nx i1005_295 rfl
theorem i1005_297 : mj_ins 1005 297 = some (.iload 3, 298) := by decide +kernel
theorem e1005_297 {ls : mj_L} {st : List Value} {σ : mj_S} {τ : mj_T} {a0 a1 a2 : Option Value} {v : Int32} : mj_E 1005 297 (a0 :: a1 :: a2 :: some (.int v) :: ls) st σ τ = mj_E 1005 298 (a0 :: a1 :: a2 :: some (.int v) :: ls) (.int v :: st) σ τ := mj_nx i1005_297 rfl
theorem i1005_298 : mj_ins 1005 298 = some (.aload 0, 299) := by decide +kernel
theorem e1005_298 {ls : mj_L} {st : List Value} {σ : mj_S} {τ : mj_T} {v : Nat} : mj_E 1005 298 (some (.ref v) :: ls) st σ τ = mj_E 1005 299 (some (.ref v) :: ls) (.ref v :: st) σ τ := mj_nx i1005_298 rfl
theorem i1005_299 : mj_ins 1005 299 = some (.getfield 504, 302) := by decide +kernel
theorem e1005_299 {ls : mj_L} {st : List Value} {σ : mj_S} {τ : mj_T} : mj_E 1005 299 ls (.ref 59 :: st) σ τ = mj_E 1005 302 ls (.int (σ 59 4) :: st) σ τ := mj_nx i1005_299 rfl
theorem i1005_302 : mj_ins 1005 302 = some (.isub, 303) := by decide +kernel
theorem e1005_302 {ls : mj_L} {st : List Value} {σ : mj_S} {τ : mj_T} {x y : Int32} : mj_E 1005 302 ls (.int y :: .int x :: st) σ τ = mj_E 1005 303 ls (.int (x - y) :: st) σ τ := mj_nx i1005_302 rfl
theorem i1005_303 : mj_ins 1005 303 = some (.iload 8, 305) := by decide +kernel
theorem e1005_303 {ls : mj_L} {st : List Value} {σ : mj_S} {τ : mj_T} {a0 a1 a2 a3 a4 a5 a6 a7 : Option Value} {v : Int32} : mj_E 1005 303 (a0 :: a1 :: a2 :: a3 :: a4 :: a5 :: a6 :: a7 :: some (.int v) :: ls) st σ τ = mj_E 1005 305 (a0 :: a1 :: a2 :: a3 :: a4 :: a5 :: a6 :: a7 :: some (.int v) :: ls) (.int v :: st) σ τ := mj_nx i1005_303 rfl
theorem i1005_305 : mj_ins 1005 305 = some (.invokestatic 1006, 308) := by decide +kernel
theorem e1005_305 {ls : mj_L} {σ : mj_S} {τ : mj_T} {x0 : Nat} {x1 : Int32} {x2 : Int32} {x3 : Int32} {x4 : Int32} : mj_E 1005 305 ls [.int x4, .int x3, .int x2, .int x1, .ref x0] σ τ = mj_bd (mj_C 1006 [.ref x0, .int x1, .int x2, .int x3, .int x4] σ τ) (mj_K 1005 308 ls []) := mj_clS (as := [.ref x0, .int x1, .int x2, .int x3, .int x4]) (r := []) i1005_305 (by decide +kernel : mj_vk 1005 1006 5 0 5 false = true) rfl
theorem i1005_308 : mj_ins 1005 308 = some (.ireturn, 309) := by decide +kernel
theorem e1005_308 {ls : mj_L} {σ : mj_S} {τ : mj_T} {v : Int32} : mj_E 1005 308 ls [.int v] σ τ = some (some (.int v), σ, τ) := mj_irt i1005_308 rfl
theorem c1006 {σ : mj_S} {τ : mj_T} {x0 : Nat} {x1 : Int32} {x2 : Int32} {x3 : Int32} {x4 : Int32} : mj_C 1006 [.ref x0, .int x1, .int x2, .int x3, .int x4] σ τ = mj_E 1006 0 [some (.ref x0), some (.int x1), some (.int x2), some (.int x3), some (.int x4), none, none, none, none] [] σ τ := rfl
theorem i1006_0 : mj_ins 1006 0 = some (.iload 1, 1) := by decide +kernel
theorem e1006_0 {ls : mj_L} {st : List Value} {σ : mj_S} {τ : mj_T} {a0 : Option Value} {v : Int32} : mj_E 1006 0 (a0 :: some (.int v) :: ls) st σ τ = mj_E 1006 1 (a0 :: some (.int v) :: ls) (.int v :: st) σ τ := mj_nx i1006_0 rfl
theorem i1006_1 : mj_ins 1006 1 = some (.iload 2, 2) := by decide +kernel
theorem e1006_1 {ls : mj_L} {st : List Value} {σ : mj_S} {τ : mj_T} {a0 a1 : Option Value} {v : Int32} : mj_E 1006 1 (a0 :: a1 :: some (.int v) :: ls) st σ τ = mj_E 1006 2 (a0 :: a1 :: some (.int v) :: ls) (.int v :: st) σ τ := mj_nx i1006_1 rfl
theorem i1006_2 : mj_ins 1006 2 = some (.invokestatic 71, 5) := by decide +kernel
theorem e1006_2 {ls : mj_L} {σ : mj_S} {τ : mj_T} {x0 : Int32} {x1 : Int32} : mj_E 1006 2 ls [.int x1, .int x0] σ τ = mj_bd (mj_C 71 [.int x0, .int x1] σ τ) (mj_K 1006 5 ls []) := mj_clS (as := [.int x0, .int x1]) (r := []) i1006_2 (by decide +kernel : mj_vk 1006 71 2 0 2 false = true) rfl
theorem i1006_5 : mj_ins 1006 5 = some (.istore 5, 7) := by decide +kernel
theorem e1006_5 {ls : mj_L} {st : List Value} {σ : mj_S} {τ : mj_T} {a0 a1 a2 a3 a4 a5 : Option Value} {v : Int32} : mj_E 1006 5 (a0 :: a1 :: a2 :: a3 :: a4 :: a5 :: ls) (.int v :: st) σ τ = mj_E 1006 7 (a0 :: a1 :: a2 :: a3 :: a4 :: some (.int v) :: ls) st σ τ := mj_nx i1006_5 rfl
theorem i1006_7 : mj_ins 1006 7 = some (.iload 5, 9) := by decide +kernel
theorem e1006_7 {ls : mj_L} {st : List Value} {σ : mj_S} {τ : mj_T} {a0 a1 a2 a3 a4 : Option Value} {v : Int32} : mj_E 1006 7 (a0 :: a1 :: a2 :: a3 :: a4 :: some (.int v) :: ls) st σ τ = mj_E 1006 9 (a0 :: a1 :: a2 :: a3 :: a4 :: some (.int v) :: ls) (.int v :: st) σ τ := mj_nx i1006_7 rfl
theorem i1006_9 : mj_ins 1006 9 = some (.iconst (-1), 10) := by decide +kernel
theorem e1006_9 {ls : mj_L} {st : List Value} {σ : mj_S} {τ : mj_T} : mj_E 1006 9 ls st σ τ = mj_E 1006 10 ls (.int ((-1)) :: st) σ τ := mj_nx i1006_9 rfl
theorem i1006_10 : mj_ins 1006 10 = some (.if_icmp .eq 20, 13) := by decide +kernel
theorem e1006_10 {ls : mj_L} {st : List Value} {σ : mj_S} {τ : mj_T} {x y : Int32} : mj_E 1006 10 ls (.int y :: .int x :: st) σ τ = if x = y then mj_E 1006 20 ls st σ τ else mj_E 1006 13 ls st σ τ := (mj_ifi i1006_10).trans (mj_cdT rfl)
theorem i1006_13 : mj_ins 1006 13 = some (.iload 4, 15) := by decide +kernel
theorem e1006_13 {ls : mj_L} {st : List Value} {σ : mj_S} {τ : mj_T} {a0 a1 a2 a3 : Option Value} {v : Int32} : mj_E 1006 13 (a0 :: a1 :: a2 :: a3 :: some (.int v) :: ls) st σ τ = mj_E 1006 15 (a0 :: a1 :: a2 :: a3 :: some (.int v) :: ls) (.int v :: st) σ τ := mj_nx i1006_13 rfl
theorem i1006_15 : mj_ins 1006 15 = some (.iconst (20), 17) := by decide +kernel
theorem e1006_15 {ls : mj_L} {st : List Value} {σ : mj_S} {τ : mj_T} : mj_E 1006 15 ls st σ τ = mj_E 1006 17 ls (.int (nI 20) :: st) σ τ := mj_nx i1006_15 rfl
theorem i1006_17 : mj_ins 1006 17 = some (.if_icmp .le 22, 20) := by decide +kernel
theorem e1006_17 {ls : mj_L} {st : List Value} {σ : mj_S} {τ : mj_T} {x y : Int32} : mj_E 1006 17 ls (.int y :: .int x :: st) σ τ = if x ≤ y then mj_E 1006 22 ls st σ τ else mj_E 1006 20 ls st σ τ := (mj_ifi i1006_17).trans (mj_cdT rfl)
theorem i1006_20 : mj_ins 1006 20 = some (.iconst (0), 21) := by decide +kernel
theorem e1006_20 {ls : mj_L} {st : List Value} {σ : mj_S} {τ : mj_T} : mj_E 1006 20 ls st σ τ = mj_E 1006 21 ls (.int (nI 0) :: st) σ τ := mj_nx i1006_20 rfl
theorem i1006_21 : mj_ins 1006 21 = some (.ireturn, 22) := by decide +kernel
theorem e1006_21 {ls : mj_L} {σ : mj_S} {τ : mj_T} {v : Int32} : mj_E 1006 21 ls [.int v] σ τ = some (some (.int v), σ, τ) := mj_irt i1006_21 rfl
theorem i1006_22 : mj_ins 1006 22 = some (.getstatic 91, 25) := by decide +kernel
theorem e1006_22 {ls : mj_L} {st : List Value} {σ : mj_S} {τ : mj_T} : mj_E 1006 22 ls st σ τ = mj_E 1006 25 ls (.ref 91 :: st) σ τ := mj_nx i1006_22 rfl
theorem i1006_25 : mj_ins 1006 25 = some (.iconst (3), 26) := by decide +kernel
theorem e1006_25 {ls : mj_L} {st : List Value} {σ : mj_S} {τ : mj_T} : mj_E 1006 25 ls st σ τ = mj_E 1006 26 ls (.int (nI 3) :: st) σ τ := mj_nx i1006_25 rfl
theorem i1006_26 : mj_ins 1006 26 = some (.iload 5, 28) := by decide +kernel
theorem e1006_26 {ls : mj_L} {st : List Value} {σ : mj_S} {τ : mj_T} {a0 a1 a2 a3 a4 : Option Value} {v : Int32} : mj_E 1006 26 (a0 :: a1 :: a2 :: a3 :: a4 :: some (.int v) :: ls) st σ τ = mj_E 1006 28 (a0 :: a1 :: a2 :: a3 :: a4 :: some (.int v) :: ls) (.int v :: st) σ τ := mj_nx i1006_26 rfl
theorem i1006_28 : mj_ins 1006 28 = some (.imul, 29) := by decide +kernel
theorem e1006_28 {ls : mj_L} {st : List Value} {σ : mj_S} {τ : mj_T} {x y : Int32} : mj_E 1006 28 ls (.int y :: .int x :: st) σ τ = mj_E 1006 29 ls (.int (x * y) :: st) σ τ := mj_nx i1006_28 rfl
theorem i1006_29 : mj_ins 1006 29 = some (.iload 1, 30) := by decide +kernel
theorem e1006_29 {ls : mj_L} {st : List Value} {σ : mj_S} {τ : mj_T} {a0 : Option Value} {v : Int32} : mj_E 1006 29 (a0 :: some (.int v) :: ls) st σ τ = mj_E 1006 30 (a0 :: some (.int v) :: ls) (.int v :: st) σ τ := mj_nx i1006_29 rfl
theorem i1006_30 : mj_ins 1006 30 = some (.iadd, 31) := by decide +kernel
theorem e1006_30 {ls : mj_L} {st : List Value} {σ : mj_S} {τ : mj_T} {x y : Int32} : mj_E 1006 30 ls (.int y :: .int x :: st) σ τ = mj_E 1006 31 ls (.int (x + y) :: st) σ τ := mj_nx i1006_30 rfl
theorem i1006_31 : mj_ins 1006 31 = some (.iaload, 32) := by decide +kernel
theorem e1006_31 {ls : mj_L} {st : List Value} {σ : mj_S} {τ : mj_T} {x : Int32} {k : Nat} : mj_E 1006 31 ls (.int x :: .ref k :: st) σ τ = if mj_ib (mj_li σ k) x = true then mj_E 1006 32 ls (.int (σ k x.toNatClampNeg) :: st) σ τ else none := mj_ald i1006_31
theorem i1006_32 : mj_ins 1006 32 = some (.istore 6, 34) := by decide +kernel
theorem e1006_32 {ls : mj_L} {st : List Value} {σ : mj_S} {τ : mj_T} {a0 a1 a2 a3 a4 a5 a6 : Option Value} {v : Int32} : mj_E 1006 32 (a0 :: a1 :: a2 :: a3 :: a4 :: a5 :: a6 :: ls) (.int v :: st) σ τ = mj_E 1006 34 (a0 :: a1 :: a2 :: a3 :: a4 :: a5 :: some (.int v) :: ls) st σ τ := mj_nx i1006_32 rfl
theorem i1006_34 : mj_ins 1006 34 = some (.aload 0, 35) := by decide +kernel
theorem e1006_34 {ls : mj_L} {st : List Value} {σ : mj_S} {τ : mj_T} {v : Nat} : mj_E 1006 34 (some (.ref v) :: ls) st σ τ = mj_E 1006 35 (some (.ref v) :: ls) (.ref v :: st) σ τ := mj_nx i1006_34 rfl
theorem i1006_35 : mj_ins 1006 35 = some (.iload 6, 37) := by decide +kernel
theorem e1006_35 {ls : mj_L} {st : List Value} {σ : mj_S} {τ : mj_T} {a0 a1 a2 a3 a4 a5 : Option Value} {v : Int32} : mj_E 1006 35 (a0 :: a1 :: a2 :: a3 :: a4 :: a5 :: some (.int v) :: ls) st σ τ = mj_E 1006 37 (a0 :: a1 :: a2 :: a3 :: a4 :: a5 :: some (.int v) :: ls) (.int v :: st) σ τ := mj_nx i1006_35 rfl
theorem i1006_37 : mj_ins 1006 37 = some (.invokevirtual 72, 40) := by decide +kernel
theorem e1006_37 {ls : mj_L} {σ : mj_S} {τ : mj_T} {r : Nat} {x0 : Int32} : mj_E 1006 37 ls [.int x0, .ref r] σ τ = if mj_rcv r 5 = true then mj_bd (mj_C 72 [.ref r, .int x0] σ τ) (mj_K 1006 40 ls []) else none := mj_clV (as := [.int x0]) (r := []) i1006_37 (by decide +kernel : mj_vk 1006 72 1 0 2 false = true) (by decide +kernel)
theorem i1006_40 : mj_ins 1006 40 = some (.iload 5, 42) := by decide +kernel
theorem e1006_40 {ls : mj_L} {st : List Value} {σ : mj_S} {τ : mj_T} {a0 a1 a2 a3 a4 : Option Value} {v : Int32} : mj_E 1006 40 (a0 :: a1 :: a2 :: a3 :: a4 :: some (.int v) :: ls) st σ τ = mj_E 1006 42 (a0 :: a1 :: a2 :: a3 :: a4 :: some (.int v) :: ls) (.int v :: st) σ τ := mj_nx i1006_40 rfl
theorem i1006_42 : mj_ins 1006 42 = some (.invokestatic 4, 45) := by decide +kernel
theorem e1006_42 {ls : mj_L} {σ : mj_S} {τ : mj_T} {x0 : Int32} : mj_E 1006 42 ls [.int x0] σ τ = mj_bd (mj_C 4 [.int x0] σ τ) (mj_K 1006 45 ls []) := mj_clS (as := [.int x0]) (r := []) i1006_42 (by decide +kernel : mj_vk 1006 4 1 0 1 false = true) rfl
theorem i1006_45 : mj_ins 1006 45 = some (.istore 7, 47) := by decide +kernel
theorem e1006_45 {ls : mj_L} {st : List Value} {σ : mj_S} {τ : mj_T} {a0 a1 a2 a3 a4 a5 a6 a7 : Option Value} {v : Int32} : mj_E 1006 45 (a0 :: a1 :: a2 :: a3 :: a4 :: a5 :: a6 :: a7 :: ls) (.int v :: st) σ τ = mj_E 1006 47 (a0 :: a1 :: a2 :: a3 :: a4 :: a5 :: a6 :: some (.int v) :: ls) st σ τ := mj_nx i1006_45 rfl
theorem i1006_47 : mj_ins 1006 47 = some (.iload 4, 49) := by decide +kernel
theorem e1006_47 {ls : mj_L} {st : List Value} {σ : mj_S} {τ : mj_T} {a0 a1 a2 a3 : Option Value} {v : Int32} : mj_E 1006 47 (a0 :: a1 :: a2 :: a3 :: some (.int v) :: ls) st σ τ = mj_E 1006 49 (a0 :: a1 :: a2 :: a3 :: some (.int v) :: ls) (.int v :: st) σ τ := mj_nx i1006_47 rfl
theorem i1006_49 : mj_ins 1006 49 = some (.iconst (1), 50) := by decide +kernel
theorem e1006_49 {ls : mj_L} {st : List Value} {σ : mj_S} {τ : mj_T} : mj_E 1006 49 ls st σ τ = mj_E 1006 50 ls (.int (nI 1) :: st) σ τ := mj_nx i1006_49 rfl
theorem i1006_50 : mj_ins 1006 50 = some (.iadd, 51) := by decide +kernel
theorem e1006_50 {ls : mj_L} {st : List Value} {σ : mj_S} {τ : mj_T} {x y : Int32} : mj_E 1006 50 ls (.int y :: .int x :: st) σ τ = mj_E 1006 51 ls (.int (x + y) :: st) σ τ := mj_nx i1006_50 rfl
theorem i1006_51 : mj_ins 1006 51 = some (.istore 8, 53) := by decide +kernel
theorem e1006_51 {ls : mj_L} {st : List Value} {σ : mj_S} {τ : mj_T} {a0 a1 a2 a3 a4 a5 a6 a7 a8 : Option Value} {v : Int32} : mj_E 1006 51 (a0 :: a1 :: a2 :: a3 :: a4 :: a5 :: a6 :: a7 :: a8 :: ls) (.int v :: st) σ τ = mj_E 1006 53 (a0 :: a1 :: a2 :: a3 :: a4 :: a5 :: a6 :: a7 :: some (.int v) :: ls) st σ τ := mj_nx i1006_51 rfl
theorem i1006_53 : mj_ins 1006 53 = some (.iload 6, 55) := by decide +kernel
theorem e1006_53 {ls : mj_L} {st : List Value} {σ : mj_S} {τ : mj_T} {a0 a1 a2 a3 a4 a5 : Option Value} {v : Int32} : mj_E 1006 53 (a0 :: a1 :: a2 :: a3 :: a4 :: a5 :: some (.int v) :: ls) st σ τ = mj_E 1006 55 (a0 :: a1 :: a2 :: a3 :: a4 :: a5 :: some (.int v) :: ls) (.int v :: st) σ τ := mj_nx i1006_53 rfl
theorem i1006_55 : mj_ins 1006 55 = some (.lookupswitch (238) #[(10, 89), (11, 96), (12, 111), (20, 142), (30, 158), (40, 171), (50, 184), (51, 196), (60, 212), (70, 225)], 55) := by decide +kernel
theorem e1006_55 {ls : mj_L} {st : List Value} {σ : mj_S} {τ : mj_T} {x : Int32} : mj_E 1006 55 ls (.int x :: st) σ τ = if x = nI 10 then mj_E 1006 144 ls st σ τ else if x = nI 11 then mj_E 1006 151 ls st σ τ else if x = nI 12 then mj_E 1006 166 ls st σ τ else if x = nI 20 then mj_E 1006 197 ls st σ τ else if x = nI 30 then mj_E 1006 213 ls st σ τ else if x = nI 40 then mj_E 1006 226 ls st σ τ else if x = nI 50 then mj_E 1006 239 ls st σ τ else if x = nI 51 then mj_E 1006 251 ls st σ τ else if x = nI 60 then mj_E 1006 267 ls st σ τ else if x = nI 70 then mj_E 1006 280 ls st σ τ else mj_E 1006 293 ls st σ τ := mj_lusw i1006_55 rfl
theorem i1006_144 : mj_ins 1006 144 = some (.iload 3, 145) := by decide +kernel
theorem e1006_144 {ls : mj_L} {st : List Value} {σ : mj_S} {τ : mj_T} {a0 a1 a2 : Option Value} {v : Int32} : mj_E 1006 144 (a0 :: a1 :: a2 :: some (.int v) :: ls) st σ τ = mj_E 1006 145 (a0 :: a1 :: a2 :: some (.int v) :: ls) (.int v :: st) σ τ := mj_nx i1006_144 rfl
theorem i1006_145 : mj_ins 1006 145 = some (.aload 0, 146) := by decide +kernel
theorem e1006_145 {ls : mj_L} {st : List Value} {σ : mj_S} {τ : mj_T} {v : Nat} : mj_E 1006 145 (some (.ref v) :: ls) st σ τ = mj_E 1006 146 (some (.ref v) :: ls) (.ref v :: st) σ τ := mj_nx i1006_145 rfl
theorem i1006_146 : mj_ins 1006 146 = some (.getfield 503, 149) := by decide +kernel
theorem e1006_146 {ls : mj_L} {st : List Value} {σ : mj_S} {τ : mj_T} : mj_E 1006 146 ls (.ref 59 :: st) σ τ = mj_E 1006 149 ls (.int (σ 59 3) :: st) σ τ := mj_nx i1006_146 rfl
theorem i1006_149 : mj_ins 1006 149 = some (.iadd, 150) := by decide +kernel
theorem e1006_149 {ls : mj_L} {st : List Value} {σ : mj_S} {τ : mj_T} {x y : Int32} : mj_E 1006 149 ls (.int y :: .int x :: st) σ τ = mj_E 1006 150 ls (.int (x + y) :: st) σ τ := mj_nx i1006_149 rfl
theorem i1006_150 : mj_ins 1006 150 = some (.ireturn, 151) := by decide +kernel
theorem e1006_150 {ls : mj_L} {σ : mj_S} {τ : mj_T} {v : Int32} : mj_E 1006 150 ls [.int v] σ τ = some (some (.int v), σ, τ) := mj_irt i1006_150 rfl
theorem i1006_151 : mj_ins 1006 151 = some (.aload 0, 152) := by decide +kernel
theorem e1006_151 {ls : mj_L} {st : List Value} {σ : mj_S} {τ : mj_T} {v : Nat} : mj_E 1006 151 (some (.ref v) :: ls) st σ τ = mj_E 1006 152 (some (.ref v) :: ls) (.ref v :: st) σ τ := mj_nx i1006_151 rfl
theorem i1006_152 : mj_ins 1006 152 = some (.iconst (0), 153) := by decide +kernel
theorem e1006_152 {ls : mj_L} {st : List Value} {σ : mj_S} {τ : mj_T} : mj_E 1006 152 ls st σ τ = mj_E 1006 153 ls (.int (nI 0) :: st) σ τ := mj_nx i1006_152 rfl
theorem i1006_153 : mj_ins 1006 153 = some (.aload 0, 154) := by decide +kernel
theorem e1006_153 {ls : mj_L} {st : List Value} {σ : mj_S} {τ : mj_T} {v : Nat} : mj_E 1006 153 (some (.ref v) :: ls) st σ τ = mj_E 1006 154 (some (.ref v) :: ls) (.ref v :: st) σ τ := mj_nx i1006_153 rfl
theorem i1006_154 : mj_ins 1006 154 = some (.getfield 502, 157) := by decide +kernel
theorem e1006_154 {ls : mj_L} {st : List Value} {σ : mj_S} {τ : mj_T} : mj_E 1006 154 ls (.ref 59 :: st) σ τ = mj_E 1006 157 ls (.int (σ 59 2) :: st) σ τ := mj_nx i1006_154 rfl
theorem i1006_157 : mj_ins 1006 157 = some (.iload 3, 158) := by decide +kernel
theorem e1006_157 {ls : mj_L} {st : List Value} {σ : mj_S} {τ : mj_T} {a0 a1 a2 : Option Value} {v : Int32} : mj_E 1006 157 (a0 :: a1 :: a2 :: some (.int v) :: ls) st σ τ = mj_E 1006 158 (a0 :: a1 :: a2 :: some (.int v) :: ls) (.int v :: st) σ τ := mj_nx i1006_157 rfl
theorem i1006_158 : mj_ins 1006 158 = some (.iload 8, 160) := by decide +kernel
theorem e1006_158 {ls : mj_L} {st : List Value} {σ : mj_S} {τ : mj_T} {a0 a1 a2 a3 a4 a5 a6 a7 : Option Value} {v : Int32} : mj_E 1006 158 (a0 :: a1 :: a2 :: a3 :: a4 :: a5 :: a6 :: a7 :: some (.int v) :: ls) st σ τ = mj_E 1006 160 (a0 :: a1 :: a2 :: a3 :: a4 :: a5 :: a6 :: a7 :: some (.int v) :: ls) (.int v :: st) σ τ := mj_nx i1006_158 rfl
theorem i1006_160 : mj_ins 1006 160 = some (.invokestatic 1007, 163) := by decide +kernel
theorem e1006_160 {ls : mj_L} {σ : mj_S} {τ : mj_T} {x0 : Nat} {x1 : Int32} {x2 : Int32} {x3 : Int32} {x4 : Int32} : mj_E 1006 160 ls [.int x4, .int x3, .int x2, .int x1, .ref x0] σ τ = mj_bd (mj_C 1007 [.ref x0, .int x1, .int x2, .int x3, .int x4] σ τ) (mj_K 1006 163 ls []) := mj_clS (as := [.ref x0, .int x1, .int x2, .int x3, .int x4]) (r := []) i1006_160 (by decide +kernel : mj_vk 1006 1007 5 0 5 false = true) rfl
theorem i1006_163 : mj_ins 1006 163 = some (.iconst (2), 164) := by decide +kernel
theorem e1006_163 {ls : mj_L} {st : List Value} {σ : mj_S} {τ : mj_T} : mj_E 1006 163 ls st σ τ = mj_E 1006 164 ls (.int (nI 2) :: st) σ τ := mj_nx i1006_163 rfl
theorem i1006_164 : mj_ins 1006 164 = some (.imul, 165) := by decide +kernel
theorem e1006_164 {ls : mj_L} {st : List Value} {σ : mj_S} {τ : mj_T} {x y : Int32} : mj_E 1006 164 ls (.int y :: .int x :: st) σ τ = mj_E 1006 165 ls (.int (x * y) :: st) σ τ := mj_nx i1006_164 rfl
theorem i1006_165 : mj_ins 1006 165 = some (.ireturn, 166) := by decide +kernel
theorem e1006_165 {ls : mj_L} {σ : mj_S} {τ : mj_T} {v : Int32} : mj_E 1006 165 ls [.int v] σ τ = some (some (.int v), σ, τ) := mj_irt i1006_165 rfl
theorem i1006_166 : mj_ins 1006 166 = some (.aload 0, 167) := by decide +kernel
theorem e1006_166 {ls : mj_L} {st : List Value} {σ : mj_S} {τ : mj_T} {v : Nat} : mj_E 1006 166 (some (.ref v) :: ls) st σ τ = mj_E 1006 167 (some (.ref v) :: ls) (.ref v :: st) σ τ := mj_nx i1006_166 rfl
theorem i1006_167 : mj_ins 1006 167 = some (.iconst (1), 168) := by decide +kernel
theorem e1006_167 {ls : mj_L} {st : List Value} {σ : mj_S} {τ : mj_T} : mj_E 1006 167 ls st σ τ = mj_E 1006 168 ls (.int (nI 1) :: st) σ τ := mj_nx i1006_167 rfl
theorem i1006_168 : mj_ins 1006 168 = some (.aload 0, 169) := by decide +kernel
theorem e1006_168 {ls : mj_L} {st : List Value} {σ : mj_S} {τ : mj_T} {v : Nat} : mj_E 1006 168 (some (.ref v) :: ls) st σ τ = mj_E 1006 169 (some (.ref v) :: ls) (.ref v :: st) σ τ := mj_nx i1006_168 rfl
theorem i1006_169 : mj_ins 1006 169 = some (.getfield 502, 172) := by decide +kernel
theorem e1006_169 {ls : mj_L} {st : List Value} {σ : mj_S} {τ : mj_T} : mj_E 1006 169 ls (.ref 59 :: st) σ τ = mj_E 1006 172 ls (.int (σ 59 2) :: st) σ τ := mj_nx i1006_169 rfl
theorem i1006_172 : mj_ins 1006 172 = some (.iload 3, 173) := by decide +kernel
theorem e1006_172 {ls : mj_L} {st : List Value} {σ : mj_S} {τ : mj_T} {a0 a1 a2 : Option Value} {v : Int32} : mj_E 1006 172 (a0 :: a1 :: a2 :: some (.int v) :: ls) st σ τ = mj_E 1006 173 (a0 :: a1 :: a2 :: some (.int v) :: ls) (.int v :: st) σ τ := mj_nx i1006_172 rfl
theorem i1006_173 : mj_ins 1006 173 = some (.iload 8, 175) := by decide +kernel
theorem e1006_173 {ls : mj_L} {st : List Value} {σ : mj_S} {τ : mj_T} {a0 a1 a2 a3 a4 a5 a6 a7 : Option Value} {v : Int32} : mj_E 1006 173 (a0 :: a1 :: a2 :: a3 :: a4 :: a5 :: a6 :: a7 :: some (.int v) :: ls) st σ τ = mj_E 1006 175 (a0 :: a1 :: a2 :: a3 :: a4 :: a5 :: a6 :: a7 :: some (.int v) :: ls) (.int v :: st) σ τ := mj_nx i1006_173 rfl
theorem i1006_175 : mj_ins 1006 175 = some (.invokestatic 1007, 178) := by decide +kernel
theorem e1006_175 {ls : mj_L} {σ : mj_S} {τ : mj_T} {x0 : Nat} {x1 : Int32} {x2 : Int32} {x3 : Int32} {x4 : Int32} : mj_E 1006 175 ls [.int x4, .int x3, .int x2, .int x1, .ref x0] σ τ = mj_bd (mj_C 1007 [.ref x0, .int x1, .int x2, .int x3, .int x4] σ τ) (mj_K 1006 178 ls []) := mj_clS (as := [.ref x0, .int x1, .int x2, .int x3, .int x4]) (r := []) i1006_175 (by decide +kernel : mj_vk 1006 1007 5 0 5 false = true) rfl
theorem i1006_178 : mj_ins 1006 178 = some (.aload 0, 179) := by decide +kernel
theorem e1006_178 {ls : mj_L} {st : List Value} {σ : mj_S} {τ : mj_T} {v : Nat} : mj_E 1006 178 (some (.ref v) :: ls) st σ τ = mj_E 1006 179 (some (.ref v) :: ls) (.ref v :: st) σ τ := mj_nx i1006_178 rfl
theorem i1006_179 : mj_ins 1006 179 = some (.iconst (0), 180) := by decide +kernel
theorem e1006_179 {ls : mj_L} {st : List Value} {σ : mj_S} {τ : mj_T} : mj_E 1006 179 ls st σ τ = mj_E 1006 180 ls (.int (nI 0) :: st) σ τ := mj_nx i1006_179 rfl
theorem i1006_180 : mj_ins 1006 180 = some (.aload 0, 181) := by decide +kernel
theorem e1006_180 {ls : mj_L} {st : List Value} {σ : mj_S} {τ : mj_T} {v : Nat} : mj_E 1006 180 (some (.ref v) :: ls) st σ τ = mj_E 1006 181 (some (.ref v) :: ls) (.ref v :: st) σ τ := mj_nx i1006_180 rfl
theorem i1006_181 : mj_ins 1006 181 = some (.getfield 502, 184) := by decide +kernel
theorem e1006_181 {ls : mj_L} {st : List Value} {σ : mj_S} {τ : mj_T} : mj_E 1006 181 ls (.ref 59 :: st) σ τ = mj_E 1006 184 ls (.int (σ 59 2) :: st) σ τ := mj_nx i1006_181 rfl
theorem i1006_184 : mj_ins 1006 184 = some (.iload 3, 185) := by decide +kernel
theorem e1006_184 {ls : mj_L} {st : List Value} {σ : mj_S} {τ : mj_T} {a0 a1 a2 : Option Value} {v : Int32} : mj_E 1006 184 (a0 :: a1 :: a2 :: some (.int v) :: ls) st σ τ = mj_E 1006 185 (a0 :: a1 :: a2 :: some (.int v) :: ls) (.int v :: st) σ τ := mj_nx i1006_184 rfl
theorem i1006_185 : mj_ins 1006 185 = some (.aload 0, 186) := by decide +kernel
theorem e1006_185 {ls : mj_L} {st : List Value} {σ : mj_S} {τ : mj_T} {v : Nat} : mj_E 1006 185 (some (.ref v) :: ls) st σ τ = mj_E 1006 186 (some (.ref v) :: ls) (.ref v :: st) σ τ := mj_nx i1006_185 rfl
theorem i1006_186 : mj_ins 1006 186 = some (.getfield 504, 189) := by decide +kernel
theorem e1006_186 {ls : mj_L} {st : List Value} {σ : mj_S} {τ : mj_T} : mj_E 1006 186 ls (.ref 59 :: st) σ τ = mj_E 1006 189 ls (.int (σ 59 4) :: st) σ τ := mj_nx i1006_186 rfl
theorem i1006_189 : mj_ins 1006 189 = some (.isub, 190) := by decide +kernel
theorem e1006_189 {ls : mj_L} {st : List Value} {σ : mj_S} {τ : mj_T} {x y : Int32} : mj_E 1006 189 ls (.int y :: .int x :: st) σ τ = mj_E 1006 190 ls (.int (x - y) :: st) σ τ := mj_nx i1006_189 rfl
theorem i1006_190 : mj_ins 1006 190 = some (.iload 8, 192) := by decide +kernel
theorem e1006_190 {ls : mj_L} {st : List Value} {σ : mj_S} {τ : mj_T} {a0 a1 a2 a3 a4 a5 a6 a7 : Option Value} {v : Int32} : mj_E 1006 190 (a0 :: a1 :: a2 :: a3 :: a4 :: a5 :: a6 :: a7 :: some (.int v) :: ls) st σ τ = mj_E 1006 192 (a0 :: a1 :: a2 :: a3 :: a4 :: a5 :: a6 :: a7 :: some (.int v) :: ls) (.int v :: st) σ τ := mj_nx i1006_190 rfl
theorem i1006_192 : mj_ins 1006 192 = some (.invokestatic 1007, 195) := by decide +kernel
theorem e1006_192 {ls : mj_L} {σ : mj_S} {τ : mj_T} {x0 : Nat} {x1 : Int32} {x2 : Int32} {x3 : Int32} {x4 : Int32} {w0 : Value} : mj_E 1006 192 ls [.int x4, .int x3, .int x2, .int x1, .ref x0, w0] σ τ = mj_bd (mj_C 1007 [.ref x0, .int x1, .int x2, .int x3, .int x4] σ τ) (mj_K 1006 195 ls [w0]) := mj_clS (as := [.ref x0, .int x1, .int x2, .int x3, .int x4]) (r := [w0]) i1006_192 (by decide +kernel : mj_vk 1006 1007 5 1 5 false = true) rfl
theorem i1006_195 : mj_ins 1006 195 = some (.ixor, 196) := by decide +kernel
theorem e1006_195 {ls : mj_L} {st : List Value} {σ : mj_S} {τ : mj_T} {x y : Int32} : mj_E 1006 195 ls (.int y :: .int x :: st) σ τ = mj_E 1006 196 ls (.int (x ^^^ y) :: st) σ τ := mj_nx i1006_195 rfl
theorem i1006_196 : mj_ins 1006 196 = some (.ireturn, 197) := by decide +kernel
theorem e1006_196 {ls : mj_L} {σ : mj_S} {τ : mj_T} {v : Int32} : mj_E 1006 196 ls [.int v] σ τ = some (some (.int v), σ, τ) := mj_irt i1006_196 rfl
theorem i1006_197 : mj_ins 1006 197 = some (.aload 0, 198) := by decide +kernel
theorem e1006_197 {ls : mj_L} {st : List Value} {σ : mj_S} {τ : mj_T} {v : Nat} : mj_E 1006 197 (some (.ref v) :: ls) st σ τ = mj_E 1006 198 (some (.ref v) :: ls) (.ref v :: st) σ τ := mj_nx i1006_197 rfl
theorem i1006_198 : mj_ins 1006 198 = some (.iconst (0), 199) := by decide +kernel
theorem e1006_198 {ls : mj_L} {st : List Value} {σ : mj_S} {τ : mj_T} : mj_E 1006 198 ls st σ τ = mj_E 1006 199 ls (.int (nI 0) :: st) σ τ := mj_nx i1006_198 rfl
theorem i1006_199 : mj_ins 1006 199 = some (.iload 7, 201) := by decide +kernel
theorem e1006_199 {ls : mj_L} {st : List Value} {σ : mj_S} {τ : mj_T} {a0 a1 a2 a3 a4 a5 a6 : Option Value} {v : Int32} : mj_E 1006 199 (a0 :: a1 :: a2 :: a3 :: a4 :: a5 :: a6 :: some (.int v) :: ls) st σ τ = mj_E 1006 201 (a0 :: a1 :: a2 :: a3 :: a4 :: a5 :: a6 :: some (.int v) :: ls) (.int v :: st) σ τ := mj_nx i1006_199 rfl
theorem i1006_201 : mj_ins 1006 201 = some (.iload 3, 202) := by decide +kernel
theorem e1006_201 {ls : mj_L} {st : List Value} {σ : mj_S} {τ : mj_T} {a0 a1 a2 : Option Value} {v : Int32} : mj_E 1006 201 (a0 :: a1 :: a2 :: some (.int v) :: ls) st σ τ = mj_E 1006 202 (a0 :: a1 :: a2 :: some (.int v) :: ls) (.int v :: st) σ τ := mj_nx i1006_201 rfl
theorem i1006_202 : mj_ins 1006 202 = some (.iload 8, 204) := by decide +kernel
theorem e1006_202 {ls : mj_L} {st : List Value} {σ : mj_S} {τ : mj_T} {a0 a1 a2 a3 a4 a5 a6 a7 : Option Value} {v : Int32} : mj_E 1006 202 (a0 :: a1 :: a2 :: a3 :: a4 :: a5 :: a6 :: a7 :: some (.int v) :: ls) st σ τ = mj_E 1006 204 (a0 :: a1 :: a2 :: a3 :: a4 :: a5 :: a6 :: a7 :: some (.int v) :: ls) (.int v :: st) σ τ := mj_nx i1006_202 rfl
theorem i1006_204 : mj_ins 1006 204 = some (.invokestatic 1007, 207) := by decide +kernel
theorem e1006_204 {ls : mj_L} {σ : mj_S} {τ : mj_T} {x0 : Nat} {x1 : Int32} {x2 : Int32} {x3 : Int32} {x4 : Int32} : mj_E 1006 204 ls [.int x4, .int x3, .int x2, .int x1, .ref x0] σ τ = mj_bd (mj_C 1007 [.ref x0, .int x1, .int x2, .int x3, .int x4] σ τ) (mj_K 1006 207 ls []) := mj_clS (as := [.ref x0, .int x1, .int x2, .int x3, .int x4]) (r := []) i1006_204 (by decide +kernel : mj_vk 1006 1007 5 0 5 false = true) rfl
theorem i1006_207 : mj_ins 1006 207 = some (.aload 0, 208) := by decide +kernel
theorem e1006_207 {ls : mj_L} {st : List Value} {σ : mj_S} {τ : mj_T} {v : Nat} : mj_E 1006 207 (some (.ref v) :: ls) st σ τ = mj_E 1006 208 (some (.ref v) :: ls) (.ref v :: st) σ τ := mj_nx i1006_207 rfl
theorem i1006_208 : mj_ins 1006 208 = some (.getfield 504, 211) := by decide +kernel
theorem e1006_208 {ls : mj_L} {st : List Value} {σ : mj_S} {τ : mj_T} : mj_E 1006 208 ls (.ref 59 :: st) σ τ = mj_E 1006 211 ls (.int (σ 59 4) :: st) σ τ := mj_nx i1006_208 rfl
theorem i1006_211 : mj_ins 1006 211 = some (.iadd, 212) := by decide +kernel
theorem e1006_211 {ls : mj_L} {st : List Value} {σ : mj_S} {τ : mj_T} {x y : Int32} : mj_E 1006 211 ls (.int y :: .int x :: st) σ τ = mj_E 1006 212 ls (.int (x + y) :: st) σ τ := mj_nx i1006_211 rfl
theorem i1006_212 : mj_ins 1006 212 = some (.ireturn, 213) := by decide +kernel
theorem e1006_212 {ls : mj_L} {σ : mj_S} {τ : mj_T} {v : Int32} : mj_E 1006 212 ls [.int v] σ τ = some (some (.int v), σ, τ) := mj_irt i1006_212 rfl
theorem i1006_213 : mj_ins 1006 213 = some (.aload 0, 214) := by decide +kernel
theorem e1006_213 {ls : mj_L} {st : List Value} {σ : mj_S} {τ : mj_T} {v : Nat} : mj_E 1006 213 (some (.ref v) :: ls) st σ τ = mj_E 1006 214 (some (.ref v) :: ls) (.ref v :: st) σ τ := mj_nx i1006_213 rfl
theorem i1006_214 : mj_ins 1006 214 = some (.iconst (1), 215) := by decide +kernel
theorem e1006_214 {ls : mj_L} {st : List Value} {σ : mj_S} {τ : mj_T} : mj_E 1006 214 ls st σ τ = mj_E 1006 215 ls (.int (nI 1) :: st) σ τ := mj_nx i1006_214 rfl
theorem i1006_215 : mj_ins 1006 215 = some (.iload 7, 217) := by decide +kernel
theorem e1006_215 {ls : mj_L} {st : List Value} {σ : mj_S} {τ : mj_T} {a0 a1 a2 a3 a4 a5 a6 : Option Value} {v : Int32} : mj_E 1006 215 (a0 :: a1 :: a2 :: a3 :: a4 :: a5 :: a6 :: some (.int v) :: ls) st σ τ = mj_E 1006 217 (a0 :: a1 :: a2 :: a3 :: a4 :: a5 :: a6 :: some (.int v) :: ls) (.int v :: st) σ τ := mj_nx i1006_215 rfl
theorem i1006_217 : mj_ins 1006 217 = some (.iload 3, 218) := by decide +kernel
theorem e1006_217 {ls : mj_L} {st : List Value} {σ : mj_S} {τ : mj_T} {a0 a1 a2 : Option Value} {v : Int32} : mj_E 1006 217 (a0 :: a1 :: a2 :: some (.int v) :: ls) st σ τ = mj_E 1006 218 (a0 :: a1 :: a2 :: some (.int v) :: ls) (.int v :: st) σ τ := mj_nx i1006_217 rfl
theorem i1006_218 : mj_ins 1006 218 = some (.iload 8, 220) := by decide +kernel
theorem e1006_218 {ls : mj_L} {st : List Value} {σ : mj_S} {τ : mj_T} {a0 a1 a2 a3 a4 a5 a6 a7 : Option Value} {v : Int32} : mj_E 1006 218 (a0 :: a1 :: a2 :: a3 :: a4 :: a5 :: a6 :: a7 :: some (.int v) :: ls) st σ τ = mj_E 1006 220 (a0 :: a1 :: a2 :: a3 :: a4 :: a5 :: a6 :: a7 :: some (.int v) :: ls) (.int v :: st) σ τ := mj_nx i1006_218 rfl
theorem i1006_220 : mj_ins 1006 220 = some (.invokestatic 1007, 223) := by decide +kernel
theorem e1006_220 {ls : mj_L} {σ : mj_S} {τ : mj_T} {x0 : Nat} {x1 : Int32} {x2 : Int32} {x3 : Int32} {x4 : Int32} : mj_E 1006 220 ls [.int x4, .int x3, .int x2, .int x1, .ref x0] σ τ = mj_bd (mj_C 1007 [.ref x0, .int x1, .int x2, .int x3, .int x4] σ τ) (mj_K 1006 223 ls []) := mj_clS (as := [.ref x0, .int x1, .int x2, .int x3, .int x4]) (r := []) i1006_220 (by decide +kernel : mj_vk 1006 1007 5 0 5 false = true) rfl
theorem i1006_223 : mj_ins 1006 223 = some (.iconst (3), 224) := by decide +kernel
theorem e1006_223 {ls : mj_L} {st : List Value} {σ : mj_S} {τ : mj_T} : mj_E 1006 223 ls st σ τ = mj_E 1006 224 ls (.int (nI 3) :: st) σ τ := mj_nx i1006_223 rfl
theorem i1006_224 : mj_ins 1006 224 = some (.imul, 225) := by decide +kernel
theorem e1006_224 {ls : mj_L} {st : List Value} {σ : mj_S} {τ : mj_T} {x y : Int32} : mj_E 1006 224 ls (.int y :: .int x :: st) σ τ = mj_E 1006 225 ls (.int (x * y) :: st) σ τ := mj_nx i1006_224 rfl
theorem i1006_225 : mj_ins 1006 225 = some (.ireturn, 226) := by decide +kernel
theorem e1006_225 {ls : mj_L} {σ : mj_S} {τ : mj_T} {v : Int32} : mj_E 1006 225 ls [.int v] σ τ = some (some (.int v), σ, τ) := mj_irt i1006_225 rfl
theorem i1006_226 : mj_ins 1006 226 = some (.aload 0, 227) := by decide +kernel
theorem e1006_226 {ls : mj_L} {st : List Value} {σ : mj_S} {τ : mj_T} {v : Nat} : mj_E 1006 226 (some (.ref v) :: ls) st σ τ = mj_E 1006 227 (some (.ref v) :: ls) (.ref v :: st) σ τ := mj_nx i1006_226 rfl
theorem i1006_227 : mj_ins 1006 227 = some (.iconst (1), 228) := by decide +kernel
theorem e1006_227 {ls : mj_L} {st : List Value} {σ : mj_S} {τ : mj_T} : mj_E 1006 227 ls st σ τ = mj_E 1006 228 ls (.int (nI 1) :: st) σ τ := mj_nx i1006_227 rfl
theorem i1006_228 : mj_ins 1006 228 = some (.iload 7, 230) := by decide +kernel
theorem e1006_228 {ls : mj_L} {st : List Value} {σ : mj_S} {τ : mj_T} {a0 a1 a2 a3 a4 a5 a6 : Option Value} {v : Int32} : mj_E 1006 228 (a0 :: a1 :: a2 :: a3 :: a4 :: a5 :: a6 :: some (.int v) :: ls) st σ τ = mj_E 1006 230 (a0 :: a1 :: a2 :: a3 :: a4 :: a5 :: a6 :: some (.int v) :: ls) (.int v :: st) σ τ := mj_nx i1006_228 rfl
theorem i1006_230 : mj_ins 1006 230 = some (.iload 3, 231) := by decide +kernel
theorem e1006_230 {ls : mj_L} {st : List Value} {σ : mj_S} {τ : mj_T} {a0 a1 a2 : Option Value} {v : Int32} : mj_E 1006 230 (a0 :: a1 :: a2 :: some (.int v) :: ls) st σ τ = mj_E 1006 231 (a0 :: a1 :: a2 :: some (.int v) :: ls) (.int v :: st) σ τ := mj_nx i1006_230 rfl
theorem i1006_231 : mj_ins 1006 231 = some (.iconst (1), 232) := by decide +kernel
theorem e1006_231 {ls : mj_L} {st : List Value} {σ : mj_S} {τ : mj_T} : mj_E 1006 231 ls st σ τ = mj_E 1006 232 ls (.int (nI 1) :: st) σ τ := mj_nx i1006_231 rfl
theorem i1006_232 : mj_ins 1006 232 = some (.iadd, 233) := by decide +kernel
theorem e1006_232 {ls : mj_L} {st : List Value} {σ : mj_S} {τ : mj_T} {x y : Int32} : mj_E 1006 232 ls (.int y :: .int x :: st) σ τ = mj_E 1006 233 ls (.int (x + y) :: st) σ τ := mj_nx i1006_232 rfl
theorem i1006_233 : mj_ins 1006 233 = some (.iload 8, 235) := by decide +kernel
theorem e1006_233 {ls : mj_L} {st : List Value} {σ : mj_S} {τ : mj_T} {a0 a1 a2 a3 a4 a5 a6 a7 : Option Value} {v : Int32} : mj_E 1006 233 (a0 :: a1 :: a2 :: a3 :: a4 :: a5 :: a6 :: a7 :: some (.int v) :: ls) st σ τ = mj_E 1006 235 (a0 :: a1 :: a2 :: a3 :: a4 :: a5 :: a6 :: a7 :: some (.int v) :: ls) (.int v :: st) σ τ := mj_nx i1006_233 rfl
theorem i1006_235 : mj_ins 1006 235 = some (.invokestatic 1007, 238) := by decide +kernel
theorem e1006_235 {ls : mj_L} {σ : mj_S} {τ : mj_T} {x0 : Nat} {x1 : Int32} {x2 : Int32} {x3 : Int32} {x4 : Int32} : mj_E 1006 235 ls [.int x4, .int x3, .int x2, .int x1, .ref x0] σ τ = mj_bd (mj_C 1007 [.ref x0, .int x1, .int x2, .int x3, .int x4] σ τ) (mj_K 1006 238 ls []) := mj_clS (as := [.ref x0, .int x1, .int x2, .int x3, .int x4]) (r := []) i1006_235 (by decide +kernel : mj_vk 1006 1007 5 0 5 false = true) rfl
theorem i1006_238 : mj_ins 1006 238 = some (.ireturn, 239) := by decide +kernel
theorem e1006_238 {ls : mj_L} {σ : mj_S} {τ : mj_T} {v : Int32} : mj_E 1006 238 ls [.int v] σ τ = some (some (.int v), σ, τ) := mj_irt i1006_238 rfl
theorem i1006_239 : mj_ins 1006 239 = some (.aload 0, 240) := by decide +kernel
theorem e1006_239 {ls : mj_L} {st : List Value} {σ : mj_S} {τ : mj_T} {v : Nat} : mj_E 1006 239 (some (.ref v) :: ls) st σ τ = mj_E 1006 240 (some (.ref v) :: ls) (.ref v :: st) σ τ := mj_nx i1006_239 rfl
theorem i1006_240 : mj_ins 1006 240 = some (.iconst (2), 241) := by decide +kernel
theorem e1006_240 {ls : mj_L} {st : List Value} {σ : mj_S} {τ : mj_T} : mj_E 1006 240 ls st σ τ = mj_E 1006 241 ls (.int (nI 2) :: st) σ τ := mj_nx i1006_240 rfl
theorem i1006_241 : mj_ins 1006 241 = some (.iload 7, 243) := by decide +kernel
theorem e1006_241 {ls : mj_L} {st : List Value} {σ : mj_S} {τ : mj_T} {a0 a1 a2 a3 a4 a5 a6 : Option Value} {v : Int32} : mj_E 1006 241 (a0 :: a1 :: a2 :: a3 :: a4 :: a5 :: a6 :: some (.int v) :: ls) st σ τ = mj_E 1006 243 (a0 :: a1 :: a2 :: a3 :: a4 :: a5 :: a6 :: some (.int v) :: ls) (.int v :: st) σ τ := mj_nx i1006_241 rfl
theorem i1006_243 : mj_ins 1006 243 = some (.iload 3, 244) := by decide +kernel
theorem e1006_243 {ls : mj_L} {st : List Value} {σ : mj_S} {τ : mj_T} {a0 a1 a2 : Option Value} {v : Int32} : mj_E 1006 243 (a0 :: a1 :: a2 :: some (.int v) :: ls) st σ τ = mj_E 1006 244 (a0 :: a1 :: a2 :: some (.int v) :: ls) (.int v :: st) σ τ := mj_nx i1006_243 rfl
theorem i1006_244 : mj_ins 1006 244 = some (.iload 8, 246) := by decide +kernel
theorem e1006_244 {ls : mj_L} {st : List Value} {σ : mj_S} {τ : mj_T} {a0 a1 a2 a3 a4 a5 a6 a7 : Option Value} {v : Int32} : mj_E 1006 244 (a0 :: a1 :: a2 :: a3 :: a4 :: a5 :: a6 :: a7 :: some (.int v) :: ls) st σ τ = mj_E 1006 246 (a0 :: a1 :: a2 :: a3 :: a4 :: a5 :: a6 :: a7 :: some (.int v) :: ls) (.int v :: st) σ τ := mj_nx i1006_244 rfl
theorem i1006_246 : mj_ins 1006 246 = some (.invokestatic 1007, 249) := by decide +kernel
theorem e1006_246 {ls : mj_L} {σ : mj_S} {τ : mj_T} {x0 : Nat} {x1 : Int32} {x2 : Int32} {x3 : Int32} {x4 : Int32} : mj_E 1006 246 ls [.int x4, .int x3, .int x2, .int x1, .ref x0] σ τ = mj_bd (mj_C 1007 [.ref x0, .int x1, .int x2, .int x3, .int x4] σ τ) (mj_K 1006 249 ls []) := mj_clS (as := [.ref x0, .int x1, .int x2, .int x3, .int x4]) (r := []) i1006_246 (by decide +kernel : mj_vk 1006 1007 5 0 5 false = true) rfl
theorem i1006_249 : mj_ins 1006 249 = some (.ineg, 250) := by decide +kernel
theorem e1006_249 {ls : mj_L} {st : List Value} {σ : mj_S} {τ : mj_T} {x : Int32} : mj_E 1006 249 ls (.int x :: st) σ τ = mj_E 1006 250 ls (.int (-x) :: st) σ τ := mj_nx i1006_249 rfl
theorem i1006_250 : mj_ins 1006 250 = some (.ireturn, 251) := by decide +kernel
theorem e1006_250 {ls : mj_L} {σ : mj_S} {τ : mj_T} {v : Int32} : mj_E 1006 250 ls [.int v] σ τ = some (some (.int v), σ, τ) := mj_irt i1006_250 rfl
theorem i1006_251 : mj_ins 1006 251 = some (.aload 0, 252) := by decide +kernel
theorem e1006_251 {ls : mj_L} {st : List Value} {σ : mj_S} {τ : mj_T} {v : Nat} : mj_E 1006 251 (some (.ref v) :: ls) st σ τ = mj_E 1006 252 (some (.ref v) :: ls) (.ref v :: st) σ τ := mj_nx i1006_251 rfl
theorem i1006_252 : mj_ins 1006 252 = some (.iconst (0), 253) := by decide +kernel
theorem e1006_252 {ls : mj_L} {st : List Value} {σ : mj_S} {τ : mj_T} : mj_E 1006 252 ls st σ τ = mj_E 1006 253 ls (.int (nI 0) :: st) σ τ := mj_nx i1006_252 rfl
theorem i1006_253 : mj_ins 1006 253 = some (.iload 7, 255) := by decide +kernel
theorem e1006_253 {ls : mj_L} {st : List Value} {σ : mj_S} {τ : mj_T} {a0 a1 a2 a3 a4 a5 a6 : Option Value} {v : Int32} : mj_E 1006 253 (a0 :: a1 :: a2 :: a3 :: a4 :: a5 :: a6 :: some (.int v) :: ls) st σ τ = mj_E 1006 255 (a0 :: a1 :: a2 :: a3 :: a4 :: a5 :: a6 :: some (.int v) :: ls) (.int v :: st) σ τ := mj_nx i1006_253 rfl
theorem i1006_255 : mj_ins 1006 255 = some (.iload 3, 256) := by decide +kernel
theorem e1006_255 {ls : mj_L} {st : List Value} {σ : mj_S} {τ : mj_T} {a0 a1 a2 : Option Value} {v : Int32} : mj_E 1006 255 (a0 :: a1 :: a2 :: some (.int v) :: ls) st σ τ = mj_E 1006 256 (a0 :: a1 :: a2 :: some (.int v) :: ls) (.int v :: st) σ τ := mj_nx i1006_255 rfl
theorem i1006_256 : mj_ins 1006 256 = some (.iload 8, 258) := by decide +kernel
theorem e1006_256 {ls : mj_L} {st : List Value} {σ : mj_S} {τ : mj_T} {a0 a1 a2 a3 a4 a5 a6 a7 : Option Value} {v : Int32} : mj_E 1006 256 (a0 :: a1 :: a2 :: a3 :: a4 :: a5 :: a6 :: a7 :: some (.int v) :: ls) st σ τ = mj_E 1006 258 (a0 :: a1 :: a2 :: a3 :: a4 :: a5 :: a6 :: a7 :: some (.int v) :: ls) (.int v :: st) σ τ := mj_nx i1006_256 rfl
theorem i1006_258 : mj_ins 1006 258 = some (.invokestatic 1007, 261) := by decide +kernel
theorem e1006_258 {ls : mj_L} {σ : mj_S} {τ : mj_T} {x0 : Nat} {x1 : Int32} {x2 : Int32} {x3 : Int32} {x4 : Int32} : mj_E 1006 258 ls [.int x4, .int x3, .int x2, .int x1, .ref x0] σ τ = mj_bd (mj_C 1007 [.ref x0, .int x1, .int x2, .int x3, .int x4] σ τ) (mj_K 1006 261 ls []) := mj_clS (as := [.ref x0, .int x1, .int x2, .int x3, .int x4]) (r := []) i1006_258 (by decide +kernel : mj_vk 1006 1007 5 0 5 false = true) rfl
theorem i1006_261 : mj_ins 1006 261 = some (.aload 0, 262) := by decide +kernel
theorem e1006_261 {ls : mj_L} {st : List Value} {σ : mj_S} {τ : mj_T} {v : Nat} : mj_E 1006 261 (some (.ref v) :: ls) st σ τ = mj_E 1006 262 (some (.ref v) :: ls) (.ref v :: st) σ τ := mj_nx i1006_261 rfl
theorem i1006_262 : mj_ins 1006 262 = some (.getfield 503, 265) := by decide +kernel
theorem e1006_262 {ls : mj_L} {st : List Value} {σ : mj_S} {τ : mj_T} : mj_E 1006 262 ls (.ref 59 :: st) σ τ = mj_E 1006 265 ls (.int (σ 59 3) :: st) σ τ := mj_nx i1006_262 rfl
theorem i1006_265 : mj_ins 1006 265 = some (.isub, 266) := by decide +kernel
theorem e1006_265 {ls : mj_L} {st : List Value} {σ : mj_S} {τ : mj_T} {x y : Int32} : mj_E 1006 265 ls (.int y :: .int x :: st) σ τ = mj_E 1006 266 ls (.int (x - y) :: st) σ τ := mj_nx i1006_265 rfl
theorem i1006_266 : mj_ins 1006 266 = some (.ireturn, 267) := by decide +kernel
theorem e1006_266 {ls : mj_L} {σ : mj_S} {τ : mj_T} {v : Int32} : mj_E 1006 266 ls [.int v] σ τ = some (some (.int v), σ, τ) := mj_irt i1006_266 rfl
theorem i1006_267 : mj_ins 1006 267 = some (.aload 0, 268) := by decide +kernel
theorem e1006_267 {ls : mj_L} {st : List Value} {σ : mj_S} {τ : mj_T} {v : Nat} : mj_E 1006 267 (some (.ref v) :: ls) st σ τ = mj_E 1006 268 (some (.ref v) :: ls) (.ref v :: st) σ τ := mj_nx i1006_267 rfl
theorem i1006_268 : mj_ins 1006 268 = some (.iconst (2), 269) := by decide +kernel
theorem e1006_268 {ls : mj_L} {st : List Value} {σ : mj_S} {τ : mj_T} : mj_E 1006 268 ls st σ τ = mj_E 1006 269 ls (.int (nI 2) :: st) σ τ := mj_nx i1006_268 rfl
theorem i1006_269 : mj_ins 1006 269 = some (.iload 7, 271) := by decide +kernel
theorem e1006_269 {ls : mj_L} {st : List Value} {σ : mj_S} {τ : mj_T} {a0 a1 a2 a3 a4 a5 a6 : Option Value} {v : Int32} : mj_E 1006 269 (a0 :: a1 :: a2 :: a3 :: a4 :: a5 :: a6 :: some (.int v) :: ls) st σ τ = mj_E 1006 271 (a0 :: a1 :: a2 :: a3 :: a4 :: a5 :: a6 :: some (.int v) :: ls) (.int v :: st) σ τ := mj_nx i1006_269 rfl
theorem i1006_271 : mj_ins 1006 271 = some (.iload 3, 272) := by decide +kernel
theorem e1006_271 {ls : mj_L} {st : List Value} {σ : mj_S} {τ : mj_T} {a0 a1 a2 : Option Value} {v : Int32} : mj_E 1006 271 (a0 :: a1 :: a2 :: some (.int v) :: ls) st σ τ = mj_E 1006 272 (a0 :: a1 :: a2 :: some (.int v) :: ls) (.int v :: st) σ τ := mj_nx i1006_271 rfl
theorem i1006_272 : mj_ins 1006 272 = some (.iload 8, 274) := by decide +kernel
theorem e1006_272 {ls : mj_L} {st : List Value} {σ : mj_S} {τ : mj_T} {a0 a1 a2 a3 a4 a5 a6 a7 : Option Value} {v : Int32} : mj_E 1006 272 (a0 :: a1 :: a2 :: a3 :: a4 :: a5 :: a6 :: a7 :: some (.int v) :: ls) st σ τ = mj_E 1006 274 (a0 :: a1 :: a2 :: a3 :: a4 :: a5 :: a6 :: a7 :: some (.int v) :: ls) (.int v :: st) σ τ := mj_nx i1006_272 rfl
theorem i1006_274 : mj_ins 1006 274 = some (.invokestatic 1007, 277) := by decide +kernel
theorem e1006_274 {ls : mj_L} {σ : mj_S} {τ : mj_T} {x0 : Nat} {x1 : Int32} {x2 : Int32} {x3 : Int32} {x4 : Int32} : mj_E 1006 274 ls [.int x4, .int x3, .int x2, .int x1, .ref x0] σ τ = mj_bd (mj_C 1007 [.ref x0, .int x1, .int x2, .int x3, .int x4] σ τ) (mj_K 1006 277 ls []) := mj_clS (as := [.ref x0, .int x1, .int x2, .int x3, .int x4]) (r := []) i1006_274 (by decide +kernel : mj_vk 1006 1007 5 0 5 false = true) rfl
theorem i1006_277 : mj_ins 1006 277 = some (.iconst (5), 278) := by decide +kernel
theorem e1006_277 {ls : mj_L} {st : List Value} {σ : mj_S} {τ : mj_T} : mj_E 1006 277 ls st σ τ = mj_E 1006 278 ls (.int (nI 5) :: st) σ τ := mj_nx i1006_277 rfl
theorem i1006_278 : mj_ins 1006 278 = some (.ixor, 279) := by decide +kernel
theorem e1006_278 {ls : mj_L} {st : List Value} {σ : mj_S} {τ : mj_T} {x y : Int32} : mj_E 1006 278 ls (.int y :: .int x :: st) σ τ = mj_E 1006 279 ls (.int (x ^^^ y) :: st) σ τ := mj_nx i1006_278 rfl
theorem i1006_279 : mj_ins 1006 279 = some (.ireturn, 280) := by decide +kernel
theorem e1006_279 {ls : mj_L} {σ : mj_S} {τ : mj_T} {v : Int32} : mj_E 1006 279 ls [.int v] σ τ = some (some (.int v), σ, τ) := mj_irt i1006_279 rfl
theorem i1006_280 : mj_ins 1006 280 = some (.aload 0, 281) := by decide +kernel
theorem e1006_280 {ls : mj_L} {st : List Value} {σ : mj_S} {τ : mj_T} {v : Nat} : mj_E 1006 280 (some (.ref v) :: ls) st σ τ = mj_E 1006 281 (some (.ref v) :: ls) (.ref v :: st) σ τ := mj_nx i1006_280 rfl
theorem i1006_281 : mj_ins 1006 281 = some (.iconst (0), 282) := by decide +kernel
theorem e1006_281 {ls : mj_L} {st : List Value} {σ : mj_S} {τ : mj_T} : mj_E 1006 281 ls st σ τ = mj_E 1006 282 ls (.int (nI 0) :: st) σ τ := mj_nx i1006_281 rfl
theorem i1006_282 : mj_ins 1006 282 = some (.iload 7, 284) := by decide +kernel
theorem e1006_282 {ls : mj_L} {st : List Value} {σ : mj_S} {τ : mj_T} {a0 a1 a2 a3 a4 a5 a6 : Option Value} {v : Int32} : mj_E 1006 282 (a0 :: a1 :: a2 :: a3 :: a4 :: a5 :: a6 :: some (.int v) :: ls) st σ τ = mj_E 1006 284 (a0 :: a1 :: a2 :: a3 :: a4 :: a5 :: a6 :: some (.int v) :: ls) (.int v :: st) σ τ := mj_nx i1006_282 rfl
theorem i1006_284 : mj_ins 1006 284 = some (.iload 3, 285) := by decide +kernel
theorem e1006_284 {ls : mj_L} {st : List Value} {σ : mj_S} {τ : mj_T} {a0 a1 a2 : Option Value} {v : Int32} : mj_E 1006 284 (a0 :: a1 :: a2 :: some (.int v) :: ls) st σ τ = mj_E 1006 285 (a0 :: a1 :: a2 :: some (.int v) :: ls) (.int v :: st) σ τ := mj_nx i1006_284 rfl
theorem i1006_285 : mj_ins 1006 285 = some (.iload 8, 287) := by decide +kernel
theorem e1006_285 {ls : mj_L} {st : List Value} {σ : mj_S} {τ : mj_T} {a0 a1 a2 a3 a4 a5 a6 a7 : Option Value} {v : Int32} : mj_E 1006 285 (a0 :: a1 :: a2 :: a3 :: a4 :: a5 :: a6 :: a7 :: some (.int v) :: ls) st σ τ = mj_E 1006 287 (a0 :: a1 :: a2 :: a3 :: a4 :: a5 :: a6 :: a7 :: some (.int v) :: ls) (.int v :: st) σ τ := mj_nx i1006_285 rfl
theorem i1006_287 : mj_ins 1006 287 = some (.invokestatic 1007, 290) := by decide +kernel
theorem e1006_287 {ls : mj_L} {σ : mj_S} {τ : mj_T} {x0 : Nat} {x1 : Int32} {x2 : Int32} {x3 : Int32} {x4 : Int32} : mj_E 1006 287 ls [.int x4, .int x3, .int x2, .int x1, .ref x0] σ τ = mj_bd (mj_C 1007 [.ref x0, .int x1, .int x2, .int x3, .int x4] σ τ) (mj_K 1006 290 ls []) := mj_clS (as := [.ref x0, .int x1, .int x2, .int x3, .int x4]) (r := []) i1006_287 (by decide +kernel : mj_vk 1006 1007 5 0 5 false = true) rfl
theorem i1006_290 : mj_ins 1006 290 = some (.iconst (2), 291) := by decide +kernel
theorem e1006_290 {ls : mj_L} {st : List Value} {σ : mj_S} {τ : mj_T} : mj_E 1006 290 ls st σ τ = mj_E 1006 291 ls (.int (nI 2) :: st) σ τ := mj_nx i1006_290 rfl
theorem i1006_291 : mj_ins 1006 291 = some (.imul, 292) := by decide +kernel
theorem e1006_291 {ls : mj_L} {st : List Value} {σ : mj_S} {τ : mj_T} {x y : Int32} : mj_E 1006 291 ls (.int y :: .int x :: st) σ τ = mj_E 1006 292 ls (.int (x * y) :: st) σ τ := mj_nx i1006_291 rfl
theorem i1006_292 : mj_ins 1006 292 = some (.ireturn, 293) := by decide +kernel
theorem e1006_292 {ls : mj_L} {σ : mj_S} {τ : mj_T} {v : Int32} : mj_E 1006 292 ls [.int v] σ τ = some (some (.int v), σ, τ) := mj_irt i1006_292 rfl
theorem i1006_293 : mj_ins 1006 293 = some (.aload 0, 294) := by decide +kernel
theorem e1006_293 {ls : mj_L} {st : List Value} {σ : mj_S} {τ : mj_T} {v : Nat} : mj_E 1006 293 (some (.ref v) :: ls) st σ τ = mj_E 1006 294 (some (.ref v) :: ls) (.ref v :: st) σ τ := mj_nx i1006_293 rfl
theorem i1006_294 : mj_ins 1006 294 = some (.iconst (1), 295) := by decide +kernel
theorem e1006_294 {ls : mj_L} {st : List Value} {σ : mj_S} {τ : mj_T} : mj_E 1006 294 ls st σ τ = mj_E 1006 295 ls (.int (nI 1) :: st) σ τ := mj_nx i1006_294 rfl
theorem i1006_295 : mj_ins 1006 295 = some (.iload 7, 297) := by decide +kernel
theorem e1006_295 {ls : mj_L} {st : List Value} {σ : mj_S} {τ : mj_T} {a0 a1 a2 a3 a4 a5 a6 : Option Value} {v : Int32} : mj_E 1006 295 (a0 :: a1 :: a2 :: a3 :: a4 :: a5 :: a6 :: some (.int v) :: ls) st σ τ = mj_E 1006 297 (a0 :: a1 :: a2 :: a3 :: a4 :: a5 :: a6 :: some (.int v) :: ls) (.int v :: st) σ τ := mj_nx i1006_295 rfl
theorem i1006_297 : mj_ins 1006 297 = some (.iload 3, 298) := by decide +kernel
theorem e1006_297 {ls : mj_L} {st : List Value} {σ : mj_S} {τ : mj_T} {a0 a1 a2 : Option Value} {v : Int32} : mj_E 1006 297 (a0 :: a1 :: a2 :: some (.int v) :: ls) st σ τ = mj_E 1006 298 (a0 :: a1 :: a2 :: some (.int v) :: ls) (.int v :: st) σ τ := mj_nx i1006_297 rfl
theorem i1006_298 : mj_ins 1006 298 = some (.aload 0, 299) := by decide +kernel
theorem e1006_298 {ls : mj_L} {st : List Value} {σ : mj_S} {τ : mj_T} {v : Nat} : mj_E 1006 298 (some (.ref v) :: ls) st σ τ = mj_E 1006 299 (some (.ref v) :: ls) (.ref v :: st) σ τ := mj_nx i1006_298 rfl
theorem i1006_299 : mj_ins 1006 299 = some (.getfield 504, 302) := by decide +kernel
theorem e1006_299 {ls : mj_L} {st : List Value} {σ : mj_S} {τ : mj_T} : mj_E 1006 299 ls (.ref 59 :: st) σ τ = mj_E 1006 302 ls (.int (σ 59 4) :: st) σ τ := mj_nx i1006_299 rfl
theorem i1006_302 : mj_ins 1006 302 = some (.isub, 303) := by decide +kernel
theorem e1006_302 {ls : mj_L} {st : List Value} {σ : mj_S} {τ : mj_T} {x y : Int32} : mj_E 1006 302 ls (.int y :: .int x :: st) σ τ = mj_E 1006 303 ls (.int (x - y) :: st) σ τ := mj_nx i1006_302 rfl
theorem i1006_303 : mj_ins 1006 303 = some (.iload 8, 305) := by decide +kernel
theorem e1006_303 {ls : mj_L} {st : List Value} {σ : mj_S} {τ : mj_T} {a0 a1 a2 a3 a4 a5 a6 a7 : Option Value} {v : Int32} : mj_E 1006 303 (a0 :: a1 :: a2 :: a3 :: a4 :: a5 :: a6 :: a7 :: some (.int v) :: ls) st σ τ = mj_E 1006 305 (a0 :: a1 :: a2 :: a3 :: a4 :: a5 :: a6 :: a7 :: some (.int v) :: ls) (.int v :: st) σ τ := mj_nx i1006_303 rfl
theorem i1006_305 : mj_ins 1006 305 = some (.invokestatic 1007, 308) := by decide +kernel
theorem e1006_305 {ls : mj_L} {σ : mj_S} {τ : mj_T} {x0 : Nat} {x1 : Int32} {x2 : Int32} {x3 : Int32} {x4 : Int32} : mj_E 1006 305 ls [.int x4, .int x3, .int x2, .int x1, .ref x0] σ τ = mj_bd (mj_C 1007 [.ref x0, .int x1, .int x2, .int x3, .int x4] σ τ) (mj_K 1006 308 ls []) := mj_clS (as := [.ref x0, .int x1, .int x2, .int x3, .int x4]) (r := []) i1006_305 (by decide +kernel : mj_vk 1006 1007 5 0 5 false = true) rfl
theorem i1006_308 : mj_ins 1006 308 = some (.ireturn, 309) := by decide +kernel
theorem e1006_308 {ls : mj_L} {σ : mj_S} {τ : mj_T} {v : Int32} : mj_E 1006 308 ls [.int v] σ τ = some (some (.int v), σ, τ) := mj_irt i1006_308 rfl
theorem c71 {σ : mj_S} {τ : mj_T} {x0 : Int32} {x1 : Int32} : mj_C 71 [.int x0, .int x1] σ τ = mj_E 71 0 [some (.int x0), some (.int x1), none, none] [] σ τ := rfl
theorem i71_0 : mj_ins 71 0 = some (.iload 1, 1) := by decide +kernel
theorem e71_0 {ls : mj_L} {st : List Value} {σ : mj_S} {τ : mj_T} {a0 : Option Value} {v : Int32} : mj_E 71 0 (a0 :: some (.int v) :: ls) st σ τ = mj_E 71 1 (a0 :: some (.int v) :: ls) (.int v :: st) σ τ := mj_nx i71_0 rfl
theorem i71_1 : mj_ins 71 1 = some (.istore 2, 2) := by decide +kernel
theorem e71_1 {ls : mj_L} {st : List Value} {σ : mj_S} {τ : mj_T} {a0 a1 a2 : Option Value} {v : Int32} : mj_E 71 1 (a0 :: a1 :: a2 :: ls) (.int v :: st) σ τ = mj_E 71 2 (a0 :: a1 :: some (.int v) :: ls) st σ τ := mj_nx i71_1 rfl
theorem i71_2 : mj_ins 71 2 = some (.iconst (0), 3) := by decide +kernel
theorem e71_2 {ls : mj_L} {st : List Value} {σ : mj_S} {τ : mj_T} : mj_E 71 2 ls st σ τ = mj_E 71 3 ls (.int (nI 0) :: st) σ τ := mj_nx i71_2 rfl
theorem i71_3 : mj_ins 71 3 = some (.istore 3, 4) := by decide +kernel
theorem e71_3 {ls : mj_L} {st : List Value} {σ : mj_S} {τ : mj_T} {a0 a1 a2 a3 : Option Value} {v : Int32} : mj_E 71 3 (a0 :: a1 :: a2 :: a3 :: ls) (.int v :: st) σ τ = mj_E 71 4 (a0 :: a1 :: a2 :: some (.int v) :: ls) st σ τ := mj_nx i71_3 rfl
theorem i71_4 : mj_ins 71 4 = some (.iload 3, 5) := by decide +kernel
theorem e71_4 {ls : mj_L} {st : List Value} {σ : mj_S} {τ : mj_T} {a0 a1 a2 : Option Value} {v : Int32} : mj_E 71 4 (a0 :: a1 :: a2 :: some (.int v) :: ls) st σ τ = mj_E 71 5 (a0 :: a1 :: a2 :: some (.int v) :: ls) (.int v :: st) σ τ := mj_nx i71_4 rfl
theorem i71_5 : mj_ins 71 5 = some (.iconst (6), 7) := by decide +kernel
theorem e71_5 {ls : mj_L} {st : List Value} {σ : mj_S} {τ : mj_T} : mj_E 71 5 ls st σ τ = mj_E 71 7 ls (.int (nI 6) :: st) σ τ := mj_nx i71_5 rfl
theorem i71_7 : mj_ins 71 7 = some (.if_icmp .ge 40, 10) := by decide +kernel
theorem e71_7 {ls : mj_L} {st : List Value} {σ : mj_S} {τ : mj_T} {x y : Int32} : mj_E 71 7 ls (.int y :: .int x :: st) σ τ = if y ≤ x then mj_E 71 40 ls st σ τ else mj_E 71 10 ls st σ τ := (mj_ifi i71_7).trans (mj_cdT rfl)
theorem i71_10 : mj_ins 71 10 = some (.iload 2, 11) := by decide +kernel
theorem e71_10 {ls : mj_L} {st : List Value} {σ : mj_S} {τ : mj_T} {a0 a1 : Option Value} {v : Int32} : mj_E 71 10 (a0 :: a1 :: some (.int v) :: ls) st σ τ = mj_E 71 11 (a0 :: a1 :: some (.int v) :: ls) (.int v :: st) σ τ := mj_nx i71_10 rfl
theorem i71_11 : mj_ins 71 11 = some (.iconst (-1), 12) := by decide +kernel
theorem e71_11 {ls : mj_L} {st : List Value} {σ : mj_S} {τ : mj_T} : mj_E 71 11 ls st σ τ = mj_E 71 12 ls (.int ((-1)) :: st) σ τ := mj_nx i71_11 rfl
theorem i71_12 : mj_ins 71 12 = some (.if_icmp .eq 40, 15) := by decide +kernel
theorem e71_12 {ls : mj_L} {st : List Value} {σ : mj_S} {τ : mj_T} {x y : Int32} : mj_E 71 12 ls (.int y :: .int x :: st) σ τ = if x = y then mj_E 71 40 ls st σ τ else mj_E 71 15 ls st σ τ := (mj_ifi i71_12).trans (mj_cdT rfl)
theorem i71_15 : mj_ins 71 15 = some (.getstatic 91, 18) := by decide +kernel
theorem e71_15 {ls : mj_L} {st : List Value} {σ : mj_S} {τ : mj_T} : mj_E 71 15 ls st σ τ = mj_E 71 18 ls (.ref 91 :: st) σ τ := mj_nx i71_15 rfl
theorem i71_18 : mj_ins 71 18 = some (.iconst (3), 19) := by decide +kernel
theorem e71_18 {ls : mj_L} {st : List Value} {σ : mj_S} {τ : mj_T} : mj_E 71 18 ls st σ τ = mj_E 71 19 ls (.int (nI 3) :: st) σ τ := mj_nx i71_18 rfl
theorem i71_19 : mj_ins 71 19 = some (.iload 2, 20) := by decide +kernel
theorem e71_19 {ls : mj_L} {st : List Value} {σ : mj_S} {τ : mj_T} {a0 a1 : Option Value} {v : Int32} : mj_E 71 19 (a0 :: a1 :: some (.int v) :: ls) st σ τ = mj_E 71 20 (a0 :: a1 :: some (.int v) :: ls) (.int v :: st) σ τ := mj_nx i71_19 rfl
theorem i71_20 : mj_ins 71 20 = some (.imul, 21) := by decide +kernel
theorem e71_20 {ls : mj_L} {st : List Value} {σ : mj_S} {τ : mj_T} {x y : Int32} : mj_E 71 20 ls (.int y :: .int x :: st) σ τ = mj_E 71 21 ls (.int (x * y) :: st) σ τ := mj_nx i71_20 rfl
theorem i71_21 : mj_ins 71 21 = some (.iload 0, 22) := by decide +kernel
theorem e71_21 {ls : mj_L} {st : List Value} {σ : mj_S} {τ : mj_T} {v : Int32} : mj_E 71 21 (some (.int v) :: ls) st σ τ = mj_E 71 22 (some (.int v) :: ls) (.int v :: st) σ τ := mj_nx i71_21 rfl
theorem i71_22 : mj_ins 71 22 = some (.iadd, 23) := by decide +kernel
theorem e71_22 {ls : mj_L} {st : List Value} {σ : mj_S} {τ : mj_T} {x y : Int32} : mj_E 71 22 ls (.int y :: .int x :: st) σ τ = mj_E 71 23 ls (.int (x + y) :: st) σ τ := mj_nx i71_22 rfl
theorem i71_23 : mj_ins 71 23 = some (.iaload, 24) := by decide +kernel
theorem e71_23 {ls : mj_L} {st : List Value} {σ : mj_S} {τ : mj_T} {x : Int32} {k : Nat} : mj_E 71 23 ls (.int x :: .ref k :: st) σ τ = if mj_ib (mj_li σ k) x = true then mj_E 71 24 ls (.int (σ k x.toNatClampNeg) :: st) σ τ else none := mj_ald i71_23
theorem i71_24 : mj_ins 71 24 = some (.ifCond .eq 29, 27) := by decide +kernel
theorem e71_24 {ls : mj_L} {st : List Value} {σ : mj_S} {τ : mj_T} {x : Int32} : mj_E 71 24 ls (.int x :: st) σ τ = if x = 0 then mj_E 71 29 ls st σ τ else mj_E 71 27 ls st σ τ := (mj_ifc i71_24).trans (mj_cdT rfl)
theorem i71_27 : mj_ins 71 27 = some (.iload 2, 28) := by decide +kernel
theorem e71_27 {ls : mj_L} {st : List Value} {σ : mj_S} {τ : mj_T} {a0 a1 : Option Value} {v : Int32} : mj_E 71 27 (a0 :: a1 :: some (.int v) :: ls) st σ τ = mj_E 71 28 (a0 :: a1 :: some (.int v) :: ls) (.int v :: st) σ τ := mj_nx i71_27 rfl
theorem i71_28 : mj_ins 71 28 = some (.ireturn, 29) := by decide +kernel
theorem e71_28 {ls : mj_L} {σ : mj_S} {τ : mj_T} {v : Int32} : mj_E 71 28 ls [.int v] σ τ = some (some (.int v), σ, τ) := mj_irt i71_28 rfl
theorem i71_29 : mj_ins 71 29 = some (.iload 2, 30) := by decide +kernel
theorem e71_29 {ls : mj_L} {st : List Value} {σ : mj_S} {τ : mj_T} {a0 a1 : Option Value} {v : Int32} : mj_E 71 29 (a0 :: a1 :: some (.int v) :: ls) st σ τ = mj_E 71 30 (a0 :: a1 :: some (.int v) :: ls) (.int v :: st) σ τ := mj_nx i71_29 rfl
theorem i71_30 : mj_ins 71 30 = some (.invokestatic 4, 33) := by decide +kernel
theorem e71_30 {ls : mj_L} {σ : mj_S} {τ : mj_T} {x0 : Int32} : mj_E 71 30 ls [.int x0] σ τ = mj_bd (mj_C 4 [.int x0] σ τ) (mj_K 71 33 ls []) := mj_clS (as := [.int x0]) (r := []) i71_30 (by decide +kernel : mj_vk 71 4 1 0 1 false = true) rfl
theorem i71_33 : mj_ins 71 33 = some (.istore 2, 34) := by decide +kernel
theorem e71_33 {ls : mj_L} {st : List Value} {σ : mj_S} {τ : mj_T} {a0 a1 a2 : Option Value} {v : Int32} : mj_E 71 33 (a0 :: a1 :: a2 :: ls) (.int v :: st) σ τ = mj_E 71 34 (a0 :: a1 :: some (.int v) :: ls) st σ τ := mj_nx i71_33 rfl
theorem i71_34 : mj_ins 71 34 = some (.iinc 3 (1), 37) := by decide +kernel
theorem e71_34 {ls : mj_L} {st : List Value} {σ : mj_S} {τ : mj_T} {a0 a1 a2 : Option Value} {v : Int32} : mj_E 71 34 (a0 :: a1 :: a2 :: some (.int v) :: ls) st σ τ = mj_E 71 37 (a0 :: a1 :: a2 :: some (.int (v + nI 1)) :: ls) st σ τ := mj_nx i71_34 rfl
theorem i71_37 : mj_ins 71 37 = some (.goto 4, 40) := by decide +kernel
theorem e71_37 {ls : mj_L} {st : List Value} {σ : mj_S} {τ : mj_T} : mj_E 71 37 ls st σ τ = mj_E 71 4 ls st σ τ := mj_nx i71_37 rfl
theorem i71_40 : mj_ins 71 40 = some (.iconst (-1), 41) := by decide +kernel
theorem e71_40 {ls : mj_L} {st : List Value} {σ : mj_S} {τ : mj_T} : mj_E 71 40 ls st σ τ = mj_E 71 41 ls (.int ((-1)) :: st) σ τ := mj_nx i71_40 rfl
theorem i71_41 : mj_ins 71 41 = some (.ireturn, 42) := by decide +kernel
theorem e71_41 {ls : mj_L} {σ : mj_S} {τ : mj_T} {v : Int32} : mj_E 71 41 ls [.int v] σ τ = some (some (.int v), σ, τ) := mj_irt i71_41 rfl
theorem c72 {σ : mj_S} {τ : mj_T} {r : Nat} {x0 : Int32} : mj_C 72 [.ref r, .int x0] σ τ = mj_E 72 0 [some (.ref r), some (.int x0)] [] σ τ := rfl
theorem i72_0 : mj_ins 72 0 = some (.aload 0, 1) := by decide +kernel
theorem e72_0 {ls : mj_L} {st : List Value} {σ : mj_S} {τ : mj_T} {v : Nat} : mj_E 72 0 (some (.ref v) :: ls) st σ τ = mj_E 72 1 (some (.ref v) :: ls) (.ref v :: st) σ τ := mj_nx i72_0 rfl
theorem i72_1 : mj_ins 72 1 = some (.getfield 500, 4) := by decide +kernel
theorem e72_1 {ls : mj_L} {st : List Value} {σ : mj_S} {τ : mj_T} : mj_E 72 1 ls (.ref 59 :: st) σ τ = mj_E 72 4 ls (.int (σ 59 0) :: st) σ τ := mj_nx i72_1 rfl
theorem i72_4 : mj_ins 72 4 = some (.iconst (20), 6) := by decide +kernel
theorem e72_4 {ls : mj_L} {st : List Value} {σ : mj_S} {τ : mj_T} : mj_E 72 4 ls st σ τ = mj_E 72 6 ls (.int (nI 20) :: st) σ τ := mj_nx i72_4 rfl
theorem i72_6 : mj_ins 72 6 = some (.if_icmp .ge 19, 9) := by decide +kernel
theorem e72_6 {ls : mj_L} {st : List Value} {σ : mj_S} {τ : mj_T} {x y : Int32} : mj_E 72 6 ls (.int y :: .int x :: st) σ τ = if y ≤ x then mj_E 72 19 ls st σ τ else mj_E 72 9 ls st σ τ := (mj_ifi i72_6).trans (mj_cdT rfl)
theorem i72_9 : mj_ins 72 9 = some (.aload 0, 10) := by decide +kernel
theorem e72_9 {ls : mj_L} {st : List Value} {σ : mj_S} {τ : mj_T} {v : Nat} : mj_E 72 9 (some (.ref v) :: ls) st σ τ = mj_E 72 10 (some (.ref v) :: ls) (.ref v :: st) σ τ := mj_nx i72_9 rfl
theorem i72_10 : mj_ins 72 10 = some (.getfield 501, 13) := by decide +kernel
theorem e72_10 {ls : mj_L} {st : List Value} {σ : mj_S} {τ : mj_T} : mj_E 72 10 ls (.ref 59 :: st) σ τ = mj_E 72 13 ls (.ref 60 :: st) σ τ := mj_nx i72_10 rfl
theorem i72_13 : mj_ins 72 13 = some (.aload 0, 14) := by decide +kernel
theorem e72_13 {ls : mj_L} {st : List Value} {σ : mj_S} {τ : mj_T} {v : Nat} : mj_E 72 13 (some (.ref v) :: ls) st σ τ = mj_E 72 14 (some (.ref v) :: ls) (.ref v :: st) σ τ := mj_nx i72_13 rfl
theorem i72_14 : mj_ins 72 14 = some (.getfield 500, 17) := by decide +kernel
theorem e72_14 {ls : mj_L} {st : List Value} {σ : mj_S} {τ : mj_T} : mj_E 72 14 ls (.ref 59 :: st) σ τ = mj_E 72 17 ls (.int (σ 59 0) :: st) σ τ := mj_nx i72_14 rfl
theorem i72_17 : mj_ins 72 17 = some (.iload 1, 18) := by decide +kernel
theorem e72_17 {ls : mj_L} {st : List Value} {σ : mj_S} {τ : mj_T} {a0 : Option Value} {v : Int32} : mj_E 72 17 (a0 :: some (.int v) :: ls) st σ τ = mj_E 72 18 (a0 :: some (.int v) :: ls) (.int v :: st) σ τ := mj_nx i72_17 rfl
theorem i72_18 : mj_ins 72 18 = some (.iastore, 19) := by decide +kernel
theorem e72_18 {ls : mj_L} {st : List Value} {σ : mj_S} {τ : mj_T} {x v : Int32} {k : Nat} : mj_E 72 18 ls (.int v :: .int x :: .ref k :: st) σ τ = if mj_ib (mj_lw k) x = true then mj_E 72 19 ls st (mj_up σ k x.toNatClampNeg v) τ else none := mj_ast i72_18
theorem i72_19 : mj_ins 72 19 = some (.aload 0, 20) := by decide +kernel
theorem e72_19 {ls : mj_L} {st : List Value} {σ : mj_S} {τ : mj_T} {v : Nat} : mj_E 72 19 (some (.ref v) :: ls) st σ τ = mj_E 72 20 (some (.ref v) :: ls) (.ref v :: st) σ τ := mj_nx i72_19 rfl
theorem i72_20 : mj_ins 72 20 = some (.dup, 21) := by decide +kernel
theorem e72_20 {ls : mj_L} {st : List Value} {σ : mj_S} {τ : mj_T} {v : Nat} : mj_E 72 20 ls (.ref v :: st) σ τ = mj_E 72 21 ls (.ref v :: .ref v :: st) σ τ := mj_nx i72_20 rfl
theorem i72_21 : mj_ins 72 21 = some (.getfield 500, 24) := by decide +kernel
theorem e72_21 {ls : mj_L} {st : List Value} {σ : mj_S} {τ : mj_T} : mj_E 72 21 ls (.ref 59 :: st) σ τ = mj_E 72 24 ls (.int (σ 59 0) :: st) σ τ := mj_nx i72_21 rfl
theorem i72_24 : mj_ins 72 24 = some (.iconst (1), 25) := by decide +kernel
theorem e72_24 {ls : mj_L} {st : List Value} {σ : mj_S} {τ : mj_T} : mj_E 72 24 ls st σ τ = mj_E 72 25 ls (.int (nI 1) :: st) σ τ := mj_nx i72_24 rfl
theorem i72_25 : mj_ins 72 25 = some (.iadd, 26) := by decide +kernel
theorem e72_25 {ls : mj_L} {st : List Value} {σ : mj_S} {τ : mj_T} {x y : Int32} : mj_E 72 25 ls (.int y :: .int x :: st) σ τ = mj_E 72 26 ls (.int (x + y) :: st) σ τ := mj_nx i72_25 rfl
theorem i72_26 : mj_ins 72 26 = some (.putfield 500, 29) := by decide +kernel
theorem e72_26 {ls : mj_L} {st : List Value} {σ : mj_S} {τ : mj_T} {v : Int32} : mj_E 72 26 ls (.int v :: .ref 59 :: st) σ τ = mj_E 72 29 ls st (mj_up σ 59 0 v) τ := mj_nx i72_26 rfl
theorem i72_29 : mj_ins 72 29 = some (.return_, 30) := by decide +kernel
theorem e72_29 {ls : mj_L} {σ : mj_S} {τ : mj_T} : mj_E 72 29 ls [] σ τ = some (none, σ, τ) := mj_vrt i72_29 rfl
theorem c200 {σ : mj_S} {τ : mj_T} {x0 : Int32} : mj_C 200 [.int x0] σ τ = mj_E 200 0 [some (.int x0)] [] σ τ := rfl
theorem i200_0 : mj_ins 200 0 = some (.iload 0, 1) := by decide +kernel
theorem e200_0 {ls : mj_L} {st : List Value} {σ : mj_S} {τ : mj_T} {v : Int32} : mj_E 200 0 (some (.int v) :: ls) st σ τ = mj_E 200 1 (some (.int v) :: ls) (.int v :: st) σ τ := mj_nx i200_0 rfl
theorem i200_1 : mj_ins 200 1 = some (.iload 0, 2) := by decide +kernel
theorem e200_1 {ls : mj_L} {st : List Value} {σ : mj_S} {τ : mj_T} {v : Int32} : mj_E 200 1 (some (.int v) :: ls) st σ τ = mj_E 200 2 (some (.int v) :: ls) (.int v :: st) σ τ := mj_nx i200_1 rfl
theorem i200_2 : mj_ins 200 2 = some (.iconst (1), 3) := by decide +kernel
theorem e200_2 {ls : mj_L} {st : List Value} {σ : mj_S} {τ : mj_T} : mj_E 200 2 ls st σ τ = mj_E 200 3 ls (.int (nI 1) :: st) σ τ := mj_nx i200_2 rfl
theorem i200_3 : mj_ins 200 3 = some (.iushr, 4) := by decide +kernel
theorem e200_3 {ls : mj_L} {st : List Value} {σ : mj_S} {τ : mj_T} {x y : Int32} : mj_E 200 3 ls (.int y :: .int x :: st) σ τ = mj_E 200 4 ls (.int ((x.toUInt32 >>> (y.toUInt32 &&& Int32.toUInt32 31)).toInt32) :: st) σ τ := mj_nx i200_3 rfl
theorem i200_4 : mj_ins 200 4 = some (.iconst (1431655765), 7) := by decide +kernel
theorem e200_4 {ls : mj_L} {st : List Value} {σ : mj_S} {τ : mj_T} : mj_E 200 4 ls st σ τ = mj_E 200 7 ls (.int (nI 1431655765) :: st) σ τ := mj_nx i200_4 rfl
theorem i200_7 : mj_ins 200 7 = some (.iand, 8) := by decide +kernel
theorem e200_7 {ls : mj_L} {st : List Value} {σ : mj_S} {τ : mj_T} {x y : Int32} : mj_E 200 7 ls (.int y :: .int x :: st) σ τ = mj_E 200 8 ls (.int (x &&& y) :: st) σ τ := mj_nx i200_7 rfl
theorem i200_8 : mj_ins 200 8 = some (.isub, 9) := by decide +kernel
theorem e200_8 {ls : mj_L} {st : List Value} {σ : mj_S} {τ : mj_T} {x y : Int32} : mj_E 200 8 ls (.int y :: .int x :: st) σ τ = mj_E 200 9 ls (.int (x - y) :: st) σ τ := mj_nx i200_8 rfl
theorem i200_9 : mj_ins 200 9 = some (.istore 0, 10) := by decide +kernel
theorem e200_9 {ls : mj_L} {st : List Value} {σ : mj_S} {τ : mj_T} {a0 : Option Value} {v : Int32} : mj_E 200 9 (a0 :: ls) (.int v :: st) σ τ = mj_E 200 10 (some (.int v) :: ls) st σ τ := mj_nx i200_9 rfl
theorem i200_10 : mj_ins 200 10 = some (.iload 0, 11) := by decide +kernel
theorem e200_10 {ls : mj_L} {st : List Value} {σ : mj_S} {τ : mj_T} {v : Int32} : mj_E 200 10 (some (.int v) :: ls) st σ τ = mj_E 200 11 (some (.int v) :: ls) (.int v :: st) σ τ := mj_nx i200_10 rfl
theorem i200_11 : mj_ins 200 11 = some (.iconst (858993459), 14) := by decide +kernel
theorem e200_11 {ls : mj_L} {st : List Value} {σ : mj_S} {τ : mj_T} : mj_E 200 11 ls st σ τ = mj_E 200 14 ls (.int (nI 858993459) :: st) σ τ := mj_nx i200_11 rfl
theorem i200_14 : mj_ins 200 14 = some (.iand, 15) := by decide +kernel
theorem e200_14 {ls : mj_L} {st : List Value} {σ : mj_S} {τ : mj_T} {x y : Int32} : mj_E 200 14 ls (.int y :: .int x :: st) σ τ = mj_E 200 15 ls (.int (x &&& y) :: st) σ τ := mj_nx i200_14 rfl
theorem i200_15 : mj_ins 200 15 = some (.iload 0, 16) := by decide +kernel
theorem e200_15 {ls : mj_L} {st : List Value} {σ : mj_S} {τ : mj_T} {v : Int32} : mj_E 200 15 (some (.int v) :: ls) st σ τ = mj_E 200 16 (some (.int v) :: ls) (.int v :: st) σ τ := mj_nx i200_15 rfl
theorem i200_16 : mj_ins 200 16 = some (.iconst (2), 17) := by decide +kernel
theorem e200_16 {ls : mj_L} {st : List Value} {σ : mj_S} {τ : mj_T} : mj_E 200 16 ls st σ τ = mj_E 200 17 ls (.int (nI 2) :: st) σ τ := mj_nx i200_16 rfl
theorem i200_17 : mj_ins 200 17 = some (.iushr, 18) := by decide +kernel
theorem e200_17 {ls : mj_L} {st : List Value} {σ : mj_S} {τ : mj_T} {x y : Int32} : mj_E 200 17 ls (.int y :: .int x :: st) σ τ = mj_E 200 18 ls (.int ((x.toUInt32 >>> (y.toUInt32 &&& Int32.toUInt32 31)).toInt32) :: st) σ τ := mj_nx i200_17 rfl
theorem i200_18 : mj_ins 200 18 = some (.iconst (858993459), 21) := by decide +kernel
theorem e200_18 {ls : mj_L} {st : List Value} {σ : mj_S} {τ : mj_T} : mj_E 200 18 ls st σ τ = mj_E 200 21 ls (.int (nI 858993459) :: st) σ τ := mj_nx i200_18 rfl
theorem i200_21 : mj_ins 200 21 = some (.iand, 22) := by decide +kernel
theorem e200_21 {ls : mj_L} {st : List Value} {σ : mj_S} {τ : mj_T} {x y : Int32} : mj_E 200 21 ls (.int y :: .int x :: st) σ τ = mj_E 200 22 ls (.int (x &&& y) :: st) σ τ := mj_nx i200_21 rfl
theorem i200_22 : mj_ins 200 22 = some (.iadd, 23) := by decide +kernel
theorem e200_22 {ls : mj_L} {st : List Value} {σ : mj_S} {τ : mj_T} {x y : Int32} : mj_E 200 22 ls (.int y :: .int x :: st) σ τ = mj_E 200 23 ls (.int (x + y) :: st) σ τ := mj_nx i200_22 rfl
theorem i200_23 : mj_ins 200 23 = some (.istore 0, 24) := by decide +kernel
theorem e200_23 {ls : mj_L} {st : List Value} {σ : mj_S} {τ : mj_T} {a0 : Option Value} {v : Int32} : mj_E 200 23 (a0 :: ls) (.int v :: st) σ τ = mj_E 200 24 (some (.int v) :: ls) st σ τ := mj_nx i200_23 rfl
theorem i200_24 : mj_ins 200 24 = some (.iload 0, 25) := by decide +kernel
theorem e200_24 {ls : mj_L} {st : List Value} {σ : mj_S} {τ : mj_T} {v : Int32} : mj_E 200 24 (some (.int v) :: ls) st σ τ = mj_E 200 25 (some (.int v) :: ls) (.int v :: st) σ τ := mj_nx i200_24 rfl
theorem i200_25 : mj_ins 200 25 = some (.iload 0, 26) := by decide +kernel
theorem e200_25 {ls : mj_L} {st : List Value} {σ : mj_S} {τ : mj_T} {v : Int32} : mj_E 200 25 (some (.int v) :: ls) st σ τ = mj_E 200 26 (some (.int v) :: ls) (.int v :: st) σ τ := mj_nx i200_25 rfl
theorem i200_26 : mj_ins 200 26 = some (.iconst (4), 27) := by decide +kernel
theorem e200_26 {ls : mj_L} {st : List Value} {σ : mj_S} {τ : mj_T} : mj_E 200 26 ls st σ τ = mj_E 200 27 ls (.int (nI 4) :: st) σ τ := mj_nx i200_26 rfl
theorem i200_27 : mj_ins 200 27 = some (.iushr, 28) := by decide +kernel
theorem e200_27 {ls : mj_L} {st : List Value} {σ : mj_S} {τ : mj_T} {x y : Int32} : mj_E 200 27 ls (.int y :: .int x :: st) σ τ = mj_E 200 28 ls (.int ((x.toUInt32 >>> (y.toUInt32 &&& Int32.toUInt32 31)).toInt32) :: st) σ τ := mj_nx i200_27 rfl
theorem i200_28 : mj_ins 200 28 = some (.iadd, 29) := by decide +kernel
theorem e200_28 {ls : mj_L} {st : List Value} {σ : mj_S} {τ : mj_T} {x y : Int32} : mj_E 200 28 ls (.int y :: .int x :: st) σ τ = mj_E 200 29 ls (.int (x + y) :: st) σ τ := mj_nx i200_28 rfl
theorem i200_29 : mj_ins 200 29 = some (.iconst (252645135), 32) := by decide +kernel
theorem e200_29 {ls : mj_L} {st : List Value} {σ : mj_S} {τ : mj_T} : mj_E 200 29 ls st σ τ = mj_E 200 32 ls (.int (nI 252645135) :: st) σ τ := mj_nx i200_29 rfl
theorem i200_32 : mj_ins 200 32 = some (.iand, 33) := by decide +kernel
theorem e200_32 {ls : mj_L} {st : List Value} {σ : mj_S} {τ : mj_T} {x y : Int32} : mj_E 200 32 ls (.int y :: .int x :: st) σ τ = mj_E 200 33 ls (.int (x &&& y) :: st) σ τ := mj_nx i200_32 rfl
theorem i200_33 : mj_ins 200 33 = some (.istore 0, 34) := by decide +kernel
theorem e200_33 {ls : mj_L} {st : List Value} {σ : mj_S} {τ : mj_T} {a0 : Option Value} {v : Int32} : mj_E 200 33 (a0 :: ls) (.int v :: st) σ τ = mj_E 200 34 (some (.int v) :: ls) st σ τ := mj_nx i200_33 rfl
theorem i200_34 : mj_ins 200 34 = some (.iload 0, 35) := by decide +kernel
theorem e200_34 {ls : mj_L} {st : List Value} {σ : mj_S} {τ : mj_T} {v : Int32} : mj_E 200 34 (some (.int v) :: ls) st σ τ = mj_E 200 35 (some (.int v) :: ls) (.int v :: st) σ τ := mj_nx i200_34 rfl
theorem i200_35 : mj_ins 200 35 = some (.iload 0, 36) := by decide +kernel
theorem e200_35 {ls : mj_L} {st : List Value} {σ : mj_S} {τ : mj_T} {v : Int32} : mj_E 200 35 (some (.int v) :: ls) st σ τ = mj_E 200 36 (some (.int v) :: ls) (.int v :: st) σ τ := mj_nx i200_35 rfl
theorem i200_36 : mj_ins 200 36 = some (.iconst (8), 38) := by decide +kernel
theorem e200_36 {ls : mj_L} {st : List Value} {σ : mj_S} {τ : mj_T} : mj_E 200 36 ls st σ τ = mj_E 200 38 ls (.int (nI 8) :: st) σ τ := mj_nx i200_36 rfl
theorem i200_38 : mj_ins 200 38 = some (.iushr, 39) := by decide +kernel
theorem e200_38 {ls : mj_L} {st : List Value} {σ : mj_S} {τ : mj_T} {x y : Int32} : mj_E 200 38 ls (.int y :: .int x :: st) σ τ = mj_E 200 39 ls (.int ((x.toUInt32 >>> (y.toUInt32 &&& Int32.toUInt32 31)).toInt32) :: st) σ τ := mj_nx i200_38 rfl
theorem i200_39 : mj_ins 200 39 = some (.iadd, 40) := by decide +kernel
theorem e200_39 {ls : mj_L} {st : List Value} {σ : mj_S} {τ : mj_T} {x y : Int32} : mj_E 200 39 ls (.int y :: .int x :: st) σ τ = mj_E 200 40 ls (.int (x + y) :: st) σ τ := mj_nx i200_39 rfl
theorem i200_40 : mj_ins 200 40 = some (.istore 0, 41) := by decide +kernel
theorem e200_40 {ls : mj_L} {st : List Value} {σ : mj_S} {τ : mj_T} {a0 : Option Value} {v : Int32} : mj_E 200 40 (a0 :: ls) (.int v :: st) σ τ = mj_E 200 41 (some (.int v) :: ls) st σ τ := mj_nx i200_40 rfl
theorem i200_41 : mj_ins 200 41 = some (.iload 0, 42) := by decide +kernel
theorem e200_41 {ls : mj_L} {st : List Value} {σ : mj_S} {τ : mj_T} {v : Int32} : mj_E 200 41 (some (.int v) :: ls) st σ τ = mj_E 200 42 (some (.int v) :: ls) (.int v :: st) σ τ := mj_nx i200_41 rfl
theorem i200_42 : mj_ins 200 42 = some (.iload 0, 43) := by decide +kernel
theorem e200_42 {ls : mj_L} {st : List Value} {σ : mj_S} {τ : mj_T} {v : Int32} : mj_E 200 42 (some (.int v) :: ls) st σ τ = mj_E 200 43 (some (.int v) :: ls) (.int v :: st) σ τ := mj_nx i200_42 rfl
theorem i200_43 : mj_ins 200 43 = some (.iconst (16), 45) := by decide +kernel
theorem e200_43 {ls : mj_L} {st : List Value} {σ : mj_S} {τ : mj_T} : mj_E 200 43 ls st σ τ = mj_E 200 45 ls (.int (nI 16) :: st) σ τ := mj_nx i200_43 rfl
theorem i200_45 : mj_ins 200 45 = some (.iushr, 46) := by decide +kernel
theorem e200_45 {ls : mj_L} {st : List Value} {σ : mj_S} {τ : mj_T} {x y : Int32} : mj_E 200 45 ls (.int y :: .int x :: st) σ τ = mj_E 200 46 ls (.int ((x.toUInt32 >>> (y.toUInt32 &&& Int32.toUInt32 31)).toInt32) :: st) σ τ := mj_nx i200_45 rfl
theorem i200_46 : mj_ins 200 46 = some (.iadd, 47) := by decide +kernel
theorem e200_46 {ls : mj_L} {st : List Value} {σ : mj_S} {τ : mj_T} {x y : Int32} : mj_E 200 46 ls (.int y :: .int x :: st) σ τ = mj_E 200 47 ls (.int (x + y) :: st) σ τ := mj_nx i200_46 rfl
theorem i200_47 : mj_ins 200 47 = some (.istore 0, 48) := by decide +kernel
theorem e200_47 {ls : mj_L} {st : List Value} {σ : mj_S} {τ : mj_T} {a0 : Option Value} {v : Int32} : mj_E 200 47 (a0 :: ls) (.int v :: st) σ τ = mj_E 200 48 (some (.int v) :: ls) st σ τ := mj_nx i200_47 rfl
theorem i200_48 : mj_ins 200 48 = some (.iload 0, 49) := by decide +kernel
theorem e200_48 {ls : mj_L} {st : List Value} {σ : mj_S} {τ : mj_T} {v : Int32} : mj_E 200 48 (some (.int v) :: ls) st σ τ = mj_E 200 49 (some (.int v) :: ls) (.int v :: st) σ τ := mj_nx i200_48 rfl
theorem i200_49 : mj_ins 200 49 = some (.iconst (63), 51) := by decide +kernel
theorem e200_49 {ls : mj_L} {st : List Value} {σ : mj_S} {τ : mj_T} : mj_E 200 49 ls st σ τ = mj_E 200 51 ls (.int (nI 63) :: st) σ τ := mj_nx i200_49 rfl
theorem i200_51 : mj_ins 200 51 = some (.iand, 52) := by decide +kernel
theorem e200_51 {ls : mj_L} {st : List Value} {σ : mj_S} {τ : mj_T} {x y : Int32} : mj_E 200 51 ls (.int y :: .int x :: st) σ τ = mj_E 200 52 ls (.int (x &&& y) :: st) σ τ := mj_nx i200_51 rfl
theorem i200_52 : mj_ins 200 52 = some (.ireturn, 53) := by decide +kernel
theorem e200_52 {ls : mj_L} {σ : mj_S} {τ : mj_T} {v : Int32} : mj_E 200 52 ls [.int v] σ τ = some (some (.int v), σ, τ) := mj_irt i200_52 rfl
theorem c201 {σ : mj_S} {τ : mj_T} {r : Nat} : mj_C 201 [.ref r] σ τ = mj_E 201 0 [some (.ref r)] [] σ τ := rfl
theorem i201_0 : mj_ins 201 0 = some (.aload 0, 1) := by decide +kernel
theorem e201_0 {ls : mj_L} {st : List Value} {σ : mj_S} {τ : mj_T} {v : Nat} : mj_E 201 0 (some (.ref v) :: ls) st σ τ = mj_E 201 1 (some (.ref v) :: ls) (.ref v :: st) σ τ := mj_nx i201_0 rfl
theorem i201_1 : mj_ins 201 1 = some (.getfield 2000, 4) := by decide +kernel
theorem e201_1a {ls : mj_L} {st : List Value} {σ : mj_S} {τ : mj_T} : mj_E 201 1 ls (.ref 93 :: st) σ τ = mj_E 201 4 ls (.ref 100 :: st) σ τ := mj_nx i201_1 rfl
theorem e201_1b {ls : mj_L} {st : List Value} {σ : mj_S} {τ : mj_T} : mj_E 201 1 ls (.ref 94 :: st) σ τ = mj_E 201 4 ls (.ref 101 :: st) σ τ := mj_nx i201_1 rfl
theorem e201_1c {ls : mj_L} {st : List Value} {σ : mj_S} {τ : mj_T} : mj_E 201 1 ls (.ref 95 :: st) σ τ = mj_E 201 4 ls (.ref 102 :: st) σ τ := mj_nx i201_1 rfl
theorem e201_1d {ls : mj_L} {st : List Value} {σ : mj_S} {τ : mj_T} : mj_E 201 1 ls (.ref 96 :: st) σ τ = mj_E 201 4 ls (.ref 103 :: st) σ τ := mj_nx i201_1 rfl
theorem e201_1e {ls : mj_L} {st : List Value} {σ : mj_S} {τ : mj_T} : mj_E 201 1 ls (.ref 97 :: st) σ τ = mj_E 201 4 ls (.ref 104 :: st) σ τ := mj_nx i201_1 rfl
theorem i201_4 : mj_ins 201 4 = some (.arraylength, 5) := by decide +kernel
theorem e201_4a {ls : mj_L} {st : List Value} {σ : mj_S} {τ : mj_T} : mj_E 201 4 ls (.ref 100 :: st) σ τ = mj_E 201 5 ls (.int (nI 5) :: st) σ τ := mj_nx i201_4 rfl
theorem e201_4b {ls : mj_L} {st : List Value} {σ : mj_S} {τ : mj_T} : mj_E 201 4 ls (.ref 101 :: st) σ τ = mj_E 201 5 ls (.int (nI 5) :: st) σ τ := mj_nx i201_4 rfl
theorem e201_4c {ls : mj_L} {st : List Value} {σ : mj_S} {τ : mj_T} : mj_E 201 4 ls (.ref 102 :: st) σ τ = mj_E 201 5 ls (.int (nI 4) :: st) σ τ := mj_nx i201_4 rfl
theorem e201_4d {ls : mj_L} {st : List Value} {σ : mj_S} {τ : mj_T} : mj_E 201 4 ls (.ref 103 :: st) σ τ = mj_E 201 5 ls (.int (nI 3) :: st) σ τ := mj_nx i201_4 rfl
theorem e201_4e {ls : mj_L} {st : List Value} {σ : mj_S} {τ : mj_T} : mj_E 201 4 ls (.ref 104 :: st) σ τ = mj_E 201 5 ls (.int (nI 5) :: st) σ τ := mj_nx i201_4 rfl
theorem i201_5 : mj_ins 201 5 = some (.aload 0, 6) := by decide +kernel
theorem e201_5 {ls : mj_L} {st : List Value} {σ : mj_S} {τ : mj_T} {v : Nat} : mj_E 201 5 (some (.ref v) :: ls) st σ τ = mj_E 201 6 (some (.ref v) :: ls) (.ref v :: st) σ τ := mj_nx i201_5 rfl
theorem i201_6 : mj_ins 201 6 = some (.invokevirtual 203, 9) := by decide +kernel
theorem e201_6 {ls : mj_L} {σ : mj_S} {τ : mj_T} {r : Nat} {w0 : Value} : mj_E 201 6 ls [.ref r, w0] σ τ = if mj_rcv r 20 = true then mj_bd (mj_C 203 [.ref r] σ τ) (mj_K 201 9 ls [w0]) else none := mj_clV (as := []) (r := [w0]) i201_6 (by decide +kernel : mj_vk 201 203 0 1 1 false = true) (by decide +kernel)
theorem i201_9 : mj_ins 201 9 = some (.ishr, 10) := by decide +kernel
theorem e201_9 {ls : mj_L} {st : List Value} {σ : mj_S} {τ : mj_T} {x y : Int32} : mj_E 201 9 ls (.int y :: .int x :: st) σ τ = mj_E 201 10 ls (.int (x >>> (y &&& 31)) :: st) σ τ := mj_nx i201_9 rfl
theorem i201_10 : mj_ins 201 10 = some (.ireturn, 11) := by decide +kernel
theorem e201_10 {ls : mj_L} {σ : mj_S} {τ : mj_T} {v : Int32} : mj_E 201 10 ls [.int v] σ τ = some (some (.int v), σ, τ) := mj_irt i201_10 rfl
theorem c202 {σ : mj_S} {τ : mj_T} {r : Nat} {x0 : Int32} : mj_C 202 [.ref r, .int x0] σ τ = mj_E 202 0 [some (.ref r), some (.int x0)] [] σ τ := rfl
theorem i202_0 : mj_ins 202 0 = some (.aload 0, 1) := by decide +kernel
theorem e202_0 {ls : mj_L} {st : List Value} {σ : mj_S} {τ : mj_T} {v : Nat} : mj_E 202 0 (some (.ref v) :: ls) st σ τ = mj_E 202 1 (some (.ref v) :: ls) (.ref v :: st) σ τ := mj_nx i202_0 rfl
theorem i202_1 : mj_ins 202 1 = some (.invokevirtual 204, 4) := by decide +kernel
theorem e202_1 {ls : mj_L} {σ : mj_S} {τ : mj_T} {r : Nat} : mj_E 202 1 ls [.ref r] σ τ = if mj_rcv r 20 = true then mj_bd (mj_C 204 [.ref r] σ τ) (mj_K 202 4 ls []) else none := mj_clV (as := []) (r := []) i202_1 (by decide +kernel : mj_vk 202 204 0 0 1 false = true) (by decide +kernel)
theorem i202_4 : mj_ins 202 4 = some (.ifCond .eq 16, 7) := by decide +kernel
theorem e202_4 {ls : mj_L} {st : List Value} {σ : mj_S} {τ : mj_T} {x : Int32} : mj_E 202 4 ls (.int x :: st) σ τ = if x = 0 then mj_E 202 16 ls st σ τ else mj_E 202 7 ls st σ τ := (mj_ifc i202_4).trans (mj_cdT rfl)
theorem i202_7 : mj_ins 202 7 = some (.aload 0, 8) := by decide +kernel
theorem e202_7 {ls : mj_L} {st : List Value} {σ : mj_S} {τ : mj_T} {v : Nat} : mj_E 202 7 (some (.ref v) :: ls) st σ τ = mj_E 202 8 (some (.ref v) :: ls) (.ref v :: st) σ τ := mj_nx i202_7 rfl
theorem i202_8 : mj_ins 202 8 = some (.getfield 2000, 11) := by decide +kernel
theorem e202_8a {ls : mj_L} {st : List Value} {σ : mj_S} {τ : mj_T} : mj_E 202 8 ls (.ref 93 :: st) σ τ = mj_E 202 11 ls (.ref 100 :: st) σ τ := mj_nx i202_8 rfl
theorem e202_8b {ls : mj_L} {st : List Value} {σ : mj_S} {τ : mj_T} : mj_E 202 8 ls (.ref 94 :: st) σ τ = mj_E 202 11 ls (.ref 101 :: st) σ τ := mj_nx i202_8 rfl
theorem e202_8c {ls : mj_L} {st : List Value} {σ : mj_S} {τ : mj_T} : mj_E 202 8 ls (.ref 95 :: st) σ τ = mj_E 202 11 ls (.ref 102 :: st) σ τ := mj_nx i202_8 rfl
theorem e202_8d {ls : mj_L} {st : List Value} {σ : mj_S} {τ : mj_T} : mj_E 202 8 ls (.ref 96 :: st) σ τ = mj_E 202 11 ls (.ref 103 :: st) σ τ := mj_nx i202_8 rfl
theorem e202_8e {ls : mj_L} {st : List Value} {σ : mj_S} {τ : mj_T} : mj_E 202 8 ls (.ref 97 :: st) σ τ = mj_E 202 11 ls (.ref 104 :: st) σ τ := mj_nx i202_8 rfl
theorem i202_11 : mj_ins 202 11 = some (.iload 1, 12) := by decide +kernel
theorem e202_11 {ls : mj_L} {st : List Value} {σ : mj_S} {τ : mj_T} {a0 : Option Value} {v : Int32} : mj_E 202 11 (a0 :: some (.int v) :: ls) st σ τ = mj_E 202 12 (a0 :: some (.int v) :: ls) (.int v :: st) σ τ := mj_nx i202_11 rfl
theorem i202_12 : mj_ins 202 12 = some (.invokestatic 206, 15) := by decide +kernel
theorem e202_12 {ls : mj_L} {σ : mj_S} {τ : mj_T} {x0 : Nat} {x1 : Int32} : mj_E 202 12 ls [.int x1, .ref x0] σ τ = mj_bd (mj_C 206 [.ref x0, .int x1] σ τ) (mj_K 202 15 ls []) := mj_clS (as := [.ref x0, .int x1]) (r := []) i202_12 (by decide +kernel : mj_vk 202 206 2 0 2 false = true) rfl
theorem i202_15 : mj_ins 202 15 = some (.ireturn, 16) := by decide +kernel
theorem e202_15 {ls : mj_L} {σ : mj_S} {τ : mj_T} {v : Int32} : mj_E 202 15 ls [.int v] σ τ = if mj_ok (some .char) v = true then some (some (.int v), σ, τ) else none := mj_zrt i202_15 rfl
theorem i202_16 : mj_ins 202 16 = some (.aload 0, 17) := by decide +kernel
theorem e202_16 {ls : mj_L} {st : List Value} {σ : mj_S} {τ : mj_T} {v : Nat} : mj_E 202 16 (some (.ref v) :: ls) st σ τ = mj_E 202 17 (some (.ref v) :: ls) (.ref v :: st) σ τ := mj_nx i202_16 rfl
theorem i202_17 : mj_ins 202 17 = some (.getfield 2000, 20) := by decide +kernel
theorem e202_17a {ls : mj_L} {st : List Value} {σ : mj_S} {τ : mj_T} : mj_E 202 17 ls (.ref 93 :: st) σ τ = mj_E 202 20 ls (.ref 100 :: st) σ τ := mj_nx i202_17 rfl
theorem e202_17b {ls : mj_L} {st : List Value} {σ : mj_S} {τ : mj_T} : mj_E 202 17 ls (.ref 94 :: st) σ τ = mj_E 202 20 ls (.ref 101 :: st) σ τ := mj_nx i202_17 rfl
theorem e202_17c {ls : mj_L} {st : List Value} {σ : mj_S} {τ : mj_T} : mj_E 202 17 ls (.ref 95 :: st) σ τ = mj_E 202 20 ls (.ref 102 :: st) σ τ := mj_nx i202_17 rfl
theorem e202_17d {ls : mj_L} {st : List Value} {σ : mj_S} {τ : mj_T} : mj_E 202 17 ls (.ref 96 :: st) σ τ = mj_E 202 20 ls (.ref 103 :: st) σ τ := mj_nx i202_17 rfl
theorem e202_17e {ls : mj_L} {st : List Value} {σ : mj_S} {τ : mj_T} : mj_E 202 17 ls (.ref 97 :: st) σ τ = mj_E 202 20 ls (.ref 104 :: st) σ τ := mj_nx i202_17 rfl
theorem i202_20 : mj_ins 202 20 = some (.iload 1, 21) := by decide +kernel
theorem e202_20 {ls : mj_L} {st : List Value} {σ : mj_S} {τ : mj_T} {a0 : Option Value} {v : Int32} : mj_E 202 20 (a0 :: some (.int v) :: ls) st σ τ = mj_E 202 21 (a0 :: some (.int v) :: ls) (.int v :: st) σ τ := mj_nx i202_20 rfl
theorem c203 {σ : mj_S} {τ : mj_T} {r : Nat} : mj_C 203 [.ref r] σ τ = mj_E 203 0 [some (.ref r)] [] σ τ := rfl
theorem i203_0 : mj_ins 203 0 = some (.getstatic 1, 3) := by decide +kernel
theorem e203_0 {ls : mj_L} {st : List Value} {σ : mj_S} {τ : mj_T} : mj_E 203 0 ls st σ τ = mj_E 203 3 ls (.int 1 :: st) σ τ := mj_nx i203_0 rfl
theorem i203_3 : mj_ins 203 3 = some (.ifCond .eq 13, 6) := by decide +kernel
theorem e203_3 {ls : mj_L} {st : List Value} {σ : mj_S} {τ : mj_T} {x : Int32} : mj_E 203 3 ls (.int x :: st) σ τ = if x = 0 then mj_E 203 13 ls st σ τ else mj_E 203 6 ls st σ τ := (mj_ifc i203_3).trans (mj_cdT rfl)
theorem i203_6 : mj_ins 203 6 = some (.aload 0, 7) := by decide +kernel
theorem e203_6 {ls : mj_L} {st : List Value} {σ : mj_S} {τ : mj_T} {v : Nat} : mj_E 203 6 (some (.ref v) :: ls) st σ τ = mj_E 203 7 (some (.ref v) :: ls) (.ref v :: st) σ τ := mj_nx i203_6 rfl
theorem i203_7 : mj_ins 203 7 = some (.getfield 2001, 10) := by decide +kernel
theorem e203_7a {ls : mj_L} {st : List Value} {σ : mj_S} {τ : mj_T} : mj_E 203 7 ls (.ref 93 :: st) σ τ = mj_E 203 10 ls (.int 0 :: st) σ τ := mj_nx i203_7 rfl
theorem e203_7b {ls : mj_L} {st : List Value} {σ : mj_S} {τ : mj_T} : mj_E 203 7 ls (.ref 94 :: st) σ τ = mj_E 203 10 ls (.int 0 :: st) σ τ := mj_nx i203_7 rfl
theorem e203_7c {ls : mj_L} {st : List Value} {σ : mj_S} {τ : mj_T} : mj_E 203 7 ls (.ref 95 :: st) σ τ = mj_E 203 10 ls (.int 0 :: st) σ τ := mj_nx i203_7 rfl
theorem e203_7d {ls : mj_L} {st : List Value} {σ : mj_S} {τ : mj_T} : mj_E 203 7 ls (.ref 96 :: st) σ τ = mj_E 203 10 ls (.int 0 :: st) σ τ := mj_nx i203_7 rfl
theorem e203_7e {ls : mj_L} {st : List Value} {σ : mj_S} {τ : mj_T} : mj_E 203 7 ls (.ref 97 :: st) σ τ = mj_E 203 10 ls (.int 0 :: st) σ τ := mj_nx i203_7 rfl
theorem i203_10 : mj_ins 203 10 = some (.goto 14, 13) := by decide +kernel
theorem e203_10 {ls : mj_L} {st : List Value} {σ : mj_S} {τ : mj_T} : mj_E 203 10 ls st σ τ = mj_E 203 14 ls st σ τ := mj_nx i203_10 rfl
theorem i203_13 : mj_ins 203 13 = some (.iconst (1), 14) := by decide +kernel
theorem e203_13 {ls : mj_L} {st : List Value} {σ : mj_S} {τ : mj_T} : mj_E 203 13 ls st σ τ = mj_E 203 14 ls (.int (nI 1) :: st) σ τ := mj_nx i203_13 rfl
theorem i203_14 : mj_ins 203 14 = some (.ireturn, 15) := by decide +kernel
theorem e203_14 {ls : mj_L} {σ : mj_S} {τ : mj_T} {v : Int32} : mj_E 203 14 ls [.int v] σ τ = if mj_ok (some .byte) v = true then some (some (.int v), σ, τ) else none := mj_zrt i203_14 rfl
theorem c204 {σ : mj_S} {τ : mj_T} {r : Nat} : mj_C 204 [.ref r] σ τ = mj_E 204 0 [some (.ref r)] [] σ τ := rfl
theorem i204_0 : mj_ins 204 0 = some (.getstatic 1, 3) := by decide +kernel
theorem e204_0 {ls : mj_L} {st : List Value} {σ : mj_S} {τ : mj_T} : mj_E 204 0 ls st σ τ = mj_E 204 3 ls (.int 1 :: st) σ τ := mj_nx i204_0 rfl
theorem i204_3 : mj_ins 204 3 = some (.ifCond .eq 17, 6) := by decide +kernel
theorem e204_3 {ls : mj_L} {st : List Value} {σ : mj_S} {τ : mj_T} {x : Int32} : mj_E 204 3 ls (.int x :: st) σ τ = if x = 0 then mj_E 204 17 ls st σ τ else mj_E 204 6 ls st σ τ := (mj_ifc i204_3).trans (mj_cdT rfl)
theorem i204_6 : mj_ins 204 6 = some (.aload 0, 7) := by decide +kernel
theorem e204_6 {ls : mj_L} {st : List Value} {σ : mj_S} {τ : mj_T} {v : Nat} : mj_E 204 6 (some (.ref v) :: ls) st σ τ = mj_E 204 7 (some (.ref v) :: ls) (.ref v :: st) σ τ := mj_nx i204_6 rfl
theorem i204_7 : mj_ins 204 7 = some (.getfield 2001, 10) := by decide +kernel
theorem e204_7a {ls : mj_L} {st : List Value} {σ : mj_S} {τ : mj_T} : mj_E 204 7 ls (.ref 93 :: st) σ τ = mj_E 204 10 ls (.int 0 :: st) σ τ := mj_nx i204_7 rfl
theorem e204_7b {ls : mj_L} {st : List Value} {σ : mj_S} {τ : mj_T} : mj_E 204 7 ls (.ref 94 :: st) σ τ = mj_E 204 10 ls (.int 0 :: st) σ τ := mj_nx i204_7 rfl
theorem e204_7c {ls : mj_L} {st : List Value} {σ : mj_S} {τ : mj_T} : mj_E 204 7 ls (.ref 95 :: st) σ τ = mj_E 204 10 ls (.int 0 :: st) σ τ := mj_nx i204_7 rfl
theorem e204_7d {ls : mj_L} {st : List Value} {σ : mj_S} {τ : mj_T} : mj_E 204 7 ls (.ref 96 :: st) σ τ = mj_E 204 10 ls (.int 0 :: st) σ τ := mj_nx i204_7 rfl
theorem e204_7e {ls : mj_L} {st : List Value} {σ : mj_S} {τ : mj_T} : mj_E 204 7 ls (.ref 97 :: st) σ τ = mj_E 204 10 ls (.int 0 :: st) σ τ := mj_nx i204_7 rfl
theorem i204_10 : mj_ins 204 10 = some (.ifCond .ne 17, 13) := by decide +kernel
theorem e204_10 {ls : mj_L} {st : List Value} {σ : mj_S} {τ : mj_T} {x : Int32} : mj_E 204 10 ls (.int x :: st) σ τ = if x = 0 then mj_E 204 13 ls st σ τ else mj_E 204 17 ls st σ τ := (mj_ifc i204_10).trans (mj_cdF rfl)
theorem i204_13 : mj_ins 204 13 = some (.iconst (1), 14) := by decide +kernel
theorem e204_13 {ls : mj_L} {st : List Value} {σ : mj_S} {τ : mj_T} : mj_E 204 13 ls st σ τ = mj_E 204 14 ls (.int (nI 1) :: st) σ τ := mj_nx i204_13 rfl
theorem i204_14 : mj_ins 204 14 = some (.goto 18, 17) := by decide +kernel
theorem e204_14 {ls : mj_L} {st : List Value} {σ : mj_S} {τ : mj_T} : mj_E 204 14 ls st σ τ = mj_E 204 18 ls st σ τ := mj_nx i204_14 rfl
theorem i204_17 : mj_ins 204 17 = some (.iconst (0), 18) := by decide +kernel
theorem e204_17 {ls : mj_L} {st : List Value} {σ : mj_S} {τ : mj_T} : mj_E 204 17 ls st σ τ = mj_E 204 18 ls (.int (nI 0) :: st) σ τ := mj_nx i204_17 rfl
theorem i204_18 : mj_ins 204 18 = some (.ireturn, 19) := by decide +kernel
theorem e204_18 {ls : mj_L} {σ : mj_S} {τ : mj_T} {v : Int32} : mj_E 204 18 ls [.int v] σ τ = if mj_ok (some .boolean) v = true then some (some (.int v), σ, τ) else none := mj_zrt i204_18 rfl
theorem c205 {σ : mj_S} {τ : mj_T} {x0 : Int32} {x1 : Int32} : mj_C 205 [.int x0, .int x1] σ τ = mj_E 205 0 [some (.int x0), some (.int x1)] [] σ τ := rfl
theorem i205_0 : mj_ins 205 0 = some (.iload 0, 1) := by decide +kernel
theorem e205_0 {ls : mj_L} {st : List Value} {σ : mj_S} {τ : mj_T} {v : Int32} : mj_E 205 0 (some (.int v) :: ls) st σ τ = mj_E 205 1 (some (.int v) :: ls) (.int v :: st) σ τ := mj_nx i205_0 rfl
theorem i205_1 : mj_ins 205 1 = some (.iload 1, 2) := by decide +kernel
theorem e205_1 {ls : mj_L} {st : List Value} {σ : mj_S} {τ : mj_T} {a0 : Option Value} {v : Int32} : mj_E 205 1 (a0 :: some (.int v) :: ls) st σ τ = mj_E 205 2 (a0 :: some (.int v) :: ls) (.int v :: st) σ τ := mj_nx i205_1 rfl
theorem i205_2 : mj_ins 205 2 = some (.getstatic 2, 5) := by decide +kernel
theorem e205_2 {ls : mj_L} {st : List Value} {σ : mj_S} {τ : mj_T} : mj_E 205 2 ls st σ τ = mj_E 205 5 ls (.retAddr 0 :: st) σ τ := mj_nx i205_2 rfl
theorem i205_5 : mj_ins 205 5 = some (.invokestatic 207, 8) := by decide +kernel
theorem e205_5 {ls : mj_L} {σ : mj_S} {τ : mj_T} {x0 : Int32} {x1 : Int32} : mj_E 205 5 ls [.retAddr 0, .int x1, .int x0] σ τ = mj_bd (mj_C 207 [.int x0, .int x1, .retAddr 0] σ τ) (mj_K 205 8 ls []) := mj_clS (as := [.int x0, .int x1, .retAddr 0]) (r := []) i205_5 (by decide +kernel : mj_vk 205 207 3 0 3 false = true) rfl
theorem i205_8 : mj_ins 205 8 = some (.pop, 9) := by decide +kernel
theorem e205_8 {ls : mj_L} {st : List Value} {σ : mj_S} {τ : mj_T} {v : Int32} : mj_E 205 8 ls (.int v :: st) σ τ = mj_E 205 9 ls st σ τ := mj_nx i205_8 rfl
theorem i205_9 : mj_ins 205 9 = some (.return_, 10) := by decide +kernel
theorem e205_9 {ls : mj_L} {σ : mj_S} {τ : mj_T} : mj_E 205 9 ls [] σ τ = some (none, σ, τ) := mj_vrt i205_9 rfl
theorem c206 {σ : mj_S} {τ : mj_T} {x0 : Nat} {x1 : Int32} : mj_C 206 [.ref x0, .int x1] σ τ = mj_E 206 0 [some (.ref x0), some (.int x1)] [] σ τ := rfl
theorem i206_0 : mj_ins 206 0 = some (.iload 1, 1) := by decide +kernel
theorem e206_0 {ls : mj_L} {st : List Value} {σ : mj_S} {τ : mj_T} {a0 : Option Value} {v : Int32} : mj_E 206 0 (a0 :: some (.int v) :: ls) st σ τ = mj_E 206 1 (a0 :: some (.int v) :: ls) (.int v :: st) σ τ := mj_nx i206_0 rfl
theorem i206_1 : mj_ins 206 1 = some (.aload 0, 2) := by decide +kernel
theorem e206_1 {ls : mj_L} {st : List Value} {σ : mj_S} {τ : mj_T} {v : Nat} : mj_E 206 1 (some (.ref v) :: ls) st σ τ = mj_E 206 2 (some (.ref v) :: ls) (.ref v :: st) σ τ := mj_nx i206_1 rfl
theorem i206_2 : mj_ins 206 2 = some (.arraylength, 3) := by decide +kernel
theorem e206_2a {ls : mj_L} {st : List Value} {σ : mj_S} {τ : mj_T} : mj_E 206 2 ls (.ref 100 :: st) σ τ = mj_E 206 3 ls (.int (nI 5) :: st) σ τ := mj_nx i206_2 rfl
theorem e206_2b {ls : mj_L} {st : List Value} {σ : mj_S} {τ : mj_T} : mj_E 206 2 ls (.ref 101 :: st) σ τ = mj_E 206 3 ls (.int (nI 5) :: st) σ τ := mj_nx i206_2 rfl
theorem e206_2c {ls : mj_L} {st : List Value} {σ : mj_S} {τ : mj_T} : mj_E 206 2 ls (.ref 102 :: st) σ τ = mj_E 206 3 ls (.int (nI 4) :: st) σ τ := mj_nx i206_2 rfl
theorem e206_2d {ls : mj_L} {st : List Value} {σ : mj_S} {τ : mj_T} : mj_E 206 2 ls (.ref 103 :: st) σ τ = mj_E 206 3 ls (.int (nI 3) :: st) σ τ := mj_nx i206_2 rfl
theorem e206_2e {ls : mj_L} {st : List Value} {σ : mj_S} {τ : mj_T} : mj_E 206 2 ls (.ref 104 :: st) σ τ = mj_E 206 3 ls (.int (nI 5) :: st) σ τ := mj_nx i206_2 rfl
theorem i206_3 : mj_ins 206 3 = some (.invokestatic 205, 6) := by decide +kernel
theorem e206_3 {ls : mj_L} {σ : mj_S} {τ : mj_T} {x0 : Int32} {x1 : Int32} : mj_E 206 3 ls [.int x1, .int x0] σ τ = mj_bd (mj_C 205 [.int x0, .int x1] σ τ) (mj_K 206 6 ls []) := mj_clS (as := [.int x0, .int x1]) (r := []) i206_3 (by decide +kernel : mj_vk 206 205 2 0 2 false = true) rfl
theorem i206_6 : mj_ins 206 6 = some (.aload 0, 7) := by decide +kernel
theorem e206_6 {ls : mj_L} {st : List Value} {σ : mj_S} {τ : mj_T} {v : Nat} : mj_E 206 6 (some (.ref v) :: ls) st σ τ = mj_E 206 7 (some (.ref v) :: ls) (.ref v :: st) σ τ := mj_nx i206_6 rfl
theorem i206_7 : mj_ins 206 7 = some (.iload 1, 8) := by decide +kernel
theorem e206_7 {ls : mj_L} {st : List Value} {σ : mj_S} {τ : mj_T} {a0 : Option Value} {v : Int32} : mj_E 206 7 (a0 :: some (.int v) :: ls) st σ τ = mj_E 206 8 (a0 :: some (.int v) :: ls) (.int v :: st) σ τ := mj_nx i206_7 rfl
theorem i206_8 : mj_ins 206 8 = some (.baload, 9) := by decide +kernel
theorem e206_8 {ls : mj_L} {st : List Value} {σ : mj_S} {τ : mj_T} {x : Int32} {k : Nat} : mj_E 206 8 ls (.int x :: .ref k :: st) σ τ = if mj_ib (mj_bl k) x = true then mj_E 206 9 ls (.int (mj_bc k x.toNatClampNeg) :: st) σ τ else none := mj_bald i206_8
theorem i206_9 : mj_ins 206 9 = some (.iconst (255), 12) := by decide +kernel
theorem e206_9 {ls : mj_L} {st : List Value} {σ : mj_S} {τ : mj_T} : mj_E 206 9 ls st σ τ = mj_E 206 12 ls (.int (nI 255) :: st) σ τ := mj_nx i206_9 rfl
theorem i206_12 : mj_ins 206 12 = some (.iand, 13) := by decide +kernel
theorem e206_12 {ls : mj_L} {st : List Value} {σ : mj_S} {τ : mj_T} {x y : Int32} : mj_E 206 12 ls (.int y :: .int x :: st) σ τ = mj_E 206 13 ls (.int (x &&& y) :: st) σ τ := mj_nx i206_12 rfl
theorem i206_13 : mj_ins 206 13 = some (.i2c, 14) := by decide +kernel
theorem e206_13 {ls : mj_L} {st : List Value} {σ : mj_S} {τ : mj_T} {x : Int32} : mj_E 206 13 ls (.int x :: st) σ τ = mj_E 206 14 ls (.int (x.toUInt32 % 65536).toInt32 :: st) σ τ := mj_nx i206_13 rfl
theorem i206_14 : mj_ins 206 14 = some (.ireturn, 15) := by decide +kernel
theorem e206_14 {ls : mj_L} {σ : mj_S} {τ : mj_T} {v : Int32} : mj_E 206 14 ls [.int v] σ τ = if mj_ok (some .char) v = true then some (some (.int v), σ, τ) else none := mj_zrt i206_14 rfl
theorem c207 {σ : mj_S} {τ : mj_T} {x0 : Int32} {x1 : Int32} : mj_C 207 [.int x0, .int x1, .retAddr 0] σ τ = mj_E 207 0 [some (.int x0), some (.int x1), some (.retAddr 0)] [] σ τ := rfl
theorem i207_0 : mj_ins 207 0 = some (.iload 0, 1) := by decide +kernel
theorem e207_0 {ls : mj_L} {st : List Value} {σ : mj_S} {τ : mj_T} {v : Int32} : mj_E 207 0 (some (.int v) :: ls) st σ τ = mj_E 207 1 (some (.int v) :: ls) (.int v :: st) σ τ := mj_nx i207_0 rfl
theorem i207_1 : mj_ins 207 1 = some (.ifCond .lt 9, 4) := by decide +kernel
theorem e207_1 {ls : mj_L} {st : List Value} {σ : mj_S} {τ : mj_T} {x : Int32} : mj_E 207 1 ls (.int x :: st) σ τ = if x < 0 then mj_E 207 9 ls st σ τ else mj_E 207 4 ls st σ τ := (mj_ifc i207_1).trans (mj_cdT rfl)
theorem i207_4 : mj_ins 207 4 = some (.iload 0, 5) := by decide +kernel
theorem e207_4 {ls : mj_L} {st : List Value} {σ : mj_S} {τ : mj_T} {v : Int32} : mj_E 207 4 (some (.int v) :: ls) st σ τ = mj_E 207 5 (some (.int v) :: ls) (.int v :: st) σ τ := mj_nx i207_4 rfl
theorem i207_5 : mj_ins 207 5 = some (.iload 1, 6) := by decide +kernel
theorem e207_5 {ls : mj_L} {st : List Value} {σ : mj_S} {τ : mj_T} {a0 : Option Value} {v : Int32} : mj_E 207 5 (a0 :: some (.int v) :: ls) st σ τ = mj_E 207 6 (a0 :: some (.int v) :: ls) (.int v :: st) σ τ := mj_nx i207_5 rfl
theorem i207_6 : mj_ins 207 6 = some (.if_icmp .lt 16, 9) := by decide +kernel
theorem e207_6 {ls : mj_L} {st : List Value} {σ : mj_S} {τ : mj_T} {x y : Int32} : mj_E 207 6 ls (.int y :: .int x :: st) σ τ = if x < y then mj_E 207 16 ls st σ τ else mj_E 207 9 ls st σ τ := (mj_ifi i207_6).trans (mj_cdT rfl)
theorem i207_9 : mj_ins 207 9 = some (.aload 2, 10) := by decide +kernel
theorem e207_9 {ls : mj_L} {st : List Value} {σ : mj_S} {τ : mj_T} {a0 a1 : Option Value} {v : Nat} : mj_E 207 9 (a0 :: a1 :: some (.ref v) :: ls) st σ τ = mj_E 207 10 (a0 :: a1 :: some (.ref v) :: ls) (.ref v :: st) σ τ := mj_nx i207_9 rfl
theorem i207_10 : mj_ins 207 10 = some (.iload 0, 11) := by decide +kernel
theorem e207_10 {ls : mj_L} {st : List Value} {σ : mj_S} {τ : mj_T} {v : Int32} : mj_E 207 10 (some (.int v) :: ls) st σ τ = mj_E 207 11 (some (.int v) :: ls) (.int v :: st) σ τ := mj_nx i207_10 rfl
theorem i207_11 : mj_ins 207 11 = some (.iload 1, 12) := by decide +kernel
theorem e207_11 {ls : mj_L} {st : List Value} {σ : mj_S} {τ : mj_T} {a0 : Option Value} {v : Int32} : mj_E 207 11 (a0 :: some (.int v) :: ls) st σ τ = mj_E 207 12 (a0 :: some (.int v) :: ls) (.int v :: st) σ τ := mj_nx i207_11 rfl
theorem i207_16 : mj_ins 207 16 = some (.iload 0, 17) := by decide +kernel
theorem e207_16 {ls : mj_L} {st : List Value} {σ : mj_S} {τ : mj_T} {v : Int32} : mj_E 207 16 (some (.int v) :: ls) st σ τ = mj_E 207 17 (some (.int v) :: ls) (.int v :: st) σ τ := mj_nx i207_16 rfl
theorem i207_17 : mj_ins 207 17 = some (.ireturn, 18) := by decide +kernel
theorem e207_17 {ls : mj_L} {σ : mj_S} {τ : mj_T} {v : Int32} : mj_E 207 17 ls [.int v] σ τ = some (some (.int v), σ, τ) := mj_irt i207_17 rfl
