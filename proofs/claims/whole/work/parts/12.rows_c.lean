/-! the equations of the instructions (laid by wip/whole/rows.py) -/
theorem c38 {σ : mj_S} {τ : mj_T} {r : Nat} {x0 : Nat} : mj_C 38 [.ref r, .ref x0] σ τ = mj_E 38 0 [some (.ref r), some (.ref x0), none, none, none] [] σ τ := rfl
theorem i38_0 : mj_ins 38 0 = some (.iconst (0), 1) := by decide +kernel
theorem e38_0 {ls : mj_L} {st : List Value} {σ : mj_S} {τ : mj_T} : mj_E 38 0 ls st σ τ = mj_E 38 1 ls (.int (nI 0) :: st) σ τ := mj_nx i38_0 rfl
theorem i38_1 : mj_ins 38 1 = some (.istore 2, 2) := by decide +kernel
theorem e38_1 {ls : mj_L} {st : List Value} {σ : mj_S} {τ : mj_T} {a0 a1 a2 : Option Value} {v : Int32} : mj_E 38 1 (a0 :: a1 :: a2 :: ls) (.int v :: st) σ τ = mj_E 38 2 (a0 :: a1 :: some (.int v) :: ls) st σ τ := mj_nx i38_1 rfl
theorem i38_2 : mj_ins 38 2 = some (.iload 2, 3) := by decide +kernel
theorem e38_2 {ls : mj_L} {st : List Value} {σ : mj_S} {τ : mj_T} {a0 a1 : Option Value} {v : Int32} : mj_E 38 2 (a0 :: a1 :: some (.int v) :: ls) st σ τ = mj_E 38 3 (a0 :: a1 :: some (.int v) :: ls) (.int v :: st) σ τ := mj_nx i38_2 rfl
theorem i38_3 : mj_ins 38 3 = some (.iconst (6), 5) := by decide +kernel
theorem e38_3 {ls : mj_L} {st : List Value} {σ : mj_S} {τ : mj_T} : mj_E 38 3 ls st σ τ = mj_E 38 5 ls (.int (nI 6) :: st) σ τ := mj_nx i38_3 rfl
theorem i38_5 : mj_ins 38 5 = some (.if_icmp .ge 28, 8) := by decide +kernel
theorem e38_5 {ls : mj_L} {st : List Value} {σ : mj_S} {τ : mj_T} {x y : Int32} : mj_E 38 5 ls (.int y :: .int x :: st) σ τ = if y ≤ x then mj_E 38 28 ls st σ τ else mj_E 38 8 ls st σ τ := (mj_ifi i38_5).trans (mj_cdT rfl)
theorem i38_8 : mj_ins 38 8 = some (.aload 0, 9) := by decide +kernel
theorem e38_8 {ls : mj_L} {st : List Value} {σ : mj_S} {τ : mj_T} {v : Nat} : mj_E 38 8 (some (.ref v) :: ls) st σ τ = mj_E 38 9 (some (.ref v) :: ls) (.ref v :: st) σ τ := mj_nx i38_8 rfl
theorem i38_9 : mj_ins 38 9 = some (.getfield 200, 12) := by decide +kernel
theorem e38_9 {ls : mj_L} {st : List Value} {σ : mj_S} {τ : mj_T} : mj_E 38 9 ls (.ref 8 :: st) σ τ = mj_E 38 12 ls (.ref 56 :: st) σ τ := mj_nx i38_9 rfl
theorem i38_12 : mj_ins 38 12 = some (.iload 2, 13) := by decide +kernel
theorem e38_12 {ls : mj_L} {st : List Value} {σ : mj_S} {τ : mj_T} {a0 a1 : Option Value} {v : Int32} : mj_E 38 12 (a0 :: a1 :: some (.int v) :: ls) st σ τ = mj_E 38 13 (a0 :: a1 :: some (.int v) :: ls) (.int v :: st) σ τ := mj_nx i38_12 rfl
theorem i38_13 : mj_ins 38 13 = some (.iconst (-1), 14) := by decide +kernel
theorem e38_13 {ls : mj_L} {st : List Value} {σ : mj_S} {τ : mj_T} : mj_E 38 13 ls st σ τ = mj_E 38 14 ls (.int ((-1)) :: st) σ τ := mj_nx i38_13 rfl
theorem i38_14 : mj_ins 38 14 = some (.iastore, 15) := by decide +kernel
theorem e38_14 {ls : mj_L} {st : List Value} {σ : mj_S} {τ : mj_T} {x v : Int32} {k : Nat} : mj_E 38 14 ls (.int v :: .int x :: .ref k :: st) σ τ = if mj_ib (mj_lw k) x = true then mj_E 38 15 ls st (mj_up σ k x.toNatClampNeg v) τ else none := mj_ast i38_14
theorem i38_15 : mj_ins 38 15 = some (.aload 0, 16) := by decide +kernel
theorem e38_15 {ls : mj_L} {st : List Value} {σ : mj_S} {τ : mj_T} {v : Nat} : mj_E 38 15 (some (.ref v) :: ls) st σ τ = mj_E 38 16 (some (.ref v) :: ls) (.ref v :: st) σ τ := mj_nx i38_15 rfl
theorem i38_16 : mj_ins 38 16 = some (.getfield 201, 19) := by decide +kernel
theorem e38_16 {ls : mj_L} {st : List Value} {σ : mj_S} {τ : mj_T} : mj_E 38 16 ls (.ref 8 :: st) σ τ = mj_E 38 19 ls (.ref 57 :: st) σ τ := mj_nx i38_16 rfl
theorem i38_19 : mj_ins 38 19 = some (.iload 2, 20) := by decide +kernel
theorem e38_19 {ls : mj_L} {st : List Value} {σ : mj_S} {τ : mj_T} {a0 a1 : Option Value} {v : Int32} : mj_E 38 19 (a0 :: a1 :: some (.int v) :: ls) st σ τ = mj_E 38 20 (a0 :: a1 :: some (.int v) :: ls) (.int v :: st) σ τ := mj_nx i38_19 rfl
theorem i38_20 : mj_ins 38 20 = some (.iconst (0), 21) := by decide +kernel
theorem e38_20 {ls : mj_L} {st : List Value} {σ : mj_S} {τ : mj_T} : mj_E 38 20 ls st σ τ = mj_E 38 21 ls (.int (nI 0) :: st) σ τ := mj_nx i38_20 rfl
theorem i38_21 : mj_ins 38 21 = some (.iastore, 22) := by decide +kernel
theorem e38_21 {ls : mj_L} {st : List Value} {σ : mj_S} {τ : mj_T} {x v : Int32} {k : Nat} : mj_E 38 21 ls (.int v :: .int x :: .ref k :: st) σ τ = if mj_ib (mj_lw k) x = true then mj_E 38 22 ls st (mj_up σ k x.toNatClampNeg v) τ else none := mj_ast i38_21
theorem i38_22 : mj_ins 38 22 = some (.iinc 2 (1), 25) := by decide +kernel
theorem e38_22 {ls : mj_L} {st : List Value} {σ : mj_S} {τ : mj_T} {a0 a1 : Option Value} {v : Int32} : mj_E 38 22 (a0 :: a1 :: some (.int v) :: ls) st σ τ = mj_E 38 25 (a0 :: a1 :: some (.int (v + nI 1)) :: ls) st σ τ := mj_nx i38_22 rfl
theorem i38_25 : mj_ins 38 25 = some (.goto 2, 28) := by decide +kernel
theorem e38_25 {ls : mj_L} {st : List Value} {σ : mj_S} {τ : mj_T} : mj_E 38 25 ls st σ τ = mj_E 38 2 ls st σ τ := mj_nx i38_25 rfl
theorem i38_28 : mj_ins 38 28 = some (.iconst (1), 29) := by decide +kernel
theorem e38_28 {ls : mj_L} {st : List Value} {σ : mj_S} {τ : mj_T} : mj_E 38 28 ls st σ τ = mj_E 38 29 ls (.int (nI 1) :: st) σ τ := mj_nx i38_28 rfl
theorem i38_29 : mj_ins 38 29 = some (.istore 2, 30) := by decide +kernel
theorem e38_29 {ls : mj_L} {st : List Value} {σ : mj_S} {τ : mj_T} {a0 a1 a2 : Option Value} {v : Int32} : mj_E 38 29 (a0 :: a1 :: a2 :: ls) (.int v :: st) σ τ = mj_E 38 30 (a0 :: a1 :: some (.int v) :: ls) st σ τ := mj_nx i38_29 rfl
theorem i38_30 : mj_ins 38 30 = some (.iconst (0), 31) := by decide +kernel
theorem e38_30 {ls : mj_L} {st : List Value} {σ : mj_S} {τ : mj_T} : mj_E 38 30 ls st σ τ = mj_E 38 31 ls (.int (nI 0) :: st) σ τ := mj_nx i38_30 rfl
theorem i38_31 : mj_ins 38 31 = some (.istore 3, 32) := by decide +kernel
theorem e38_31 {ls : mj_L} {st : List Value} {σ : mj_S} {τ : mj_T} {a0 a1 a2 a3 : Option Value} {v : Int32} : mj_E 38 31 (a0 :: a1 :: a2 :: a3 :: ls) (.int v :: st) σ τ = mj_E 38 32 (a0 :: a1 :: a2 :: some (.int v) :: ls) st σ τ := mj_nx i38_31 rfl
theorem i38_32 : mj_ins 38 32 = some (.iload 2, 33) := by decide +kernel
theorem e38_32 {ls : mj_L} {st : List Value} {σ : mj_S} {τ : mj_T} {a0 a1 : Option Value} {v : Int32} : mj_E 38 32 (a0 :: a1 :: some (.int v) :: ls) st σ τ = mj_E 38 33 (a0 :: a1 :: some (.int v) :: ls) (.int v :: st) σ τ := mj_nx i38_32 rfl
theorem i38_33 : mj_ins 38 33 = some (.ifCond .eq 91, 36) := by decide +kernel
theorem e38_33 {ls : mj_L} {st : List Value} {σ : mj_S} {τ : mj_T} {x : Int32} : mj_E 38 33 ls (.int x :: st) σ τ = if x = 0 then mj_E 38 91 ls st σ τ else mj_E 38 36 ls st σ τ := (mj_ifc i38_33).trans (mj_cdT rfl)
theorem i38_36 : mj_ins 38 36 = some (.iload 3, 37) := by decide +kernel
theorem e38_36 {ls : mj_L} {st : List Value} {σ : mj_S} {τ : mj_T} {a0 a1 a2 : Option Value} {v : Int32} : mj_E 38 36 (a0 :: a1 :: a2 :: some (.int v) :: ls) st σ τ = mj_E 38 37 (a0 :: a1 :: a2 :: some (.int v) :: ls) (.int v :: st) σ τ := mj_nx i38_36 rfl
theorem i38_37 : mj_ins 38 37 = some (.iconst (48), 39) := by decide +kernel
theorem e38_37 {ls : mj_L} {st : List Value} {σ : mj_S} {τ : mj_T} : mj_E 38 37 ls st σ τ = mj_E 38 39 ls (.int (nI 48) :: st) σ τ := mj_nx i38_37 rfl
theorem i38_39 : mj_ins 38 39 = some (.if_icmp .gt 91, 42) := by decide +kernel
theorem e38_39 {ls : mj_L} {st : List Value} {σ : mj_S} {τ : mj_T} {x y : Int32} : mj_E 38 39 ls (.int y :: .int x :: st) σ τ = if y < x then mj_E 38 91 ls st σ τ else mj_E 38 42 ls st σ τ := (mj_ifi i38_39).trans (mj_cdT rfl)
theorem i38_42 : mj_ins 38 42 = some (.iconst (0), 43) := by decide +kernel
theorem e38_42 {ls : mj_L} {st : List Value} {σ : mj_S} {τ : mj_T} : mj_E 38 42 ls st σ τ = mj_E 38 43 ls (.int (nI 0) :: st) σ τ := mj_nx i38_42 rfl
theorem i38_43 : mj_ins 38 43 = some (.istore 2, 44) := by decide +kernel
theorem e38_43 {ls : mj_L} {st : List Value} {σ : mj_S} {τ : mj_T} {a0 a1 a2 : Option Value} {v : Int32} : mj_E 38 43 (a0 :: a1 :: a2 :: ls) (.int v :: st) σ τ = mj_E 38 44 (a0 :: a1 :: some (.int v) :: ls) st σ τ := mj_nx i38_43 rfl
theorem i38_44 : mj_ins 38 44 = some (.iconst (0), 45) := by decide +kernel
theorem e38_44 {ls : mj_L} {st : List Value} {σ : mj_S} {τ : mj_T} : mj_E 38 44 ls st σ τ = mj_E 38 45 ls (.int (nI 0) :: st) σ τ := mj_nx i38_44 rfl
theorem i38_45 : mj_ins 38 45 = some (.istore 4, 47) := by decide +kernel
theorem e38_45 {ls : mj_L} {st : List Value} {σ : mj_S} {τ : mj_T} {a0 a1 a2 a3 a4 : Option Value} {v : Int32} : mj_E 38 45 (a0 :: a1 :: a2 :: a3 :: a4 :: ls) (.int v :: st) σ τ = mj_E 38 47 (a0 :: a1 :: a2 :: a3 :: some (.int v) :: ls) st σ τ := mj_nx i38_45 rfl
theorem i38_47 : mj_ins 38 47 = some (.iload 4, 49) := by decide +kernel
theorem e38_47 {ls : mj_L} {st : List Value} {σ : mj_S} {τ : mj_T} {a0 a1 a2 a3 : Option Value} {v : Int32} : mj_E 38 47 (a0 :: a1 :: a2 :: a3 :: some (.int v) :: ls) st σ τ = mj_E 38 49 (a0 :: a1 :: a2 :: a3 :: some (.int v) :: ls) (.int v :: st) σ τ := mj_nx i38_47 rfl
theorem i38_49 : mj_ins 38 49 = some (.aload 1, 50) := by decide +kernel
theorem e38_49 {ls : mj_L} {st : List Value} {σ : mj_S} {τ : mj_T} {a0 : Option Value} {v : Nat} : mj_E 38 49 (a0 :: some (.ref v) :: ls) st σ τ = mj_E 38 50 (a0 :: some (.ref v) :: ls) (.ref v :: st) σ τ := mj_nx i38_49 rfl
theorem i38_50 : mj_ins 38 50 = some (.getfield 101, 53) := by decide +kernel
theorem e38_50 {ls : mj_L} {st : List Value} {σ : mj_S} {τ : mj_T} {k : Nat} (h1 : 1 ≤ k) (h2 : k ≤ 3) : mj_E 38 50 ls (.ref k :: st) σ τ = mj_E 38 53 ls (.int (σ k 1) :: st) σ τ := (mj_gf i38_50).trans (congrArg (fun z => mj_ov z _) (fv1_1 h1 h2))
theorem i38_53 : mj_ins 38 53 = some (.if_icmp .ge 85, 56) := by decide +kernel
theorem e38_53 {ls : mj_L} {st : List Value} {σ : mj_S} {τ : mj_T} {x y : Int32} : mj_E 38 53 ls (.int y :: .int x :: st) σ τ = if y ≤ x then mj_E 38 85 ls st σ τ else mj_E 38 56 ls st σ τ := (mj_ifi i38_53).trans (mj_cdT rfl)
theorem i38_56 : mj_ins 38 56 = some (.aload 0, 57) := by decide +kernel
theorem e38_56 {ls : mj_L} {st : List Value} {σ : mj_S} {τ : mj_T} {v : Nat} : mj_E 38 56 (some (.ref v) :: ls) st σ τ = mj_E 38 57 (some (.ref v) :: ls) (.ref v :: st) σ τ := mj_nx i38_56 rfl
theorem i38_57 : mj_ins 38 57 = some (.getfield 200, 60) := by decide +kernel
theorem e38_57 {ls : mj_L} {st : List Value} {σ : mj_S} {τ : mj_T} : mj_E 38 57 ls (.ref 8 :: st) σ τ = mj_E 38 60 ls (.ref 56 :: st) σ τ := mj_nx i38_57 rfl
theorem i38_60 : mj_ins 38 60 = some (.iload 4, 62) := by decide +kernel
theorem e38_60 {ls : mj_L} {st : List Value} {σ : mj_S} {τ : mj_T} {a0 a1 a2 a3 : Option Value} {v : Int32} : mj_E 38 60 (a0 :: a1 :: a2 :: a3 :: some (.int v) :: ls) st σ τ = mj_E 38 62 (a0 :: a1 :: a2 :: a3 :: some (.int v) :: ls) (.int v :: st) σ τ := mj_nx i38_60 rfl
theorem i38_62 : mj_ins 38 62 = some (.iaload, 63) := by decide +kernel
theorem e38_62 {ls : mj_L} {st : List Value} {σ : mj_S} {τ : mj_T} {x : Int32} {k : Nat} : mj_E 38 62 ls (.int x :: .ref k :: st) σ τ = if mj_ib (mj_li σ k) x = true then mj_E 38 63 ls (.int (σ k x.toNatClampNeg) :: st) σ τ else none := mj_ald i38_62
theorem i38_63 : mj_ins 38 63 = some (.iconst (-1), 64) := by decide +kernel
theorem e38_63 {ls : mj_L} {st : List Value} {σ : mj_S} {τ : mj_T} : mj_E 38 63 ls st σ τ = mj_E 38 64 ls (.int ((-1)) :: st) σ τ := mj_nx i38_63 rfl
theorem i38_64 : mj_ins 38 64 = some (.if_icmp .ne 79, 67) := by decide +kernel
theorem e38_64 {ls : mj_L} {st : List Value} {σ : mj_S} {τ : mj_T} {x y : Int32} : mj_E 38 64 ls (.int y :: .int x :: st) σ τ = if x = y then mj_E 38 67 ls st σ τ else mj_E 38 79 ls st σ τ := (mj_ifi i38_64).trans (mj_cdF rfl)
theorem i38_67 : mj_ins 38 67 = some (.aload 0, 68) := by decide +kernel
theorem e38_67 {ls : mj_L} {st : List Value} {σ : mj_S} {τ : mj_T} {v : Nat} : mj_E 38 67 (some (.ref v) :: ls) st σ τ = mj_E 38 68 (some (.ref v) :: ls) (.ref v :: st) σ τ := mj_nx i38_67 rfl
theorem i38_68 : mj_ins 38 68 = some (.aload 1, 69) := by decide +kernel
theorem e38_68 {ls : mj_L} {st : List Value} {σ : mj_S} {τ : mj_T} {a0 : Option Value} {v : Nat} : mj_E 38 68 (a0 :: some (.ref v) :: ls) st σ τ = mj_E 38 69 (a0 :: some (.ref v) :: ls) (.ref v :: st) σ τ := mj_nx i38_68 rfl
theorem i38_69 : mj_ins 38 69 = some (.iload 4, 71) := by decide +kernel
theorem e38_69 {ls : mj_L} {st : List Value} {σ : mj_S} {τ : mj_T} {a0 a1 a2 a3 : Option Value} {v : Int32} : mj_E 38 69 (a0 :: a1 :: a2 :: a3 :: some (.int v) :: ls) st σ τ = mj_E 38 71 (a0 :: a1 :: a2 :: a3 :: some (.int v) :: ls) (.int v :: st) σ τ := mj_nx i38_69 rfl
theorem i38_71 : mj_ins 38 71 = some (.invokevirtual 39, 74) := by decide +kernel
theorem e38_71 {ls : mj_L} {σ : mj_S} {τ : mj_T} {r : Nat} {x0 : Nat} {x1 : Int32} : mj_E 38 71 ls [.int x1, .ref x0, .ref r] σ τ = if mj_rcv r 2 = true then mj_bd (mj_C 39 [.ref r, .ref x0, .int x1] σ τ) (mj_K 38 74 ls []) else none := mj_clV (as := [.ref x0, .int x1]) (r := []) i38_71 (by decide +kernel : mj_vk 38 39 2 0 3 false = true) (by decide +kernel)
theorem i38_74 : mj_ins 38 74 = some (.ifCond .eq 79, 77) := by decide +kernel
theorem e38_74 {ls : mj_L} {st : List Value} {σ : mj_S} {τ : mj_T} {x : Int32} : mj_E 38 74 ls (.int x :: st) σ τ = if x = 0 then mj_E 38 79 ls st σ τ else mj_E 38 77 ls st σ τ := (mj_ifc i38_74).trans (mj_cdT rfl)
theorem i38_77 : mj_ins 38 77 = some (.iconst (1), 78) := by decide +kernel
theorem e38_77 {ls : mj_L} {st : List Value} {σ : mj_S} {τ : mj_T} : mj_E 38 77 ls st σ τ = mj_E 38 78 ls (.int (nI 1) :: st) σ τ := mj_nx i38_77 rfl
theorem i38_78 : mj_ins 38 78 = some (.istore 2, 79) := by decide +kernel
theorem e38_78 {ls : mj_L} {st : List Value} {σ : mj_S} {τ : mj_T} {a0 a1 a2 : Option Value} {v : Int32} : mj_E 38 78 (a0 :: a1 :: a2 :: ls) (.int v :: st) σ τ = mj_E 38 79 (a0 :: a1 :: some (.int v) :: ls) st σ τ := mj_nx i38_78 rfl
theorem i38_79 : mj_ins 38 79 = some (.iinc 4 (1), 82) := by decide +kernel
theorem e38_79 {ls : mj_L} {st : List Value} {σ : mj_S} {τ : mj_T} {a0 a1 a2 a3 : Option Value} {v : Int32} : mj_E 38 79 (a0 :: a1 :: a2 :: a3 :: some (.int v) :: ls) st σ τ = mj_E 38 82 (a0 :: a1 :: a2 :: a3 :: some (.int (v + nI 1)) :: ls) st σ τ := mj_nx i38_79 rfl
theorem i38_82 : mj_ins 38 82 = some (.goto 47, 85) := by decide +kernel
theorem e38_82 {ls : mj_L} {st : List Value} {σ : mj_S} {τ : mj_T} : mj_E 38 82 ls st σ τ = mj_E 38 47 ls st σ τ := mj_nx i38_82 rfl
theorem i38_85 : mj_ins 38 85 = some (.iinc 3 (1), 88) := by decide +kernel
theorem e38_85 {ls : mj_L} {st : List Value} {σ : mj_S} {τ : mj_T} {a0 a1 a2 : Option Value} {v : Int32} : mj_E 38 85 (a0 :: a1 :: a2 :: some (.int v) :: ls) st σ τ = mj_E 38 88 (a0 :: a1 :: a2 :: some (.int (v + nI 1)) :: ls) st σ τ := mj_nx i38_85 rfl
theorem i38_88 : mj_ins 38 88 = some (.goto 32, 91) := by decide +kernel
theorem e38_88 {ls : mj_L} {st : List Value} {σ : mj_S} {τ : mj_T} : mj_E 38 88 ls st σ τ = mj_E 38 32 ls st σ τ := mj_nx i38_88 rfl
theorem i38_91 : mj_ins 38 91 = some (.return_, 92) := by decide +kernel
theorem e38_91 {ls : mj_L} {σ : mj_S} {τ : mj_T} : mj_E 38 91 ls [] σ τ = some (none, σ, τ) := mj_vrt i38_91 rfl
theorem c39 {σ : mj_S} {τ : mj_T} {r : Nat} {x0 : Nat} {x1 : Int32} : mj_C 39 [.ref r, .ref x0, .int x1] σ τ = mj_E 39 0 [some (.ref r), some (.ref x0), some (.int x1), none, none] [] σ τ := rfl
theorem i39_0 : mj_ins 39 0 = some (.aload 0, 1) := by decide +kernel
theorem e39_0 {ls : mj_L} {st : List Value} {σ : mj_S} {τ : mj_T} {v : Nat} : mj_E 39 0 (some (.ref v) :: ls) st σ τ = mj_E 39 1 (some (.ref v) :: ls) (.ref v :: st) σ τ := mj_nx i39_0 rfl
theorem i39_1 : mj_ins 39 1 = some (.aload 1, 2) := by decide +kernel
theorem e39_1 {ls : mj_L} {st : List Value} {σ : mj_S} {τ : mj_T} {a0 : Option Value} {v : Nat} : mj_E 39 1 (a0 :: some (.ref v) :: ls) st σ τ = mj_E 39 2 (a0 :: some (.ref v) :: ls) (.ref v :: st) σ τ := mj_nx i39_1 rfl
theorem i39_2 : mj_ins 39 2 = some (.iload 2, 3) := by decide +kernel
theorem e39_2 {ls : mj_L} {st : List Value} {σ : mj_S} {τ : mj_T} {a0 a1 : Option Value} {v : Int32} : mj_E 39 2 (a0 :: a1 :: some (.int v) :: ls) st σ τ = mj_E 39 3 (a0 :: a1 :: some (.int v) :: ls) (.int v :: st) σ τ := mj_nx i39_2 rfl
theorem i39_3 : mj_ins 39 3 = some (.invokevirtual 40, 6) := by decide +kernel
theorem e39_3 {ls : mj_L} {σ : mj_S} {τ : mj_T} {r : Nat} {x0 : Nat} {x1 : Int32} : mj_E 39 3 ls [.int x1, .ref x0, .ref r] σ τ = if mj_rcv r 2 = true then mj_bd (mj_C 40 [.ref r, .ref x0, .int x1] σ τ) (mj_K 39 6 ls []) else none := mj_clV (as := [.ref x0, .int x1]) (r := []) i39_3 (by decide +kernel : mj_vk 39 40 2 0 3 false = true) (by decide +kernel)
theorem i39_6 : mj_ins 39 6 = some (.istore 3, 7) := by decide +kernel
theorem e39_6 {ls : mj_L} {st : List Value} {σ : mj_S} {τ : mj_T} {a0 a1 a2 a3 : Option Value} {v : Int32} : mj_E 39 6 (a0 :: a1 :: a2 :: a3 :: ls) (.int v :: st) σ τ = mj_E 39 7 (a0 :: a1 :: a2 :: some (.int v) :: ls) st σ τ := mj_nx i39_6 rfl
theorem i39_7 : mj_ins 39 7 = some (.iload 3, 8) := by decide +kernel
theorem e39_7 {ls : mj_L} {st : List Value} {σ : mj_S} {τ : mj_T} {a0 a1 a2 : Option Value} {v : Int32} : mj_E 39 7 (a0 :: a1 :: a2 :: some (.int v) :: ls) st σ τ = mj_E 39 8 (a0 :: a1 :: a2 :: some (.int v) :: ls) (.int v :: st) σ τ := mj_nx i39_7 rfl
theorem i39_8 : mj_ins 39 8 = some (.iconst (-1), 9) := by decide +kernel
theorem e39_8 {ls : mj_L} {st : List Value} {σ : mj_S} {τ : mj_T} : mj_E 39 8 ls st σ τ = mj_E 39 9 ls (.int ((-1)) :: st) σ τ := mj_nx i39_8 rfl
theorem i39_9 : mj_ins 39 9 = some (.if_icmp .ne 14, 12) := by decide +kernel
theorem e39_9 {ls : mj_L} {st : List Value} {σ : mj_S} {τ : mj_T} {x y : Int32} : mj_E 39 9 ls (.int y :: .int x :: st) σ τ = if x = y then mj_E 39 12 ls st σ τ else mj_E 39 14 ls st σ τ := (mj_ifi i39_9).trans (mj_cdF rfl)
theorem i39_12 : mj_ins 39 12 = some (.iconst (0), 13) := by decide +kernel
theorem e39_12 {ls : mj_L} {st : List Value} {σ : mj_S} {τ : mj_T} : mj_E 39 12 ls st σ τ = mj_E 39 13 ls (.int (nI 0) :: st) σ τ := mj_nx i39_12 rfl
theorem i39_13 : mj_ins 39 13 = some (.ireturn, 14) := by decide +kernel
theorem e39_13 {ls : mj_L} {σ : mj_S} {τ : mj_T} {v : Int32} : mj_E 39 13 ls [.int v] σ τ = if mj_ok (some .boolean) v = true then some (some (.int v), σ, τ) else none := mj_zrt i39_13 rfl
theorem i39_14 : mj_ins 39 14 = some (.aload 0, 15) := by decide +kernel
theorem e39_14 {ls : mj_L} {st : List Value} {σ : mj_S} {τ : mj_T} {v : Nat} : mj_E 39 14 (some (.ref v) :: ls) st σ τ = mj_E 39 15 (some (.ref v) :: ls) (.ref v :: st) σ τ := mj_nx i39_14 rfl
theorem i39_15 : mj_ins 39 15 = some (.getfield 200, 18) := by decide +kernel
theorem e39_15 {ls : mj_L} {st : List Value} {σ : mj_S} {τ : mj_T} : mj_E 39 15 ls (.ref 8 :: st) σ τ = mj_E 39 18 ls (.ref 56 :: st) σ τ := mj_nx i39_15 rfl
theorem i39_18 : mj_ins 39 18 = some (.iload 2, 19) := by decide +kernel
theorem e39_18 {ls : mj_L} {st : List Value} {σ : mj_S} {τ : mj_T} {a0 a1 : Option Value} {v : Int32} : mj_E 39 18 (a0 :: a1 :: some (.int v) :: ls) st σ τ = mj_E 39 19 (a0 :: a1 :: some (.int v) :: ls) (.int v :: st) σ τ := mj_nx i39_18 rfl
theorem i39_19 : mj_ins 39 19 = some (.iload 3, 20) := by decide +kernel
theorem e39_19 {ls : mj_L} {st : List Value} {σ : mj_S} {τ : mj_T} {a0 a1 a2 : Option Value} {v : Int32} : mj_E 39 19 (a0 :: a1 :: a2 :: some (.int v) :: ls) st σ τ = mj_E 39 20 (a0 :: a1 :: a2 :: some (.int v) :: ls) (.int v :: st) σ τ := mj_nx i39_19 rfl
theorem i39_20 : mj_ins 39 20 = some (.iastore, 21) := by decide +kernel
theorem e39_20 {ls : mj_L} {st : List Value} {σ : mj_S} {τ : mj_T} {x v : Int32} {k : Nat} : mj_E 39 20 ls (.int v :: .int x :: .ref k :: st) σ τ = if mj_ib (mj_lw k) x = true then mj_E 39 21 ls st (mj_up σ k x.toNatClampNeg v) τ else none := mj_ast i39_20
theorem i39_21 : mj_ins 39 21 = some (.aload 0, 22) := by decide +kernel
theorem e39_21 {ls : mj_L} {st : List Value} {σ : mj_S} {τ : mj_T} {v : Nat} : mj_E 39 21 (some (.ref v) :: ls) st σ τ = mj_E 39 22 (some (.ref v) :: ls) (.ref v :: st) σ τ := mj_nx i39_21 rfl
theorem i39_22 : mj_ins 39 22 = some (.aload 1, 23) := by decide +kernel
theorem e39_22 {ls : mj_L} {st : List Value} {σ : mj_S} {τ : mj_T} {a0 : Option Value} {v : Nat} : mj_E 39 22 (a0 :: some (.ref v) :: ls) st σ τ = mj_E 39 23 (a0 :: some (.ref v) :: ls) (.ref v :: st) σ τ := mj_nx i39_22 rfl
theorem i39_23 : mj_ins 39 23 = some (.iload 3, 24) := by decide +kernel
theorem e39_23 {ls : mj_L} {st : List Value} {σ : mj_S} {τ : mj_T} {a0 a1 a2 : Option Value} {v : Int32} : mj_E 39 23 (a0 :: a1 :: a2 :: some (.int v) :: ls) st σ τ = mj_E 39 24 (a0 :: a1 :: a2 :: some (.int v) :: ls) (.int v :: st) σ τ := mj_nx i39_23 rfl
theorem i39_24 : mj_ins 39 24 = some (.invokevirtual 41, 27) := by decide +kernel
theorem e39_24 {ls : mj_L} {σ : mj_S} {τ : mj_T} {r : Nat} {x0 : Nat} {x1 : Int32} : mj_E 39 24 ls [.int x1, .ref x0, .ref r] σ τ = if mj_rcv r 2 = true then mj_bd (mj_C 41 [.ref r, .ref x0, .int x1] σ τ) (mj_K 39 27 ls []) else none := mj_clV (as := [.ref x0, .int x1]) (r := []) i39_24 (by decide +kernel : mj_vk 39 41 2 0 3 false = true) (by decide +kernel)
theorem i39_27 : mj_ins 39 27 = some (.aload 1, 28) := by decide +kernel
theorem e39_27 {ls : mj_L} {st : List Value} {σ : mj_S} {τ : mj_T} {a0 : Option Value} {v : Nat} : mj_E 39 27 (a0 :: some (.ref v) :: ls) st σ τ = mj_E 39 28 (a0 :: some (.ref v) :: ls) (.ref v :: st) σ τ := mj_nx i39_27 rfl
theorem i39_28 : mj_ins 39 28 = some (.iload 3, 29) := by decide +kernel
theorem e39_28 {ls : mj_L} {st : List Value} {σ : mj_S} {τ : mj_T} {a0 a1 a2 : Option Value} {v : Int32} : mj_E 39 28 (a0 :: a1 :: a2 :: some (.int v) :: ls) st σ τ = mj_E 39 29 (a0 :: a1 :: a2 :: some (.int v) :: ls) (.int v :: st) σ τ := mj_nx i39_28 rfl
theorem i39_29 : mj_ins 39 29 = some (.invokevirtual 15, 32) := by decide +kernel
theorem e39_29 {ls : mj_L} {σ : mj_S} {τ : mj_T} {r : Nat} {x0 : Int32} {w0 : Value} : mj_E 39 29 ls [.int x0, .ref r, w0] σ τ = if mj_rcv r 1 = true then mj_bd (mj_C 15 [.ref r, .int x0] σ τ) (mj_K 39 32 ls [w0]) else none := mj_clV (as := [.int x0]) (r := [w0]) i39_29 (by decide +kernel : mj_vk 39 15 1 1 2 false = true) (by decide +kernel)
theorem i39_32 : mj_ins 39 32 = some (.if_icmp .le 65, 35) := by decide +kernel
theorem e39_32 {ls : mj_L} {st : List Value} {σ : mj_S} {τ : mj_T} {x y : Int32} : mj_E 39 32 ls (.int y :: .int x :: st) σ τ = if x ≤ y then mj_E 39 65 ls st σ τ else mj_E 39 35 ls st σ τ := (mj_ifi i39_32).trans (mj_cdT rfl)
theorem i39_35 : mj_ins 39 35 = some (.aload 0, 36) := by decide +kernel
theorem e39_35 {ls : mj_L} {st : List Value} {σ : mj_S} {τ : mj_T} {v : Nat} : mj_E 39 35 (some (.ref v) :: ls) st σ τ = mj_E 39 36 (some (.ref v) :: ls) (.ref v :: st) σ τ := mj_nx i39_35 rfl
theorem i39_36 : mj_ins 39 36 = some (.aload 1, 37) := by decide +kernel
theorem e39_36 {ls : mj_L} {st : List Value} {σ : mj_S} {τ : mj_T} {a0 : Option Value} {v : Nat} : mj_E 39 36 (a0 :: some (.ref v) :: ls) st σ τ = mj_E 39 37 (a0 :: some (.ref v) :: ls) (.ref v :: st) σ τ := mj_nx i39_36 rfl
theorem i39_37 : mj_ins 39 37 = some (.iload 3, 38) := by decide +kernel
theorem e39_37 {ls : mj_L} {st : List Value} {σ : mj_S} {τ : mj_T} {a0 a1 a2 : Option Value} {v : Int32} : mj_E 39 37 (a0 :: a1 :: a2 :: some (.int v) :: ls) st σ τ = mj_E 39 38 (a0 :: a1 :: a2 :: some (.int v) :: ls) (.int v :: st) σ τ := mj_nx i39_37 rfl
theorem i39_38 : mj_ins 39 38 = some (.iload 2, 39) := by decide +kernel
theorem e39_38 {ls : mj_L} {st : List Value} {σ : mj_S} {τ : mj_T} {a0 a1 : Option Value} {v : Int32} : mj_E 39 38 (a0 :: a1 :: some (.int v) :: ls) st σ τ = mj_E 39 39 (a0 :: a1 :: some (.int v) :: ls) (.int v :: st) σ τ := mj_nx i39_38 rfl
theorem i39_39 : mj_ins 39 39 = some (.invokevirtual 42, 42) := by decide +kernel
theorem e39_39 {ls : mj_L} {σ : mj_S} {τ : mj_T} {r : Nat} {x0 : Nat} {x1 : Int32} {x2 : Int32} : mj_E 39 39 ls [.int x2, .int x1, .ref x0, .ref r] σ τ = if mj_rcv r 2 = true then mj_bd (mj_C 42 [.ref r, .ref x0, .int x1, .int x2] σ τ) (mj_K 39 42 ls []) else none := mj_clV (as := [.ref x0, .int x1, .int x2]) (r := []) i39_39 (by decide +kernel : mj_vk 39 42 3 0 4 false = true) (by decide +kernel)
theorem i39_42 : mj_ins 39 42 = some (.istore 4, 44) := by decide +kernel
theorem e39_42 {ls : mj_L} {st : List Value} {σ : mj_S} {τ : mj_T} {a0 a1 a2 a3 a4 : Option Value} {v : Int32} : mj_E 39 42 (a0 :: a1 :: a2 :: a3 :: a4 :: ls) (.int v :: st) σ τ = mj_E 39 44 (a0 :: a1 :: a2 :: a3 :: some (.int v) :: ls) st σ τ := mj_nx i39_42 rfl
theorem i39_44 : mj_ins 39 44 = some (.aload 0, 45) := by decide +kernel
theorem e39_44 {ls : mj_L} {st : List Value} {σ : mj_S} {τ : mj_T} {v : Nat} : mj_E 39 44 (some (.ref v) :: ls) st σ τ = mj_E 39 45 (some (.ref v) :: ls) (.ref v :: st) σ τ := mj_nx i39_44 rfl
theorem i39_45 : mj_ins 39 45 = some (.getfield 200, 48) := by decide +kernel
theorem e39_45 {ls : mj_L} {st : List Value} {σ : mj_S} {τ : mj_T} : mj_E 39 45 ls (.ref 8 :: st) σ τ = mj_E 39 48 ls (.ref 56 :: st) σ τ := mj_nx i39_45 rfl
theorem i39_48 : mj_ins 39 48 = some (.iload 4, 50) := by decide +kernel
theorem e39_48 {ls : mj_L} {st : List Value} {σ : mj_S} {τ : mj_T} {a0 a1 a2 a3 : Option Value} {v : Int32} : mj_E 39 48 (a0 :: a1 :: a2 :: a3 :: some (.int v) :: ls) st σ τ = mj_E 39 50 (a0 :: a1 :: a2 :: a3 :: some (.int v) :: ls) (.int v :: st) σ τ := mj_nx i39_48 rfl
theorem i39_50 : mj_ins 39 50 = some (.iconst (-1), 51) := by decide +kernel
theorem e39_50 {ls : mj_L} {st : List Value} {σ : mj_S} {τ : mj_T} : mj_E 39 50 ls st σ τ = mj_E 39 51 ls (.int ((-1)) :: st) σ τ := mj_nx i39_50 rfl
theorem i39_51 : mj_ins 39 51 = some (.iastore, 52) := by decide +kernel
theorem e39_51 {ls : mj_L} {st : List Value} {σ : mj_S} {τ : mj_T} {x v : Int32} {k : Nat} : mj_E 39 51 ls (.int v :: .int x :: .ref k :: st) σ τ = if mj_ib (mj_lw k) x = true then mj_E 39 52 ls st (mj_up σ k x.toNatClampNeg v) τ else none := mj_ast i39_51
theorem i39_52 : mj_ins 39 52 = some (.aload 0, 53) := by decide +kernel
theorem e39_52 {ls : mj_L} {st : List Value} {σ : mj_S} {τ : mj_T} {v : Nat} : mj_E 39 52 (some (.ref v) :: ls) st σ τ = mj_E 39 53 (some (.ref v) :: ls) (.ref v :: st) σ τ := mj_nx i39_52 rfl
theorem i39_53 : mj_ins 39 53 = some (.getfield 201, 56) := by decide +kernel
theorem e39_53 {ls : mj_L} {st : List Value} {σ : mj_S} {τ : mj_T} : mj_E 39 53 ls (.ref 8 :: st) σ τ = mj_E 39 56 ls (.ref 57 :: st) σ τ := mj_nx i39_53 rfl
theorem i39_56 : mj_ins 39 56 = some (.iload 4, 58) := by decide +kernel
theorem e39_56 {ls : mj_L} {st : List Value} {σ : mj_S} {τ : mj_T} {a0 a1 a2 a3 : Option Value} {v : Int32} : mj_E 39 56 (a0 :: a1 :: a2 :: a3 :: some (.int v) :: ls) st σ τ = mj_E 39 58 (a0 :: a1 :: a2 :: a3 :: some (.int v) :: ls) (.int v :: st) σ τ := mj_nx i39_56 rfl
theorem i39_58 : mj_ins 39 58 = some (.dup2, 59) := by decide +kernel
theorem e39_58 {ls : mj_L} {st : List Value} {σ : mj_S} {τ : mj_T} {y : Int32} {x : Nat} : mj_E 39 58 ls (.int y :: .ref x :: st) σ τ = mj_E 39 59 ls (.int y :: .ref x :: .int y :: .ref x :: st) σ τ := mj_nx i39_58 rfl
theorem i39_59 : mj_ins 39 59 = some (.iaload, 60) := by decide +kernel
theorem e39_59 {ls : mj_L} {st : List Value} {σ : mj_S} {τ : mj_T} {x : Int32} {k : Nat} : mj_E 39 59 ls (.int x :: .ref k :: st) σ τ = if mj_ib (mj_li σ k) x = true then mj_E 39 60 ls (.int (σ k x.toNatClampNeg) :: st) σ τ else none := mj_ald i39_59
theorem i39_60 : mj_ins 39 60 = some (.iconst (1), 61) := by decide +kernel
theorem e39_60 {ls : mj_L} {st : List Value} {σ : mj_S} {τ : mj_T} : mj_E 39 60 ls st σ τ = mj_E 39 61 ls (.int (nI 1) :: st) σ τ := mj_nx i39_60 rfl
theorem i39_61 : mj_ins 39 61 = some (.iload 3, 62) := by decide +kernel
theorem e39_61 {ls : mj_L} {st : List Value} {σ : mj_S} {τ : mj_T} {a0 a1 a2 : Option Value} {v : Int32} : mj_E 39 61 (a0 :: a1 :: a2 :: some (.int v) :: ls) st σ τ = mj_E 39 62 (a0 :: a1 :: a2 :: some (.int v) :: ls) (.int v :: st) σ τ := mj_nx i39_61 rfl
theorem i39_62 : mj_ins 39 62 = some (.ishl, 63) := by decide +kernel
theorem e39_62 {ls : mj_L} {st : List Value} {σ : mj_S} {τ : mj_T} {x y : Int32} : mj_E 39 62 ls (.int y :: .int x :: st) σ τ = mj_E 39 63 ls (.int (x <<< (y &&& 31)) :: st) σ τ := mj_nx i39_62 rfl
theorem i39_63 : mj_ins 39 63 = some (.ior, 64) := by decide +kernel
theorem e39_63 {ls : mj_L} {st : List Value} {σ : mj_S} {τ : mj_T} {x y : Int32} : mj_E 39 63 ls (.int y :: .int x :: st) σ τ = mj_E 39 64 ls (.int (x ||| y) :: st) σ τ := mj_nx i39_63 rfl
theorem i39_64 : mj_ins 39 64 = some (.iastore, 65) := by decide +kernel
theorem e39_64 {ls : mj_L} {st : List Value} {σ : mj_S} {τ : mj_T} {x v : Int32} {k : Nat} : mj_E 39 64 ls (.int v :: .int x :: .ref k :: st) σ τ = if mj_ib (mj_lw k) x = true then mj_E 39 65 ls st (mj_up σ k x.toNatClampNeg v) τ else none := mj_ast i39_64
theorem i39_65 : mj_ins 39 65 = some (.iconst (1), 66) := by decide +kernel
theorem e39_65 {ls : mj_L} {st : List Value} {σ : mj_S} {τ : mj_T} : mj_E 39 65 ls st σ τ = mj_E 39 66 ls (.int (nI 1) :: st) σ τ := mj_nx i39_65 rfl
theorem i39_66 : mj_ins 39 66 = some (.ireturn, 67) := by decide +kernel
theorem e39_66 {ls : mj_L} {σ : mj_S} {τ : mj_T} {v : Int32} : mj_E 39 66 ls [.int v] σ τ = if mj_ok (some .boolean) v = true then some (some (.int v), σ, τ) else none := mj_zrt i39_66 rfl
theorem c40 {σ : mj_S} {τ : mj_T} {r : Nat} {x0 : Nat} {x1 : Int32} : mj_C 40 [.ref r, .ref x0, .int x1] σ τ = mj_E 40 0 [some (.ref r), some (.ref x0), some (.int x1), none, none, none, none] [] σ τ := rfl
theorem i40_0 : mj_ins 40 0 = some (.aload 1, 1) := by decide +kernel
theorem e40_0 {ls : mj_L} {st : List Value} {σ : mj_S} {τ : mj_T} {a0 : Option Value} {v : Nat} : mj_E 40 0 (a0 :: some (.ref v) :: ls) st σ τ = mj_E 40 1 (a0 :: some (.ref v) :: ls) (.ref v :: st) σ τ := mj_nx i40_0 rfl
theorem i40_1 : mj_ins 40 1 = some (.getfield 113, 4) := by decide +kernel
theorem e40_1 {ls : mj_L} {st : List Value} {σ : mj_S} {τ : mj_T} {k : Nat} (h1 : 1 ≤ k) (h2 : k ≤ 3) : mj_E 40 1 ls (.ref k :: st) σ τ = mj_E 40 4 ls (.ref (10 * k + 8) :: st) σ τ := (mj_gf i40_1).trans (congrArg (fun z => mj_ov z _) (fv1_13 h1 h2))
theorem i40_4 : mj_ins 40 4 = some (.iload 2, 5) := by decide +kernel
theorem e40_4 {ls : mj_L} {st : List Value} {σ : mj_S} {τ : mj_T} {a0 a1 : Option Value} {v : Int32} : mj_E 40 4 (a0 :: a1 :: some (.int v) :: ls) st σ τ = mj_E 40 5 (a0 :: a1 :: some (.int v) :: ls) (.int v :: st) σ τ := mj_nx i40_4 rfl
theorem i40_5 : mj_ins 40 5 = some (.iaload, 6) := by decide +kernel
theorem e40_5 {ls : mj_L} {st : List Value} {σ : mj_S} {τ : mj_T} {x : Int32} {k : Nat} : mj_E 40 5 ls (.int x :: .ref k :: st) σ τ = if mj_ib (mj_li σ k) x = true then mj_E 40 6 ls (.int (σ k x.toNatClampNeg) :: st) σ τ else none := mj_ald i40_5
theorem i40_6 : mj_ins 40 6 = some (.aload 0, 7) := by decide +kernel
theorem e40_6 {ls : mj_L} {st : List Value} {σ : mj_S} {τ : mj_T} {v : Nat} : mj_E 40 6 (some (.ref v) :: ls) st σ τ = mj_E 40 7 (some (.ref v) :: ls) (.ref v :: st) σ τ := mj_nx i40_6 rfl
theorem i40_7 : mj_ins 40 7 = some (.getfield 201, 10) := by decide +kernel
theorem e40_7 {ls : mj_L} {st : List Value} {σ : mj_S} {τ : mj_T} : mj_E 40 7 ls (.ref 8 :: st) σ τ = mj_E 40 10 ls (.ref 57 :: st) σ τ := mj_nx i40_7 rfl
theorem i40_10 : mj_ins 40 10 = some (.iload 2, 11) := by decide +kernel
theorem e40_10 {ls : mj_L} {st : List Value} {σ : mj_S} {τ : mj_T} {a0 a1 : Option Value} {v : Int32} : mj_E 40 10 (a0 :: a1 :: some (.int v) :: ls) st σ τ = mj_E 40 11 (a0 :: a1 :: some (.int v) :: ls) (.int v :: st) σ τ := mj_nx i40_10 rfl
theorem i40_11 : mj_ins 40 11 = some (.iaload, 12) := by decide +kernel
theorem e40_11 {ls : mj_L} {st : List Value} {σ : mj_S} {τ : mj_T} {x : Int32} {k : Nat} : mj_E 40 11 ls (.int x :: .ref k :: st) σ τ = if mj_ib (mj_li σ k) x = true then mj_E 40 12 ls (.int (σ k x.toNatClampNeg) :: st) σ τ else none := mj_ald i40_11
theorem i40_12 : mj_ins 40 12 = some (.ior, 13) := by decide +kernel
theorem e40_12 {ls : mj_L} {st : List Value} {σ : mj_S} {τ : mj_T} {x y : Int32} : mj_E 40 12 ls (.int y :: .int x :: st) σ τ = mj_E 40 13 ls (.int (x ||| y) :: st) σ τ := mj_nx i40_12 rfl
theorem i40_13 : mj_ins 40 13 = some (.istore 3, 14) := by decide +kernel
theorem e40_13 {ls : mj_L} {st : List Value} {σ : mj_S} {τ : mj_T} {a0 a1 a2 a3 : Option Value} {v : Int32} : mj_E 40 13 (a0 :: a1 :: a2 :: a3 :: ls) (.int v :: st) σ τ = mj_E 40 14 (a0 :: a1 :: a2 :: some (.int v) :: ls) st σ τ := mj_nx i40_13 rfl
theorem i40_14 : mj_ins 40 14 = some (.iconst (-1), 15) := by decide +kernel
theorem e40_14 {ls : mj_L} {st : List Value} {σ : mj_S} {τ : mj_T} : mj_E 40 14 ls st σ τ = mj_E 40 15 ls (.int ((-1)) :: st) σ τ := mj_nx i40_14 rfl
theorem i40_15 : mj_ins 40 15 = some (.istore 4, 17) := by decide +kernel
theorem e40_15 {ls : mj_L} {st : List Value} {σ : mj_S} {τ : mj_T} {a0 a1 a2 a3 a4 : Option Value} {v : Int32} : mj_E 40 15 (a0 :: a1 :: a2 :: a3 :: a4 :: ls) (.int v :: st) σ τ = mj_E 40 17 (a0 :: a1 :: a2 :: a3 :: some (.int v) :: ls) st σ τ := mj_nx i40_15 rfl
theorem i40_17 : mj_ins 40 17 = some (.iconst (-1), 18) := by decide +kernel
theorem e40_17 {ls : mj_L} {st : List Value} {σ : mj_S} {τ : mj_T} : mj_E 40 17 ls st σ τ = mj_E 40 18 ls (.int ((-1)) :: st) σ τ := mj_nx i40_17 rfl
theorem i40_18 : mj_ins 40 18 = some (.istore 5, 20) := by decide +kernel
theorem e40_18 {ls : mj_L} {st : List Value} {σ : mj_S} {τ : mj_T} {a0 a1 a2 a3 a4 a5 : Option Value} {v : Int32} : mj_E 40 18 (a0 :: a1 :: a2 :: a3 :: a4 :: a5 :: ls) (.int v :: st) σ τ = mj_E 40 20 (a0 :: a1 :: a2 :: a3 :: a4 :: some (.int v) :: ls) st σ τ := mj_nx i40_18 rfl
theorem i40_20 : mj_ins 40 20 = some (.iconst (0), 21) := by decide +kernel
theorem e40_20 {ls : mj_L} {st : List Value} {σ : mj_S} {τ : mj_T} : mj_E 40 20 ls st σ τ = mj_E 40 21 ls (.int (nI 0) :: st) σ τ := mj_nx i40_20 rfl
theorem i40_21 : mj_ins 40 21 = some (.istore 6, 23) := by decide +kernel
theorem e40_21 {ls : mj_L} {st : List Value} {σ : mj_S} {τ : mj_T} {a0 a1 a2 a3 a4 a5 a6 : Option Value} {v : Int32} : mj_E 40 21 (a0 :: a1 :: a2 :: a3 :: a4 :: a5 :: a6 :: ls) (.int v :: st) σ τ = mj_E 40 23 (a0 :: a1 :: a2 :: a3 :: a4 :: a5 :: some (.int v) :: ls) st σ τ := mj_nx i40_21 rfl
theorem i40_23 : mj_ins 40 23 = some (.iload 6, 25) := by decide +kernel
theorem e40_23 {ls : mj_L} {st : List Value} {σ : mj_S} {τ : mj_T} {a0 a1 a2 a3 a4 a5 : Option Value} {v : Int32} : mj_E 40 23 (a0 :: a1 :: a2 :: a3 :: a4 :: a5 :: some (.int v) :: ls) st σ τ = mj_E 40 25 (a0 :: a1 :: a2 :: a3 :: a4 :: a5 :: some (.int v) :: ls) (.int v :: st) σ τ := mj_nx i40_23 rfl
theorem i40_25 : mj_ins 40 25 = some (.aload 1, 26) := by decide +kernel
theorem e40_25 {ls : mj_L} {st : List Value} {σ : mj_S} {τ : mj_T} {a0 : Option Value} {v : Nat} : mj_E 40 25 (a0 :: some (.ref v) :: ls) st σ τ = mj_E 40 26 (a0 :: some (.ref v) :: ls) (.ref v :: st) σ τ := mj_nx i40_25 rfl
theorem i40_26 : mj_ins 40 26 = some (.getfield 100, 29) := by decide +kernel
theorem e40_26 {ls : mj_L} {st : List Value} {σ : mj_S} {τ : mj_T} {k : Nat} (h1 : 1 ≤ k) (h2 : k ≤ 3) : mj_E 40 26 ls (.ref k :: st) σ τ = mj_E 40 29 ls (.int (σ k 0) :: st) σ τ := (mj_gf i40_26).trans (congrArg (fun z => mj_ov z _) (fv1_0 h1 h2))
theorem i40_29 : mj_ins 40 29 = some (.if_icmp .ge 72, 32) := by decide +kernel
theorem e40_29 {ls : mj_L} {st : List Value} {σ : mj_S} {τ : mj_T} {x y : Int32} : mj_E 40 29 ls (.int y :: .int x :: st) σ τ = if y ≤ x then mj_E 40 72 ls st σ τ else mj_E 40 32 ls st σ τ := (mj_ifi i40_29).trans (mj_cdT rfl)
theorem i40_32 : mj_ins 40 32 = some (.iload 3, 33) := by decide +kernel
theorem e40_32 {ls : mj_L} {st : List Value} {σ : mj_S} {τ : mj_T} {a0 a1 a2 : Option Value} {v : Int32} : mj_E 40 32 (a0 :: a1 :: a2 :: some (.int v) :: ls) st σ τ = mj_E 40 33 (a0 :: a1 :: a2 :: some (.int v) :: ls) (.int v :: st) σ τ := mj_nx i40_32 rfl
theorem i40_33 : mj_ins 40 33 = some (.iload 6, 35) := by decide +kernel
theorem e40_33 {ls : mj_L} {st : List Value} {σ : mj_S} {τ : mj_T} {a0 a1 a2 a3 a4 a5 : Option Value} {v : Int32} : mj_E 40 33 (a0 :: a1 :: a2 :: a3 :: a4 :: a5 :: some (.int v) :: ls) st σ τ = mj_E 40 35 (a0 :: a1 :: a2 :: a3 :: a4 :: a5 :: some (.int v) :: ls) (.int v :: st) σ τ := mj_nx i40_33 rfl
theorem i40_35 : mj_ins 40 35 = some (.ishr, 36) := by decide +kernel
theorem e40_35 {ls : mj_L} {st : List Value} {σ : mj_S} {τ : mj_T} {x y : Int32} : mj_E 40 35 ls (.int y :: .int x :: st) σ τ = mj_E 40 36 ls (.int (x >>> (y &&& 31)) :: st) σ τ := mj_nx i40_35 rfl
theorem i40_36 : mj_ins 40 36 = some (.iconst (1), 37) := by decide +kernel
theorem e40_36 {ls : mj_L} {st : List Value} {σ : mj_S} {τ : mj_T} : mj_E 40 36 ls st σ τ = mj_E 40 37 ls (.int (nI 1) :: st) σ τ := mj_nx i40_36 rfl
theorem i40_37 : mj_ins 40 37 = some (.iand, 38) := by decide +kernel
theorem e40_37 {ls : mj_L} {st : List Value} {σ : mj_S} {τ : mj_T} {x y : Int32} : mj_E 40 37 ls (.int y :: .int x :: st) σ τ = mj_E 40 38 ls (.int (x &&& y) :: st) σ τ := mj_nx i40_37 rfl
theorem i40_38 : mj_ins 40 38 = some (.ifCond .ne 66, 41) := by decide +kernel
theorem e40_38 {ls : mj_L} {st : List Value} {σ : mj_S} {τ : mj_T} {x : Int32} : mj_E 40 38 ls (.int x :: st) σ τ = if x = 0 then mj_E 40 41 ls st σ τ else mj_E 40 66 ls st σ τ := (mj_ifc i40_38).trans (mj_cdF rfl)
theorem i40_41 : mj_ins 40 41 = some (.aload 1, 42) := by decide +kernel
theorem e40_41 {ls : mj_L} {st : List Value} {σ : mj_S} {τ : mj_T} {a0 : Option Value} {v : Nat} : mj_E 40 41 (a0 :: some (.ref v) :: ls) st σ τ = mj_E 40 42 (a0 :: some (.ref v) :: ls) (.ref v :: st) σ τ := mj_nx i40_41 rfl
theorem i40_42 : mj_ins 40 42 = some (.iload 2, 43) := by decide +kernel
theorem e40_42 {ls : mj_L} {st : List Value} {σ : mj_S} {τ : mj_T} {a0 a1 : Option Value} {v : Int32} : mj_E 40 42 (a0 :: a1 :: some (.int v) :: ls) st σ τ = mj_E 40 43 (a0 :: a1 :: some (.int v) :: ls) (.int v :: st) σ τ := mj_nx i40_42 rfl
theorem i40_43 : mj_ins 40 43 = some (.iload 6, 45) := by decide +kernel
theorem e40_43 {ls : mj_L} {st : List Value} {σ : mj_S} {τ : mj_T} {a0 a1 a2 a3 a4 a5 : Option Value} {v : Int32} : mj_E 40 43 (a0 :: a1 :: a2 :: a3 :: a4 :: a5 :: some (.int v) :: ls) st σ τ = mj_E 40 45 (a0 :: a1 :: a2 :: a3 :: a4 :: a5 :: some (.int v) :: ls) (.int v :: st) σ τ := mj_nx i40_43 rfl
theorem i40_45 : mj_ins 40 45 = some (.invokevirtual 21, 48) := by decide +kernel
theorem e40_45 {ls : mj_L} {σ : mj_S} {τ : mj_T} {r : Nat} {x0 : Int32} {x1 : Int32} : mj_E 40 45 ls [.int x1, .int x0, .ref r] σ τ = if mj_rcv r 1 = true then mj_bd (mj_C 21 [.ref r, .int x0, .int x1] σ τ) (mj_K 40 48 ls []) else none := mj_clV (as := [.int x0, .int x1]) (r := []) i40_45 (by decide +kernel : mj_vk 40 21 2 0 3 false = true) (by decide +kernel)
theorem i40_48 : mj_ins 40 48 = some (.iload 5, 50) := by decide +kernel
theorem e40_48 {ls : mj_L} {st : List Value} {σ : mj_S} {τ : mj_T} {a0 a1 a2 a3 a4 : Option Value} {v : Int32} : mj_E 40 48 (a0 :: a1 :: a2 :: a3 :: a4 :: some (.int v) :: ls) st σ τ = mj_E 40 50 (a0 :: a1 :: a2 :: a3 :: a4 :: some (.int v) :: ls) (.int v :: st) σ τ := mj_nx i40_48 rfl
theorem i40_50 : mj_ins 40 50 = some (.if_icmp .le 66, 53) := by decide +kernel
theorem e40_50 {ls : mj_L} {st : List Value} {σ : mj_S} {τ : mj_T} {x y : Int32} : mj_E 40 50 ls (.int y :: .int x :: st) σ τ = if x ≤ y then mj_E 40 66 ls st σ τ else mj_E 40 53 ls st σ τ := (mj_ifi i40_50).trans (mj_cdT rfl)
theorem i40_53 : mj_ins 40 53 = some (.iload 6, 55) := by decide +kernel
theorem e40_53 {ls : mj_L} {st : List Value} {σ : mj_S} {τ : mj_T} {a0 a1 a2 a3 a4 a5 : Option Value} {v : Int32} : mj_E 40 53 (a0 :: a1 :: a2 :: a3 :: a4 :: a5 :: some (.int v) :: ls) st σ τ = mj_E 40 55 (a0 :: a1 :: a2 :: a3 :: a4 :: a5 :: some (.int v) :: ls) (.int v :: st) σ τ := mj_nx i40_53 rfl
theorem i40_55 : mj_ins 40 55 = some (.istore 4, 57) := by decide +kernel
theorem e40_55 {ls : mj_L} {st : List Value} {σ : mj_S} {τ : mj_T} {a0 a1 a2 a3 a4 : Option Value} {v : Int32} : mj_E 40 55 (a0 :: a1 :: a2 :: a3 :: a4 :: ls) (.int v :: st) σ τ = mj_E 40 57 (a0 :: a1 :: a2 :: a3 :: some (.int v) :: ls) st σ τ := mj_nx i40_55 rfl
theorem i40_57 : mj_ins 40 57 = some (.aload 1, 58) := by decide +kernel
theorem e40_57 {ls : mj_L} {st : List Value} {σ : mj_S} {τ : mj_T} {a0 : Option Value} {v : Nat} : mj_E 40 57 (a0 :: some (.ref v) :: ls) st σ τ = mj_E 40 58 (a0 :: some (.ref v) :: ls) (.ref v :: st) σ τ := mj_nx i40_57 rfl
theorem i40_58 : mj_ins 40 58 = some (.iload 2, 59) := by decide +kernel
theorem e40_58 {ls : mj_L} {st : List Value} {σ : mj_S} {τ : mj_T} {a0 a1 : Option Value} {v : Int32} : mj_E 40 58 (a0 :: a1 :: some (.int v) :: ls) st σ τ = mj_E 40 59 (a0 :: a1 :: some (.int v) :: ls) (.int v :: st) σ τ := mj_nx i40_58 rfl
theorem i40_59 : mj_ins 40 59 = some (.iload 6, 61) := by decide +kernel
theorem e40_59 {ls : mj_L} {st : List Value} {σ : mj_S} {τ : mj_T} {a0 a1 a2 a3 a4 a5 : Option Value} {v : Int32} : mj_E 40 59 (a0 :: a1 :: a2 :: a3 :: a4 :: a5 :: some (.int v) :: ls) st σ τ = mj_E 40 61 (a0 :: a1 :: a2 :: a3 :: a4 :: a5 :: some (.int v) :: ls) (.int v :: st) σ τ := mj_nx i40_59 rfl
theorem i40_61 : mj_ins 40 61 = some (.invokevirtual 21, 64) := by decide +kernel
theorem e40_61 {ls : mj_L} {σ : mj_S} {τ : mj_T} {r : Nat} {x0 : Int32} {x1 : Int32} : mj_E 40 61 ls [.int x1, .int x0, .ref r] σ τ = if mj_rcv r 1 = true then mj_bd (mj_C 21 [.ref r, .int x0, .int x1] σ τ) (mj_K 40 64 ls []) else none := mj_clV (as := [.int x0, .int x1]) (r := []) i40_61 (by decide +kernel : mj_vk 40 21 2 0 3 false = true) (by decide +kernel)
theorem i40_64 : mj_ins 40 64 = some (.istore 5, 66) := by decide +kernel
theorem e40_64 {ls : mj_L} {st : List Value} {σ : mj_S} {τ : mj_T} {a0 a1 a2 a3 a4 a5 : Option Value} {v : Int32} : mj_E 40 64 (a0 :: a1 :: a2 :: a3 :: a4 :: a5 :: ls) (.int v :: st) σ τ = mj_E 40 66 (a0 :: a1 :: a2 :: a3 :: a4 :: some (.int v) :: ls) st σ τ := mj_nx i40_64 rfl
theorem i40_66 : mj_ins 40 66 = some (.iinc 6 (1), 69) := by decide +kernel
theorem e40_66 {ls : mj_L} {st : List Value} {σ : mj_S} {τ : mj_T} {a0 a1 a2 a3 a4 a5 : Option Value} {v : Int32} : mj_E 40 66 (a0 :: a1 :: a2 :: a3 :: a4 :: a5 :: some (.int v) :: ls) st σ τ = mj_E 40 69 (a0 :: a1 :: a2 :: a3 :: a4 :: a5 :: some (.int (v + nI 1)) :: ls) st σ τ := mj_nx i40_66 rfl
theorem i40_69 : mj_ins 40 69 = some (.goto 23, 72) := by decide +kernel
theorem e40_69 {ls : mj_L} {st : List Value} {σ : mj_S} {τ : mj_T} : mj_E 40 69 ls st σ τ = mj_E 40 23 ls st σ τ := mj_nx i40_69 rfl
theorem i40_72 : mj_ins 40 72 = some (.iload 4, 74) := by decide +kernel
theorem e40_72 {ls : mj_L} {st : List Value} {σ : mj_S} {τ : mj_T} {a0 a1 a2 a3 : Option Value} {v : Int32} : mj_E 40 72 (a0 :: a1 :: a2 :: a3 :: some (.int v) :: ls) st σ τ = mj_E 40 74 (a0 :: a1 :: a2 :: a3 :: some (.int v) :: ls) (.int v :: st) σ τ := mj_nx i40_72 rfl
theorem i40_74 : mj_ins 40 74 = some (.ireturn, 75) := by decide +kernel
theorem e40_74 {ls : mj_L} {σ : mj_S} {τ : mj_T} {v : Int32} : mj_E 40 74 ls [.int v] σ τ = some (some (.int v), σ, τ) := mj_irt i40_74 rfl
theorem c41 {σ : mj_S} {τ : mj_T} {r : Nat} {x0 : Nat} {x1 : Int32} : mj_C 41 [.ref r, .ref x0, .int x1] σ τ = mj_E 41 0 [some (.ref r), some (.ref x0), some (.int x1), none, none] [] σ τ := rfl
theorem i41_0 : mj_ins 41 0 = some (.iconst (0), 1) := by decide +kernel
theorem e41_0 {ls : mj_L} {st : List Value} {σ : mj_S} {τ : mj_T} : mj_E 41 0 ls st σ τ = mj_E 41 1 ls (.int (nI 0) :: st) σ τ := mj_nx i41_0 rfl
theorem i41_1 : mj_ins 41 1 = some (.istore 3, 2) := by decide +kernel
theorem e41_1 {ls : mj_L} {st : List Value} {σ : mj_S} {τ : mj_T} {a0 a1 a2 a3 : Option Value} {v : Int32} : mj_E 41 1 (a0 :: a1 :: a2 :: a3 :: ls) (.int v :: st) σ τ = mj_E 41 2 (a0 :: a1 :: a2 :: some (.int v) :: ls) st σ τ := mj_nx i41_1 rfl
theorem i41_2 : mj_ins 41 2 = some (.iconst (0), 3) := by decide +kernel
theorem e41_2 {ls : mj_L} {st : List Value} {σ : mj_S} {τ : mj_T} : mj_E 41 2 ls st σ τ = mj_E 41 3 ls (.int (nI 0) :: st) σ τ := mj_nx i41_2 rfl
theorem i41_3 : mj_ins 41 3 = some (.istore 4, 5) := by decide +kernel
theorem e41_3 {ls : mj_L} {st : List Value} {σ : mj_S} {τ : mj_T} {a0 a1 a2 a3 a4 : Option Value} {v : Int32} : mj_E 41 3 (a0 :: a1 :: a2 :: a3 :: a4 :: ls) (.int v :: st) σ τ = mj_E 41 5 (a0 :: a1 :: a2 :: a3 :: some (.int v) :: ls) st σ τ := mj_nx i41_3 rfl
theorem i41_5 : mj_ins 41 5 = some (.iload 4, 7) := by decide +kernel
theorem e41_5 {ls : mj_L} {st : List Value} {σ : mj_S} {τ : mj_T} {a0 a1 a2 a3 : Option Value} {v : Int32} : mj_E 41 5 (a0 :: a1 :: a2 :: a3 :: some (.int v) :: ls) st σ τ = mj_E 41 7 (a0 :: a1 :: a2 :: a3 :: some (.int v) :: ls) (.int v :: st) σ τ := mj_nx i41_5 rfl
theorem i41_7 : mj_ins 41 7 = some (.aload 1, 8) := by decide +kernel
theorem e41_7 {ls : mj_L} {st : List Value} {σ : mj_S} {τ : mj_T} {a0 : Option Value} {v : Nat} : mj_E 41 7 (a0 :: some (.ref v) :: ls) st σ τ = mj_E 41 8 (a0 :: some (.ref v) :: ls) (.ref v :: st) σ τ := mj_nx i41_7 rfl
theorem i41_8 : mj_ins 41 8 = some (.getfield 101, 11) := by decide +kernel
theorem e41_8 {ls : mj_L} {st : List Value} {σ : mj_S} {τ : mj_T} {k : Nat} (h1 : 1 ≤ k) (h2 : k ≤ 3) : mj_E 41 8 ls (.ref k :: st) σ τ = mj_E 41 11 ls (.int (σ k 1) :: st) σ τ := (mj_gf i41_8).trans (congrArg (fun z => mj_ov z _) (fv1_1 h1 h2))
theorem i41_11 : mj_ins 41 11 = some (.if_icmp .ge 39, 14) := by decide +kernel
theorem e41_11 {ls : mj_L} {st : List Value} {σ : mj_S} {τ : mj_T} {x y : Int32} : mj_E 41 11 ls (.int y :: .int x :: st) σ τ = if y ≤ x then mj_E 41 39 ls st σ τ else mj_E 41 14 ls st σ τ := (mj_ifi i41_11).trans (mj_cdT rfl)
theorem i41_14 : mj_ins 41 14 = some (.iload 3, 15) := by decide +kernel
theorem e41_14 {ls : mj_L} {st : List Value} {σ : mj_S} {τ : mj_T} {a0 a1 a2 : Option Value} {v : Int32} : mj_E 41 14 (a0 :: a1 :: a2 :: some (.int v) :: ls) st σ τ = mj_E 41 15 (a0 :: a1 :: a2 :: some (.int v) :: ls) (.int v :: st) σ τ := mj_nx i41_14 rfl
theorem i41_15 : mj_ins 41 15 = some (.aload 0, 16) := by decide +kernel
theorem e41_15 {ls : mj_L} {st : List Value} {σ : mj_S} {τ : mj_T} {v : Nat} : mj_E 41 15 (some (.ref v) :: ls) st σ τ = mj_E 41 16 (some (.ref v) :: ls) (.ref v :: st) σ τ := mj_nx i41_15 rfl
theorem i41_16 : mj_ins 41 16 = some (.getfield 200, 19) := by decide +kernel
theorem e41_16 {ls : mj_L} {st : List Value} {σ : mj_S} {τ : mj_T} : mj_E 41 16 ls (.ref 8 :: st) σ τ = mj_E 41 19 ls (.ref 56 :: st) σ τ := mj_nx i41_16 rfl
theorem i41_19 : mj_ins 41 19 = some (.iload 4, 21) := by decide +kernel
theorem e41_19 {ls : mj_L} {st : List Value} {σ : mj_S} {τ : mj_T} {a0 a1 a2 a3 : Option Value} {v : Int32} : mj_E 41 19 (a0 :: a1 :: a2 :: a3 :: some (.int v) :: ls) st σ τ = mj_E 41 21 (a0 :: a1 :: a2 :: a3 :: some (.int v) :: ls) (.int v :: st) σ τ := mj_nx i41_19 rfl
theorem i41_21 : mj_ins 41 21 = some (.iaload, 22) := by decide +kernel
theorem e41_21 {ls : mj_L} {st : List Value} {σ : mj_S} {τ : mj_T} {x : Int32} {k : Nat} : mj_E 41 21 ls (.int x :: .ref k :: st) σ τ = if mj_ib (mj_li σ k) x = true then mj_E 41 22 ls (.int (σ k x.toNatClampNeg) :: st) σ τ else none := mj_ald i41_21
theorem i41_22 : mj_ins 41 22 = some (.iload 2, 23) := by decide +kernel
theorem e41_22 {ls : mj_L} {st : List Value} {σ : mj_S} {τ : mj_T} {a0 a1 : Option Value} {v : Int32} : mj_E 41 22 (a0 :: a1 :: some (.int v) :: ls) st σ τ = mj_E 41 23 (a0 :: a1 :: some (.int v) :: ls) (.int v :: st) σ τ := mj_nx i41_22 rfl
theorem i41_23 : mj_ins 41 23 = some (.if_icmp .ne 30, 26) := by decide +kernel
theorem e41_23 {ls : mj_L} {st : List Value} {σ : mj_S} {τ : mj_T} {x y : Int32} : mj_E 41 23 ls (.int y :: .int x :: st) σ τ = if x = y then mj_E 41 26 ls st σ τ else mj_E 41 30 ls st σ τ := (mj_ifi i41_23).trans (mj_cdF rfl)
theorem i41_26 : mj_ins 41 26 = some (.iconst (1), 27) := by decide +kernel
theorem e41_26 {ls : mj_L} {st : List Value} {σ : mj_S} {τ : mj_T} : mj_E 41 26 ls st σ τ = mj_E 41 27 ls (.int (nI 1) :: st) σ τ := mj_nx i41_26 rfl
theorem i41_27 : mj_ins 41 27 = some (.goto 31, 30) := by decide +kernel
theorem e41_27 {ls : mj_L} {st : List Value} {σ : mj_S} {τ : mj_T} : mj_E 41 27 ls st σ τ = mj_E 41 31 ls st σ τ := mj_nx i41_27 rfl
theorem i41_30 : mj_ins 41 30 = some (.iconst (0), 31) := by decide +kernel
theorem e41_30 {ls : mj_L} {st : List Value} {σ : mj_S} {τ : mj_T} : mj_E 41 30 ls st σ τ = mj_E 41 31 ls (.int (nI 0) :: st) σ τ := mj_nx i41_30 rfl
theorem i41_31 : mj_ins 41 31 = some (.iadd, 32) := by decide +kernel
theorem e41_31 {ls : mj_L} {st : List Value} {σ : mj_S} {τ : mj_T} {x y : Int32} : mj_E 41 31 ls (.int y :: .int x :: st) σ τ = mj_E 41 32 ls (.int (x + y) :: st) σ τ := mj_nx i41_31 rfl
theorem i41_32 : mj_ins 41 32 = some (.istore 3, 33) := by decide +kernel
theorem e41_32 {ls : mj_L} {st : List Value} {σ : mj_S} {τ : mj_T} {a0 a1 a2 a3 : Option Value} {v : Int32} : mj_E 41 32 (a0 :: a1 :: a2 :: a3 :: ls) (.int v :: st) σ τ = mj_E 41 33 (a0 :: a1 :: a2 :: some (.int v) :: ls) st σ τ := mj_nx i41_32 rfl
theorem i41_33 : mj_ins 41 33 = some (.iinc 4 (1), 36) := by decide +kernel
theorem e41_33 {ls : mj_L} {st : List Value} {σ : mj_S} {τ : mj_T} {a0 a1 a2 a3 : Option Value} {v : Int32} : mj_E 41 33 (a0 :: a1 :: a2 :: a3 :: some (.int v) :: ls) st σ τ = mj_E 41 36 (a0 :: a1 :: a2 :: a3 :: some (.int (v + nI 1)) :: ls) st σ τ := mj_nx i41_33 rfl
theorem i41_36 : mj_ins 41 36 = some (.goto 5, 39) := by decide +kernel
theorem e41_36 {ls : mj_L} {st : List Value} {σ : mj_S} {τ : mj_T} : mj_E 41 36 ls st σ τ = mj_E 41 5 ls st σ τ := mj_nx i41_36 rfl
theorem i41_39 : mj_ins 41 39 = some (.iload 3, 40) := by decide +kernel
theorem e41_39 {ls : mj_L} {st : List Value} {σ : mj_S} {τ : mj_T} {a0 a1 a2 : Option Value} {v : Int32} : mj_E 41 39 (a0 :: a1 :: a2 :: some (.int v) :: ls) st σ τ = mj_E 41 40 (a0 :: a1 :: a2 :: some (.int v) :: ls) (.int v :: st) σ τ := mj_nx i41_39 rfl
theorem i41_40 : mj_ins 41 40 = some (.ireturn, 41) := by decide +kernel
theorem e41_40 {ls : mj_L} {σ : mj_S} {τ : mj_T} {v : Int32} : mj_E 41 40 ls [.int v] σ τ = some (some (.int v), σ, τ) := mj_irt i41_40 rfl
theorem c42 {σ : mj_S} {τ : mj_T} {r : Nat} {x0 : Nat} {x1 : Int32} {x2 : Int32} : mj_C 42 [.ref r, .ref x0, .int x1, .int x2] σ τ = mj_E 42 0 [some (.ref r), some (.ref x0), some (.int x1), some (.int x2), none, none] [] σ τ := rfl
theorem i42_0 : mj_ins 42 0 = some (.iload 3, 1) := by decide +kernel
theorem e42_0 {ls : mj_L} {st : List Value} {σ : mj_S} {τ : mj_T} {a0 a1 a2 : Option Value} {v : Int32} : mj_E 42 0 (a0 :: a1 :: a2 :: some (.int v) :: ls) st σ τ = mj_E 42 1 (a0 :: a1 :: a2 :: some (.int v) :: ls) (.int v :: st) σ τ := mj_nx i42_0 rfl
theorem i42_1 : mj_ins 42 1 = some (.istore 4, 3) := by decide +kernel
theorem e42_1 {ls : mj_L} {st : List Value} {σ : mj_S} {τ : mj_T} {a0 a1 a2 a3 a4 : Option Value} {v : Int32} : mj_E 42 1 (a0 :: a1 :: a2 :: a3 :: a4 :: ls) (.int v :: st) σ τ = mj_E 42 3 (a0 :: a1 :: a2 :: a3 :: some (.int v) :: ls) st σ τ := mj_nx i42_1 rfl
theorem i42_3 : mj_ins 42 3 = some (.iconst (0), 4) := by decide +kernel
theorem e42_3 {ls : mj_L} {st : List Value} {σ : mj_S} {τ : mj_T} : mj_E 42 3 ls st σ τ = mj_E 42 4 ls (.int (nI 0) :: st) σ τ := mj_nx i42_3 rfl
theorem i42_4 : mj_ins 42 4 = some (.istore 5, 6) := by decide +kernel
theorem e42_4 {ls : mj_L} {st : List Value} {σ : mj_S} {τ : mj_T} {a0 a1 a2 a3 a4 a5 : Option Value} {v : Int32} : mj_E 42 4 (a0 :: a1 :: a2 :: a3 :: a4 :: a5 :: ls) (.int v :: st) σ τ = mj_E 42 6 (a0 :: a1 :: a2 :: a3 :: a4 :: some (.int v) :: ls) st σ τ := mj_nx i42_4 rfl
theorem i42_6 : mj_ins 42 6 = some (.iload 5, 8) := by decide +kernel
theorem e42_6 {ls : mj_L} {st : List Value} {σ : mj_S} {τ : mj_T} {a0 a1 a2 a3 a4 : Option Value} {v : Int32} : mj_E 42 6 (a0 :: a1 :: a2 :: a3 :: a4 :: some (.int v) :: ls) st σ τ = mj_E 42 8 (a0 :: a1 :: a2 :: a3 :: a4 :: some (.int v) :: ls) (.int v :: st) σ τ := mj_nx i42_6 rfl
theorem i42_8 : mj_ins 42 8 = some (.aload 1, 9) := by decide +kernel
theorem e42_8 {ls : mj_L} {st : List Value} {σ : mj_S} {τ : mj_T} {a0 : Option Value} {v : Nat} : mj_E 42 8 (a0 :: some (.ref v) :: ls) st σ τ = mj_E 42 9 (a0 :: some (.ref v) :: ls) (.ref v :: st) σ τ := mj_nx i42_8 rfl
theorem i42_9 : mj_ins 42 9 = some (.getfield 101, 12) := by decide +kernel
theorem e42_9 {ls : mj_L} {st : List Value} {σ : mj_S} {τ : mj_T} {k : Nat} (h1 : 1 ≤ k) (h2 : k ≤ 3) : mj_E 42 9 ls (.ref k :: st) σ τ = mj_E 42 12 ls (.int (σ k 1) :: st) σ τ := (mj_gf i42_9).trans (congrArg (fun z => mj_ov z _) (fv1_1 h1 h2))
theorem i42_12 : mj_ins 42 12 = some (.if_icmp .ge 48, 15) := by decide +kernel
theorem e42_12 {ls : mj_L} {st : List Value} {σ : mj_S} {τ : mj_T} {x y : Int32} : mj_E 42 12 ls (.int y :: .int x :: st) σ τ = if y ≤ x then mj_E 42 48 ls st σ τ else mj_E 42 15 ls st σ τ := (mj_ifi i42_12).trans (mj_cdT rfl)
theorem i42_15 : mj_ins 42 15 = some (.aload 0, 16) := by decide +kernel
theorem e42_15 {ls : mj_L} {st : List Value} {σ : mj_S} {τ : mj_T} {v : Nat} : mj_E 42 15 (some (.ref v) :: ls) st σ τ = mj_E 42 16 (some (.ref v) :: ls) (.ref v :: st) σ τ := mj_nx i42_15 rfl
theorem i42_16 : mj_ins 42 16 = some (.getfield 200, 19) := by decide +kernel
theorem e42_16 {ls : mj_L} {st : List Value} {σ : mj_S} {τ : mj_T} : mj_E 42 16 ls (.ref 8 :: st) σ τ = mj_E 42 19 ls (.ref 56 :: st) σ τ := mj_nx i42_16 rfl
theorem i42_19 : mj_ins 42 19 = some (.iload 5, 21) := by decide +kernel
theorem e42_19 {ls : mj_L} {st : List Value} {σ : mj_S} {τ : mj_T} {a0 a1 a2 a3 a4 : Option Value} {v : Int32} : mj_E 42 19 (a0 :: a1 :: a2 :: a3 :: a4 :: some (.int v) :: ls) st σ τ = mj_E 42 21 (a0 :: a1 :: a2 :: a3 :: a4 :: some (.int v) :: ls) (.int v :: st) σ τ := mj_nx i42_19 rfl
theorem i42_21 : mj_ins 42 21 = some (.iaload, 22) := by decide +kernel
theorem e42_21 {ls : mj_L} {st : List Value} {σ : mj_S} {τ : mj_T} {x : Int32} {k : Nat} : mj_E 42 21 ls (.int x :: .ref k :: st) σ τ = if mj_ib (mj_li σ k) x = true then mj_E 42 22 ls (.int (σ k x.toNatClampNeg) :: st) σ τ else none := mj_ald i42_21
theorem i42_22 : mj_ins 42 22 = some (.iload 2, 23) := by decide +kernel
theorem e42_22 {ls : mj_L} {st : List Value} {σ : mj_S} {τ : mj_T} {a0 a1 : Option Value} {v : Int32} : mj_E 42 22 (a0 :: a1 :: some (.int v) :: ls) st σ τ = mj_E 42 23 (a0 :: a1 :: some (.int v) :: ls) (.int v :: st) σ τ := mj_nx i42_22 rfl
theorem i42_23 : mj_ins 42 23 = some (.if_icmp .ne 42, 26) := by decide +kernel
theorem e42_23 {ls : mj_L} {st : List Value} {σ : mj_S} {τ : mj_T} {x y : Int32} : mj_E 42 23 ls (.int y :: .int x :: st) σ τ = if x = y then mj_E 42 26 ls st σ τ else mj_E 42 42 ls st σ τ := (mj_ifi i42_23).trans (mj_cdF rfl)
theorem i42_26 : mj_ins 42 26 = some (.aload 1, 27) := by decide +kernel
theorem e42_26 {ls : mj_L} {st : List Value} {σ : mj_S} {τ : mj_T} {a0 : Option Value} {v : Nat} : mj_E 42 26 (a0 :: some (.ref v) :: ls) st σ τ = mj_E 42 27 (a0 :: some (.ref v) :: ls) (.ref v :: st) σ τ := mj_nx i42_26 rfl
theorem i42_27 : mj_ins 42 27 = some (.iload 2, 28) := by decide +kernel
theorem e42_27 {ls : mj_L} {st : List Value} {σ : mj_S} {τ : mj_T} {a0 a1 : Option Value} {v : Int32} : mj_E 42 27 (a0 :: a1 :: some (.int v) :: ls) st σ τ = mj_E 42 28 (a0 :: a1 :: some (.int v) :: ls) (.int v :: st) σ τ := mj_nx i42_27 rfl
theorem i42_28 : mj_ins 42 28 = some (.iload 4, 30) := by decide +kernel
theorem e42_28 {ls : mj_L} {st : List Value} {σ : mj_S} {τ : mj_T} {a0 a1 a2 a3 : Option Value} {v : Int32} : mj_E 42 28 (a0 :: a1 :: a2 :: a3 :: some (.int v) :: ls) st σ τ = mj_E 42 30 (a0 :: a1 :: a2 :: a3 :: some (.int v) :: ls) (.int v :: st) σ τ := mj_nx i42_28 rfl
theorem i42_30 : mj_ins 42 30 = some (.iload 5, 32) := by decide +kernel
theorem e42_30 {ls : mj_L} {st : List Value} {σ : mj_S} {τ : mj_T} {a0 a1 a2 a3 a4 : Option Value} {v : Int32} : mj_E 42 30 (a0 :: a1 :: a2 :: a3 :: a4 :: some (.int v) :: ls) st σ τ = mj_E 42 32 (a0 :: a1 :: a2 :: a3 :: a4 :: some (.int v) :: ls) (.int v :: st) σ τ := mj_nx i42_30 rfl
theorem i42_32 : mj_ins 42 32 = some (.invokestatic 43, 35) := by decide +kernel
theorem e42_32 {ls : mj_L} {σ : mj_S} {τ : mj_T} {x0 : Nat} {x1 : Int32} {x2 : Int32} {x3 : Int32} : mj_E 42 32 ls [.int x3, .int x2, .int x1, .ref x0] σ τ = mj_bd (mj_C 43 [.ref x0, .int x1, .int x2, .int x3] σ τ) (mj_K 42 35 ls []) := mj_clS (as := [.ref x0, .int x1, .int x2, .int x3]) (r := []) i42_32 (by decide +kernel : mj_vk 42 43 4 0 4 false = true) rfl
theorem i42_35 : mj_ins 42 35 = some (.ifCond .eq 42, 38) := by decide +kernel
theorem e42_35 {ls : mj_L} {st : List Value} {σ : mj_S} {τ : mj_T} {x : Int32} : mj_E 42 35 ls (.int x :: st) σ τ = if x = 0 then mj_E 42 42 ls st σ τ else mj_E 42 38 ls st σ τ := (mj_ifc i42_35).trans (mj_cdT rfl)
theorem i42_38 : mj_ins 42 38 = some (.iload 5, 40) := by decide +kernel
theorem e42_38 {ls : mj_L} {st : List Value} {σ : mj_S} {τ : mj_T} {a0 a1 a2 a3 a4 : Option Value} {v : Int32} : mj_E 42 38 (a0 :: a1 :: a2 :: a3 :: a4 :: some (.int v) :: ls) st σ τ = mj_E 42 40 (a0 :: a1 :: a2 :: a3 :: a4 :: some (.int v) :: ls) (.int v :: st) σ τ := mj_nx i42_38 rfl
theorem i42_40 : mj_ins 42 40 = some (.istore 4, 42) := by decide +kernel
theorem e42_40 {ls : mj_L} {st : List Value} {σ : mj_S} {τ : mj_T} {a0 a1 a2 a3 a4 : Option Value} {v : Int32} : mj_E 42 40 (a0 :: a1 :: a2 :: a3 :: a4 :: ls) (.int v :: st) σ τ = mj_E 42 42 (a0 :: a1 :: a2 :: a3 :: some (.int v) :: ls) st σ τ := mj_nx i42_40 rfl
theorem i42_42 : mj_ins 42 42 = some (.iinc 5 (1), 45) := by decide +kernel
theorem e42_42 {ls : mj_L} {st : List Value} {σ : mj_S} {τ : mj_T} {a0 a1 a2 a3 a4 : Option Value} {v : Int32} : mj_E 42 42 (a0 :: a1 :: a2 :: a3 :: a4 :: some (.int v) :: ls) st σ τ = mj_E 42 45 (a0 :: a1 :: a2 :: a3 :: a4 :: some (.int (v + nI 1)) :: ls) st σ τ := mj_nx i42_42 rfl
theorem i42_45 : mj_ins 42 45 = some (.goto 6, 48) := by decide +kernel
theorem e42_45 {ls : mj_L} {st : List Value} {σ : mj_S} {τ : mj_T} : mj_E 42 45 ls st σ τ = mj_E 42 6 ls st σ τ := mj_nx i42_45 rfl
theorem i42_48 : mj_ins 42 48 = some (.iload 4, 50) := by decide +kernel
theorem e42_48 {ls : mj_L} {st : List Value} {σ : mj_S} {τ : mj_T} {a0 a1 a2 a3 : Option Value} {v : Int32} : mj_E 42 48 (a0 :: a1 :: a2 :: a3 :: some (.int v) :: ls) st σ τ = mj_E 42 50 (a0 :: a1 :: a2 :: a3 :: some (.int v) :: ls) (.int v :: st) σ τ := mj_nx i42_48 rfl
theorem i42_50 : mj_ins 42 50 = some (.ireturn, 51) := by decide +kernel
theorem e42_50 {ls : mj_L} {σ : mj_S} {τ : mj_T} {v : Int32} : mj_E 42 50 ls [.int v] σ τ = some (some (.int v), σ, τ) := mj_irt i42_50 rfl
theorem c43 {σ : mj_S} {τ : mj_T} {x0 : Nat} {x1 : Int32} {x2 : Int32} {x3 : Int32} : mj_C 43 [.ref x0, .int x1, .int x2, .int x3] σ τ = mj_E 43 0 [some (.ref x0), some (.int x1), some (.int x2), some (.int x3), none, none] [] σ τ := rfl
theorem i43_0 : mj_ins 43 0 = some (.aload 0, 1) := by decide +kernel
theorem e43_0 {ls : mj_L} {st : List Value} {σ : mj_S} {τ : mj_T} {v : Nat} : mj_E 43 0 (some (.ref v) :: ls) st σ τ = mj_E 43 1 (some (.ref v) :: ls) (.ref v :: st) σ τ := mj_nx i43_0 rfl
theorem i43_1 : mj_ins 43 1 = some (.iload 2, 2) := by decide +kernel
theorem e43_1 {ls : mj_L} {st : List Value} {σ : mj_S} {τ : mj_T} {a0 a1 : Option Value} {v : Int32} : mj_E 43 1 (a0 :: a1 :: some (.int v) :: ls) st σ τ = mj_E 43 2 (a0 :: a1 :: some (.int v) :: ls) (.int v :: st) σ τ := mj_nx i43_1 rfl
theorem i43_2 : mj_ins 43 2 = some (.iload 1, 3) := by decide +kernel
theorem e43_2 {ls : mj_L} {st : List Value} {σ : mj_S} {τ : mj_T} {a0 : Option Value} {v : Int32} : mj_E 43 2 (a0 :: some (.int v) :: ls) st σ τ = mj_E 43 3 (a0 :: some (.int v) :: ls) (.int v :: st) σ τ := mj_nx i43_2 rfl
theorem i43_3 : mj_ins 43 3 = some (.invokevirtual 18, 6) := by decide +kernel
theorem e43_3 {ls : mj_L} {σ : mj_S} {τ : mj_T} {r : Nat} {x0 : Int32} {x1 : Int32} : mj_E 43 3 ls [.int x1, .int x0, .ref r] σ τ = if mj_rcv r 1 = true then mj_bd (mj_C 18 [.ref r, .int x0, .int x1] σ τ) (mj_K 43 6 ls []) else none := mj_clV (as := [.int x0, .int x1]) (r := []) i43_3 (by decide +kernel : mj_vk 43 18 2 0 3 false = true) (by decide +kernel)
theorem i43_6 : mj_ins 43 6 = some (.istore 4, 8) := by decide +kernel
theorem e43_6 {ls : mj_L} {st : List Value} {σ : mj_S} {τ : mj_T} {a0 a1 a2 a3 a4 : Option Value} {v : Int32} : mj_E 43 6 (a0 :: a1 :: a2 :: a3 :: a4 :: ls) (.int v :: st) σ τ = mj_E 43 8 (a0 :: a1 :: a2 :: a3 :: some (.int v) :: ls) st σ τ := mj_nx i43_6 rfl
theorem i43_8 : mj_ins 43 8 = some (.aload 0, 9) := by decide +kernel
theorem e43_8 {ls : mj_L} {st : List Value} {σ : mj_S} {τ : mj_T} {v : Nat} : mj_E 43 8 (some (.ref v) :: ls) st σ τ = mj_E 43 9 (some (.ref v) :: ls) (.ref v :: st) σ τ := mj_nx i43_8 rfl
theorem i43_9 : mj_ins 43 9 = some (.iload 3, 10) := by decide +kernel
theorem e43_9 {ls : mj_L} {st : List Value} {σ : mj_S} {τ : mj_T} {a0 a1 a2 : Option Value} {v : Int32} : mj_E 43 9 (a0 :: a1 :: a2 :: some (.int v) :: ls) st σ τ = mj_E 43 10 (a0 :: a1 :: a2 :: some (.int v) :: ls) (.int v :: st) σ τ := mj_nx i43_9 rfl
theorem i43_10 : mj_ins 43 10 = some (.iload 1, 11) := by decide +kernel
theorem e43_10 {ls : mj_L} {st : List Value} {σ : mj_S} {τ : mj_T} {a0 : Option Value} {v : Int32} : mj_E 43 10 (a0 :: some (.int v) :: ls) st σ τ = mj_E 43 11 (a0 :: some (.int v) :: ls) (.int v :: st) σ τ := mj_nx i43_10 rfl
theorem i43_11 : mj_ins 43 11 = some (.invokevirtual 18, 14) := by decide +kernel
theorem e43_11 {ls : mj_L} {σ : mj_S} {τ : mj_T} {r : Nat} {x0 : Int32} {x1 : Int32} : mj_E 43 11 ls [.int x1, .int x0, .ref r] σ τ = if mj_rcv r 1 = true then mj_bd (mj_C 18 [.ref r, .int x0, .int x1] σ τ) (mj_K 43 14 ls []) else none := mj_clV (as := [.int x0, .int x1]) (r := []) i43_11 (by decide +kernel : mj_vk 43 18 2 0 3 false = true) (by decide +kernel)
theorem i43_14 : mj_ins 43 14 = some (.istore 5, 16) := by decide +kernel
theorem e43_14 {ls : mj_L} {st : List Value} {σ : mj_S} {τ : mj_T} {a0 a1 a2 a3 a4 a5 : Option Value} {v : Int32} : mj_E 43 14 (a0 :: a1 :: a2 :: a3 :: a4 :: a5 :: ls) (.int v :: st) σ τ = mj_E 43 16 (a0 :: a1 :: a2 :: a3 :: a4 :: some (.int v) :: ls) st σ τ := mj_nx i43_14 rfl
theorem i43_16 : mj_ins 43 16 = some (.iload 4, 18) := by decide +kernel
theorem e43_16 {ls : mj_L} {st : List Value} {σ : mj_S} {τ : mj_T} {a0 a1 a2 a3 : Option Value} {v : Int32} : mj_E 43 16 (a0 :: a1 :: a2 :: a3 :: some (.int v) :: ls) st σ τ = mj_E 43 18 (a0 :: a1 :: a2 :: a3 :: some (.int v) :: ls) (.int v :: st) σ τ := mj_nx i43_16 rfl
theorem i43_18 : mj_ins 43 18 = some (.iload 5, 20) := by decide +kernel
theorem e43_18 {ls : mj_L} {st : List Value} {σ : mj_S} {τ : mj_T} {a0 a1 a2 a3 a4 : Option Value} {v : Int32} : mj_E 43 18 (a0 :: a1 :: a2 :: a3 :: a4 :: some (.int v) :: ls) st σ τ = mj_E 43 20 (a0 :: a1 :: a2 :: a3 :: a4 :: some (.int v) :: ls) (.int v :: st) σ τ := mj_nx i43_18 rfl
theorem i43_20 : mj_ins 43 20 = some (.if_icmp .gt 35, 23) := by decide +kernel
theorem e43_20 {ls : mj_L} {st : List Value} {σ : mj_S} {τ : mj_T} {x y : Int32} : mj_E 43 20 ls (.int y :: .int x :: st) σ τ = if y < x then mj_E 43 35 ls st σ τ else mj_E 43 23 ls st σ τ := (mj_ifi i43_20).trans (mj_cdT rfl)
theorem i43_23 : mj_ins 43 23 = some (.iload 4, 25) := by decide +kernel
theorem e43_23 {ls : mj_L} {st : List Value} {σ : mj_S} {τ : mj_T} {a0 a1 a2 a3 : Option Value} {v : Int32} : mj_E 43 23 (a0 :: a1 :: a2 :: a3 :: some (.int v) :: ls) st σ τ = mj_E 43 25 (a0 :: a1 :: a2 :: a3 :: some (.int v) :: ls) (.int v :: st) σ τ := mj_nx i43_23 rfl
theorem i43_25 : mj_ins 43 25 = some (.iload 5, 27) := by decide +kernel
theorem e43_25 {ls : mj_L} {st : List Value} {σ : mj_S} {τ : mj_T} {a0 a1 a2 a3 a4 : Option Value} {v : Int32} : mj_E 43 25 (a0 :: a1 :: a2 :: a3 :: a4 :: some (.int v) :: ls) st σ τ = mj_E 43 27 (a0 :: a1 :: a2 :: a3 :: a4 :: some (.int v) :: ls) (.int v :: st) σ τ := mj_nx i43_25 rfl
theorem i43_27 : mj_ins 43 27 = some (.if_icmp .ne 39, 30) := by decide +kernel
theorem e43_27 {ls : mj_L} {st : List Value} {σ : mj_S} {τ : mj_T} {x y : Int32} : mj_E 43 27 ls (.int y :: .int x :: st) σ τ = if x = y then mj_E 43 30 ls st σ τ else mj_E 43 39 ls st σ τ := (mj_ifi i43_27).trans (mj_cdF rfl)
theorem i43_30 : mj_ins 43 30 = some (.iload 2, 31) := by decide +kernel
theorem e43_30 {ls : mj_L} {st : List Value} {σ : mj_S} {τ : mj_T} {a0 a1 : Option Value} {v : Int32} : mj_E 43 30 (a0 :: a1 :: some (.int v) :: ls) st σ τ = mj_E 43 31 (a0 :: a1 :: some (.int v) :: ls) (.int v :: st) σ τ := mj_nx i43_30 rfl
theorem i43_31 : mj_ins 43 31 = some (.iload 3, 32) := by decide +kernel
theorem e43_31 {ls : mj_L} {st : List Value} {σ : mj_S} {τ : mj_T} {a0 a1 a2 : Option Value} {v : Int32} : mj_E 43 31 (a0 :: a1 :: a2 :: some (.int v) :: ls) st σ τ = mj_E 43 32 (a0 :: a1 :: a2 :: some (.int v) :: ls) (.int v :: st) σ τ := mj_nx i43_31 rfl
theorem i43_32 : mj_ins 43 32 = some (.if_icmp .ge 39, 35) := by decide +kernel
theorem e43_32 {ls : mj_L} {st : List Value} {σ : mj_S} {τ : mj_T} {x y : Int32} : mj_E 43 32 ls (.int y :: .int x :: st) σ τ = if y ≤ x then mj_E 43 39 ls st σ τ else mj_E 43 35 ls st σ τ := (mj_ifi i43_32).trans (mj_cdT rfl)
theorem i43_35 : mj_ins 43 35 = some (.iconst (1), 36) := by decide +kernel
theorem e43_35 {ls : mj_L} {st : List Value} {σ : mj_S} {τ : mj_T} : mj_E 43 35 ls st σ τ = mj_E 43 36 ls (.int (nI 1) :: st) σ τ := mj_nx i43_35 rfl
theorem i43_36 : mj_ins 43 36 = some (.goto 40, 39) := by decide +kernel
theorem e43_36 {ls : mj_L} {st : List Value} {σ : mj_S} {τ : mj_T} : mj_E 43 36 ls st σ τ = mj_E 43 40 ls st σ τ := mj_nx i43_36 rfl
theorem i43_39 : mj_ins 43 39 = some (.iconst (0), 40) := by decide +kernel
theorem e43_39 {ls : mj_L} {st : List Value} {σ : mj_S} {τ : mj_T} : mj_E 43 39 ls st σ τ = mj_E 43 40 ls (.int (nI 0) :: st) σ τ := mj_nx i43_39 rfl
theorem i43_40 : mj_ins 43 40 = some (.ireturn, 41) := by decide +kernel
theorem e43_40 {ls : mj_L} {σ : mj_S} {τ : mj_T} {v : Int32} : mj_E 43 40 ls [.int v] σ τ = if mj_ok (some .boolean) v = true then some (some (.int v), σ, τ) else none := mj_zrt i43_40 rfl
