/-! the equations of the instructions (laid by wip/whole/rows.py) -/
theorem c155 {σ : mj_S} {τ : mj_T} {r : Nat} {x0 : Int32} {x1 : Int32} {x2 : Int32} : mj_C 155 [.ref r, .int x0, .int x1, .int x2] σ τ = mj_E 155 0 [some (.ref r), some (.int x0), some (.int x1), some (.int x2), none, none, none, none] [] σ τ := rfl
theorem i155_0 : mj_ins 155 0 = some (.iload 3, 1) := by decide +kernel
theorem e155_0 {ls : mj_L} {st : List Value} {σ : mj_S} {τ : mj_T} {a0 a1 a2 : Option Value} {v : Int32} : mj_E 155 0 (a0 :: a1 :: a2 :: some (.int v) :: ls) st σ τ = mj_E 155 1 (a0 :: a1 :: a2 :: some (.int v) :: ls) (.int v :: st) σ τ := mj_nx i155_0 rfl
theorem i155_1 : mj_ins 155 1 = some (.aload 0, 2) := by decide +kernel
theorem e155_1 {ls : mj_L} {st : List Value} {σ : mj_S} {τ : mj_T} {v : Nat} : mj_E 155 1 (some (.ref v) :: ls) st σ τ = mj_E 155 2 (some (.ref v) :: ls) (.ref v :: st) σ τ := mj_nx i155_1 rfl
theorem i155_2 : mj_ins 155 2 = some (.getfield 710, 5) := by decide +kernel
theorem e155_2 {ls : mj_L} {st : List Value} {σ : mj_S} {τ : mj_T} : mj_E 155 2 ls (.ref 62 :: st) σ τ = mj_E 155 5 ls (.ref 67 :: st) σ τ := mj_nx i155_2 rfl
theorem i155_5 : mj_ins 155 5 = some (.iload 2, 6) := by decide +kernel
theorem e155_5 {ls : mj_L} {st : List Value} {σ : mj_S} {τ : mj_T} {a0 a1 : Option Value} {v : Int32} : mj_E 155 5 (a0 :: a1 :: some (.int v) :: ls) st σ τ = mj_E 155 6 (a0 :: a1 :: some (.int v) :: ls) (.int v :: st) σ τ := mj_nx i155_5 rfl
theorem i155_6 : mj_ins 155 6 = some (.iaload, 7) := by decide +kernel
theorem e155_6 {ls : mj_L} {st : List Value} {σ : mj_S} {τ : mj_T} {x : Int32} {k : Nat} : mj_E 155 6 ls (.int x :: .ref k :: st) σ τ = if mj_ib (mj_li σ k) x = true then mj_E 155 7 ls (.int (σ k x.toNatClampNeg) :: st) σ τ else none := mj_ald i155_6
theorem i155_7 : mj_ins 155 7 = some (.aload 0, 8) := by decide +kernel
theorem e155_7 {ls : mj_L} {st : List Value} {σ : mj_S} {τ : mj_T} {v : Nat} : mj_E 155 7 (some (.ref v) :: ls) st σ τ = mj_E 155 8 (some (.ref v) :: ls) (.ref v :: st) σ τ := mj_nx i155_7 rfl
theorem i155_8 : mj_ins 155 8 = some (.getfield 712, 11) := by decide +kernel
theorem e155_8 {ls : mj_L} {st : List Value} {σ : mj_S} {τ : mj_T} : mj_E 155 8 ls (.ref 62 :: st) σ τ = mj_E 155 11 ls (.ref 69 :: st) σ τ := mj_nx i155_8 rfl
theorem i155_11 : mj_ins 155 11 = some (.iload 1, 12) := by decide +kernel
theorem e155_11 {ls : mj_L} {st : List Value} {σ : mj_S} {τ : mj_T} {a0 : Option Value} {v : Int32} : mj_E 155 11 (a0 :: some (.int v) :: ls) st σ τ = mj_E 155 12 (a0 :: some (.int v) :: ls) (.int v :: st) σ τ := mj_nx i155_11 rfl
theorem i155_12 : mj_ins 155 12 = some (.iaload, 13) := by decide +kernel
theorem e155_12 {ls : mj_L} {st : List Value} {σ : mj_S} {τ : mj_T} {x : Int32} {k : Nat} : mj_E 155 12 ls (.int x :: .ref k :: st) σ τ = if mj_ib (mj_li σ k) x = true then mj_E 155 13 ls (.int (σ k x.toNatClampNeg) :: st) σ τ else none := mj_ald i155_12
theorem i155_13 : mj_ins 155 13 = some (.imul, 14) := by decide +kernel
theorem e155_13 {ls : mj_L} {st : List Value} {σ : mj_S} {τ : mj_T} {x y : Int32} : mj_E 155 13 ls (.int y :: .int x :: st) σ τ = mj_E 155 14 ls (.int (x * y) :: st) σ τ := mj_nx i155_13 rfl
theorem i155_14 : mj_ins 155 14 = some (.iadd, 15) := by decide +kernel
theorem e155_14 {ls : mj_L} {st : List Value} {σ : mj_S} {τ : mj_T} {x y : Int32} : mj_E 155 14 ls (.int y :: .int x :: st) σ τ = mj_E 155 15 ls (.int (x + y) :: st) σ τ := mj_nx i155_14 rfl
theorem i155_15 : mj_ins 155 15 = some (.istore 4, 17) := by decide +kernel
theorem e155_15 {ls : mj_L} {st : List Value} {σ : mj_S} {τ : mj_T} {a0 a1 a2 a3 a4 : Option Value} {v : Int32} : mj_E 155 15 (a0 :: a1 :: a2 :: a3 :: a4 :: ls) (.int v :: st) σ τ = mj_E 155 17 (a0 :: a1 :: a2 :: a3 :: some (.int v) :: ls) st σ τ := mj_nx i155_15 rfl
theorem i155_17 : mj_ins 155 17 = some (.iload 4, 19) := by decide +kernel
theorem e155_17 {ls : mj_L} {st : List Value} {σ : mj_S} {τ : mj_T} {a0 a1 a2 a3 : Option Value} {v : Int32} : mj_E 155 17 (a0 :: a1 :: a2 :: a3 :: some (.int v) :: ls) st σ τ = mj_E 155 19 (a0 :: a1 :: a2 :: a3 :: some (.int v) :: ls) (.int v :: st) σ τ := mj_nx i155_17 rfl
theorem i155_19 : mj_ins 155 19 = some (.aload 0, 20) := by decide +kernel
theorem e155_19 {ls : mj_L} {st : List Value} {σ : mj_S} {τ : mj_T} {v : Nat} : mj_E 155 19 (some (.ref v) :: ls) st σ τ = mj_E 155 20 (some (.ref v) :: ls) (.ref v :: st) σ τ := mj_nx i155_19 rfl
theorem i155_20 : mj_ins 155 20 = some (.getfield 708, 23) := by decide +kernel
theorem e155_20 {ls : mj_L} {st : List Value} {σ : mj_S} {τ : mj_T} : mj_E 155 20 ls (.ref 62 :: st) σ τ = mj_E 155 23 ls (.ref 65 :: st) σ τ := mj_nx i155_20 rfl
theorem i155_23 : mj_ins 155 23 = some (.iload 2, 24) := by decide +kernel
theorem e155_23 {ls : mj_L} {st : List Value} {σ : mj_S} {τ : mj_T} {a0 a1 : Option Value} {v : Int32} : mj_E 155 23 (a0 :: a1 :: some (.int v) :: ls) st σ τ = mj_E 155 24 (a0 :: a1 :: some (.int v) :: ls) (.int v :: st) σ τ := mj_nx i155_23 rfl
theorem i155_24 : mj_ins 155 24 = some (.iaload, 25) := by decide +kernel
theorem e155_24 {ls : mj_L} {st : List Value} {σ : mj_S} {τ : mj_T} {x : Int32} {k : Nat} : mj_E 155 24 ls (.int x :: .ref k :: st) σ τ = if mj_ib (mj_li σ k) x = true then mj_E 155 25 ls (.int (σ k x.toNatClampNeg) :: st) σ τ else none := mj_ald i155_24
theorem i155_25 : mj_ins 155 25 = some (.iadd, 26) := by decide +kernel
theorem e155_25 {ls : mj_L} {st : List Value} {σ : mj_S} {τ : mj_T} {x y : Int32} : mj_E 155 25 ls (.int y :: .int x :: st) σ τ = mj_E 155 26 ls (.int (x + y) :: st) σ τ := mj_nx i155_25 rfl
theorem i155_26 : mj_ins 155 26 = some (.aload 0, 27) := by decide +kernel
theorem e155_26 {ls : mj_L} {st : List Value} {σ : mj_S} {τ : mj_T} {v : Nat} : mj_E 155 26 (some (.ref v) :: ls) st σ τ = mj_E 155 27 (some (.ref v) :: ls) (.ref v :: st) σ τ := mj_nx i155_26 rfl
theorem i155_27 : mj_ins 155 27 = some (.getfield 709, 30) := by decide +kernel
theorem e155_27 {ls : mj_L} {st : List Value} {σ : mj_S} {τ : mj_T} : mj_E 155 27 ls (.ref 62 :: st) σ τ = mj_E 155 30 ls (.ref 66 :: st) σ τ := mj_nx i155_27 rfl
theorem i155_30 : mj_ins 155 30 = some (.iload 2, 31) := by decide +kernel
theorem e155_30 {ls : mj_L} {st : List Value} {σ : mj_S} {τ : mj_T} {a0 a1 : Option Value} {v : Int32} : mj_E 155 30 (a0 :: a1 :: some (.int v) :: ls) st σ τ = mj_E 155 31 (a0 :: a1 :: some (.int v) :: ls) (.int v :: st) σ τ := mj_nx i155_30 rfl
theorem i155_31 : mj_ins 155 31 = some (.iaload, 32) := by decide +kernel
theorem e155_31 {ls : mj_L} {st : List Value} {σ : mj_S} {τ : mj_T} {x : Int32} {k : Nat} : mj_E 155 31 ls (.int x :: .ref k :: st) σ τ = if mj_ib (mj_li σ k) x = true then mj_E 155 32 ls (.int (σ k x.toNatClampNeg) :: st) σ τ else none := mj_ald i155_31
theorem i155_32 : mj_ins 155 32 = some (.iconst (3), 33) := by decide +kernel
theorem e155_32 {ls : mj_L} {st : List Value} {σ : mj_S} {τ : mj_T} : mj_E 155 32 ls st σ τ = mj_E 155 33 ls (.int (nI 3) :: st) σ τ := mj_nx i155_32 rfl
theorem i155_33 : mj_ins 155 33 = some (.idiv, 34) := by decide +kernel
theorem e155_33 {ls : mj_L} {st : List Value} {σ : mj_S} {τ : mj_T} {x y : Int32} : mj_E 155 33 ls (.int y :: .int x :: st) σ τ = if y = 0 then none else mj_E 155 34 ls (.int (x / y) :: st) σ τ := mj_div i155_33
theorem i155_34 : mj_ins 155 34 = some (.iadd, 35) := by decide +kernel
theorem e155_34 {ls : mj_L} {st : List Value} {σ : mj_S} {τ : mj_T} {x y : Int32} : mj_E 155 34 ls (.int y :: .int x :: st) σ τ = mj_E 155 35 ls (.int (x + y) :: st) σ τ := mj_nx i155_34 rfl
theorem i155_35 : mj_ins 155 35 = some (.iconst (2), 36) := by decide +kernel
theorem e155_35 {ls : mj_L} {st : List Value} {σ : mj_S} {τ : mj_T} : mj_E 155 35 ls st σ τ = mj_E 155 36 ls (.int (nI 2) :: st) σ τ := mj_nx i155_35 rfl
theorem i155_36 : mj_ins 155 36 = some (.aload 0, 37) := by decide +kernel
theorem e155_36 {ls : mj_L} {st : List Value} {σ : mj_S} {τ : mj_T} {v : Nat} : mj_E 155 36 (some (.ref v) :: ls) st σ τ = mj_E 155 37 (some (.ref v) :: ls) (.ref v :: st) σ τ := mj_nx i155_36 rfl
theorem i155_37 : mj_ins 155 37 = some (.getfield 711, 40) := by decide +kernel
theorem e155_37 {ls : mj_L} {st : List Value} {σ : mj_S} {τ : mj_T} : mj_E 155 37 ls (.ref 62 :: st) σ τ = mj_E 155 40 ls (.ref 68 :: st) σ τ := mj_nx i155_37 rfl
theorem i155_40 : mj_ins 155 40 = some (.iload 2, 41) := by decide +kernel
theorem e155_40 {ls : mj_L} {st : List Value} {σ : mj_S} {τ : mj_T} {a0 a1 : Option Value} {v : Int32} : mj_E 155 40 (a0 :: a1 :: some (.int v) :: ls) st σ τ = mj_E 155 41 (a0 :: a1 :: some (.int v) :: ls) (.int v :: st) σ τ := mj_nx i155_40 rfl
theorem i155_41 : mj_ins 155 41 = some (.iaload, 42) := by decide +kernel
theorem e155_41 {ls : mj_L} {st : List Value} {σ : mj_S} {τ : mj_T} {x : Int32} {k : Nat} : mj_E 155 41 ls (.int x :: .ref k :: st) σ τ = if mj_ib (mj_li σ k) x = true then mj_E 155 42 ls (.int (σ k x.toNatClampNeg) :: st) σ τ else none := mj_ald i155_41
theorem i155_42 : mj_ins 155 42 = some (.imul, 43) := by decide +kernel
theorem e155_42 {ls : mj_L} {st : List Value} {σ : mj_S} {τ : mj_T} {x y : Int32} : mj_E 155 42 ls (.int y :: .int x :: st) σ τ = mj_E 155 43 ls (.int (x * y) :: st) σ τ := mj_nx i155_42 rfl
theorem i155_43 : mj_ins 155 43 = some (.isub, 44) := by decide +kernel
theorem e155_43 {ls : mj_L} {st : List Value} {σ : mj_S} {τ : mj_T} {x y : Int32} : mj_E 155 43 ls (.int y :: .int x :: st) σ τ = mj_E 155 44 ls (.int (x - y) :: st) σ τ := mj_nx i155_43 rfl
theorem i155_44 : mj_ins 155 44 = some (.istore 6, 46) := by decide +kernel
theorem e155_44 {ls : mj_L} {st : List Value} {σ : mj_S} {τ : mj_T} {a0 a1 a2 a3 a4 a5 a6 : Option Value} {v : Int32} : mj_E 155 44 (a0 :: a1 :: a2 :: a3 :: a4 :: a5 :: a6 :: ls) (.int v :: st) σ τ = mj_E 155 46 (a0 :: a1 :: a2 :: a3 :: a4 :: a5 :: some (.int v) :: ls) st σ τ := mj_nx i155_44 rfl
theorem i155_46 : mj_ins 155 46 = some (.iload 4, 48) := by decide +kernel
theorem e155_46 {ls : mj_L} {st : List Value} {σ : mj_S} {τ : mj_T} {a0 a1 a2 a3 : Option Value} {v : Int32} : mj_E 155 46 (a0 :: a1 :: a2 :: a3 :: some (.int v) :: ls) st σ τ = mj_E 155 48 (a0 :: a1 :: a2 :: a3 :: some (.int v) :: ls) (.int v :: st) σ τ := mj_nx i155_46 rfl
theorem i155_48 : mj_ins 155 48 = some (.aload 0, 49) := by decide +kernel
theorem e155_48 {ls : mj_L} {st : List Value} {σ : mj_S} {τ : mj_T} {v : Nat} : mj_E 155 48 (some (.ref v) :: ls) st σ τ = mj_E 155 49 (some (.ref v) :: ls) (.ref v :: st) σ τ := mj_nx i155_48 rfl
theorem i155_49 : mj_ins 155 49 = some (.getfield 712, 52) := by decide +kernel
theorem e155_49 {ls : mj_L} {st : List Value} {σ : mj_S} {τ : mj_T} : mj_E 155 49 ls (.ref 62 :: st) σ τ = mj_E 155 52 ls (.ref 69 :: st) σ τ := mj_nx i155_49 rfl
theorem i155_52 : mj_ins 155 52 = some (.iload 1, 53) := by decide +kernel
theorem e155_52 {ls : mj_L} {st : List Value} {σ : mj_S} {τ : mj_T} {a0 : Option Value} {v : Int32} : mj_E 155 52 (a0 :: some (.int v) :: ls) st σ τ = mj_E 155 53 (a0 :: some (.int v) :: ls) (.int v :: st) σ τ := mj_nx i155_52 rfl
theorem i155_53 : mj_ins 155 53 = some (.iaload, 54) := by decide +kernel
theorem e155_53 {ls : mj_L} {st : List Value} {σ : mj_S} {τ : mj_T} {x : Int32} {k : Nat} : mj_E 155 53 ls (.int x :: .ref k :: st) σ τ = if mj_ib (mj_li σ k) x = true then mj_E 155 54 ls (.int (σ k x.toNatClampNeg) :: st) σ τ else none := mj_ald i155_53
theorem i155_54 : mj_ins 155 54 = some (.aload 0, 55) := by decide +kernel
theorem e155_54 {ls : mj_L} {st : List Value} {σ : mj_S} {τ : mj_T} {v : Nat} : mj_E 155 54 (some (.ref v) :: ls) st σ τ = mj_E 155 55 (some (.ref v) :: ls) (.ref v :: st) σ τ := mj_nx i155_54 rfl
theorem i155_55 : mj_ins 155 55 = some (.getfield 713, 58) := by decide +kernel
theorem e155_55 {ls : mj_L} {st : List Value} {σ : mj_S} {τ : mj_T} : mj_E 155 55 ls (.ref 62 :: st) σ τ = mj_E 155 58 ls (.ref 70 :: st) σ τ := mj_nx i155_55 rfl
theorem i155_58 : mj_ins 155 58 = some (.iload 1, 59) := by decide +kernel
theorem e155_58 {ls : mj_L} {st : List Value} {σ : mj_S} {τ : mj_T} {a0 : Option Value} {v : Int32} : mj_E 155 58 (a0 :: some (.int v) :: ls) st σ τ = mj_E 155 59 (a0 :: some (.int v) :: ls) (.int v :: st) σ τ := mj_nx i155_58 rfl
theorem i155_59 : mj_ins 155 59 = some (.iaload, 60) := by decide +kernel
theorem e155_59 {ls : mj_L} {st : List Value} {σ : mj_S} {τ : mj_T} {x : Int32} {k : Nat} : mj_E 155 59 ls (.int x :: .ref k :: st) σ τ = if mj_ib (mj_li σ k) x = true then mj_E 155 60 ls (.int (σ k x.toNatClampNeg) :: st) σ τ else none := mj_ald i155_59
theorem i155_60 : mj_ins 155 60 = some (.if_icmp .le 74, 63) := by decide +kernel
theorem e155_60 {ls : mj_L} {st : List Value} {σ : mj_S} {τ : mj_T} {x y : Int32} : mj_E 155 60 ls (.int y :: .int x :: st) σ τ = if x ≤ y then mj_E 155 74 ls st σ τ else mj_E 155 63 ls st σ τ := (mj_ifi i155_60).trans (mj_cdT rfl)
theorem i155_63 : mj_ins 155 63 = some (.iconst (3), 64) := by decide +kernel
theorem e155_63 {ls : mj_L} {st : List Value} {σ : mj_S} {τ : mj_T} : mj_E 155 63 ls st σ τ = mj_E 155 64 ls (.int (nI 3) :: st) σ τ := mj_nx i155_63 rfl
theorem i155_64 : mj_ins 155 64 = some (.aload 0, 65) := by decide +kernel
theorem e155_64 {ls : mj_L} {st : List Value} {σ : mj_S} {τ : mj_T} {v : Nat} : mj_E 155 64 (some (.ref v) :: ls) st σ τ = mj_E 155 65 (some (.ref v) :: ls) (.ref v :: st) σ τ := mj_nx i155_64 rfl
theorem i155_65 : mj_ins 155 65 = some (.getfield 708, 68) := by decide +kernel
theorem e155_65 {ls : mj_L} {st : List Value} {σ : mj_S} {τ : mj_T} : mj_E 155 65 ls (.ref 62 :: st) σ τ = mj_E 155 68 ls (.ref 65 :: st) σ τ := mj_nx i155_65 rfl
theorem i155_68 : mj_ins 155 68 = some (.iload 2, 69) := by decide +kernel
theorem e155_68 {ls : mj_L} {st : List Value} {σ : mj_S} {τ : mj_T} {a0 a1 : Option Value} {v : Int32} : mj_E 155 68 (a0 :: a1 :: some (.int v) :: ls) st σ τ = mj_E 155 69 (a0 :: a1 :: some (.int v) :: ls) (.int v :: st) σ τ := mj_nx i155_68 rfl
theorem i155_69 : mj_ins 155 69 = some (.iaload, 70) := by decide +kernel
theorem e155_69 {ls : mj_L} {st : List Value} {σ : mj_S} {τ : mj_T} {x : Int32} {k : Nat} : mj_E 155 69 ls (.int x :: .ref k :: st) σ τ = if mj_ib (mj_li σ k) x = true then mj_E 155 70 ls (.int (σ k x.toNatClampNeg) :: st) σ τ else none := mj_ald i155_69
theorem i155_70 : mj_ins 155 70 = some (.imul, 71) := by decide +kernel
theorem e155_70 {ls : mj_L} {st : List Value} {σ : mj_S} {τ : mj_T} {x y : Int32} : mj_E 155 70 ls (.int y :: .int x :: st) σ τ = mj_E 155 71 ls (.int (x * y) :: st) σ τ := mj_nx i155_70 rfl
theorem i155_71 : mj_ins 155 71 = some (.goto 75, 74) := by decide +kernel
theorem e155_71 {ls : mj_L} {st : List Value} {σ : mj_S} {τ : mj_T} : mj_E 155 71 ls st σ τ = mj_E 155 75 ls st σ τ := mj_nx i155_71 rfl
theorem i155_74 : mj_ins 155 74 = some (.iconst (0), 75) := by decide +kernel
theorem e155_74 {ls : mj_L} {st : List Value} {σ : mj_S} {τ : mj_T} : mj_E 155 74 ls st σ τ = mj_E 155 75 ls (.int (nI 0) :: st) σ τ := mj_nx i155_74 rfl
theorem i155_75 : mj_ins 155 75 = some (.iadd, 76) := by decide +kernel
theorem e155_75 {ls : mj_L} {st : List Value} {σ : mj_S} {τ : mj_T} {x y : Int32} : mj_E 155 75 ls (.int y :: .int x :: st) σ τ = mj_E 155 76 ls (.int (x + y) :: st) σ τ := mj_nx i155_75 rfl
theorem i155_76 : mj_ins 155 76 = some (.istore 7, 78) := by decide +kernel
theorem e155_76 {ls : mj_L} {st : List Value} {σ : mj_S} {τ : mj_T} {a0 a1 a2 a3 a4 a5 a6 a7 : Option Value} {v : Int32} : mj_E 155 76 (a0 :: a1 :: a2 :: a3 :: a4 :: a5 :: a6 :: a7 :: ls) (.int v :: st) σ τ = mj_E 155 78 (a0 :: a1 :: a2 :: a3 :: a4 :: a5 :: a6 :: some (.int v) :: ls) st σ τ := mj_nx i155_76 rfl
theorem i155_78 : mj_ins 155 78 = some (.aload 0, 79) := by decide +kernel
theorem e155_78 {ls : mj_L} {st : List Value} {σ : mj_S} {τ : mj_T} {v : Nat} : mj_E 155 78 (some (.ref v) :: ls) st σ τ = mj_E 155 79 (some (.ref v) :: ls) (.ref v :: st) σ τ := mj_nx i155_78 rfl
theorem i155_79 : mj_ins 155 79 = some (.getfield 707, 82) := by decide +kernel
theorem e155_79 {ls : mj_L} {st : List Value} {σ : mj_S} {τ : mj_T} : mj_E 155 79 ls (.ref 62 :: st) σ τ = mj_E 155 82 ls (.ref 64 :: st) σ τ := mj_nx i155_79 rfl
theorem i155_82 : mj_ins 155 82 = some (.iload 2, 83) := by decide +kernel
theorem e155_82 {ls : mj_L} {st : List Value} {σ : mj_S} {τ : mj_T} {a0 a1 : Option Value} {v : Int32} : mj_E 155 82 (a0 :: a1 :: some (.int v) :: ls) st σ τ = mj_E 155 83 (a0 :: a1 :: some (.int v) :: ls) (.int v :: st) σ τ := mj_nx i155_82 rfl
theorem i155_83 : mj_ins 155 83 = some (.iaload, 84) := by decide +kernel
theorem e155_83 {ls : mj_L} {st : List Value} {σ : mj_S} {τ : mj_T} {x : Int32} {k : Nat} : mj_E 155 83 ls (.int x :: .ref k :: st) σ τ = if mj_ib (mj_li σ k) x = true then mj_E 155 84 ls (.int (σ k x.toNatClampNeg) :: st) σ τ else none := mj_ald i155_83
theorem i155_84 : mj_ins 155 84 = some (.tableswitch 205 (1) (6) #[124, 166, 138, 192, 173, 145], 84) := by decide +kernel
theorem e155_84 {ls : mj_L} {st : List Value} {σ : mj_S} {τ : mj_T} {x : Int32} : mj_E 155 84 ls (.int x :: st) σ τ = if x = nI 1 then mj_E 155 124 ls st σ τ else if x = nI 2 then mj_E 155 166 ls st σ τ else if x = nI 3 then mj_E 155 138 ls st σ τ else if x = nI 4 then mj_E 155 192 ls st σ τ else if x = nI 5 then mj_E 155 173 ls st σ τ else if x = nI 6 then mj_E 155 145 ls st σ τ else mj_E 155 205 ls st σ τ := mj_tsw i155_84 (by decide)
theorem i155_124 : mj_ins 155 124 = some (.iload 4, 126) := by decide +kernel
theorem e155_124 {ls : mj_L} {st : List Value} {σ : mj_S} {τ : mj_T} {a0 a1 a2 a3 : Option Value} {v : Int32} : mj_E 155 124 (a0 :: a1 :: a2 :: a3 :: some (.int v) :: ls) st σ τ = mj_E 155 126 (a0 :: a1 :: a2 :: a3 :: some (.int v) :: ls) (.int v :: st) σ τ := mj_nx i155_124 rfl
theorem i155_126 : mj_ins 155 126 = some (.aload 0, 127) := by decide +kernel
theorem e155_126 {ls : mj_L} {st : List Value} {σ : mj_S} {τ : mj_T} {v : Nat} : mj_E 155 126 (some (.ref v) :: ls) st σ τ = mj_E 155 127 (some (.ref v) :: ls) (.ref v :: st) σ τ := mj_nx i155_126 rfl
theorem i155_127 : mj_ins 155 127 = some (.getfield 708, 130) := by decide +kernel
theorem e155_127 {ls : mj_L} {st : List Value} {σ : mj_S} {τ : mj_T} : mj_E 155 127 ls (.ref 62 :: st) σ τ = mj_E 155 130 ls (.ref 65 :: st) σ τ := mj_nx i155_127 rfl
theorem i155_130 : mj_ins 155 130 = some (.iload 2, 131) := by decide +kernel
theorem e155_130 {ls : mj_L} {st : List Value} {σ : mj_S} {τ : mj_T} {a0 a1 : Option Value} {v : Int32} : mj_E 155 130 (a0 :: a1 :: some (.int v) :: ls) st σ τ = mj_E 155 131 (a0 :: a1 :: some (.int v) :: ls) (.int v :: st) σ τ := mj_nx i155_130 rfl
theorem i155_131 : mj_ins 155 131 = some (.iaload, 132) := by decide +kernel
theorem e155_131 {ls : mj_L} {st : List Value} {σ : mj_S} {τ : mj_T} {x : Int32} {k : Nat} : mj_E 155 131 ls (.int x :: .ref k :: st) σ τ = if mj_ib (mj_li σ k) x = true then mj_E 155 132 ls (.int (σ k x.toNatClampNeg) :: st) σ τ else none := mj_ald i155_131
theorem i155_132 : mj_ins 155 132 = some (.iadd, 133) := by decide +kernel
theorem e155_132 {ls : mj_L} {st : List Value} {σ : mj_S} {τ : mj_T} {x y : Int32} : mj_E 155 132 ls (.int y :: .int x :: st) σ τ = mj_E 155 133 ls (.int (x + y) :: st) σ τ := mj_nx i155_132 rfl
theorem i155_133 : mj_ins 155 133 = some (.istore 5, 135) := by decide +kernel
theorem e155_133 {ls : mj_L} {st : List Value} {σ : mj_S} {τ : mj_T} {a0 a1 a2 a3 a4 a5 : Option Value} {v : Int32} : mj_E 155 133 (a0 :: a1 :: a2 :: a3 :: a4 :: a5 :: ls) (.int v :: st) σ τ = mj_E 155 135 (a0 :: a1 :: a2 :: a3 :: a4 :: some (.int v) :: ls) st σ τ := mj_nx i155_133 rfl
theorem i155_135 : mj_ins 155 135 = some (.goto 209, 138) := by decide +kernel
theorem e155_135 {ls : mj_L} {st : List Value} {σ : mj_S} {τ : mj_T} : mj_E 155 135 ls st σ τ = mj_E 155 209 ls st σ τ := mj_nx i155_135 rfl
theorem i155_138 : mj_ins 155 138 = some (.iload 6, 140) := by decide +kernel
theorem e155_138 {ls : mj_L} {st : List Value} {σ : mj_S} {τ : mj_T} {a0 a1 a2 a3 a4 a5 : Option Value} {v : Int32} : mj_E 155 138 (a0 :: a1 :: a2 :: a3 :: a4 :: a5 :: some (.int v) :: ls) st σ τ = mj_E 155 140 (a0 :: a1 :: a2 :: a3 :: a4 :: a5 :: some (.int v) :: ls) (.int v :: st) σ τ := mj_nx i155_138 rfl
theorem i155_140 : mj_ins 155 140 = some (.istore 5, 142) := by decide +kernel
theorem e155_140 {ls : mj_L} {st : List Value} {σ : mj_S} {τ : mj_T} {a0 a1 a2 a3 a4 a5 : Option Value} {v : Int32} : mj_E 155 140 (a0 :: a1 :: a2 :: a3 :: a4 :: a5 :: ls) (.int v :: st) σ τ = mj_E 155 142 (a0 :: a1 :: a2 :: a3 :: a4 :: some (.int v) :: ls) st σ τ := mj_nx i155_140 rfl
theorem i155_142 : mj_ins 155 142 = some (.goto 209, 145) := by decide +kernel
theorem e155_142 {ls : mj_L} {st : List Value} {σ : mj_S} {τ : mj_T} : mj_E 155 142 ls st σ τ = mj_E 155 209 ls st σ τ := mj_nx i155_142 rfl
theorem i155_145 : mj_ins 155 145 = some (.aload 0, 146) := by decide +kernel
theorem e155_145 {ls : mj_L} {st : List Value} {σ : mj_S} {τ : mj_T} {v : Nat} : mj_E 155 145 (some (.ref v) :: ls) st σ τ = mj_E 155 146 (some (.ref v) :: ls) (.ref v :: st) σ τ := mj_nx i155_145 rfl
theorem i155_146 : mj_ins 155 146 = some (.getfield 709, 149) := by decide +kernel
theorem e155_146 {ls : mj_L} {st : List Value} {σ : mj_S} {τ : mj_T} : mj_E 155 146 ls (.ref 62 :: st) σ τ = mj_E 155 149 ls (.ref 66 :: st) σ τ := mj_nx i155_146 rfl
theorem i155_149 : mj_ins 155 149 = some (.iload 2, 150) := by decide +kernel
theorem e155_149 {ls : mj_L} {st : List Value} {σ : mj_S} {τ : mj_T} {a0 a1 : Option Value} {v : Int32} : mj_E 155 149 (a0 :: a1 :: some (.int v) :: ls) st σ τ = mj_E 155 150 (a0 :: a1 :: some (.int v) :: ls) (.int v :: st) σ τ := mj_nx i155_149 rfl
theorem i155_150 : mj_ins 155 150 = some (.iaload, 151) := by decide +kernel
theorem e155_150 {ls : mj_L} {st : List Value} {σ : mj_S} {τ : mj_T} {x : Int32} {k : Nat} : mj_E 155 150 ls (.int x :: .ref k :: st) σ τ = if mj_ib (mj_li σ k) x = true then mj_E 155 151 ls (.int (σ k x.toNatClampNeg) :: st) σ τ else none := mj_ald i155_150
theorem i155_151 : mj_ins 155 151 = some (.iconst (5), 152) := by decide +kernel
theorem e155_151 {ls : mj_L} {st : List Value} {σ : mj_S} {τ : mj_T} : mj_E 155 151 ls st σ τ = mj_E 155 152 ls (.int (nI 5) :: st) σ τ := mj_nx i155_151 rfl
theorem i155_152 : mj_ins 155 152 = some (.if_icmp .lt 159, 155) := by decide +kernel
theorem e155_152 {ls : mj_L} {st : List Value} {σ : mj_S} {τ : mj_T} {x y : Int32} : mj_E 155 152 ls (.int y :: .int x :: st) σ τ = if x < y then mj_E 155 159 ls st σ τ else mj_E 155 155 ls st σ τ := (mj_ifi i155_152).trans (mj_cdT rfl)
theorem i155_155 : mj_ins 155 155 = some (.iconst (0), 156) := by decide +kernel
theorem e155_155 {ls : mj_L} {st : List Value} {σ : mj_S} {τ : mj_T} : mj_E 155 155 ls st σ τ = mj_E 155 156 ls (.int (nI 0) :: st) σ τ := mj_nx i155_155 rfl
theorem i155_156 : mj_ins 155 156 = some (.goto 161, 159) := by decide +kernel
theorem e155_156 {ls : mj_L} {st : List Value} {σ : mj_S} {τ : mj_T} : mj_E 155 156 ls st σ τ = mj_E 155 161 ls st σ τ := mj_nx i155_156 rfl
theorem i155_159 : mj_ins 155 159 = some (.iload 6, 161) := by decide +kernel
theorem e155_159 {ls : mj_L} {st : List Value} {σ : mj_S} {τ : mj_T} {a0 a1 a2 a3 a4 a5 : Option Value} {v : Int32} : mj_E 155 159 (a0 :: a1 :: a2 :: a3 :: a4 :: a5 :: some (.int v) :: ls) st σ τ = mj_E 155 161 (a0 :: a1 :: a2 :: a3 :: a4 :: a5 :: some (.int v) :: ls) (.int v :: st) σ τ := mj_nx i155_159 rfl
theorem i155_161 : mj_ins 155 161 = some (.istore 5, 163) := by decide +kernel
theorem e155_161 {ls : mj_L} {st : List Value} {σ : mj_S} {τ : mj_T} {a0 a1 a2 a3 a4 a5 : Option Value} {v : Int32} : mj_E 155 161 (a0 :: a1 :: a2 :: a3 :: a4 :: a5 :: ls) (.int v :: st) σ τ = mj_E 155 163 (a0 :: a1 :: a2 :: a3 :: a4 :: some (.int v) :: ls) st σ τ := mj_nx i155_161 rfl
theorem i155_163 : mj_ins 155 163 = some (.goto 209, 166) := by decide +kernel
theorem e155_163 {ls : mj_L} {st : List Value} {σ : mj_S} {τ : mj_T} : mj_E 155 163 ls st σ τ = mj_E 155 209 ls st σ τ := mj_nx i155_163 rfl
theorem i155_166 : mj_ins 155 166 = some (.iload 7, 168) := by decide +kernel
theorem e155_166 {ls : mj_L} {st : List Value} {σ : mj_S} {τ : mj_T} {a0 a1 a2 a3 a4 a5 a6 : Option Value} {v : Int32} : mj_E 155 166 (a0 :: a1 :: a2 :: a3 :: a4 :: a5 :: a6 :: some (.int v) :: ls) st σ τ = mj_E 155 168 (a0 :: a1 :: a2 :: a3 :: a4 :: a5 :: a6 :: some (.int v) :: ls) (.int v :: st) σ τ := mj_nx i155_166 rfl
theorem i155_168 : mj_ins 155 168 = some (.istore 5, 170) := by decide +kernel
theorem e155_168 {ls : mj_L} {st : List Value} {σ : mj_S} {τ : mj_T} {a0 a1 a2 a3 a4 a5 : Option Value} {v : Int32} : mj_E 155 168 (a0 :: a1 :: a2 :: a3 :: a4 :: a5 :: ls) (.int v :: st) σ τ = mj_E 155 170 (a0 :: a1 :: a2 :: a3 :: a4 :: some (.int v) :: ls) st σ τ := mj_nx i155_168 rfl
theorem i155_170 : mj_ins 155 170 = some (.goto 209, 173) := by decide +kernel
theorem e155_170 {ls : mj_L} {st : List Value} {σ : mj_S} {τ : mj_T} : mj_E 155 170 ls st σ τ = mj_E 155 209 ls st σ τ := mj_nx i155_170 rfl
theorem i155_173 : mj_ins 155 173 = some (.iload 7, 175) := by decide +kernel
theorem e155_173 {ls : mj_L} {st : List Value} {σ : mj_S} {τ : mj_T} {a0 a1 a2 a3 a4 a5 a6 : Option Value} {v : Int32} : mj_E 155 173 (a0 :: a1 :: a2 :: a3 :: a4 :: a5 :: a6 :: some (.int v) :: ls) st σ τ = mj_E 155 175 (a0 :: a1 :: a2 :: a3 :: a4 :: a5 :: a6 :: some (.int v) :: ls) (.int v :: st) σ τ := mj_nx i155_173 rfl
theorem i155_175 : mj_ins 155 175 = some (.aload 0, 176) := by decide +kernel
theorem e155_175 {ls : mj_L} {st : List Value} {σ : mj_S} {τ : mj_T} {v : Nat} : mj_E 155 175 (some (.ref v) :: ls) st σ τ = mj_E 155 176 (some (.ref v) :: ls) (.ref v :: st) σ τ := mj_nx i155_175 rfl
theorem i155_176 : mj_ins 155 176 = some (.getfield 702, 179) := by decide +kernel
theorem e155_176 {ls : mj_L} {st : List Value} {σ : mj_S} {τ : mj_T} : mj_E 155 176 ls (.ref 62 :: st) σ τ = mj_E 155 179 ls (.int (σ 62 2) :: st) σ τ := mj_nx i155_176 rfl
theorem i155_179 : mj_ins 155 179 = some (.aload 0, 180) := by decide +kernel
theorem e155_179 {ls : mj_L} {st : List Value} {σ : mj_S} {τ : mj_T} {v : Nat} : mj_E 155 179 (some (.ref v) :: ls) st σ τ = mj_E 155 180 (some (.ref v) :: ls) (.ref v :: st) σ τ := mj_nx i155_179 rfl
theorem i155_180 : mj_ins 155 180 = some (.getfield 708, 183) := by decide +kernel
theorem e155_180 {ls : mj_L} {st : List Value} {σ : mj_S} {τ : mj_T} : mj_E 155 180 ls (.ref 62 :: st) σ τ = mj_E 155 183 ls (.ref 65 :: st) σ τ := mj_nx i155_180 rfl
theorem i155_183 : mj_ins 155 183 = some (.iload 2, 184) := by decide +kernel
theorem e155_183 {ls : mj_L} {st : List Value} {σ : mj_S} {τ : mj_T} {a0 a1 : Option Value} {v : Int32} : mj_E 155 183 (a0 :: a1 :: some (.int v) :: ls) st σ τ = mj_E 155 184 (a0 :: a1 :: some (.int v) :: ls) (.int v :: st) σ τ := mj_nx i155_183 rfl
theorem i155_184 : mj_ins 155 184 = some (.iaload, 185) := by decide +kernel
theorem e155_184 {ls : mj_L} {st : List Value} {σ : mj_S} {τ : mj_T} {x : Int32} {k : Nat} : mj_E 155 184 ls (.int x :: .ref k :: st) σ τ = if mj_ib (mj_li σ k) x = true then mj_E 155 185 ls (.int (σ k x.toNatClampNeg) :: st) σ τ else none := mj_ald i155_184
theorem i155_185 : mj_ins 155 185 = some (.imul, 186) := by decide +kernel
theorem e155_185 {ls : mj_L} {st : List Value} {σ : mj_S} {τ : mj_T} {x y : Int32} : mj_E 155 185 ls (.int y :: .int x :: st) σ τ = mj_E 155 186 ls (.int (x * y) :: st) σ τ := mj_nx i155_185 rfl
theorem i155_186 : mj_ins 155 186 = some (.iadd, 187) := by decide +kernel
theorem e155_186 {ls : mj_L} {st : List Value} {σ : mj_S} {τ : mj_T} {x y : Int32} : mj_E 155 186 ls (.int y :: .int x :: st) σ τ = mj_E 155 187 ls (.int (x + y) :: st) σ τ := mj_nx i155_186 rfl
theorem i155_187 : mj_ins 155 187 = some (.istore 5, 189) := by decide +kernel
theorem e155_187 {ls : mj_L} {st : List Value} {σ : mj_S} {τ : mj_T} {a0 a1 a2 a3 a4 a5 : Option Value} {v : Int32} : mj_E 155 187 (a0 :: a1 :: a2 :: a3 :: a4 :: a5 :: ls) (.int v :: st) σ τ = mj_E 155 189 (a0 :: a1 :: a2 :: a3 :: a4 :: some (.int v) :: ls) st σ τ := mj_nx i155_187 rfl
theorem i155_189 : mj_ins 155 189 = some (.goto 209, 192) := by decide +kernel
theorem e155_189 {ls : mj_L} {st : List Value} {σ : mj_S} {τ : mj_T} : mj_E 155 189 ls st σ τ = mj_E 155 209 ls st σ τ := mj_nx i155_189 rfl
theorem i155_192 : mj_ins 155 192 = some (.iload 3, 193) := by decide +kernel
theorem e155_192 {ls : mj_L} {st : List Value} {σ : mj_S} {τ : mj_T} {a0 a1 a2 : Option Value} {v : Int32} : mj_E 155 192 (a0 :: a1 :: a2 :: some (.int v) :: ls) st σ τ = mj_E 155 193 (a0 :: a1 :: a2 :: some (.int v) :: ls) (.int v :: st) σ τ := mj_nx i155_192 rfl
theorem i155_193 : mj_ins 155 193 = some (.aload 0, 194) := by decide +kernel
theorem e155_193 {ls : mj_L} {st : List Value} {σ : mj_S} {τ : mj_T} {v : Nat} : mj_E 155 193 (some (.ref v) :: ls) st σ τ = mj_E 155 194 (some (.ref v) :: ls) (.ref v :: st) σ τ := mj_nx i155_193 rfl
theorem i155_194 : mj_ins 155 194 = some (.getfield 714, 197) := by decide +kernel
theorem e155_194 {ls : mj_L} {st : List Value} {σ : mj_S} {τ : mj_T} : mj_E 155 194 ls (.ref 62 :: st) σ τ = mj_E 155 197 ls (.ref 71 :: st) σ τ := mj_nx i155_194 rfl
theorem i155_197 : mj_ins 155 197 = some (.iload 1, 198) := by decide +kernel
theorem e155_197 {ls : mj_L} {st : List Value} {σ : mj_S} {τ : mj_T} {a0 : Option Value} {v : Int32} : mj_E 155 197 (a0 :: some (.int v) :: ls) st σ τ = mj_E 155 198 (a0 :: some (.int v) :: ls) (.int v :: st) σ τ := mj_nx i155_197 rfl
theorem i155_198 : mj_ins 155 198 = some (.iaload, 199) := by decide +kernel
theorem e155_198 {ls : mj_L} {st : List Value} {σ : mj_S} {τ : mj_T} {x : Int32} {k : Nat} : mj_E 155 198 ls (.int x :: .ref k :: st) σ τ = if mj_ib (mj_li σ k) x = true then mj_E 155 199 ls (.int (σ k x.toNatClampNeg) :: st) σ τ else none := mj_ald i155_198
theorem i155_199 : mj_ins 155 199 = some (.iadd, 200) := by decide +kernel
theorem e155_199 {ls : mj_L} {st : List Value} {σ : mj_S} {τ : mj_T} {x y : Int32} : mj_E 155 199 ls (.int y :: .int x :: st) σ τ = mj_E 155 200 ls (.int (x + y) :: st) σ τ := mj_nx i155_199 rfl
theorem i155_200 : mj_ins 155 200 = some (.istore 5, 202) := by decide +kernel
theorem e155_200 {ls : mj_L} {st : List Value} {σ : mj_S} {τ : mj_T} {a0 a1 a2 a3 a4 a5 : Option Value} {v : Int32} : mj_E 155 200 (a0 :: a1 :: a2 :: a3 :: a4 :: a5 :: ls) (.int v :: st) σ τ = mj_E 155 202 (a0 :: a1 :: a2 :: a3 :: a4 :: some (.int v) :: ls) st σ τ := mj_nx i155_200 rfl
theorem i155_202 : mj_ins 155 202 = some (.goto 209, 205) := by decide +kernel
theorem e155_202 {ls : mj_L} {st : List Value} {σ : mj_S} {τ : mj_T} : mj_E 155 202 ls st σ τ = mj_E 155 209 ls st σ τ := mj_nx i155_202 rfl
theorem i155_205 : mj_ins 155 205 = some (.iload 4, 207) := by decide +kernel
theorem e155_205 {ls : mj_L} {st : List Value} {σ : mj_S} {τ : mj_T} {a0 a1 a2 a3 : Option Value} {v : Int32} : mj_E 155 205 (a0 :: a1 :: a2 :: a3 :: some (.int v) :: ls) st σ τ = mj_E 155 207 (a0 :: a1 :: a2 :: a3 :: some (.int v) :: ls) (.int v :: st) σ τ := mj_nx i155_205 rfl
theorem i155_207 : mj_ins 155 207 = some (.istore 5, 209) := by decide +kernel
theorem e155_207 {ls : mj_L} {st : List Value} {σ : mj_S} {τ : mj_T} {a0 a1 a2 a3 a4 a5 : Option Value} {v : Int32} : mj_E 155 207 (a0 :: a1 :: a2 :: a3 :: a4 :: a5 :: ls) (.int v :: st) σ τ = mj_E 155 209 (a0 :: a1 :: a2 :: a3 :: a4 :: some (.int v) :: ls) st σ τ := mj_nx i155_207 rfl
theorem i155_209 : mj_ins 155 209 = some (.iload 5, 211) := by decide +kernel
theorem e155_209 {ls : mj_L} {st : List Value} {σ : mj_S} {τ : mj_T} {a0 a1 a2 a3 a4 : Option Value} {v : Int32} : mj_E 155 209 (a0 :: a1 :: a2 :: a3 :: a4 :: some (.int v) :: ls) st σ τ = mj_E 155 211 (a0 :: a1 :: a2 :: a3 :: a4 :: some (.int v) :: ls) (.int v :: st) σ τ := mj_nx i155_209 rfl
theorem i155_211 : mj_ins 155 211 = some (.ifCond .ge 218, 214) := by decide +kernel
theorem e155_211 {ls : mj_L} {st : List Value} {σ : mj_S} {τ : mj_T} {x : Int32} : mj_E 155 211 ls (.int x :: st) σ τ = if 0 ≤ x then mj_E 155 218 ls st σ τ else mj_E 155 214 ls st σ τ := (mj_ifc i155_211).trans (mj_cdT rfl)
theorem i155_214 : mj_ins 155 214 = some (.iconst (0), 215) := by decide +kernel
theorem e155_214 {ls : mj_L} {st : List Value} {σ : mj_S} {τ : mj_T} : mj_E 155 214 ls st σ τ = mj_E 155 215 ls (.int (nI 0) :: st) σ τ := mj_nx i155_214 rfl
theorem i155_215 : mj_ins 155 215 = some (.goto 220, 218) := by decide +kernel
theorem e155_215 {ls : mj_L} {st : List Value} {σ : mj_S} {τ : mj_T} : mj_E 155 215 ls st σ τ = mj_E 155 220 ls st σ τ := mj_nx i155_215 rfl
theorem i155_218 : mj_ins 155 218 = some (.iload 5, 220) := by decide +kernel
theorem e155_218 {ls : mj_L} {st : List Value} {σ : mj_S} {τ : mj_T} {a0 a1 a2 a3 a4 : Option Value} {v : Int32} : mj_E 155 218 (a0 :: a1 :: a2 :: a3 :: a4 :: some (.int v) :: ls) st σ τ = mj_E 155 220 (a0 :: a1 :: a2 :: a3 :: a4 :: some (.int v) :: ls) (.int v :: st) σ τ := mj_nx i155_218 rfl
theorem i155_220 : mj_ins 155 220 = some (.ireturn, 221) := by decide +kernel
theorem e155_220 {ls : mj_L} {σ : mj_S} {τ : mj_T} {v : Int32} : mj_E 155 220 ls [.int v] σ τ = some (some (.int v), σ, τ) := mj_irt i155_220 rfl
theorem c156 {σ : mj_S} {τ : mj_T} {r : Nat} {x0 : Int32} {x1 : Int32} : mj_C 156 [.ref r, .int x0, .int x1] σ τ = mj_E 156 0 [some (.ref r), some (.int x0), some (.int x1)] [] σ τ := rfl
theorem i156_0 : mj_ins 156 0 = some (.aload 0, 1) := by decide +kernel
theorem e156_0 {ls : mj_L} {st : List Value} {σ : mj_S} {τ : mj_T} {v : Nat} : mj_E 156 0 (some (.ref v) :: ls) st σ τ = mj_E 156 1 (some (.ref v) :: ls) (.ref v :: st) σ τ := mj_nx i156_0 rfl
theorem i156_1 : mj_ins 156 1 = some (.iload 1, 2) := by decide +kernel
theorem e156_1 {ls : mj_L} {st : List Value} {σ : mj_S} {τ : mj_T} {a0 : Option Value} {v : Int32} : mj_E 156 1 (a0 :: some (.int v) :: ls) st σ τ = mj_E 156 2 (a0 :: some (.int v) :: ls) (.int v :: st) σ τ := mj_nx i156_1 rfl
theorem i156_2 : mj_ins 156 2 = some (.iload 2, 3) := by decide +kernel
theorem e156_2 {ls : mj_L} {st : List Value} {σ : mj_S} {τ : mj_T} {a0 a1 : Option Value} {v : Int32} : mj_E 156 2 (a0 :: a1 :: some (.int v) :: ls) st σ τ = mj_E 156 3 (a0 :: a1 :: some (.int v) :: ls) (.int v :: st) σ τ := mj_nx i156_2 rfl
theorem i156_3 : mj_ins 156 3 = some (.aload 0, 4) := by decide +kernel
theorem e156_3 {ls : mj_L} {st : List Value} {σ : mj_S} {τ : mj_T} {v : Nat} : mj_E 156 3 (some (.ref v) :: ls) st σ τ = mj_E 156 4 (some (.ref v) :: ls) (.ref v :: st) σ τ := mj_nx i156_3 rfl
theorem i156_4 : mj_ins 156 4 = some (.getfield 716, 7) := by decide +kernel
theorem e156_4 {ls : mj_L} {st : List Value} {σ : mj_S} {τ : mj_T} : mj_E 156 4 ls (.ref 62 :: st) σ τ = mj_E 156 7 ls (.ref 73 :: st) σ τ := mj_nx i156_4 rfl
theorem i156_7 : mj_ins 156 7 = some (.iconst (8), 9) := by decide +kernel
theorem e156_7 {ls : mj_L} {st : List Value} {σ : mj_S} {τ : mj_T} : mj_E 156 7 ls st σ τ = mj_E 156 9 ls (.int (nI 8) :: st) σ τ := mj_nx i156_7 rfl
theorem i156_9 : mj_ins 156 9 = some (.iload 1, 10) := by decide +kernel
theorem e156_9 {ls : mj_L} {st : List Value} {σ : mj_S} {τ : mj_T} {a0 : Option Value} {v : Int32} : mj_E 156 9 (a0 :: some (.int v) :: ls) st σ τ = mj_E 156 10 (a0 :: some (.int v) :: ls) (.int v :: st) σ τ := mj_nx i156_9 rfl
theorem i156_10 : mj_ins 156 10 = some (.imul, 11) := by decide +kernel
theorem e156_10 {ls : mj_L} {st : List Value} {σ : mj_S} {τ : mj_T} {x y : Int32} : mj_E 156 10 ls (.int y :: .int x :: st) σ τ = mj_E 156 11 ls (.int (x * y) :: st) σ τ := mj_nx i156_10 rfl
theorem i156_11 : mj_ins 156 11 = some (.iload 2, 12) := by decide +kernel
theorem e156_11 {ls : mj_L} {st : List Value} {σ : mj_S} {τ : mj_T} {a0 a1 : Option Value} {v : Int32} : mj_E 156 11 (a0 :: a1 :: some (.int v) :: ls) st σ τ = mj_E 156 12 (a0 :: a1 :: some (.int v) :: ls) (.int v :: st) σ τ := mj_nx i156_11 rfl
theorem i156_12 : mj_ins 156 12 = some (.iadd, 13) := by decide +kernel
theorem e156_12 {ls : mj_L} {st : List Value} {σ : mj_S} {τ : mj_T} {x y : Int32} : mj_E 156 12 ls (.int y :: .int x :: st) σ τ = mj_E 156 13 ls (.int (x + y) :: st) σ τ := mj_nx i156_12 rfl
theorem i156_13 : mj_ins 156 13 = some (.iaload, 14) := by decide +kernel
theorem e156_13 {ls : mj_L} {st : List Value} {σ : mj_S} {τ : mj_T} {x : Int32} {k : Nat} : mj_E 156 13 ls (.int x :: .ref k :: st) σ τ = if mj_ib (mj_li σ k) x = true then mj_E 156 14 ls (.int (σ k x.toNatClampNeg) :: st) σ τ else none := mj_ald i156_13
theorem i156_14 : mj_ins 156 14 = some (.invokevirtual 155, 17) := by decide +kernel
theorem e156_14 {ls : mj_L} {σ : mj_S} {τ : mj_T} {r : Nat} {x0 : Int32} {x1 : Int32} {x2 : Int32} : mj_E 156 14 ls [.int x2, .int x1, .int x0, .ref r] σ τ = if mj_rcv r 7 = true then mj_bd (mj_C 155 [.ref r, .int x0, .int x1, .int x2] σ τ) (mj_K 156 17 ls []) else none := mj_clV (as := [.int x0, .int x1, .int x2]) (r := []) i156_14 (by decide +kernel : mj_vk 156 155 3 0 4 false = true) (by decide +kernel)
theorem i156_17 : mj_ins 156 17 = some (.ireturn, 18) := by decide +kernel
theorem e156_17 {ls : mj_L} {σ : mj_S} {τ : mj_T} {v : Int32} : mj_E 156 17 ls [.int v] σ τ = some (some (.int v), σ, τ) := mj_irt i156_17 rfl
theorem c157 {σ : mj_S} {τ : mj_T} {r : Nat} {x0 : Int32} : mj_C 157 [.ref r, .int x0] σ τ = mj_E 157 0 [some (.ref r), some (.int x0), none, none, none, none, none] [] σ τ := rfl
theorem i157_0 : mj_ins 157 0 = some (.aload 0, 1) := by decide +kernel
theorem e157_0 {ls : mj_L} {st : List Value} {σ : mj_S} {τ : mj_T} {v : Nat} : mj_E 157 0 (some (.ref v) :: ls) st σ τ = mj_E 157 1 (some (.ref v) :: ls) (.ref v :: st) σ τ := mj_nx i157_0 rfl
theorem i157_1 : mj_ins 157 1 = some (.iconst (-1), 2) := by decide +kernel
theorem e157_1 {ls : mj_L} {st : List Value} {σ : mj_S} {τ : mj_T} : mj_E 157 1 ls st σ τ = mj_E 157 2 ls (.int ((-1)) :: st) σ τ := mj_nx i157_1 rfl
theorem i157_2 : mj_ins 157 2 = some (.putfield 735, 5) := by decide +kernel
theorem e157_2 {ls : mj_L} {st : List Value} {σ : mj_S} {τ : mj_T} {v : Int32} : mj_E 157 2 ls (.int v :: .ref 62 :: st) σ τ = mj_E 157 5 ls st (mj_up σ 62 35 v) τ := mj_nx i157_2 rfl
theorem i157_5 : mj_ins 157 5 = some (.aload 0, 6) := by decide +kernel
theorem e157_5 {ls : mj_L} {st : List Value} {σ : mj_S} {τ : mj_T} {v : Nat} : mj_E 157 5 (some (.ref v) :: ls) st σ τ = mj_E 157 6 (some (.ref v) :: ls) (.ref v :: st) σ τ := mj_nx i157_5 rfl
theorem i157_6 : mj_ins 157 6 = some (.iconst (-1), 7) := by decide +kernel
theorem e157_6 {ls : mj_L} {st : List Value} {σ : mj_S} {τ : mj_T} : mj_E 157 6 ls st σ τ = mj_E 157 7 ls (.int ((-1)) :: st) σ τ := mj_nx i157_6 rfl
theorem i157_7 : mj_ins 157 7 = some (.putfield 736, 10) := by decide +kernel
theorem e157_7 {ls : mj_L} {st : List Value} {σ : mj_S} {τ : mj_T} {v : Int32} : mj_E 157 7 ls (.int v :: .ref 62 :: st) σ τ = mj_E 157 10 ls st (mj_up σ 62 36 v) τ := mj_nx i157_7 rfl
theorem i157_10 : mj_ins 157 10 = some (.aload 0, 11) := by decide +kernel
theorem e157_10 {ls : mj_L} {st : List Value} {σ : mj_S} {τ : mj_T} {v : Nat} : mj_E 157 10 (some (.ref v) :: ls) st σ τ = mj_E 157 11 (some (.ref v) :: ls) (.ref v :: st) σ τ := mj_nx i157_10 rfl
theorem i157_11 : mj_ins 157 11 = some (.iconst (-1), 12) := by decide +kernel
theorem e157_11 {ls : mj_L} {st : List Value} {σ : mj_S} {τ : mj_T} : mj_E 157 11 ls st σ τ = mj_E 157 12 ls (.int ((-1)) :: st) σ τ := mj_nx i157_11 rfl
theorem i157_12 : mj_ins 157 12 = some (.putfield 737, 15) := by decide +kernel
theorem e157_12 {ls : mj_L} {st : List Value} {σ : mj_S} {τ : mj_T} {v : Int32} : mj_E 157 12 ls (.int v :: .ref 62 :: st) σ τ = mj_E 157 15 ls st (mj_up σ 62 37 v) τ := mj_nx i157_12 rfl
theorem i157_15 : mj_ins 157 15 = some (.iconst (0), 16) := by decide +kernel
theorem e157_15 {ls : mj_L} {st : List Value} {σ : mj_S} {τ : mj_T} : mj_E 157 15 ls st σ τ = mj_E 157 16 ls (.int (nI 0) :: st) σ τ := mj_nx i157_15 rfl
theorem i157_16 : mj_ins 157 16 = some (.istore 2, 17) := by decide +kernel
theorem e157_16 {ls : mj_L} {st : List Value} {σ : mj_S} {τ : mj_T} {a0 a1 a2 : Option Value} {v : Int32} : mj_E 157 16 (a0 :: a1 :: a2 :: ls) (.int v :: st) σ τ = mj_E 157 17 (a0 :: a1 :: some (.int v) :: ls) st σ τ := mj_nx i157_16 rfl
theorem i157_17 : mj_ins 157 17 = some (.iconst (0), 18) := by decide +kernel
theorem e157_17 {ls : mj_L} {st : List Value} {σ : mj_S} {τ : mj_T} : mj_E 157 17 ls st σ τ = mj_E 157 18 ls (.int (nI 0) :: st) σ τ := mj_nx i157_17 rfl
theorem i157_18 : mj_ins 157 18 = some (.istore 3, 19) := by decide +kernel
theorem e157_18 {ls : mj_L} {st : List Value} {σ : mj_S} {τ : mj_T} {a0 a1 a2 a3 : Option Value} {v : Int32} : mj_E 157 18 (a0 :: a1 :: a2 :: a3 :: ls) (.int v :: st) σ τ = mj_E 157 19 (a0 :: a1 :: a2 :: some (.int v) :: ls) st σ τ := mj_nx i157_18 rfl
theorem i157_19 : mj_ins 157 19 = some (.iconst (0), 20) := by decide +kernel
theorem e157_19 {ls : mj_L} {st : List Value} {σ : mj_S} {τ : mj_T} : mj_E 157 19 ls st σ τ = mj_E 157 20 ls (.int (nI 0) :: st) σ τ := mj_nx i157_19 rfl
theorem i157_20 : mj_ins 157 20 = some (.istore 4, 22) := by decide +kernel
theorem e157_20 {ls : mj_L} {st : List Value} {σ : mj_S} {τ : mj_T} {a0 a1 a2 a3 a4 : Option Value} {v : Int32} : mj_E 157 20 (a0 :: a1 :: a2 :: a3 :: a4 :: ls) (.int v :: st) σ τ = mj_E 157 22 (a0 :: a1 :: a2 :: a3 :: some (.int v) :: ls) st σ τ := mj_nx i157_20 rfl
theorem i157_22 : mj_ins 157 22 = some (.iconst (0), 23) := by decide +kernel
theorem e157_22 {ls : mj_L} {st : List Value} {σ : mj_S} {τ : mj_T} : mj_E 157 22 ls st σ τ = mj_E 157 23 ls (.int (nI 0) :: st) σ τ := mj_nx i157_22 rfl
theorem i157_23 : mj_ins 157 23 = some (.istore 5, 25) := by decide +kernel
theorem e157_23 {ls : mj_L} {st : List Value} {σ : mj_S} {τ : mj_T} {a0 a1 a2 a3 a4 a5 : Option Value} {v : Int32} : mj_E 157 23 (a0 :: a1 :: a2 :: a3 :: a4 :: a5 :: ls) (.int v :: st) σ τ = mj_E 157 25 (a0 :: a1 :: a2 :: a3 :: a4 :: some (.int v) :: ls) st σ τ := mj_nx i157_23 rfl
theorem i157_25 : mj_ins 157 25 = some (.iload 5, 27) := by decide +kernel
theorem e157_25 {ls : mj_L} {st : List Value} {σ : mj_S} {τ : mj_T} {a0 a1 a2 a3 a4 : Option Value} {v : Int32} : mj_E 157 25 (a0 :: a1 :: a2 :: a3 :: a4 :: some (.int v) :: ls) st σ τ = mj_E 157 27 (a0 :: a1 :: a2 :: a3 :: a4 :: some (.int v) :: ls) (.int v :: st) σ τ := mj_nx i157_25 rfl
theorem i157_27 : mj_ins 157 27 = some (.aload 0, 28) := by decide +kernel
theorem e157_27 {ls : mj_L} {st : List Value} {σ : mj_S} {τ : mj_T} {v : Nat} : mj_E 157 27 (some (.ref v) :: ls) st σ τ = mj_E 157 28 (some (.ref v) :: ls) (.ref v :: st) σ τ := mj_nx i157_27 rfl
theorem i157_28 : mj_ins 157 28 = some (.getfield 700, 31) := by decide +kernel
theorem e157_28 {ls : mj_L} {st : List Value} {σ : mj_S} {τ : mj_T} : mj_E 157 28 ls (.ref 62 :: st) σ τ = mj_E 157 31 ls (.int (σ 62 0) :: st) σ τ := mj_nx i157_28 rfl
theorem i157_31 : mj_ins 157 31 = some (.if_icmp .ge 137, 34) := by decide +kernel
theorem e157_31 {ls : mj_L} {st : List Value} {σ : mj_S} {τ : mj_T} {x y : Int32} : mj_E 157 31 ls (.int y :: .int x :: st) σ τ = if y ≤ x then mj_E 157 137 ls st σ τ else mj_E 157 34 ls st σ τ := (mj_ifi i157_31).trans (mj_cdT rfl)
theorem i157_34 : mj_ins 157 34 = some (.aload 0, 35) := by decide +kernel
theorem e157_34 {ls : mj_L} {st : List Value} {σ : mj_S} {τ : mj_T} {v : Nat} : mj_E 157 34 (some (.ref v) :: ls) st σ τ = mj_E 157 35 (some (.ref v) :: ls) (.ref v :: st) σ τ := mj_nx i157_34 rfl
theorem i157_35 : mj_ins 157 35 = some (.iload 1, 36) := by decide +kernel
theorem e157_35 {ls : mj_L} {st : List Value} {σ : mj_S} {τ : mj_T} {a0 : Option Value} {v : Int32} : mj_E 157 35 (a0 :: some (.int v) :: ls) st σ τ = mj_E 157 36 (a0 :: some (.int v) :: ls) (.int v :: st) σ τ := mj_nx i157_35 rfl
theorem i157_36 : mj_ins 157 36 = some (.iload 5, 38) := by decide +kernel
theorem e157_36 {ls : mj_L} {st : List Value} {σ : mj_S} {τ : mj_T} {a0 a1 a2 a3 a4 : Option Value} {v : Int32} : mj_E 157 36 (a0 :: a1 :: a2 :: a3 :: a4 :: some (.int v) :: ls) st σ τ = mj_E 157 38 (a0 :: a1 :: a2 :: a3 :: a4 :: some (.int v) :: ls) (.int v :: st) σ τ := mj_nx i157_36 rfl
theorem i157_38 : mj_ins 157 38 = some (.invokevirtual 156, 41) := by decide +kernel
theorem e157_38 {ls : mj_L} {σ : mj_S} {τ : mj_T} {r : Nat} {x0 : Int32} {x1 : Int32} : mj_E 157 38 ls [.int x1, .int x0, .ref r] σ τ = if mj_rcv r 7 = true then mj_bd (mj_C 156 [.ref r, .int x0, .int x1] σ τ) (mj_K 157 41 ls []) else none := mj_clV (as := [.int x0, .int x1]) (r := []) i157_38 (by decide +kernel : mj_vk 157 156 2 0 3 false = true) (by decide +kernel)
theorem i157_41 : mj_ins 157 41 = some (.istore 6, 43) := by decide +kernel
theorem e157_41 {ls : mj_L} {st : List Value} {σ : mj_S} {τ : mj_T} {a0 a1 a2 a3 a4 a5 a6 : Option Value} {v : Int32} : mj_E 157 41 (a0 :: a1 :: a2 :: a3 :: a4 :: a5 :: a6 :: ls) (.int v :: st) σ τ = mj_E 157 43 (a0 :: a1 :: a2 :: a3 :: a4 :: a5 :: some (.int v) :: ls) st σ τ := mj_nx i157_41 rfl
theorem i157_43 : mj_ins 157 43 = some (.aload 0, 44) := by decide +kernel
theorem e157_43 {ls : mj_L} {st : List Value} {σ : mj_S} {τ : mj_T} {v : Nat} : mj_E 157 43 (some (.ref v) :: ls) st σ τ = mj_E 157 44 (some (.ref v) :: ls) (.ref v :: st) σ τ := mj_nx i157_43 rfl
theorem i157_44 : mj_ins 157 44 = some (.getfield 715, 47) := by decide +kernel
theorem e157_44 {ls : mj_L} {st : List Value} {σ : mj_S} {τ : mj_T} : mj_E 157 44 ls (.ref 62 :: st) σ τ = mj_E 157 47 ls (.ref 72 :: st) σ τ := mj_nx i157_44 rfl
theorem i157_47 : mj_ins 157 47 = some (.iload 1, 48) := by decide +kernel
theorem e157_47 {ls : mj_L} {st : List Value} {σ : mj_S} {τ : mj_T} {a0 : Option Value} {v : Int32} : mj_E 157 47 (a0 :: some (.int v) :: ls) st σ τ = mj_E 157 48 (a0 :: some (.int v) :: ls) (.int v :: st) σ τ := mj_nx i157_47 rfl
theorem i157_48 : mj_ins 157 48 = some (.iaload, 49) := by decide +kernel
theorem e157_48 {ls : mj_L} {st : List Value} {σ : mj_S} {τ : mj_T} {x : Int32} {k : Nat} : mj_E 157 48 ls (.int x :: .ref k :: st) σ τ = if mj_ib (mj_li σ k) x = true then mj_E 157 49 ls (.int (σ k x.toNatClampNeg) :: st) σ τ else none := mj_ald i157_48
theorem i157_49 : mj_ins 157 49 = some (.iload 5, 51) := by decide +kernel
theorem e157_49 {ls : mj_L} {st : List Value} {σ : mj_S} {τ : mj_T} {a0 a1 a2 a3 a4 : Option Value} {v : Int32} : mj_E 157 49 (a0 :: a1 :: a2 :: a3 :: a4 :: some (.int v) :: ls) st σ τ = mj_E 157 51 (a0 :: a1 :: a2 :: a3 :: a4 :: some (.int v) :: ls) (.int v :: st) σ τ := mj_nx i157_49 rfl
theorem i157_51 : mj_ins 157 51 = some (.ishr, 52) := by decide +kernel
theorem e157_51 {ls : mj_L} {st : List Value} {σ : mj_S} {τ : mj_T} {x y : Int32} : mj_E 157 51 ls (.int y :: .int x :: st) σ τ = mj_E 157 52 ls (.int (x >>> (y &&& 31)) :: st) σ τ := mj_nx i157_51 rfl
theorem i157_52 : mj_ins 157 52 = some (.iconst (1), 53) := by decide +kernel
theorem e157_52 {ls : mj_L} {st : List Value} {σ : mj_S} {τ : mj_T} : mj_E 157 52 ls st σ τ = mj_E 157 53 ls (.int (nI 1) :: st) σ τ := mj_nx i157_52 rfl
theorem i157_53 : mj_ins 157 53 = some (.iand, 54) := by decide +kernel
theorem e157_53 {ls : mj_L} {st : List Value} {σ : mj_S} {τ : mj_T} {x y : Int32} : mj_E 157 53 ls (.int y :: .int x :: st) σ τ = mj_E 157 54 ls (.int (x &&& y) :: st) σ τ := mj_nx i157_53 rfl
theorem i157_54 : mj_ins 157 54 = some (.ifCond .ne 85, 57) := by decide +kernel
theorem e157_54 {ls : mj_L} {st : List Value} {σ : mj_S} {τ : mj_T} {x : Int32} : mj_E 157 54 ls (.int x :: st) σ τ = if x = 0 then mj_E 157 57 ls st σ τ else mj_E 157 85 ls st σ τ := (mj_ifc i157_54).trans (mj_cdF rfl)
theorem i157_57 : mj_ins 157 57 = some (.aload 0, 58) := by decide +kernel
theorem e157_57 {ls : mj_L} {st : List Value} {σ : mj_S} {τ : mj_T} {v : Nat} : mj_E 157 57 (some (.ref v) :: ls) st σ τ = mj_E 157 58 (some (.ref v) :: ls) (.ref v :: st) σ τ := mj_nx i157_57 rfl
theorem i157_58 : mj_ins 157 58 = some (.getfield 737, 61) := by decide +kernel
theorem e157_58 {ls : mj_L} {st : List Value} {σ : mj_S} {τ : mj_T} : mj_E 157 58 ls (.ref 62 :: st) σ τ = mj_E 157 61 ls (.int (σ 62 37) :: st) σ τ := mj_nx i157_58 rfl
theorem i157_61 : mj_ins 157 61 = some (.iconst (-1), 62) := by decide +kernel
theorem e157_61 {ls : mj_L} {st : List Value} {σ : mj_S} {τ : mj_T} : mj_E 157 61 ls st σ τ = mj_E 157 62 ls (.int ((-1)) :: st) σ τ := mj_nx i157_61 rfl
theorem i157_62 : mj_ins 157 62 = some (.if_icmp .eq 72, 65) := by decide +kernel
theorem e157_62 {ls : mj_L} {st : List Value} {σ : mj_S} {τ : mj_T} {x y : Int32} : mj_E 157 62 ls (.int y :: .int x :: st) σ τ = if x = y then mj_E 157 72 ls st σ τ else mj_E 157 65 ls st σ τ := (mj_ifi i157_62).trans (mj_cdT rfl)
theorem i157_65 : mj_ins 157 65 = some (.iload 6, 67) := by decide +kernel
theorem e157_65 {ls : mj_L} {st : List Value} {σ : mj_S} {τ : mj_T} {a0 a1 a2 a3 a4 a5 : Option Value} {v : Int32} : mj_E 157 65 (a0 :: a1 :: a2 :: a3 :: a4 :: a5 :: some (.int v) :: ls) st σ τ = mj_E 157 67 (a0 :: a1 :: a2 :: a3 :: a4 :: a5 :: some (.int v) :: ls) (.int v :: st) σ τ := mj_nx i157_65 rfl
theorem i157_67 : mj_ins 157 67 = some (.iload 4, 69) := by decide +kernel
theorem e157_67 {ls : mj_L} {st : List Value} {σ : mj_S} {τ : mj_T} {a0 a1 a2 a3 : Option Value} {v : Int32} : mj_E 157 67 (a0 :: a1 :: a2 :: a3 :: some (.int v) :: ls) st σ τ = mj_E 157 69 (a0 :: a1 :: a2 :: a3 :: some (.int v) :: ls) (.int v :: st) σ τ := mj_nx i157_67 rfl
theorem i157_69 : mj_ins 157 69 = some (.if_icmp .le 131, 72) := by decide +kernel
theorem e157_69 {ls : mj_L} {st : List Value} {σ : mj_S} {τ : mj_T} {x y : Int32} : mj_E 157 69 ls (.int y :: .int x :: st) σ τ = if x ≤ y then mj_E 157 131 ls st σ τ else mj_E 157 72 ls st σ τ := (mj_ifi i157_69).trans (mj_cdT rfl)
theorem i157_72 : mj_ins 157 72 = some (.aload 0, 73) := by decide +kernel
theorem e157_72 {ls : mj_L} {st : List Value} {σ : mj_S} {τ : mj_T} {v : Nat} : mj_E 157 72 (some (.ref v) :: ls) st σ τ = mj_E 157 73 (some (.ref v) :: ls) (.ref v :: st) σ τ := mj_nx i157_72 rfl
theorem i157_73 : mj_ins 157 73 = some (.iload 5, 75) := by decide +kernel
theorem e157_73 {ls : mj_L} {st : List Value} {σ : mj_S} {τ : mj_T} {a0 a1 a2 a3 a4 : Option Value} {v : Int32} : mj_E 157 73 (a0 :: a1 :: a2 :: a3 :: a4 :: some (.int v) :: ls) st σ τ = mj_E 157 75 (a0 :: a1 :: a2 :: a3 :: a4 :: some (.int v) :: ls) (.int v :: st) σ τ := mj_nx i157_73 rfl
theorem i157_75 : mj_ins 157 75 = some (.putfield 737, 78) := by decide +kernel
theorem e157_75 {ls : mj_L} {st : List Value} {σ : mj_S} {τ : mj_T} {v : Int32} : mj_E 157 75 ls (.int v :: .ref 62 :: st) σ τ = mj_E 157 78 ls st (mj_up σ 62 37 v) τ := mj_nx i157_75 rfl
theorem i157_78 : mj_ins 157 78 = some (.iload 6, 80) := by decide +kernel
theorem e157_78 {ls : mj_L} {st : List Value} {σ : mj_S} {τ : mj_T} {a0 a1 a2 a3 a4 a5 : Option Value} {v : Int32} : mj_E 157 78 (a0 :: a1 :: a2 :: a3 :: a4 :: a5 :: some (.int v) :: ls) st σ τ = mj_E 157 80 (a0 :: a1 :: a2 :: a3 :: a4 :: a5 :: some (.int v) :: ls) (.int v :: st) σ τ := mj_nx i157_78 rfl
theorem i157_80 : mj_ins 157 80 = some (.istore 4, 82) := by decide +kernel
theorem e157_80 {ls : mj_L} {st : List Value} {σ : mj_S} {τ : mj_T} {a0 a1 a2 a3 a4 : Option Value} {v : Int32} : mj_E 157 80 (a0 :: a1 :: a2 :: a3 :: a4 :: ls) (.int v :: st) σ τ = mj_E 157 82 (a0 :: a1 :: a2 :: a3 :: some (.int v) :: ls) st σ τ := mj_nx i157_80 rfl
theorem i157_82 : mj_ins 157 82 = some (.goto 131, 85) := by decide +kernel
theorem e157_82 {ls : mj_L} {st : List Value} {σ : mj_S} {τ : mj_T} : mj_E 157 82 ls st σ τ = mj_E 157 131 ls st σ τ := mj_nx i157_82 rfl
theorem i157_85 : mj_ins 157 85 = some (.aload 0, 86) := by decide +kernel
theorem e157_85 {ls : mj_L} {st : List Value} {σ : mj_S} {τ : mj_T} {v : Nat} : mj_E 157 85 (some (.ref v) :: ls) st σ τ = mj_E 157 86 (some (.ref v) :: ls) (.ref v :: st) σ τ := mj_nx i157_85 rfl
theorem i157_86 : mj_ins 157 86 = some (.getfield 735, 89) := by decide +kernel
theorem e157_86 {ls : mj_L} {st : List Value} {σ : mj_S} {τ : mj_T} : mj_E 157 86 ls (.ref 62 :: st) σ τ = mj_E 157 89 ls (.int (σ 62 35) :: st) σ τ := mj_nx i157_86 rfl
theorem i157_89 : mj_ins 157 89 = some (.iconst (-1), 90) := by decide +kernel
theorem e157_89 {ls : mj_L} {st : List Value} {σ : mj_S} {τ : mj_T} : mj_E 157 89 ls st σ τ = mj_E 157 90 ls (.int ((-1)) :: st) σ τ := mj_nx i157_89 rfl
theorem i157_90 : mj_ins 157 90 = some (.if_icmp .eq 99, 93) := by decide +kernel
theorem e157_90 {ls : mj_L} {st : List Value} {σ : mj_S} {τ : mj_T} {x y : Int32} : mj_E 157 90 ls (.int y :: .int x :: st) σ τ = if x = y then mj_E 157 99 ls st σ τ else mj_E 157 93 ls st σ τ := (mj_ifi i157_90).trans (mj_cdT rfl)
theorem i157_93 : mj_ins 157 93 = some (.iload 6, 95) := by decide +kernel
theorem e157_93 {ls : mj_L} {st : List Value} {σ : mj_S} {τ : mj_T} {a0 a1 a2 a3 a4 a5 : Option Value} {v : Int32} : mj_E 157 93 (a0 :: a1 :: a2 :: a3 :: a4 :: a5 :: some (.int v) :: ls) st σ τ = mj_E 157 95 (a0 :: a1 :: a2 :: a3 :: a4 :: a5 :: some (.int v) :: ls) (.int v :: st) σ τ := mj_nx i157_93 rfl
theorem i157_95 : mj_ins 157 95 = some (.iload 2, 96) := by decide +kernel
theorem e157_95 {ls : mj_L} {st : List Value} {σ : mj_S} {τ : mj_T} {a0 a1 : Option Value} {v : Int32} : mj_E 157 95 (a0 :: a1 :: some (.int v) :: ls) st σ τ = mj_E 157 96 (a0 :: a1 :: some (.int v) :: ls) (.int v :: st) σ τ := mj_nx i157_95 rfl
theorem i157_96 : mj_ins 157 96 = some (.if_icmp .gt 108, 99) := by decide +kernel
theorem e157_96 {ls : mj_L} {st : List Value} {σ : mj_S} {τ : mj_T} {x y : Int32} : mj_E 157 96 ls (.int y :: .int x :: st) σ τ = if y < x then mj_E 157 108 ls st σ τ else mj_E 157 99 ls st σ τ := (mj_ifi i157_96).trans (mj_cdT rfl)
theorem i157_99 : mj_ins 157 99 = some (.aload 0, 100) := by decide +kernel
theorem e157_99 {ls : mj_L} {st : List Value} {σ : mj_S} {τ : mj_T} {v : Nat} : mj_E 157 99 (some (.ref v) :: ls) st σ τ = mj_E 157 100 (some (.ref v) :: ls) (.ref v :: st) σ τ := mj_nx i157_99 rfl
theorem i157_100 : mj_ins 157 100 = some (.iload 5, 102) := by decide +kernel
theorem e157_100 {ls : mj_L} {st : List Value} {σ : mj_S} {τ : mj_T} {a0 a1 a2 a3 a4 : Option Value} {v : Int32} : mj_E 157 100 (a0 :: a1 :: a2 :: a3 :: a4 :: some (.int v) :: ls) st σ τ = mj_E 157 102 (a0 :: a1 :: a2 :: a3 :: a4 :: some (.int v) :: ls) (.int v :: st) σ τ := mj_nx i157_100 rfl
theorem i157_102 : mj_ins 157 102 = some (.putfield 735, 105) := by decide +kernel
theorem e157_102 {ls : mj_L} {st : List Value} {σ : mj_S} {τ : mj_T} {v : Int32} : mj_E 157 102 ls (.int v :: .ref 62 :: st) σ τ = mj_E 157 105 ls st (mj_up σ 62 35 v) τ := mj_nx i157_102 rfl
theorem i157_105 : mj_ins 157 105 = some (.iload 6, 107) := by decide +kernel
theorem e157_105 {ls : mj_L} {st : List Value} {σ : mj_S} {τ : mj_T} {a0 a1 a2 a3 a4 a5 : Option Value} {v : Int32} : mj_E 157 105 (a0 :: a1 :: a2 :: a3 :: a4 :: a5 :: some (.int v) :: ls) st σ τ = mj_E 157 107 (a0 :: a1 :: a2 :: a3 :: a4 :: a5 :: some (.int v) :: ls) (.int v :: st) σ τ := mj_nx i157_105 rfl
theorem i157_107 : mj_ins 157 107 = some (.istore 2, 108) := by decide +kernel
theorem e157_107 {ls : mj_L} {st : List Value} {σ : mj_S} {τ : mj_T} {a0 a1 a2 : Option Value} {v : Int32} : mj_E 157 107 (a0 :: a1 :: a2 :: ls) (.int v :: st) σ τ = mj_E 157 108 (a0 :: a1 :: some (.int v) :: ls) st σ τ := mj_nx i157_107 rfl
theorem i157_108 : mj_ins 157 108 = some (.aload 0, 109) := by decide +kernel
theorem e157_108 {ls : mj_L} {st : List Value} {σ : mj_S} {τ : mj_T} {v : Nat} : mj_E 157 108 (some (.ref v) :: ls) st σ τ = mj_E 157 109 (some (.ref v) :: ls) (.ref v :: st) σ τ := mj_nx i157_108 rfl
theorem i157_109 : mj_ins 157 109 = some (.getfield 736, 112) := by decide +kernel
theorem e157_109 {ls : mj_L} {st : List Value} {σ : mj_S} {τ : mj_T} : mj_E 157 109 ls (.ref 62 :: st) σ τ = mj_E 157 112 ls (.int (σ 62 36) :: st) σ τ := mj_nx i157_109 rfl
theorem i157_112 : mj_ins 157 112 = some (.iconst (-1), 113) := by decide +kernel
theorem e157_112 {ls : mj_L} {st : List Value} {σ : mj_S} {τ : mj_T} : mj_E 157 112 ls st σ τ = mj_E 157 113 ls (.int ((-1)) :: st) σ τ := mj_nx i157_112 rfl
theorem i157_113 : mj_ins 157 113 = some (.if_icmp .eq 122, 116) := by decide +kernel
theorem e157_113 {ls : mj_L} {st : List Value} {σ : mj_S} {τ : mj_T} {x y : Int32} : mj_E 157 113 ls (.int y :: .int x :: st) σ τ = if x = y then mj_E 157 122 ls st σ τ else mj_E 157 116 ls st σ τ := (mj_ifi i157_113).trans (mj_cdT rfl)
theorem i157_116 : mj_ins 157 116 = some (.iload 6, 118) := by decide +kernel
theorem e157_116 {ls : mj_L} {st : List Value} {σ : mj_S} {τ : mj_T} {a0 a1 a2 a3 a4 a5 : Option Value} {v : Int32} : mj_E 157 116 (a0 :: a1 :: a2 :: a3 :: a4 :: a5 :: some (.int v) :: ls) st σ τ = mj_E 157 118 (a0 :: a1 :: a2 :: a3 :: a4 :: a5 :: some (.int v) :: ls) (.int v :: st) σ τ := mj_nx i157_116 rfl
theorem i157_118 : mj_ins 157 118 = some (.iload 3, 119) := by decide +kernel
theorem e157_118 {ls : mj_L} {st : List Value} {σ : mj_S} {τ : mj_T} {a0 a1 a2 : Option Value} {v : Int32} : mj_E 157 118 (a0 :: a1 :: a2 :: some (.int v) :: ls) st σ τ = mj_E 157 119 (a0 :: a1 :: a2 :: some (.int v) :: ls) (.int v :: st) σ τ := mj_nx i157_118 rfl
theorem i157_119 : mj_ins 157 119 = some (.if_icmp .le 131, 122) := by decide +kernel
theorem e157_119 {ls : mj_L} {st : List Value} {σ : mj_S} {τ : mj_T} {x y : Int32} : mj_E 157 119 ls (.int y :: .int x :: st) σ τ = if x ≤ y then mj_E 157 131 ls st σ τ else mj_E 157 122 ls st σ τ := (mj_ifi i157_119).trans (mj_cdT rfl)
theorem i157_122 : mj_ins 157 122 = some (.aload 0, 123) := by decide +kernel
theorem e157_122 {ls : mj_L} {st : List Value} {σ : mj_S} {τ : mj_T} {v : Nat} : mj_E 157 122 (some (.ref v) :: ls) st σ τ = mj_E 157 123 (some (.ref v) :: ls) (.ref v :: st) σ τ := mj_nx i157_122 rfl
theorem i157_123 : mj_ins 157 123 = some (.iload 5, 125) := by decide +kernel
theorem e157_123 {ls : mj_L} {st : List Value} {σ : mj_S} {τ : mj_T} {a0 a1 a2 a3 a4 : Option Value} {v : Int32} : mj_E 157 123 (a0 :: a1 :: a2 :: a3 :: a4 :: some (.int v) :: ls) st σ τ = mj_E 157 125 (a0 :: a1 :: a2 :: a3 :: a4 :: some (.int v) :: ls) (.int v :: st) σ τ := mj_nx i157_123 rfl
theorem i157_125 : mj_ins 157 125 = some (.putfield 736, 128) := by decide +kernel
theorem e157_125 {ls : mj_L} {st : List Value} {σ : mj_S} {τ : mj_T} {v : Int32} : mj_E 157 125 ls (.int v :: .ref 62 :: st) σ τ = mj_E 157 128 ls st (mj_up σ 62 36 v) τ := mj_nx i157_125 rfl
theorem i157_128 : mj_ins 157 128 = some (.iload 6, 130) := by decide +kernel
theorem e157_128 {ls : mj_L} {st : List Value} {σ : mj_S} {τ : mj_T} {a0 a1 a2 a3 a4 a5 : Option Value} {v : Int32} : mj_E 157 128 (a0 :: a1 :: a2 :: a3 :: a4 :: a5 :: some (.int v) :: ls) st σ τ = mj_E 157 130 (a0 :: a1 :: a2 :: a3 :: a4 :: a5 :: some (.int v) :: ls) (.int v :: st) σ τ := mj_nx i157_128 rfl
theorem i157_130 : mj_ins 157 130 = some (.istore 3, 131) := by decide +kernel
theorem e157_130 {ls : mj_L} {st : List Value} {σ : mj_S} {τ : mj_T} {a0 a1 a2 a3 : Option Value} {v : Int32} : mj_E 157 130 (a0 :: a1 :: a2 :: a3 :: ls) (.int v :: st) σ τ = mj_E 157 131 (a0 :: a1 :: a2 :: some (.int v) :: ls) st σ τ := mj_nx i157_130 rfl
theorem i157_131 : mj_ins 157 131 = some (.iinc 5 (1), 134) := by decide +kernel
theorem e157_131 {ls : mj_L} {st : List Value} {σ : mj_S} {τ : mj_T} {a0 a1 a2 a3 a4 : Option Value} {v : Int32} : mj_E 157 131 (a0 :: a1 :: a2 :: a3 :: a4 :: some (.int v) :: ls) st σ τ = mj_E 157 134 (a0 :: a1 :: a2 :: a3 :: a4 :: some (.int (v + nI 1)) :: ls) st σ τ := mj_nx i157_131 rfl
theorem i157_134 : mj_ins 157 134 = some (.goto 25, 137) := by decide +kernel
theorem e157_134 {ls : mj_L} {st : List Value} {σ : mj_S} {τ : mj_T} : mj_E 157 134 ls st σ τ = mj_E 157 25 ls st σ τ := mj_nx i157_134 rfl
theorem i157_137 : mj_ins 157 137 = some (.aload 0, 138) := by decide +kernel
theorem e157_137 {ls : mj_L} {st : List Value} {σ : mj_S} {τ : mj_T} {v : Nat} : mj_E 157 137 (some (.ref v) :: ls) st σ τ = mj_E 157 138 (some (.ref v) :: ls) (.ref v :: st) σ τ := mj_nx i157_137 rfl
theorem i157_138 : mj_ins 157 138 = some (.getfield 737, 141) := by decide +kernel
theorem e157_138 {ls : mj_L} {st : List Value} {σ : mj_S} {τ : mj_T} : mj_E 157 138 ls (.ref 62 :: st) σ τ = mj_E 157 141 ls (.int (σ 62 37) :: st) σ τ := mj_nx i157_138 rfl
theorem i157_141 : mj_ins 157 141 = some (.iconst (-1), 142) := by decide +kernel
theorem e157_141 {ls : mj_L} {st : List Value} {σ : mj_S} {τ : mj_T} : mj_E 157 141 ls st σ τ = mj_E 157 142 ls (.int ((-1)) :: st) σ τ := mj_nx i157_141 rfl
theorem i157_142 : mj_ins 157 142 = some (.if_icmp .ne 150, 145) := by decide +kernel
theorem e157_142 {ls : mj_L} {st : List Value} {σ : mj_S} {τ : mj_T} {x y : Int32} : mj_E 157 142 ls (.int y :: .int x :: st) σ τ = if x = y then mj_E 157 145 ls st σ τ else mj_E 157 150 ls st σ τ := (mj_ifi i157_142).trans (mj_cdF rfl)
theorem i157_145 : mj_ins 157 145 = some (.aload 0, 146) := by decide +kernel
theorem e157_145 {ls : mj_L} {st : List Value} {σ : mj_S} {τ : mj_T} {v : Nat} : mj_E 157 145 (some (.ref v) :: ls) st σ τ = mj_E 157 146 (some (.ref v) :: ls) (.ref v :: st) σ τ := mj_nx i157_145 rfl
theorem i157_146 : mj_ins 157 146 = some (.iconst (-1), 147) := by decide +kernel
theorem e157_146 {ls : mj_L} {st : List Value} {σ : mj_S} {τ : mj_T} : mj_E 157 146 ls st σ τ = mj_E 157 147 ls (.int ((-1)) :: st) σ τ := mj_nx i157_146 rfl
theorem i157_147 : mj_ins 157 147 = some (.putfield 735, 150) := by decide +kernel
theorem e157_147 {ls : mj_L} {st : List Value} {σ : mj_S} {τ : mj_T} {v : Int32} : mj_E 157 147 ls (.int v :: .ref 62 :: st) σ τ = mj_E 157 150 ls st (mj_up σ 62 35 v) τ := mj_nx i157_147 rfl
theorem i157_150 : mj_ins 157 150 = some (.return_, 151) := by decide +kernel
theorem e157_150 {ls : mj_L} {σ : mj_S} {τ : mj_T} : mj_E 157 150 ls [] σ τ = some (none, σ, τ) := mj_vrt i157_150 rfl
theorem c158 {σ : mj_S} {τ : mj_T} {r : Nat} {x0 : Int32} {x1 : Int32} {x2 : Int32} : mj_C 158 [.ref r, .int x0, .int x1, .int x2] σ τ = mj_E 158 0 [some (.ref r), some (.int x0), some (.int x1), some (.int x2)] [] σ τ := rfl
theorem i158_0 : mj_ins 158 0 = some (.aload 0, 1) := by decide +kernel
theorem e158_0 {ls : mj_L} {st : List Value} {σ : mj_S} {τ : mj_T} {v : Nat} : mj_E 158 0 (some (.ref v) :: ls) st σ τ = mj_E 158 1 (some (.ref v) :: ls) (.ref v :: st) σ τ := mj_nx i158_0 rfl
theorem i158_1 : mj_ins 158 1 = some (.iload 1, 2) := by decide +kernel
theorem e158_1 {ls : mj_L} {st : List Value} {σ : mj_S} {τ : mj_T} {a0 : Option Value} {v : Int32} : mj_E 158 1 (a0 :: some (.int v) :: ls) st σ τ = mj_E 158 2 (a0 :: some (.int v) :: ls) (.int v :: st) σ τ := mj_nx i158_1 rfl
theorem i158_2 : mj_ins 158 2 = some (.invokevirtual 121, 5) := by decide +kernel
theorem e158_2 {ls : mj_L} {σ : mj_S} {τ : mj_T} {r : Nat} {x0 : Int32} : mj_E 158 2 ls [.int x0, .ref r] σ τ = if mj_rcv r 7 = true then mj_bd (mj_C 121 [.ref r, .int x0] σ τ) (mj_K 158 5 ls []) else none := mj_clV (as := [.int x0]) (r := []) i158_2 (by decide +kernel : mj_vk 158 121 1 0 2 false = true) (by decide +kernel)
theorem i158_5 : mj_ins 158 5 = some (.ifCond .eq 16, 8) := by decide +kernel
theorem e158_5 {ls : mj_L} {st : List Value} {σ : mj_S} {τ : mj_T} {x : Int32} : mj_E 158 5 ls (.int x :: st) σ τ = if x = 0 then mj_E 158 16 ls st σ τ else mj_E 158 8 ls st σ τ := (mj_ifc i158_5).trans (mj_cdT rfl)
theorem i158_8 : mj_ins 158 8 = some (.aload 0, 9) := by decide +kernel
theorem e158_8 {ls : mj_L} {st : List Value} {σ : mj_S} {τ : mj_T} {v : Nat} : mj_E 158 8 (some (.ref v) :: ls) st σ τ = mj_E 158 9 (some (.ref v) :: ls) (.ref v :: st) σ τ := mj_nx i158_8 rfl
theorem i158_9 : mj_ins 158 9 = some (.iload 2, 10) := by decide +kernel
theorem e158_9 {ls : mj_L} {st : List Value} {σ : mj_S} {τ : mj_T} {a0 a1 : Option Value} {v : Int32} : mj_E 158 9 (a0 :: a1 :: some (.int v) :: ls) st σ τ = mj_E 158 10 (a0 :: a1 :: some (.int v) :: ls) (.int v :: st) σ τ := mj_nx i158_9 rfl
theorem i158_10 : mj_ins 158 10 = some (.invokevirtual 120, 13) := by decide +kernel
theorem e158_10 {ls : mj_L} {σ : mj_S} {τ : mj_T} {r : Nat} {x0 : Int32} : mj_E 158 10 ls [.int x0, .ref r] σ τ = if mj_rcv r 7 = true then mj_bd (mj_C 120 [.ref r, .int x0] σ τ) (mj_K 158 13 ls []) else none := mj_clV (as := [.int x0]) (r := []) i158_10 (by decide +kernel : mj_vk 158 120 1 0 2 false = true) (by decide +kernel)
theorem i158_13 : mj_ins 158 13 = some (.ifCond .ne 22, 16) := by decide +kernel
theorem e158_13 {ls : mj_L} {st : List Value} {σ : mj_S} {τ : mj_T} {x : Int32} : mj_E 158 13 ls (.int x :: st) σ τ = if x = 0 then mj_E 158 16 ls st σ τ else mj_E 158 22 ls st σ τ := (mj_ifc i158_13).trans (mj_cdF rfl)
theorem i158_16 : mj_ins 158 16 = some (.aload 0, 17) := by decide +kernel
theorem e158_16 {ls : mj_L} {st : List Value} {σ : mj_S} {τ : mj_T} {v : Nat} : mj_E 158 16 (some (.ref v) :: ls) st σ τ = mj_E 158 17 (some (.ref v) :: ls) (.ref v :: st) σ τ := mj_nx i158_16 rfl
theorem i158_17 : mj_ins 158 17 = some (.iconst (-1), 18) := by decide +kernel
theorem e158_17 {ls : mj_L} {st : List Value} {σ : mj_S} {τ : mj_T} : mj_E 158 17 ls st σ τ = mj_E 158 18 ls (.int ((-1)) :: st) σ τ := mj_nx i158_17 rfl
theorem i158_18 : mj_ins 158 18 = some (.invokevirtual 117, 21) := by decide +kernel
theorem e158_18 {ls : mj_L} {σ : mj_S} {τ : mj_T} {r : Nat} {x0 : Int32} : mj_E 158 18 ls [.int x0, .ref r] σ τ = if mj_rcv r 7 = true then mj_bd (mj_C 117 [.ref r, .int x0] σ τ) (mj_K 158 21 ls []) else none := mj_clV (as := [.int x0]) (r := []) i158_18 (by decide +kernel : mj_vk 158 117 1 0 2 false = true) (by decide +kernel)
theorem i158_21 : mj_ins 158 21 = some (.ireturn, 22) := by decide +kernel
theorem e158_21 {ls : mj_L} {σ : mj_S} {τ : mj_T} {v : Int32} : mj_E 158 21 ls [.int v] σ τ = some (some (.int v), σ, τ) := mj_irt i158_21 rfl
theorem i158_22 : mj_ins 158 22 = some (.iload 3, 23) := by decide +kernel
theorem e158_22 {ls : mj_L} {st : List Value} {σ : mj_S} {τ : mj_T} {a0 a1 a2 : Option Value} {v : Int32} : mj_E 158 22 (a0 :: a1 :: a2 :: some (.int v) :: ls) st σ τ = mj_E 158 23 (a0 :: a1 :: a2 :: some (.int v) :: ls) (.int v :: st) σ τ := mj_nx i158_22 rfl
theorem i158_23 : mj_ins 158 23 = some (.ifCond .lt 31, 26) := by decide +kernel
theorem e158_23 {ls : mj_L} {st : List Value} {σ : mj_S} {τ : mj_T} {x : Int32} : mj_E 158 23 ls (.int x :: st) σ τ = if x < 0 then mj_E 158 31 ls st σ τ else mj_E 158 26 ls st σ τ := (mj_ifc i158_23).trans (mj_cdT rfl)
theorem i158_26 : mj_ins 158 26 = some (.iload 3, 27) := by decide +kernel
theorem e158_26 {ls : mj_L} {st : List Value} {σ : mj_S} {τ : mj_T} {a0 a1 a2 : Option Value} {v : Int32} : mj_E 158 26 (a0 :: a1 :: a2 :: some (.int v) :: ls) st σ τ = mj_E 158 27 (a0 :: a1 :: a2 :: some (.int v) :: ls) (.int v :: st) σ τ := mj_nx i158_26 rfl
theorem i158_27 : mj_ins 158 27 = some (.iconst (1), 28) := by decide +kernel
theorem e158_27 {ls : mj_L} {st : List Value} {σ : mj_S} {τ : mj_T} : mj_E 158 27 ls st σ τ = mj_E 158 28 ls (.int (nI 1) :: st) σ τ := mj_nx i158_27 rfl
theorem i158_28 : mj_ins 158 28 = some (.if_icmp .le 38, 31) := by decide +kernel
theorem e158_28 {ls : mj_L} {st : List Value} {σ : mj_S} {τ : mj_T} {x y : Int32} : mj_E 158 28 ls (.int y :: .int x :: st) σ τ = if x ≤ y then mj_E 158 38 ls st σ τ else mj_E 158 31 ls st σ τ := (mj_ifi i158_28).trans (mj_cdT rfl)
theorem i158_31 : mj_ins 158 31 = some (.aload 0, 32) := by decide +kernel
theorem e158_31 {ls : mj_L} {st : List Value} {σ : mj_S} {τ : mj_T} {v : Nat} : mj_E 158 31 (some (.ref v) :: ls) st σ τ = mj_E 158 32 (some (.ref v) :: ls) (.ref v :: st) σ τ := mj_nx i158_31 rfl
theorem i158_32 : mj_ins 158 32 = some (.iconst (-5), 34) := by decide +kernel
theorem e158_32 {ls : mj_L} {st : List Value} {σ : mj_S} {τ : mj_T} : mj_E 158 32 ls st σ τ = mj_E 158 34 ls (.int ((-5)) :: st) σ τ := mj_nx i158_32 rfl
theorem i158_34 : mj_ins 158 34 = some (.invokevirtual 117, 37) := by decide +kernel
theorem e158_34 {ls : mj_L} {σ : mj_S} {τ : mj_T} {r : Nat} {x0 : Int32} : mj_E 158 34 ls [.int x0, .ref r] σ τ = if mj_rcv r 7 = true then mj_bd (mj_C 117 [.ref r, .int x0] σ τ) (mj_K 158 37 ls []) else none := mj_clV (as := [.int x0]) (r := []) i158_34 (by decide +kernel : mj_vk 158 117 1 0 2 false = true) (by decide +kernel)
theorem i158_37 : mj_ins 158 37 = some (.ireturn, 38) := by decide +kernel
theorem e158_37 {ls : mj_L} {σ : mj_S} {τ : mj_T} {v : Int32} : mj_E 158 37 ls [.int v] σ τ = some (some (.int v), σ, τ) := mj_irt i158_37 rfl
theorem i158_38 : mj_ins 158 38 = some (.iload 3, 39) := by decide +kernel
theorem e158_38 {ls : mj_L} {st : List Value} {σ : mj_S} {τ : mj_T} {a0 a1 a2 : Option Value} {v : Int32} : mj_E 158 38 (a0 :: a1 :: a2 :: some (.int v) :: ls) st σ τ = mj_E 158 39 (a0 :: a1 :: a2 :: some (.int v) :: ls) (.int v :: st) σ τ := mj_nx i158_38 rfl
theorem i158_39 : mj_ins 158 39 = some (.ifCond .ne 56, 42) := by decide +kernel
theorem e158_39 {ls : mj_L} {st : List Value} {σ : mj_S} {τ : mj_T} {x : Int32} : mj_E 158 39 ls (.int x :: st) σ τ = if x = 0 then mj_E 158 42 ls st σ τ else mj_E 158 56 ls st σ τ := (mj_ifc i158_39).trans (mj_cdF rfl)
theorem i158_42 : mj_ins 158 42 = some (.aload 0, 43) := by decide +kernel
theorem e158_42 {ls : mj_L} {st : List Value} {σ : mj_S} {τ : mj_T} {v : Nat} : mj_E 158 42 (some (.ref v) :: ls) st σ τ = mj_E 158 43 (some (.ref v) :: ls) (.ref v :: st) σ τ := mj_nx i158_42 rfl
theorem i158_43 : mj_ins 158 43 = some (.getfield 716, 46) := by decide +kernel
theorem e158_43 {ls : mj_L} {st : List Value} {σ : mj_S} {τ : mj_T} : mj_E 158 43 ls (.ref 62 :: st) σ τ = mj_E 158 46 ls (.ref 73 :: st) σ τ := mj_nx i158_43 rfl
theorem i158_46 : mj_ins 158 46 = some (.iconst (8), 48) := by decide +kernel
theorem e158_46 {ls : mj_L} {st : List Value} {σ : mj_S} {τ : mj_T} : mj_E 158 46 ls st σ τ = mj_E 158 48 ls (.int (nI 8) :: st) σ τ := mj_nx i158_46 rfl
theorem i158_48 : mj_ins 158 48 = some (.iload 1, 49) := by decide +kernel
theorem e158_48 {ls : mj_L} {st : List Value} {σ : mj_S} {τ : mj_T} {a0 : Option Value} {v : Int32} : mj_E 158 48 (a0 :: some (.int v) :: ls) st σ τ = mj_E 158 49 (a0 :: some (.int v) :: ls) (.int v :: st) σ τ := mj_nx i158_48 rfl
theorem i158_49 : mj_ins 158 49 = some (.imul, 50) := by decide +kernel
theorem e158_49 {ls : mj_L} {st : List Value} {σ : mj_S} {τ : mj_T} {x y : Int32} : mj_E 158 49 ls (.int y :: .int x :: st) σ τ = mj_E 158 50 ls (.int (x * y) :: st) σ τ := mj_nx i158_49 rfl
theorem i158_50 : mj_ins 158 50 = some (.iload 2, 51) := by decide +kernel
theorem e158_50 {ls : mj_L} {st : List Value} {σ : mj_S} {τ : mj_T} {a0 a1 : Option Value} {v : Int32} : mj_E 158 50 (a0 :: a1 :: some (.int v) :: ls) st σ τ = mj_E 158 51 (a0 :: a1 :: some (.int v) :: ls) (.int v :: st) σ τ := mj_nx i158_50 rfl
theorem i158_51 : mj_ins 158 51 = some (.iadd, 52) := by decide +kernel
theorem e158_51 {ls : mj_L} {st : List Value} {σ : mj_S} {τ : mj_T} {x y : Int32} : mj_E 158 51 ls (.int y :: .int x :: st) σ τ = mj_E 158 52 ls (.int (x + y) :: st) σ τ := mj_nx i158_51 rfl
theorem i158_52 : mj_ins 158 52 = some (.iaload, 53) := by decide +kernel
theorem e158_52 {ls : mj_L} {st : List Value} {σ : mj_S} {τ : mj_T} {x : Int32} {k : Nat} : mj_E 158 52 ls (.int x :: .ref k :: st) σ τ = if mj_ib (mj_li σ k) x = true then mj_E 158 53 ls (.int (σ k x.toNatClampNeg) :: st) σ τ else none := mj_ald i158_52
theorem i158_53 : mj_ins 158 53 = some (.goto 62, 56) := by decide +kernel
theorem e158_53 {ls : mj_L} {st : List Value} {σ : mj_S} {τ : mj_T} : mj_E 158 53 ls st σ τ = mj_E 158 62 ls st σ τ := mj_nx i158_53 rfl
theorem i158_56 : mj_ins 158 56 = some (.aload 0, 57) := by decide +kernel
theorem e158_56 {ls : mj_L} {st : List Value} {σ : mj_S} {τ : mj_T} {v : Nat} : mj_E 158 56 (some (.ref v) :: ls) st σ τ = mj_E 158 57 (some (.ref v) :: ls) (.ref v :: st) σ τ := mj_nx i158_56 rfl
theorem i158_57 : mj_ins 158 57 = some (.iload 1, 58) := by decide +kernel
theorem e158_57 {ls : mj_L} {st : List Value} {σ : mj_S} {τ : mj_T} {a0 : Option Value} {v : Int32} : mj_E 158 57 (a0 :: some (.int v) :: ls) st σ τ = mj_E 158 58 (a0 :: some (.int v) :: ls) (.int v :: st) σ τ := mj_nx i158_57 rfl
theorem i158_58 : mj_ins 158 58 = some (.iload 2, 59) := by decide +kernel
theorem e158_58 {ls : mj_L} {st : List Value} {σ : mj_S} {τ : mj_T} {a0 a1 : Option Value} {v : Int32} : mj_E 158 58 (a0 :: a1 :: some (.int v) :: ls) st σ τ = mj_E 158 59 (a0 :: a1 :: some (.int v) :: ls) (.int v :: st) σ τ := mj_nx i158_58 rfl
theorem i158_59 : mj_ins 158 59 = some (.invokevirtual 156, 62) := by decide +kernel
theorem e158_59 {ls : mj_L} {σ : mj_S} {τ : mj_T} {r : Nat} {x0 : Int32} {x1 : Int32} : mj_E 158 59 ls [.int x1, .int x0, .ref r] σ τ = if mj_rcv r 7 = true then mj_bd (mj_C 156 [.ref r, .int x0, .int x1] σ τ) (mj_K 158 62 ls []) else none := mj_clV (as := [.int x0, .int x1]) (r := []) i158_59 (by decide +kernel : mj_vk 158 156 2 0 3 false = true) (by decide +kernel)
theorem i158_62 : mj_ins 158 62 = some (.ireturn, 63) := by decide +kernel
theorem e158_62 {ls : mj_L} {σ : mj_S} {τ : mj_T} {v : Int32} : mj_E 158 62 ls [.int v] σ τ = some (some (.int v), σ, τ) := mj_irt i158_62 rfl
theorem c159 {σ : mj_S} {τ : mj_T} {r : Nat} {x0 : Int32} : mj_C 159 [.ref r, .int x0] σ τ = mj_E 159 0 [some (.ref r), some (.int x0)] [] σ τ := rfl
theorem i159_0 : mj_ins 159 0 = some (.iload 1, 1) := by decide +kernel
theorem e159_0 {ls : mj_L} {st : List Value} {σ : mj_S} {τ : mj_T} {a0 : Option Value} {v : Int32} : mj_E 159 0 (a0 :: some (.int v) :: ls) st σ τ = mj_E 159 1 (a0 :: some (.int v) :: ls) (.int v :: st) σ τ := mj_nx i159_0 rfl
theorem i159_1 : mj_ins 159 1 = some (.ifCond .ne 11, 4) := by decide +kernel
theorem e159_1 {ls : mj_L} {st : List Value} {σ : mj_S} {τ : mj_T} {x : Int32} : mj_E 159 1 ls (.int x :: st) σ τ = if x = 0 then mj_E 159 4 ls st σ τ else mj_E 159 11 ls st σ τ := (mj_ifc i159_1).trans (mj_cdF rfl)
theorem i159_4 : mj_ins 159 4 = some (.aload 0, 5) := by decide +kernel
theorem e159_4 {ls : mj_L} {st : List Value} {σ : mj_S} {τ : mj_T} {v : Nat} : mj_E 159 4 (some (.ref v) :: ls) st σ τ = mj_E 159 5 (some (.ref v) :: ls) (.ref v :: st) σ τ := mj_nx i159_4 rfl
theorem i159_5 : mj_ins 159 5 = some (.getfield 735, 8) := by decide +kernel
theorem e159_5 {ls : mj_L} {st : List Value} {σ : mj_S} {τ : mj_T} : mj_E 159 5 ls (.ref 62 :: st) σ τ = mj_E 159 8 ls (.int (σ 62 35) :: st) σ τ := mj_nx i159_5 rfl
theorem i159_8 : mj_ins 159 8 = some (.goto 27, 11) := by decide +kernel
theorem e159_8 {ls : mj_L} {st : List Value} {σ : mj_S} {τ : mj_T} : mj_E 159 8 ls st σ τ = mj_E 159 27 ls st σ τ := mj_nx i159_8 rfl
theorem i159_11 : mj_ins 159 11 = some (.iload 1, 12) := by decide +kernel
theorem e159_11 {ls : mj_L} {st : List Value} {σ : mj_S} {τ : mj_T} {a0 : Option Value} {v : Int32} : mj_E 159 11 (a0 :: some (.int v) :: ls) st σ τ = mj_E 159 12 (a0 :: some (.int v) :: ls) (.int v :: st) σ τ := mj_nx i159_11 rfl
theorem i159_12 : mj_ins 159 12 = some (.iconst (1), 13) := by decide +kernel
theorem e159_12 {ls : mj_L} {st : List Value} {σ : mj_S} {τ : mj_T} : mj_E 159 12 ls st σ τ = mj_E 159 13 ls (.int (nI 1) :: st) σ τ := mj_nx i159_12 rfl
theorem i159_13 : mj_ins 159 13 = some (.if_icmp .ne 23, 16) := by decide +kernel
theorem e159_13 {ls : mj_L} {st : List Value} {σ : mj_S} {τ : mj_T} {x y : Int32} : mj_E 159 13 ls (.int y :: .int x :: st) σ τ = if x = y then mj_E 159 16 ls st σ τ else mj_E 159 23 ls st σ τ := (mj_ifi i159_13).trans (mj_cdF rfl)
theorem i159_16 : mj_ins 159 16 = some (.aload 0, 17) := by decide +kernel
theorem e159_16 {ls : mj_L} {st : List Value} {σ : mj_S} {τ : mj_T} {v : Nat} : mj_E 159 16 (some (.ref v) :: ls) st σ τ = mj_E 159 17 (some (.ref v) :: ls) (.ref v :: st) σ τ := mj_nx i159_16 rfl
theorem i159_17 : mj_ins 159 17 = some (.getfield 736, 20) := by decide +kernel
theorem e159_17 {ls : mj_L} {st : List Value} {σ : mj_S} {τ : mj_T} : mj_E 159 17 ls (.ref 62 :: st) σ τ = mj_E 159 20 ls (.int (σ 62 36) :: st) σ τ := mj_nx i159_17 rfl
theorem i159_20 : mj_ins 159 20 = some (.goto 27, 23) := by decide +kernel
theorem e159_20 {ls : mj_L} {st : List Value} {σ : mj_S} {τ : mj_T} : mj_E 159 20 ls st σ τ = mj_E 159 27 ls st σ τ := mj_nx i159_20 rfl
theorem i159_23 : mj_ins 159 23 = some (.aload 0, 24) := by decide +kernel
theorem e159_23 {ls : mj_L} {st : List Value} {σ : mj_S} {τ : mj_T} {v : Nat} : mj_E 159 23 (some (.ref v) :: ls) st σ τ = mj_E 159 24 (some (.ref v) :: ls) (.ref v :: st) σ τ := mj_nx i159_23 rfl
theorem i159_24 : mj_ins 159 24 = some (.getfield 737, 27) := by decide +kernel
theorem e159_24 {ls : mj_L} {st : List Value} {σ : mj_S} {τ : mj_T} : mj_E 159 24 ls (.ref 62 :: st) σ τ = mj_E 159 27 ls (.int (σ 62 37) :: st) σ τ := mj_nx i159_24 rfl
theorem i159_27 : mj_ins 159 27 = some (.ireturn, 28) := by decide +kernel
theorem e159_27 {ls : mj_L} {σ : mj_S} {τ : mj_T} {v : Int32} : mj_E 159 27 ls [.int v] σ τ = some (some (.int v), σ, τ) := mj_irt i159_27 rfl
theorem c160 {σ : mj_S} {τ : mj_T} {r : Nat} {x0 : Int32} {x1 : Int32} : mj_C 160 [.ref r, .int x0, .int x1] σ τ = mj_E 160 0 [some (.ref r), some (.int x0), some (.int x1)] [] σ τ := rfl
theorem i160_0 : mj_ins 160 0 = some (.aload 0, 1) := by decide +kernel
theorem e160_0 {ls : mj_L} {st : List Value} {σ : mj_S} {τ : mj_T} {v : Nat} : mj_E 160 0 (some (.ref v) :: ls) st σ τ = mj_E 160 1 (some (.ref v) :: ls) (.ref v :: st) σ τ := mj_nx i160_0 rfl
theorem i160_1 : mj_ins 160 1 = some (.iload 1, 2) := by decide +kernel
theorem e160_1 {ls : mj_L} {st : List Value} {σ : mj_S} {τ : mj_T} {a0 : Option Value} {v : Int32} : mj_E 160 1 (a0 :: some (.int v) :: ls) st σ τ = mj_E 160 2 (a0 :: some (.int v) :: ls) (.int v :: st) σ τ := mj_nx i160_1 rfl
theorem i160_2 : mj_ins 160 2 = some (.invokevirtual 121, 5) := by decide +kernel
theorem e160_2 {ls : mj_L} {σ : mj_S} {τ : mj_T} {r : Nat} {x0 : Int32} : mj_E 160 2 ls [.int x0, .ref r] σ τ = if mj_rcv r 7 = true then mj_bd (mj_C 121 [.ref r, .int x0] σ τ) (mj_K 160 5 ls []) else none := mj_clV (as := [.int x0]) (r := []) i160_2 (by decide +kernel : mj_vk 160 121 1 0 2 false = true) (by decide +kernel)
theorem i160_5 : mj_ins 160 5 = some (.ifCond .ne 14, 8) := by decide +kernel
theorem e160_5 {ls : mj_L} {st : List Value} {σ : mj_S} {τ : mj_T} {x : Int32} : mj_E 160 5 ls (.int x :: st) σ τ = if x = 0 then mj_E 160 8 ls st σ τ else mj_E 160 14 ls st σ τ := (mj_ifc i160_5).trans (mj_cdF rfl)
theorem i160_8 : mj_ins 160 8 = some (.aload 0, 9) := by decide +kernel
theorem e160_8 {ls : mj_L} {st : List Value} {σ : mj_S} {τ : mj_T} {v : Nat} : mj_E 160 8 (some (.ref v) :: ls) st σ τ = mj_E 160 9 (some (.ref v) :: ls) (.ref v :: st) σ τ := mj_nx i160_8 rfl
theorem i160_9 : mj_ins 160 9 = some (.iconst (-1), 10) := by decide +kernel
theorem e160_9 {ls : mj_L} {st : List Value} {σ : mj_S} {τ : mj_T} : mj_E 160 9 ls st σ τ = mj_E 160 10 ls (.int ((-1)) :: st) σ τ := mj_nx i160_9 rfl
theorem i160_10 : mj_ins 160 10 = some (.invokevirtual 118, 13) := by decide +kernel
theorem e160_10 {ls : mj_L} {σ : mj_S} {τ : mj_T} {r : Nat} {x0 : Int32} : mj_E 160 10 ls [.int x0, .ref r] σ τ = if mj_rcv r 7 = true then mj_bd (mj_C 118 [.ref r, .int x0] σ τ) (mj_K 160 13 ls []) else none := mj_clV (as := [.int x0]) (r := []) i160_10 (by decide +kernel : mj_vk 160 118 1 0 2 false = true) (by decide +kernel)
theorem i160_13 : mj_ins 160 13 = some (.ireturn, 14) := by decide +kernel
theorem e160_13 {ls : mj_L} {σ : mj_S} {τ : mj_T} {v : Int32} : mj_E 160 13 ls [.int v] σ τ = some (some (.int v), σ, τ) := mj_irt i160_13 rfl
theorem i160_14 : mj_ins 160 14 = some (.iload 2, 15) := by decide +kernel
theorem e160_14 {ls : mj_L} {st : List Value} {σ : mj_S} {τ : mj_T} {a0 a1 : Option Value} {v : Int32} : mj_E 160 14 (a0 :: a1 :: some (.int v) :: ls) st σ τ = mj_E 160 15 (a0 :: a1 :: some (.int v) :: ls) (.int v :: st) σ τ := mj_nx i160_14 rfl
theorem i160_15 : mj_ins 160 15 = some (.ifCond .lt 23, 18) := by decide +kernel
theorem e160_15 {ls : mj_L} {st : List Value} {σ : mj_S} {τ : mj_T} {x : Int32} : mj_E 160 15 ls (.int x :: st) σ τ = if x < 0 then mj_E 160 23 ls st σ τ else mj_E 160 18 ls st σ τ := (mj_ifc i160_15).trans (mj_cdT rfl)
theorem i160_18 : mj_ins 160 18 = some (.iload 2, 19) := by decide +kernel
theorem e160_18 {ls : mj_L} {st : List Value} {σ : mj_S} {τ : mj_T} {a0 a1 : Option Value} {v : Int32} : mj_E 160 18 (a0 :: a1 :: some (.int v) :: ls) st σ τ = mj_E 160 19 (a0 :: a1 :: some (.int v) :: ls) (.int v :: st) σ τ := mj_nx i160_18 rfl
theorem i160_19 : mj_ins 160 19 = some (.iconst (2), 20) := by decide +kernel
theorem e160_19 {ls : mj_L} {st : List Value} {σ : mj_S} {τ : mj_T} : mj_E 160 19 ls st σ τ = mj_E 160 20 ls (.int (nI 2) :: st) σ τ := mj_nx i160_19 rfl
theorem i160_20 : mj_ins 160 20 = some (.if_icmp .le 30, 23) := by decide +kernel
theorem e160_20 {ls : mj_L} {st : List Value} {σ : mj_S} {τ : mj_T} {x y : Int32} : mj_E 160 20 ls (.int y :: .int x :: st) σ τ = if x ≤ y then mj_E 160 30 ls st σ τ else mj_E 160 23 ls st σ τ := (mj_ifi i160_20).trans (mj_cdT rfl)
theorem i160_23 : mj_ins 160 23 = some (.aload 0, 24) := by decide +kernel
theorem e160_23 {ls : mj_L} {st : List Value} {σ : mj_S} {τ : mj_T} {v : Nat} : mj_E 160 23 (some (.ref v) :: ls) st σ τ = mj_E 160 24 (some (.ref v) :: ls) (.ref v :: st) σ τ := mj_nx i160_23 rfl
theorem i160_24 : mj_ins 160 24 = some (.iconst (-5), 26) := by decide +kernel
theorem e160_24 {ls : mj_L} {st : List Value} {σ : mj_S} {τ : mj_T} : mj_E 160 24 ls st σ τ = mj_E 160 26 ls (.int ((-5)) :: st) σ τ := mj_nx i160_24 rfl
theorem i160_26 : mj_ins 160 26 = some (.invokevirtual 118, 29) := by decide +kernel
theorem e160_26 {ls : mj_L} {σ : mj_S} {τ : mj_T} {r : Nat} {x0 : Int32} : mj_E 160 26 ls [.int x0, .ref r] σ τ = if mj_rcv r 7 = true then mj_bd (mj_C 118 [.ref r, .int x0] σ τ) (mj_K 160 29 ls []) else none := mj_clV (as := [.int x0]) (r := []) i160_26 (by decide +kernel : mj_vk 160 118 1 0 2 false = true) (by decide +kernel)
theorem i160_29 : mj_ins 160 29 = some (.ireturn, 30) := by decide +kernel
theorem e160_29 {ls : mj_L} {σ : mj_S} {τ : mj_T} {v : Int32} : mj_E 160 29 ls [.int v] σ τ = some (some (.int v), σ, τ) := mj_irt i160_29 rfl
theorem i160_30 : mj_ins 160 30 = some (.aload 0, 31) := by decide +kernel
theorem e160_30 {ls : mj_L} {st : List Value} {σ : mj_S} {τ : mj_T} {v : Nat} : mj_E 160 30 (some (.ref v) :: ls) st σ τ = mj_E 160 31 (some (.ref v) :: ls) (.ref v :: st) σ τ := mj_nx i160_30 rfl
theorem i160_31 : mj_ins 160 31 = some (.iload 1, 32) := by decide +kernel
theorem e160_31 {ls : mj_L} {st : List Value} {σ : mj_S} {τ : mj_T} {a0 : Option Value} {v : Int32} : mj_E 160 31 (a0 :: some (.int v) :: ls) st σ τ = mj_E 160 32 (a0 :: some (.int v) :: ls) (.int v :: st) σ τ := mj_nx i160_31 rfl
theorem i160_32 : mj_ins 160 32 = some (.invokevirtual 157, 35) := by decide +kernel
theorem e160_32 {ls : mj_L} {σ : mj_S} {τ : mj_T} {r : Nat} {x0 : Int32} : mj_E 160 32 ls [.int x0, .ref r] σ τ = if mj_rcv r 7 = true then mj_bd (mj_C 157 [.ref r, .int x0] σ τ) (mj_K 160 35 ls []) else none := mj_clV (as := [.int x0]) (r := []) i160_32 (by decide +kernel : mj_vk 160 157 1 0 2 false = true) (by decide +kernel)
theorem i160_35 : mj_ins 160 35 = some (.aload 0, 36) := by decide +kernel
theorem e160_35 {ls : mj_L} {st : List Value} {σ : mj_S} {τ : mj_T} {v : Nat} : mj_E 160 35 (some (.ref v) :: ls) st σ τ = mj_E 160 36 (some (.ref v) :: ls) (.ref v :: st) σ τ := mj_nx i160_35 rfl
theorem i160_36 : mj_ins 160 36 = some (.iload 2, 37) := by decide +kernel
theorem e160_36 {ls : mj_L} {st : List Value} {σ : mj_S} {τ : mj_T} {a0 a1 : Option Value} {v : Int32} : mj_E 160 36 (a0 :: a1 :: some (.int v) :: ls) st σ τ = mj_E 160 37 (a0 :: a1 :: some (.int v) :: ls) (.int v :: st) σ τ := mj_nx i160_36 rfl
theorem i160_37 : mj_ins 160 37 = some (.invokevirtual 159, 40) := by decide +kernel
theorem e160_37 {ls : mj_L} {σ : mj_S} {τ : mj_T} {r : Nat} {x0 : Int32} : mj_E 160 37 ls [.int x0, .ref r] σ τ = if mj_rcv r 7 = true then mj_bd (mj_C 159 [.ref r, .int x0] σ τ) (mj_K 160 40 ls []) else none := mj_clV (as := [.int x0]) (r := []) i160_37 (by decide +kernel : mj_vk 160 159 1 0 2 false = true) (by decide +kernel)
theorem i160_40 : mj_ins 160 40 = some (.ireturn, 41) := by decide +kernel
theorem e160_40 {ls : mj_L} {σ : mj_S} {τ : mj_T} {v : Int32} : mj_E 160 40 ls [.int v] σ τ = some (some (.int v), σ, τ) := mj_irt i160_40 rfl
theorem c161 {σ : mj_S} {τ : mj_T} {r : Nat} {x0 : Int32} {x1 : Int32} : mj_C 161 [.ref r, .int x0, .int x1] σ τ = mj_E 161 0 [some (.ref r), some (.int x0), some (.int x1), none, none] [] σ τ := rfl
theorem i161_0 : mj_ins 161 0 = some (.iconst (0), 1) := by decide +kernel
theorem e161_0 {ls : mj_L} {st : List Value} {σ : mj_S} {τ : mj_T} : mj_E 161 0 ls st σ τ = mj_E 161 1 ls (.int (nI 0) :: st) σ τ := mj_nx i161_0 rfl
theorem i161_1 : mj_ins 161 1 = some (.istore 3, 2) := by decide +kernel
theorem e161_1 {ls : mj_L} {st : List Value} {σ : mj_S} {τ : mj_T} {a0 a1 a2 a3 : Option Value} {v : Int32} : mj_E 161 1 (a0 :: a1 :: a2 :: a3 :: ls) (.int v :: st) σ τ = mj_E 161 2 (a0 :: a1 :: a2 :: some (.int v) :: ls) st σ τ := mj_nx i161_1 rfl
theorem i161_2 : mj_ins 161 2 = some (.iconst (0), 3) := by decide +kernel
theorem e161_2 {ls : mj_L} {st : List Value} {σ : mj_S} {τ : mj_T} : mj_E 161 2 ls st σ τ = mj_E 161 3 ls (.int (nI 0) :: st) σ τ := mj_nx i161_2 rfl
theorem i161_3 : mj_ins 161 3 = some (.istore 4, 5) := by decide +kernel
theorem e161_3 {ls : mj_L} {st : List Value} {σ : mj_S} {τ : mj_T} {a0 a1 a2 a3 a4 : Option Value} {v : Int32} : mj_E 161 3 (a0 :: a1 :: a2 :: a3 :: a4 :: ls) (.int v :: st) σ τ = mj_E 161 5 (a0 :: a1 :: a2 :: a3 :: some (.int v) :: ls) st σ τ := mj_nx i161_3 rfl
theorem i161_5 : mj_ins 161 5 = some (.iload 4, 7) := by decide +kernel
theorem e161_5 {ls : mj_L} {st : List Value} {σ : mj_S} {τ : mj_T} {a0 a1 a2 a3 : Option Value} {v : Int32} : mj_E 161 5 (a0 :: a1 :: a2 :: a3 :: some (.int v) :: ls) st σ τ = mj_E 161 7 (a0 :: a1 :: a2 :: a3 :: some (.int v) :: ls) (.int v :: st) σ τ := mj_nx i161_5 rfl
theorem i161_7 : mj_ins 161 7 = some (.aload 0, 8) := by decide +kernel
theorem e161_7 {ls : mj_L} {st : List Value} {σ : mj_S} {τ : mj_T} {v : Nat} : mj_E 161 7 (some (.ref v) :: ls) st σ τ = mj_E 161 8 (some (.ref v) :: ls) (.ref v :: st) σ τ := mj_nx i161_7 rfl
theorem i161_8 : mj_ins 161 8 = some (.getfield 701, 11) := by decide +kernel
theorem e161_8 {ls : mj_L} {st : List Value} {σ : mj_S} {τ : mj_T} : mj_E 161 8 ls (.ref 62 :: st) σ τ = mj_E 161 11 ls (.int (σ 62 1) :: st) σ τ := mj_nx i161_8 rfl
theorem i161_11 : mj_ins 161 11 = some (.if_icmp .ge 42, 14) := by decide +kernel
theorem e161_11 {ls : mj_L} {st : List Value} {σ : mj_S} {τ : mj_T} {x y : Int32} : mj_E 161 11 ls (.int y :: .int x :: st) σ τ = if y ≤ x then mj_E 161 42 ls st σ τ else mj_E 161 14 ls st σ τ := (mj_ifi i161_11).trans (mj_cdT rfl)
theorem i161_14 : mj_ins 161 14 = some (.aload 0, 15) := by decide +kernel
theorem e161_14 {ls : mj_L} {st : List Value} {σ : mj_S} {τ : mj_T} {v : Nat} : mj_E 161 14 (some (.ref v) :: ls) st σ τ = mj_E 161 15 (some (.ref v) :: ls) (.ref v :: st) σ τ := mj_nx i161_14 rfl
theorem i161_15 : mj_ins 161 15 = some (.iload 4, 17) := by decide +kernel
theorem e161_15 {ls : mj_L} {st : List Value} {σ : mj_S} {τ : mj_T} {a0 a1 a2 a3 : Option Value} {v : Int32} : mj_E 161 15 (a0 :: a1 :: a2 :: a3 :: some (.int v) :: ls) st σ τ = mj_E 161 17 (a0 :: a1 :: a2 :: a3 :: some (.int v) :: ls) (.int v :: st) σ τ := mj_nx i161_15 rfl
theorem i161_17 : mj_ins 161 17 = some (.invokevirtual 157, 20) := by decide +kernel
theorem e161_17 {ls : mj_L} {σ : mj_S} {τ : mj_T} {r : Nat} {x0 : Int32} : mj_E 161 17 ls [.int x0, .ref r] σ τ = if mj_rcv r 7 = true then mj_bd (mj_C 157 [.ref r, .int x0] σ τ) (mj_K 161 20 ls []) else none := mj_clV (as := [.int x0]) (r := []) i161_17 (by decide +kernel : mj_vk 161 157 1 0 2 false = true) (by decide +kernel)
theorem i161_20 : mj_ins 161 20 = some (.aload 0, 21) := by decide +kernel
theorem e161_20 {ls : mj_L} {st : List Value} {σ : mj_S} {τ : mj_T} {v : Nat} : mj_E 161 20 (some (.ref v) :: ls) st σ τ = mj_E 161 21 (some (.ref v) :: ls) (.ref v :: st) σ τ := mj_nx i161_20 rfl
theorem i161_21 : mj_ins 161 21 = some (.iload 2, 22) := by decide +kernel
theorem e161_21 {ls : mj_L} {st : List Value} {σ : mj_S} {τ : mj_T} {a0 a1 : Option Value} {v : Int32} : mj_E 161 21 (a0 :: a1 :: some (.int v) :: ls) st σ τ = mj_E 161 22 (a0 :: a1 :: some (.int v) :: ls) (.int v :: st) σ τ := mj_nx i161_21 rfl
theorem i161_22 : mj_ins 161 22 = some (.invokevirtual 159, 25) := by decide +kernel
theorem e161_22 {ls : mj_L} {σ : mj_S} {τ : mj_T} {r : Nat} {x0 : Int32} : mj_E 161 22 ls [.int x0, .ref r] σ τ = if mj_rcv r 7 = true then mj_bd (mj_C 159 [.ref r, .int x0] σ τ) (mj_K 161 25 ls []) else none := mj_clV (as := [.int x0]) (r := []) i161_22 (by decide +kernel : mj_vk 161 159 1 0 2 false = true) (by decide +kernel)
theorem i161_25 : mj_ins 161 25 = some (.iload 1, 26) := by decide +kernel
theorem e161_25 {ls : mj_L} {st : List Value} {σ : mj_S} {τ : mj_T} {a0 : Option Value} {v : Int32} : mj_E 161 25 (a0 :: some (.int v) :: ls) st σ τ = mj_E 161 26 (a0 :: some (.int v) :: ls) (.int v :: st) σ τ := mj_nx i161_25 rfl
theorem i161_26 : mj_ins 161 26 = some (.if_icmp .ne 36, 29) := by decide +kernel
theorem e161_26 {ls : mj_L} {st : List Value} {σ : mj_S} {τ : mj_T} {x y : Int32} : mj_E 161 26 ls (.int y :: .int x :: st) σ τ = if x = y then mj_E 161 29 ls st σ τ else mj_E 161 36 ls st σ τ := (mj_ifi i161_26).trans (mj_cdF rfl)
theorem i161_29 : mj_ins 161 29 = some (.iload 3, 30) := by decide +kernel
theorem e161_29 {ls : mj_L} {st : List Value} {σ : mj_S} {τ : mj_T} {a0 a1 a2 : Option Value} {v : Int32} : mj_E 161 29 (a0 :: a1 :: a2 :: some (.int v) :: ls) st σ τ = mj_E 161 30 (a0 :: a1 :: a2 :: some (.int v) :: ls) (.int v :: st) σ τ := mj_nx i161_29 rfl
theorem i161_30 : mj_ins 161 30 = some (.iconst (1), 31) := by decide +kernel
theorem e161_30 {ls : mj_L} {st : List Value} {σ : mj_S} {τ : mj_T} : mj_E 161 30 ls st σ τ = mj_E 161 31 ls (.int (nI 1) :: st) σ τ := mj_nx i161_30 rfl
theorem i161_31 : mj_ins 161 31 = some (.iload 4, 33) := by decide +kernel
theorem e161_31 {ls : mj_L} {st : List Value} {σ : mj_S} {τ : mj_T} {a0 a1 a2 a3 : Option Value} {v : Int32} : mj_E 161 31 (a0 :: a1 :: a2 :: a3 :: some (.int v) :: ls) st σ τ = mj_E 161 33 (a0 :: a1 :: a2 :: a3 :: some (.int v) :: ls) (.int v :: st) σ τ := mj_nx i161_31 rfl
theorem i161_33 : mj_ins 161 33 = some (.ishl, 34) := by decide +kernel
theorem e161_33 {ls : mj_L} {st : List Value} {σ : mj_S} {τ : mj_T} {x y : Int32} : mj_E 161 33 ls (.int y :: .int x :: st) σ τ = mj_E 161 34 ls (.int (x <<< (y &&& 31)) :: st) σ τ := mj_nx i161_33 rfl
theorem i161_34 : mj_ins 161 34 = some (.iadd, 35) := by decide +kernel
theorem e161_34 {ls : mj_L} {st : List Value} {σ : mj_S} {τ : mj_T} {x y : Int32} : mj_E 161 34 ls (.int y :: .int x :: st) σ τ = mj_E 161 35 ls (.int (x + y) :: st) σ τ := mj_nx i161_34 rfl
theorem i161_35 : mj_ins 161 35 = some (.istore 3, 36) := by decide +kernel
theorem e161_35 {ls : mj_L} {st : List Value} {σ : mj_S} {τ : mj_T} {a0 a1 a2 a3 : Option Value} {v : Int32} : mj_E 161 35 (a0 :: a1 :: a2 :: a3 :: ls) (.int v :: st) σ τ = mj_E 161 36 (a0 :: a1 :: a2 :: some (.int v) :: ls) st σ τ := mj_nx i161_35 rfl
theorem i161_36 : mj_ins 161 36 = some (.iinc 4 (1), 39) := by decide +kernel
theorem e161_36 {ls : mj_L} {st : List Value} {σ : mj_S} {τ : mj_T} {a0 a1 a2 a3 : Option Value} {v : Int32} : mj_E 161 36 (a0 :: a1 :: a2 :: a3 :: some (.int v) :: ls) st σ τ = mj_E 161 39 (a0 :: a1 :: a2 :: a3 :: some (.int (v + nI 1)) :: ls) st σ τ := mj_nx i161_36 rfl
theorem i161_39 : mj_ins 161 39 = some (.goto 5, 42) := by decide +kernel
theorem e161_39 {ls : mj_L} {st : List Value} {σ : mj_S} {τ : mj_T} : mj_E 161 39 ls st σ τ = mj_E 161 5 ls st σ τ := mj_nx i161_39 rfl
theorem i161_42 : mj_ins 161 42 = some (.iload 3, 43) := by decide +kernel
theorem e161_42 {ls : mj_L} {st : List Value} {σ : mj_S} {τ : mj_T} {a0 a1 a2 : Option Value} {v : Int32} : mj_E 161 42 (a0 :: a1 :: a2 :: some (.int v) :: ls) st σ τ = mj_E 161 43 (a0 :: a1 :: a2 :: some (.int v) :: ls) (.int v :: st) σ τ := mj_nx i161_42 rfl
theorem i161_43 : mj_ins 161 43 = some (.ireturn, 44) := by decide +kernel
theorem e161_43 {ls : mj_L} {σ : mj_S} {τ : mj_T} {v : Int32} : mj_E 161 43 ls [.int v] σ τ = some (some (.int v), σ, τ) := mj_irt i161_43 rfl
theorem c162 {σ : mj_S} {τ : mj_T} {r : Nat} {x0 : Int32} : mj_C 162 [.ref r, .int x0] σ τ = mj_E 162 0 [some (.ref r), some (.int x0), none, none] [] σ τ := rfl
theorem i162_0 : mj_ins 162 0 = some (.iconst (0), 1) := by decide +kernel
theorem e162_0 {ls : mj_L} {st : List Value} {σ : mj_S} {τ : mj_T} : mj_E 162 0 ls st σ τ = mj_E 162 1 ls (.int (nI 0) :: st) σ τ := mj_nx i162_0 rfl
theorem i162_1 : mj_ins 162 1 = some (.istore 2, 2) := by decide +kernel
theorem e162_1 {ls : mj_L} {st : List Value} {σ : mj_S} {τ : mj_T} {a0 a1 a2 : Option Value} {v : Int32} : mj_E 162 1 (a0 :: a1 :: a2 :: ls) (.int v :: st) σ τ = mj_E 162 2 (a0 :: a1 :: some (.int v) :: ls) st σ τ := mj_nx i162_1 rfl
theorem i162_2 : mj_ins 162 2 = some (.iconst (0), 3) := by decide +kernel
theorem e162_2 {ls : mj_L} {st : List Value} {σ : mj_S} {τ : mj_T} : mj_E 162 2 ls st σ τ = mj_E 162 3 ls (.int (nI 0) :: st) σ τ := mj_nx i162_2 rfl
theorem i162_3 : mj_ins 162 3 = some (.istore 3, 4) := by decide +kernel
theorem e162_3 {ls : mj_L} {st : List Value} {σ : mj_S} {τ : mj_T} {a0 a1 a2 a3 : Option Value} {v : Int32} : mj_E 162 3 (a0 :: a1 :: a2 :: a3 :: ls) (.int v :: st) σ τ = mj_E 162 4 (a0 :: a1 :: a2 :: some (.int v) :: ls) st σ τ := mj_nx i162_3 rfl
theorem i162_4 : mj_ins 162 4 = some (.iload 3, 5) := by decide +kernel
theorem e162_4 {ls : mj_L} {st : List Value} {σ : mj_S} {τ : mj_T} {a0 a1 a2 : Option Value} {v : Int32} : mj_E 162 4 (a0 :: a1 :: a2 :: some (.int v) :: ls) st σ τ = mj_E 162 5 (a0 :: a1 :: a2 :: some (.int v) :: ls) (.int v :: st) σ τ := mj_nx i162_4 rfl
theorem i162_5 : mj_ins 162 5 = some (.iconst (8), 7) := by decide +kernel
theorem e162_5 {ls : mj_L} {st : List Value} {σ : mj_S} {τ : mj_T} : mj_E 162 5 ls st σ τ = mj_E 162 7 ls (.int (nI 8) :: st) σ τ := mj_nx i162_5 rfl
theorem i162_7 : mj_ins 162 7 = some (.if_icmp .ge 24, 10) := by decide +kernel
theorem e162_7 {ls : mj_L} {st : List Value} {σ : mj_S} {τ : mj_T} {x y : Int32} : mj_E 162 7 ls (.int y :: .int x :: st) σ τ = if y ≤ x then mj_E 162 24 ls st σ τ else mj_E 162 10 ls st σ τ := (mj_ifi i162_7).trans (mj_cdT rfl)
theorem i162_10 : mj_ins 162 10 = some (.iload 2, 11) := by decide +kernel
theorem e162_10 {ls : mj_L} {st : List Value} {σ : mj_S} {τ : mj_T} {a0 a1 : Option Value} {v : Int32} : mj_E 162 10 (a0 :: a1 :: some (.int v) :: ls) st σ τ = mj_E 162 11 (a0 :: a1 :: some (.int v) :: ls) (.int v :: st) σ τ := mj_nx i162_10 rfl
theorem i162_11 : mj_ins 162 11 = some (.iload 1, 12) := by decide +kernel
theorem e162_11 {ls : mj_L} {st : List Value} {σ : mj_S} {τ : mj_T} {a0 : Option Value} {v : Int32} : mj_E 162 11 (a0 :: some (.int v) :: ls) st σ τ = mj_E 162 12 (a0 :: some (.int v) :: ls) (.int v :: st) σ τ := mj_nx i162_11 rfl
theorem i162_12 : mj_ins 162 12 = some (.iload 3, 13) := by decide +kernel
theorem e162_12 {ls : mj_L} {st : List Value} {σ : mj_S} {τ : mj_T} {a0 a1 a2 : Option Value} {v : Int32} : mj_E 162 12 (a0 :: a1 :: a2 :: some (.int v) :: ls) st σ τ = mj_E 162 13 (a0 :: a1 :: a2 :: some (.int v) :: ls) (.int v :: st) σ τ := mj_nx i162_12 rfl
theorem i162_13 : mj_ins 162 13 = some (.ishr, 14) := by decide +kernel
theorem e162_13 {ls : mj_L} {st : List Value} {σ : mj_S} {τ : mj_T} {x y : Int32} : mj_E 162 13 ls (.int y :: .int x :: st) σ τ = mj_E 162 14 ls (.int (x >>> (y &&& 31)) :: st) σ τ := mj_nx i162_13 rfl
theorem i162_14 : mj_ins 162 14 = some (.iconst (1), 15) := by decide +kernel
theorem e162_14 {ls : mj_L} {st : List Value} {σ : mj_S} {τ : mj_T} : mj_E 162 14 ls st σ τ = mj_E 162 15 ls (.int (nI 1) :: st) σ τ := mj_nx i162_14 rfl
theorem i162_15 : mj_ins 162 15 = some (.iand, 16) := by decide +kernel
theorem e162_15 {ls : mj_L} {st : List Value} {σ : mj_S} {τ : mj_T} {x y : Int32} : mj_E 162 15 ls (.int y :: .int x :: st) σ τ = mj_E 162 16 ls (.int (x &&& y) :: st) σ τ := mj_nx i162_15 rfl
theorem i162_16 : mj_ins 162 16 = some (.iadd, 17) := by decide +kernel
theorem e162_16 {ls : mj_L} {st : List Value} {σ : mj_S} {τ : mj_T} {x y : Int32} : mj_E 162 16 ls (.int y :: .int x :: st) σ τ = mj_E 162 17 ls (.int (x + y) :: st) σ τ := mj_nx i162_16 rfl
theorem i162_17 : mj_ins 162 17 = some (.istore 2, 18) := by decide +kernel
theorem e162_17 {ls : mj_L} {st : List Value} {σ : mj_S} {τ : mj_T} {a0 a1 a2 : Option Value} {v : Int32} : mj_E 162 17 (a0 :: a1 :: a2 :: ls) (.int v :: st) σ τ = mj_E 162 18 (a0 :: a1 :: some (.int v) :: ls) st σ τ := mj_nx i162_17 rfl
theorem i162_18 : mj_ins 162 18 = some (.iinc 3 (1), 21) := by decide +kernel
theorem e162_18 {ls : mj_L} {st : List Value} {σ : mj_S} {τ : mj_T} {a0 a1 a2 : Option Value} {v : Int32} : mj_E 162 18 (a0 :: a1 :: a2 :: some (.int v) :: ls) st σ τ = mj_E 162 21 (a0 :: a1 :: a2 :: some (.int (v + nI 1)) :: ls) st σ τ := mj_nx i162_18 rfl
theorem i162_21 : mj_ins 162 21 = some (.goto 4, 24) := by decide +kernel
theorem e162_21 {ls : mj_L} {st : List Value} {σ : mj_S} {τ : mj_T} : mj_E 162 21 ls st σ τ = mj_E 162 4 ls st σ τ := mj_nx i162_21 rfl
theorem i162_24 : mj_ins 162 24 = some (.iload 2, 25) := by decide +kernel
theorem e162_24 {ls : mj_L} {st : List Value} {σ : mj_S} {τ : mj_T} {a0 a1 : Option Value} {v : Int32} : mj_E 162 24 (a0 :: a1 :: some (.int v) :: ls) st σ τ = mj_E 162 25 (a0 :: a1 :: some (.int v) :: ls) (.int v :: st) σ τ := mj_nx i162_24 rfl
theorem i162_25 : mj_ins 162 25 = some (.ireturn, 26) := by decide +kernel
theorem e162_25 {ls : mj_L} {σ : mj_S} {τ : mj_T} {v : Int32} : mj_E 162 25 ls [.int v] σ τ = some (some (.int v), σ, τ) := mj_irt i162_25 rfl
theorem c163 {σ : mj_S} {τ : mj_T} {r : Nat} {x0 : Int32} : mj_C 163 [.ref r, .int x0] σ τ = mj_E 163 0 [some (.ref r), some (.int x0)] [] σ τ := rfl
theorem i163_0 : mj_ins 163 0 = some (.aload 0, 1) := by decide +kernel
theorem e163_0 {ls : mj_L} {st : List Value} {σ : mj_S} {τ : mj_T} {v : Nat} : mj_E 163 0 (some (.ref v) :: ls) st σ τ = mj_E 163 1 (some (.ref v) :: ls) (.ref v :: st) σ τ := mj_nx i163_0 rfl
theorem i163_1 : mj_ins 163 1 = some (.iload 1, 2) := by decide +kernel
theorem e163_1 {ls : mj_L} {st : List Value} {σ : mj_S} {τ : mj_T} {a0 : Option Value} {v : Int32} : mj_E 163 1 (a0 :: some (.int v) :: ls) st σ τ = mj_E 163 2 (a0 :: some (.int v) :: ls) (.int v :: st) σ τ := mj_nx i163_1 rfl
theorem i163_2 : mj_ins 163 2 = some (.invokevirtual 141, 5) := by decide +kernel
theorem e163_2 {ls : mj_L} {σ : mj_S} {τ : mj_T} {r : Nat} {x0 : Int32} : mj_E 163 2 ls [.int x0, .ref r] σ τ = if mj_rcv r 7 = true then mj_bd (mj_C 141 [.ref r, .int x0] σ τ) (mj_K 163 5 ls []) else none := mj_clV (as := [.int x0]) (r := []) i163_2 (by decide +kernel : mj_vk 163 141 1 0 2 false = true) (by decide +kernel)
theorem i163_5 : mj_ins 163 5 = some (.aload 0, 6) := by decide +kernel
theorem e163_5 {ls : mj_L} {st : List Value} {σ : mj_S} {τ : mj_T} {v : Nat} : mj_E 163 5 (some (.ref v) :: ls) st σ τ = mj_E 163 6 (some (.ref v) :: ls) (.ref v :: st) σ τ := mj_nx i163_5 rfl
theorem i163_6 : mj_ins 163 6 = some (.aload 0, 7) := by decide +kernel
theorem e163_6 {ls : mj_L} {st : List Value} {σ : mj_S} {τ : mj_T} {v : Nat} : mj_E 163 6 (some (.ref v) :: ls) st σ τ = mj_E 163 7 (some (.ref v) :: ls) (.ref v :: st) σ τ := mj_nx i163_6 rfl
theorem i163_7 : mj_ins 163 7 = some (.iload 1, 8) := by decide +kernel
theorem e163_7 {ls : mj_L} {st : List Value} {σ : mj_S} {τ : mj_T} {a0 : Option Value} {v : Int32} : mj_E 163 7 (a0 :: some (.int v) :: ls) st σ τ = mj_E 163 8 (a0 :: some (.int v) :: ls) (.int v :: st) σ τ := mj_nx i163_7 rfl
theorem i163_8 : mj_ins 163 8 = some (.iconst (0), 9) := by decide +kernel
theorem e163_8 {ls : mj_L} {st : List Value} {σ : mj_S} {τ : mj_T} : mj_E 163 8 ls st σ τ = mj_E 163 9 ls (.int (nI 0) :: st) σ τ := mj_nx i163_8 rfl
theorem i163_9 : mj_ins 163 9 = some (.invokevirtual 161, 12) := by decide +kernel
theorem e163_9 {ls : mj_L} {σ : mj_S} {τ : mj_T} {r : Nat} {x0 : Int32} {x1 : Int32} {w0 w1 : Value} : mj_E 163 9 ls [.int x1, .int x0, .ref r, w0, w1] σ τ = if mj_rcv r 7 = true then mj_bd (mj_C 161 [.ref r, .int x0, .int x1] σ τ) (mj_K 163 12 ls [w0, w1]) else none := mj_clV (as := [.int x0, .int x1]) (r := [w0, w1]) i163_9 (by decide +kernel : mj_vk 163 161 2 2 3 false = true) (by decide +kernel)
theorem i163_12 : mj_ins 163 12 = some (.invokevirtual 162, 15) := by decide +kernel
theorem e163_12 {ls : mj_L} {σ : mj_S} {τ : mj_T} {r : Nat} {x0 : Int32} {w0 : Value} : mj_E 163 12 ls [.int x0, .ref r, w0] σ τ = if mj_rcv r 7 = true then mj_bd (mj_C 162 [.ref r, .int x0] σ τ) (mj_K 163 15 ls [w0]) else none := mj_clV (as := [.int x0]) (r := [w0]) i163_12 (by decide +kernel : mj_vk 163 162 1 1 2 false = true) (by decide +kernel)
theorem i163_15 : mj_ins 163 15 = some (.isub, 16) := by decide +kernel
theorem e163_15 {ls : mj_L} {st : List Value} {σ : mj_S} {τ : mj_T} {x y : Int32} : mj_E 163 15 ls (.int y :: .int x :: st) σ τ = mj_E 163 16 ls (.int (x - y) :: st) σ τ := mj_nx i163_15 rfl
theorem i163_16 : mj_ins 163 16 = some (.aload 0, 17) := by decide +kernel
theorem e163_16 {ls : mj_L} {st : List Value} {σ : mj_S} {τ : mj_T} {v : Nat} : mj_E 163 16 (some (.ref v) :: ls) st σ τ = mj_E 163 17 (some (.ref v) :: ls) (.ref v :: st) σ τ := mj_nx i163_16 rfl
theorem i163_17 : mj_ins 163 17 = some (.aload 0, 18) := by decide +kernel
theorem e163_17 {ls : mj_L} {st : List Value} {σ : mj_S} {τ : mj_T} {v : Nat} : mj_E 163 17 (some (.ref v) :: ls) st σ τ = mj_E 163 18 (some (.ref v) :: ls) (.ref v :: st) σ τ := mj_nx i163_17 rfl
theorem i163_18 : mj_ins 163 18 = some (.iload 1, 19) := by decide +kernel
theorem e163_18 {ls : mj_L} {st : List Value} {σ : mj_S} {τ : mj_T} {a0 : Option Value} {v : Int32} : mj_E 163 18 (a0 :: some (.int v) :: ls) st σ τ = mj_E 163 19 (a0 :: some (.int v) :: ls) (.int v :: st) σ τ := mj_nx i163_18 rfl
theorem i163_19 : mj_ins 163 19 = some (.iconst (2), 20) := by decide +kernel
theorem e163_19 {ls : mj_L} {st : List Value} {σ : mj_S} {τ : mj_T} : mj_E 163 19 ls st σ τ = mj_E 163 20 ls (.int (nI 2) :: st) σ τ := mj_nx i163_19 rfl
theorem i163_20 : mj_ins 163 20 = some (.invokevirtual 161, 23) := by decide +kernel
theorem e163_20 {ls : mj_L} {σ : mj_S} {τ : mj_T} {r : Nat} {x0 : Int32} {x1 : Int32} {w0 w1 : Value} : mj_E 163 20 ls [.int x1, .int x0, .ref r, w0, w1] σ τ = if mj_rcv r 7 = true then mj_bd (mj_C 161 [.ref r, .int x0, .int x1] σ τ) (mj_K 163 23 ls [w0, w1]) else none := mj_clV (as := [.int x0, .int x1]) (r := [w0, w1]) i163_20 (by decide +kernel : mj_vk 163 161 2 2 3 false = true) (by decide +kernel)
theorem i163_23 : mj_ins 163 23 = some (.invokevirtual 162, 26) := by decide +kernel
theorem e163_23 {ls : mj_L} {σ : mj_S} {τ : mj_T} {r : Nat} {x0 : Int32} {w0 : Value} : mj_E 163 23 ls [.int x0, .ref r, w0] σ τ = if mj_rcv r 7 = true then mj_bd (mj_C 162 [.ref r, .int x0] σ τ) (mj_K 163 26 ls [w0]) else none := mj_clV (as := [.int x0]) (r := [w0]) i163_23 (by decide +kernel : mj_vk 163 162 1 1 2 false = true) (by decide +kernel)
theorem i163_26 : mj_ins 163 26 = some (.iadd, 27) := by decide +kernel
theorem e163_26 {ls : mj_L} {st : List Value} {σ : mj_S} {τ : mj_T} {x y : Int32} : mj_E 163 26 ls (.int y :: .int x :: st) σ τ = mj_E 163 27 ls (.int (x + y) :: st) σ τ := mj_nx i163_26 rfl
theorem i163_27 : mj_ins 163 27 = some (.ireturn, 28) := by decide +kernel
theorem e163_27 {ls : mj_L} {σ : mj_S} {τ : mj_T} {v : Int32} : mj_E 163 27 ls [.int v] σ τ = some (some (.int v), σ, τ) := mj_irt i163_27 rfl
theorem c164 {σ : mj_S} {τ : mj_T} {r : Nat} {x0 : Int32} {x1 : Int32} : mj_C 164 [.ref r, .int x0, .int x1] σ τ = mj_E 164 0 [some (.ref r), some (.int x0), some (.int x1)] [] σ τ := rfl
theorem i164_0 : mj_ins 164 0 = some (.aload 0, 1) := by decide +kernel
theorem e164_0 {ls : mj_L} {st : List Value} {σ : mj_S} {τ : mj_T} {v : Nat} : mj_E 164 0 (some (.ref v) :: ls) st σ τ = mj_E 164 1 (some (.ref v) :: ls) (.ref v :: st) σ τ := mj_nx i164_0 rfl
theorem i164_1 : mj_ins 164 1 = some (.iload 1, 2) := by decide +kernel
theorem e164_1 {ls : mj_L} {st : List Value} {σ : mj_S} {τ : mj_T} {a0 : Option Value} {v : Int32} : mj_E 164 1 (a0 :: some (.int v) :: ls) st σ τ = mj_E 164 2 (a0 :: some (.int v) :: ls) (.int v :: st) σ τ := mj_nx i164_1 rfl
theorem i164_2 : mj_ins 164 2 = some (.invokevirtual 120, 5) := by decide +kernel
theorem e164_2 {ls : mj_L} {σ : mj_S} {τ : mj_T} {r : Nat} {x0 : Int32} : mj_E 164 2 ls [.int x0, .ref r] σ τ = if mj_rcv r 7 = true then mj_bd (mj_C 120 [.ref r, .int x0] σ τ) (mj_K 164 5 ls []) else none := mj_clV (as := [.int x0]) (r := []) i164_2 (by decide +kernel : mj_vk 164 120 1 0 2 false = true) (by decide +kernel)
theorem i164_5 : mj_ins 164 5 = some (.ifCond .ne 14, 8) := by decide +kernel
theorem e164_5 {ls : mj_L} {st : List Value} {σ : mj_S} {τ : mj_T} {x : Int32} : mj_E 164 5 ls (.int x :: st) σ τ = if x = 0 then mj_E 164 8 ls st σ τ else mj_E 164 14 ls st σ τ := (mj_ifc i164_5).trans (mj_cdF rfl)
theorem i164_8 : mj_ins 164 8 = some (.aload 0, 9) := by decide +kernel
theorem e164_8 {ls : mj_L} {st : List Value} {σ : mj_S} {τ : mj_T} {v : Nat} : mj_E 164 8 (some (.ref v) :: ls) st σ τ = mj_E 164 9 (some (.ref v) :: ls) (.ref v :: st) σ τ := mj_nx i164_8 rfl
theorem i164_9 : mj_ins 164 9 = some (.iconst (-1), 10) := by decide +kernel
theorem e164_9 {ls : mj_L} {st : List Value} {σ : mj_S} {τ : mj_T} : mj_E 164 9 ls st σ τ = mj_E 164 10 ls (.int ((-1)) :: st) σ τ := mj_nx i164_9 rfl
theorem i164_10 : mj_ins 164 10 = some (.invokevirtual 117, 13) := by decide +kernel
theorem e164_10 {ls : mj_L} {σ : mj_S} {τ : mj_T} {r : Nat} {x0 : Int32} : mj_E 164 10 ls [.int x0, .ref r] σ τ = if mj_rcv r 7 = true then mj_bd (mj_C 117 [.ref r, .int x0] σ τ) (mj_K 164 13 ls []) else none := mj_clV (as := [.int x0]) (r := []) i164_10 (by decide +kernel : mj_vk 164 117 1 0 2 false = true) (by decide +kernel)
theorem i164_13 : mj_ins 164 13 = some (.ireturn, 14) := by decide +kernel
theorem e164_13 {ls : mj_L} {σ : mj_S} {τ : mj_T} {v : Int32} : mj_E 164 13 ls [.int v] σ τ = some (some (.int v), σ, τ) := mj_irt i164_13 rfl
theorem i164_14 : mj_ins 164 14 = some (.iload 2, 15) := by decide +kernel
theorem e164_14 {ls : mj_L} {st : List Value} {σ : mj_S} {τ : mj_T} {a0 a1 : Option Value} {v : Int32} : mj_E 164 14 (a0 :: a1 :: some (.int v) :: ls) st σ τ = mj_E 164 15 (a0 :: a1 :: some (.int v) :: ls) (.int v :: st) σ τ := mj_nx i164_14 rfl
theorem i164_15 : mj_ins 164 15 = some (.ifCond .lt 23, 18) := by decide +kernel
theorem e164_15 {ls : mj_L} {st : List Value} {σ : mj_S} {τ : mj_T} {x : Int32} : mj_E 164 15 ls (.int x :: st) σ τ = if x < 0 then mj_E 164 23 ls st σ τ else mj_E 164 18 ls st σ τ := (mj_ifc i164_15).trans (mj_cdT rfl)
theorem i164_18 : mj_ins 164 18 = some (.iload 2, 19) := by decide +kernel
theorem e164_18 {ls : mj_L} {st : List Value} {σ : mj_S} {τ : mj_T} {a0 a1 : Option Value} {v : Int32} : mj_E 164 18 (a0 :: a1 :: some (.int v) :: ls) st σ τ = mj_E 164 19 (a0 :: a1 :: some (.int v) :: ls) (.int v :: st) σ τ := mj_nx i164_18 rfl
theorem i164_19 : mj_ins 164 19 = some (.iconst (3), 20) := by decide +kernel
theorem e164_19 {ls : mj_L} {st : List Value} {σ : mj_S} {τ : mj_T} : mj_E 164 19 ls st σ τ = mj_E 164 20 ls (.int (nI 3) :: st) σ τ := mj_nx i164_19 rfl
theorem i164_20 : mj_ins 164 20 = some (.if_icmp .le 30, 23) := by decide +kernel
theorem e164_20 {ls : mj_L} {st : List Value} {σ : mj_S} {τ : mj_T} {x y : Int32} : mj_E 164 20 ls (.int y :: .int x :: st) σ τ = if x ≤ y then mj_E 164 30 ls st σ τ else mj_E 164 23 ls st σ τ := (mj_ifi i164_20).trans (mj_cdT rfl)
theorem i164_23 : mj_ins 164 23 = some (.aload 0, 24) := by decide +kernel
theorem e164_23 {ls : mj_L} {st : List Value} {σ : mj_S} {τ : mj_T} {v : Nat} : mj_E 164 23 (some (.ref v) :: ls) st σ τ = mj_E 164 24 (some (.ref v) :: ls) (.ref v :: st) σ τ := mj_nx i164_23 rfl
theorem i164_24 : mj_ins 164 24 = some (.iconst (-5), 26) := by decide +kernel
theorem e164_24 {ls : mj_L} {st : List Value} {σ : mj_S} {τ : mj_T} : mj_E 164 24 ls st σ τ = mj_E 164 26 ls (.int ((-5)) :: st) σ τ := mj_nx i164_24 rfl
theorem i164_26 : mj_ins 164 26 = some (.invokevirtual 117, 29) := by decide +kernel
theorem e164_26 {ls : mj_L} {σ : mj_S} {τ : mj_T} {r : Nat} {x0 : Int32} : mj_E 164 26 ls [.int x0, .ref r] σ τ = if mj_rcv r 7 = true then mj_bd (mj_C 117 [.ref r, .int x0] σ τ) (mj_K 164 29 ls []) else none := mj_clV (as := [.int x0]) (r := []) i164_26 (by decide +kernel : mj_vk 164 117 1 0 2 false = true) (by decide +kernel)
theorem i164_29 : mj_ins 164 29 = some (.ireturn, 30) := by decide +kernel
theorem e164_29 {ls : mj_L} {σ : mj_S} {τ : mj_T} {v : Int32} : mj_E 164 29 ls [.int v] σ τ = some (some (.int v), σ, τ) := mj_irt i164_29 rfl
theorem i164_30 : mj_ins 164 30 = some (.iload 2, 31) := by decide +kernel
theorem e164_30 {ls : mj_L} {st : List Value} {σ : mj_S} {τ : mj_T} {a0 a1 : Option Value} {v : Int32} : mj_E 164 30 (a0 :: a1 :: some (.int v) :: ls) st σ τ = mj_E 164 31 (a0 :: a1 :: some (.int v) :: ls) (.int v :: st) σ τ := mj_nx i164_30 rfl
theorem i164_31 : mj_ins 164 31 = some (.iconst (3), 32) := by decide +kernel
theorem e164_31 {ls : mj_L} {st : List Value} {σ : mj_S} {τ : mj_T} : mj_E 164 31 ls st σ τ = mj_E 164 32 ls (.int (nI 3) :: st) σ τ := mj_nx i164_31 rfl
theorem i164_32 : mj_ins 164 32 = some (.if_icmp .ne 43, 35) := by decide +kernel
theorem e164_32 {ls : mj_L} {st : List Value} {σ : mj_S} {τ : mj_T} {x y : Int32} : mj_E 164 32 ls (.int y :: .int x :: st) σ τ = if x = y then mj_E 164 35 ls st σ τ else mj_E 164 43 ls st σ τ := (mj_ifi i164_32).trans (mj_cdF rfl)
theorem i164_35 : mj_ins 164 35 = some (.aload 0, 36) := by decide +kernel
theorem e164_35 {ls : mj_L} {st : List Value} {σ : mj_S} {τ : mj_T} {v : Nat} : mj_E 164 35 (some (.ref v) :: ls) st σ τ = mj_E 164 36 (some (.ref v) :: ls) (.ref v :: st) σ τ := mj_nx i164_35 rfl
theorem i164_36 : mj_ins 164 36 = some (.iload 1, 37) := by decide +kernel
theorem e164_36 {ls : mj_L} {st : List Value} {σ : mj_S} {τ : mj_T} {a0 : Option Value} {v : Int32} : mj_E 164 36 (a0 :: some (.int v) :: ls) st σ τ = mj_E 164 37 (a0 :: some (.int v) :: ls) (.int v :: st) σ τ := mj_nx i164_36 rfl
theorem i164_37 : mj_ins 164 37 = some (.invokevirtual 163, 40) := by decide +kernel
theorem e164_37 {ls : mj_L} {σ : mj_S} {τ : mj_T} {r : Nat} {x0 : Int32} : mj_E 164 37 ls [.int x0, .ref r] σ τ = if mj_rcv r 7 = true then mj_bd (mj_C 163 [.ref r, .int x0] σ τ) (mj_K 164 40 ls []) else none := mj_clV (as := [.int x0]) (r := []) i164_37 (by decide +kernel : mj_vk 164 163 1 0 2 false = true) (by decide +kernel)
theorem i164_40 : mj_ins 164 40 = some (.goto 49, 43) := by decide +kernel
theorem e164_40 {ls : mj_L} {st : List Value} {σ : mj_S} {τ : mj_T} : mj_E 164 40 ls st σ τ = mj_E 164 49 ls st σ τ := mj_nx i164_40 rfl
theorem i164_43 : mj_ins 164 43 = some (.aload 0, 44) := by decide +kernel
theorem e164_43 {ls : mj_L} {st : List Value} {σ : mj_S} {τ : mj_T} {v : Nat} : mj_E 164 43 (some (.ref v) :: ls) st σ τ = mj_E 164 44 (some (.ref v) :: ls) (.ref v :: st) σ τ := mj_nx i164_43 rfl
theorem i164_44 : mj_ins 164 44 = some (.iload 1, 45) := by decide +kernel
theorem e164_44 {ls : mj_L} {st : List Value} {σ : mj_S} {τ : mj_T} {a0 : Option Value} {v : Int32} : mj_E 164 44 (a0 :: some (.int v) :: ls) st σ τ = mj_E 164 45 (a0 :: some (.int v) :: ls) (.int v :: st) σ τ := mj_nx i164_44 rfl
theorem i164_45 : mj_ins 164 45 = some (.iload 2, 46) := by decide +kernel
theorem e164_45 {ls : mj_L} {st : List Value} {σ : mj_S} {τ : mj_T} {a0 a1 : Option Value} {v : Int32} : mj_E 164 45 (a0 :: a1 :: some (.int v) :: ls) st σ τ = mj_E 164 46 (a0 :: a1 :: some (.int v) :: ls) (.int v :: st) σ τ := mj_nx i164_45 rfl
theorem i164_46 : mj_ins 164 46 = some (.invokevirtual 161, 49) := by decide +kernel
theorem e164_46 {ls : mj_L} {σ : mj_S} {τ : mj_T} {r : Nat} {x0 : Int32} {x1 : Int32} : mj_E 164 46 ls [.int x1, .int x0, .ref r] σ τ = if mj_rcv r 7 = true then mj_bd (mj_C 161 [.ref r, .int x0, .int x1] σ τ) (mj_K 164 49 ls []) else none := mj_clV (as := [.int x0, .int x1]) (r := []) i164_46 (by decide +kernel : mj_vk 164 161 2 0 3 false = true) (by decide +kernel)
theorem i164_49 : mj_ins 164 49 = some (.ireturn, 50) := by decide +kernel
theorem e164_49 {ls : mj_L} {σ : mj_S} {τ : mj_T} {v : Int32} : mj_E 164 49 ls [.int v] σ τ = some (some (.int v), σ, τ) := mj_irt i164_49 rfl
theorem c165 {σ : mj_S} {τ : mj_T} {r : Nat} {x0 : Int32} : mj_C 165 [.ref r, .int x0] σ τ = mj_E 165 0 [some (.ref r), some (.int x0), none, none, none, none, none] [] σ τ := rfl
theorem i165_0 : mj_ins 165 0 = some (.iload 1, 1) := by decide +kernel
theorem e165_0 {ls : mj_L} {st : List Value} {σ : mj_S} {τ : mj_T} {a0 : Option Value} {v : Int32} : mj_E 165 0 (a0 :: some (.int v) :: ls) st σ τ = mj_E 165 1 (a0 :: some (.int v) :: ls) (.int v :: st) σ τ := mj_nx i165_0 rfl
theorem i165_1 : mj_ins 165 1 = some (.ifCond .lt 9, 4) := by decide +kernel
theorem e165_1 {ls : mj_L} {st : List Value} {σ : mj_S} {τ : mj_T} {x : Int32} : mj_E 165 1 ls (.int x :: st) σ τ = if x < 0 then mj_E 165 9 ls st σ τ else mj_E 165 4 ls st σ τ := (mj_ifc i165_1).trans (mj_cdT rfl)
theorem i165_4 : mj_ins 165 4 = some (.iload 1, 5) := by decide +kernel
theorem e165_4 {ls : mj_L} {st : List Value} {σ : mj_S} {τ : mj_T} {a0 : Option Value} {v : Int32} : mj_E 165 4 (a0 :: some (.int v) :: ls) st σ τ = mj_E 165 5 (a0 :: some (.int v) :: ls) (.int v :: st) σ τ := mj_nx i165_4 rfl
theorem i165_5 : mj_ins 165 5 = some (.iconst (1), 6) := by decide +kernel
theorem e165_5 {ls : mj_L} {st : List Value} {σ : mj_S} {τ : mj_T} : mj_E 165 5 ls st σ τ = mj_E 165 6 ls (.int (nI 1) :: st) σ τ := mj_nx i165_5 rfl
theorem i165_6 : mj_ins 165 6 = some (.if_icmp .le 16, 9) := by decide +kernel
theorem e165_6 {ls : mj_L} {st : List Value} {σ : mj_S} {τ : mj_T} {x y : Int32} : mj_E 165 6 ls (.int y :: .int x :: st) σ τ = if x ≤ y then mj_E 165 16 ls st σ τ else mj_E 165 9 ls st σ τ := (mj_ifi i165_6).trans (mj_cdT rfl)
theorem i165_9 : mj_ins 165 9 = some (.aload 0, 10) := by decide +kernel
theorem e165_9 {ls : mj_L} {st : List Value} {σ : mj_S} {τ : mj_T} {v : Nat} : mj_E 165 9 (some (.ref v) :: ls) st σ τ = mj_E 165 10 (some (.ref v) :: ls) (.ref v :: st) σ τ := mj_nx i165_9 rfl
theorem i165_10 : mj_ins 165 10 = some (.iconst (-5), 12) := by decide +kernel
theorem e165_10 {ls : mj_L} {st : List Value} {σ : mj_S} {τ : mj_T} : mj_E 165 10 ls st σ τ = mj_E 165 12 ls (.int ((-5)) :: st) σ τ := mj_nx i165_10 rfl
theorem i165_12 : mj_ins 165 12 = some (.invokevirtual 118, 15) := by decide +kernel
theorem e165_12 {ls : mj_L} {σ : mj_S} {τ : mj_T} {r : Nat} {x0 : Int32} : mj_E 165 12 ls [.int x0, .ref r] σ τ = if mj_rcv r 7 = true then mj_bd (mj_C 118 [.ref r, .int x0] σ τ) (mj_K 165 15 ls []) else none := mj_clV (as := [.int x0]) (r := []) i165_12 (by decide +kernel : mj_vk 165 118 1 0 2 false = true) (by decide +kernel)
theorem i165_15 : mj_ins 165 15 = some (.ireturn, 16) := by decide +kernel
theorem e165_15 {ls : mj_L} {σ : mj_S} {τ : mj_T} {v : Int32} : mj_E 165 15 ls [.int v] σ τ = some (some (.int v), σ, τ) := mj_irt i165_15 rfl
theorem i165_16 : mj_ins 165 16 = some (.iconst (-1), 17) := by decide +kernel
theorem e165_16 {ls : mj_L} {st : List Value} {σ : mj_S} {τ : mj_T} : mj_E 165 16 ls st σ τ = mj_E 165 17 ls (.int ((-1)) :: st) σ τ := mj_nx i165_16 rfl
theorem i165_17 : mj_ins 165 17 = some (.istore 2, 18) := by decide +kernel
theorem e165_17 {ls : mj_L} {st : List Value} {σ : mj_S} {τ : mj_T} {a0 a1 a2 : Option Value} {v : Int32} : mj_E 165 17 (a0 :: a1 :: a2 :: ls) (.int v :: st) σ τ = mj_E 165 18 (a0 :: a1 :: some (.int v) :: ls) st σ τ := mj_nx i165_17 rfl
theorem i165_18 : mj_ins 165 18 = some (.iconst (0), 19) := by decide +kernel
theorem e165_18 {ls : mj_L} {st : List Value} {σ : mj_S} {τ : mj_T} : mj_E 165 18 ls st σ τ = mj_E 165 19 ls (.int (nI 0) :: st) σ τ := mj_nx i165_18 rfl
theorem i165_19 : mj_ins 165 19 = some (.istore 3, 20) := by decide +kernel
theorem e165_19 {ls : mj_L} {st : List Value} {σ : mj_S} {τ : mj_T} {a0 a1 a2 a3 : Option Value} {v : Int32} : mj_E 165 19 (a0 :: a1 :: a2 :: a3 :: ls) (.int v :: st) σ τ = mj_E 165 20 (a0 :: a1 :: a2 :: some (.int v) :: ls) st σ τ := mj_nx i165_19 rfl
theorem i165_20 : mj_ins 165 20 = some (.iconst (0), 21) := by decide +kernel
theorem e165_20 {ls : mj_L} {st : List Value} {σ : mj_S} {τ : mj_T} : mj_E 165 20 ls st σ τ = mj_E 165 21 ls (.int (nI 0) :: st) σ τ := mj_nx i165_20 rfl
theorem i165_21 : mj_ins 165 21 = some (.istore 4, 23) := by decide +kernel
theorem e165_21 {ls : mj_L} {st : List Value} {σ : mj_S} {τ : mj_T} {a0 a1 a2 a3 a4 : Option Value} {v : Int32} : mj_E 165 21 (a0 :: a1 :: a2 :: a3 :: a4 :: ls) (.int v :: st) σ τ = mj_E 165 23 (a0 :: a1 :: a2 :: a3 :: some (.int v) :: ls) st σ τ := mj_nx i165_21 rfl
theorem i165_23 : mj_ins 165 23 = some (.iconst (0), 24) := by decide +kernel
theorem e165_23 {ls : mj_L} {st : List Value} {σ : mj_S} {τ : mj_T} : mj_E 165 23 ls st σ τ = mj_E 165 24 ls (.int (nI 0) :: st) σ τ := mj_nx i165_23 rfl
theorem i165_24 : mj_ins 165 24 = some (.istore 5, 26) := by decide +kernel
theorem e165_24 {ls : mj_L} {st : List Value} {σ : mj_S} {τ : mj_T} {a0 a1 a2 a3 a4 a5 : Option Value} {v : Int32} : mj_E 165 24 (a0 :: a1 :: a2 :: a3 :: a4 :: a5 :: ls) (.int v :: st) σ τ = mj_E 165 26 (a0 :: a1 :: a2 :: a3 :: a4 :: some (.int v) :: ls) st σ τ := mj_nx i165_24 rfl
theorem i165_26 : mj_ins 165 26 = some (.iload 5, 28) := by decide +kernel
theorem e165_26 {ls : mj_L} {st : List Value} {σ : mj_S} {τ : mj_T} {a0 a1 a2 a3 a4 : Option Value} {v : Int32} : mj_E 165 26 (a0 :: a1 :: a2 :: a3 :: a4 :: some (.int v) :: ls) st σ τ = mj_E 165 28 (a0 :: a1 :: a2 :: a3 :: a4 :: some (.int v) :: ls) (.int v :: st) σ τ := mj_nx i165_26 rfl
theorem i165_28 : mj_ins 165 28 = some (.aload 0, 29) := by decide +kernel
theorem e165_28 {ls : mj_L} {st : List Value} {σ : mj_S} {τ : mj_T} {v : Nat} : mj_E 165 28 (some (.ref v) :: ls) st σ τ = mj_E 165 29 (some (.ref v) :: ls) (.ref v :: st) σ τ := mj_nx i165_28 rfl
theorem i165_29 : mj_ins 165 29 = some (.getfield 700, 32) := by decide +kernel
theorem e165_29 {ls : mj_L} {st : List Value} {σ : mj_S} {τ : mj_T} : mj_E 165 29 ls (.ref 62 :: st) σ τ = mj_E 165 32 ls (.int (σ 62 0) :: st) σ τ := mj_nx i165_29 rfl
theorem i165_32 : mj_ins 165 32 = some (.if_icmp .ge 87, 35) := by decide +kernel
theorem e165_32 {ls : mj_L} {st : List Value} {σ : mj_S} {τ : mj_T} {x y : Int32} : mj_E 165 32 ls (.int y :: .int x :: st) σ τ = if y ≤ x then mj_E 165 87 ls st σ τ else mj_E 165 35 ls st σ τ := (mj_ifi i165_32).trans (mj_cdT rfl)
theorem i165_35 : mj_ins 165 35 = some (.aload 0, 36) := by decide +kernel
theorem e165_35 {ls : mj_L} {st : List Value} {σ : mj_S} {τ : mj_T} {v : Nat} : mj_E 165 35 (some (.ref v) :: ls) st σ τ = mj_E 165 36 (some (.ref v) :: ls) (.ref v :: st) σ τ := mj_nx i165_35 rfl
theorem i165_36 : mj_ins 165 36 = some (.aload 0, 37) := by decide +kernel
theorem e165_36 {ls : mj_L} {st : List Value} {σ : mj_S} {τ : mj_T} {v : Nat} : mj_E 165 36 (some (.ref v) :: ls) st σ τ = mj_E 165 37 (some (.ref v) :: ls) (.ref v :: st) σ τ := mj_nx i165_36 rfl
theorem i165_37 : mj_ins 165 37 = some (.iload 5, 39) := by decide +kernel
theorem e165_37 {ls : mj_L} {st : List Value} {σ : mj_S} {τ : mj_T} {a0 a1 a2 a3 a4 : Option Value} {v : Int32} : mj_E 165 37 (a0 :: a1 :: a2 :: a3 :: a4 :: some (.int v) :: ls) st σ τ = mj_E 165 39 (a0 :: a1 :: a2 :: a3 :: a4 :: some (.int v) :: ls) (.int v :: st) σ τ := mj_nx i165_37 rfl
theorem i165_39 : mj_ins 165 39 = some (.iconst (2), 40) := by decide +kernel
theorem e165_39 {ls : mj_L} {st : List Value} {σ : mj_S} {τ : mj_T} : mj_E 165 39 ls st σ τ = mj_E 165 40 ls (.int (nI 2) :: st) σ τ := mj_nx i165_39 rfl
theorem i165_40 : mj_ins 165 40 = some (.invokevirtual 161, 43) := by decide +kernel
theorem e165_40 {ls : mj_L} {σ : mj_S} {τ : mj_T} {r : Nat} {x0 : Int32} {x1 : Int32} {w0 : Value} : mj_E 165 40 ls [.int x1, .int x0, .ref r, w0] σ τ = if mj_rcv r 7 = true then mj_bd (mj_C 161 [.ref r, .int x0, .int x1] σ τ) (mj_K 165 43 ls [w0]) else none := mj_clV (as := [.int x0, .int x1]) (r := [w0]) i165_40 (by decide +kernel : mj_vk 165 161 2 1 3 false = true) (by decide +kernel)
theorem i165_43 : mj_ins 165 43 = some (.invokevirtual 162, 46) := by decide +kernel
theorem e165_43 {ls : mj_L} {σ : mj_S} {τ : mj_T} {r : Nat} {x0 : Int32} : mj_E 165 43 ls [.int x0, .ref r] σ τ = if mj_rcv r 7 = true then mj_bd (mj_C 162 [.ref r, .int x0] σ τ) (mj_K 165 46 ls []) else none := mj_clV (as := [.int x0]) (r := []) i165_43 (by decide +kernel : mj_vk 165 162 1 0 2 false = true) (by decide +kernel)
theorem i165_46 : mj_ins 165 46 = some (.istore 6, 48) := by decide +kernel
theorem e165_46 {ls : mj_L} {st : List Value} {σ : mj_S} {τ : mj_T} {a0 a1 a2 a3 a4 a5 a6 : Option Value} {v : Int32} : mj_E 165 46 (a0 :: a1 :: a2 :: a3 :: a4 :: a5 :: a6 :: ls) (.int v :: st) σ τ = mj_E 165 48 (a0 :: a1 :: a2 :: a3 :: a4 :: a5 :: some (.int v) :: ls) st σ τ := mj_nx i165_46 rfl
theorem i165_48 : mj_ins 165 48 = some (.iload 6, 50) := by decide +kernel
theorem e165_48 {ls : mj_L} {st : List Value} {σ : mj_S} {τ : mj_T} {a0 a1 a2 a3 a4 a5 : Option Value} {v : Int32} : mj_E 165 48 (a0 :: a1 :: a2 :: a3 :: a4 :: a5 :: some (.int v) :: ls) st σ τ = mj_E 165 50 (a0 :: a1 :: a2 :: a3 :: a4 :: a5 :: some (.int v) :: ls) (.int v :: st) σ τ := mj_nx i165_48 rfl
theorem i165_50 : mj_ins 165 50 = some (.iload 3, 51) := by decide +kernel
theorem e165_50 {ls : mj_L} {st : List Value} {σ : mj_S} {τ : mj_T} {a0 a1 a2 : Option Value} {v : Int32} : mj_E 165 50 (a0 :: a1 :: a2 :: some (.int v) :: ls) st σ τ = mj_E 165 51 (a0 :: a1 :: a2 :: some (.int v) :: ls) (.int v :: st) σ τ := mj_nx i165_50 rfl
theorem i165_51 : mj_ins 165 51 = some (.if_icmp .le 60, 54) := by decide +kernel
theorem e165_51 {ls : mj_L} {st : List Value} {σ : mj_S} {τ : mj_T} {x y : Int32} : mj_E 165 51 ls (.int y :: .int x :: st) σ τ = if x ≤ y then mj_E 165 60 ls st σ τ else mj_E 165 54 ls st σ τ := (mj_ifi i165_51).trans (mj_cdT rfl)
theorem i165_54 : mj_ins 165 54 = some (.iload 5, 56) := by decide +kernel
theorem e165_54 {ls : mj_L} {st : List Value} {σ : mj_S} {τ : mj_T} {a0 a1 a2 a3 a4 : Option Value} {v : Int32} : mj_E 165 54 (a0 :: a1 :: a2 :: a3 :: a4 :: some (.int v) :: ls) st σ τ = mj_E 165 56 (a0 :: a1 :: a2 :: a3 :: a4 :: some (.int v) :: ls) (.int v :: st) σ τ := mj_nx i165_54 rfl
theorem i165_56 : mj_ins 165 56 = some (.istore 2, 57) := by decide +kernel
theorem e165_56 {ls : mj_L} {st : List Value} {σ : mj_S} {τ : mj_T} {a0 a1 a2 : Option Value} {v : Int32} : mj_E 165 56 (a0 :: a1 :: a2 :: ls) (.int v :: st) σ τ = mj_E 165 57 (a0 :: a1 :: some (.int v) :: ls) st σ τ := mj_nx i165_56 rfl
theorem i165_57 : mj_ins 165 57 = some (.iload 6, 59) := by decide +kernel
theorem e165_57 {ls : mj_L} {st : List Value} {σ : mj_S} {τ : mj_T} {a0 a1 a2 a3 a4 a5 : Option Value} {v : Int32} : mj_E 165 57 (a0 :: a1 :: a2 :: a3 :: a4 :: a5 :: some (.int v) :: ls) st σ τ = mj_E 165 59 (a0 :: a1 :: a2 :: a3 :: a4 :: a5 :: some (.int v) :: ls) (.int v :: st) σ τ := mj_nx i165_57 rfl
theorem i165_59 : mj_ins 165 59 = some (.istore 3, 60) := by decide +kernel
theorem e165_59 {ls : mj_L} {st : List Value} {σ : mj_S} {τ : mj_T} {a0 a1 a2 a3 : Option Value} {v : Int32} : mj_E 165 59 (a0 :: a1 :: a2 :: a3 :: ls) (.int v :: st) σ τ = mj_E 165 60 (a0 :: a1 :: a2 :: some (.int v) :: ls) st σ τ := mj_nx i165_59 rfl
theorem i165_60 : mj_ins 165 60 = some (.aload 0, 61) := by decide +kernel
theorem e165_60 {ls : mj_L} {st : List Value} {σ : mj_S} {τ : mj_T} {v : Nat} : mj_E 165 60 (some (.ref v) :: ls) st σ τ = mj_E 165 61 (some (.ref v) :: ls) (.ref v :: st) σ τ := mj_nx i165_60 rfl
theorem i165_61 : mj_ins 165 61 = some (.iload 5, 63) := by decide +kernel
theorem e165_61 {ls : mj_L} {st : List Value} {σ : mj_S} {τ : mj_T} {a0 a1 a2 a3 a4 : Option Value} {v : Int32} : mj_E 165 61 (a0 :: a1 :: a2 :: a3 :: a4 :: some (.int v) :: ls) st σ τ = mj_E 165 63 (a0 :: a1 :: a2 :: a3 :: a4 :: some (.int v) :: ls) (.int v :: st) σ τ := mj_nx i165_61 rfl
theorem i165_63 : mj_ins 165 63 = some (.invokevirtual 163, 66) := by decide +kernel
theorem e165_63 {ls : mj_L} {σ : mj_S} {τ : mj_T} {r : Nat} {x0 : Int32} : mj_E 165 63 ls [.int x0, .ref r] σ τ = if mj_rcv r 7 = true then mj_bd (mj_C 163 [.ref r, .int x0] σ τ) (mj_K 165 66 ls []) else none := mj_clV (as := [.int x0]) (r := []) i165_63 (by decide +kernel : mj_vk 165 163 1 0 2 false = true) (by decide +kernel)
theorem i165_66 : mj_ins 165 66 = some (.aload 0, 67) := by decide +kernel
theorem e165_66 {ls : mj_L} {st : List Value} {σ : mj_S} {τ : mj_T} {v : Nat} : mj_E 165 66 (some (.ref v) :: ls) st σ τ = mj_E 165 67 (some (.ref v) :: ls) (.ref v :: st) σ τ := mj_nx i165_66 rfl
theorem i165_67 : mj_ins 165 67 = some (.getfield 709, 70) := by decide +kernel
theorem e165_67 {ls : mj_L} {st : List Value} {σ : mj_S} {τ : mj_T} : mj_E 165 67 ls (.ref 62 :: st) σ τ = mj_E 165 70 ls (.ref 66 :: st) σ τ := mj_nx i165_67 rfl
theorem i165_70 : mj_ins 165 70 = some (.iload 5, 72) := by decide +kernel
theorem e165_70 {ls : mj_L} {st : List Value} {σ : mj_S} {τ : mj_T} {a0 a1 a2 a3 a4 : Option Value} {v : Int32} : mj_E 165 70 (a0 :: a1 :: a2 :: a3 :: a4 :: some (.int v) :: ls) st σ τ = mj_E 165 72 (a0 :: a1 :: a2 :: a3 :: a4 :: some (.int v) :: ls) (.int v :: st) σ τ := mj_nx i165_70 rfl
theorem i165_72 : mj_ins 165 72 = some (.iaload, 73) := by decide +kernel
theorem e165_72 {ls : mj_L} {st : List Value} {σ : mj_S} {τ : mj_T} {x : Int32} {k : Nat} : mj_E 165 72 ls (.int x :: .ref k :: st) σ τ = if mj_ib (mj_li σ k) x = true then mj_E 165 73 ls (.int (σ k x.toNatClampNeg) :: st) σ τ else none := mj_ald i165_72
theorem i165_73 : mj_ins 165 73 = some (.iconst (5), 74) := by decide +kernel
theorem e165_73 {ls : mj_L} {st : List Value} {σ : mj_S} {τ : mj_T} : mj_E 165 73 ls st σ τ = mj_E 165 74 ls (.int (nI 5) :: st) σ τ := mj_nx i165_73 rfl
theorem i165_74 : mj_ins 165 74 = some (.idiv, 75) := by decide +kernel
theorem e165_74 {ls : mj_L} {st : List Value} {σ : mj_S} {τ : mj_T} {x y : Int32} : mj_E 165 74 ls (.int y :: .int x :: st) σ τ = if y = 0 then none else mj_E 165 75 ls (.int (x / y) :: st) σ τ := mj_div i165_74
theorem i165_75 : mj_ins 165 75 = some (.if_icmp .le 81, 78) := by decide +kernel
theorem e165_75 {ls : mj_L} {st : List Value} {σ : mj_S} {τ : mj_T} {x y : Int32} : mj_E 165 75 ls (.int y :: .int x :: st) σ τ = if x ≤ y then mj_E 165 81 ls st σ τ else mj_E 165 78 ls st σ τ := (mj_ifi i165_75).trans (mj_cdT rfl)
theorem i165_78 : mj_ins 165 78 = some (.iinc 4 (1), 81) := by decide +kernel
theorem e165_78 {ls : mj_L} {st : List Value} {σ : mj_S} {τ : mj_T} {a0 a1 a2 a3 : Option Value} {v : Int32} : mj_E 165 78 (a0 :: a1 :: a2 :: a3 :: some (.int v) :: ls) st σ τ = mj_E 165 81 (a0 :: a1 :: a2 :: a3 :: some (.int (v + nI 1)) :: ls) st σ τ := mj_nx i165_78 rfl
theorem i165_81 : mj_ins 165 81 = some (.iinc 5 (1), 84) := by decide +kernel
theorem e165_81 {ls : mj_L} {st : List Value} {σ : mj_S} {τ : mj_T} {a0 a1 a2 a3 a4 : Option Value} {v : Int32} : mj_E 165 81 (a0 :: a1 :: a2 :: a3 :: a4 :: some (.int v) :: ls) st σ τ = mj_E 165 84 (a0 :: a1 :: a2 :: a3 :: a4 :: some (.int (v + nI 1)) :: ls) st σ τ := mj_nx i165_81 rfl
theorem i165_84 : mj_ins 165 84 = some (.goto 26, 87) := by decide +kernel
theorem e165_84 {ls : mj_L} {st : List Value} {σ : mj_S} {τ : mj_T} : mj_E 165 84 ls st σ τ = mj_E 165 26 ls st σ τ := mj_nx i165_84 rfl
theorem i165_87 : mj_ins 165 87 = some (.iload 1, 88) := by decide +kernel
theorem e165_87 {ls : mj_L} {st : List Value} {σ : mj_S} {τ : mj_T} {a0 : Option Value} {v : Int32} : mj_E 165 87 (a0 :: some (.int v) :: ls) st σ τ = mj_E 165 88 (a0 :: some (.int v) :: ls) (.int v :: st) σ τ := mj_nx i165_87 rfl
theorem i165_88 : mj_ins 165 88 = some (.ifCond .ne 95, 91) := by decide +kernel
theorem e165_88 {ls : mj_L} {st : List Value} {σ : mj_S} {τ : mj_T} {x : Int32} : mj_E 165 88 ls (.int x :: st) σ τ = if x = 0 then mj_E 165 91 ls st σ τ else mj_E 165 95 ls st σ τ := (mj_ifc i165_88).trans (mj_cdF rfl)
theorem i165_91 : mj_ins 165 91 = some (.iload 2, 92) := by decide +kernel
theorem e165_91 {ls : mj_L} {st : List Value} {σ : mj_S} {τ : mj_T} {a0 a1 : Option Value} {v : Int32} : mj_E 165 91 (a0 :: a1 :: some (.int v) :: ls) st σ τ = mj_E 165 92 (a0 :: a1 :: some (.int v) :: ls) (.int v :: st) σ τ := mj_nx i165_91 rfl
theorem i165_92 : mj_ins 165 92 = some (.goto 97, 95) := by decide +kernel
theorem e165_92 {ls : mj_L} {st : List Value} {σ : mj_S} {τ : mj_T} : mj_E 165 92 ls st σ τ = mj_E 165 97 ls st σ τ := mj_nx i165_92 rfl
theorem i165_95 : mj_ins 165 95 = some (.iload 4, 97) := by decide +kernel
theorem e165_95 {ls : mj_L} {st : List Value} {σ : mj_S} {τ : mj_T} {a0 a1 a2 a3 : Option Value} {v : Int32} : mj_E 165 95 (a0 :: a1 :: a2 :: a3 :: some (.int v) :: ls) st σ τ = mj_E 165 97 (a0 :: a1 :: a2 :: a3 :: some (.int v) :: ls) (.int v :: st) σ τ := mj_nx i165_95 rfl
theorem i165_97 : mj_ins 165 97 = some (.ireturn, 98) := by decide +kernel
theorem e165_97 {ls : mj_L} {σ : mj_S} {τ : mj_T} {v : Int32} : mj_E 165 97 ls [.int v] σ τ = some (some (.int v), σ, τ) := mj_irt i165_97 rfl
theorem c166 {σ : mj_S} {τ : mj_T} {r : Nat} {x0 : Int32} : mj_C 166 [.ref r, .int x0] σ τ = mj_E 166 0 [some (.ref r), some (.int x0), none, none] [] σ τ := rfl
theorem i166_0 : mj_ins 166 0 = some (.iconst (-1), 1) := by decide +kernel
theorem e166_0 {ls : mj_L} {st : List Value} {σ : mj_S} {τ : mj_T} : mj_E 166 0 ls st σ τ = mj_E 166 1 ls (.int ((-1)) :: st) σ τ := mj_nx i166_0 rfl
theorem i166_1 : mj_ins 166 1 = some (.istore 2, 2) := by decide +kernel
theorem e166_1 {ls : mj_L} {st : List Value} {σ : mj_S} {τ : mj_T} {a0 a1 a2 : Option Value} {v : Int32} : mj_E 166 1 (a0 :: a1 :: a2 :: ls) (.int v :: st) σ τ = mj_E 166 2 (a0 :: a1 :: some (.int v) :: ls) st σ τ := mj_nx i166_1 rfl
theorem i166_2 : mj_ins 166 2 = some (.iconst (0), 3) := by decide +kernel
theorem e166_2 {ls : mj_L} {st : List Value} {σ : mj_S} {τ : mj_T} : mj_E 166 2 ls st σ τ = mj_E 166 3 ls (.int (nI 0) :: st) σ τ := mj_nx i166_2 rfl
theorem i166_3 : mj_ins 166 3 = some (.istore 3, 4) := by decide +kernel
theorem e166_3 {ls : mj_L} {st : List Value} {σ : mj_S} {τ : mj_T} {a0 a1 a2 a3 : Option Value} {v : Int32} : mj_E 166 3 (a0 :: a1 :: a2 :: a3 :: ls) (.int v :: st) σ τ = mj_E 166 4 (a0 :: a1 :: a2 :: some (.int v) :: ls) st σ τ := mj_nx i166_3 rfl
theorem i166_4 : mj_ins 166 4 = some (.iload 3, 5) := by decide +kernel
theorem e166_4 {ls : mj_L} {st : List Value} {σ : mj_S} {τ : mj_T} {a0 a1 a2 : Option Value} {v : Int32} : mj_E 166 4 (a0 :: a1 :: a2 :: some (.int v) :: ls) st σ τ = mj_E 166 5 (a0 :: a1 :: a2 :: some (.int v) :: ls) (.int v :: st) σ τ := mj_nx i166_4 rfl
theorem i166_5 : mj_ins 166 5 = some (.aload 0, 6) := by decide +kernel
theorem e166_5 {ls : mj_L} {st : List Value} {σ : mj_S} {τ : mj_T} {v : Nat} : mj_E 166 5 (some (.ref v) :: ls) st σ τ = mj_E 166 6 (some (.ref v) :: ls) (.ref v :: st) σ τ := mj_nx i166_5 rfl
theorem i166_6 : mj_ins 166 6 = some (.getfield 700, 9) := by decide +kernel
theorem e166_6 {ls : mj_L} {st : List Value} {σ : mj_S} {τ : mj_T} : mj_E 166 6 ls (.ref 62 :: st) σ τ = mj_E 166 9 ls (.int (σ 62 0) :: st) σ τ := mj_nx i166_6 rfl
theorem i166_9 : mj_ins 166 9 = some (.if_icmp .ge 71, 12) := by decide +kernel
theorem e166_9 {ls : mj_L} {st : List Value} {σ : mj_S} {τ : mj_T} {x y : Int32} : mj_E 166 9 ls (.int y :: .int x :: st) σ τ = if y ≤ x then mj_E 166 71 ls st σ τ else mj_E 166 12 ls st σ τ := (mj_ifi i166_9).trans (mj_cdT rfl)
theorem i166_12 : mj_ins 166 12 = some (.aload 0, 13) := by decide +kernel
theorem e166_12 {ls : mj_L} {st : List Value} {σ : mj_S} {τ : mj_T} {v : Nat} : mj_E 166 12 (some (.ref v) :: ls) st σ τ = mj_E 166 13 (some (.ref v) :: ls) (.ref v :: st) σ τ := mj_nx i166_12 rfl
theorem i166_13 : mj_ins 166 13 = some (.getfield 715, 16) := by decide +kernel
theorem e166_13 {ls : mj_L} {st : List Value} {σ : mj_S} {τ : mj_T} : mj_E 166 13 ls (.ref 62 :: st) σ τ = mj_E 166 16 ls (.ref 72 :: st) σ τ := mj_nx i166_13 rfl
theorem i166_16 : mj_ins 166 16 = some (.iload 1, 17) := by decide +kernel
theorem e166_16 {ls : mj_L} {st : List Value} {σ : mj_S} {τ : mj_T} {a0 : Option Value} {v : Int32} : mj_E 166 16 (a0 :: some (.int v) :: ls) st σ τ = mj_E 166 17 (a0 :: some (.int v) :: ls) (.int v :: st) σ τ := mj_nx i166_16 rfl
theorem i166_17 : mj_ins 166 17 = some (.iaload, 18) := by decide +kernel
theorem e166_17 {ls : mj_L} {st : List Value} {σ : mj_S} {τ : mj_T} {x : Int32} {k : Nat} : mj_E 166 17 ls (.int x :: .ref k :: st) σ τ = if mj_ib (mj_li σ k) x = true then mj_E 166 18 ls (.int (σ k x.toNatClampNeg) :: st) σ τ else none := mj_ald i166_17
theorem i166_18 : mj_ins 166 18 = some (.iload 3, 19) := by decide +kernel
theorem e166_18 {ls : mj_L} {st : List Value} {σ : mj_S} {τ : mj_T} {a0 a1 a2 : Option Value} {v : Int32} : mj_E 166 18 (a0 :: a1 :: a2 :: some (.int v) :: ls) st σ τ = mj_E 166 19 (a0 :: a1 :: a2 :: some (.int v) :: ls) (.int v :: st) σ τ := mj_nx i166_18 rfl
theorem i166_19 : mj_ins 166 19 = some (.ishr, 20) := by decide +kernel
theorem e166_19 {ls : mj_L} {st : List Value} {σ : mj_S} {τ : mj_T} {x y : Int32} : mj_E 166 19 ls (.int y :: .int x :: st) σ τ = mj_E 166 20 ls (.int (x >>> (y &&& 31)) :: st) σ τ := mj_nx i166_19 rfl
theorem i166_20 : mj_ins 166 20 = some (.iconst (1), 21) := by decide +kernel
theorem e166_20 {ls : mj_L} {st : List Value} {σ : mj_S} {τ : mj_T} : mj_E 166 20 ls st σ τ = mj_E 166 21 ls (.int (nI 1) :: st) σ τ := mj_nx i166_20 rfl
theorem i166_21 : mj_ins 166 21 = some (.iand, 22) := by decide +kernel
theorem e166_21 {ls : mj_L} {st : List Value} {σ : mj_S} {τ : mj_T} {x y : Int32} : mj_E 166 21 ls (.int y :: .int x :: st) σ τ = mj_E 166 22 ls (.int (x &&& y) :: st) σ τ := mj_nx i166_21 rfl
theorem i166_22 : mj_ins 166 22 = some (.iconst (1), 23) := by decide +kernel
theorem e166_22 {ls : mj_L} {st : List Value} {σ : mj_S} {τ : mj_T} : mj_E 166 22 ls st σ τ = mj_E 166 23 ls (.int (nI 1) :: st) σ τ := mj_nx i166_22 rfl
theorem i166_23 : mj_ins 166 23 = some (.if_icmp .eq 65, 26) := by decide +kernel
theorem e166_23 {ls : mj_L} {st : List Value} {σ : mj_S} {τ : mj_T} {x y : Int32} : mj_E 166 23 ls (.int y :: .int x :: st) σ τ = if x = y then mj_E 166 65 ls st σ τ else mj_E 166 26 ls st σ τ := (mj_ifi i166_23).trans (mj_cdT rfl)
theorem i166_26 : mj_ins 166 26 = some (.aload 0, 27) := by decide +kernel
theorem e166_26 {ls : mj_L} {st : List Value} {σ : mj_S} {τ : mj_T} {v : Nat} : mj_E 166 26 (some (.ref v) :: ls) st σ τ = mj_E 166 27 (some (.ref v) :: ls) (.ref v :: st) σ τ := mj_nx i166_26 rfl
theorem i166_27 : mj_ins 166 27 = some (.getfield 739, 30) := by decide +kernel
theorem e166_27 {ls : mj_L} {st : List Value} {σ : mj_S} {τ : mj_T} : mj_E 166 27 ls (.ref 62 :: st) σ τ = mj_E 166 30 ls (.ref 88 :: st) σ τ := mj_nx i166_27 rfl
theorem i166_30 : mj_ins 166 30 = some (.iload 1, 31) := by decide +kernel
theorem e166_30 {ls : mj_L} {st : List Value} {σ : mj_S} {τ : mj_T} {a0 : Option Value} {v : Int32} : mj_E 166 30 (a0 :: some (.int v) :: ls) st σ τ = mj_E 166 31 (a0 :: some (.int v) :: ls) (.int v :: st) σ τ := mj_nx i166_30 rfl
theorem i166_31 : mj_ins 166 31 = some (.iaload, 32) := by decide +kernel
theorem e166_31 {ls : mj_L} {st : List Value} {σ : mj_S} {τ : mj_T} {x : Int32} {k : Nat} : mj_E 166 31 ls (.int x :: .ref k :: st) σ τ = if mj_ib (mj_li σ k) x = true then mj_E 166 32 ls (.int (σ k x.toNatClampNeg) :: st) σ τ else none := mj_ald i166_31
theorem i166_32 : mj_ins 166 32 = some (.iload 3, 33) := by decide +kernel
theorem e166_32 {ls : mj_L} {st : List Value} {σ : mj_S} {τ : mj_T} {a0 a1 a2 : Option Value} {v : Int32} : mj_E 166 32 (a0 :: a1 :: a2 :: some (.int v) :: ls) st σ τ = mj_E 166 33 (a0 :: a1 :: a2 :: some (.int v) :: ls) (.int v :: st) σ τ := mj_nx i166_32 rfl
theorem i166_33 : mj_ins 166 33 = some (.ishr, 34) := by decide +kernel
theorem e166_33 {ls : mj_L} {st : List Value} {σ : mj_S} {τ : mj_T} {x y : Int32} : mj_E 166 33 ls (.int y :: .int x :: st) σ τ = mj_E 166 34 ls (.int (x >>> (y &&& 31)) :: st) σ τ := mj_nx i166_33 rfl
theorem i166_34 : mj_ins 166 34 = some (.iconst (1), 35) := by decide +kernel
theorem e166_34 {ls : mj_L} {st : List Value} {σ : mj_S} {τ : mj_T} : mj_E 166 34 ls st σ τ = mj_E 166 35 ls (.int (nI 1) :: st) σ τ := mj_nx i166_34 rfl
theorem i166_35 : mj_ins 166 35 = some (.iand, 36) := by decide +kernel
theorem e166_35 {ls : mj_L} {st : List Value} {σ : mj_S} {τ : mj_T} {x y : Int32} : mj_E 166 35 ls (.int y :: .int x :: st) σ τ = mj_E 166 36 ls (.int (x &&& y) :: st) σ τ := mj_nx i166_35 rfl
theorem i166_36 : mj_ins 166 36 = some (.iconst (1), 37) := by decide +kernel
theorem e166_36 {ls : mj_L} {st : List Value} {σ : mj_S} {τ : mj_T} : mj_E 166 36 ls st σ τ = mj_E 166 37 ls (.int (nI 1) :: st) σ τ := mj_nx i166_36 rfl
theorem i166_37 : mj_ins 166 37 = some (.if_icmp .ne 43, 40) := by decide +kernel
theorem e166_37 {ls : mj_L} {st : List Value} {σ : mj_S} {τ : mj_T} {x y : Int32} : mj_E 166 37 ls (.int y :: .int x :: st) σ τ = if x = y then mj_E 166 40 ls st σ τ else mj_E 166 43 ls st σ τ := (mj_ifi i166_37).trans (mj_cdF rfl)
theorem i166_40 : mj_ins 166 40 = some (.goto 65, 43) := by decide +kernel
theorem e166_40 {ls : mj_L} {st : List Value} {σ : mj_S} {τ : mj_T} : mj_E 166 40 ls st σ τ = mj_E 166 65 ls st σ τ := mj_nx i166_40 rfl
theorem i166_43 : mj_ins 166 43 = some (.iload 2, 44) := by decide +kernel
theorem e166_43 {ls : mj_L} {st : List Value} {σ : mj_S} {τ : mj_T} {a0 a1 : Option Value} {v : Int32} : mj_E 166 43 (a0 :: a1 :: some (.int v) :: ls) st σ τ = mj_E 166 44 (a0 :: a1 :: some (.int v) :: ls) (.int v :: st) σ τ := mj_nx i166_43 rfl
theorem i166_44 : mj_ins 166 44 = some (.iconst (-1), 45) := by decide +kernel
theorem e166_44 {ls : mj_L} {st : List Value} {σ : mj_S} {τ : mj_T} : mj_E 166 44 ls st σ τ = mj_E 166 45 ls (.int ((-1)) :: st) σ τ := mj_nx i166_44 rfl
theorem i166_45 : mj_ins 166 45 = some (.if_icmp .eq 63, 48) := by decide +kernel
theorem e166_45 {ls : mj_L} {st : List Value} {σ : mj_S} {τ : mj_T} {x y : Int32} : mj_E 166 45 ls (.int y :: .int x :: st) σ τ = if x = y then mj_E 166 63 ls st σ τ else mj_E 166 48 ls st σ τ := (mj_ifi i166_45).trans (mj_cdT rfl)
theorem i166_48 : mj_ins 166 48 = some (.aload 0, 49) := by decide +kernel
theorem e166_48 {ls : mj_L} {st : List Value} {σ : mj_S} {τ : mj_T} {v : Nat} : mj_E 166 48 (some (.ref v) :: ls) st σ τ = mj_E 166 49 (some (.ref v) :: ls) (.ref v :: st) σ τ := mj_nx i166_48 rfl
theorem i166_49 : mj_ins 166 49 = some (.iload 1, 50) := by decide +kernel
theorem e166_49 {ls : mj_L} {st : List Value} {σ : mj_S} {τ : mj_T} {a0 : Option Value} {v : Int32} : mj_E 166 49 (a0 :: some (.int v) :: ls) st σ τ = mj_E 166 50 (a0 :: some (.int v) :: ls) (.int v :: st) σ τ := mj_nx i166_49 rfl
theorem i166_50 : mj_ins 166 50 = some (.iload 3, 51) := by decide +kernel
theorem e166_50 {ls : mj_L} {st : List Value} {σ : mj_S} {τ : mj_T} {a0 a1 a2 : Option Value} {v : Int32} : mj_E 166 50 (a0 :: a1 :: a2 :: some (.int v) :: ls) st σ τ = mj_E 166 51 (a0 :: a1 :: a2 :: some (.int v) :: ls) (.int v :: st) σ τ := mj_nx i166_50 rfl
theorem i166_51 : mj_ins 166 51 = some (.invokevirtual 156, 54) := by decide +kernel
theorem e166_51 {ls : mj_L} {σ : mj_S} {τ : mj_T} {r : Nat} {x0 : Int32} {x1 : Int32} : mj_E 166 51 ls [.int x1, .int x0, .ref r] σ τ = if mj_rcv r 7 = true then mj_bd (mj_C 156 [.ref r, .int x0, .int x1] σ τ) (mj_K 166 54 ls []) else none := mj_clV (as := [.int x0, .int x1]) (r := []) i166_51 (by decide +kernel : mj_vk 166 156 2 0 3 false = true) (by decide +kernel)
theorem i166_54 : mj_ins 166 54 = some (.aload 0, 55) := by decide +kernel
theorem e166_54 {ls : mj_L} {st : List Value} {σ : mj_S} {τ : mj_T} {v : Nat} : mj_E 166 54 (some (.ref v) :: ls) st σ τ = mj_E 166 55 (some (.ref v) :: ls) (.ref v :: st) σ τ := mj_nx i166_54 rfl
theorem i166_55 : mj_ins 166 55 = some (.iload 1, 56) := by decide +kernel
theorem e166_55 {ls : mj_L} {st : List Value} {σ : mj_S} {τ : mj_T} {a0 : Option Value} {v : Int32} : mj_E 166 55 (a0 :: some (.int v) :: ls) st σ τ = mj_E 166 56 (a0 :: some (.int v) :: ls) (.int v :: st) σ τ := mj_nx i166_55 rfl
theorem i166_56 : mj_ins 166 56 = some (.iload 2, 57) := by decide +kernel
theorem e166_56 {ls : mj_L} {st : List Value} {σ : mj_S} {τ : mj_T} {a0 a1 : Option Value} {v : Int32} : mj_E 166 56 (a0 :: a1 :: some (.int v) :: ls) st σ τ = mj_E 166 57 (a0 :: a1 :: some (.int v) :: ls) (.int v :: st) σ τ := mj_nx i166_56 rfl
theorem i166_57 : mj_ins 166 57 = some (.invokevirtual 156, 60) := by decide +kernel
theorem e166_57 {ls : mj_L} {σ : mj_S} {τ : mj_T} {r : Nat} {x0 : Int32} {x1 : Int32} {w0 : Value} : mj_E 166 57 ls [.int x1, .int x0, .ref r, w0] σ τ = if mj_rcv r 7 = true then mj_bd (mj_C 156 [.ref r, .int x0, .int x1] σ τ) (mj_K 166 60 ls [w0]) else none := mj_clV (as := [.int x0, .int x1]) (r := [w0]) i166_57 (by decide +kernel : mj_vk 166 156 2 1 3 false = true) (by decide +kernel)
theorem i166_60 : mj_ins 166 60 = some (.if_icmp .le 65, 63) := by decide +kernel
theorem e166_60 {ls : mj_L} {st : List Value} {σ : mj_S} {τ : mj_T} {x y : Int32} : mj_E 166 60 ls (.int y :: .int x :: st) σ τ = if x ≤ y then mj_E 166 65 ls st σ τ else mj_E 166 63 ls st σ τ := (mj_ifi i166_60).trans (mj_cdT rfl)
theorem i166_63 : mj_ins 166 63 = some (.iload 3, 64) := by decide +kernel
theorem e166_63 {ls : mj_L} {st : List Value} {σ : mj_S} {τ : mj_T} {a0 a1 a2 : Option Value} {v : Int32} : mj_E 166 63 (a0 :: a1 :: a2 :: some (.int v) :: ls) st σ τ = mj_E 166 64 (a0 :: a1 :: a2 :: some (.int v) :: ls) (.int v :: st) σ τ := mj_nx i166_63 rfl
theorem i166_64 : mj_ins 166 64 = some (.istore 2, 65) := by decide +kernel
theorem e166_64 {ls : mj_L} {st : List Value} {σ : mj_S} {τ : mj_T} {a0 a1 a2 : Option Value} {v : Int32} : mj_E 166 64 (a0 :: a1 :: a2 :: ls) (.int v :: st) σ τ = mj_E 166 65 (a0 :: a1 :: some (.int v) :: ls) st σ τ := mj_nx i166_64 rfl
theorem i166_65 : mj_ins 166 65 = some (.iinc 3 (1), 68) := by decide +kernel
theorem e166_65 {ls : mj_L} {st : List Value} {σ : mj_S} {τ : mj_T} {a0 a1 a2 : Option Value} {v : Int32} : mj_E 166 65 (a0 :: a1 :: a2 :: some (.int v) :: ls) st σ τ = mj_E 166 68 (a0 :: a1 :: a2 :: some (.int (v + nI 1)) :: ls) st σ τ := mj_nx i166_65 rfl
theorem i166_68 : mj_ins 166 68 = some (.goto 4, 71) := by decide +kernel
theorem e166_68 {ls : mj_L} {st : List Value} {σ : mj_S} {τ : mj_T} : mj_E 166 68 ls st σ τ = mj_E 166 4 ls st σ τ := mj_nx i166_68 rfl
theorem i166_71 : mj_ins 166 71 = some (.iload 2, 72) := by decide +kernel
theorem e166_71 {ls : mj_L} {st : List Value} {σ : mj_S} {τ : mj_T} {a0 a1 : Option Value} {v : Int32} : mj_E 166 71 (a0 :: a1 :: some (.int v) :: ls) st σ τ = mj_E 166 72 (a0 :: a1 :: some (.int v) :: ls) (.int v :: st) σ τ := mj_nx i166_71 rfl
theorem i166_72 : mj_ins 166 72 = some (.ireturn, 73) := by decide +kernel
theorem e166_72 {ls : mj_L} {σ : mj_S} {τ : mj_T} {v : Int32} : mj_E 166 72 ls [.int v] σ τ = some (some (.int v), σ, τ) := mj_irt i166_72 rfl
theorem c167 {σ : mj_S} {τ : mj_T} {r : Nat} {x0 : Int32} : mj_C 167 [.ref r, .int x0] σ τ = mj_E 167 0 [some (.ref r), some (.int x0), none, none] [] σ τ := rfl
theorem i167_0 : mj_ins 167 0 = some (.iconst (-1), 1) := by decide +kernel
theorem e167_0 {ls : mj_L} {st : List Value} {σ : mj_S} {τ : mj_T} : mj_E 167 0 ls st σ τ = mj_E 167 1 ls (.int ((-1)) :: st) σ τ := mj_nx i167_0 rfl
theorem i167_1 : mj_ins 167 1 = some (.istore 2, 2) := by decide +kernel
theorem e167_1 {ls : mj_L} {st : List Value} {σ : mj_S} {τ : mj_T} {a0 a1 a2 : Option Value} {v : Int32} : mj_E 167 1 (a0 :: a1 :: a2 :: ls) (.int v :: st) σ τ = mj_E 167 2 (a0 :: a1 :: some (.int v) :: ls) st σ τ := mj_nx i167_1 rfl
theorem i167_2 : mj_ins 167 2 = some (.iconst (0), 3) := by decide +kernel
theorem e167_2 {ls : mj_L} {st : List Value} {σ : mj_S} {τ : mj_T} : mj_E 167 2 ls st σ τ = mj_E 167 3 ls (.int (nI 0) :: st) σ τ := mj_nx i167_2 rfl
theorem i167_3 : mj_ins 167 3 = some (.istore 3, 4) := by decide +kernel
theorem e167_3 {ls : mj_L} {st : List Value} {σ : mj_S} {τ : mj_T} {a0 a1 a2 a3 : Option Value} {v : Int32} : mj_E 167 3 (a0 :: a1 :: a2 :: a3 :: ls) (.int v :: st) σ τ = mj_E 167 4 (a0 :: a1 :: a2 :: some (.int v) :: ls) st σ τ := mj_nx i167_3 rfl
theorem i167_4 : mj_ins 167 4 = some (.iload 3, 5) := by decide +kernel
theorem e167_4 {ls : mj_L} {st : List Value} {σ : mj_S} {τ : mj_T} {a0 a1 a2 : Option Value} {v : Int32} : mj_E 167 4 (a0 :: a1 :: a2 :: some (.int v) :: ls) st σ τ = mj_E 167 5 (a0 :: a1 :: a2 :: some (.int v) :: ls) (.int v :: st) σ τ := mj_nx i167_4 rfl
theorem i167_5 : mj_ins 167 5 = some (.aload 0, 6) := by decide +kernel
theorem e167_5 {ls : mj_L} {st : List Value} {σ : mj_S} {τ : mj_T} {v : Nat} : mj_E 167 5 (some (.ref v) :: ls) st σ τ = mj_E 167 6 (some (.ref v) :: ls) (.ref v :: st) σ τ := mj_nx i167_5 rfl
theorem i167_6 : mj_ins 167 6 = some (.getfield 701, 9) := by decide +kernel
theorem e167_6 {ls : mj_L} {st : List Value} {σ : mj_S} {τ : mj_T} : mj_E 167 6 ls (.ref 62 :: st) σ τ = mj_E 167 9 ls (.int (σ 62 1) :: st) σ τ := mj_nx i167_6 rfl
theorem i167_9 : mj_ins 167 9 = some (.if_icmp .ge 60, 12) := by decide +kernel
theorem e167_9 {ls : mj_L} {st : List Value} {σ : mj_S} {τ : mj_T} {x y : Int32} : mj_E 167 9 ls (.int y :: .int x :: st) σ τ = if y ≤ x then mj_E 167 60 ls st σ τ else mj_E 167 12 ls st σ τ := (mj_ifi i167_9).trans (mj_cdT rfl)
theorem i167_12 : mj_ins 167 12 = some (.aload 0, 13) := by decide +kernel
theorem e167_12 {ls : mj_L} {st : List Value} {σ : mj_S} {τ : mj_T} {v : Nat} : mj_E 167 12 (some (.ref v) :: ls) st σ τ = mj_E 167 13 (some (.ref v) :: ls) (.ref v :: st) σ τ := mj_nx i167_12 rfl
theorem i167_13 : mj_ins 167 13 = some (.getfield 738, 16) := by decide +kernel
theorem e167_13 {ls : mj_L} {st : List Value} {σ : mj_S} {τ : mj_T} : mj_E 167 13 ls (.ref 62 :: st) σ τ = mj_E 167 16 ls (.ref 87 :: st) σ τ := mj_nx i167_13 rfl
theorem i167_16 : mj_ins 167 16 = some (.iload 3, 17) := by decide +kernel
theorem e167_16 {ls : mj_L} {st : List Value} {σ : mj_S} {τ : mj_T} {a0 a1 a2 : Option Value} {v : Int32} : mj_E 167 16 (a0 :: a1 :: a2 :: some (.int v) :: ls) st σ τ = mj_E 167 17 (a0 :: a1 :: a2 :: some (.int v) :: ls) (.int v :: st) σ τ := mj_nx i167_16 rfl
theorem i167_17 : mj_ins 167 17 = some (.iaload, 18) := by decide +kernel
theorem e167_17 {ls : mj_L} {st : List Value} {σ : mj_S} {τ : mj_T} {x : Int32} {k : Nat} : mj_E 167 17 ls (.int x :: .ref k :: st) σ τ = if mj_ib (mj_li σ k) x = true then mj_E 167 18 ls (.int (σ k x.toNatClampNeg) :: st) σ τ else none := mj_ald i167_17
theorem i167_18 : mj_ins 167 18 = some (.iload 1, 19) := by decide +kernel
theorem e167_18 {ls : mj_L} {st : List Value} {σ : mj_S} {τ : mj_T} {a0 : Option Value} {v : Int32} : mj_E 167 18 (a0 :: some (.int v) :: ls) st σ τ = mj_E 167 19 (a0 :: some (.int v) :: ls) (.int v :: st) σ τ := mj_nx i167_18 rfl
theorem i167_19 : mj_ins 167 19 = some (.if_icmp .ne 54, 22) := by decide +kernel
theorem e167_19 {ls : mj_L} {st : List Value} {σ : mj_S} {τ : mj_T} {x y : Int32} : mj_E 167 19 ls (.int y :: .int x :: st) σ τ = if x = y then mj_E 167 22 ls st σ τ else mj_E 167 54 ls st σ τ := (mj_ifi i167_19).trans (mj_cdF rfl)
theorem i167_22 : mj_ins 167 22 = some (.iload 2, 23) := by decide +kernel
theorem e167_22 {ls : mj_L} {st : List Value} {σ : mj_S} {τ : mj_T} {a0 a1 : Option Value} {v : Int32} : mj_E 167 22 (a0 :: a1 :: some (.int v) :: ls) st σ τ = mj_E 167 23 (a0 :: a1 :: some (.int v) :: ls) (.int v :: st) σ τ := mj_nx i167_22 rfl
theorem i167_23 : mj_ins 167 23 = some (.iconst (-1), 24) := by decide +kernel
theorem e167_23 {ls : mj_L} {st : List Value} {σ : mj_S} {τ : mj_T} : mj_E 167 23 ls st σ τ = mj_E 167 24 ls (.int ((-1)) :: st) σ τ := mj_nx i167_23 rfl
theorem i167_24 : mj_ins 167 24 = some (.if_icmp .eq 52, 27) := by decide +kernel
theorem e167_24 {ls : mj_L} {st : List Value} {σ : mj_S} {τ : mj_T} {x y : Int32} : mj_E 167 24 ls (.int y :: .int x :: st) σ τ = if x = y then mj_E 167 52 ls st σ τ else mj_E 167 27 ls st σ τ := (mj_ifi i167_24).trans (mj_cdT rfl)
theorem i167_27 : mj_ins 167 27 = some (.aload 0, 28) := by decide +kernel
theorem e167_27 {ls : mj_L} {st : List Value} {σ : mj_S} {τ : mj_T} {v : Nat} : mj_E 167 27 (some (.ref v) :: ls) st σ τ = mj_E 167 28 (some (.ref v) :: ls) (.ref v :: st) σ τ := mj_nx i167_27 rfl
theorem i167_28 : mj_ins 167 28 = some (.getfield 716, 31) := by decide +kernel
theorem e167_28 {ls : mj_L} {st : List Value} {σ : mj_S} {τ : mj_T} : mj_E 167 28 ls (.ref 62 :: st) σ τ = mj_E 167 31 ls (.ref 73 :: st) σ τ := mj_nx i167_28 rfl
theorem i167_31 : mj_ins 167 31 = some (.iconst (8), 33) := by decide +kernel
theorem e167_31 {ls : mj_L} {st : List Value} {σ : mj_S} {τ : mj_T} : mj_E 167 31 ls st σ τ = mj_E 167 33 ls (.int (nI 8) :: st) σ τ := mj_nx i167_31 rfl
theorem i167_33 : mj_ins 167 33 = some (.iload 3, 34) := by decide +kernel
theorem e167_33 {ls : mj_L} {st : List Value} {σ : mj_S} {τ : mj_T} {a0 a1 a2 : Option Value} {v : Int32} : mj_E 167 33 (a0 :: a1 :: a2 :: some (.int v) :: ls) st σ τ = mj_E 167 34 (a0 :: a1 :: a2 :: some (.int v) :: ls) (.int v :: st) σ τ := mj_nx i167_33 rfl
theorem i167_34 : mj_ins 167 34 = some (.imul, 35) := by decide +kernel
theorem e167_34 {ls : mj_L} {st : List Value} {σ : mj_S} {τ : mj_T} {x y : Int32} : mj_E 167 34 ls (.int y :: .int x :: st) σ τ = mj_E 167 35 ls (.int (x * y) :: st) σ τ := mj_nx i167_34 rfl
theorem i167_35 : mj_ins 167 35 = some (.iload 1, 36) := by decide +kernel
theorem e167_35 {ls : mj_L} {st : List Value} {σ : mj_S} {τ : mj_T} {a0 : Option Value} {v : Int32} : mj_E 167 35 (a0 :: some (.int v) :: ls) st σ τ = mj_E 167 36 (a0 :: some (.int v) :: ls) (.int v :: st) σ τ := mj_nx i167_35 rfl
theorem i167_36 : mj_ins 167 36 = some (.iadd, 37) := by decide +kernel
theorem e167_36 {ls : mj_L} {st : List Value} {σ : mj_S} {τ : mj_T} {x y : Int32} : mj_E 167 36 ls (.int y :: .int x :: st) σ τ = mj_E 167 37 ls (.int (x + y) :: st) σ τ := mj_nx i167_36 rfl
theorem i167_37 : mj_ins 167 37 = some (.iaload, 38) := by decide +kernel
theorem e167_37 {ls : mj_L} {st : List Value} {σ : mj_S} {τ : mj_T} {x : Int32} {k : Nat} : mj_E 167 37 ls (.int x :: .ref k :: st) σ τ = if mj_ib (mj_li σ k) x = true then mj_E 167 38 ls (.int (σ k x.toNatClampNeg) :: st) σ τ else none := mj_ald i167_37
theorem i167_38 : mj_ins 167 38 = some (.aload 0, 39) := by decide +kernel
theorem e167_38 {ls : mj_L} {st : List Value} {σ : mj_S} {τ : mj_T} {v : Nat} : mj_E 167 38 (some (.ref v) :: ls) st σ τ = mj_E 167 39 (some (.ref v) :: ls) (.ref v :: st) σ τ := mj_nx i167_38 rfl
theorem i167_39 : mj_ins 167 39 = some (.getfield 716, 42) := by decide +kernel
theorem e167_39 {ls : mj_L} {st : List Value} {σ : mj_S} {τ : mj_T} : mj_E 167 39 ls (.ref 62 :: st) σ τ = mj_E 167 42 ls (.ref 73 :: st) σ τ := mj_nx i167_39 rfl
theorem i167_42 : mj_ins 167 42 = some (.iconst (8), 44) := by decide +kernel
theorem e167_42 {ls : mj_L} {st : List Value} {σ : mj_S} {τ : mj_T} : mj_E 167 42 ls st σ τ = mj_E 167 44 ls (.int (nI 8) :: st) σ τ := mj_nx i167_42 rfl
theorem i167_44 : mj_ins 167 44 = some (.iload 2, 45) := by decide +kernel
theorem e167_44 {ls : mj_L} {st : List Value} {σ : mj_S} {τ : mj_T} {a0 a1 : Option Value} {v : Int32} : mj_E 167 44 (a0 :: a1 :: some (.int v) :: ls) st σ τ = mj_E 167 45 (a0 :: a1 :: some (.int v) :: ls) (.int v :: st) σ τ := mj_nx i167_44 rfl
theorem i167_45 : mj_ins 167 45 = some (.imul, 46) := by decide +kernel
theorem e167_45 {ls : mj_L} {st : List Value} {σ : mj_S} {τ : mj_T} {x y : Int32} : mj_E 167 45 ls (.int y :: .int x :: st) σ τ = mj_E 167 46 ls (.int (x * y) :: st) σ τ := mj_nx i167_45 rfl
theorem i167_46 : mj_ins 167 46 = some (.iload 1, 47) := by decide +kernel
theorem e167_46 {ls : mj_L} {st : List Value} {σ : mj_S} {τ : mj_T} {a0 : Option Value} {v : Int32} : mj_E 167 46 (a0 :: some (.int v) :: ls) st σ τ = mj_E 167 47 (a0 :: some (.int v) :: ls) (.int v :: st) σ τ := mj_nx i167_46 rfl
theorem i167_47 : mj_ins 167 47 = some (.iadd, 48) := by decide +kernel
theorem e167_47 {ls : mj_L} {st : List Value} {σ : mj_S} {τ : mj_T} {x y : Int32} : mj_E 167 47 ls (.int y :: .int x :: st) σ τ = mj_E 167 48 ls (.int (x + y) :: st) σ τ := mj_nx i167_47 rfl
theorem i167_48 : mj_ins 167 48 = some (.iaload, 49) := by decide +kernel
theorem e167_48 {ls : mj_L} {st : List Value} {σ : mj_S} {τ : mj_T} {x : Int32} {k : Nat} : mj_E 167 48 ls (.int x :: .ref k :: st) σ τ = if mj_ib (mj_li σ k) x = true then mj_E 167 49 ls (.int (σ k x.toNatClampNeg) :: st) σ τ else none := mj_ald i167_48
theorem i167_49 : mj_ins 167 49 = some (.if_icmp .gt 54, 52) := by decide +kernel
theorem e167_49 {ls : mj_L} {st : List Value} {σ : mj_S} {τ : mj_T} {x y : Int32} : mj_E 167 49 ls (.int y :: .int x :: st) σ τ = if y < x then mj_E 167 54 ls st σ τ else mj_E 167 52 ls st σ τ := (mj_ifi i167_49).trans (mj_cdT rfl)
theorem i167_52 : mj_ins 167 52 = some (.iload 3, 53) := by decide +kernel
theorem e167_52 {ls : mj_L} {st : List Value} {σ : mj_S} {τ : mj_T} {a0 a1 a2 : Option Value} {v : Int32} : mj_E 167 52 (a0 :: a1 :: a2 :: some (.int v) :: ls) st σ τ = mj_E 167 53 (a0 :: a1 :: a2 :: some (.int v) :: ls) (.int v :: st) σ τ := mj_nx i167_52 rfl
theorem i167_53 : mj_ins 167 53 = some (.istore 2, 54) := by decide +kernel
theorem e167_53 {ls : mj_L} {st : List Value} {σ : mj_S} {τ : mj_T} {a0 a1 a2 : Option Value} {v : Int32} : mj_E 167 53 (a0 :: a1 :: a2 :: ls) (.int v :: st) σ τ = mj_E 167 54 (a0 :: a1 :: some (.int v) :: ls) st σ τ := mj_nx i167_53 rfl
theorem i167_54 : mj_ins 167 54 = some (.iinc 3 (1), 57) := by decide +kernel
theorem e167_54 {ls : mj_L} {st : List Value} {σ : mj_S} {τ : mj_T} {a0 a1 a2 : Option Value} {v : Int32} : mj_E 167 54 (a0 :: a1 :: a2 :: some (.int v) :: ls) st σ τ = mj_E 167 57 (a0 :: a1 :: a2 :: some (.int (v + nI 1)) :: ls) st σ τ := mj_nx i167_54 rfl
theorem i167_57 : mj_ins 167 57 = some (.goto 4, 60) := by decide +kernel
theorem e167_57 {ls : mj_L} {st : List Value} {σ : mj_S} {τ : mj_T} : mj_E 167 57 ls st σ τ = mj_E 167 4 ls st σ τ := mj_nx i167_57 rfl
theorem i167_60 : mj_ins 167 60 = some (.iload 2, 61) := by decide +kernel
theorem e167_60 {ls : mj_L} {st : List Value} {σ : mj_S} {τ : mj_T} {a0 a1 : Option Value} {v : Int32} : mj_E 167 60 (a0 :: a1 :: some (.int v) :: ls) st σ τ = mj_E 167 61 (a0 :: a1 :: some (.int v) :: ls) (.int v :: st) σ τ := mj_nx i167_60 rfl
theorem i167_61 : mj_ins 167 61 = some (.ireturn, 62) := by decide +kernel
theorem e167_61 {ls : mj_L} {σ : mj_S} {τ : mj_T} {v : Int32} : mj_E 167 61 ls [.int v] σ τ = some (some (.int v), σ, τ) := mj_irt i167_61 rfl
theorem c168 {σ : mj_S} {τ : mj_T} {r : Nat} {x0 : Int32} : mj_C 168 [.ref r, .int x0] σ τ = mj_E 168 0 [some (.ref r), some (.int x0), none, none] [] σ τ := rfl
theorem i168_0 : mj_ins 168 0 = some (.iconst (0), 1) := by decide +kernel
theorem e168_0 {ls : mj_L} {st : List Value} {σ : mj_S} {τ : mj_T} : mj_E 168 0 ls st σ τ = mj_E 168 1 ls (.int (nI 0) :: st) σ τ := mj_nx i168_0 rfl
theorem i168_1 : mj_ins 168 1 = some (.istore 2, 2) := by decide +kernel
theorem e168_1 {ls : mj_L} {st : List Value} {σ : mj_S} {τ : mj_T} {a0 a1 a2 : Option Value} {v : Int32} : mj_E 168 1 (a0 :: a1 :: a2 :: ls) (.int v :: st) σ τ = mj_E 168 2 (a0 :: a1 :: some (.int v) :: ls) st σ τ := mj_nx i168_1 rfl
theorem i168_2 : mj_ins 168 2 = some (.iconst (0), 3) := by decide +kernel
theorem e168_2 {ls : mj_L} {st : List Value} {σ : mj_S} {τ : mj_T} : mj_E 168 2 ls st σ τ = mj_E 168 3 ls (.int (nI 0) :: st) σ τ := mj_nx i168_2 rfl
theorem i168_3 : mj_ins 168 3 = some (.istore 3, 4) := by decide +kernel
theorem e168_3 {ls : mj_L} {st : List Value} {σ : mj_S} {τ : mj_T} {a0 a1 a2 a3 : Option Value} {v : Int32} : mj_E 168 3 (a0 :: a1 :: a2 :: a3 :: ls) (.int v :: st) σ τ = mj_E 168 4 (a0 :: a1 :: a2 :: some (.int v) :: ls) st σ τ := mj_nx i168_3 rfl
theorem i168_4 : mj_ins 168 4 = some (.iload 3, 5) := by decide +kernel
theorem e168_4 {ls : mj_L} {st : List Value} {σ : mj_S} {τ : mj_T} {a0 a1 a2 : Option Value} {v : Int32} : mj_E 168 4 (a0 :: a1 :: a2 :: some (.int v) :: ls) st σ τ = mj_E 168 5 (a0 :: a1 :: a2 :: some (.int v) :: ls) (.int v :: st) σ τ := mj_nx i168_4 rfl
theorem i168_5 : mj_ins 168 5 = some (.aload 0, 6) := by decide +kernel
theorem e168_5 {ls : mj_L} {st : List Value} {σ : mj_S} {τ : mj_T} {v : Nat} : mj_E 168 5 (some (.ref v) :: ls) st σ τ = mj_E 168 6 (some (.ref v) :: ls) (.ref v :: st) σ τ := mj_nx i168_5 rfl
theorem i168_6 : mj_ins 168 6 = some (.getfield 701, 9) := by decide +kernel
theorem e168_6 {ls : mj_L} {st : List Value} {σ : mj_S} {τ : mj_T} : mj_E 168 6 ls (.ref 62 :: st) σ τ = mj_E 168 9 ls (.int (σ 62 1) :: st) σ τ := mj_nx i168_6 rfl
theorem i168_9 : mj_ins 168 9 = some (.if_icmp .ge 31, 12) := by decide +kernel
theorem e168_9 {ls : mj_L} {st : List Value} {σ : mj_S} {τ : mj_T} {x y : Int32} : mj_E 168 9 ls (.int y :: .int x :: st) σ τ = if y ≤ x then mj_E 168 31 ls st σ τ else mj_E 168 12 ls st σ τ := (mj_ifi i168_9).trans (mj_cdT rfl)
theorem i168_12 : mj_ins 168 12 = some (.aload 0, 13) := by decide +kernel
theorem e168_12 {ls : mj_L} {st : List Value} {σ : mj_S} {τ : mj_T} {v : Nat} : mj_E 168 12 (some (.ref v) :: ls) st σ τ = mj_E 168 13 (some (.ref v) :: ls) (.ref v :: st) σ τ := mj_nx i168_12 rfl
theorem i168_13 : mj_ins 168 13 = some (.getfield 738, 16) := by decide +kernel
theorem e168_13 {ls : mj_L} {st : List Value} {σ : mj_S} {τ : mj_T} : mj_E 168 13 ls (.ref 62 :: st) σ τ = mj_E 168 16 ls (.ref 87 :: st) σ τ := mj_nx i168_13 rfl
theorem i168_16 : mj_ins 168 16 = some (.iload 3, 17) := by decide +kernel
theorem e168_16 {ls : mj_L} {st : List Value} {σ : mj_S} {τ : mj_T} {a0 a1 a2 : Option Value} {v : Int32} : mj_E 168 16 (a0 :: a1 :: a2 :: some (.int v) :: ls) st σ τ = mj_E 168 17 (a0 :: a1 :: a2 :: some (.int v) :: ls) (.int v :: st) σ τ := mj_nx i168_16 rfl
theorem i168_17 : mj_ins 168 17 = some (.iaload, 18) := by decide +kernel
theorem e168_17 {ls : mj_L} {st : List Value} {σ : mj_S} {τ : mj_T} {x : Int32} {k : Nat} : mj_E 168 17 ls (.int x :: .ref k :: st) σ τ = if mj_ib (mj_li σ k) x = true then mj_E 168 18 ls (.int (σ k x.toNatClampNeg) :: st) σ τ else none := mj_ald i168_17
theorem i168_18 : mj_ins 168 18 = some (.iload 1, 19) := by decide +kernel
theorem e168_18 {ls : mj_L} {st : List Value} {σ : mj_S} {τ : mj_T} {a0 : Option Value} {v : Int32} : mj_E 168 18 (a0 :: some (.int v) :: ls) st σ τ = mj_E 168 19 (a0 :: some (.int v) :: ls) (.int v :: st) σ τ := mj_nx i168_18 rfl
theorem i168_19 : mj_ins 168 19 = some (.if_icmp .ne 25, 22) := by decide +kernel
theorem e168_19 {ls : mj_L} {st : List Value} {σ : mj_S} {τ : mj_T} {x y : Int32} : mj_E 168 19 ls (.int y :: .int x :: st) σ τ = if x = y then mj_E 168 22 ls st σ τ else mj_E 168 25 ls st σ τ := (mj_ifi i168_19).trans (mj_cdF rfl)
theorem i168_22 : mj_ins 168 22 = some (.iinc 2 (1), 25) := by decide +kernel
theorem e168_22 {ls : mj_L} {st : List Value} {σ : mj_S} {τ : mj_T} {a0 a1 : Option Value} {v : Int32} : mj_E 168 22 (a0 :: a1 :: some (.int v) :: ls) st σ τ = mj_E 168 25 (a0 :: a1 :: some (.int (v + nI 1)) :: ls) st σ τ := mj_nx i168_22 rfl
theorem i168_25 : mj_ins 168 25 = some (.iinc 3 (1), 28) := by decide +kernel
theorem e168_25 {ls : mj_L} {st : List Value} {σ : mj_S} {τ : mj_T} {a0 a1 a2 : Option Value} {v : Int32} : mj_E 168 25 (a0 :: a1 :: a2 :: some (.int v) :: ls) st σ τ = mj_E 168 28 (a0 :: a1 :: a2 :: some (.int (v + nI 1)) :: ls) st σ τ := mj_nx i168_25 rfl
theorem i168_28 : mj_ins 168 28 = some (.goto 4, 31) := by decide +kernel
theorem e168_28 {ls : mj_L} {st : List Value} {σ : mj_S} {τ : mj_T} : mj_E 168 28 ls st σ τ = mj_E 168 4 ls st σ τ := mj_nx i168_28 rfl
theorem i168_31 : mj_ins 168 31 = some (.iload 2, 32) := by decide +kernel
theorem e168_31 {ls : mj_L} {st : List Value} {σ : mj_S} {τ : mj_T} {a0 a1 : Option Value} {v : Int32} : mj_E 168 31 (a0 :: a1 :: some (.int v) :: ls) st σ τ = mj_E 168 32 (a0 :: a1 :: some (.int v) :: ls) (.int v :: st) σ τ := mj_nx i168_31 rfl
theorem i168_32 : mj_ins 168 32 = some (.ireturn, 33) := by decide +kernel
theorem e168_32 {ls : mj_L} {σ : mj_S} {τ : mj_T} {v : Int32} : mj_E 168 32 ls [.int v] σ τ = some (some (.int v), σ, τ) := mj_irt i168_32 rfl
theorem c169 {σ : mj_S} {τ : mj_T} {r : Nat} : mj_C 169 [.ref r] σ τ = mj_E 169 0 [some (.ref r), none, none, none, none] [] σ τ := rfl
theorem i169_0 : mj_ins 169 0 = some (.iconst (0), 1) := by decide +kernel
theorem e169_0 {ls : mj_L} {st : List Value} {σ : mj_S} {τ : mj_T} : mj_E 169 0 ls st σ τ = mj_E 169 1 ls (.int (nI 0) :: st) σ τ := mj_nx i169_0 rfl
theorem i169_1 : mj_ins 169 1 = some (.istore 1, 2) := by decide +kernel
theorem e169_1 {ls : mj_L} {st : List Value} {σ : mj_S} {τ : mj_T} {a0 a1 : Option Value} {v : Int32} : mj_E 169 1 (a0 :: a1 :: ls) (.int v :: st) σ τ = mj_E 169 2 (a0 :: some (.int v) :: ls) st σ τ := mj_nx i169_1 rfl
theorem i169_2 : mj_ins 169 2 = some (.iload 1, 3) := by decide +kernel
theorem e169_2 {ls : mj_L} {st : List Value} {σ : mj_S} {τ : mj_T} {a0 : Option Value} {v : Int32} : mj_E 169 2 (a0 :: some (.int v) :: ls) st σ τ = mj_E 169 3 (a0 :: some (.int v) :: ls) (.int v :: st) σ τ := mj_nx i169_2 rfl
theorem i169_3 : mj_ins 169 3 = some (.iconst (6), 5) := by decide +kernel
theorem e169_3 {ls : mj_L} {st : List Value} {σ : mj_S} {τ : mj_T} : mj_E 169 3 ls st σ τ = mj_E 169 5 ls (.int (nI 6) :: st) σ τ := mj_nx i169_3 rfl
theorem i169_5 : mj_ins 169 5 = some (.if_icmp .ge 28, 8) := by decide +kernel
theorem e169_5 {ls : mj_L} {st : List Value} {σ : mj_S} {τ : mj_T} {x y : Int32} : mj_E 169 5 ls (.int y :: .int x :: st) σ τ = if y ≤ x then mj_E 169 28 ls st σ τ else mj_E 169 8 ls st σ τ := (mj_ifi i169_5).trans (mj_cdT rfl)
theorem i169_8 : mj_ins 169 8 = some (.aload 0, 9) := by decide +kernel
theorem e169_8 {ls : mj_L} {st : List Value} {σ : mj_S} {τ : mj_T} {v : Nat} : mj_E 169 8 (some (.ref v) :: ls) st σ τ = mj_E 169 9 (some (.ref v) :: ls) (.ref v :: st) σ τ := mj_nx i169_8 rfl
theorem i169_9 : mj_ins 169 9 = some (.getfield 738, 12) := by decide +kernel
theorem e169_9 {ls : mj_L} {st : List Value} {σ : mj_S} {τ : mj_T} : mj_E 169 9 ls (.ref 62 :: st) σ τ = mj_E 169 12 ls (.ref 87 :: st) σ τ := mj_nx i169_9 rfl
theorem i169_12 : mj_ins 169 12 = some (.iload 1, 13) := by decide +kernel
theorem e169_12 {ls : mj_L} {st : List Value} {σ : mj_S} {τ : mj_T} {a0 : Option Value} {v : Int32} : mj_E 169 12 (a0 :: some (.int v) :: ls) st σ τ = mj_E 169 13 (a0 :: some (.int v) :: ls) (.int v :: st) σ τ := mj_nx i169_12 rfl
theorem i169_13 : mj_ins 169 13 = some (.iconst (-1), 14) := by decide +kernel
theorem e169_13 {ls : mj_L} {st : List Value} {σ : mj_S} {τ : mj_T} : mj_E 169 13 ls st σ τ = mj_E 169 14 ls (.int ((-1)) :: st) σ τ := mj_nx i169_13 rfl
theorem i169_14 : mj_ins 169 14 = some (.iastore, 15) := by decide +kernel
theorem e169_14 {ls : mj_L} {st : List Value} {σ : mj_S} {τ : mj_T} {x v : Int32} {k : Nat} : mj_E 169 14 ls (.int v :: .int x :: .ref k :: st) σ τ = if mj_ib (mj_lw k) x = true then mj_E 169 15 ls st (mj_up σ k x.toNatClampNeg v) τ else none := mj_ast i169_14
theorem i169_15 : mj_ins 169 15 = some (.aload 0, 16) := by decide +kernel
theorem e169_15 {ls : mj_L} {st : List Value} {σ : mj_S} {τ : mj_T} {v : Nat} : mj_E 169 15 (some (.ref v) :: ls) st σ τ = mj_E 169 16 (some (.ref v) :: ls) (.ref v :: st) σ τ := mj_nx i169_15 rfl
theorem i169_16 : mj_ins 169 16 = some (.getfield 739, 19) := by decide +kernel
theorem e169_16 {ls : mj_L} {st : List Value} {σ : mj_S} {τ : mj_T} : mj_E 169 16 ls (.ref 62 :: st) σ τ = mj_E 169 19 ls (.ref 88 :: st) σ τ := mj_nx i169_16 rfl
theorem i169_19 : mj_ins 169 19 = some (.iload 1, 20) := by decide +kernel
theorem e169_19 {ls : mj_L} {st : List Value} {σ : mj_S} {τ : mj_T} {a0 : Option Value} {v : Int32} : mj_E 169 19 (a0 :: some (.int v) :: ls) st σ τ = mj_E 169 20 (a0 :: some (.int v) :: ls) (.int v :: st) σ τ := mj_nx i169_19 rfl
theorem i169_20 : mj_ins 169 20 = some (.iconst (0), 21) := by decide +kernel
theorem e169_20 {ls : mj_L} {st : List Value} {σ : mj_S} {τ : mj_T} : mj_E 169 20 ls st σ τ = mj_E 169 21 ls (.int (nI 0) :: st) σ τ := mj_nx i169_20 rfl
theorem i169_21 : mj_ins 169 21 = some (.iastore, 22) := by decide +kernel
theorem e169_21 {ls : mj_L} {st : List Value} {σ : mj_S} {τ : mj_T} {x v : Int32} {k : Nat} : mj_E 169 21 ls (.int v :: .int x :: .ref k :: st) σ τ = if mj_ib (mj_lw k) x = true then mj_E 169 22 ls st (mj_up σ k x.toNatClampNeg v) τ else none := mj_ast i169_21
theorem i169_22 : mj_ins 169 22 = some (.iinc 1 (1), 25) := by decide +kernel
theorem e169_22 {ls : mj_L} {st : List Value} {σ : mj_S} {τ : mj_T} {a0 : Option Value} {v : Int32} : mj_E 169 22 (a0 :: some (.int v) :: ls) st σ τ = mj_E 169 25 (a0 :: some (.int (v + nI 1)) :: ls) st σ τ := mj_nx i169_22 rfl
theorem i169_25 : mj_ins 169 25 = some (.goto 2, 28) := by decide +kernel
theorem e169_25 {ls : mj_L} {st : List Value} {σ : mj_S} {τ : mj_T} : mj_E 169 25 ls st σ τ = mj_E 169 2 ls st σ τ := mj_nx i169_25 rfl
theorem i169_28 : mj_ins 169 28 = some (.iconst (1), 29) := by decide +kernel
theorem e169_28 {ls : mj_L} {st : List Value} {σ : mj_S} {τ : mj_T} : mj_E 169 28 ls st σ τ = mj_E 169 29 ls (.int (nI 1) :: st) σ τ := mj_nx i169_28 rfl
theorem i169_29 : mj_ins 169 29 = some (.istore 1, 30) := by decide +kernel
theorem e169_29 {ls : mj_L} {st : List Value} {σ : mj_S} {τ : mj_T} {a0 a1 : Option Value} {v : Int32} : mj_E 169 29 (a0 :: a1 :: ls) (.int v :: st) σ τ = mj_E 169 30 (a0 :: some (.int v) :: ls) st σ τ := mj_nx i169_29 rfl
theorem i169_30 : mj_ins 169 30 = some (.iload 1, 31) := by decide +kernel
theorem e169_30 {ls : mj_L} {st : List Value} {σ : mj_S} {τ : mj_T} {a0 : Option Value} {v : Int32} : mj_E 169 30 (a0 :: some (.int v) :: ls) st σ τ = mj_E 169 31 (a0 :: some (.int v) :: ls) (.int v :: st) σ τ := mj_nx i169_30 rfl
theorem i169_31 : mj_ins 169 31 = some (.ifCond .eq 139, 34) := by decide +kernel
theorem e169_31 {ls : mj_L} {st : List Value} {σ : mj_S} {τ : mj_T} {x : Int32} : mj_E 169 31 ls (.int x :: st) σ τ = if x = 0 then mj_E 169 139 ls st σ τ else mj_E 169 34 ls st σ τ := (mj_ifc i169_31).trans (mj_cdT rfl)
theorem i169_34 : mj_ins 169 34 = some (.iconst (0), 35) := by decide +kernel
theorem e169_34 {ls : mj_L} {st : List Value} {σ : mj_S} {τ : mj_T} : mj_E 169 34 ls st σ τ = mj_E 169 35 ls (.int (nI 0) :: st) σ τ := mj_nx i169_34 rfl
theorem i169_35 : mj_ins 169 35 = some (.istore 1, 36) := by decide +kernel
theorem e169_35 {ls : mj_L} {st : List Value} {σ : mj_S} {τ : mj_T} {a0 a1 : Option Value} {v : Int32} : mj_E 169 35 (a0 :: a1 :: ls) (.int v :: st) σ τ = mj_E 169 36 (a0 :: some (.int v) :: ls) st σ τ := mj_nx i169_35 rfl
theorem i169_36 : mj_ins 169 36 = some (.iconst (0), 37) := by decide +kernel
theorem e169_36 {ls : mj_L} {st : List Value} {σ : mj_S} {τ : mj_T} : mj_E 169 36 ls st σ τ = mj_E 169 37 ls (.int (nI 0) :: st) σ τ := mj_nx i169_36 rfl
theorem i169_37 : mj_ins 169 37 = some (.istore 2, 38) := by decide +kernel
theorem e169_37 {ls : mj_L} {st : List Value} {σ : mj_S} {τ : mj_T} {a0 a1 a2 : Option Value} {v : Int32} : mj_E 169 37 (a0 :: a1 :: a2 :: ls) (.int v :: st) σ τ = mj_E 169 38 (a0 :: a1 :: some (.int v) :: ls) st σ τ := mj_nx i169_37 rfl
theorem i169_38 : mj_ins 169 38 = some (.iload 2, 39) := by decide +kernel
theorem e169_38 {ls : mj_L} {st : List Value} {σ : mj_S} {τ : mj_T} {a0 a1 : Option Value} {v : Int32} : mj_E 169 38 (a0 :: a1 :: some (.int v) :: ls) st σ τ = mj_E 169 39 (a0 :: a1 :: some (.int v) :: ls) (.int v :: st) σ τ := mj_nx i169_38 rfl
theorem i169_39 : mj_ins 169 39 = some (.aload 0, 40) := by decide +kernel
theorem e169_39 {ls : mj_L} {st : List Value} {σ : mj_S} {τ : mj_T} {v : Nat} : mj_E 169 39 (some (.ref v) :: ls) st σ τ = mj_E 169 40 (some (.ref v) :: ls) (.ref v :: st) σ τ := mj_nx i169_39 rfl
theorem i169_40 : mj_ins 169 40 = some (.getfield 701, 43) := by decide +kernel
theorem e169_40 {ls : mj_L} {st : List Value} {σ : mj_S} {τ : mj_T} : mj_E 169 40 ls (.ref 62 :: st) σ τ = mj_E 169 43 ls (.int (σ 62 1) :: st) σ τ := mj_nx i169_40 rfl
theorem i169_43 : mj_ins 169 43 = some (.if_icmp .ge 136, 46) := by decide +kernel
theorem e169_43 {ls : mj_L} {st : List Value} {σ : mj_S} {τ : mj_T} {x y : Int32} : mj_E 169 43 ls (.int y :: .int x :: st) σ τ = if y ≤ x then mj_E 169 136 ls st σ τ else mj_E 169 46 ls st σ τ := (mj_ifi i169_43).trans (mj_cdT rfl)
theorem i169_46 : mj_ins 169 46 = some (.aload 0, 47) := by decide +kernel
theorem e169_46 {ls : mj_L} {st : List Value} {σ : mj_S} {τ : mj_T} {v : Nat} : mj_E 169 46 (some (.ref v) :: ls) st σ τ = mj_E 169 47 (some (.ref v) :: ls) (.ref v :: st) σ τ := mj_nx i169_46 rfl
theorem i169_47 : mj_ins 169 47 = some (.getfield 738, 50) := by decide +kernel
theorem e169_47 {ls : mj_L} {st : List Value} {σ : mj_S} {τ : mj_T} : mj_E 169 47 ls (.ref 62 :: st) σ τ = mj_E 169 50 ls (.ref 87 :: st) σ τ := mj_nx i169_47 rfl
theorem i169_50 : mj_ins 169 50 = some (.iload 2, 51) := by decide +kernel
theorem e169_50 {ls : mj_L} {st : List Value} {σ : mj_S} {τ : mj_T} {a0 a1 : Option Value} {v : Int32} : mj_E 169 50 (a0 :: a1 :: some (.int v) :: ls) st σ τ = mj_E 169 51 (a0 :: a1 :: some (.int v) :: ls) (.int v :: st) σ τ := mj_nx i169_50 rfl
theorem i169_51 : mj_ins 169 51 = some (.iaload, 52) := by decide +kernel
theorem e169_51 {ls : mj_L} {st : List Value} {σ : mj_S} {τ : mj_T} {x : Int32} {k : Nat} : mj_E 169 51 ls (.int x :: .ref k :: st) σ τ = if mj_ib (mj_li σ k) x = true then mj_E 169 52 ls (.int (σ k x.toNatClampNeg) :: st) σ τ else none := mj_ald i169_51
theorem i169_52 : mj_ins 169 52 = some (.iconst (-1), 53) := by decide +kernel
theorem e169_52 {ls : mj_L} {st : List Value} {σ : mj_S} {τ : mj_T} : mj_E 169 52 ls st σ τ = mj_E 169 53 ls (.int ((-1)) :: st) σ τ := mj_nx i169_52 rfl
theorem i169_53 : mj_ins 169 53 = some (.if_icmp .ne 64, 56) := by decide +kernel
theorem e169_53 {ls : mj_L} {st : List Value} {σ : mj_S} {τ : mj_T} {x y : Int32} : mj_E 169 53 ls (.int y :: .int x :: st) σ τ = if x = y then mj_E 169 56 ls st σ τ else mj_E 169 64 ls st σ τ := (mj_ifi i169_53).trans (mj_cdF rfl)
theorem i169_56 : mj_ins 169 56 = some (.aload 0, 57) := by decide +kernel
theorem e169_56 {ls : mj_L} {st : List Value} {σ : mj_S} {τ : mj_T} {v : Nat} : mj_E 169 56 (some (.ref v) :: ls) st σ τ = mj_E 169 57 (some (.ref v) :: ls) (.ref v :: st) σ τ := mj_nx i169_56 rfl
theorem i169_57 : mj_ins 169 57 = some (.iload 2, 58) := by decide +kernel
theorem e169_57 {ls : mj_L} {st : List Value} {σ : mj_S} {τ : mj_T} {a0 a1 : Option Value} {v : Int32} : mj_E 169 57 (a0 :: a1 :: some (.int v) :: ls) st σ τ = mj_E 169 58 (a0 :: a1 :: some (.int v) :: ls) (.int v :: st) σ τ := mj_nx i169_57 rfl
theorem i169_58 : mj_ins 169 58 = some (.invokevirtual 166, 61) := by decide +kernel
theorem e169_58 {ls : mj_L} {σ : mj_S} {τ : mj_T} {r : Nat} {x0 : Int32} : mj_E 169 58 ls [.int x0, .ref r] σ τ = if mj_rcv r 7 = true then mj_bd (mj_C 166 [.ref r, .int x0] σ τ) (mj_K 169 61 ls []) else none := mj_clV (as := [.int x0]) (r := []) i169_58 (by decide +kernel : mj_vk 169 166 1 0 2 false = true) (by decide +kernel)
theorem i169_61 : mj_ins 169 61 = some (.goto 65, 64) := by decide +kernel
theorem e169_61 {ls : mj_L} {st : List Value} {σ : mj_S} {τ : mj_T} : mj_E 169 61 ls st σ τ = mj_E 169 65 ls st σ τ := mj_nx i169_61 rfl
theorem i169_64 : mj_ins 169 64 = some (.iconst (-1), 65) := by decide +kernel
theorem e169_64 {ls : mj_L} {st : List Value} {σ : mj_S} {τ : mj_T} : mj_E 169 64 ls st σ τ = mj_E 169 65 ls (.int ((-1)) :: st) σ τ := mj_nx i169_64 rfl
theorem i169_65 : mj_ins 169 65 = some (.istore 3, 66) := by decide +kernel
theorem e169_65 {ls : mj_L} {st : List Value} {σ : mj_S} {τ : mj_T} {a0 a1 a2 a3 : Option Value} {v : Int32} : mj_E 169 65 (a0 :: a1 :: a2 :: a3 :: ls) (.int v :: st) σ τ = mj_E 169 66 (a0 :: a1 :: a2 :: some (.int v) :: ls) st σ τ := mj_nx i169_65 rfl
theorem i169_66 : mj_ins 169 66 = some (.iload 3, 67) := by decide +kernel
theorem e169_66 {ls : mj_L} {st : List Value} {σ : mj_S} {τ : mj_T} {a0 a1 a2 : Option Value} {v : Int32} : mj_E 169 66 (a0 :: a1 :: a2 :: some (.int v) :: ls) st σ τ = mj_E 169 67 (a0 :: a1 :: a2 :: some (.int v) :: ls) (.int v :: st) σ τ := mj_nx i169_66 rfl
theorem i169_67 : mj_ins 169 67 = some (.iconst (-1), 68) := by decide +kernel
theorem e169_67 {ls : mj_L} {st : List Value} {σ : mj_S} {τ : mj_T} : mj_E 169 67 ls st σ τ = mj_E 169 68 ls (.int ((-1)) :: st) σ τ := mj_nx i169_67 rfl
theorem i169_68 : mj_ins 169 68 = some (.if_icmp .ne 74, 71) := by decide +kernel
theorem e169_68 {ls : mj_L} {st : List Value} {σ : mj_S} {τ : mj_T} {x y : Int32} : mj_E 169 68 ls (.int y :: .int x :: st) σ τ = if x = y then mj_E 169 71 ls st σ τ else mj_E 169 74 ls st σ τ := (mj_ifi i169_68).trans (mj_cdF rfl)
theorem i169_71 : mj_ins 169 71 = some (.goto 130, 74) := by decide +kernel
theorem e169_71 {ls : mj_L} {st : List Value} {σ : mj_S} {τ : mj_T} : mj_E 169 71 ls st σ τ = mj_E 169 130 ls st σ τ := mj_nx i169_71 rfl
theorem i169_74 : mj_ins 169 74 = some (.iconst (1), 75) := by decide +kernel
theorem e169_74 {ls : mj_L} {st : List Value} {σ : mj_S} {τ : mj_T} : mj_E 169 74 ls st σ τ = mj_E 169 75 ls (.int (nI 1) :: st) σ τ := mj_nx i169_74 rfl
theorem i169_75 : mj_ins 169 75 = some (.istore 1, 76) := by decide +kernel
theorem e169_75 {ls : mj_L} {st : List Value} {σ : mj_S} {τ : mj_T} {a0 a1 : Option Value} {v : Int32} : mj_E 169 75 (a0 :: a1 :: ls) (.int v :: st) σ τ = mj_E 169 76 (a0 :: some (.int v) :: ls) st σ τ := mj_nx i169_75 rfl
theorem i169_76 : mj_ins 169 76 = some (.aload 0, 77) := by decide +kernel
theorem e169_76 {ls : mj_L} {st : List Value} {σ : mj_S} {τ : mj_T} {v : Nat} : mj_E 169 76 (some (.ref v) :: ls) st σ τ = mj_E 169 77 (some (.ref v) :: ls) (.ref v :: st) σ τ := mj_nx i169_76 rfl
theorem i169_77 : mj_ins 169 77 = some (.getfield 738, 80) := by decide +kernel
theorem e169_77 {ls : mj_L} {st : List Value} {σ : mj_S} {τ : mj_T} : mj_E 169 77 ls (.ref 62 :: st) σ τ = mj_E 169 80 ls (.ref 87 :: st) σ τ := mj_nx i169_77 rfl
theorem i169_80 : mj_ins 169 80 = some (.iload 2, 81) := by decide +kernel
theorem e169_80 {ls : mj_L} {st : List Value} {σ : mj_S} {τ : mj_T} {a0 a1 : Option Value} {v : Int32} : mj_E 169 80 (a0 :: a1 :: some (.int v) :: ls) st σ τ = mj_E 169 81 (a0 :: a1 :: some (.int v) :: ls) (.int v :: st) σ τ := mj_nx i169_80 rfl
theorem i169_81 : mj_ins 169 81 = some (.iload 3, 82) := by decide +kernel
theorem e169_81 {ls : mj_L} {st : List Value} {σ : mj_S} {τ : mj_T} {a0 a1 a2 : Option Value} {v : Int32} : mj_E 169 81 (a0 :: a1 :: a2 :: some (.int v) :: ls) st σ τ = mj_E 169 82 (a0 :: a1 :: a2 :: some (.int v) :: ls) (.int v :: st) σ τ := mj_nx i169_81 rfl
theorem i169_82 : mj_ins 169 82 = some (.iastore, 83) := by decide +kernel
theorem e169_82 {ls : mj_L} {st : List Value} {σ : mj_S} {τ : mj_T} {x v : Int32} {k : Nat} : mj_E 169 82 ls (.int v :: .int x :: .ref k :: st) σ τ = if mj_ib (mj_lw k) x = true then mj_E 169 83 ls st (mj_up σ k x.toNatClampNeg v) τ else none := mj_ast i169_82
theorem i169_83 : mj_ins 169 83 = some (.aload 0, 84) := by decide +kernel
theorem e169_83 {ls : mj_L} {st : List Value} {σ : mj_S} {τ : mj_T} {v : Nat} : mj_E 169 83 (some (.ref v) :: ls) st σ τ = mj_E 169 84 (some (.ref v) :: ls) (.ref v :: st) σ τ := mj_nx i169_83 rfl
theorem i169_84 : mj_ins 169 84 = some (.iload 3, 85) := by decide +kernel
theorem e169_84 {ls : mj_L} {st : List Value} {σ : mj_S} {τ : mj_T} {a0 a1 a2 : Option Value} {v : Int32} : mj_E 169 84 (a0 :: a1 :: a2 :: some (.int v) :: ls) st σ τ = mj_E 169 85 (a0 :: a1 :: a2 :: some (.int v) :: ls) (.int v :: st) σ τ := mj_nx i169_84 rfl
theorem i169_85 : mj_ins 169 85 = some (.invokevirtual 168, 88) := by decide +kernel
theorem e169_85 {ls : mj_L} {σ : mj_S} {τ : mj_T} {r : Nat} {x0 : Int32} : mj_E 169 85 ls [.int x0, .ref r] σ τ = if mj_rcv r 7 = true then mj_bd (mj_C 168 [.ref r, .int x0] σ τ) (mj_K 169 88 ls []) else none := mj_clV (as := [.int x0]) (r := []) i169_85 (by decide +kernel : mj_vk 169 168 1 0 2 false = true) (by decide +kernel)
theorem i169_88 : mj_ins 169 88 = some (.aload 0, 89) := by decide +kernel
theorem e169_88 {ls : mj_L} {st : List Value} {σ : mj_S} {τ : mj_T} {v : Nat} : mj_E 169 88 (some (.ref v) :: ls) st σ τ = mj_E 169 89 (some (.ref v) :: ls) (.ref v :: st) σ τ := mj_nx i169_88 rfl
theorem i169_89 : mj_ins 169 89 = some (.getfield 709, 92) := by decide +kernel
theorem e169_89 {ls : mj_L} {st : List Value} {σ : mj_S} {τ : mj_T} : mj_E 169 89 ls (.ref 62 :: st) σ τ = mj_E 169 92 ls (.ref 66 :: st) σ τ := mj_nx i169_89 rfl
theorem i169_92 : mj_ins 169 92 = some (.iload 3, 93) := by decide +kernel
theorem e169_92 {ls : mj_L} {st : List Value} {σ : mj_S} {τ : mj_T} {a0 a1 a2 : Option Value} {v : Int32} : mj_E 169 92 (a0 :: a1 :: a2 :: some (.int v) :: ls) st σ τ = mj_E 169 93 (a0 :: a1 :: a2 :: some (.int v) :: ls) (.int v :: st) σ τ := mj_nx i169_92 rfl
theorem i169_93 : mj_ins 169 93 = some (.iaload, 94) := by decide +kernel
theorem e169_93 {ls : mj_L} {st : List Value} {σ : mj_S} {τ : mj_T} {x : Int32} {k : Nat} : mj_E 169 93 ls (.int x :: .ref k :: st) σ τ = if mj_ib (mj_li σ k) x = true then mj_E 169 94 ls (.int (σ k x.toNatClampNeg) :: st) σ τ else none := mj_ald i169_93
theorem i169_94 : mj_ins 169 94 = some (.iconst (5), 95) := by decide +kernel
theorem e169_94 {ls : mj_L} {st : List Value} {σ : mj_S} {τ : mj_T} : mj_E 169 94 ls st σ τ = mj_E 169 95 ls (.int (nI 5) :: st) σ τ := mj_nx i169_94 rfl
theorem i169_95 : mj_ins 169 95 = some (.idiv, 96) := by decide +kernel
theorem e169_95 {ls : mj_L} {st : List Value} {σ : mj_S} {τ : mj_T} {x y : Int32} : mj_E 169 95 ls (.int y :: .int x :: st) σ τ = if y = 0 then none else mj_E 169 96 ls (.int (x / y) :: st) σ τ := mj_div i169_95
theorem i169_96 : mj_ins 169 96 = some (.if_icmp .gt 102, 99) := by decide +kernel
theorem e169_96 {ls : mj_L} {st : List Value} {σ : mj_S} {τ : mj_T} {x y : Int32} : mj_E 169 96 ls (.int y :: .int x :: st) σ τ = if y < x then mj_E 169 102 ls st σ τ else mj_E 169 99 ls st σ τ := (mj_ifi i169_96).trans (mj_cdT rfl)
theorem i169_99 : mj_ins 169 99 = some (.goto 130, 102) := by decide +kernel
theorem e169_99 {ls : mj_L} {st : List Value} {σ : mj_S} {τ : mj_T} : mj_E 169 99 ls st σ τ = mj_E 169 130 ls st σ τ := mj_nx i169_99 rfl
theorem i169_102 : mj_ins 169 102 = some (.aload 0, 103) := by decide +kernel
theorem e169_102 {ls : mj_L} {st : List Value} {σ : mj_S} {τ : mj_T} {v : Nat} : mj_E 169 102 (some (.ref v) :: ls) st σ τ = mj_E 169 103 (some (.ref v) :: ls) (.ref v :: st) σ τ := mj_nx i169_102 rfl
theorem i169_103 : mj_ins 169 103 = some (.iload 3, 104) := by decide +kernel
theorem e169_103 {ls : mj_L} {st : List Value} {σ : mj_S} {τ : mj_T} {a0 a1 a2 : Option Value} {v : Int32} : mj_E 169 103 (a0 :: a1 :: a2 :: some (.int v) :: ls) st σ τ = mj_E 169 104 (a0 :: a1 :: a2 :: some (.int v) :: ls) (.int v :: st) σ τ := mj_nx i169_103 rfl
theorem i169_104 : mj_ins 169 104 = some (.invokevirtual 167, 107) := by decide +kernel
theorem e169_104 {ls : mj_L} {σ : mj_S} {τ : mj_T} {r : Nat} {x0 : Int32} : mj_E 169 104 ls [.int x0, .ref r] σ τ = if mj_rcv r 7 = true then mj_bd (mj_C 167 [.ref r, .int x0] σ τ) (mj_K 169 107 ls []) else none := mj_clV (as := [.int x0]) (r := []) i169_104 (by decide +kernel : mj_vk 169 167 1 0 2 false = true) (by decide +kernel)
theorem i169_107 : mj_ins 169 107 = some (.istore 4, 109) := by decide +kernel
theorem e169_107 {ls : mj_L} {st : List Value} {σ : mj_S} {τ : mj_T} {a0 a1 a2 a3 a4 : Option Value} {v : Int32} : mj_E 169 107 (a0 :: a1 :: a2 :: a3 :: a4 :: ls) (.int v :: st) σ τ = mj_E 169 109 (a0 :: a1 :: a2 :: a3 :: some (.int v) :: ls) st σ τ := mj_nx i169_107 rfl
theorem i169_109 : mj_ins 169 109 = some (.aload 0, 110) := by decide +kernel
theorem e169_109 {ls : mj_L} {st : List Value} {σ : mj_S} {τ : mj_T} {v : Nat} : mj_E 169 109 (some (.ref v) :: ls) st σ τ = mj_E 169 110 (some (.ref v) :: ls) (.ref v :: st) σ τ := mj_nx i169_109 rfl
theorem i169_110 : mj_ins 169 110 = some (.getfield 738, 113) := by decide +kernel
theorem e169_110 {ls : mj_L} {st : List Value} {σ : mj_S} {τ : mj_T} : mj_E 169 110 ls (.ref 62 :: st) σ τ = mj_E 169 113 ls (.ref 87 :: st) σ τ := mj_nx i169_110 rfl
theorem i169_113 : mj_ins 169 113 = some (.iload 4, 115) := by decide +kernel
theorem e169_113 {ls : mj_L} {st : List Value} {σ : mj_S} {τ : mj_T} {a0 a1 a2 a3 : Option Value} {v : Int32} : mj_E 169 113 (a0 :: a1 :: a2 :: a3 :: some (.int v) :: ls) st σ τ = mj_E 169 115 (a0 :: a1 :: a2 :: a3 :: some (.int v) :: ls) (.int v :: st) σ τ := mj_nx i169_113 rfl
theorem i169_115 : mj_ins 169 115 = some (.iconst (-1), 116) := by decide +kernel
theorem e169_115 {ls : mj_L} {st : List Value} {σ : mj_S} {τ : mj_T} : mj_E 169 115 ls st σ τ = mj_E 169 116 ls (.int ((-1)) :: st) σ τ := mj_nx i169_115 rfl
theorem i169_116 : mj_ins 169 116 = some (.iastore, 117) := by decide +kernel
theorem e169_116 {ls : mj_L} {st : List Value} {σ : mj_S} {τ : mj_T} {x v : Int32} {k : Nat} : mj_E 169 116 ls (.int v :: .int x :: .ref k :: st) σ τ = if mj_ib (mj_lw k) x = true then mj_E 169 117 ls st (mj_up σ k x.toNatClampNeg v) τ else none := mj_ast i169_116
theorem i169_117 : mj_ins 169 117 = some (.aload 0, 118) := by decide +kernel
theorem e169_117 {ls : mj_L} {st : List Value} {σ : mj_S} {τ : mj_T} {v : Nat} : mj_E 169 117 (some (.ref v) :: ls) st σ τ = mj_E 169 118 (some (.ref v) :: ls) (.ref v :: st) σ τ := mj_nx i169_117 rfl
theorem i169_118 : mj_ins 169 118 = some (.getfield 739, 121) := by decide +kernel
theorem e169_118 {ls : mj_L} {st : List Value} {σ : mj_S} {τ : mj_T} : mj_E 169 118 ls (.ref 62 :: st) σ τ = mj_E 169 121 ls (.ref 88 :: st) σ τ := mj_nx i169_118 rfl
theorem i169_121 : mj_ins 169 121 = some (.iload 4, 123) := by decide +kernel
theorem e169_121 {ls : mj_L} {st : List Value} {σ : mj_S} {τ : mj_T} {a0 a1 a2 a3 : Option Value} {v : Int32} : mj_E 169 121 (a0 :: a1 :: a2 :: a3 :: some (.int v) :: ls) st σ τ = mj_E 169 123 (a0 :: a1 :: a2 :: a3 :: some (.int v) :: ls) (.int v :: st) σ τ := mj_nx i169_121 rfl
theorem i169_123 : mj_ins 169 123 = some (.dup2, 124) := by decide +kernel
theorem e169_123 {ls : mj_L} {st : List Value} {σ : mj_S} {τ : mj_T} {y : Int32} {x : Nat} : mj_E 169 123 ls (.int y :: .ref x :: st) σ τ = mj_E 169 124 ls (.int y :: .ref x :: .int y :: .ref x :: st) σ τ := mj_nx i169_123 rfl
theorem i169_124 : mj_ins 169 124 = some (.iaload, 125) := by decide +kernel
theorem e169_124 {ls : mj_L} {st : List Value} {σ : mj_S} {τ : mj_T} {x : Int32} {k : Nat} : mj_E 169 124 ls (.int x :: .ref k :: st) σ τ = if mj_ib (mj_li σ k) x = true then mj_E 169 125 ls (.int (σ k x.toNatClampNeg) :: st) σ τ else none := mj_ald i169_124
theorem i169_125 : mj_ins 169 125 = some (.iconst (1), 126) := by decide +kernel
theorem e169_125 {ls : mj_L} {st : List Value} {σ : mj_S} {τ : mj_T} : mj_E 169 125 ls st σ τ = mj_E 169 126 ls (.int (nI 1) :: st) σ τ := mj_nx i169_125 rfl
theorem i169_126 : mj_ins 169 126 = some (.iload 3, 127) := by decide +kernel
theorem e169_126 {ls : mj_L} {st : List Value} {σ : mj_S} {τ : mj_T} {a0 a1 a2 : Option Value} {v : Int32} : mj_E 169 126 (a0 :: a1 :: a2 :: some (.int v) :: ls) st σ τ = mj_E 169 127 (a0 :: a1 :: a2 :: some (.int v) :: ls) (.int v :: st) σ τ := mj_nx i169_126 rfl
theorem i169_127 : mj_ins 169 127 = some (.ishl, 128) := by decide +kernel
theorem e169_127 {ls : mj_L} {st : List Value} {σ : mj_S} {τ : mj_T} {x y : Int32} : mj_E 169 127 ls (.int y :: .int x :: st) σ τ = mj_E 169 128 ls (.int (x <<< (y &&& 31)) :: st) σ τ := mj_nx i169_127 rfl
theorem i169_128 : mj_ins 169 128 = some (.iadd, 129) := by decide +kernel
theorem e169_128 {ls : mj_L} {st : List Value} {σ : mj_S} {τ : mj_T} {x y : Int32} : mj_E 169 128 ls (.int y :: .int x :: st) σ τ = mj_E 169 129 ls (.int (x + y) :: st) σ τ := mj_nx i169_128 rfl
theorem i169_129 : mj_ins 169 129 = some (.iastore, 130) := by decide +kernel
theorem e169_129 {ls : mj_L} {st : List Value} {σ : mj_S} {τ : mj_T} {x v : Int32} {k : Nat} : mj_E 169 129 ls (.int v :: .int x :: .ref k :: st) σ τ = if mj_ib (mj_lw k) x = true then mj_E 169 130 ls st (mj_up σ k x.toNatClampNeg v) τ else none := mj_ast i169_129
theorem i169_130 : mj_ins 169 130 = some (.iinc 2 (1), 133) := by decide +kernel
theorem e169_130 {ls : mj_L} {st : List Value} {σ : mj_S} {τ : mj_T} {a0 a1 : Option Value} {v : Int32} : mj_E 169 130 (a0 :: a1 :: some (.int v) :: ls) st σ τ = mj_E 169 133 (a0 :: a1 :: some (.int (v + nI 1)) :: ls) st σ τ := mj_nx i169_130 rfl
theorem i169_133 : mj_ins 169 133 = some (.goto 38, 136) := by decide +kernel
theorem e169_133 {ls : mj_L} {st : List Value} {σ : mj_S} {τ : mj_T} : mj_E 169 133 ls st σ τ = mj_E 169 38 ls st σ τ := mj_nx i169_133 rfl
theorem i169_136 : mj_ins 169 136 = some (.goto 30, 139) := by decide +kernel
theorem e169_136 {ls : mj_L} {st : List Value} {σ : mj_S} {τ : mj_T} : mj_E 169 136 ls st σ τ = mj_E 169 30 ls st σ τ := mj_nx i169_136 rfl
theorem i169_139 : mj_ins 169 139 = some (.return_, 140) := by decide +kernel
theorem e169_139 {ls : mj_L} {σ : mj_S} {τ : mj_T} : mj_E 169 139 ls [] σ τ = some (none, σ, τ) := mj_vrt i169_139 rfl
theorem c170 {σ : mj_S} {τ : mj_T} {r : Nat} {x0 : Int32} : mj_C 170 [.ref r, .int x0] σ τ = mj_E 170 0 [some (.ref r), some (.int x0)] [] σ τ := rfl
theorem i170_0 : mj_ins 170 0 = some (.aload 0, 1) := by decide +kernel
theorem e170_0 {ls : mj_L} {st : List Value} {σ : mj_S} {τ : mj_T} {v : Nat} : mj_E 170 0 (some (.ref v) :: ls) st σ τ = mj_E 170 1 (some (.ref v) :: ls) (.ref v :: st) σ τ := mj_nx i170_0 rfl
theorem i170_1 : mj_ins 170 1 = some (.iload 1, 2) := by decide +kernel
theorem e170_1 {ls : mj_L} {st : List Value} {σ : mj_S} {τ : mj_T} {a0 : Option Value} {v : Int32} : mj_E 170 1 (a0 :: some (.int v) :: ls) st σ τ = mj_E 170 2 (a0 :: some (.int v) :: ls) (.int v :: st) σ τ := mj_nx i170_1 rfl
theorem i170_2 : mj_ins 170 2 = some (.invokevirtual 121, 5) := by decide +kernel
theorem e170_2 {ls : mj_L} {σ : mj_S} {τ : mj_T} {r : Nat} {x0 : Int32} : mj_E 170 2 ls [.int x0, .ref r] σ τ = if mj_rcv r 7 = true then mj_bd (mj_C 121 [.ref r, .int x0] σ τ) (mj_K 170 5 ls []) else none := mj_clV (as := [.int x0]) (r := []) i170_2 (by decide +kernel : mj_vk 170 121 1 0 2 false = true) (by decide +kernel)
theorem i170_5 : mj_ins 170 5 = some (.ifCond .ne 14, 8) := by decide +kernel
theorem e170_5 {ls : mj_L} {st : List Value} {σ : mj_S} {τ : mj_T} {x : Int32} : mj_E 170 5 ls (.int x :: st) σ τ = if x = 0 then mj_E 170 8 ls st σ τ else mj_E 170 14 ls st σ τ := (mj_ifc i170_5).trans (mj_cdF rfl)
theorem i170_8 : mj_ins 170 8 = some (.aload 0, 9) := by decide +kernel
theorem e170_8 {ls : mj_L} {st : List Value} {σ : mj_S} {τ : mj_T} {v : Nat} : mj_E 170 8 (some (.ref v) :: ls) st σ τ = mj_E 170 9 (some (.ref v) :: ls) (.ref v :: st) σ τ := mj_nx i170_8 rfl
theorem i170_9 : mj_ins 170 9 = some (.iconst (-1), 10) := by decide +kernel
theorem e170_9 {ls : mj_L} {st : List Value} {σ : mj_S} {τ : mj_T} : mj_E 170 9 ls st σ τ = mj_E 170 10 ls (.int ((-1)) :: st) σ τ := mj_nx i170_9 rfl
theorem i170_10 : mj_ins 170 10 = some (.invokevirtual 118, 13) := by decide +kernel
theorem e170_10 {ls : mj_L} {σ : mj_S} {τ : mj_T} {r : Nat} {x0 : Int32} : mj_E 170 10 ls [.int x0, .ref r] σ τ = if mj_rcv r 7 = true then mj_bd (mj_C 118 [.ref r, .int x0] σ τ) (mj_K 170 13 ls []) else none := mj_clV (as := [.int x0]) (r := []) i170_10 (by decide +kernel : mj_vk 170 118 1 0 2 false = true) (by decide +kernel)
theorem i170_13 : mj_ins 170 13 = some (.ireturn, 14) := by decide +kernel
theorem e170_13 {ls : mj_L} {σ : mj_S} {τ : mj_T} {v : Int32} : mj_E 170 13 ls [.int v] σ τ = some (some (.int v), σ, τ) := mj_irt i170_13 rfl
theorem i170_14 : mj_ins 170 14 = some (.aload 0, 15) := by decide +kernel
theorem e170_14 {ls : mj_L} {st : List Value} {σ : mj_S} {τ : mj_T} {v : Nat} : mj_E 170 14 (some (.ref v) :: ls) st σ τ = mj_E 170 15 (some (.ref v) :: ls) (.ref v :: st) σ τ := mj_nx i170_14 rfl
theorem i170_15 : mj_ins 170 15 = some (.invokevirtual 169, 18) := by decide +kernel
theorem e170_15 {ls : mj_L} {σ : mj_S} {τ : mj_T} {r : Nat} : mj_E 170 15 ls [.ref r] σ τ = if mj_rcv r 7 = true then mj_bd (mj_C 169 [.ref r] σ τ) (mj_K 170 18 ls []) else none := mj_clV (as := []) (r := []) i170_15 (by decide +kernel : mj_vk 170 169 0 0 1 false = true) (by decide +kernel)
theorem i170_18 : mj_ins 170 18 = some (.aload 0, 19) := by decide +kernel
theorem e170_18 {ls : mj_L} {st : List Value} {σ : mj_S} {τ : mj_T} {v : Nat} : mj_E 170 18 (some (.ref v) :: ls) st σ τ = mj_E 170 19 (some (.ref v) :: ls) (.ref v :: st) σ τ := mj_nx i170_18 rfl
theorem i170_19 : mj_ins 170 19 = some (.getfield 738, 22) := by decide +kernel
theorem e170_19 {ls : mj_L} {st : List Value} {σ : mj_S} {τ : mj_T} : mj_E 170 19 ls (.ref 62 :: st) σ τ = mj_E 170 22 ls (.ref 87 :: st) σ τ := mj_nx i170_19 rfl
theorem i170_22 : mj_ins 170 22 = some (.iload 1, 23) := by decide +kernel
theorem e170_22 {ls : mj_L} {st : List Value} {σ : mj_S} {τ : mj_T} {a0 : Option Value} {v : Int32} : mj_E 170 22 (a0 :: some (.int v) :: ls) st σ τ = mj_E 170 23 (a0 :: some (.int v) :: ls) (.int v :: st) σ τ := mj_nx i170_22 rfl
theorem i170_23 : mj_ins 170 23 = some (.iaload, 24) := by decide +kernel
theorem e170_23 {ls : mj_L} {st : List Value} {σ : mj_S} {τ : mj_T} {x : Int32} {k : Nat} : mj_E 170 23 ls (.int x :: .ref k :: st) σ τ = if mj_ib (mj_li σ k) x = true then mj_E 170 24 ls (.int (σ k x.toNatClampNeg) :: st) σ τ else none := mj_ald i170_23
theorem i170_24 : mj_ins 170 24 = some (.ireturn, 25) := by decide +kernel
theorem e170_24 {ls : mj_L} {σ : mj_S} {τ : mj_T} {v : Int32} : mj_E 170 24 ls [.int v] σ τ = some (some (.int v), σ, τ) := mj_irt i170_24 rfl
theorem c171 {σ : mj_S} {τ : mj_T} {r : Nat} {x0 : Int32} {x1 : Int32} {x2 : Int32} {x3 : Int32} : mj_C 171 [.ref r, .int x0, .int x1, .int x2, .int x3] σ τ = mj_E 171 0 [some (.ref r), some (.int x0), some (.int x1), some (.int x2), some (.int x3), none] [] σ τ := rfl
theorem i171_0 : mj_ins 171 0 = some (.aload 0, 1) := by decide +kernel
theorem e171_0 {ls : mj_L} {st : List Value} {σ : mj_S} {τ : mj_T} {v : Nat} : mj_E 171 0 (some (.ref v) :: ls) st σ τ = mj_E 171 1 (some (.ref v) :: ls) (.ref v :: st) σ τ := mj_nx i171_0 rfl
theorem i171_1 : mj_ins 171 1 = some (.getfield 716, 4) := by decide +kernel
theorem e171_1 {ls : mj_L} {st : List Value} {σ : mj_S} {τ : mj_T} : mj_E 171 1 ls (.ref 62 :: st) σ τ = mj_E 171 4 ls (.ref 73 :: st) σ τ := mj_nx i171_1 rfl
theorem i171_4 : mj_ins 171 4 = some (.iconst (8), 6) := by decide +kernel
theorem e171_4 {ls : mj_L} {st : List Value} {σ : mj_S} {τ : mj_T} : mj_E 171 4 ls st σ τ = mj_E 171 6 ls (.int (nI 8) :: st) σ τ := mj_nx i171_4 rfl
theorem i171_6 : mj_ins 171 6 = some (.iload 1, 7) := by decide +kernel
theorem e171_6 {ls : mj_L} {st : List Value} {σ : mj_S} {τ : mj_T} {a0 : Option Value} {v : Int32} : mj_E 171 6 (a0 :: some (.int v) :: ls) st σ τ = mj_E 171 7 (a0 :: some (.int v) :: ls) (.int v :: st) σ τ := mj_nx i171_6 rfl
theorem i171_7 : mj_ins 171 7 = some (.imul, 8) := by decide +kernel
theorem e171_7 {ls : mj_L} {st : List Value} {σ : mj_S} {τ : mj_T} {x y : Int32} : mj_E 171 7 ls (.int y :: .int x :: st) σ τ = mj_E 171 8 ls (.int (x * y) :: st) σ τ := mj_nx i171_7 rfl
theorem i171_8 : mj_ins 171 8 = some (.iload 2, 9) := by decide +kernel
theorem e171_8 {ls : mj_L} {st : List Value} {σ : mj_S} {τ : mj_T} {a0 a1 : Option Value} {v : Int32} : mj_E 171 8 (a0 :: a1 :: some (.int v) :: ls) st σ τ = mj_E 171 9 (a0 :: a1 :: some (.int v) :: ls) (.int v :: st) σ τ := mj_nx i171_8 rfl
theorem i171_9 : mj_ins 171 9 = some (.iadd, 10) := by decide +kernel
theorem e171_9 {ls : mj_L} {st : List Value} {σ : mj_S} {τ : mj_T} {x y : Int32} : mj_E 171 9 ls (.int y :: .int x :: st) σ τ = mj_E 171 10 ls (.int (x + y) :: st) σ τ := mj_nx i171_9 rfl
theorem i171_10 : mj_ins 171 10 = some (.iaload, 11) := by decide +kernel
theorem e171_10 {ls : mj_L} {st : List Value} {σ : mj_S} {τ : mj_T} {x : Int32} {k : Nat} : mj_E 171 10 ls (.int x :: .ref k :: st) σ τ = if mj_ib (mj_li σ k) x = true then mj_E 171 11 ls (.int (σ k x.toNatClampNeg) :: st) σ τ else none := mj_ald i171_10
theorem i171_11 : mj_ins 171 11 = some (.istore 5, 13) := by decide +kernel
theorem e171_11 {ls : mj_L} {st : List Value} {σ : mj_S} {τ : mj_T} {a0 a1 a2 a3 a4 a5 : Option Value} {v : Int32} : mj_E 171 11 (a0 :: a1 :: a2 :: a3 :: a4 :: a5 :: ls) (.int v :: st) σ τ = mj_E 171 13 (a0 :: a1 :: a2 :: a3 :: a4 :: some (.int v) :: ls) st σ τ := mj_nx i171_11 rfl
theorem i171_13 : mj_ins 171 13 = some (.aload 0, 14) := by decide +kernel
theorem e171_13 {ls : mj_L} {st : List Value} {σ : mj_S} {τ : mj_T} {v : Nat} : mj_E 171 13 (some (.ref v) :: ls) st σ τ = mj_E 171 14 (some (.ref v) :: ls) (.ref v :: st) σ τ := mj_nx i171_13 rfl
theorem i171_14 : mj_ins 171 14 = some (.iload 1, 15) := by decide +kernel
theorem e171_14 {ls : mj_L} {st : List Value} {σ : mj_S} {τ : mj_T} {a0 : Option Value} {v : Int32} : mj_E 171 14 (a0 :: some (.int v) :: ls) st σ τ = mj_E 171 15 (a0 :: some (.int v) :: ls) (.int v :: st) σ τ := mj_nx i171_14 rfl
theorem i171_15 : mj_ins 171 15 = some (.iload 2, 16) := by decide +kernel
theorem e171_15 {ls : mj_L} {st : List Value} {σ : mj_S} {τ : mj_T} {a0 a1 : Option Value} {v : Int32} : mj_E 171 15 (a0 :: a1 :: some (.int v) :: ls) st σ τ = mj_E 171 16 (a0 :: a1 :: some (.int v) :: ls) (.int v :: st) σ τ := mj_nx i171_15 rfl
theorem i171_16 : mj_ins 171 16 = some (.iload 3, 17) := by decide +kernel
theorem e171_16 {ls : mj_L} {st : List Value} {σ : mj_S} {τ : mj_T} {a0 a1 a2 : Option Value} {v : Int32} : mj_E 171 16 (a0 :: a1 :: a2 :: some (.int v) :: ls) st σ τ = mj_E 171 17 (a0 :: a1 :: a2 :: some (.int v) :: ls) (.int v :: st) σ τ := mj_nx i171_16 rfl
theorem i171_17 : mj_ins 171 17 = some (.invokevirtual 139, 20) := by decide +kernel
theorem e171_17 {ls : mj_L} {σ : mj_S} {τ : mj_T} {r : Nat} {x0 : Int32} {x1 : Int32} {x2 : Int32} : mj_E 171 17 ls [.int x2, .int x1, .int x0, .ref r] σ τ = if mj_rcv r 7 = true then mj_bd (mj_C 139 [.ref r, .int x0, .int x1, .int x2] σ τ) (mj_K 171 20 ls []) else none := mj_clV (as := [.int x0, .int x1, .int x2]) (r := []) i171_17 (by decide +kernel : mj_vk 171 139 3 0 4 false = true) (by decide +kernel)
theorem i171_20 : mj_ins 171 20 = some (.pop, 21) := by decide +kernel
theorem e171_20 {ls : mj_L} {st : List Value} {σ : mj_S} {τ : mj_T} {v : Int32} : mj_E 171 20 ls (.int v :: st) σ τ = mj_E 171 21 ls st σ τ := mj_nx i171_20 rfl
theorem i171_21 : mj_ins 171 21 = some (.aload 0, 22) := by decide +kernel
theorem e171_21 {ls : mj_L} {st : List Value} {σ : mj_S} {τ : mj_T} {v : Nat} : mj_E 171 21 (some (.ref v) :: ls) st σ τ = mj_E 171 22 (some (.ref v) :: ls) (.ref v :: st) σ τ := mj_nx i171_21 rfl
theorem i171_22 : mj_ins 171 22 = some (.iload 1, 23) := by decide +kernel
theorem e171_22 {ls : mj_L} {st : List Value} {σ : mj_S} {τ : mj_T} {a0 : Option Value} {v : Int32} : mj_E 171 22 (a0 :: some (.int v) :: ls) st σ τ = mj_E 171 23 (a0 :: some (.int v) :: ls) (.int v :: st) σ τ := mj_nx i171_22 rfl
theorem i171_23 : mj_ins 171 23 = some (.invokevirtual 157, 26) := by decide +kernel
theorem e171_23 {ls : mj_L} {σ : mj_S} {τ : mj_T} {r : Nat} {x0 : Int32} : mj_E 171 23 ls [.int x0, .ref r] σ τ = if mj_rcv r 7 = true then mj_bd (mj_C 157 [.ref r, .int x0] σ τ) (mj_K 171 26 ls []) else none := mj_clV (as := [.int x0]) (r := []) i171_23 (by decide +kernel : mj_vk 171 157 1 0 2 false = true) (by decide +kernel)
theorem i171_26 : mj_ins 171 26 = some (.aload 0, 27) := by decide +kernel
theorem e171_26 {ls : mj_L} {st : List Value} {σ : mj_S} {τ : mj_T} {v : Nat} : mj_E 171 26 (some (.ref v) :: ls) st σ τ = mj_E 171 27 (some (.ref v) :: ls) (.ref v :: st) σ τ := mj_nx i171_26 rfl
theorem i171_27 : mj_ins 171 27 = some (.getfield 716, 30) := by decide +kernel
theorem e171_27 {ls : mj_L} {st : List Value} {σ : mj_S} {τ : mj_T} : mj_E 171 27 ls (.ref 62 :: st) σ τ = mj_E 171 30 ls (.ref 73 :: st) σ τ := mj_nx i171_27 rfl
theorem i171_30 : mj_ins 171 30 = some (.iconst (8), 32) := by decide +kernel
theorem e171_30 {ls : mj_L} {st : List Value} {σ : mj_S} {τ : mj_T} : mj_E 171 30 ls st σ τ = mj_E 171 32 ls (.int (nI 8) :: st) σ τ := mj_nx i171_30 rfl
theorem i171_32 : mj_ins 171 32 = some (.iload 1, 33) := by decide +kernel
theorem e171_32 {ls : mj_L} {st : List Value} {σ : mj_S} {τ : mj_T} {a0 : Option Value} {v : Int32} : mj_E 171 32 (a0 :: some (.int v) :: ls) st σ τ = mj_E 171 33 (a0 :: some (.int v) :: ls) (.int v :: st) σ τ := mj_nx i171_32 rfl
theorem i171_33 : mj_ins 171 33 = some (.imul, 34) := by decide +kernel
theorem e171_33 {ls : mj_L} {st : List Value} {σ : mj_S} {τ : mj_T} {x y : Int32} : mj_E 171 33 ls (.int y :: .int x :: st) σ τ = mj_E 171 34 ls (.int (x * y) :: st) σ τ := mj_nx i171_33 rfl
theorem i171_34 : mj_ins 171 34 = some (.iload 2, 35) := by decide +kernel
theorem e171_34 {ls : mj_L} {st : List Value} {σ : mj_S} {τ : mj_T} {a0 a1 : Option Value} {v : Int32} : mj_E 171 34 (a0 :: a1 :: some (.int v) :: ls) st σ τ = mj_E 171 35 (a0 :: a1 :: some (.int v) :: ls) (.int v :: st) σ τ := mj_nx i171_34 rfl
theorem i171_35 : mj_ins 171 35 = some (.iadd, 36) := by decide +kernel
theorem e171_35 {ls : mj_L} {st : List Value} {σ : mj_S} {τ : mj_T} {x y : Int32} : mj_E 171 35 ls (.int y :: .int x :: st) σ τ = mj_E 171 36 ls (.int (x + y) :: st) σ τ := mj_nx i171_35 rfl
theorem i171_36 : mj_ins 171 36 = some (.iload 5, 38) := by decide +kernel
theorem e171_36 {ls : mj_L} {st : List Value} {σ : mj_S} {τ : mj_T} {a0 a1 a2 a3 a4 : Option Value} {v : Int32} : mj_E 171 36 (a0 :: a1 :: a2 :: a3 :: a4 :: some (.int v) :: ls) st σ τ = mj_E 171 38 (a0 :: a1 :: a2 :: a3 :: a4 :: some (.int v) :: ls) (.int v :: st) σ τ := mj_nx i171_36 rfl
theorem i171_38 : mj_ins 171 38 = some (.iastore, 39) := by decide +kernel
theorem e171_38 {ls : mj_L} {st : List Value} {σ : mj_S} {τ : mj_T} {x v : Int32} {k : Nat} : mj_E 171 38 ls (.int v :: .int x :: .ref k :: st) σ τ = if mj_ib (mj_lw k) x = true then mj_E 171 39 ls st (mj_up σ k x.toNatClampNeg v) τ else none := mj_ast i171_38
theorem i171_39 : mj_ins 171 39 = some (.iload 4, 41) := by decide +kernel
theorem e171_39 {ls : mj_L} {st : List Value} {σ : mj_S} {τ : mj_T} {a0 a1 a2 a3 : Option Value} {v : Int32} : mj_E 171 39 (a0 :: a1 :: a2 :: a3 :: some (.int v) :: ls) st σ τ = mj_E 171 41 (a0 :: a1 :: a2 :: a3 :: some (.int v) :: ls) (.int v :: st) σ τ := mj_nx i171_39 rfl
theorem i171_41 : mj_ins 171 41 = some (.ifCond .eq 58, 44) := by decide +kernel
theorem e171_41 {ls : mj_L} {st : List Value} {σ : mj_S} {τ : mj_T} {x : Int32} : mj_E 171 41 ls (.int x :: st) σ τ = if x = 0 then mj_E 171 58 ls st σ τ else mj_E 171 44 ls st σ τ := (mj_ifc i171_41).trans (mj_cdT rfl)
theorem i171_44 : mj_ins 171 44 = some (.aload 0, 45) := by decide +kernel
theorem e171_44 {ls : mj_L} {st : List Value} {σ : mj_S} {τ : mj_T} {v : Nat} : mj_E 171 44 (some (.ref v) :: ls) st σ τ = mj_E 171 45 (some (.ref v) :: ls) (.ref v :: st) σ τ := mj_nx i171_44 rfl
theorem i171_45 : mj_ins 171 45 = some (.getfield 735, 48) := by decide +kernel
theorem e171_45 {ls : mj_L} {st : List Value} {σ : mj_S} {τ : mj_T} : mj_E 171 45 ls (.ref 62 :: st) σ τ = mj_E 171 48 ls (.int (σ 62 35) :: st) σ τ := mj_nx i171_45 rfl
theorem i171_48 : mj_ins 171 48 = some (.iload 2, 49) := by decide +kernel
theorem e171_48 {ls : mj_L} {st : List Value} {σ : mj_S} {τ : mj_T} {a0 a1 : Option Value} {v : Int32} : mj_E 171 48 (a0 :: a1 :: some (.int v) :: ls) st σ τ = mj_E 171 49 (a0 :: a1 :: some (.int v) :: ls) (.int v :: st) σ τ := mj_nx i171_48 rfl
theorem i171_49 : mj_ins 171 49 = some (.if_icmp .eq 56, 52) := by decide +kernel
theorem e171_49 {ls : mj_L} {st : List Value} {σ : mj_S} {τ : mj_T} {x y : Int32} : mj_E 171 49 ls (.int y :: .int x :: st) σ τ = if x = y then mj_E 171 56 ls st σ τ else mj_E 171 52 ls st σ τ := (mj_ifi i171_49).trans (mj_cdT rfl)
theorem i171_52 : mj_ins 171 52 = some (.iconst (1), 53) := by decide +kernel
theorem e171_52 {ls : mj_L} {st : List Value} {σ : mj_S} {τ : mj_T} : mj_E 171 52 ls st σ τ = mj_E 171 53 ls (.int (nI 1) :: st) σ τ := mj_nx i171_52 rfl
theorem i171_53 : mj_ins 171 53 = some (.goto 57, 56) := by decide +kernel
theorem e171_53 {ls : mj_L} {st : List Value} {σ : mj_S} {τ : mj_T} : mj_E 171 53 ls st σ τ = mj_E 171 57 ls st σ τ := mj_nx i171_53 rfl
theorem i171_56 : mj_ins 171 56 = some (.iconst (0), 57) := by decide +kernel
theorem e171_56 {ls : mj_L} {st : List Value} {σ : mj_S} {τ : mj_T} : mj_E 171 56 ls st σ τ = mj_E 171 57 ls (.int (nI 0) :: st) σ τ := mj_nx i171_56 rfl
theorem i171_57 : mj_ins 171 57 = some (.ireturn, 58) := by decide +kernel
theorem e171_57 {ls : mj_L} {σ : mj_S} {τ : mj_T} {v : Int32} : mj_E 171 57 ls [.int v] σ τ = if mj_ok (some .boolean) v = true then some (some (.int v), σ, τ) else none := mj_zrt i171_57 rfl
theorem i171_58 : mj_ins 171 58 = some (.aload 0, 59) := by decide +kernel
theorem e171_58 {ls : mj_L} {st : List Value} {σ : mj_S} {τ : mj_T} {v : Nat} : mj_E 171 58 (some (.ref v) :: ls) st σ τ = mj_E 171 59 (some (.ref v) :: ls) (.ref v :: st) σ τ := mj_nx i171_58 rfl
theorem i171_59 : mj_ins 171 59 = some (.getfield 715, 62) := by decide +kernel
theorem e171_59 {ls : mj_L} {st : List Value} {σ : mj_S} {τ : mj_T} : mj_E 171 59 ls (.ref 62 :: st) σ τ = mj_E 171 62 ls (.ref 72 :: st) σ τ := mj_nx i171_59 rfl
theorem i171_62 : mj_ins 171 62 = some (.iload 1, 63) := by decide +kernel
theorem e171_62 {ls : mj_L} {st : List Value} {σ : mj_S} {τ : mj_T} {a0 : Option Value} {v : Int32} : mj_E 171 62 (a0 :: some (.int v) :: ls) st σ τ = mj_E 171 63 (a0 :: some (.int v) :: ls) (.int v :: st) σ τ := mj_nx i171_62 rfl
theorem i171_63 : mj_ins 171 63 = some (.iaload, 64) := by decide +kernel
theorem e171_63 {ls : mj_L} {st : List Value} {σ : mj_S} {τ : mj_T} {x : Int32} {k : Nat} : mj_E 171 63 ls (.int x :: .ref k :: st) σ τ = if mj_ib (mj_li σ k) x = true then mj_E 171 64 ls (.int (σ k x.toNatClampNeg) :: st) σ τ else none := mj_ald i171_63
theorem i171_64 : mj_ins 171 64 = some (.iload 2, 65) := by decide +kernel
theorem e171_64 {ls : mj_L} {st : List Value} {σ : mj_S} {τ : mj_T} {a0 a1 : Option Value} {v : Int32} : mj_E 171 64 (a0 :: a1 :: some (.int v) :: ls) st σ τ = mj_E 171 65 (a0 :: a1 :: some (.int v) :: ls) (.int v :: st) σ τ := mj_nx i171_64 rfl
theorem i171_65 : mj_ins 171 65 = some (.ishr, 66) := by decide +kernel
theorem e171_65 {ls : mj_L} {st : List Value} {σ : mj_S} {τ : mj_T} {x y : Int32} : mj_E 171 65 ls (.int y :: .int x :: st) σ τ = mj_E 171 66 ls (.int (x >>> (y &&& 31)) :: st) σ τ := mj_nx i171_65 rfl
theorem i171_66 : mj_ins 171 66 = some (.iconst (1), 67) := by decide +kernel
theorem e171_66 {ls : mj_L} {st : List Value} {σ : mj_S} {τ : mj_T} : mj_E 171 66 ls st σ τ = mj_E 171 67 ls (.int (nI 1) :: st) σ τ := mj_nx i171_66 rfl
theorem i171_67 : mj_ins 171 67 = some (.iand, 68) := by decide +kernel
theorem e171_67 {ls : mj_L} {st : List Value} {σ : mj_S} {τ : mj_T} {x y : Int32} : mj_E 171 67 ls (.int y :: .int x :: st) σ τ = mj_E 171 68 ls (.int (x &&& y) :: st) σ τ := mj_nx i171_67 rfl
theorem i171_68 : mj_ins 171 68 = some (.iconst (1), 69) := by decide +kernel
theorem e171_68 {ls : mj_L} {st : List Value} {σ : mj_S} {τ : mj_T} : mj_E 171 68 ls st σ τ = mj_E 171 69 ls (.int (nI 1) :: st) σ τ := mj_nx i171_68 rfl
theorem i171_69 : mj_ins 171 69 = some (.if_icmp .ne 88, 72) := by decide +kernel
theorem e171_69 {ls : mj_L} {st : List Value} {σ : mj_S} {τ : mj_T} {x y : Int32} : mj_E 171 69 ls (.int y :: .int x :: st) σ τ = if x = y then mj_E 171 72 ls st σ τ else mj_E 171 88 ls st σ τ := (mj_ifi i171_69).trans (mj_cdF rfl)
theorem i171_72 : mj_ins 171 72 = some (.aload 0, 73) := by decide +kernel
theorem e171_72 {ls : mj_L} {st : List Value} {σ : mj_S} {τ : mj_T} {v : Nat} : mj_E 171 72 (some (.ref v) :: ls) st σ τ = mj_E 171 73 (some (.ref v) :: ls) (.ref v :: st) σ τ := mj_nx i171_72 rfl
theorem i171_73 : mj_ins 171 73 = some (.getfield 736, 76) := by decide +kernel
theorem e171_73 {ls : mj_L} {st : List Value} {σ : mj_S} {τ : mj_T} : mj_E 171 73 ls (.ref 62 :: st) σ τ = mj_E 171 76 ls (.int (σ 62 36) :: st) σ τ := mj_nx i171_73 rfl
theorem i171_76 : mj_ins 171 76 = some (.iload 2, 77) := by decide +kernel
theorem e171_76 {ls : mj_L} {st : List Value} {σ : mj_S} {τ : mj_T} {a0 a1 : Option Value} {v : Int32} : mj_E 171 76 (a0 :: a1 :: some (.int v) :: ls) st σ τ = mj_E 171 77 (a0 :: a1 :: some (.int v) :: ls) (.int v :: st) σ τ := mj_nx i171_76 rfl
theorem i171_77 : mj_ins 171 77 = some (.if_icmp .ne 84, 80) := by decide +kernel
theorem e171_77 {ls : mj_L} {st : List Value} {σ : mj_S} {τ : mj_T} {x y : Int32} : mj_E 171 77 ls (.int y :: .int x :: st) σ τ = if x = y then mj_E 171 80 ls st σ τ else mj_E 171 84 ls st σ τ := (mj_ifi i171_77).trans (mj_cdF rfl)
theorem i171_80 : mj_ins 171 80 = some (.iconst (1), 81) := by decide +kernel
theorem e171_80 {ls : mj_L} {st : List Value} {σ : mj_S} {τ : mj_T} : mj_E 171 80 ls st σ τ = mj_E 171 81 ls (.int (nI 1) :: st) σ τ := mj_nx i171_80 rfl
theorem i171_81 : mj_ins 171 81 = some (.goto 101, 84) := by decide +kernel
theorem e171_81 {ls : mj_L} {st : List Value} {σ : mj_S} {τ : mj_T} : mj_E 171 81 ls st σ τ = mj_E 171 101 ls st σ τ := mj_nx i171_81 rfl
theorem i171_84 : mj_ins 171 84 = some (.iconst (0), 85) := by decide +kernel
theorem e171_84 {ls : mj_L} {st : List Value} {σ : mj_S} {τ : mj_T} : mj_E 171 84 ls st σ τ = mj_E 171 85 ls (.int (nI 0) :: st) σ τ := mj_nx i171_84 rfl
theorem i171_85 : mj_ins 171 85 = some (.goto 101, 88) := by decide +kernel
theorem e171_85 {ls : mj_L} {st : List Value} {σ : mj_S} {τ : mj_T} : mj_E 171 85 ls st σ τ = mj_E 171 101 ls st σ τ := mj_nx i171_85 rfl
theorem i171_88 : mj_ins 171 88 = some (.aload 0, 89) := by decide +kernel
theorem e171_88 {ls : mj_L} {st : List Value} {σ : mj_S} {τ : mj_T} {v : Nat} : mj_E 171 88 (some (.ref v) :: ls) st σ τ = mj_E 171 89 (some (.ref v) :: ls) (.ref v :: st) σ τ := mj_nx i171_88 rfl
theorem i171_89 : mj_ins 171 89 = some (.getfield 737, 92) := by decide +kernel
theorem e171_89 {ls : mj_L} {st : List Value} {σ : mj_S} {τ : mj_T} : mj_E 171 89 ls (.ref 62 :: st) σ τ = mj_E 171 92 ls (.int (σ 62 37) :: st) σ τ := mj_nx i171_89 rfl
theorem i171_92 : mj_ins 171 92 = some (.iload 2, 93) := by decide +kernel
theorem e171_92 {ls : mj_L} {st : List Value} {σ : mj_S} {τ : mj_T} {a0 a1 : Option Value} {v : Int32} : mj_E 171 92 (a0 :: a1 :: some (.int v) :: ls) st σ τ = mj_E 171 93 (a0 :: a1 :: some (.int v) :: ls) (.int v :: st) σ τ := mj_nx i171_92 rfl
theorem i171_93 : mj_ins 171 93 = some (.if_icmp .ne 100, 96) := by decide +kernel
theorem e171_93 {ls : mj_L} {st : List Value} {σ : mj_S} {τ : mj_T} {x y : Int32} : mj_E 171 93 ls (.int y :: .int x :: st) σ τ = if x = y then mj_E 171 96 ls st σ τ else mj_E 171 100 ls st σ τ := (mj_ifi i171_93).trans (mj_cdF rfl)
theorem i171_96 : mj_ins 171 96 = some (.iconst (1), 97) := by decide +kernel
theorem e171_96 {ls : mj_L} {st : List Value} {σ : mj_S} {τ : mj_T} : mj_E 171 96 ls st σ τ = mj_E 171 97 ls (.int (nI 1) :: st) σ τ := mj_nx i171_96 rfl
theorem i171_97 : mj_ins 171 97 = some (.goto 101, 100) := by decide +kernel
theorem e171_97 {ls : mj_L} {st : List Value} {σ : mj_S} {τ : mj_T} : mj_E 171 97 ls st σ τ = mj_E 171 101 ls st σ τ := mj_nx i171_97 rfl
theorem i171_100 : mj_ins 171 100 = some (.iconst (0), 101) := by decide +kernel
theorem e171_100 {ls : mj_L} {st : List Value} {σ : mj_S} {τ : mj_T} : mj_E 171 100 ls st σ τ = mj_E 171 101 ls (.int (nI 0) :: st) σ τ := mj_nx i171_100 rfl
theorem i171_101 : mj_ins 171 101 = some (.ireturn, 102) := by decide +kernel
theorem e171_101 {ls : mj_L} {σ : mj_S} {τ : mj_T} {v : Int32} : mj_E 171 101 ls [.int v] σ τ = if mj_ok (some .boolean) v = true then some (some (.int v), σ, τ) else none := mj_zrt i171_101 rfl
theorem c172 {σ : mj_S} {τ : mj_T} {r : Nat} {x0 : Int32} {x1 : Int32} {x2 : Int32} : mj_C 172 [.ref r, .int x0, .int x1, .int x2] σ τ = mj_E 172 0 [some (.ref r), some (.int x0), some (.int x1), some (.int x2), none] [] σ τ := rfl
theorem i172_0 : mj_ins 172 0 = some (.aload 0, 1) := by decide +kernel
theorem e172_0 {ls : mj_L} {st : List Value} {σ : mj_S} {τ : mj_T} {v : Nat} : mj_E 172 0 (some (.ref v) :: ls) st σ τ = mj_E 172 1 (some (.ref v) :: ls) (.ref v :: st) σ τ := mj_nx i172_0 rfl
theorem i172_1 : mj_ins 172 1 = some (.iload 1, 2) := by decide +kernel
theorem e172_1 {ls : mj_L} {st : List Value} {σ : mj_S} {τ : mj_T} {a0 : Option Value} {v : Int32} : mj_E 172 1 (a0 :: some (.int v) :: ls) st σ τ = mj_E 172 2 (a0 :: some (.int v) :: ls) (.int v :: st) σ τ := mj_nx i172_1 rfl
theorem i172_2 : mj_ins 172 2 = some (.invokevirtual 120, 5) := by decide +kernel
theorem e172_2 {ls : mj_L} {σ : mj_S} {τ : mj_T} {r : Nat} {x0 : Int32} : mj_E 172 2 ls [.int x0, .ref r] σ τ = if mj_rcv r 7 = true then mj_bd (mj_C 120 [.ref r, .int x0] σ τ) (mj_K 172 5 ls []) else none := mj_clV (as := [.int x0]) (r := []) i172_2 (by decide +kernel : mj_vk 172 120 1 0 2 false = true) (by decide +kernel)
theorem i172_5 : mj_ins 172 5 = some (.ifCond .eq 16, 8) := by decide +kernel
theorem e172_5 {ls : mj_L} {st : List Value} {σ : mj_S} {τ : mj_T} {x : Int32} : mj_E 172 5 ls (.int x :: st) σ τ = if x = 0 then mj_E 172 16 ls st σ τ else mj_E 172 8 ls st σ τ := (mj_ifc i172_5).trans (mj_cdT rfl)
theorem i172_8 : mj_ins 172 8 = some (.aload 0, 9) := by decide +kernel
theorem e172_8 {ls : mj_L} {st : List Value} {σ : mj_S} {τ : mj_T} {v : Nat} : mj_E 172 8 (some (.ref v) :: ls) st σ τ = mj_E 172 9 (some (.ref v) :: ls) (.ref v :: st) σ τ := mj_nx i172_8 rfl
theorem i172_9 : mj_ins 172 9 = some (.iload 2, 10) := by decide +kernel
theorem e172_9 {ls : mj_L} {st : List Value} {σ : mj_S} {τ : mj_T} {a0 a1 : Option Value} {v : Int32} : mj_E 172 9 (a0 :: a1 :: some (.int v) :: ls) st σ τ = mj_E 172 10 (a0 :: a1 :: some (.int v) :: ls) (.int v :: st) σ τ := mj_nx i172_9 rfl
theorem i172_10 : mj_ins 172 10 = some (.invokevirtual 121, 13) := by decide +kernel
theorem e172_10 {ls : mj_L} {σ : mj_S} {τ : mj_T} {r : Nat} {x0 : Int32} : mj_E 172 10 ls [.int x0, .ref r] σ τ = if mj_rcv r 7 = true then mj_bd (mj_C 121 [.ref r, .int x0] σ τ) (mj_K 172 13 ls []) else none := mj_clV (as := [.int x0]) (r := []) i172_10 (by decide +kernel : mj_vk 172 121 1 0 2 false = true) (by decide +kernel)
theorem i172_13 : mj_ins 172 13 = some (.ifCond .ne 22, 16) := by decide +kernel
theorem e172_13 {ls : mj_L} {st : List Value} {σ : mj_S} {τ : mj_T} {x : Int32} : mj_E 172 13 ls (.int x :: st) σ τ = if x = 0 then mj_E 172 16 ls st σ τ else mj_E 172 22 ls st σ τ := (mj_ifc i172_13).trans (mj_cdF rfl)
theorem i172_16 : mj_ins 172 16 = some (.aload 0, 17) := by decide +kernel
theorem e172_16 {ls : mj_L} {st : List Value} {σ : mj_S} {τ : mj_T} {v : Nat} : mj_E 172 16 (some (.ref v) :: ls) st σ τ = mj_E 172 17 (some (.ref v) :: ls) (.ref v :: st) σ τ := mj_nx i172_16 rfl
theorem i172_17 : mj_ins 172 17 = some (.iconst (-1), 18) := by decide +kernel
theorem e172_17 {ls : mj_L} {st : List Value} {σ : mj_S} {τ : mj_T} : mj_E 172 17 ls st σ τ = mj_E 172 18 ls (.int ((-1)) :: st) σ τ := mj_nx i172_17 rfl
theorem i172_18 : mj_ins 172 18 = some (.invokevirtual 118, 21) := by decide +kernel
theorem e172_18 {ls : mj_L} {σ : mj_S} {τ : mj_T} {r : Nat} {x0 : Int32} : mj_E 172 18 ls [.int x0, .ref r] σ τ = if mj_rcv r 7 = true then mj_bd (mj_C 118 [.ref r, .int x0] σ τ) (mj_K 172 21 ls []) else none := mj_clV (as := [.int x0]) (r := []) i172_18 (by decide +kernel : mj_vk 172 118 1 0 2 false = true) (by decide +kernel)
theorem i172_21 : mj_ins 172 21 = some (.ireturn, 22) := by decide +kernel
theorem e172_21 {ls : mj_L} {σ : mj_S} {τ : mj_T} {v : Int32} : mj_E 172 21 ls [.int v] σ τ = some (some (.int v), σ, τ) := mj_irt i172_21 rfl
theorem i172_22 : mj_ins 172 22 = some (.iload 3, 23) := by decide +kernel
theorem e172_22 {ls : mj_L} {st : List Value} {σ : mj_S} {τ : mj_T} {a0 a1 a2 : Option Value} {v : Int32} : mj_E 172 22 (a0 :: a1 :: a2 :: some (.int v) :: ls) st σ τ = mj_E 172 23 (a0 :: a1 :: a2 :: some (.int v) :: ls) (.int v :: st) σ τ := mj_nx i172_22 rfl
theorem i172_23 : mj_ins 172 23 = some (.ifCond .lt 31, 26) := by decide +kernel
theorem e172_23 {ls : mj_L} {st : List Value} {σ : mj_S} {τ : mj_T} {x : Int32} : mj_E 172 23 ls (.int x :: st) σ τ = if x < 0 then mj_E 172 31 ls st σ τ else mj_E 172 26 ls st σ τ := (mj_ifc i172_23).trans (mj_cdT rfl)
theorem i172_26 : mj_ins 172 26 = some (.iload 3, 27) := by decide +kernel
theorem e172_26 {ls : mj_L} {st : List Value} {σ : mj_S} {τ : mj_T} {a0 a1 a2 : Option Value} {v : Int32} : mj_E 172 26 (a0 :: a1 :: a2 :: some (.int v) :: ls) st σ τ = mj_E 172 27 (a0 :: a1 :: a2 :: some (.int v) :: ls) (.int v :: st) σ τ := mj_nx i172_26 rfl
theorem i172_27 : mj_ins 172 27 = some (.iconst (1), 28) := by decide +kernel
theorem e172_27 {ls : mj_L} {st : List Value} {σ : mj_S} {τ : mj_T} : mj_E 172 27 ls st σ τ = mj_E 172 28 ls (.int (nI 1) :: st) σ τ := mj_nx i172_27 rfl
theorem i172_28 : mj_ins 172 28 = some (.if_icmp .le 38, 31) := by decide +kernel
theorem e172_28 {ls : mj_L} {st : List Value} {σ : mj_S} {τ : mj_T} {x y : Int32} : mj_E 172 28 ls (.int y :: .int x :: st) σ τ = if x ≤ y then mj_E 172 38 ls st σ τ else mj_E 172 31 ls st σ τ := (mj_ifi i172_28).trans (mj_cdT rfl)
theorem i172_31 : mj_ins 172 31 = some (.aload 0, 32) := by decide +kernel
theorem e172_31 {ls : mj_L} {st : List Value} {σ : mj_S} {τ : mj_T} {v : Nat} : mj_E 172 31 (some (.ref v) :: ls) st σ τ = mj_E 172 32 (some (.ref v) :: ls) (.ref v :: st) σ τ := mj_nx i172_31 rfl
theorem i172_32 : mj_ins 172 32 = some (.iconst (-5), 34) := by decide +kernel
theorem e172_32 {ls : mj_L} {st : List Value} {σ : mj_S} {τ : mj_T} : mj_E 172 32 ls st σ τ = mj_E 172 34 ls (.int ((-5)) :: st) σ τ := mj_nx i172_32 rfl
theorem i172_34 : mj_ins 172 34 = some (.invokevirtual 118, 37) := by decide +kernel
theorem e172_34 {ls : mj_L} {σ : mj_S} {τ : mj_T} {r : Nat} {x0 : Int32} : mj_E 172 34 ls [.int x0, .ref r] σ τ = if mj_rcv r 7 = true then mj_bd (mj_C 118 [.ref r, .int x0] σ τ) (mj_K 172 37 ls []) else none := mj_clV (as := [.int x0]) (r := []) i172_34 (by decide +kernel : mj_vk 172 118 1 0 2 false = true) (by decide +kernel)
theorem i172_37 : mj_ins 172 37 = some (.ireturn, 38) := by decide +kernel
theorem e172_37 {ls : mj_L} {σ : mj_S} {τ : mj_T} {v : Int32} : mj_E 172 37 ls [.int v] σ τ = some (some (.int v), σ, τ) := mj_irt i172_37 rfl
theorem i172_38 : mj_ins 172 38 = some (.aload 0, 39) := by decide +kernel
theorem e172_38 {ls : mj_L} {st : List Value} {σ : mj_S} {τ : mj_T} {v : Nat} : mj_E 172 38 (some (.ref v) :: ls) st σ τ = mj_E 172 39 (some (.ref v) :: ls) (.ref v :: st) σ τ := mj_nx i172_38 rfl
theorem i172_39 : mj_ins 172 39 = some (.getfield 707, 42) := by decide +kernel
theorem e172_39 {ls : mj_L} {st : List Value} {σ : mj_S} {τ : mj_T} : mj_E 172 39 ls (.ref 62 :: st) σ τ = mj_E 172 42 ls (.ref 64 :: st) σ τ := mj_nx i172_39 rfl
theorem i172_42 : mj_ins 172 42 = some (.iload 1, 43) := by decide +kernel
theorem e172_42 {ls : mj_L} {st : List Value} {σ : mj_S} {τ : mj_T} {a0 : Option Value} {v : Int32} : mj_E 172 42 (a0 :: some (.int v) :: ls) st σ τ = mj_E 172 43 (a0 :: some (.int v) :: ls) (.int v :: st) σ τ := mj_nx i172_42 rfl
theorem i172_43 : mj_ins 172 43 = some (.iaload, 44) := by decide +kernel
theorem e172_43 {ls : mj_L} {st : List Value} {σ : mj_S} {τ : mj_T} {x : Int32} {k : Nat} : mj_E 172 43 ls (.int x :: .ref k :: st) σ τ = if mj_ib (mj_li σ k) x = true then mj_E 172 44 ls (.int (σ k x.toNatClampNeg) :: st) σ τ else none := mj_ald i172_43
theorem i172_44 : mj_ins 172 44 = some (.iconst (4), 45) := by decide +kernel
theorem e172_44 {ls : mj_L} {st : List Value} {σ : mj_S} {τ : mj_T} : mj_E 172 44 ls st σ τ = mj_E 172 45 ls (.int (nI 4) :: st) σ τ := mj_nx i172_44 rfl
theorem i172_45 : mj_ins 172 45 = some (.if_icmp .eq 66, 48) := by decide +kernel
theorem e172_45 {ls : mj_L} {st : List Value} {σ : mj_S} {τ : mj_T} {x y : Int32} : mj_E 172 45 ls (.int y :: .int x :: st) σ τ = if x = y then mj_E 172 66 ls st σ τ else mj_E 172 48 ls st σ τ := (mj_ifi i172_45).trans (mj_cdT rfl)
theorem i172_48 : mj_ins 172 48 = some (.iload 3, 49) := by decide +kernel
theorem e172_48 {ls : mj_L} {st : List Value} {σ : mj_S} {τ : mj_T} {a0 a1 a2 : Option Value} {v : Int32} : mj_E 172 48 (a0 :: a1 :: a2 :: some (.int v) :: ls) st σ τ = mj_E 172 49 (a0 :: a1 :: a2 :: some (.int v) :: ls) (.int v :: st) σ τ := mj_nx i172_48 rfl
theorem i172_49 : mj_ins 172 49 = some (.iconst (1), 50) := by decide +kernel
theorem e172_49 {ls : mj_L} {st : List Value} {σ : mj_S} {τ : mj_T} : mj_E 172 49 ls st σ τ = mj_E 172 50 ls (.int (nI 1) :: st) σ τ := mj_nx i172_49 rfl
theorem i172_50 : mj_ins 172 50 = some (.if_icmp .ne 73, 53) := by decide +kernel
theorem e172_50 {ls : mj_L} {st : List Value} {σ : mj_S} {τ : mj_T} {x y : Int32} : mj_E 172 50 ls (.int y :: .int x :: st) σ τ = if x = y then mj_E 172 53 ls st σ τ else mj_E 172 73 ls st σ τ := (mj_ifi i172_50).trans (mj_cdF rfl)
theorem i172_53 : mj_ins 172 53 = some (.aload 0, 54) := by decide +kernel
theorem e172_53 {ls : mj_L} {st : List Value} {σ : mj_S} {τ : mj_T} {v : Nat} : mj_E 172 53 (some (.ref v) :: ls) st σ τ = mj_E 172 54 (some (.ref v) :: ls) (.ref v :: st) σ τ := mj_nx i172_53 rfl
theorem i172_54 : mj_ins 172 54 = some (.getfield 715, 57) := by decide +kernel
theorem e172_54 {ls : mj_L} {st : List Value} {σ : mj_S} {τ : mj_T} : mj_E 172 54 ls (.ref 62 :: st) σ τ = mj_E 172 57 ls (.ref 72 :: st) σ τ := mj_nx i172_54 rfl
theorem i172_57 : mj_ins 172 57 = some (.iload 2, 58) := by decide +kernel
theorem e172_57 {ls : mj_L} {st : List Value} {σ : mj_S} {τ : mj_T} {a0 a1 : Option Value} {v : Int32} : mj_E 172 57 (a0 :: a1 :: some (.int v) :: ls) st σ τ = mj_E 172 58 (a0 :: a1 :: some (.int v) :: ls) (.int v :: st) σ τ := mj_nx i172_57 rfl
theorem i172_58 : mj_ins 172 58 = some (.iaload, 59) := by decide +kernel
theorem e172_58 {ls : mj_L} {st : List Value} {σ : mj_S} {τ : mj_T} {x : Int32} {k : Nat} : mj_E 172 58 ls (.int x :: .ref k :: st) σ τ = if mj_ib (mj_li σ k) x = true then mj_E 172 59 ls (.int (σ k x.toNatClampNeg) :: st) σ τ else none := mj_ald i172_58
theorem i172_59 : mj_ins 172 59 = some (.iload 1, 60) := by decide +kernel
theorem e172_59 {ls : mj_L} {st : List Value} {σ : mj_S} {τ : mj_T} {a0 : Option Value} {v : Int32} : mj_E 172 59 (a0 :: some (.int v) :: ls) st σ τ = mj_E 172 60 (a0 :: some (.int v) :: ls) (.int v :: st) σ τ := mj_nx i172_59 rfl
theorem i172_60 : mj_ins 172 60 = some (.ishr, 61) := by decide +kernel
theorem e172_60 {ls : mj_L} {st : List Value} {σ : mj_S} {τ : mj_T} {x y : Int32} : mj_E 172 60 ls (.int y :: .int x :: st) σ τ = mj_E 172 61 ls (.int (x >>> (y &&& 31)) :: st) σ τ := mj_nx i172_60 rfl
theorem i172_61 : mj_ins 172 61 = some (.iconst (1), 62) := by decide +kernel
theorem e172_61 {ls : mj_L} {st : List Value} {σ : mj_S} {τ : mj_T} : mj_E 172 61 ls st σ τ = mj_E 172 62 ls (.int (nI 1) :: st) σ τ := mj_nx i172_61 rfl
theorem i172_62 : mj_ins 172 62 = some (.iand, 63) := by decide +kernel
theorem e172_62 {ls : mj_L} {st : List Value} {σ : mj_S} {τ : mj_T} {x y : Int32} : mj_E 172 62 ls (.int y :: .int x :: st) σ τ = mj_E 172 63 ls (.int (x &&& y) :: st) σ τ := mj_nx i172_62 rfl
theorem i172_63 : mj_ins 172 63 = some (.ifCond .ne 73, 66) := by decide +kernel
theorem e172_63 {ls : mj_L} {st : List Value} {σ : mj_S} {τ : mj_T} {x : Int32} : mj_E 172 63 ls (.int x :: st) σ τ = if x = 0 then mj_E 172 66 ls st σ τ else mj_E 172 73 ls st σ τ := (mj_ifc i172_63).trans (mj_cdF rfl)
theorem i172_66 : mj_ins 172 66 = some (.aload 0, 67) := by decide +kernel
theorem e172_66 {ls : mj_L} {st : List Value} {σ : mj_S} {τ : mj_T} {v : Nat} : mj_E 172 66 (some (.ref v) :: ls) st σ τ = mj_E 172 67 (some (.ref v) :: ls) (.ref v :: st) σ τ := mj_nx i172_66 rfl
theorem i172_67 : mj_ins 172 67 = some (.iconst (-6), 69) := by decide +kernel
theorem e172_67 {ls : mj_L} {st : List Value} {σ : mj_S} {τ : mj_T} : mj_E 172 67 ls st σ τ = mj_E 172 69 ls (.int ((-6)) :: st) σ τ := mj_nx i172_67 rfl
theorem i172_69 : mj_ins 172 69 = some (.invokevirtual 118, 72) := by decide +kernel
theorem e172_69 {ls : mj_L} {σ : mj_S} {τ : mj_T} {r : Nat} {x0 : Int32} : mj_E 172 69 ls [.int x0, .ref r] σ τ = if mj_rcv r 7 = true then mj_bd (mj_C 118 [.ref r, .int x0] σ τ) (mj_K 172 72 ls []) else none := mj_clV (as := [.int x0]) (r := []) i172_69 (by decide +kernel : mj_vk 172 118 1 0 2 false = true) (by decide +kernel)
theorem i172_72 : mj_ins 172 72 = some (.ireturn, 73) := by decide +kernel
theorem e172_72 {ls : mj_L} {σ : mj_S} {τ : mj_T} {v : Int32} : mj_E 172 72 ls [.int v] σ τ = some (some (.int v), σ, τ) := mj_irt i172_72 rfl
theorem i172_73 : mj_ins 172 73 = some (.iconst (0), 74) := by decide +kernel
theorem e172_73 {ls : mj_L} {st : List Value} {σ : mj_S} {τ : mj_T} : mj_E 172 73 ls st σ τ = mj_E 172 74 ls (.int (nI 0) :: st) σ τ := mj_nx i172_73 rfl
theorem i172_74 : mj_ins 172 74 = some (.istore 4, 76) := by decide +kernel
theorem e172_74 {ls : mj_L} {st : List Value} {σ : mj_S} {τ : mj_T} {a0 a1 a2 a3 a4 : Option Value} {v : Int32} : mj_E 172 74 (a0 :: a1 :: a2 :: a3 :: a4 :: ls) (.int v :: st) σ τ = mj_E 172 76 (a0 :: a1 :: a2 :: a3 :: some (.int v) :: ls) st σ τ := mj_nx i172_74 rfl
theorem i172_76 : mj_ins 172 76 = some (.iload 4, 78) := by decide +kernel
theorem e172_76 {ls : mj_L} {st : List Value} {σ : mj_S} {τ : mj_T} {a0 a1 a2 a3 : Option Value} {v : Int32} : mj_E 172 76 (a0 :: a1 :: a2 :: a3 :: some (.int v) :: ls) st σ τ = mj_E 172 78 (a0 :: a1 :: a2 :: a3 :: some (.int v) :: ls) (.int v :: st) σ τ := mj_nx i172_76 rfl
theorem i172_78 : mj_ins 172 78 = some (.iconst (20), 80) := by decide +kernel
theorem e172_78 {ls : mj_L} {st : List Value} {σ : mj_S} {τ : mj_T} : mj_E 172 78 ls st σ τ = mj_E 172 80 ls (.int (nI 20) :: st) σ τ := mj_nx i172_78 rfl
theorem i172_80 : mj_ins 172 80 = some (.if_icmp .gt 113, 83) := by decide +kernel
theorem e172_80 {ls : mj_L} {st : List Value} {σ : mj_S} {τ : mj_T} {x y : Int32} : mj_E 172 80 ls (.int y :: .int x :: st) σ τ = if y < x then mj_E 172 113 ls st σ τ else mj_E 172 83 ls st σ τ := (mj_ifi i172_80).trans (mj_cdT rfl)
theorem i172_83 : mj_ins 172 83 = some (.aload 0, 84) := by decide +kernel
theorem e172_83 {ls : mj_L} {st : List Value} {σ : mj_S} {τ : mj_T} {v : Nat} : mj_E 172 83 (some (.ref v) :: ls) st σ τ = mj_E 172 84 (some (.ref v) :: ls) (.ref v :: st) σ τ := mj_nx i172_83 rfl
theorem i172_84 : mj_ins 172 84 = some (.iload 2, 85) := by decide +kernel
theorem e172_84 {ls : mj_L} {st : List Value} {σ : mj_S} {τ : mj_T} {a0 a1 : Option Value} {v : Int32} : mj_E 172 84 (a0 :: a1 :: some (.int v) :: ls) st σ τ = mj_E 172 85 (a0 :: a1 :: some (.int v) :: ls) (.int v :: st) σ τ := mj_nx i172_84 rfl
theorem i172_85 : mj_ins 172 85 = some (.iload 1, 86) := by decide +kernel
theorem e172_85 {ls : mj_L} {st : List Value} {σ : mj_S} {τ : mj_T} {a0 : Option Value} {v : Int32} : mj_E 172 85 (a0 :: some (.int v) :: ls) st σ τ = mj_E 172 86 (a0 :: some (.int v) :: ls) (.int v :: st) σ τ := mj_nx i172_85 rfl
theorem i172_86 : mj_ins 172 86 = some (.iload 4, 88) := by decide +kernel
theorem e172_86 {ls : mj_L} {st : List Value} {σ : mj_S} {τ : mj_T} {a0 a1 a2 a3 : Option Value} {v : Int32} : mj_E 172 86 (a0 :: a1 :: a2 :: a3 :: some (.int v) :: ls) st σ τ = mj_E 172 88 (a0 :: a1 :: a2 :: a3 :: some (.int v) :: ls) (.int v :: st) σ τ := mj_nx i172_86 rfl
theorem i172_88 : mj_ins 172 88 = some (.iload 3, 89) := by decide +kernel
theorem e172_88 {ls : mj_L} {st : List Value} {σ : mj_S} {τ : mj_T} {a0 a1 a2 : Option Value} {v : Int32} : mj_E 172 88 (a0 :: a1 :: a2 :: some (.int v) :: ls) st σ τ = mj_E 172 89 (a0 :: a1 :: a2 :: some (.int v) :: ls) (.int v :: st) σ τ := mj_nx i172_88 rfl
theorem i172_89 : mj_ins 172 89 = some (.iconst (1), 90) := by decide +kernel
theorem e172_89 {ls : mj_L} {st : List Value} {σ : mj_S} {τ : mj_T} : mj_E 172 89 ls st σ τ = mj_E 172 90 ls (.int (nI 1) :: st) σ τ := mj_nx i172_89 rfl
theorem i172_90 : mj_ins 172 90 = some (.if_icmp .ne 97, 93) := by decide +kernel
theorem e172_90 {ls : mj_L} {st : List Value} {σ : mj_S} {τ : mj_T} {x y : Int32} : mj_E 172 90 ls (.int y :: .int x :: st) σ τ = if x = y then mj_E 172 93 ls st σ τ else mj_E 172 97 ls st σ τ := (mj_ifi i172_90).trans (mj_cdF rfl)
theorem i172_93 : mj_ins 172 93 = some (.iconst (1), 94) := by decide +kernel
theorem e172_93 {ls : mj_L} {st : List Value} {σ : mj_S} {τ : mj_T} : mj_E 172 93 ls st σ τ = mj_E 172 94 ls (.int (nI 1) :: st) σ τ := mj_nx i172_93 rfl
theorem i172_94 : mj_ins 172 94 = some (.goto 98, 97) := by decide +kernel
theorem e172_94 {ls : mj_L} {st : List Value} {σ : mj_S} {τ : mj_T} : mj_E 172 94 ls st σ τ = mj_E 172 98 ls st σ τ := mj_nx i172_94 rfl
theorem i172_97 : mj_ins 172 97 = some (.iconst (0), 98) := by decide +kernel
theorem e172_97 {ls : mj_L} {st : List Value} {σ : mj_S} {τ : mj_T} : mj_E 172 97 ls st σ τ = mj_E 172 98 ls (.int (nI 0) :: st) σ τ := mj_nx i172_97 rfl
theorem i172_98 : mj_ins 172 98 = some (.invokevirtual 171, 101) := by decide +kernel
theorem e172_98 {ls : mj_L} {σ : mj_S} {τ : mj_T} {r : Nat} {x0 : Int32} {x1 : Int32} {x2 : Int32} {x3 : Int32} : mj_E 172 98 ls [.int x3, .int x2, .int x1, .int x0, .ref r] σ τ = if mj_rcv r 7 = true then mj_bd (mj_C 171 [.ref r, .int x0, .int x1, .int x2, .int x3] σ τ) (mj_K 172 101 ls []) else none := mj_clV (as := [.int x0, .int x1, .int x2, .int x3]) (r := []) i172_98 (by decide +kernel : mj_vk 172 171 4 0 5 false = true) (by decide +kernel)
theorem i172_101 : mj_ins 172 101 = some (.ifCond .eq 107, 104) := by decide +kernel
theorem e172_101 {ls : mj_L} {st : List Value} {σ : mj_S} {τ : mj_T} {x : Int32} : mj_E 172 101 ls (.int x :: st) σ τ = if x = 0 then mj_E 172 107 ls st σ τ else mj_E 172 104 ls st σ τ := (mj_ifc i172_101).trans (mj_cdT rfl)
theorem i172_104 : mj_ins 172 104 = some (.iload 4, 106) := by decide +kernel
theorem e172_104 {ls : mj_L} {st : List Value} {σ : mj_S} {τ : mj_T} {a0 a1 a2 a3 : Option Value} {v : Int32} : mj_E 172 104 (a0 :: a1 :: a2 :: a3 :: some (.int v) :: ls) st σ τ = mj_E 172 106 (a0 :: a1 :: a2 :: a3 :: some (.int v) :: ls) (.int v :: st) σ τ := mj_nx i172_104 rfl
theorem i172_106 : mj_ins 172 106 = some (.ireturn, 107) := by decide +kernel
theorem e172_106 {ls : mj_L} {σ : mj_S} {τ : mj_T} {v : Int32} : mj_E 172 106 ls [.int v] σ τ = some (some (.int v), σ, τ) := mj_irt i172_106 rfl
theorem i172_107 : mj_ins 172 107 = some (.iinc 4 (1), 110) := by decide +kernel
theorem e172_107 {ls : mj_L} {st : List Value} {σ : mj_S} {τ : mj_T} {a0 a1 a2 a3 : Option Value} {v : Int32} : mj_E 172 107 (a0 :: a1 :: a2 :: a3 :: some (.int v) :: ls) st σ τ = mj_E 172 110 (a0 :: a1 :: a2 :: a3 :: some (.int (v + nI 1)) :: ls) st σ τ := mj_nx i172_107 rfl
theorem i172_110 : mj_ins 172 110 = some (.goto 76, 113) := by decide +kernel
theorem e172_110 {ls : mj_L} {st : List Value} {σ : mj_S} {τ : mj_T} : mj_E 172 110 ls st σ τ = mj_E 172 76 ls st σ τ := mj_nx i172_110 rfl
theorem i172_113 : mj_ins 172 113 = some (.iconst (-1), 114) := by decide +kernel
theorem e172_113 {ls : mj_L} {st : List Value} {σ : mj_S} {τ : mj_T} : mj_E 172 113 ls st σ τ = mj_E 172 114 ls (.int ((-1)) :: st) σ τ := mj_nx i172_113 rfl
theorem i172_114 : mj_ins 172 114 = some (.ireturn, 115) := by decide +kernel
theorem e172_114 {ls : mj_L} {σ : mj_S} {τ : mj_T} {v : Int32} : mj_E 172 114 ls [.int v] σ τ = some (some (.int v), σ, τ) := mj_irt i172_114 rfl
theorem c173 {σ : mj_S} {τ : mj_T} {r : Nat} {x0 : Int32} {x1 : Int32} {x2 : Int32} : mj_C 173 [.ref r, .int x0, .int x1, .int x2] σ τ = mj_E 173 0 [some (.ref r), some (.int x0), some (.int x1), some (.int x2)] [] σ τ := rfl
theorem i173_0 : mj_ins 173 0 = some (.aload 0, 1) := by decide +kernel
theorem e173_0 {ls : mj_L} {st : List Value} {σ : mj_S} {τ : mj_T} {v : Nat} : mj_E 173 0 (some (.ref v) :: ls) st σ τ = mj_E 173 1 (some (.ref v) :: ls) (.ref v :: st) σ τ := mj_nx i173_0 rfl
theorem i173_1 : mj_ins 173 1 = some (.iload 1, 2) := by decide +kernel
theorem e173_1 {ls : mj_L} {st : List Value} {σ : mj_S} {τ : mj_T} {a0 : Option Value} {v : Int32} : mj_E 173 1 (a0 :: some (.int v) :: ls) st σ τ = mj_E 173 2 (a0 :: some (.int v) :: ls) (.int v :: st) σ τ := mj_nx i173_1 rfl
theorem i173_2 : mj_ins 173 2 = some (.iload 2, 3) := by decide +kernel
theorem e173_2 {ls : mj_L} {st : List Value} {σ : mj_S} {τ : mj_T} {a0 a1 : Option Value} {v : Int32} : mj_E 173 2 (a0 :: a1 :: some (.int v) :: ls) st σ τ = mj_E 173 3 (a0 :: a1 :: some (.int v) :: ls) (.int v :: st) σ τ := mj_nx i173_2 rfl
theorem i173_3 : mj_ins 173 3 = some (.aload 0, 4) := by decide +kernel
theorem e173_3 {ls : mj_L} {st : List Value} {σ : mj_S} {τ : mj_T} {v : Nat} : mj_E 173 3 (some (.ref v) :: ls) st σ τ = mj_E 173 4 (some (.ref v) :: ls) (.ref v :: st) σ τ := mj_nx i173_3 rfl
theorem i173_4 : mj_ins 173 4 = some (.iload 1, 5) := by decide +kernel
theorem e173_4 {ls : mj_L} {st : List Value} {σ : mj_S} {τ : mj_T} {a0 : Option Value} {v : Int32} : mj_E 173 4 (a0 :: some (.int v) :: ls) st σ τ = mj_E 173 5 (a0 :: some (.int v) :: ls) (.int v :: st) σ τ := mj_nx i173_4 rfl
theorem i173_5 : mj_ins 173 5 = some (.iload 2, 6) := by decide +kernel
theorem e173_5 {ls : mj_L} {st : List Value} {σ : mj_S} {τ : mj_T} {a0 a1 : Option Value} {v : Int32} : mj_E 173 5 (a0 :: a1 :: some (.int v) :: ls) st σ τ = mj_E 173 6 (a0 :: a1 :: some (.int v) :: ls) (.int v :: st) σ τ := mj_nx i173_5 rfl
theorem i173_6 : mj_ins 173 6 = some (.iload 3, 7) := by decide +kernel
theorem e173_6 {ls : mj_L} {st : List Value} {σ : mj_S} {τ : mj_T} {a0 a1 a2 : Option Value} {v : Int32} : mj_E 173 6 (a0 :: a1 :: a2 :: some (.int v) :: ls) st σ τ = mj_E 173 7 (a0 :: a1 :: a2 :: some (.int v) :: ls) (.int v :: st) σ τ := mj_nx i173_6 rfl
theorem i173_7 : mj_ins 173 7 = some (.aload 0, 8) := by decide +kernel
theorem e173_7 {ls : mj_L} {st : List Value} {σ : mj_S} {τ : mj_T} {v : Nat} : mj_E 173 7 (some (.ref v) :: ls) st σ τ = mj_E 173 8 (some (.ref v) :: ls) (.ref v :: st) σ τ := mj_nx i173_7 rfl
theorem i173_8 : mj_ins 173 8 = some (.getfield 713, 11) := by decide +kernel
theorem e173_8 {ls : mj_L} {st : List Value} {σ : mj_S} {τ : mj_T} : mj_E 173 8 ls (.ref 62 :: st) σ τ = mj_E 173 11 ls (.ref 70 :: st) σ τ := mj_nx i173_8 rfl
theorem i173_11 : mj_ins 173 11 = some (.iload 1, 12) := by decide +kernel
theorem e173_11 {ls : mj_L} {st : List Value} {σ : mj_S} {τ : mj_T} {a0 : Option Value} {v : Int32} : mj_E 173 11 (a0 :: some (.int v) :: ls) st σ τ = mj_E 173 12 (a0 :: some (.int v) :: ls) (.int v :: st) σ τ := mj_nx i173_11 rfl
theorem i173_12 : mj_ins 173 12 = some (.iaload, 13) := by decide +kernel
theorem e173_12 {ls : mj_L} {st : List Value} {σ : mj_S} {τ : mj_T} {x : Int32} {k : Nat} : mj_E 173 12 ls (.int x :: .ref k :: st) σ τ = if mj_ib (mj_li σ k) x = true then mj_E 173 13 ls (.int (σ k x.toNatClampNeg) :: st) σ τ else none := mj_ald i173_12
theorem i173_13 : mj_ins 173 13 = some (.imul, 14) := by decide +kernel
theorem e173_13 {ls : mj_L} {st : List Value} {σ : mj_S} {τ : mj_T} {x y : Int32} : mj_E 173 13 ls (.int y :: .int x :: st) σ τ = mj_E 173 14 ls (.int (x * y) :: st) σ τ := mj_nx i173_13 rfl
theorem i173_14 : mj_ins 173 14 = some (.invokevirtual 138, 17) := by decide +kernel
theorem e173_14 {ls : mj_L} {σ : mj_S} {τ : mj_T} {r : Nat} {x0 : Int32} {x1 : Int32} {x2 : Int32} {w0 w1 w2 : Value} : mj_E 173 14 ls [.int x2, .int x1, .int x0, .ref r, w0, w1, w2] σ τ = if mj_rcv r 7 = true then mj_bd (mj_C 138 [.ref r, .int x0, .int x1, .int x2] σ τ) (mj_K 173 17 ls [w0, w1, w2]) else none := mj_clV (as := [.int x0, .int x1, .int x2]) (r := [w0, w1, w2]) i173_14 (by decide +kernel : mj_vk 173 138 3 3 4 false = true) (by decide +kernel)
theorem i173_17 : mj_ins 173 17 = some (.invokevirtual 155, 20) := by decide +kernel
theorem e173_17 {ls : mj_L} {σ : mj_S} {τ : mj_T} {r : Nat} {x0 : Int32} {x1 : Int32} {x2 : Int32} : mj_E 173 17 ls [.int x2, .int x1, .int x0, .ref r] σ τ = if mj_rcv r 7 = true then mj_bd (mj_C 155 [.ref r, .int x0, .int x1, .int x2] σ τ) (mj_K 173 20 ls []) else none := mj_clV (as := [.int x0, .int x1, .int x2]) (r := []) i173_17 (by decide +kernel : mj_vk 173 155 3 0 4 false = true) (by decide +kernel)
theorem i173_20 : mj_ins 173 20 = some (.ireturn, 21) := by decide +kernel
theorem e173_20 {ls : mj_L} {σ : mj_S} {τ : mj_T} {v : Int32} : mj_E 173 20 ls [.int v] σ τ = some (some (.int v), σ, τ) := mj_irt i173_20 rfl
theorem c174 {σ : mj_S} {τ : mj_T} {r : Nat} {x0 : Int32} {x1 : Int32} {x2 : Int32} {x3 : Int32} : mj_C 174 [.ref r, .int x0, .int x1, .int x2, .int x3] σ τ = mj_E 174 0 [some (.ref r), some (.int x0), some (.int x1), some (.int x2), some (.int x3), none, none] [] σ τ := rfl
theorem i174_0 : mj_ins 174 0 = some (.aload 0, 1) := by decide +kernel
theorem e174_0 {ls : mj_L} {st : List Value} {σ : mj_S} {τ : mj_T} {v : Nat} : mj_E 174 0 (some (.ref v) :: ls) st σ τ = mj_E 174 1 (some (.ref v) :: ls) (.ref v :: st) σ τ := mj_nx i174_0 rfl
theorem i174_1 : mj_ins 174 1 = some (.iload 1, 2) := by decide +kernel
theorem e174_1 {ls : mj_L} {st : List Value} {σ : mj_S} {τ : mj_T} {a0 : Option Value} {v : Int32} : mj_E 174 1 (a0 :: some (.int v) :: ls) st σ τ = mj_E 174 2 (a0 :: some (.int v) :: ls) (.int v :: st) σ τ := mj_nx i174_1 rfl
theorem i174_2 : mj_ins 174 2 = some (.iload 2, 3) := by decide +kernel
theorem e174_2 {ls : mj_L} {st : List Value} {σ : mj_S} {τ : mj_T} {a0 a1 : Option Value} {v : Int32} : mj_E 174 2 (a0 :: a1 :: some (.int v) :: ls) st σ τ = mj_E 174 3 (a0 :: a1 :: some (.int v) :: ls) (.int v :: st) σ τ := mj_nx i174_2 rfl
theorem i174_3 : mj_ins 174 3 = some (.iload 3, 4) := by decide +kernel
theorem e174_3 {ls : mj_L} {st : List Value} {σ : mj_S} {τ : mj_T} {a0 a1 a2 : Option Value} {v : Int32} : mj_E 174 3 (a0 :: a1 :: a2 :: some (.int v) :: ls) st σ τ = mj_E 174 4 (a0 :: a1 :: a2 :: some (.int v) :: ls) (.int v :: st) σ τ := mj_nx i174_3 rfl
theorem i174_4 : mj_ins 174 4 = some (.invokevirtual 173, 7) := by decide +kernel
theorem e174_4 {ls : mj_L} {σ : mj_S} {τ : mj_T} {r : Nat} {x0 : Int32} {x1 : Int32} {x2 : Int32} : mj_E 174 4 ls [.int x2, .int x1, .int x0, .ref r] σ τ = if mj_rcv r 7 = true then mj_bd (mj_C 173 [.ref r, .int x0, .int x1, .int x2] σ τ) (mj_K 174 7 ls []) else none := mj_clV (as := [.int x0, .int x1, .int x2]) (r := []) i174_4 (by decide +kernel : mj_vk 174 173 3 0 4 false = true) (by decide +kernel)
theorem i174_7 : mj_ins 174 7 = some (.istore 5, 9) := by decide +kernel
theorem e174_7 {ls : mj_L} {st : List Value} {σ : mj_S} {τ : mj_T} {a0 a1 a2 a3 a4 a5 : Option Value} {v : Int32} : mj_E 174 7 (a0 :: a1 :: a2 :: a3 :: a4 :: a5 :: ls) (.int v :: st) σ τ = mj_E 174 9 (a0 :: a1 :: a2 :: a3 :: a4 :: some (.int v) :: ls) st σ τ := mj_nx i174_7 rfl
theorem i174_9 : mj_ins 174 9 = some (.aload 0, 10) := by decide +kernel
theorem e174_9 {ls : mj_L} {st : List Value} {σ : mj_S} {τ : mj_T} {v : Nat} : mj_E 174 9 (some (.ref v) :: ls) st σ τ = mj_E 174 10 (some (.ref v) :: ls) (.ref v :: st) σ τ := mj_nx i174_9 rfl
theorem i174_10 : mj_ins 174 10 = some (.iload 1, 11) := by decide +kernel
theorem e174_10 {ls : mj_L} {st : List Value} {σ : mj_S} {τ : mj_T} {a0 : Option Value} {v : Int32} : mj_E 174 10 (a0 :: some (.int v) :: ls) st σ τ = mj_E 174 11 (a0 :: some (.int v) :: ls) (.int v :: st) σ τ := mj_nx i174_10 rfl
theorem i174_11 : mj_ins 174 11 = some (.iload 4, 13) := by decide +kernel
theorem e174_11 {ls : mj_L} {st : List Value} {σ : mj_S} {τ : mj_T} {a0 a1 a2 a3 : Option Value} {v : Int32} : mj_E 174 11 (a0 :: a1 :: a2 :: a3 :: some (.int v) :: ls) st σ τ = mj_E 174 13 (a0 :: a1 :: a2 :: a3 :: some (.int v) :: ls) (.int v :: st) σ τ := mj_nx i174_11 rfl
theorem i174_13 : mj_ins 174 13 = some (.aload 0, 14) := by decide +kernel
theorem e174_13 {ls : mj_L} {st : List Value} {σ : mj_S} {τ : mj_T} {v : Nat} : mj_E 174 13 (some (.ref v) :: ls) st σ τ = mj_E 174 14 (some (.ref v) :: ls) (.ref v :: st) σ τ := mj_nx i174_13 rfl
theorem i174_14 : mj_ins 174 14 = some (.getfield 709, 17) := by decide +kernel
theorem e174_14 {ls : mj_L} {st : List Value} {σ : mj_S} {τ : mj_T} : mj_E 174 14 ls (.ref 62 :: st) σ τ = mj_E 174 17 ls (.ref 66 :: st) σ τ := mj_nx i174_14 rfl
theorem i174_17 : mj_ins 174 17 = some (.iload 4, 19) := by decide +kernel
theorem e174_17 {ls : mj_L} {st : List Value} {σ : mj_S} {τ : mj_T} {a0 a1 a2 a3 : Option Value} {v : Int32} : mj_E 174 17 (a0 :: a1 :: a2 :: a3 :: some (.int v) :: ls) st σ τ = mj_E 174 19 (a0 :: a1 :: a2 :: a3 :: some (.int v) :: ls) (.int v :: st) σ τ := mj_nx i174_17 rfl
theorem i174_19 : mj_ins 174 19 = some (.iaload, 20) := by decide +kernel
theorem e174_19 {ls : mj_L} {st : List Value} {σ : mj_S} {τ : mj_T} {x : Int32} {k : Nat} : mj_E 174 19 ls (.int x :: .ref k :: st) σ τ = if mj_ib (mj_li σ k) x = true then mj_E 174 20 ls (.int (σ k x.toNatClampNeg) :: st) σ τ else none := mj_ald i174_19
theorem i174_20 : mj_ins 174 20 = some (.iconst (3), 21) := by decide +kernel
theorem e174_20 {ls : mj_L} {st : List Value} {σ : mj_S} {τ : mj_T} : mj_E 174 20 ls st σ τ = mj_E 174 21 ls (.int (nI 3) :: st) σ τ := mj_nx i174_20 rfl
theorem i174_21 : mj_ins 174 21 = some (.idiv, 22) := by decide +kernel
theorem e174_21 {ls : mj_L} {st : List Value} {σ : mj_S} {τ : mj_T} {x y : Int32} : mj_E 174 21 ls (.int y :: .int x :: st) σ τ = if y = 0 then none else mj_E 174 22 ls (.int (x / y) :: st) σ τ := mj_div i174_21
theorem i174_22 : mj_ins 174 22 = some (.invokevirtual 173, 25) := by decide +kernel
theorem e174_22 {ls : mj_L} {σ : mj_S} {τ : mj_T} {r : Nat} {x0 : Int32} {x1 : Int32} {x2 : Int32} : mj_E 174 22 ls [.int x2, .int x1, .int x0, .ref r] σ τ = if mj_rcv r 7 = true then mj_bd (mj_C 173 [.ref r, .int x0, .int x1, .int x2] σ τ) (mj_K 174 25 ls []) else none := mj_clV (as := [.int x0, .int x1, .int x2]) (r := []) i174_22 (by decide +kernel : mj_vk 174 173 3 0 4 false = true) (by decide +kernel)
theorem i174_25 : mj_ins 174 25 = some (.istore 6, 27) := by decide +kernel
theorem e174_25 {ls : mj_L} {st : List Value} {σ : mj_S} {τ : mj_T} {a0 a1 a2 a3 a4 a5 a6 : Option Value} {v : Int32} : mj_E 174 25 (a0 :: a1 :: a2 :: a3 :: a4 :: a5 :: a6 :: ls) (.int v :: st) σ τ = mj_E 174 27 (a0 :: a1 :: a2 :: a3 :: a4 :: a5 :: some (.int v) :: ls) st σ τ := mj_nx i174_25 rfl
theorem i174_27 : mj_ins 174 27 = some (.iload 5, 29) := by decide +kernel
theorem e174_27 {ls : mj_L} {st : List Value} {σ : mj_S} {τ : mj_T} {a0 a1 a2 a3 a4 : Option Value} {v : Int32} : mj_E 174 27 (a0 :: a1 :: a2 :: a3 :: a4 :: some (.int v) :: ls) st σ τ = mj_E 174 29 (a0 :: a1 :: a2 :: a3 :: a4 :: some (.int v) :: ls) (.int v :: st) σ τ := mj_nx i174_27 rfl
theorem i174_29 : mj_ins 174 29 = some (.iload 6, 31) := by decide +kernel
theorem e174_29 {ls : mj_L} {st : List Value} {σ : mj_S} {τ : mj_T} {a0 a1 a2 a3 a4 a5 : Option Value} {v : Int32} : mj_E 174 29 (a0 :: a1 :: a2 :: a3 :: a4 :: a5 :: some (.int v) :: ls) st σ τ = mj_E 174 31 (a0 :: a1 :: a2 :: a3 :: a4 :: a5 :: some (.int v) :: ls) (.int v :: st) σ τ := mj_nx i174_29 rfl
theorem i174_31 : mj_ins 174 31 = some (.if_icmp .gt 47, 34) := by decide +kernel
theorem e174_31 {ls : mj_L} {st : List Value} {σ : mj_S} {τ : mj_T} {x y : Int32} : mj_E 174 31 ls (.int y :: .int x :: st) σ τ = if y < x then mj_E 174 47 ls st σ τ else mj_E 174 34 ls st σ τ := (mj_ifi i174_31).trans (mj_cdT rfl)
theorem i174_34 : mj_ins 174 34 = some (.iload 5, 36) := by decide +kernel
theorem e174_34 {ls : mj_L} {st : List Value} {σ : mj_S} {τ : mj_T} {a0 a1 a2 a3 a4 : Option Value} {v : Int32} : mj_E 174 34 (a0 :: a1 :: a2 :: a3 :: a4 :: some (.int v) :: ls) st σ τ = mj_E 174 36 (a0 :: a1 :: a2 :: a3 :: a4 :: some (.int v) :: ls) (.int v :: st) σ τ := mj_nx i174_34 rfl
theorem i174_36 : mj_ins 174 36 = some (.iload 6, 38) := by decide +kernel
theorem e174_36 {ls : mj_L} {st : List Value} {σ : mj_S} {τ : mj_T} {a0 a1 a2 a3 a4 a5 : Option Value} {v : Int32} : mj_E 174 36 (a0 :: a1 :: a2 :: a3 :: a4 :: a5 :: some (.int v) :: ls) st σ τ = mj_E 174 38 (a0 :: a1 :: a2 :: a3 :: a4 :: a5 :: some (.int v) :: ls) (.int v :: st) σ τ := mj_nx i174_36 rfl
theorem i174_38 : mj_ins 174 38 = some (.if_icmp .ne 51, 41) := by decide +kernel
theorem e174_38 {ls : mj_L} {st : List Value} {σ : mj_S} {τ : mj_T} {x y : Int32} : mj_E 174 38 ls (.int y :: .int x :: st) σ τ = if x = y then mj_E 174 41 ls st σ τ else mj_E 174 51 ls st σ τ := (mj_ifi i174_38).trans (mj_cdF rfl)
theorem i174_41 : mj_ins 174 41 = some (.iload 2, 42) := by decide +kernel
theorem e174_41 {ls : mj_L} {st : List Value} {σ : mj_S} {τ : mj_T} {a0 a1 : Option Value} {v : Int32} : mj_E 174 41 (a0 :: a1 :: some (.int v) :: ls) st σ τ = mj_E 174 42 (a0 :: a1 :: some (.int v) :: ls) (.int v :: st) σ τ := mj_nx i174_41 rfl
theorem i174_42 : mj_ins 174 42 = some (.iload 4, 44) := by decide +kernel
theorem e174_42 {ls : mj_L} {st : List Value} {σ : mj_S} {τ : mj_T} {a0 a1 a2 a3 : Option Value} {v : Int32} : mj_E 174 42 (a0 :: a1 :: a2 :: a3 :: some (.int v) :: ls) st σ τ = mj_E 174 44 (a0 :: a1 :: a2 :: a3 :: some (.int v) :: ls) (.int v :: st) σ τ := mj_nx i174_42 rfl
theorem i174_44 : mj_ins 174 44 = some (.if_icmp .ge 51, 47) := by decide +kernel
theorem e174_44 {ls : mj_L} {st : List Value} {σ : mj_S} {τ : mj_T} {x y : Int32} : mj_E 174 44 ls (.int y :: .int x :: st) σ τ = if y ≤ x then mj_E 174 51 ls st σ τ else mj_E 174 47 ls st σ τ := (mj_ifi i174_44).trans (mj_cdT rfl)
theorem i174_47 : mj_ins 174 47 = some (.iconst (1), 48) := by decide +kernel
theorem e174_47 {ls : mj_L} {st : List Value} {σ : mj_S} {τ : mj_T} : mj_E 174 47 ls st σ τ = mj_E 174 48 ls (.int (nI 1) :: st) σ τ := mj_nx i174_47 rfl
theorem i174_48 : mj_ins 174 48 = some (.goto 52, 51) := by decide +kernel
theorem e174_48 {ls : mj_L} {st : List Value} {σ : mj_S} {τ : mj_T} : mj_E 174 48 ls st σ τ = mj_E 174 52 ls st σ τ := mj_nx i174_48 rfl
theorem i174_51 : mj_ins 174 51 = some (.iconst (0), 52) := by decide +kernel
theorem e174_51 {ls : mj_L} {st : List Value} {σ : mj_S} {τ : mj_T} : mj_E 174 51 ls st σ τ = mj_E 174 52 ls (.int (nI 0) :: st) σ τ := mj_nx i174_51 rfl
theorem i174_52 : mj_ins 174 52 = some (.ireturn, 53) := by decide +kernel
theorem e174_52 {ls : mj_L} {σ : mj_S} {τ : mj_T} {v : Int32} : mj_E 174 52 ls [.int v] σ τ = if mj_ok (some .boolean) v = true then some (some (.int v), σ, τ) else none := mj_zrt i174_52 rfl
theorem c175 {σ : mj_S} {τ : mj_T} {r : Nat} {x0 : Int32} {x1 : Int32} {x2 : Int32} {x3 : Int32} : mj_C 175 [.ref r, .int x0, .int x1, .int x2, .int x3] σ τ = mj_E 175 0 [some (.ref r), some (.int x0), some (.int x1), some (.int x2), some (.int x3), none, none, none] [] σ τ := rfl
theorem i175_0 : mj_ins 175 0 = some (.aload 0, 1) := by decide +kernel
theorem e175_0 {ls : mj_L} {st : List Value} {σ : mj_S} {τ : mj_T} {v : Nat} : mj_E 175 0 (some (.ref v) :: ls) st σ τ = mj_E 175 1 (some (.ref v) :: ls) (.ref v :: st) σ τ := mj_nx i175_0 rfl
theorem i175_1 : mj_ins 175 1 = some (.iload 1, 2) := by decide +kernel
theorem e175_1 {ls : mj_L} {st : List Value} {σ : mj_S} {τ : mj_T} {a0 : Option Value} {v : Int32} : mj_E 175 1 (a0 :: some (.int v) :: ls) st σ τ = mj_E 175 2 (a0 :: some (.int v) :: ls) (.int v :: st) σ τ := mj_nx i175_1 rfl
theorem i175_2 : mj_ins 175 2 = some (.invokevirtual 120, 5) := by decide +kernel
theorem e175_2 {ls : mj_L} {σ : mj_S} {τ : mj_T} {r : Nat} {x0 : Int32} : mj_E 175 2 ls [.int x0, .ref r] σ τ = if mj_rcv r 7 = true then mj_bd (mj_C 120 [.ref r, .int x0] σ τ) (mj_K 175 5 ls []) else none := mj_clV (as := [.int x0]) (r := []) i175_2 (by decide +kernel : mj_vk 175 120 1 0 2 false = true) (by decide +kernel)
theorem i175_5 : mj_ins 175 5 = some (.ifCond .eq 29, 8) := by decide +kernel
theorem e175_5 {ls : mj_L} {st : List Value} {σ : mj_S} {τ : mj_T} {x : Int32} : mj_E 175 5 ls (.int x :: st) σ τ = if x = 0 then mj_E 175 29 ls st σ τ else mj_E 175 8 ls st σ τ := (mj_ifc i175_5).trans (mj_cdT rfl)
theorem i175_8 : mj_ins 175 8 = some (.aload 0, 9) := by decide +kernel
theorem e175_8 {ls : mj_L} {st : List Value} {σ : mj_S} {τ : mj_T} {v : Nat} : mj_E 175 8 (some (.ref v) :: ls) st σ τ = mj_E 175 9 (some (.ref v) :: ls) (.ref v :: st) σ τ := mj_nx i175_8 rfl
theorem i175_9 : mj_ins 175 9 = some (.iload 2, 10) := by decide +kernel
theorem e175_9 {ls : mj_L} {st : List Value} {σ : mj_S} {τ : mj_T} {a0 a1 : Option Value} {v : Int32} : mj_E 175 9 (a0 :: a1 :: some (.int v) :: ls) st σ τ = mj_E 175 10 (a0 :: a1 :: some (.int v) :: ls) (.int v :: st) σ τ := mj_nx i175_9 rfl
theorem i175_10 : mj_ins 175 10 = some (.invokevirtual 120, 13) := by decide +kernel
theorem e175_10 {ls : mj_L} {σ : mj_S} {τ : mj_T} {r : Nat} {x0 : Int32} : mj_E 175 10 ls [.int x0, .ref r] σ τ = if mj_rcv r 7 = true then mj_bd (mj_C 120 [.ref r, .int x0] σ τ) (mj_K 175 13 ls []) else none := mj_clV (as := [.int x0]) (r := []) i175_10 (by decide +kernel : mj_vk 175 120 1 0 2 false = true) (by decide +kernel)
theorem i175_13 : mj_ins 175 13 = some (.ifCond .eq 29, 16) := by decide +kernel
theorem e175_13 {ls : mj_L} {st : List Value} {σ : mj_S} {τ : mj_T} {x : Int32} : mj_E 175 13 ls (.int x :: st) σ τ = if x = 0 then mj_E 175 29 ls st σ τ else mj_E 175 16 ls st σ τ := (mj_ifc i175_13).trans (mj_cdT rfl)
theorem i175_16 : mj_ins 175 16 = some (.iload 1, 17) := by decide +kernel
theorem e175_16 {ls : mj_L} {st : List Value} {σ : mj_S} {τ : mj_T} {a0 : Option Value} {v : Int32} : mj_E 175 16 (a0 :: some (.int v) :: ls) st σ τ = mj_E 175 17 (a0 :: some (.int v) :: ls) (.int v :: st) σ τ := mj_nx i175_16 rfl
theorem i175_17 : mj_ins 175 17 = some (.iload 2, 18) := by decide +kernel
theorem e175_17 {ls : mj_L} {st : List Value} {σ : mj_S} {τ : mj_T} {a0 a1 : Option Value} {v : Int32} : mj_E 175 17 (a0 :: a1 :: some (.int v) :: ls) st σ τ = mj_E 175 18 (a0 :: a1 :: some (.int v) :: ls) (.int v :: st) σ τ := mj_nx i175_17 rfl
theorem i175_18 : mj_ins 175 18 = some (.if_icmp .eq 29, 21) := by decide +kernel
theorem e175_18 {ls : mj_L} {st : List Value} {σ : mj_S} {τ : mj_T} {x y : Int32} : mj_E 175 18 ls (.int y :: .int x :: st) σ τ = if x = y then mj_E 175 29 ls st σ τ else mj_E 175 21 ls st σ τ := (mj_ifi i175_18).trans (mj_cdT rfl)
theorem i175_21 : mj_ins 175 21 = some (.aload 0, 22) := by decide +kernel
theorem e175_21 {ls : mj_L} {st : List Value} {σ : mj_S} {τ : mj_T} {v : Nat} : mj_E 175 21 (some (.ref v) :: ls) st σ τ = mj_E 175 22 (some (.ref v) :: ls) (.ref v :: st) σ τ := mj_nx i175_21 rfl
theorem i175_22 : mj_ins 175 22 = some (.iload 3, 23) := by decide +kernel
theorem e175_22 {ls : mj_L} {st : List Value} {σ : mj_S} {τ : mj_T} {a0 a1 a2 : Option Value} {v : Int32} : mj_E 175 22 (a0 :: a1 :: a2 :: some (.int v) :: ls) st σ τ = mj_E 175 23 (a0 :: a1 :: a2 :: some (.int v) :: ls) (.int v :: st) σ τ := mj_nx i175_22 rfl
theorem i175_23 : mj_ins 175 23 = some (.invokevirtual 121, 26) := by decide +kernel
theorem e175_23 {ls : mj_L} {σ : mj_S} {τ : mj_T} {r : Nat} {x0 : Int32} : mj_E 175 23 ls [.int x0, .ref r] σ τ = if mj_rcv r 7 = true then mj_bd (mj_C 121 [.ref r, .int x0] σ τ) (mj_K 175 26 ls []) else none := mj_clV (as := [.int x0]) (r := []) i175_23 (by decide +kernel : mj_vk 175 121 1 0 2 false = true) (by decide +kernel)
theorem i175_26 : mj_ins 175 26 = some (.ifCond .ne 35, 29) := by decide +kernel
theorem e175_26 {ls : mj_L} {st : List Value} {σ : mj_S} {τ : mj_T} {x : Int32} : mj_E 175 26 ls (.int x :: st) σ τ = if x = 0 then mj_E 175 29 ls st σ τ else mj_E 175 35 ls st σ τ := (mj_ifc i175_26).trans (mj_cdF rfl)
theorem i175_29 : mj_ins 175 29 = some (.aload 0, 30) := by decide +kernel
theorem e175_29 {ls : mj_L} {st : List Value} {σ : mj_S} {τ : mj_T} {v : Nat} : mj_E 175 29 (some (.ref v) :: ls) st σ τ = mj_E 175 30 (some (.ref v) :: ls) (.ref v :: st) σ τ := mj_nx i175_29 rfl
theorem i175_30 : mj_ins 175 30 = some (.iconst (-1), 31) := by decide +kernel
theorem e175_30 {ls : mj_L} {st : List Value} {σ : mj_S} {τ : mj_T} : mj_E 175 30 ls st σ τ = mj_E 175 31 ls (.int ((-1)) :: st) σ τ := mj_nx i175_30 rfl
theorem i175_31 : mj_ins 175 31 = some (.invokevirtual 117, 34) := by decide +kernel
theorem e175_31 {ls : mj_L} {σ : mj_S} {τ : mj_T} {r : Nat} {x0 : Int32} : mj_E 175 31 ls [.int x0, .ref r] σ τ = if mj_rcv r 7 = true then mj_bd (mj_C 117 [.ref r, .int x0] σ τ) (mj_K 175 34 ls []) else none := mj_clV (as := [.int x0]) (r := []) i175_31 (by decide +kernel : mj_vk 175 117 1 0 2 false = true) (by decide +kernel)
theorem i175_34 : mj_ins 175 34 = some (.ireturn, 35) := by decide +kernel
theorem e175_34 {ls : mj_L} {σ : mj_S} {τ : mj_T} {v : Int32} : mj_E 175 34 ls [.int v] σ τ = some (some (.int v), σ, τ) := mj_irt i175_34 rfl
theorem i175_35 : mj_ins 175 35 = some (.iload 4, 37) := by decide +kernel
theorem e175_35 {ls : mj_L} {st : List Value} {σ : mj_S} {τ : mj_T} {a0 a1 a2 a3 : Option Value} {v : Int32} : mj_E 175 35 (a0 :: a1 :: a2 :: a3 :: some (.int v) :: ls) st σ τ = mj_E 175 37 (a0 :: a1 :: a2 :: a3 :: some (.int v) :: ls) (.int v :: st) σ τ := mj_nx i175_35 rfl
theorem i175_37 : mj_ins 175 37 = some (.ifCond .lt 46, 40) := by decide +kernel
theorem e175_37 {ls : mj_L} {st : List Value} {σ : mj_S} {τ : mj_T} {x : Int32} : mj_E 175 37 ls (.int x :: st) σ τ = if x < 0 then mj_E 175 46 ls st σ τ else mj_E 175 40 ls st σ τ := (mj_ifc i175_37).trans (mj_cdT rfl)
theorem i175_40 : mj_ins 175 40 = some (.iload 4, 42) := by decide +kernel
theorem e175_40 {ls : mj_L} {st : List Value} {σ : mj_S} {τ : mj_T} {a0 a1 a2 a3 : Option Value} {v : Int32} : mj_E 175 40 (a0 :: a1 :: a2 :: a3 :: some (.int v) :: ls) st σ τ = mj_E 175 42 (a0 :: a1 :: a2 :: a3 :: some (.int v) :: ls) (.int v :: st) σ τ := mj_nx i175_40 rfl
theorem i175_42 : mj_ins 175 42 = some (.iconst (1), 43) := by decide +kernel
theorem e175_42 {ls : mj_L} {st : List Value} {σ : mj_S} {τ : mj_T} : mj_E 175 42 ls st σ τ = mj_E 175 43 ls (.int (nI 1) :: st) σ τ := mj_nx i175_42 rfl
theorem i175_43 : mj_ins 175 43 = some (.if_icmp .le 53, 46) := by decide +kernel
theorem e175_43 {ls : mj_L} {st : List Value} {σ : mj_S} {τ : mj_T} {x y : Int32} : mj_E 175 43 ls (.int y :: .int x :: st) σ τ = if x ≤ y then mj_E 175 53 ls st σ τ else mj_E 175 46 ls st σ τ := (mj_ifi i175_43).trans (mj_cdT rfl)
theorem i175_46 : mj_ins 175 46 = some (.aload 0, 47) := by decide +kernel
theorem e175_46 {ls : mj_L} {st : List Value} {σ : mj_S} {τ : mj_T} {v : Nat} : mj_E 175 46 (some (.ref v) :: ls) st σ τ = mj_E 175 47 (some (.ref v) :: ls) (.ref v :: st) σ τ := mj_nx i175_46 rfl
theorem i175_47 : mj_ins 175 47 = some (.iconst (-5), 49) := by decide +kernel
theorem e175_47 {ls : mj_L} {st : List Value} {σ : mj_S} {τ : mj_T} : mj_E 175 47 ls st σ τ = mj_E 175 49 ls (.int ((-5)) :: st) σ τ := mj_nx i175_47 rfl
theorem i175_49 : mj_ins 175 49 = some (.invokevirtual 117, 52) := by decide +kernel
theorem e175_49 {ls : mj_L} {σ : mj_S} {τ : mj_T} {r : Nat} {x0 : Int32} : mj_E 175 49 ls [.int x0, .ref r] σ τ = if mj_rcv r 7 = true then mj_bd (mj_C 117 [.ref r, .int x0] σ τ) (mj_K 175 52 ls []) else none := mj_clV (as := [.int x0]) (r := []) i175_49 (by decide +kernel : mj_vk 175 117 1 0 2 false = true) (by decide +kernel)
theorem i175_52 : mj_ins 175 52 = some (.ireturn, 53) := by decide +kernel
theorem e175_52 {ls : mj_L} {σ : mj_S} {τ : mj_T} {v : Int32} : mj_E 175 52 ls [.int v] σ τ = some (some (.int v), σ, τ) := mj_irt i175_52 rfl
theorem i175_53 : mj_ins 175 53 = some (.aload 0, 54) := by decide +kernel
theorem e175_53 {ls : mj_L} {st : List Value} {σ : mj_S} {τ : mj_T} {v : Nat} : mj_E 175 53 (some (.ref v) :: ls) st σ τ = mj_E 175 54 (some (.ref v) :: ls) (.ref v :: st) σ τ := mj_nx i175_53 rfl
theorem i175_54 : mj_ins 175 54 = some (.getfield 715, 57) := by decide +kernel
theorem e175_54 {ls : mj_L} {st : List Value} {σ : mj_S} {τ : mj_T} : mj_E 175 54 ls (.ref 62 :: st) σ τ = mj_E 175 57 ls (.ref 72 :: st) σ τ := mj_nx i175_54 rfl
theorem i175_57 : mj_ins 175 57 = some (.iload 3, 58) := by decide +kernel
theorem e175_57 {ls : mj_L} {st : List Value} {σ : mj_S} {τ : mj_T} {a0 a1 a2 : Option Value} {v : Int32} : mj_E 175 57 (a0 :: a1 :: a2 :: some (.int v) :: ls) st σ τ = mj_E 175 58 (a0 :: a1 :: a2 :: some (.int v) :: ls) (.int v :: st) σ τ := mj_nx i175_57 rfl
theorem i175_58 : mj_ins 175 58 = some (.iaload, 59) := by decide +kernel
theorem e175_58 {ls : mj_L} {st : List Value} {σ : mj_S} {τ : mj_T} {x : Int32} {k : Nat} : mj_E 175 58 ls (.int x :: .ref k :: st) σ τ = if mj_ib (mj_li σ k) x = true then mj_E 175 59 ls (.int (σ k x.toNatClampNeg) :: st) σ τ else none := mj_ald i175_58
theorem i175_59 : mj_ins 175 59 = some (.iload 1, 60) := by decide +kernel
theorem e175_59 {ls : mj_L} {st : List Value} {σ : mj_S} {τ : mj_T} {a0 : Option Value} {v : Int32} : mj_E 175 59 (a0 :: some (.int v) :: ls) st σ τ = mj_E 175 60 (a0 :: some (.int v) :: ls) (.int v :: st) σ τ := mj_nx i175_59 rfl
theorem i175_60 : mj_ins 175 60 = some (.ishr, 61) := by decide +kernel
theorem e175_60 {ls : mj_L} {st : List Value} {σ : mj_S} {τ : mj_T} {x y : Int32} : mj_E 175 60 ls (.int y :: .int x :: st) σ τ = mj_E 175 61 ls (.int (x >>> (y &&& 31)) :: st) σ τ := mj_nx i175_60 rfl
theorem i175_61 : mj_ins 175 61 = some (.iconst (1), 62) := by decide +kernel
theorem e175_61 {ls : mj_L} {st : List Value} {σ : mj_S} {τ : mj_T} : mj_E 175 61 ls st σ τ = mj_E 175 62 ls (.int (nI 1) :: st) σ τ := mj_nx i175_61 rfl
theorem i175_62 : mj_ins 175 62 = some (.iand, 63) := by decide +kernel
theorem e175_62 {ls : mj_L} {st : List Value} {σ : mj_S} {τ : mj_T} {x y : Int32} : mj_E 175 62 ls (.int y :: .int x :: st) σ τ = mj_E 175 63 ls (.int (x &&& y) :: st) σ τ := mj_nx i175_62 rfl
theorem i175_63 : mj_ins 175 63 = some (.iconst (1), 64) := by decide +kernel
theorem e175_63 {ls : mj_L} {st : List Value} {σ : mj_S} {τ : mj_T} : mj_E 175 63 ls st σ τ = mj_E 175 64 ls (.int (nI 1) :: st) σ τ := mj_nx i175_63 rfl
theorem i175_64 : mj_ins 175 64 = some (.if_icmp .eq 101, 67) := by decide +kernel
theorem e175_64 {ls : mj_L} {st : List Value} {σ : mj_S} {τ : mj_T} {x y : Int32} : mj_E 175 64 ls (.int y :: .int x :: st) σ τ = if x = y then mj_E 175 101 ls st σ τ else mj_E 175 67 ls st σ τ := (mj_ifi i175_64).trans (mj_cdT rfl)
theorem i175_67 : mj_ins 175 67 = some (.aload 0, 68) := by decide +kernel
theorem e175_67 {ls : mj_L} {st : List Value} {σ : mj_S} {τ : mj_T} {v : Nat} : mj_E 175 67 (some (.ref v) :: ls) st σ τ = mj_E 175 68 (some (.ref v) :: ls) (.ref v :: st) σ τ := mj_nx i175_67 rfl
theorem i175_68 : mj_ins 175 68 = some (.getfield 715, 71) := by decide +kernel
theorem e175_68 {ls : mj_L} {st : List Value} {σ : mj_S} {τ : mj_T} : mj_E 175 68 ls (.ref 62 :: st) σ τ = mj_E 175 71 ls (.ref 72 :: st) σ τ := mj_nx i175_68 rfl
theorem i175_71 : mj_ins 175 71 = some (.iload 3, 72) := by decide +kernel
theorem e175_71 {ls : mj_L} {st : List Value} {σ : mj_S} {τ : mj_T} {a0 a1 a2 : Option Value} {v : Int32} : mj_E 175 71 (a0 :: a1 :: a2 :: some (.int v) :: ls) st σ τ = mj_E 175 72 (a0 :: a1 :: a2 :: some (.int v) :: ls) (.int v :: st) σ τ := mj_nx i175_71 rfl
theorem i175_72 : mj_ins 175 72 = some (.iaload, 73) := by decide +kernel
theorem e175_72 {ls : mj_L} {st : List Value} {σ : mj_S} {τ : mj_T} {x : Int32} {k : Nat} : mj_E 175 72 ls (.int x :: .ref k :: st) σ τ = if mj_ib (mj_li σ k) x = true then mj_E 175 73 ls (.int (σ k x.toNatClampNeg) :: st) σ τ else none := mj_ald i175_72
theorem i175_73 : mj_ins 175 73 = some (.iload 2, 74) := by decide +kernel
theorem e175_73 {ls : mj_L} {st : List Value} {σ : mj_S} {τ : mj_T} {a0 a1 : Option Value} {v : Int32} : mj_E 175 73 (a0 :: a1 :: some (.int v) :: ls) st σ τ = mj_E 175 74 (a0 :: a1 :: some (.int v) :: ls) (.int v :: st) σ τ := mj_nx i175_73 rfl
theorem i175_74 : mj_ins 175 74 = some (.ishr, 75) := by decide +kernel
theorem e175_74 {ls : mj_L} {st : List Value} {σ : mj_S} {τ : mj_T} {x y : Int32} : mj_E 175 74 ls (.int y :: .int x :: st) σ τ = mj_E 175 75 ls (.int (x >>> (y &&& 31)) :: st) σ τ := mj_nx i175_74 rfl
theorem i175_75 : mj_ins 175 75 = some (.iconst (1), 76) := by decide +kernel
theorem e175_75 {ls : mj_L} {st : List Value} {σ : mj_S} {τ : mj_T} : mj_E 175 75 ls st σ τ = mj_E 175 76 ls (.int (nI 1) :: st) σ τ := mj_nx i175_75 rfl
theorem i175_76 : mj_ins 175 76 = some (.iand, 77) := by decide +kernel
theorem e175_76 {ls : mj_L} {st : List Value} {σ : mj_S} {τ : mj_T} {x y : Int32} : mj_E 175 76 ls (.int y :: .int x :: st) σ τ = mj_E 175 77 ls (.int (x &&& y) :: st) σ τ := mj_nx i175_76 rfl
theorem i175_77 : mj_ins 175 77 = some (.iconst (1), 78) := by decide +kernel
theorem e175_77 {ls : mj_L} {st : List Value} {σ : mj_S} {τ : mj_T} : mj_E 175 77 ls st σ τ = mj_E 175 78 ls (.int (nI 1) :: st) σ τ := mj_nx i175_77 rfl
theorem i175_78 : mj_ins 175 78 = some (.if_icmp .eq 101, 81) := by decide +kernel
theorem e175_78 {ls : mj_L} {st : List Value} {σ : mj_S} {τ : mj_T} {x y : Int32} : mj_E 175 78 ls (.int y :: .int x :: st) σ τ = if x = y then mj_E 175 101 ls st σ τ else mj_E 175 81 ls st σ τ := (mj_ifi i175_78).trans (mj_cdT rfl)
theorem i175_81 : mj_ins 175 81 = some (.aload 0, 82) := by decide +kernel
theorem e175_81 {ls : mj_L} {st : List Value} {σ : mj_S} {τ : mj_T} {v : Nat} : mj_E 175 81 (some (.ref v) :: ls) st σ τ = mj_E 175 82 (some (.ref v) :: ls) (.ref v :: st) σ τ := mj_nx i175_81 rfl
theorem i175_82 : mj_ins 175 82 = some (.getfield 707, 85) := by decide +kernel
theorem e175_82 {ls : mj_L} {st : List Value} {σ : mj_S} {τ : mj_T} : mj_E 175 82 ls (.ref 62 :: st) σ τ = mj_E 175 85 ls (.ref 64 :: st) σ τ := mj_nx i175_82 rfl
theorem i175_85 : mj_ins 175 85 = some (.iload 1, 86) := by decide +kernel
theorem e175_85 {ls : mj_L} {st : List Value} {σ : mj_S} {τ : mj_T} {a0 : Option Value} {v : Int32} : mj_E 175 85 (a0 :: some (.int v) :: ls) st σ τ = mj_E 175 86 (a0 :: some (.int v) :: ls) (.int v :: st) σ τ := mj_nx i175_85 rfl
theorem i175_86 : mj_ins 175 86 = some (.iaload, 87) := by decide +kernel
theorem e175_86 {ls : mj_L} {st : List Value} {σ : mj_S} {τ : mj_T} {x : Int32} {k : Nat} : mj_E 175 86 ls (.int x :: .ref k :: st) σ τ = if mj_ib (mj_li σ k) x = true then mj_E 175 87 ls (.int (σ k x.toNatClampNeg) :: st) σ τ else none := mj_ald i175_86
theorem i175_87 : mj_ins 175 87 = some (.iconst (4), 88) := by decide +kernel
theorem e175_87 {ls : mj_L} {st : List Value} {σ : mj_S} {τ : mj_T} : mj_E 175 87 ls st σ τ = mj_E 175 88 ls (.int (nI 4) :: st) σ τ := mj_nx i175_87 rfl
theorem i175_88 : mj_ins 175 88 = some (.if_icmp .eq 101, 91) := by decide +kernel
theorem e175_88 {ls : mj_L} {st : List Value} {σ : mj_S} {τ : mj_T} {x y : Int32} : mj_E 175 88 ls (.int y :: .int x :: st) σ τ = if x = y then mj_E 175 101 ls st σ τ else mj_E 175 91 ls st σ τ := (mj_ifi i175_88).trans (mj_cdT rfl)
theorem i175_91 : mj_ins 175 91 = some (.aload 0, 92) := by decide +kernel
theorem e175_91 {ls : mj_L} {st : List Value} {σ : mj_S} {τ : mj_T} {v : Nat} : mj_E 175 91 (some (.ref v) :: ls) st σ τ = mj_E 175 92 (some (.ref v) :: ls) (.ref v :: st) σ τ := mj_nx i175_91 rfl
theorem i175_92 : mj_ins 175 92 = some (.getfield 707, 95) := by decide +kernel
theorem e175_92 {ls : mj_L} {st : List Value} {σ : mj_S} {τ : mj_T} : mj_E 175 92 ls (.ref 62 :: st) σ τ = mj_E 175 95 ls (.ref 64 :: st) σ τ := mj_nx i175_92 rfl
theorem i175_95 : mj_ins 175 95 = some (.iload 2, 96) := by decide +kernel
theorem e175_95 {ls : mj_L} {st : List Value} {σ : mj_S} {τ : mj_T} {a0 a1 : Option Value} {v : Int32} : mj_E 175 95 (a0 :: a1 :: some (.int v) :: ls) st σ τ = mj_E 175 96 (a0 :: a1 :: some (.int v) :: ls) (.int v :: st) σ τ := mj_nx i175_95 rfl
theorem i175_96 : mj_ins 175 96 = some (.iaload, 97) := by decide +kernel
theorem e175_96 {ls : mj_L} {st : List Value} {σ : mj_S} {τ : mj_T} {x : Int32} {k : Nat} : mj_E 175 96 ls (.int x :: .ref k :: st) σ τ = if mj_ib (mj_li σ k) x = true then mj_E 175 97 ls (.int (σ k x.toNatClampNeg) :: st) σ τ else none := mj_ald i175_96
theorem i175_97 : mj_ins 175 97 = some (.iconst (4), 98) := by decide +kernel
theorem e175_97 {ls : mj_L} {st : List Value} {σ : mj_S} {τ : mj_T} : mj_E 175 97 ls st σ τ = mj_E 175 98 ls (.int (nI 4) :: st) σ τ := mj_nx i175_97 rfl
theorem i175_98 : mj_ins 175 98 = some (.if_icmp .ne 108, 101) := by decide +kernel
theorem e175_98 {ls : mj_L} {st : List Value} {σ : mj_S} {τ : mj_T} {x y : Int32} : mj_E 175 98 ls (.int y :: .int x :: st) σ τ = if x = y then mj_E 175 101 ls st σ τ else mj_E 175 108 ls st σ τ := (mj_ifi i175_98).trans (mj_cdF rfl)
theorem i175_101 : mj_ins 175 101 = some (.aload 0, 102) := by decide +kernel
theorem e175_101 {ls : mj_L} {st : List Value} {σ : mj_S} {τ : mj_T} {v : Nat} : mj_E 175 101 (some (.ref v) :: ls) st σ τ = mj_E 175 102 (some (.ref v) :: ls) (.ref v :: st) σ τ := mj_nx i175_101 rfl
theorem i175_102 : mj_ins 175 102 = some (.iconst (-6), 104) := by decide +kernel
theorem e175_102 {ls : mj_L} {st : List Value} {σ : mj_S} {τ : mj_T} : mj_E 175 102 ls st σ τ = mj_E 175 104 ls (.int ((-6)) :: st) σ τ := mj_nx i175_102 rfl
theorem i175_104 : mj_ins 175 104 = some (.invokevirtual 117, 107) := by decide +kernel
theorem e175_104 {ls : mj_L} {σ : mj_S} {τ : mj_T} {r : Nat} {x0 : Int32} : mj_E 175 104 ls [.int x0, .ref r] σ τ = if mj_rcv r 7 = true then mj_bd (mj_C 117 [.ref r, .int x0] σ τ) (mj_K 175 107 ls []) else none := mj_clV (as := [.int x0]) (r := []) i175_104 (by decide +kernel : mj_vk 175 117 1 0 2 false = true) (by decide +kernel)
theorem i175_107 : mj_ins 175 107 = some (.ireturn, 108) := by decide +kernel
theorem e175_107 {ls : mj_L} {σ : mj_S} {τ : mj_T} {v : Int32} : mj_E 175 107 ls [.int v] σ τ = some (some (.int v), σ, τ) := mj_irt i175_107 rfl
theorem i175_108 : mj_ins 175 108 = some (.aload 0, 109) := by decide +kernel
theorem e175_108 {ls : mj_L} {st : List Value} {σ : mj_S} {τ : mj_T} {v : Nat} : mj_E 175 108 (some (.ref v) :: ls) st σ τ = mj_E 175 109 (some (.ref v) :: ls) (.ref v :: st) σ τ := mj_nx i175_108 rfl
theorem i175_109 : mj_ins 175 109 = some (.iload 3, 110) := by decide +kernel
theorem e175_109 {ls : mj_L} {st : List Value} {σ : mj_S} {τ : mj_T} {a0 a1 a2 : Option Value} {v : Int32} : mj_E 175 109 (a0 :: a1 :: a2 :: some (.int v) :: ls) st σ τ = mj_E 175 110 (a0 :: a1 :: a2 :: some (.int v) :: ls) (.int v :: st) σ τ := mj_nx i175_109 rfl
theorem i175_110 : mj_ins 175 110 = some (.iload 1, 111) := by decide +kernel
theorem e175_110 {ls : mj_L} {st : List Value} {σ : mj_S} {τ : mj_T} {a0 : Option Value} {v : Int32} : mj_E 175 110 (a0 :: some (.int v) :: ls) st σ τ = mj_E 175 111 (a0 :: some (.int v) :: ls) (.int v :: st) σ τ := mj_nx i175_110 rfl
theorem i175_111 : mj_ins 175 111 = some (.aload 0, 112) := by decide +kernel
theorem e175_111 {ls : mj_L} {st : List Value} {σ : mj_S} {τ : mj_T} {v : Nat} : mj_E 175 111 (some (.ref v) :: ls) st σ τ = mj_E 175 112 (some (.ref v) :: ls) (.ref v :: st) σ τ := mj_nx i175_111 rfl
theorem i175_112 : mj_ins 175 112 = some (.getfield 709, 115) := by decide +kernel
theorem e175_112 {ls : mj_L} {st : List Value} {σ : mj_S} {τ : mj_T} : mj_E 175 112 ls (.ref 62 :: st) σ τ = mj_E 175 115 ls (.ref 66 :: st) σ τ := mj_nx i175_112 rfl
theorem i175_115 : mj_ins 175 115 = some (.iload 1, 116) := by decide +kernel
theorem e175_115 {ls : mj_L} {st : List Value} {σ : mj_S} {τ : mj_T} {a0 : Option Value} {v : Int32} : mj_E 175 115 (a0 :: some (.int v) :: ls) st σ τ = mj_E 175 116 (a0 :: some (.int v) :: ls) (.int v :: st) σ τ := mj_nx i175_115 rfl
theorem i175_116 : mj_ins 175 116 = some (.iaload, 117) := by decide +kernel
theorem e175_116 {ls : mj_L} {st : List Value} {σ : mj_S} {τ : mj_T} {x : Int32} {k : Nat} : mj_E 175 116 ls (.int x :: .ref k :: st) σ τ = if mj_ib (mj_li σ k) x = true then mj_E 175 117 ls (.int (σ k x.toNatClampNeg) :: st) σ τ else none := mj_ald i175_116
theorem i175_117 : mj_ins 175 117 = some (.iconst (3), 118) := by decide +kernel
theorem e175_117 {ls : mj_L} {st : List Value} {σ : mj_S} {τ : mj_T} : mj_E 175 117 ls st σ τ = mj_E 175 118 ls (.int (nI 3) :: st) σ τ := mj_nx i175_117 rfl
theorem i175_118 : mj_ins 175 118 = some (.idiv, 119) := by decide +kernel
theorem e175_118 {ls : mj_L} {st : List Value} {σ : mj_S} {τ : mj_T} {x y : Int32} : mj_E 175 118 ls (.int y :: .int x :: st) σ τ = if y = 0 then none else mj_E 175 119 ls (.int (x / y) :: st) σ τ := mj_div i175_118
theorem i175_119 : mj_ins 175 119 = some (.iload 2, 120) := by decide +kernel
theorem e175_119 {ls : mj_L} {st : List Value} {σ : mj_S} {τ : mj_T} {a0 a1 : Option Value} {v : Int32} : mj_E 175 119 (a0 :: a1 :: some (.int v) :: ls) st σ τ = mj_E 175 120 (a0 :: a1 :: some (.int v) :: ls) (.int v :: st) σ τ := mj_nx i175_119 rfl
theorem i175_120 : mj_ins 175 120 = some (.invokevirtual 174, 123) := by decide +kernel
theorem e175_120 {ls : mj_L} {σ : mj_S} {τ : mj_T} {r : Nat} {x0 : Int32} {x1 : Int32} {x2 : Int32} {x3 : Int32} : mj_E 175 120 ls [.int x3, .int x2, .int x1, .int x0, .ref r] σ τ = if mj_rcv r 7 = true then mj_bd (mj_C 174 [.ref r, .int x0, .int x1, .int x2, .int x3] σ τ) (mj_K 175 123 ls []) else none := mj_clV (as := [.int x0, .int x1, .int x2, .int x3]) (r := []) i175_120 (by decide +kernel : mj_vk 175 174 4 0 5 false = true) (by decide +kernel)
theorem i175_123 : mj_ins 175 123 = some (.ifCond .eq 130, 126) := by decide +kernel
theorem e175_123 {ls : mj_L} {st : List Value} {σ : mj_S} {τ : mj_T} {x : Int32} : mj_E 175 123 ls (.int x :: st) σ τ = if x = 0 then mj_E 175 130 ls st σ τ else mj_E 175 126 ls st σ τ := (mj_ifc i175_123).trans (mj_cdT rfl)
theorem i175_126 : mj_ins 175 126 = some (.iload 1, 127) := by decide +kernel
theorem e175_126 {ls : mj_L} {st : List Value} {σ : mj_S} {τ : mj_T} {a0 : Option Value} {v : Int32} : mj_E 175 126 (a0 :: some (.int v) :: ls) st σ τ = mj_E 175 127 (a0 :: some (.int v) :: ls) (.int v :: st) σ τ := mj_nx i175_126 rfl
theorem i175_127 : mj_ins 175 127 = some (.goto 131, 130) := by decide +kernel
theorem e175_127 {ls : mj_L} {st : List Value} {σ : mj_S} {τ : mj_T} : mj_E 175 127 ls st σ τ = mj_E 175 131 ls st σ τ := mj_nx i175_127 rfl
theorem i175_130 : mj_ins 175 130 = some (.iload 2, 131) := by decide +kernel
theorem e175_130 {ls : mj_L} {st : List Value} {σ : mj_S} {τ : mj_T} {a0 a1 : Option Value} {v : Int32} : mj_E 175 130 (a0 :: a1 :: some (.int v) :: ls) st σ τ = mj_E 175 131 (a0 :: a1 :: some (.int v) :: ls) (.int v :: st) σ τ := mj_nx i175_130 rfl
theorem i175_131 : mj_ins 175 131 = some (.istore 5, 133) := by decide +kernel
theorem e175_131 {ls : mj_L} {st : List Value} {σ : mj_S} {τ : mj_T} {a0 a1 a2 a3 a4 a5 : Option Value} {v : Int32} : mj_E 175 131 (a0 :: a1 :: a2 :: a3 :: a4 :: a5 :: ls) (.int v :: st) σ τ = mj_E 175 133 (a0 :: a1 :: a2 :: a3 :: a4 :: some (.int v) :: ls) st σ τ := mj_nx i175_131 rfl
theorem i175_133 : mj_ins 175 133 = some (.iload 5, 135) := by decide +kernel
theorem e175_133 {ls : mj_L} {st : List Value} {σ : mj_S} {τ : mj_T} {a0 a1 a2 a3 a4 : Option Value} {v : Int32} : mj_E 175 133 (a0 :: a1 :: a2 :: a3 :: a4 :: some (.int v) :: ls) st σ τ = mj_E 175 135 (a0 :: a1 :: a2 :: a3 :: a4 :: some (.int v) :: ls) (.int v :: st) σ τ := mj_nx i175_133 rfl
theorem i175_135 : mj_ins 175 135 = some (.iload 1, 136) := by decide +kernel
theorem e175_135 {ls : mj_L} {st : List Value} {σ : mj_S} {τ : mj_T} {a0 : Option Value} {v : Int32} : mj_E 175 135 (a0 :: some (.int v) :: ls) st σ τ = mj_E 175 136 (a0 :: some (.int v) :: ls) (.int v :: st) σ τ := mj_nx i175_135 rfl
theorem i175_136 : mj_ins 175 136 = some (.if_icmp .ne 143, 139) := by decide +kernel
theorem e175_136 {ls : mj_L} {st : List Value} {σ : mj_S} {τ : mj_T} {x y : Int32} : mj_E 175 136 ls (.int y :: .int x :: st) σ τ = if x = y then mj_E 175 139 ls st σ τ else mj_E 175 143 ls st σ τ := (mj_ifi i175_136).trans (mj_cdF rfl)
theorem i175_139 : mj_ins 175 139 = some (.iload 2, 140) := by decide +kernel
theorem e175_139 {ls : mj_L} {st : List Value} {σ : mj_S} {τ : mj_T} {a0 a1 : Option Value} {v : Int32} : mj_E 175 139 (a0 :: a1 :: some (.int v) :: ls) st σ τ = mj_E 175 140 (a0 :: a1 :: some (.int v) :: ls) (.int v :: st) σ τ := mj_nx i175_139 rfl
theorem i175_140 : mj_ins 175 140 = some (.goto 144, 143) := by decide +kernel
theorem e175_140 {ls : mj_L} {st : List Value} {σ : mj_S} {τ : mj_T} : mj_E 175 140 ls st σ τ = mj_E 175 144 ls st σ τ := mj_nx i175_140 rfl
theorem i175_143 : mj_ins 175 143 = some (.iload 1, 144) := by decide +kernel
theorem e175_143 {ls : mj_L} {st : List Value} {σ : mj_S} {τ : mj_T} {a0 : Option Value} {v : Int32} : mj_E 175 143 (a0 :: some (.int v) :: ls) st σ τ = mj_E 175 144 (a0 :: some (.int v) :: ls) (.int v :: st) σ τ := mj_nx i175_143 rfl
theorem i175_144 : mj_ins 175 144 = some (.istore 6, 146) := by decide +kernel
theorem e175_144 {ls : mj_L} {st : List Value} {σ : mj_S} {τ : mj_T} {a0 a1 a2 a3 a4 a5 a6 : Option Value} {v : Int32} : mj_E 175 144 (a0 :: a1 :: a2 :: a3 :: a4 :: a5 :: a6 :: ls) (.int v :: st) σ τ = mj_E 175 146 (a0 :: a1 :: a2 :: a3 :: a4 :: a5 :: some (.int v) :: ls) st σ τ := mj_nx i175_144 rfl
theorem i175_146 : mj_ins 175 146 = some (.iconst (0), 147) := by decide +kernel
theorem e175_146 {ls : mj_L} {st : List Value} {σ : mj_S} {τ : mj_T} : mj_E 175 146 ls st σ τ = mj_E 175 147 ls (.int (nI 0) :: st) σ τ := mj_nx i175_146 rfl
theorem i175_147 : mj_ins 175 147 = some (.istore 7, 149) := by decide +kernel
theorem e175_147 {ls : mj_L} {st : List Value} {σ : mj_S} {τ : mj_T} {a0 a1 a2 a3 a4 a5 a6 a7 : Option Value} {v : Int32} : mj_E 175 147 (a0 :: a1 :: a2 :: a3 :: a4 :: a5 :: a6 :: a7 :: ls) (.int v :: st) σ τ = mj_E 175 149 (a0 :: a1 :: a2 :: a3 :: a4 :: a5 :: a6 :: some (.int v) :: ls) st σ τ := mj_nx i175_147 rfl
theorem i175_149 : mj_ins 175 149 = some (.iload 4, 151) := by decide +kernel
theorem e175_149 {ls : mj_L} {st : List Value} {σ : mj_S} {τ : mj_T} {a0 a1 a2 a3 : Option Value} {v : Int32} : mj_E 175 149 (a0 :: a1 :: a2 :: a3 :: some (.int v) :: ls) st σ τ = mj_E 175 151 (a0 :: a1 :: a2 :: a3 :: some (.int v) :: ls) (.int v :: st) σ τ := mj_nx i175_149 rfl
theorem i175_151 : mj_ins 175 151 = some (.ifCond .ne 157, 154) := by decide +kernel
theorem e175_151 {ls : mj_L} {st : List Value} {σ : mj_S} {τ : mj_T} {x : Int32} : mj_E 175 151 ls (.int x :: st) σ τ = if x = 0 then mj_E 175 154 ls st σ τ else mj_E 175 157 ls st σ τ := (mj_ifc i175_151).trans (mj_cdF rfl)
theorem i175_154 : mj_ins 175 154 = some (.iload 5, 156) := by decide +kernel
theorem e175_154 {ls : mj_L} {st : List Value} {σ : mj_S} {τ : mj_T} {a0 a1 a2 a3 a4 : Option Value} {v : Int32} : mj_E 175 154 (a0 :: a1 :: a2 :: a3 :: a4 :: some (.int v) :: ls) st σ τ = mj_E 175 156 (a0 :: a1 :: a2 :: a3 :: a4 :: some (.int v) :: ls) (.int v :: st) σ τ := mj_nx i175_154 rfl
theorem i175_156 : mj_ins 175 156 = some (.ireturn, 157) := by decide +kernel
theorem e175_156 {ls : mj_L} {σ : mj_S} {τ : mj_T} {v : Int32} : mj_E 175 156 ls [.int v] σ τ = some (some (.int v), σ, τ) := mj_irt i175_156 rfl
theorem i175_157 : mj_ins 175 157 = some (.aload 0, 158) := by decide +kernel
theorem e175_157 {ls : mj_L} {st : List Value} {σ : mj_S} {τ : mj_T} {v : Nat} : mj_E 175 157 (some (.ref v) :: ls) st σ τ = mj_E 175 158 (some (.ref v) :: ls) (.ref v :: st) σ τ := mj_nx i175_157 rfl
theorem i175_158 : mj_ins 175 158 = some (.iload 3, 159) := by decide +kernel
theorem e175_158 {ls : mj_L} {st : List Value} {σ : mj_S} {τ : mj_T} {a0 a1 a2 : Option Value} {v : Int32} : mj_E 175 158 (a0 :: a1 :: a2 :: some (.int v) :: ls) st σ τ = mj_E 175 159 (a0 :: a1 :: a2 :: some (.int v) :: ls) (.int v :: st) σ τ := mj_nx i175_158 rfl
theorem i175_159 : mj_ins 175 159 = some (.iload 5, 161) := by decide +kernel
theorem e175_159 {ls : mj_L} {st : List Value} {σ : mj_S} {τ : mj_T} {a0 a1 a2 a3 a4 : Option Value} {v : Int32} : mj_E 175 159 (a0 :: a1 :: a2 :: a3 :: a4 :: some (.int v) :: ls) st σ τ = mj_E 175 161 (a0 :: a1 :: a2 :: a3 :: a4 :: some (.int v) :: ls) (.int v :: st) σ τ := mj_nx i175_159 rfl
theorem i175_161 : mj_ins 175 161 = some (.iload 7, 163) := by decide +kernel
theorem e175_161 {ls : mj_L} {st : List Value} {σ : mj_S} {τ : mj_T} {a0 a1 a2 a3 a4 a5 a6 : Option Value} {v : Int32} : mj_E 175 161 (a0 :: a1 :: a2 :: a3 :: a4 :: a5 :: a6 :: some (.int v) :: ls) st σ τ = mj_E 175 163 (a0 :: a1 :: a2 :: a3 :: a4 :: a5 :: a6 :: some (.int v) :: ls) (.int v :: st) σ τ := mj_nx i175_161 rfl
theorem i175_163 : mj_ins 175 163 = some (.iload 6, 165) := by decide +kernel
theorem e175_163 {ls : mj_L} {st : List Value} {σ : mj_S} {τ : mj_T} {a0 a1 a2 a3 a4 a5 : Option Value} {v : Int32} : mj_E 175 163 (a0 :: a1 :: a2 :: a3 :: a4 :: a5 :: some (.int v) :: ls) st σ τ = mj_E 175 165 (a0 :: a1 :: a2 :: a3 :: a4 :: a5 :: some (.int v) :: ls) (.int v :: st) σ τ := mj_nx i175_163 rfl
theorem i175_165 : mj_ins 175 165 = some (.invokevirtual 174, 168) := by decide +kernel
theorem e175_165 {ls : mj_L} {σ : mj_S} {τ : mj_T} {r : Nat} {x0 : Int32} {x1 : Int32} {x2 : Int32} {x3 : Int32} : mj_E 175 165 ls [.int x3, .int x2, .int x1, .int x0, .ref r] σ τ = if mj_rcv r 7 = true then mj_bd (mj_C 174 [.ref r, .int x0, .int x1, .int x2, .int x3] σ τ) (mj_K 175 168 ls []) else none := mj_clV (as := [.int x0, .int x1, .int x2, .int x3]) (r := []) i175_165 (by decide +kernel : mj_vk 175 174 4 0 5 false = true) (by decide +kernel)
theorem i175_168 : mj_ins 175 168 = some (.ifCond .ne 177, 171) := by decide +kernel
theorem e175_168 {ls : mj_L} {st : List Value} {σ : mj_S} {τ : mj_T} {x : Int32} : mj_E 175 168 ls (.int x :: st) σ τ = if x = 0 then mj_E 175 171 ls st σ τ else mj_E 175 177 ls st σ τ := (mj_ifc i175_168).trans (mj_cdF rfl)
theorem i175_171 : mj_ins 175 171 = some (.iinc 7 (1), 174) := by decide +kernel
theorem e175_171 {ls : mj_L} {st : List Value} {σ : mj_S} {τ : mj_T} {a0 a1 a2 a3 a4 a5 a6 : Option Value} {v : Int32} : mj_E 175 171 (a0 :: a1 :: a2 :: a3 :: a4 :: a5 :: a6 :: some (.int v) :: ls) st σ τ = mj_E 175 174 (a0 :: a1 :: a2 :: a3 :: a4 :: a5 :: a6 :: some (.int (v + nI 1)) :: ls) st σ τ := mj_nx i175_171 rfl
theorem i175_174 : mj_ins 175 174 = some (.goto 157, 177) := by decide +kernel
theorem e175_174 {ls : mj_L} {st : List Value} {σ : mj_S} {τ : mj_T} : mj_E 175 174 ls st σ τ = mj_E 175 157 ls st σ τ := mj_nx i175_174 rfl
theorem i175_177 : mj_ins 175 177 = some (.iload 7, 179) := by decide +kernel
theorem e175_177 {ls : mj_L} {st : List Value} {σ : mj_S} {τ : mj_T} {a0 a1 a2 a3 a4 a5 a6 : Option Value} {v : Int32} : mj_E 175 177 (a0 :: a1 :: a2 :: a3 :: a4 :: a5 :: a6 :: some (.int v) :: ls) st σ τ = mj_E 175 179 (a0 :: a1 :: a2 :: a3 :: a4 :: a5 :: a6 :: some (.int v) :: ls) (.int v :: st) σ τ := mj_nx i175_177 rfl
theorem i175_179 : mj_ins 175 179 = some (.ireturn, 180) := by decide +kernel
theorem e175_179 {ls : mj_L} {σ : mj_S} {τ : mj_T} {v : Int32} : mj_E 175 179 ls [.int v] σ τ = some (some (.int v), σ, τ) := mj_irt i175_179 rfl
theorem c176 {σ : mj_S} {τ : mj_T} {r : Nat} {x0 : Int32} {x1 : Int32} {x2 : Int32} {x3 : Int32} : mj_C 176 [.ref r, .int x0, .int x1, .int x2, .int x3] σ τ = mj_E 176 0 [some (.ref r), some (.int x0), some (.int x1), some (.int x2), some (.int x3), none, none, none] [] σ τ := rfl
theorem i176_0 : mj_ins 176 0 = some (.aload 0, 1) := by decide +kernel
theorem e176_0 {ls : mj_L} {st : List Value} {σ : mj_S} {τ : mj_T} {v : Nat} : mj_E 176 0 (some (.ref v) :: ls) st σ τ = mj_E 176 1 (some (.ref v) :: ls) (.ref v :: st) σ τ := mj_nx i176_0 rfl
theorem i176_1 : mj_ins 176 1 = some (.iload 1, 2) := by decide +kernel
theorem e176_1 {ls : mj_L} {st : List Value} {σ : mj_S} {τ : mj_T} {a0 : Option Value} {v : Int32} : mj_E 176 1 (a0 :: some (.int v) :: ls) st σ τ = mj_E 176 2 (a0 :: some (.int v) :: ls) (.int v :: st) σ τ := mj_nx i176_1 rfl
theorem i176_2 : mj_ins 176 2 = some (.invokevirtual 121, 5) := by decide +kernel
theorem e176_2 {ls : mj_L} {σ : mj_S} {τ : mj_T} {r : Nat} {x0 : Int32} : mj_E 176 2 ls [.int x0, .ref r] σ τ = if mj_rcv r 7 = true then mj_bd (mj_C 121 [.ref r, .int x0] σ τ) (mj_K 176 5 ls []) else none := mj_clV (as := [.int x0]) (r := []) i176_2 (by decide +kernel : mj_vk 176 121 1 0 2 false = true) (by decide +kernel)
theorem i176_5 : mj_ins 176 5 = some (.ifCond .eq 44, 8) := by decide +kernel
theorem e176_5 {ls : mj_L} {st : List Value} {σ : mj_S} {τ : mj_T} {x : Int32} : mj_E 176 5 ls (.int x :: st) σ τ = if x = 0 then mj_E 176 44 ls st σ τ else mj_E 176 8 ls st σ τ := (mj_ifc i176_5).trans (mj_cdT rfl)
theorem i176_8 : mj_ins 176 8 = some (.aload 0, 9) := by decide +kernel
theorem e176_8 {ls : mj_L} {st : List Value} {σ : mj_S} {τ : mj_T} {v : Nat} : mj_E 176 8 (some (.ref v) :: ls) st σ τ = mj_E 176 9 (some (.ref v) :: ls) (.ref v :: st) σ τ := mj_nx i176_8 rfl
theorem i176_9 : mj_ins 176 9 = some (.iload 3, 10) := by decide +kernel
theorem e176_9 {ls : mj_L} {st : List Value} {σ : mj_S} {τ : mj_T} {a0 a1 a2 : Option Value} {v : Int32} : mj_E 176 9 (a0 :: a1 :: a2 :: some (.int v) :: ls) st σ τ = mj_E 176 10 (a0 :: a1 :: a2 :: some (.int v) :: ls) (.int v :: st) σ τ := mj_nx i176_9 rfl
theorem i176_10 : mj_ins 176 10 = some (.invokevirtual 120, 13) := by decide +kernel
theorem e176_10 {ls : mj_L} {σ : mj_S} {τ : mj_T} {r : Nat} {x0 : Int32} : mj_E 176 10 ls [.int x0, .ref r] σ τ = if mj_rcv r 7 = true then mj_bd (mj_C 120 [.ref r, .int x0] σ τ) (mj_K 176 13 ls []) else none := mj_clV (as := [.int x0]) (r := []) i176_10 (by decide +kernel : mj_vk 176 120 1 0 2 false = true) (by decide +kernel)
theorem i176_13 : mj_ins 176 13 = some (.ifCond .eq 44, 16) := by decide +kernel
theorem e176_13 {ls : mj_L} {st : List Value} {σ : mj_S} {τ : mj_T} {x : Int32} : mj_E 176 13 ls (.int x :: st) σ τ = if x = 0 then mj_E 176 44 ls st σ τ else mj_E 176 16 ls st σ τ := (mj_ifc i176_13).trans (mj_cdT rfl)
theorem i176_16 : mj_ins 176 16 = some (.iload 2, 17) := by decide +kernel
theorem e176_16 {ls : mj_L} {st : List Value} {σ : mj_S} {τ : mj_T} {a0 a1 : Option Value} {v : Int32} : mj_E 176 16 (a0 :: a1 :: some (.int v) :: ls) st σ τ = mj_E 176 17 (a0 :: a1 :: some (.int v) :: ls) (.int v :: st) σ τ := mj_nx i176_16 rfl
theorem i176_17 : mj_ins 176 17 = some (.iconst (-1), 18) := by decide +kernel
theorem e176_17 {ls : mj_L} {st : List Value} {σ : mj_S} {τ : mj_T} : mj_E 176 17 ls st σ τ = mj_E 176 18 ls (.int ((-1)) :: st) σ τ := mj_nx i176_17 rfl
theorem i176_18 : mj_ins 176 18 = some (.if_icmp .eq 29, 21) := by decide +kernel
theorem e176_18 {ls : mj_L} {st : List Value} {σ : mj_S} {τ : mj_T} {x y : Int32} : mj_E 176 18 ls (.int y :: .int x :: st) σ τ = if x = y then mj_E 176 29 ls st σ τ else mj_E 176 21 ls st σ τ := (mj_ifi i176_18).trans (mj_cdT rfl)
theorem i176_21 : mj_ins 176 21 = some (.aload 0, 22) := by decide +kernel
theorem e176_21 {ls : mj_L} {st : List Value} {σ : mj_S} {τ : mj_T} {v : Nat} : mj_E 176 21 (some (.ref v) :: ls) st σ τ = mj_E 176 22 (some (.ref v) :: ls) (.ref v :: st) σ τ := mj_nx i176_21 rfl
theorem i176_22 : mj_ins 176 22 = some (.iload 2, 23) := by decide +kernel
theorem e176_22 {ls : mj_L} {st : List Value} {σ : mj_S} {τ : mj_T} {a0 a1 : Option Value} {v : Int32} : mj_E 176 22 (a0 :: a1 :: some (.int v) :: ls) st σ τ = mj_E 176 23 (a0 :: a1 :: some (.int v) :: ls) (.int v :: st) σ τ := mj_nx i176_22 rfl
theorem i176_23 : mj_ins 176 23 = some (.invokevirtual 120, 26) := by decide +kernel
theorem e176_23 {ls : mj_L} {σ : mj_S} {τ : mj_T} {r : Nat} {x0 : Int32} : mj_E 176 23 ls [.int x0, .ref r] σ τ = if mj_rcv r 7 = true then mj_bd (mj_C 120 [.ref r, .int x0] σ τ) (mj_K 176 26 ls []) else none := mj_clV (as := [.int x0]) (r := []) i176_23 (by decide +kernel : mj_vk 176 120 1 0 2 false = true) (by decide +kernel)
theorem i176_26 : mj_ins 176 26 = some (.ifCond .eq 44, 29) := by decide +kernel
theorem e176_26 {ls : mj_L} {st : List Value} {σ : mj_S} {τ : mj_T} {x : Int32} : mj_E 176 26 ls (.int x :: st) σ τ = if x = 0 then mj_E 176 44 ls st σ τ else mj_E 176 29 ls st σ τ := (mj_ifc i176_26).trans (mj_cdT rfl)
theorem i176_29 : mj_ins 176 29 = some (.iload 4, 31) := by decide +kernel
theorem e176_29 {ls : mj_L} {st : List Value} {σ : mj_S} {τ : mj_T} {a0 a1 a2 a3 : Option Value} {v : Int32} : mj_E 176 29 (a0 :: a1 :: a2 :: a3 :: some (.int v) :: ls) st σ τ = mj_E 176 31 (a0 :: a1 :: a2 :: a3 :: some (.int v) :: ls) (.int v :: st) σ τ := mj_nx i176_29 rfl
theorem i176_31 : mj_ins 176 31 = some (.iconst (-1), 32) := by decide +kernel
theorem e176_31 {ls : mj_L} {st : List Value} {σ : mj_S} {τ : mj_T} : mj_E 176 31 ls st σ τ = mj_E 176 32 ls (.int ((-1)) :: st) σ τ := mj_nx i176_31 rfl
theorem i176_32 : mj_ins 176 32 = some (.if_icmp .eq 50, 35) := by decide +kernel
theorem e176_32 {ls : mj_L} {st : List Value} {σ : mj_S} {τ : mj_T} {x y : Int32} : mj_E 176 32 ls (.int y :: .int x :: st) σ τ = if x = y then mj_E 176 50 ls st σ τ else mj_E 176 35 ls st σ τ := (mj_ifi i176_32).trans (mj_cdT rfl)
theorem i176_35 : mj_ins 176 35 = some (.aload 0, 36) := by decide +kernel
theorem e176_35 {ls : mj_L} {st : List Value} {σ : mj_S} {τ : mj_T} {v : Nat} : mj_E 176 35 (some (.ref v) :: ls) st σ τ = mj_E 176 36 (some (.ref v) :: ls) (.ref v :: st) σ τ := mj_nx i176_35 rfl
theorem i176_36 : mj_ins 176 36 = some (.iload 4, 38) := by decide +kernel
theorem e176_36 {ls : mj_L} {st : List Value} {σ : mj_S} {τ : mj_T} {a0 a1 a2 a3 : Option Value} {v : Int32} : mj_E 176 36 (a0 :: a1 :: a2 :: a3 :: some (.int v) :: ls) st σ τ = mj_E 176 38 (a0 :: a1 :: a2 :: a3 :: some (.int v) :: ls) (.int v :: st) σ τ := mj_nx i176_36 rfl
theorem i176_38 : mj_ins 176 38 = some (.invokevirtual 120, 41) := by decide +kernel
theorem e176_38 {ls : mj_L} {σ : mj_S} {τ : mj_T} {r : Nat} {x0 : Int32} : mj_E 176 38 ls [.int x0, .ref r] σ τ = if mj_rcv r 7 = true then mj_bd (mj_C 120 [.ref r, .int x0] σ τ) (mj_K 176 41 ls []) else none := mj_clV (as := [.int x0]) (r := []) i176_38 (by decide +kernel : mj_vk 176 120 1 0 2 false = true) (by decide +kernel)
theorem i176_41 : mj_ins 176 41 = some (.ifCond .ne 50, 44) := by decide +kernel
theorem e176_41 {ls : mj_L} {st : List Value} {σ : mj_S} {τ : mj_T} {x : Int32} : mj_E 176 41 ls (.int x :: st) σ τ = if x = 0 then mj_E 176 44 ls st σ τ else mj_E 176 50 ls st σ τ := (mj_ifc i176_41).trans (mj_cdF rfl)
theorem i176_44 : mj_ins 176 44 = some (.aload 0, 45) := by decide +kernel
theorem e176_44 {ls : mj_L} {st : List Value} {σ : mj_S} {τ : mj_T} {v : Nat} : mj_E 176 44 (some (.ref v) :: ls) st σ τ = mj_E 176 45 (some (.ref v) :: ls) (.ref v :: st) σ τ := mj_nx i176_44 rfl
theorem i176_45 : mj_ins 176 45 = some (.iconst (-1), 46) := by decide +kernel
theorem e176_45 {ls : mj_L} {st : List Value} {σ : mj_S} {τ : mj_T} : mj_E 176 45 ls st σ τ = mj_E 176 46 ls (.int ((-1)) :: st) σ τ := mj_nx i176_45 rfl
theorem i176_46 : mj_ins 176 46 = some (.invokevirtual 117, 49) := by decide +kernel
theorem e176_46 {ls : mj_L} {σ : mj_S} {τ : mj_T} {r : Nat} {x0 : Int32} : mj_E 176 46 ls [.int x0, .ref r] σ τ = if mj_rcv r 7 = true then mj_bd (mj_C 117 [.ref r, .int x0] σ τ) (mj_K 176 49 ls []) else none := mj_clV (as := [.int x0]) (r := []) i176_46 (by decide +kernel : mj_vk 176 117 1 0 2 false = true) (by decide +kernel)
theorem i176_49 : mj_ins 176 49 = some (.ireturn, 50) := by decide +kernel
theorem e176_49 {ls : mj_L} {σ : mj_S} {τ : mj_T} {v : Int32} : mj_E 176 49 ls [.int v] σ τ = some (some (.int v), σ, τ) := mj_irt i176_49 rfl
theorem i176_50 : mj_ins 176 50 = some (.aload 0, 51) := by decide +kernel
theorem e176_50 {ls : mj_L} {st : List Value} {σ : mj_S} {τ : mj_T} {v : Nat} : mj_E 176 50 (some (.ref v) :: ls) st σ τ = mj_E 176 51 (some (.ref v) :: ls) (.ref v :: st) σ τ := mj_nx i176_50 rfl
theorem i176_51 : mj_ins 176 51 = some (.getfield 712, 54) := by decide +kernel
theorem e176_51 {ls : mj_L} {st : List Value} {σ : mj_S} {τ : mj_T} : mj_E 176 51 ls (.ref 62 :: st) σ τ = mj_E 176 54 ls (.ref 69 :: st) σ τ := mj_nx i176_51 rfl
theorem i176_54 : mj_ins 176 54 = some (.iload 1, 55) := by decide +kernel
theorem e176_54 {ls : mj_L} {st : List Value} {σ : mj_S} {τ : mj_T} {a0 : Option Value} {v : Int32} : mj_E 176 54 (a0 :: some (.int v) :: ls) st σ τ = mj_E 176 55 (a0 :: some (.int v) :: ls) (.int v :: st) σ τ := mj_nx i176_54 rfl
theorem i176_55 : mj_ins 176 55 = some (.iaload, 56) := by decide +kernel
theorem e176_55 {ls : mj_L} {st : List Value} {σ : mj_S} {τ : mj_T} {x : Int32} {k : Nat} : mj_E 176 55 ls (.int x :: .ref k :: st) σ τ = if mj_ib (mj_li σ k) x = true then mj_E 176 56 ls (.int (σ k x.toNatClampNeg) :: st) σ τ else none := mj_ald i176_55
theorem i176_56 : mj_ins 176 56 = some (.istore 5, 58) := by decide +kernel
theorem e176_56 {ls : mj_L} {st : List Value} {σ : mj_S} {τ : mj_T} {a0 a1 a2 a3 a4 a5 : Option Value} {v : Int32} : mj_E 176 56 (a0 :: a1 :: a2 :: a3 :: a4 :: a5 :: ls) (.int v :: st) σ τ = mj_E 176 58 (a0 :: a1 :: a2 :: a3 :: a4 :: some (.int v) :: ls) st σ τ := mj_nx i176_56 rfl
theorem i176_58 : mj_ins 176 58 = some (.iconst (0), 59) := by decide +kernel
theorem e176_58 {ls : mj_L} {st : List Value} {σ : mj_S} {τ : mj_T} : mj_E 176 58 ls st σ τ = mj_E 176 59 ls (.int (nI 0) :: st) σ τ := mj_nx i176_58 rfl
theorem i176_59 : mj_ins 176 59 = some (.istore 6, 61) := by decide +kernel
theorem e176_59 {ls : mj_L} {st : List Value} {σ : mj_S} {τ : mj_T} {a0 a1 a2 a3 a4 a5 a6 : Option Value} {v : Int32} : mj_E 176 59 (a0 :: a1 :: a2 :: a3 :: a4 :: a5 :: a6 :: ls) (.int v :: st) σ τ = mj_E 176 61 (a0 :: a1 :: a2 :: a3 :: a4 :: a5 :: some (.int v) :: ls) st σ τ := mj_nx i176_59 rfl
theorem i176_61 : mj_ins 176 61 = some (.iconst (0), 62) := by decide +kernel
theorem e176_61 {ls : mj_L} {st : List Value} {σ : mj_S} {τ : mj_T} : mj_E 176 61 ls st σ τ = mj_E 176 62 ls (.int (nI 0) :: st) σ τ := mj_nx i176_61 rfl
theorem i176_62 : mj_ins 176 62 = some (.istore 7, 64) := by decide +kernel
theorem e176_62 {ls : mj_L} {st : List Value} {σ : mj_S} {τ : mj_T} {a0 a1 a2 a3 a4 a5 a6 a7 : Option Value} {v : Int32} : mj_E 176 62 (a0 :: a1 :: a2 :: a3 :: a4 :: a5 :: a6 :: a7 :: ls) (.int v :: st) σ τ = mj_E 176 64 (a0 :: a1 :: a2 :: a3 :: a4 :: a5 :: a6 :: some (.int v) :: ls) st σ τ := mj_nx i176_62 rfl
theorem i176_64 : mj_ins 176 64 = some (.iload 7, 66) := by decide +kernel
theorem e176_64 {ls : mj_L} {st : List Value} {σ : mj_S} {τ : mj_T} {a0 a1 a2 a3 a4 a5 a6 : Option Value} {v : Int32} : mj_E 176 64 (a0 :: a1 :: a2 :: a3 :: a4 :: a5 :: a6 :: some (.int v) :: ls) st σ τ = mj_E 176 66 (a0 :: a1 :: a2 :: a3 :: a4 :: a5 :: a6 :: some (.int v) :: ls) (.int v :: st) σ τ := mj_nx i176_64 rfl
theorem i176_66 : mj_ins 176 66 = some (.iconst (9), 68) := by decide +kernel
theorem e176_66 {ls : mj_L} {st : List Value} {σ : mj_S} {τ : mj_T} : mj_E 176 66 ls st σ τ = mj_E 176 68 ls (.int (nI 9) :: st) σ τ := mj_nx i176_66 rfl
theorem i176_68 : mj_ins 176 68 = some (.if_icmp .gt 124, 71) := by decide +kernel
theorem e176_68 {ls : mj_L} {st : List Value} {σ : mj_S} {τ : mj_T} {x y : Int32} : mj_E 176 68 ls (.int y :: .int x :: st) σ τ = if y < x then mj_E 176 124 ls st σ τ else mj_E 176 71 ls st σ τ := (mj_ifi i176_68).trans (mj_cdT rfl)
theorem i176_71 : mj_ins 176 71 = some (.aload 0, 72) := by decide +kernel
theorem e176_71 {ls : mj_L} {st : List Value} {σ : mj_S} {τ : mj_T} {v : Nat} : mj_E 176 71 (some (.ref v) :: ls) st σ τ = mj_E 176 72 (some (.ref v) :: ls) (.ref v :: st) σ τ := mj_nx i176_71 rfl
theorem i176_72 : mj_ins 176 72 = some (.getfield 712, 75) := by decide +kernel
theorem e176_72 {ls : mj_L} {st : List Value} {σ : mj_S} {τ : mj_T} : mj_E 176 72 ls (.ref 62 :: st) σ τ = mj_E 176 75 ls (.ref 69 :: st) σ τ := mj_nx i176_72 rfl
theorem i176_75 : mj_ins 176 75 = some (.iload 1, 76) := by decide +kernel
theorem e176_75 {ls : mj_L} {st : List Value} {σ : mj_S} {τ : mj_T} {a0 : Option Value} {v : Int32} : mj_E 176 75 (a0 :: some (.int v) :: ls) st σ τ = mj_E 176 76 (a0 :: some (.int v) :: ls) (.int v :: st) σ τ := mj_nx i176_75 rfl
theorem i176_76 : mj_ins 176 76 = some (.iload 7, 78) := by decide +kernel
theorem e176_76 {ls : mj_L} {st : List Value} {σ : mj_S} {τ : mj_T} {a0 a1 a2 a3 a4 a5 a6 : Option Value} {v : Int32} : mj_E 176 76 (a0 :: a1 :: a2 :: a3 :: a4 :: a5 :: a6 :: some (.int v) :: ls) st σ τ = mj_E 176 78 (a0 :: a1 :: a2 :: a3 :: a4 :: a5 :: a6 :: some (.int v) :: ls) (.int v :: st) σ τ := mj_nx i176_76 rfl
theorem i176_78 : mj_ins 176 78 = some (.iastore, 79) := by decide +kernel
theorem e176_78 {ls : mj_L} {st : List Value} {σ : mj_S} {τ : mj_T} {x v : Int32} {k : Nat} : mj_E 176 78 ls (.int v :: .int x :: .ref k :: st) σ τ = if mj_ib (mj_lw k) x = true then mj_E 176 79 ls st (mj_up σ k x.toNatClampNeg v) τ else none := mj_ast i176_78
theorem i176_79 : mj_ins 176 79 = some (.aload 0, 80) := by decide +kernel
theorem e176_79 {ls : mj_L} {st : List Value} {σ : mj_S} {τ : mj_T} {v : Nat} : mj_E 176 79 (some (.ref v) :: ls) st σ τ = mj_E 176 80 (some (.ref v) :: ls) (.ref v :: st) σ τ := mj_nx i176_79 rfl
theorem i176_80 : mj_ins 176 80 = some (.iload 1, 81) := by decide +kernel
theorem e176_80 {ls : mj_L} {st : List Value} {σ : mj_S} {τ : mj_T} {a0 : Option Value} {v : Int32} : mj_E 176 80 (a0 :: some (.int v) :: ls) st σ τ = mj_E 176 81 (a0 :: some (.int v) :: ls) (.int v :: st) σ τ := mj_nx i176_80 rfl
theorem i176_81 : mj_ins 176 81 = some (.invokevirtual 157, 84) := by decide +kernel
theorem e176_81 {ls : mj_L} {σ : mj_S} {τ : mj_T} {r : Nat} {x0 : Int32} : mj_E 176 81 ls [.int x0, .ref r] σ τ = if mj_rcv r 7 = true then mj_bd (mj_C 157 [.ref r, .int x0] σ τ) (mj_K 176 84 ls []) else none := mj_clV (as := [.int x0]) (r := []) i176_81 (by decide +kernel : mj_vk 176 157 1 0 2 false = true) (by decide +kernel)
theorem i176_84 : mj_ins 176 84 = some (.aload 0, 85) := by decide +kernel
theorem e176_84 {ls : mj_L} {st : List Value} {σ : mj_S} {τ : mj_T} {v : Nat} : mj_E 176 84 (some (.ref v) :: ls) st σ τ = mj_E 176 85 (some (.ref v) :: ls) (.ref v :: st) σ τ := mj_nx i176_84 rfl
theorem i176_85 : mj_ins 176 85 = some (.getfield 735, 88) := by decide +kernel
theorem e176_85 {ls : mj_L} {st : List Value} {σ : mj_S} {τ : mj_T} : mj_E 176 85 ls (.ref 62 :: st) σ τ = mj_E 176 88 ls (.int (σ 62 35) :: st) σ τ := mj_nx i176_85 rfl
theorem i176_88 : mj_ins 176 88 = some (.iload 2, 89) := by decide +kernel
theorem e176_88 {ls : mj_L} {st : List Value} {σ : mj_S} {τ : mj_T} {a0 a1 : Option Value} {v : Int32} : mj_E 176 88 (a0 :: a1 :: some (.int v) :: ls) st σ τ = mj_E 176 89 (a0 :: a1 :: some (.int v) :: ls) (.int v :: st) σ τ := mj_nx i176_88 rfl
theorem i176_89 : mj_ins 176 89 = some (.if_icmp .ne 118, 92) := by decide +kernel
theorem e176_89 {ls : mj_L} {st : List Value} {σ : mj_S} {τ : mj_T} {x y : Int32} : mj_E 176 89 ls (.int y :: .int x :: st) σ τ = if x = y then mj_E 176 92 ls st σ τ else mj_E 176 118 ls st σ τ := (mj_ifi i176_89).trans (mj_cdF rfl)
theorem i176_92 : mj_ins 176 92 = some (.aload 0, 93) := by decide +kernel
theorem e176_92 {ls : mj_L} {st : List Value} {σ : mj_S} {τ : mj_T} {v : Nat} : mj_E 176 92 (some (.ref v) :: ls) st σ τ = mj_E 176 93 (some (.ref v) :: ls) (.ref v :: st) σ τ := mj_nx i176_92 rfl
theorem i176_93 : mj_ins 176 93 = some (.getfield 736, 96) := by decide +kernel
theorem e176_93 {ls : mj_L} {st : List Value} {σ : mj_S} {τ : mj_T} : mj_E 176 93 ls (.ref 62 :: st) σ τ = mj_E 176 96 ls (.int (σ 62 36) :: st) σ τ := mj_nx i176_93 rfl
theorem i176_96 : mj_ins 176 96 = some (.iload 3, 97) := by decide +kernel
theorem e176_96 {ls : mj_L} {st : List Value} {σ : mj_S} {τ : mj_T} {a0 a1 a2 : Option Value} {v : Int32} : mj_E 176 96 (a0 :: a1 :: a2 :: some (.int v) :: ls) st σ τ = mj_E 176 97 (a0 :: a1 :: a2 :: some (.int v) :: ls) (.int v :: st) σ τ := mj_nx i176_96 rfl
theorem i176_97 : mj_ins 176 97 = some (.if_icmp .ne 118, 100) := by decide +kernel
theorem e176_97 {ls : mj_L} {st : List Value} {σ : mj_S} {τ : mj_T} {x y : Int32} : mj_E 176 97 ls (.int y :: .int x :: st) σ τ = if x = y then mj_E 176 100 ls st σ τ else mj_E 176 118 ls st σ τ := (mj_ifi i176_97).trans (mj_cdF rfl)
theorem i176_100 : mj_ins 176 100 = some (.aload 0, 101) := by decide +kernel
theorem e176_100 {ls : mj_L} {st : List Value} {σ : mj_S} {τ : mj_T} {v : Nat} : mj_E 176 100 (some (.ref v) :: ls) st σ τ = mj_E 176 101 (some (.ref v) :: ls) (.ref v :: st) σ τ := mj_nx i176_100 rfl
theorem i176_101 : mj_ins 176 101 = some (.getfield 737, 104) := by decide +kernel
theorem e176_101 {ls : mj_L} {st : List Value} {σ : mj_S} {τ : mj_T} : mj_E 176 101 ls (.ref 62 :: st) σ τ = mj_E 176 104 ls (.int (σ 62 37) :: st) σ τ := mj_nx i176_101 rfl
theorem i176_104 : mj_ins 176 104 = some (.iload 4, 106) := by decide +kernel
theorem e176_104 {ls : mj_L} {st : List Value} {σ : mj_S} {τ : mj_T} {a0 a1 a2 a3 : Option Value} {v : Int32} : mj_E 176 104 (a0 :: a1 :: a2 :: a3 :: some (.int v) :: ls) st σ τ = mj_E 176 106 (a0 :: a1 :: a2 :: a3 :: some (.int v) :: ls) (.int v :: st) σ τ := mj_nx i176_104 rfl
theorem i176_106 : mj_ins 176 106 = some (.if_icmp .ne 118, 109) := by decide +kernel
theorem e176_106 {ls : mj_L} {st : List Value} {σ : mj_S} {τ : mj_T} {x y : Int32} : mj_E 176 106 ls (.int y :: .int x :: st) σ τ = if x = y then mj_E 176 109 ls st σ τ else mj_E 176 118 ls st σ τ := (mj_ifi i176_106).trans (mj_cdF rfl)
theorem i176_109 : mj_ins 176 109 = some (.iload 6, 111) := by decide +kernel
theorem e176_109 {ls : mj_L} {st : List Value} {σ : mj_S} {τ : mj_T} {a0 a1 a2 a3 a4 a5 : Option Value} {v : Int32} : mj_E 176 109 (a0 :: a1 :: a2 :: a3 :: a4 :: a5 :: some (.int v) :: ls) st σ τ = mj_E 176 111 (a0 :: a1 :: a2 :: a3 :: a4 :: a5 :: some (.int v) :: ls) (.int v :: st) σ τ := mj_nx i176_109 rfl
theorem i176_111 : mj_ins 176 111 = some (.iconst (1), 112) := by decide +kernel
theorem e176_111 {ls : mj_L} {st : List Value} {σ : mj_S} {τ : mj_T} : mj_E 176 111 ls st σ τ = mj_E 176 112 ls (.int (nI 1) :: st) σ τ := mj_nx i176_111 rfl
theorem i176_112 : mj_ins 176 112 = some (.iload 7, 114) := by decide +kernel
theorem e176_112 {ls : mj_L} {st : List Value} {σ : mj_S} {τ : mj_T} {a0 a1 a2 a3 a4 a5 a6 : Option Value} {v : Int32} : mj_E 176 112 (a0 :: a1 :: a2 :: a3 :: a4 :: a5 :: a6 :: some (.int v) :: ls) st σ τ = mj_E 176 114 (a0 :: a1 :: a2 :: a3 :: a4 :: a5 :: a6 :: some (.int v) :: ls) (.int v :: st) σ τ := mj_nx i176_112 rfl
theorem i176_114 : mj_ins 176 114 = some (.ishl, 115) := by decide +kernel
theorem e176_114 {ls : mj_L} {st : List Value} {σ : mj_S} {τ : mj_T} {x y : Int32} : mj_E 176 114 ls (.int y :: .int x :: st) σ τ = mj_E 176 115 ls (.int (x <<< (y &&& 31)) :: st) σ τ := mj_nx i176_114 rfl
theorem i176_115 : mj_ins 176 115 = some (.iadd, 116) := by decide +kernel
theorem e176_115 {ls : mj_L} {st : List Value} {σ : mj_S} {τ : mj_T} {x y : Int32} : mj_E 176 115 ls (.int y :: .int x :: st) σ τ = mj_E 176 116 ls (.int (x + y) :: st) σ τ := mj_nx i176_115 rfl
theorem i176_116 : mj_ins 176 116 = some (.istore 6, 118) := by decide +kernel
theorem e176_116 {ls : mj_L} {st : List Value} {σ : mj_S} {τ : mj_T} {a0 a1 a2 a3 a4 a5 a6 : Option Value} {v : Int32} : mj_E 176 116 (a0 :: a1 :: a2 :: a3 :: a4 :: a5 :: a6 :: ls) (.int v :: st) σ τ = mj_E 176 118 (a0 :: a1 :: a2 :: a3 :: a4 :: a5 :: some (.int v) :: ls) st σ τ := mj_nx i176_116 rfl
theorem i176_118 : mj_ins 176 118 = some (.iinc 7 (1), 121) := by decide +kernel
theorem e176_118 {ls : mj_L} {st : List Value} {σ : mj_S} {τ : mj_T} {a0 a1 a2 a3 a4 a5 a6 : Option Value} {v : Int32} : mj_E 176 118 (a0 :: a1 :: a2 :: a3 :: a4 :: a5 :: a6 :: some (.int v) :: ls) st σ τ = mj_E 176 121 (a0 :: a1 :: a2 :: a3 :: a4 :: a5 :: a6 :: some (.int (v + nI 1)) :: ls) st σ τ := mj_nx i176_118 rfl
theorem i176_121 : mj_ins 176 121 = some (.goto 64, 124) := by decide +kernel
theorem e176_121 {ls : mj_L} {st : List Value} {σ : mj_S} {τ : mj_T} : mj_E 176 121 ls st σ τ = mj_E 176 64 ls st σ τ := mj_nx i176_121 rfl
theorem i176_124 : mj_ins 176 124 = some (.aload 0, 125) := by decide +kernel
theorem e176_124 {ls : mj_L} {st : List Value} {σ : mj_S} {τ : mj_T} {v : Nat} : mj_E 176 124 (some (.ref v) :: ls) st σ τ = mj_E 176 125 (some (.ref v) :: ls) (.ref v :: st) σ τ := mj_nx i176_124 rfl
theorem i176_125 : mj_ins 176 125 = some (.getfield 712, 128) := by decide +kernel
theorem e176_125 {ls : mj_L} {st : List Value} {σ : mj_S} {τ : mj_T} : mj_E 176 125 ls (.ref 62 :: st) σ τ = mj_E 176 128 ls (.ref 69 :: st) σ τ := mj_nx i176_125 rfl
theorem i176_128 : mj_ins 176 128 = some (.iload 1, 129) := by decide +kernel
theorem e176_128 {ls : mj_L} {st : List Value} {σ : mj_S} {τ : mj_T} {a0 : Option Value} {v : Int32} : mj_E 176 128 (a0 :: some (.int v) :: ls) st σ τ = mj_E 176 129 (a0 :: some (.int v) :: ls) (.int v :: st) σ τ := mj_nx i176_128 rfl
theorem i176_129 : mj_ins 176 129 = some (.iload 5, 131) := by decide +kernel
theorem e176_129 {ls : mj_L} {st : List Value} {σ : mj_S} {τ : mj_T} {a0 a1 a2 a3 a4 : Option Value} {v : Int32} : mj_E 176 129 (a0 :: a1 :: a2 :: a3 :: a4 :: some (.int v) :: ls) st σ τ = mj_E 176 131 (a0 :: a1 :: a2 :: a3 :: a4 :: some (.int v) :: ls) (.int v :: st) σ τ := mj_nx i176_129 rfl
theorem i176_131 : mj_ins 176 131 = some (.iastore, 132) := by decide +kernel
theorem e176_131 {ls : mj_L} {st : List Value} {σ : mj_S} {τ : mj_T} {x v : Int32} {k : Nat} : mj_E 176 131 ls (.int v :: .int x :: .ref k :: st) σ τ = if mj_ib (mj_lw k) x = true then mj_E 176 132 ls st (mj_up σ k x.toNatClampNeg v) τ else none := mj_ast i176_131
theorem i176_132 : mj_ins 176 132 = some (.iload 6, 134) := by decide +kernel
theorem e176_132 {ls : mj_L} {st : List Value} {σ : mj_S} {τ : mj_T} {a0 a1 a2 a3 a4 a5 : Option Value} {v : Int32} : mj_E 176 132 (a0 :: a1 :: a2 :: a3 :: a4 :: a5 :: some (.int v) :: ls) st σ τ = mj_E 176 134 (a0 :: a1 :: a2 :: a3 :: a4 :: a5 :: some (.int v) :: ls) (.int v :: st) σ τ := mj_nx i176_132 rfl
theorem i176_134 : mj_ins 176 134 = some (.ireturn, 135) := by decide +kernel
theorem e176_134 {ls : mj_L} {σ : mj_S} {τ : mj_T} {v : Int32} : mj_E 176 134 ls [.int v] σ τ = some (some (.int v), σ, τ) := mj_irt i176_134 rfl
theorem c177 {σ : mj_S} {τ : mj_T} {r : Nat} {x0 : Int32} {x1 : Int32} : mj_C 177 [.ref r, .int x0, .int x1] σ τ = mj_E 177 0 [some (.ref r), some (.int x0), some (.int x1), none, none] [] σ τ := rfl
theorem i177_0 : mj_ins 177 0 = some (.aload 0, 1) := by decide +kernel
theorem e177_0 {ls : mj_L} {st : List Value} {σ : mj_S} {τ : mj_T} {v : Nat} : mj_E 177 0 (some (.ref v) :: ls) st σ τ = mj_E 177 1 (some (.ref v) :: ls) (.ref v :: st) σ τ := mj_nx i177_0 rfl
theorem i177_1 : mj_ins 177 1 = some (.iload 1, 2) := by decide +kernel
theorem e177_1 {ls : mj_L} {st : List Value} {σ : mj_S} {τ : mj_T} {a0 : Option Value} {v : Int32} : mj_E 177 1 (a0 :: some (.int v) :: ls) st σ τ = mj_E 177 2 (a0 :: some (.int v) :: ls) (.int v :: st) σ τ := mj_nx i177_1 rfl
theorem i177_2 : mj_ins 177 2 = some (.invokevirtual 157, 5) := by decide +kernel
theorem e177_2 {ls : mj_L} {σ : mj_S} {τ : mj_T} {r : Nat} {x0 : Int32} : mj_E 177 2 ls [.int x0, .ref r] σ τ = if mj_rcv r 7 = true then mj_bd (mj_C 157 [.ref r, .int x0] σ τ) (mj_K 177 5 ls []) else none := mj_clV (as := [.int x0]) (r := []) i177_2 (by decide +kernel : mj_vk 177 157 1 0 2 false = true) (by decide +kernel)
theorem i177_5 : mj_ins 177 5 = some (.aload 0, 6) := by decide +kernel
theorem e177_5 {ls : mj_L} {st : List Value} {σ : mj_S} {τ : mj_T} {v : Nat} : mj_E 177 5 (some (.ref v) :: ls) st σ τ = mj_E 177 6 (some (.ref v) :: ls) (.ref v :: st) σ τ := mj_nx i177_5 rfl
theorem i177_6 : mj_ins 177 6 = some (.getfield 736, 9) := by decide +kernel
theorem e177_6 {ls : mj_L} {st : List Value} {σ : mj_S} {τ : mj_T} : mj_E 177 6 ls (.ref 62 :: st) σ τ = mj_E 177 9 ls (.int (σ 62 36) :: st) σ τ := mj_nx i177_6 rfl
theorem i177_9 : mj_ins 177 9 = some (.istore 3, 10) := by decide +kernel
theorem e177_9 {ls : mj_L} {st : List Value} {σ : mj_S} {τ : mj_T} {a0 a1 a2 a3 : Option Value} {v : Int32} : mj_E 177 9 (a0 :: a1 :: a2 :: a3 :: ls) (.int v :: st) σ τ = mj_E 177 10 (a0 :: a1 :: a2 :: some (.int v) :: ls) st σ τ := mj_nx i177_9 rfl
theorem i177_10 : mj_ins 177 10 = some (.aload 0, 11) := by decide +kernel
theorem e177_10 {ls : mj_L} {st : List Value} {σ : mj_S} {τ : mj_T} {v : Nat} : mj_E 177 10 (some (.ref v) :: ls) st σ τ = mj_E 177 11 (some (.ref v) :: ls) (.ref v :: st) σ τ := mj_nx i177_10 rfl
theorem i177_11 : mj_ins 177 11 = some (.iload 2, 12) := by decide +kernel
theorem e177_11 {ls : mj_L} {st : List Value} {σ : mj_S} {τ : mj_T} {a0 a1 : Option Value} {v : Int32} : mj_E 177 11 (a0 :: a1 :: some (.int v) :: ls) st σ τ = mj_E 177 12 (a0 :: a1 :: some (.int v) :: ls) (.int v :: st) σ τ := mj_nx i177_11 rfl
theorem i177_12 : mj_ins 177 12 = some (.invokevirtual 157, 15) := by decide +kernel
theorem e177_12 {ls : mj_L} {σ : mj_S} {τ : mj_T} {r : Nat} {x0 : Int32} : mj_E 177 12 ls [.int x0, .ref r] σ τ = if mj_rcv r 7 = true then mj_bd (mj_C 157 [.ref r, .int x0] σ τ) (mj_K 177 15 ls []) else none := mj_clV (as := [.int x0]) (r := []) i177_12 (by decide +kernel : mj_vk 177 157 1 0 2 false = true) (by decide +kernel)
theorem i177_15 : mj_ins 177 15 = some (.aload 0, 16) := by decide +kernel
theorem e177_15 {ls : mj_L} {st : List Value} {σ : mj_S} {τ : mj_T} {v : Nat} : mj_E 177 15 (some (.ref v) :: ls) st σ τ = mj_E 177 16 (some (.ref v) :: ls) (.ref v :: st) σ τ := mj_nx i177_15 rfl
theorem i177_16 : mj_ins 177 16 = some (.getfield 736, 19) := by decide +kernel
theorem e177_16 {ls : mj_L} {st : List Value} {σ : mj_S} {τ : mj_T} : mj_E 177 16 ls (.ref 62 :: st) σ τ = mj_E 177 19 ls (.int (σ 62 36) :: st) σ τ := mj_nx i177_16 rfl
theorem i177_19 : mj_ins 177 19 = some (.istore 4, 21) := by decide +kernel
theorem e177_19 {ls : mj_L} {st : List Value} {σ : mj_S} {τ : mj_T} {a0 a1 a2 a3 a4 : Option Value} {v : Int32} : mj_E 177 19 (a0 :: a1 :: a2 :: a3 :: a4 :: ls) (.int v :: st) σ τ = mj_E 177 21 (a0 :: a1 :: a2 :: a3 :: some (.int v) :: ls) st σ τ := mj_nx i177_19 rfl
theorem i177_21 : mj_ins 177 21 = some (.iload 3, 22) := by decide +kernel
theorem e177_21 {ls : mj_L} {st : List Value} {σ : mj_S} {τ : mj_T} {a0 a1 a2 : Option Value} {v : Int32} : mj_E 177 21 (a0 :: a1 :: a2 :: some (.int v) :: ls) st σ τ = mj_E 177 22 (a0 :: a1 :: a2 :: some (.int v) :: ls) (.int v :: st) σ τ := mj_nx i177_21 rfl
theorem i177_22 : mj_ins 177 22 = some (.iload 4, 24) := by decide +kernel
theorem e177_22 {ls : mj_L} {st : List Value} {σ : mj_S} {τ : mj_T} {a0 a1 a2 a3 : Option Value} {v : Int32} : mj_E 177 22 (a0 :: a1 :: a2 :: a3 :: some (.int v) :: ls) st σ τ = mj_E 177 24 (a0 :: a1 :: a2 :: a3 :: some (.int v) :: ls) (.int v :: st) σ τ := mj_nx i177_22 rfl
theorem i177_24 : mj_ins 177 24 = some (.if_icmp .eq 56, 27) := by decide +kernel
theorem e177_24 {ls : mj_L} {st : List Value} {σ : mj_S} {τ : mj_T} {x y : Int32} : mj_E 177 24 ls (.int y :: .int x :: st) σ τ = if x = y then mj_E 177 56 ls st σ τ else mj_E 177 27 ls st σ τ := (mj_ifi i177_24).trans (mj_cdT rfl)
theorem i177_27 : mj_ins 177 27 = some (.aload 0, 28) := by decide +kernel
theorem e177_27 {ls : mj_L} {st : List Value} {σ : mj_S} {τ : mj_T} {v : Nat} : mj_E 177 27 (some (.ref v) :: ls) st σ τ = mj_E 177 28 (some (.ref v) :: ls) (.ref v :: st) σ τ := mj_nx i177_27 rfl
theorem i177_28 : mj_ins 177 28 = some (.getfield 715, 31) := by decide +kernel
theorem e177_28 {ls : mj_L} {st : List Value} {σ : mj_S} {τ : mj_T} : mj_E 177 28 ls (.ref 62 :: st) σ τ = mj_E 177 31 ls (.ref 72 :: st) σ τ := mj_nx i177_28 rfl
theorem i177_31 : mj_ins 177 31 = some (.iload 1, 32) := by decide +kernel
theorem e177_31 {ls : mj_L} {st : List Value} {σ : mj_S} {τ : mj_T} {a0 : Option Value} {v : Int32} : mj_E 177 31 (a0 :: some (.int v) :: ls) st σ τ = mj_E 177 32 (a0 :: some (.int v) :: ls) (.int v :: st) σ τ := mj_nx i177_31 rfl
theorem i177_32 : mj_ins 177 32 = some (.iaload, 33) := by decide +kernel
theorem e177_32 {ls : mj_L} {st : List Value} {σ : mj_S} {τ : mj_T} {x : Int32} {k : Nat} : mj_E 177 32 ls (.int x :: .ref k :: st) σ τ = if mj_ib (mj_li σ k) x = true then mj_E 177 33 ls (.int (σ k x.toNatClampNeg) :: st) σ τ else none := mj_ald i177_32
theorem i177_33 : mj_ins 177 33 = some (.iload 4, 35) := by decide +kernel
theorem e177_33 {ls : mj_L} {st : List Value} {σ : mj_S} {τ : mj_T} {a0 a1 a2 a3 : Option Value} {v : Int32} : mj_E 177 33 (a0 :: a1 :: a2 :: a3 :: some (.int v) :: ls) st σ τ = mj_E 177 35 (a0 :: a1 :: a2 :: a3 :: some (.int v) :: ls) (.int v :: st) σ τ := mj_nx i177_33 rfl
theorem i177_35 : mj_ins 177 35 = some (.ishr, 36) := by decide +kernel
theorem e177_35 {ls : mj_L} {st : List Value} {σ : mj_S} {τ : mj_T} {x y : Int32} : mj_E 177 35 ls (.int y :: .int x :: st) σ τ = mj_E 177 36 ls (.int (x >>> (y &&& 31)) :: st) σ τ := mj_nx i177_35 rfl
theorem i177_36 : mj_ins 177 36 = some (.iconst (1), 37) := by decide +kernel
theorem e177_36 {ls : mj_L} {st : List Value} {σ : mj_S} {τ : mj_T} : mj_E 177 36 ls st σ τ = mj_E 177 37 ls (.int (nI 1) :: st) σ τ := mj_nx i177_36 rfl
theorem i177_37 : mj_ins 177 37 = some (.iand, 38) := by decide +kernel
theorem e177_37 {ls : mj_L} {st : List Value} {σ : mj_S} {τ : mj_T} {x y : Int32} : mj_E 177 37 ls (.int y :: .int x :: st) σ τ = mj_E 177 38 ls (.int (x &&& y) :: st) σ τ := mj_nx i177_37 rfl
theorem i177_38 : mj_ins 177 38 = some (.iconst (1), 39) := by decide +kernel
theorem e177_38 {ls : mj_L} {st : List Value} {σ : mj_S} {τ : mj_T} : mj_E 177 38 ls st σ τ = mj_E 177 39 ls (.int (nI 1) :: st) σ τ := mj_nx i177_38 rfl
theorem i177_39 : mj_ins 177 39 = some (.if_icmp .eq 56, 42) := by decide +kernel
theorem e177_39 {ls : mj_L} {st : List Value} {σ : mj_S} {τ : mj_T} {x y : Int32} : mj_E 177 39 ls (.int y :: .int x :: st) σ τ = if x = y then mj_E 177 56 ls st σ τ else mj_E 177 42 ls st σ τ := (mj_ifi i177_39).trans (mj_cdT rfl)
theorem i177_42 : mj_ins 177 42 = some (.aload 0, 43) := by decide +kernel
theorem e177_42 {ls : mj_L} {st : List Value} {σ : mj_S} {τ : mj_T} {v : Nat} : mj_E 177 42 (some (.ref v) :: ls) st σ τ = mj_E 177 43 (some (.ref v) :: ls) (.ref v :: st) σ τ := mj_nx i177_42 rfl
theorem i177_43 : mj_ins 177 43 = some (.getfield 715, 46) := by decide +kernel
theorem e177_43 {ls : mj_L} {st : List Value} {σ : mj_S} {τ : mj_T} : mj_E 177 43 ls (.ref 62 :: st) σ τ = mj_E 177 46 ls (.ref 72 :: st) σ τ := mj_nx i177_43 rfl
theorem i177_46 : mj_ins 177 46 = some (.iload 2, 47) := by decide +kernel
theorem e177_46 {ls : mj_L} {st : List Value} {σ : mj_S} {τ : mj_T} {a0 a1 : Option Value} {v : Int32} : mj_E 177 46 (a0 :: a1 :: some (.int v) :: ls) st σ τ = mj_E 177 47 (a0 :: a1 :: some (.int v) :: ls) (.int v :: st) σ τ := mj_nx i177_46 rfl
theorem i177_47 : mj_ins 177 47 = some (.iaload, 48) := by decide +kernel
theorem e177_47 {ls : mj_L} {st : List Value} {σ : mj_S} {τ : mj_T} {x : Int32} {k : Nat} : mj_E 177 47 ls (.int x :: .ref k :: st) σ τ = if mj_ib (mj_li σ k) x = true then mj_E 177 48 ls (.int (σ k x.toNatClampNeg) :: st) σ τ else none := mj_ald i177_47
theorem i177_48 : mj_ins 177 48 = some (.iload 3, 49) := by decide +kernel
theorem e177_48 {ls : mj_L} {st : List Value} {σ : mj_S} {τ : mj_T} {a0 a1 a2 : Option Value} {v : Int32} : mj_E 177 48 (a0 :: a1 :: a2 :: some (.int v) :: ls) st σ τ = mj_E 177 49 (a0 :: a1 :: a2 :: some (.int v) :: ls) (.int v :: st) σ τ := mj_nx i177_48 rfl
theorem i177_49 : mj_ins 177 49 = some (.ishr, 50) := by decide +kernel
theorem e177_49 {ls : mj_L} {st : List Value} {σ : mj_S} {τ : mj_T} {x y : Int32} : mj_E 177 49 ls (.int y :: .int x :: st) σ τ = mj_E 177 50 ls (.int (x >>> (y &&& 31)) :: st) σ τ := mj_nx i177_49 rfl
theorem i177_50 : mj_ins 177 50 = some (.iconst (1), 51) := by decide +kernel
theorem e177_50 {ls : mj_L} {st : List Value} {σ : mj_S} {τ : mj_T} : mj_E 177 50 ls st σ τ = mj_E 177 51 ls (.int (nI 1) :: st) σ τ := mj_nx i177_50 rfl
theorem i177_51 : mj_ins 177 51 = some (.iand, 52) := by decide +kernel
theorem e177_51 {ls : mj_L} {st : List Value} {σ : mj_S} {τ : mj_T} {x y : Int32} : mj_E 177 51 ls (.int y :: .int x :: st) σ τ = mj_E 177 52 ls (.int (x &&& y) :: st) σ τ := mj_nx i177_51 rfl
theorem i177_52 : mj_ins 177 52 = some (.iconst (1), 53) := by decide +kernel
theorem e177_52 {ls : mj_L} {st : List Value} {σ : mj_S} {τ : mj_T} : mj_E 177 52 ls st σ τ = mj_E 177 53 ls (.int (nI 1) :: st) σ τ := mj_nx i177_52 rfl
theorem i177_53 : mj_ins 177 53 = some (.if_icmp .ne 58, 56) := by decide +kernel
theorem e177_53 {ls : mj_L} {st : List Value} {σ : mj_S} {τ : mj_T} {x y : Int32} : mj_E 177 53 ls (.int y :: .int x :: st) σ τ = if x = y then mj_E 177 56 ls st σ τ else mj_E 177 58 ls st σ τ := (mj_ifi i177_53).trans (mj_cdF rfl)
theorem i177_56 : mj_ins 177 56 = some (.iconst (0), 57) := by decide +kernel
theorem e177_56 {ls : mj_L} {st : List Value} {σ : mj_S} {τ : mj_T} : mj_E 177 56 ls st σ τ = mj_E 177 57 ls (.int (nI 0) :: st) σ τ := mj_nx i177_56 rfl
theorem i177_57 : mj_ins 177 57 = some (.ireturn, 58) := by decide +kernel
theorem e177_57 {ls : mj_L} {σ : mj_S} {τ : mj_T} {v : Int32} : mj_E 177 57 ls [.int v] σ τ = if mj_ok (some .boolean) v = true then some (some (.int v), σ, τ) else none := mj_zrt i177_57 rfl
theorem i177_58 : mj_ins 177 58 = some (.aload 0, 59) := by decide +kernel
theorem e177_58 {ls : mj_L} {st : List Value} {σ : mj_S} {τ : mj_T} {v : Nat} : mj_E 177 58 (some (.ref v) :: ls) st σ τ = mj_E 177 59 (some (.ref v) :: ls) (.ref v :: st) σ τ := mj_nx i177_58 rfl
theorem i177_59 : mj_ins 177 59 = some (.iload 1, 60) := by decide +kernel
theorem e177_59 {ls : mj_L} {st : List Value} {σ : mj_S} {τ : mj_T} {a0 : Option Value} {v : Int32} : mj_E 177 59 (a0 :: some (.int v) :: ls) st σ τ = mj_E 177 60 (a0 :: some (.int v) :: ls) (.int v :: st) σ τ := mj_nx i177_59 rfl
theorem i177_60 : mj_ins 177 60 = some (.iload 4, 62) := by decide +kernel
theorem e177_60 {ls : mj_L} {st : List Value} {σ : mj_S} {τ : mj_T} {a0 a1 a2 a3 : Option Value} {v : Int32} : mj_E 177 60 (a0 :: a1 :: a2 :: a3 :: some (.int v) :: ls) st σ τ = mj_E 177 62 (a0 :: a1 :: a2 :: a3 :: some (.int v) :: ls) (.int v :: st) σ τ := mj_nx i177_60 rfl
theorem i177_62 : mj_ins 177 62 = some (.invokevirtual 156, 65) := by decide +kernel
theorem e177_62 {ls : mj_L} {σ : mj_S} {τ : mj_T} {r : Nat} {x0 : Int32} {x1 : Int32} : mj_E 177 62 ls [.int x1, .int x0, .ref r] σ τ = if mj_rcv r 7 = true then mj_bd (mj_C 156 [.ref r, .int x0, .int x1] σ τ) (mj_K 177 65 ls []) else none := mj_clV (as := [.int x0, .int x1]) (r := []) i177_62 (by decide +kernel : mj_vk 177 156 2 0 3 false = true) (by decide +kernel)
theorem i177_65 : mj_ins 177 65 = some (.aload 0, 66) := by decide +kernel
theorem e177_65 {ls : mj_L} {st : List Value} {σ : mj_S} {τ : mj_T} {v : Nat} : mj_E 177 65 (some (.ref v) :: ls) st σ τ = mj_E 177 66 (some (.ref v) :: ls) (.ref v :: st) σ τ := mj_nx i177_65 rfl
theorem i177_66 : mj_ins 177 66 = some (.iload 1, 67) := by decide +kernel
theorem e177_66 {ls : mj_L} {st : List Value} {σ : mj_S} {τ : mj_T} {a0 : Option Value} {v : Int32} : mj_E 177 66 (a0 :: some (.int v) :: ls) st σ τ = mj_E 177 67 (a0 :: some (.int v) :: ls) (.int v :: st) σ τ := mj_nx i177_66 rfl
theorem i177_67 : mj_ins 177 67 = some (.iload 3, 68) := by decide +kernel
theorem e177_67 {ls : mj_L} {st : List Value} {σ : mj_S} {τ : mj_T} {a0 a1 a2 : Option Value} {v : Int32} : mj_E 177 67 (a0 :: a1 :: a2 :: some (.int v) :: ls) st σ τ = mj_E 177 68 (a0 :: a1 :: a2 :: some (.int v) :: ls) (.int v :: st) σ τ := mj_nx i177_67 rfl
theorem i177_68 : mj_ins 177 68 = some (.invokevirtual 156, 71) := by decide +kernel
theorem e177_68 {ls : mj_L} {σ : mj_S} {τ : mj_T} {r : Nat} {x0 : Int32} {x1 : Int32} {w0 : Value} : mj_E 177 68 ls [.int x1, .int x0, .ref r, w0] σ τ = if mj_rcv r 7 = true then mj_bd (mj_C 156 [.ref r, .int x0, .int x1] σ τ) (mj_K 177 71 ls [w0]) else none := mj_clV (as := [.int x0, .int x1]) (r := [w0]) i177_68 (by decide +kernel : mj_vk 177 156 2 1 3 false = true) (by decide +kernel)
theorem i177_71 : mj_ins 177 71 = some (.if_icmp .le 94, 74) := by decide +kernel
theorem e177_71 {ls : mj_L} {st : List Value} {σ : mj_S} {τ : mj_T} {x y : Int32} : mj_E 177 71 ls (.int y :: .int x :: st) σ τ = if x ≤ y then mj_E 177 94 ls st σ τ else mj_E 177 74 ls st σ τ := (mj_ifi i177_71).trans (mj_cdT rfl)
theorem i177_74 : mj_ins 177 74 = some (.aload 0, 75) := by decide +kernel
theorem e177_74 {ls : mj_L} {st : List Value} {σ : mj_S} {τ : mj_T} {v : Nat} : mj_E 177 74 (some (.ref v) :: ls) st σ τ = mj_E 177 75 (some (.ref v) :: ls) (.ref v :: st) σ τ := mj_nx i177_74 rfl
theorem i177_75 : mj_ins 177 75 = some (.iload 2, 76) := by decide +kernel
theorem e177_75 {ls : mj_L} {st : List Value} {σ : mj_S} {τ : mj_T} {a0 a1 : Option Value} {v : Int32} : mj_E 177 75 (a0 :: a1 :: some (.int v) :: ls) st σ τ = mj_E 177 76 (a0 :: a1 :: some (.int v) :: ls) (.int v :: st) σ τ := mj_nx i177_75 rfl
theorem i177_76 : mj_ins 177 76 = some (.iload 3, 77) := by decide +kernel
theorem e177_76 {ls : mj_L} {st : List Value} {σ : mj_S} {τ : mj_T} {a0 a1 a2 : Option Value} {v : Int32} : mj_E 177 76 (a0 :: a1 :: a2 :: some (.int v) :: ls) st σ τ = mj_E 177 77 (a0 :: a1 :: a2 :: some (.int v) :: ls) (.int v :: st) σ τ := mj_nx i177_76 rfl
theorem i177_77 : mj_ins 177 77 = some (.invokevirtual 156, 80) := by decide +kernel
theorem e177_77 {ls : mj_L} {σ : mj_S} {τ : mj_T} {r : Nat} {x0 : Int32} {x1 : Int32} : mj_E 177 77 ls [.int x1, .int x0, .ref r] σ τ = if mj_rcv r 7 = true then mj_bd (mj_C 156 [.ref r, .int x0, .int x1] σ τ) (mj_K 177 80 ls []) else none := mj_clV (as := [.int x0, .int x1]) (r := []) i177_77 (by decide +kernel : mj_vk 177 156 2 0 3 false = true) (by decide +kernel)
theorem i177_80 : mj_ins 177 80 = some (.aload 0, 81) := by decide +kernel
theorem e177_80 {ls : mj_L} {st : List Value} {σ : mj_S} {τ : mj_T} {v : Nat} : mj_E 177 80 (some (.ref v) :: ls) st σ τ = mj_E 177 81 (some (.ref v) :: ls) (.ref v :: st) σ τ := mj_nx i177_80 rfl
theorem i177_81 : mj_ins 177 81 = some (.iload 2, 82) := by decide +kernel
theorem e177_81 {ls : mj_L} {st : List Value} {σ : mj_S} {τ : mj_T} {a0 a1 : Option Value} {v : Int32} : mj_E 177 81 (a0 :: a1 :: some (.int v) :: ls) st σ τ = mj_E 177 82 (a0 :: a1 :: some (.int v) :: ls) (.int v :: st) σ τ := mj_nx i177_81 rfl
theorem i177_82 : mj_ins 177 82 = some (.iload 4, 84) := by decide +kernel
theorem e177_82 {ls : mj_L} {st : List Value} {σ : mj_S} {τ : mj_T} {a0 a1 a2 a3 : Option Value} {v : Int32} : mj_E 177 82 (a0 :: a1 :: a2 :: a3 :: some (.int v) :: ls) st σ τ = mj_E 177 84 (a0 :: a1 :: a2 :: a3 :: some (.int v) :: ls) (.int v :: st) σ τ := mj_nx i177_82 rfl
theorem i177_84 : mj_ins 177 84 = some (.invokevirtual 156, 87) := by decide +kernel
theorem e177_84 {ls : mj_L} {σ : mj_S} {τ : mj_T} {r : Nat} {x0 : Int32} {x1 : Int32} {w0 : Value} : mj_E 177 84 ls [.int x1, .int x0, .ref r, w0] σ τ = if mj_rcv r 7 = true then mj_bd (mj_C 156 [.ref r, .int x0, .int x1] σ τ) (mj_K 177 87 ls [w0]) else none := mj_clV (as := [.int x0, .int x1]) (r := [w0]) i177_84 (by decide +kernel : mj_vk 177 156 2 1 3 false = true) (by decide +kernel)
theorem i177_87 : mj_ins 177 87 = some (.if_icmp .le 94, 90) := by decide +kernel
theorem e177_87 {ls : mj_L} {st : List Value} {σ : mj_S} {τ : mj_T} {x y : Int32} : mj_E 177 87 ls (.int y :: .int x :: st) σ τ = if x ≤ y then mj_E 177 94 ls st σ τ else mj_E 177 90 ls st σ τ := (mj_ifi i177_87).trans (mj_cdT rfl)
theorem i177_90 : mj_ins 177 90 = some (.iconst (1), 91) := by decide +kernel
theorem e177_90 {ls : mj_L} {st : List Value} {σ : mj_S} {τ : mj_T} : mj_E 177 90 ls st σ τ = mj_E 177 91 ls (.int (nI 1) :: st) σ τ := mj_nx i177_90 rfl
theorem i177_91 : mj_ins 177 91 = some (.goto 95, 94) := by decide +kernel
theorem e177_91 {ls : mj_L} {st : List Value} {σ : mj_S} {τ : mj_T} : mj_E 177 91 ls st σ τ = mj_E 177 95 ls st σ τ := mj_nx i177_91 rfl
theorem i177_94 : mj_ins 177 94 = some (.iconst (0), 95) := by decide +kernel
theorem e177_94 {ls : mj_L} {st : List Value} {σ : mj_S} {τ : mj_T} : mj_E 177 94 ls st σ τ = mj_E 177 95 ls (.int (nI 0) :: st) σ τ := mj_nx i177_94 rfl
theorem i177_95 : mj_ins 177 95 = some (.ireturn, 96) := by decide +kernel
theorem e177_95 {ls : mj_L} {σ : mj_S} {τ : mj_T} {v : Int32} : mj_E 177 95 ls [.int v] σ τ = if mj_ok (some .boolean) v = true then some (some (.int v), σ, τ) else none := mj_zrt i177_95 rfl
theorem c178 {σ : mj_S} {τ : mj_T} {r : Nat} {x0 : Int32} : mj_C 178 [.ref r, .int x0] σ τ = mj_E 178 0 [some (.ref r), some (.int x0), none, none, none, none] [] σ τ := rfl
theorem i178_0 : mj_ins 178 0 = some (.iload 1, 1) := by decide +kernel
theorem e178_0 {ls : mj_L} {st : List Value} {σ : mj_S} {τ : mj_T} {a0 : Option Value} {v : Int32} : mj_E 178 0 (a0 :: some (.int v) :: ls) st σ τ = mj_E 178 1 (a0 :: some (.int v) :: ls) (.int v :: st) σ τ := mj_nx i178_0 rfl
theorem i178_1 : mj_ins 178 1 = some (.ifCond .lt 9, 4) := by decide +kernel
theorem e178_1 {ls : mj_L} {st : List Value} {σ : mj_S} {τ : mj_T} {x : Int32} : mj_E 178 1 ls (.int x :: st) σ τ = if x < 0 then mj_E 178 9 ls st σ τ else mj_E 178 4 ls st σ τ := (mj_ifc i178_1).trans (mj_cdT rfl)
theorem i178_4 : mj_ins 178 4 = some (.iload 1, 5) := by decide +kernel
theorem e178_4 {ls : mj_L} {st : List Value} {σ : mj_S} {τ : mj_T} {a0 : Option Value} {v : Int32} : mj_E 178 4 (a0 :: some (.int v) :: ls) st σ τ = mj_E 178 5 (a0 :: some (.int v) :: ls) (.int v :: st) σ τ := mj_nx i178_4 rfl
theorem i178_5 : mj_ins 178 5 = some (.iconst (1), 6) := by decide +kernel
theorem e178_5 {ls : mj_L} {st : List Value} {σ : mj_S} {τ : mj_T} : mj_E 178 5 ls st σ τ = mj_E 178 6 ls (.int (nI 1) :: st) σ τ := mj_nx i178_5 rfl
theorem i178_6 : mj_ins 178 6 = some (.if_icmp .le 16, 9) := by decide +kernel
theorem e178_6 {ls : mj_L} {st : List Value} {σ : mj_S} {τ : mj_T} {x y : Int32} : mj_E 178 6 ls (.int y :: .int x :: st) σ τ = if x ≤ y then mj_E 178 16 ls st σ τ else mj_E 178 9 ls st σ τ := (mj_ifi i178_6).trans (mj_cdT rfl)
theorem i178_9 : mj_ins 178 9 = some (.aload 0, 10) := by decide +kernel
theorem e178_9 {ls : mj_L} {st : List Value} {σ : mj_S} {τ : mj_T} {v : Nat} : mj_E 178 9 (some (.ref v) :: ls) st σ τ = mj_E 178 10 (some (.ref v) :: ls) (.ref v :: st) σ τ := mj_nx i178_9 rfl
theorem i178_10 : mj_ins 178 10 = some (.iconst (-5), 12) := by decide +kernel
theorem e178_10 {ls : mj_L} {st : List Value} {σ : mj_S} {τ : mj_T} : mj_E 178 10 ls st σ τ = mj_E 178 12 ls (.int ((-5)) :: st) σ τ := mj_nx i178_10 rfl
theorem i178_12 : mj_ins 178 12 = some (.invokevirtual 118, 15) := by decide +kernel
theorem e178_12 {ls : mj_L} {σ : mj_S} {τ : mj_T} {r : Nat} {x0 : Int32} : mj_E 178 12 ls [.int x0, .ref r] σ τ = if mj_rcv r 7 = true then mj_bd (mj_C 118 [.ref r, .int x0] σ τ) (mj_K 178 15 ls []) else none := mj_clV (as := [.int x0]) (r := []) i178_12 (by decide +kernel : mj_vk 178 118 1 0 2 false = true) (by decide +kernel)
theorem i178_15 : mj_ins 178 15 = some (.ireturn, 16) := by decide +kernel
theorem e178_15 {ls : mj_L} {σ : mj_S} {τ : mj_T} {v : Int32} : mj_E 178 15 ls [.int v] σ τ = some (some (.int v), σ, τ) := mj_irt i178_15 rfl
theorem i178_16 : mj_ins 178 16 = some (.iconst (0), 17) := by decide +kernel
theorem e178_16 {ls : mj_L} {st : List Value} {σ : mj_S} {τ : mj_T} : mj_E 178 16 ls st σ τ = mj_E 178 17 ls (.int (nI 0) :: st) σ τ := mj_nx i178_16 rfl
theorem i178_17 : mj_ins 178 17 = some (.istore 2, 18) := by decide +kernel
theorem e178_17 {ls : mj_L} {st : List Value} {σ : mj_S} {τ : mj_T} {a0 a1 a2 : Option Value} {v : Int32} : mj_E 178 17 (a0 :: a1 :: a2 :: ls) (.int v :: st) σ τ = mj_E 178 18 (a0 :: a1 :: some (.int v) :: ls) st σ τ := mj_nx i178_17 rfl
theorem i178_18 : mj_ins 178 18 = some (.iconst (-1), 19) := by decide +kernel
theorem e178_18 {ls : mj_L} {st : List Value} {σ : mj_S} {τ : mj_T} : mj_E 178 18 ls st σ τ = mj_E 178 19 ls (.int ((-1)) :: st) σ τ := mj_nx i178_18 rfl
theorem i178_19 : mj_ins 178 19 = some (.istore 3, 20) := by decide +kernel
theorem e178_19 {ls : mj_L} {st : List Value} {σ : mj_S} {τ : mj_T} {a0 a1 a2 a3 : Option Value} {v : Int32} : mj_E 178 19 (a0 :: a1 :: a2 :: a3 :: ls) (.int v :: st) σ τ = mj_E 178 20 (a0 :: a1 :: a2 :: some (.int v) :: ls) st σ τ := mj_nx i178_19 rfl
theorem i178_20 : mj_ins 178 20 = some (.iconst (0), 21) := by decide +kernel
theorem e178_20 {ls : mj_L} {st : List Value} {σ : mj_S} {τ : mj_T} : mj_E 178 20 ls st σ τ = mj_E 178 21 ls (.int (nI 0) :: st) σ τ := mj_nx i178_20 rfl
theorem i178_21 : mj_ins 178 21 = some (.istore 4, 23) := by decide +kernel
theorem e178_21 {ls : mj_L} {st : List Value} {σ : mj_S} {τ : mj_T} {a0 a1 a2 a3 a4 : Option Value} {v : Int32} : mj_E 178 21 (a0 :: a1 :: a2 :: a3 :: a4 :: ls) (.int v :: st) σ τ = mj_E 178 23 (a0 :: a1 :: a2 :: a3 :: some (.int v) :: ls) st σ τ := mj_nx i178_21 rfl
theorem i178_23 : mj_ins 178 23 = some (.iload 4, 25) := by decide +kernel
theorem e178_23 {ls : mj_L} {st : List Value} {σ : mj_S} {τ : mj_T} {a0 a1 a2 a3 : Option Value} {v : Int32} : mj_E 178 23 (a0 :: a1 :: a2 :: a3 :: some (.int v) :: ls) st σ τ = mj_E 178 25 (a0 :: a1 :: a2 :: a3 :: some (.int v) :: ls) (.int v :: st) σ τ := mj_nx i178_23 rfl
theorem i178_25 : mj_ins 178 25 = some (.aload 0, 26) := by decide +kernel
theorem e178_25 {ls : mj_L} {st : List Value} {σ : mj_S} {τ : mj_T} {v : Nat} : mj_E 178 25 (some (.ref v) :: ls) st σ τ = mj_E 178 26 (some (.ref v) :: ls) (.ref v :: st) σ τ := mj_nx i178_25 rfl
theorem i178_26 : mj_ins 178 26 = some (.getfield 701, 29) := by decide +kernel
theorem e178_26 {ls : mj_L} {st : List Value} {σ : mj_S} {τ : mj_T} : mj_E 178 26 ls (.ref 62 :: st) σ τ = mj_E 178 29 ls (.int (σ 62 1) :: st) σ τ := mj_nx i178_26 rfl
theorem i178_29 : mj_ins 178 29 = some (.if_icmp .ge 89, 32) := by decide +kernel
theorem e178_29 {ls : mj_L} {st : List Value} {σ : mj_S} {τ : mj_T} {x y : Int32} : mj_E 178 29 ls (.int y :: .int x :: st) σ τ = if y ≤ x then mj_E 178 89 ls st σ τ else mj_E 178 32 ls st σ τ := (mj_ifi i178_29).trans (mj_cdT rfl)
theorem i178_32 : mj_ins 178 32 = some (.iload 4, 34) := by decide +kernel
theorem e178_32 {ls : mj_L} {st : List Value} {σ : mj_S} {τ : mj_T} {a0 a1 a2 a3 : Option Value} {v : Int32} : mj_E 178 32 (a0 :: a1 :: a2 :: a3 :: some (.int v) :: ls) st σ τ = mj_E 178 34 (a0 :: a1 :: a2 :: a3 :: some (.int v) :: ls) (.int v :: st) σ τ := mj_nx i178_32 rfl
theorem i178_34 : mj_ins 178 34 = some (.iconst (1), 35) := by decide +kernel
theorem e178_34 {ls : mj_L} {st : List Value} {σ : mj_S} {τ : mj_T} : mj_E 178 34 ls st σ τ = mj_E 178 35 ls (.int (nI 1) :: st) σ τ := mj_nx i178_34 rfl
theorem i178_35 : mj_ins 178 35 = some (.iadd, 36) := by decide +kernel
theorem e178_35 {ls : mj_L} {st : List Value} {σ : mj_S} {τ : mj_T} {x y : Int32} : mj_E 178 35 ls (.int y :: .int x :: st) σ τ = mj_E 178 36 ls (.int (x + y) :: st) σ τ := mj_nx i178_35 rfl
theorem i178_36 : mj_ins 178 36 = some (.istore 5, 38) := by decide +kernel
theorem e178_36 {ls : mj_L} {st : List Value} {σ : mj_S} {τ : mj_T} {a0 a1 a2 a3 a4 a5 : Option Value} {v : Int32} : mj_E 178 36 (a0 :: a1 :: a2 :: a3 :: a4 :: a5 :: ls) (.int v :: st) σ τ = mj_E 178 38 (a0 :: a1 :: a2 :: a3 :: a4 :: some (.int v) :: ls) st σ τ := mj_nx i178_36 rfl
theorem i178_38 : mj_ins 178 38 = some (.iload 5, 40) := by decide +kernel
theorem e178_38 {ls : mj_L} {st : List Value} {σ : mj_S} {τ : mj_T} {a0 a1 a2 a3 a4 : Option Value} {v : Int32} : mj_E 178 38 (a0 :: a1 :: a2 :: a3 :: a4 :: some (.int v) :: ls) st σ τ = mj_E 178 40 (a0 :: a1 :: a2 :: a3 :: a4 :: some (.int v) :: ls) (.int v :: st) σ τ := mj_nx i178_38 rfl
theorem i178_40 : mj_ins 178 40 = some (.aload 0, 41) := by decide +kernel
theorem e178_40 {ls : mj_L} {st : List Value} {σ : mj_S} {τ : mj_T} {v : Nat} : mj_E 178 40 (some (.ref v) :: ls) st σ τ = mj_E 178 41 (some (.ref v) :: ls) (.ref v :: st) σ τ := mj_nx i178_40 rfl
theorem i178_41 : mj_ins 178 41 = some (.getfield 701, 44) := by decide +kernel
theorem e178_41 {ls : mj_L} {st : List Value} {σ : mj_S} {τ : mj_T} : mj_E 178 41 ls (.ref 62 :: st) σ τ = mj_E 178 44 ls (.int (σ 62 1) :: st) σ τ := mj_nx i178_41 rfl
theorem i178_44 : mj_ins 178 44 = some (.if_icmp .ge 83, 47) := by decide +kernel
theorem e178_44 {ls : mj_L} {st : List Value} {σ : mj_S} {τ : mj_T} {x y : Int32} : mj_E 178 44 ls (.int y :: .int x :: st) σ τ = if y ≤ x then mj_E 178 83 ls st σ τ else mj_E 178 47 ls st σ τ := (mj_ifi i178_44).trans (mj_cdT rfl)
theorem i178_47 : mj_ins 178 47 = some (.aload 0, 48) := by decide +kernel
theorem e178_47 {ls : mj_L} {st : List Value} {σ : mj_S} {τ : mj_T} {v : Nat} : mj_E 178 47 (some (.ref v) :: ls) st σ τ = mj_E 178 48 (some (.ref v) :: ls) (.ref v :: st) σ τ := mj_nx i178_47 rfl
theorem i178_48 : mj_ins 178 48 = some (.iload 4, 50) := by decide +kernel
theorem e178_48 {ls : mj_L} {st : List Value} {σ : mj_S} {τ : mj_T} {a0 a1 a2 a3 : Option Value} {v : Int32} : mj_E 178 48 (a0 :: a1 :: a2 :: a3 :: some (.int v) :: ls) st σ τ = mj_E 178 50 (a0 :: a1 :: a2 :: a3 :: some (.int v) :: ls) (.int v :: st) σ τ := mj_nx i178_48 rfl
theorem i178_50 : mj_ins 178 50 = some (.iload 5, 52) := by decide +kernel
theorem e178_50 {ls : mj_L} {st : List Value} {σ : mj_S} {τ : mj_T} {a0 a1 a2 a3 a4 : Option Value} {v : Int32} : mj_E 178 50 (a0 :: a1 :: a2 :: a3 :: a4 :: some (.int v) :: ls) st σ τ = mj_E 178 52 (a0 :: a1 :: a2 :: a3 :: a4 :: some (.int v) :: ls) (.int v :: st) σ τ := mj_nx i178_50 rfl
theorem i178_52 : mj_ins 178 52 = some (.invokevirtual 177, 55) := by decide +kernel
theorem e178_52 {ls : mj_L} {σ : mj_S} {τ : mj_T} {r : Nat} {x0 : Int32} {x1 : Int32} : mj_E 178 52 ls [.int x1, .int x0, .ref r] σ τ = if mj_rcv r 7 = true then mj_bd (mj_C 177 [.ref r, .int x0, .int x1] σ τ) (mj_K 178 55 ls []) else none := mj_clV (as := [.int x0, .int x1]) (r := []) i178_52 (by decide +kernel : mj_vk 178 177 2 0 3 false = true) (by decide +kernel)
theorem i178_55 : mj_ins 178 55 = some (.ifCond .ne 61, 58) := by decide +kernel
theorem e178_55 {ls : mj_L} {st : List Value} {σ : mj_S} {τ : mj_T} {x : Int32} : mj_E 178 55 ls (.int x :: st) σ τ = if x = 0 then mj_E 178 58 ls st σ τ else mj_E 178 61 ls st σ τ := (mj_ifc i178_55).trans (mj_cdF rfl)
theorem i178_58 : mj_ins 178 58 = some (.goto 77, 61) := by decide +kernel
theorem e178_58 {ls : mj_L} {st : List Value} {σ : mj_S} {τ : mj_T} : mj_E 178 58 ls st σ τ = mj_E 178 77 ls st σ τ := mj_nx i178_58 rfl
theorem i178_61 : mj_ins 178 61 = some (.iload 2, 62) := by decide +kernel
theorem e178_61 {ls : mj_L} {st : List Value} {σ : mj_S} {τ : mj_T} {a0 a1 : Option Value} {v : Int32} : mj_E 178 61 (a0 :: a1 :: some (.int v) :: ls) st σ τ = mj_E 178 62 (a0 :: a1 :: some (.int v) :: ls) (.int v :: st) σ τ := mj_nx i178_61 rfl
theorem i178_62 : mj_ins 178 62 = some (.ifCond .ne 74, 65) := by decide +kernel
theorem e178_62 {ls : mj_L} {st : List Value} {σ : mj_S} {τ : mj_T} {x : Int32} : mj_E 178 62 ls (.int x :: st) σ τ = if x = 0 then mj_E 178 65 ls st σ τ else mj_E 178 74 ls st σ τ := (mj_ifc i178_62).trans (mj_cdF rfl)
theorem i178_65 : mj_ins 178 65 = some (.iconst (10), 67) := by decide +kernel
theorem e178_65 {ls : mj_L} {st : List Value} {σ : mj_S} {τ : mj_T} : mj_E 178 65 ls st σ τ = mj_E 178 67 ls (.int (nI 10) :: st) σ τ := mj_nx i178_65 rfl
theorem i178_67 : mj_ins 178 67 = some (.iload 4, 69) := by decide +kernel
theorem e178_67 {ls : mj_L} {st : List Value} {σ : mj_S} {τ : mj_T} {a0 a1 a2 a3 : Option Value} {v : Int32} : mj_E 178 67 (a0 :: a1 :: a2 :: a3 :: some (.int v) :: ls) st σ τ = mj_E 178 69 (a0 :: a1 :: a2 :: a3 :: some (.int v) :: ls) (.int v :: st) σ τ := mj_nx i178_67 rfl
theorem i178_69 : mj_ins 178 69 = some (.imul, 70) := by decide +kernel
theorem e178_69 {ls : mj_L} {st : List Value} {σ : mj_S} {τ : mj_T} {x y : Int32} : mj_E 178 69 ls (.int y :: .int x :: st) σ τ = mj_E 178 70 ls (.int (x * y) :: st) σ τ := mj_nx i178_69 rfl
theorem i178_70 : mj_ins 178 70 = some (.iload 5, 72) := by decide +kernel
theorem e178_70 {ls : mj_L} {st : List Value} {σ : mj_S} {τ : mj_T} {a0 a1 a2 a3 a4 : Option Value} {v : Int32} : mj_E 178 70 (a0 :: a1 :: a2 :: a3 :: a4 :: some (.int v) :: ls) st σ τ = mj_E 178 72 (a0 :: a1 :: a2 :: a3 :: a4 :: some (.int v) :: ls) (.int v :: st) σ τ := mj_nx i178_70 rfl
theorem i178_72 : mj_ins 178 72 = some (.iadd, 73) := by decide +kernel
theorem e178_72 {ls : mj_L} {st : List Value} {σ : mj_S} {τ : mj_T} {x y : Int32} : mj_E 178 72 ls (.int y :: .int x :: st) σ τ = mj_E 178 73 ls (.int (x + y) :: st) σ τ := mj_nx i178_72 rfl
theorem i178_73 : mj_ins 178 73 = some (.istore 3, 74) := by decide +kernel
theorem e178_73 {ls : mj_L} {st : List Value} {σ : mj_S} {τ : mj_T} {a0 a1 a2 a3 : Option Value} {v : Int32} : mj_E 178 73 (a0 :: a1 :: a2 :: a3 :: ls) (.int v :: st) σ τ = mj_E 178 74 (a0 :: a1 :: a2 :: some (.int v) :: ls) st σ τ := mj_nx i178_73 rfl
theorem i178_74 : mj_ins 178 74 = some (.iinc 2 (1), 77) := by decide +kernel
theorem e178_74 {ls : mj_L} {st : List Value} {σ : mj_S} {τ : mj_T} {a0 a1 : Option Value} {v : Int32} : mj_E 178 74 (a0 :: a1 :: some (.int v) :: ls) st σ τ = mj_E 178 77 (a0 :: a1 :: some (.int (v + nI 1)) :: ls) st σ τ := mj_nx i178_74 rfl
theorem i178_77 : mj_ins 178 77 = some (.iinc 5 (1), 80) := by decide +kernel
theorem e178_77 {ls : mj_L} {st : List Value} {σ : mj_S} {τ : mj_T} {a0 a1 a2 a3 a4 : Option Value} {v : Int32} : mj_E 178 77 (a0 :: a1 :: a2 :: a3 :: a4 :: some (.int v) :: ls) st σ τ = mj_E 178 80 (a0 :: a1 :: a2 :: a3 :: a4 :: some (.int (v + nI 1)) :: ls) st σ τ := mj_nx i178_77 rfl
theorem i178_80 : mj_ins 178 80 = some (.goto 38, 83) := by decide +kernel
theorem e178_80 {ls : mj_L} {st : List Value} {σ : mj_S} {τ : mj_T} : mj_E 178 80 ls st σ τ = mj_E 178 38 ls st σ τ := mj_nx i178_80 rfl
theorem i178_83 : mj_ins 178 83 = some (.iinc 4 (1), 86) := by decide +kernel
theorem e178_83 {ls : mj_L} {st : List Value} {σ : mj_S} {τ : mj_T} {a0 a1 a2 a3 : Option Value} {v : Int32} : mj_E 178 83 (a0 :: a1 :: a2 :: a3 :: some (.int v) :: ls) st σ τ = mj_E 178 86 (a0 :: a1 :: a2 :: a3 :: some (.int (v + nI 1)) :: ls) st σ τ := mj_nx i178_83 rfl
theorem i178_86 : mj_ins 178 86 = some (.goto 23, 89) := by decide +kernel
theorem e178_86 {ls : mj_L} {st : List Value} {σ : mj_S} {τ : mj_T} : mj_E 178 86 ls st σ τ = mj_E 178 23 ls st σ τ := mj_nx i178_86 rfl
theorem i178_89 : mj_ins 178 89 = some (.iload 1, 90) := by decide +kernel
theorem e178_89 {ls : mj_L} {st : List Value} {σ : mj_S} {τ : mj_T} {a0 : Option Value} {v : Int32} : mj_E 178 89 (a0 :: some (.int v) :: ls) st σ τ = mj_E 178 90 (a0 :: some (.int v) :: ls) (.int v :: st) σ τ := mj_nx i178_89 rfl
theorem i178_90 : mj_ins 178 90 = some (.ifCond .ne 97, 93) := by decide +kernel
theorem e178_90 {ls : mj_L} {st : List Value} {σ : mj_S} {τ : mj_T} {x : Int32} : mj_E 178 90 ls (.int x :: st) σ τ = if x = 0 then mj_E 178 93 ls st σ τ else mj_E 178 97 ls st σ τ := (mj_ifc i178_90).trans (mj_cdF rfl)
theorem i178_93 : mj_ins 178 93 = some (.iload 2, 94) := by decide +kernel
theorem e178_93 {ls : mj_L} {st : List Value} {σ : mj_S} {τ : mj_T} {a0 a1 : Option Value} {v : Int32} : mj_E 178 93 (a0 :: a1 :: some (.int v) :: ls) st σ τ = mj_E 178 94 (a0 :: a1 :: some (.int v) :: ls) (.int v :: st) σ τ := mj_nx i178_93 rfl
theorem i178_94 : mj_ins 178 94 = some (.goto 98, 97) := by decide +kernel
theorem e178_94 {ls : mj_L} {st : List Value} {σ : mj_S} {τ : mj_T} : mj_E 178 94 ls st σ τ = mj_E 178 98 ls st σ τ := mj_nx i178_94 rfl
theorem i178_97 : mj_ins 178 97 = some (.iload 3, 98) := by decide +kernel
theorem e178_97 {ls : mj_L} {st : List Value} {σ : mj_S} {τ : mj_T} {a0 a1 a2 : Option Value} {v : Int32} : mj_E 178 97 (a0 :: a1 :: a2 :: some (.int v) :: ls) st σ τ = mj_E 178 98 (a0 :: a1 :: a2 :: some (.int v) :: ls) (.int v :: st) σ τ := mj_nx i178_97 rfl
theorem i178_98 : mj_ins 178 98 = some (.ireturn, 99) := by decide +kernel
theorem e178_98 {ls : mj_L} {σ : mj_S} {τ : mj_T} {v : Int32} : mj_E 178 98 ls [.int v] σ τ = some (some (.int v), σ, τ) := mj_irt i178_98 rfl
theorem c179 {σ : mj_S} {τ : mj_T} {r : Nat} {x0 : Int32} : mj_C 179 [.ref r, .int x0] σ τ = mj_E 179 0 [some (.ref r), some (.int x0)] [] σ τ := rfl
theorem i179_0 : mj_ins 179 0 = some (.aload 0, 1) := by decide +kernel
theorem e179_0 {ls : mj_L} {st : List Value} {σ : mj_S} {τ : mj_T} {v : Nat} : mj_E 179 0 (some (.ref v) :: ls) st σ τ = mj_E 179 1 (some (.ref v) :: ls) (.ref v :: st) σ τ := mj_nx i179_0 rfl
theorem i179_1 : mj_ins 179 1 = some (.iload 1, 2) := by decide +kernel
theorem e179_1 {ls : mj_L} {st : List Value} {σ : mj_S} {τ : mj_T} {a0 : Option Value} {v : Int32} : mj_E 179 1 (a0 :: some (.int v) :: ls) st σ τ = mj_E 179 2 (a0 :: some (.int v) :: ls) (.int v :: st) σ τ := mj_nx i179_1 rfl
theorem i179_2 : mj_ins 179 2 = some (.invokevirtual 157, 5) := by decide +kernel
theorem e179_2 {ls : mj_L} {σ : mj_S} {τ : mj_T} {r : Nat} {x0 : Int32} : mj_E 179 2 ls [.int x0, .ref r] σ τ = if mj_rcv r 7 = true then mj_bd (mj_C 157 [.ref r, .int x0] σ τ) (mj_K 179 5 ls []) else none := mj_clV (as := [.int x0]) (r := []) i179_2 (by decide +kernel : mj_vk 179 157 1 0 2 false = true) (by decide +kernel)
theorem i179_5 : mj_ins 179 5 = some (.aload 0, 6) := by decide +kernel
theorem e179_5 {ls : mj_L} {st : List Value} {σ : mj_S} {τ : mj_T} {v : Nat} : mj_E 179 5 (some (.ref v) :: ls) st σ τ = mj_E 179 6 (some (.ref v) :: ls) (.ref v :: st) σ τ := mj_nx i179_5 rfl
theorem i179_6 : mj_ins 179 6 = some (.getfield 737, 9) := by decide +kernel
theorem e179_6 {ls : mj_L} {st : List Value} {σ : mj_S} {τ : mj_T} : mj_E 179 6 ls (.ref 62 :: st) σ τ = mj_E 179 9 ls (.int (σ 62 37) :: st) σ τ := mj_nx i179_6 rfl
theorem i179_9 : mj_ins 179 9 = some (.iconst (-1), 10) := by decide +kernel
theorem e179_9 {ls : mj_L} {st : List Value} {σ : mj_S} {τ : mj_T} : mj_E 179 9 ls st σ τ = mj_E 179 10 ls (.int ((-1)) :: st) σ τ := mj_nx i179_9 rfl
theorem i179_10 : mj_ins 179 10 = some (.if_icmp .ne 15, 13) := by decide +kernel
theorem e179_10 {ls : mj_L} {st : List Value} {σ : mj_S} {τ : mj_T} {x y : Int32} : mj_E 179 10 ls (.int y :: .int x :: st) σ τ = if x = y then mj_E 179 13 ls st σ τ else mj_E 179 15 ls st σ τ := (mj_ifi i179_10).trans (mj_cdF rfl)
theorem i179_13 : mj_ins 179 13 = some (.iconst (-1), 14) := by decide +kernel
theorem e179_13 {ls : mj_L} {st : List Value} {σ : mj_S} {τ : mj_T} : mj_E 179 13 ls st σ τ = mj_E 179 14 ls (.int ((-1)) :: st) σ τ := mj_nx i179_13 rfl
theorem i179_14 : mj_ins 179 14 = some (.ireturn, 15) := by decide +kernel
theorem e179_14 {ls : mj_L} {σ : mj_S} {τ : mj_T} {v : Int32} : mj_E 179 14 ls [.int v] σ τ = some (some (.int v), σ, τ) := mj_irt i179_14 rfl
theorem i179_15 : mj_ins 179 15 = some (.aload 0, 16) := by decide +kernel
theorem e179_15 {ls : mj_L} {st : List Value} {σ : mj_S} {τ : mj_T} {v : Nat} : mj_E 179 15 (some (.ref v) :: ls) st σ τ = mj_E 179 16 (some (.ref v) :: ls) (.ref v :: st) σ τ := mj_nx i179_15 rfl
theorem i179_16 : mj_ins 179 16 = some (.getfield 711, 19) := by decide +kernel
theorem e179_16 {ls : mj_L} {st : List Value} {σ : mj_S} {τ : mj_T} : mj_E 179 16 ls (.ref 62 :: st) σ τ = mj_E 179 19 ls (.ref 68 :: st) σ τ := mj_nx i179_16 rfl
theorem i179_19 : mj_ins 179 19 = some (.aload 0, 20) := by decide +kernel
theorem e179_19 {ls : mj_L} {st : List Value} {σ : mj_S} {τ : mj_T} {v : Nat} : mj_E 179 19 (some (.ref v) :: ls) st σ τ = mj_E 179 20 (some (.ref v) :: ls) (.ref v :: st) σ τ := mj_nx i179_19 rfl
theorem i179_20 : mj_ins 179 20 = some (.getfield 735, 23) := by decide +kernel
theorem e179_20 {ls : mj_L} {st : List Value} {σ : mj_S} {τ : mj_T} : mj_E 179 20 ls (.ref 62 :: st) σ τ = mj_E 179 23 ls (.int (σ 62 35) :: st) σ τ := mj_nx i179_20 rfl
theorem i179_23 : mj_ins 179 23 = some (.dup2, 24) := by decide +kernel
theorem e179_23 {ls : mj_L} {st : List Value} {σ : mj_S} {τ : mj_T} {y : Int32} {x : Nat} : mj_E 179 23 ls (.int y :: .ref x :: st) σ τ = mj_E 179 24 ls (.int y :: .ref x :: .int y :: .ref x :: st) σ τ := mj_nx i179_23 rfl
theorem i179_24 : mj_ins 179 24 = some (.iaload, 25) := by decide +kernel
theorem e179_24 {ls : mj_L} {st : List Value} {σ : mj_S} {τ : mj_T} {x : Int32} {k : Nat} : mj_E 179 24 ls (.int x :: .ref k :: st) σ τ = if mj_ib (mj_li σ k) x = true then mj_E 179 25 ls (.int (σ k x.toNatClampNeg) :: st) σ τ else none := mj_ald i179_24
theorem i179_25 : mj_ins 179 25 = some (.aload 0, 26) := by decide +kernel
theorem e179_25 {ls : mj_L} {st : List Value} {σ : mj_S} {τ : mj_T} {v : Nat} : mj_E 179 25 (some (.ref v) :: ls) st σ τ = mj_E 179 26 (some (.ref v) :: ls) (.ref v :: st) σ τ := mj_nx i179_25 rfl
theorem i179_26 : mj_ins 179 26 = some (.getfield 711, 29) := by decide +kernel
theorem e179_26 {ls : mj_L} {st : List Value} {σ : mj_S} {τ : mj_T} : mj_E 179 26 ls (.ref 62 :: st) σ τ = mj_E 179 29 ls (.ref 68 :: st) σ τ := mj_nx i179_26 rfl
theorem i179_29 : mj_ins 179 29 = some (.aload 0, 30) := by decide +kernel
theorem e179_29 {ls : mj_L} {st : List Value} {σ : mj_S} {τ : mj_T} {v : Nat} : mj_E 179 29 (some (.ref v) :: ls) st σ τ = mj_E 179 30 (some (.ref v) :: ls) (.ref v :: st) σ τ := mj_nx i179_29 rfl
theorem i179_30 : mj_ins 179 30 = some (.getfield 735, 33) := by decide +kernel
theorem e179_30 {ls : mj_L} {st : List Value} {σ : mj_S} {τ : mj_T} : mj_E 179 30 ls (.ref 62 :: st) σ τ = mj_E 179 33 ls (.int (σ 62 35) :: st) σ τ := mj_nx i179_30 rfl
theorem i179_33 : mj_ins 179 33 = some (.iaload, 34) := by decide +kernel
theorem e179_33 {ls : mj_L} {st : List Value} {σ : mj_S} {τ : mj_T} {x : Int32} {k : Nat} : mj_E 179 33 ls (.int x :: .ref k :: st) σ τ = if mj_ib (mj_li σ k) x = true then mj_E 179 34 ls (.int (σ k x.toNatClampNeg) :: st) σ τ else none := mj_ald i179_33
theorem i179_34 : mj_ins 179 34 = some (.iconst (99), 36) := by decide +kernel
theorem e179_34 {ls : mj_L} {st : List Value} {σ : mj_S} {τ : mj_T} : mj_E 179 34 ls st σ τ = mj_E 179 36 ls (.int (nI 99) :: st) σ τ := mj_nx i179_34 rfl
theorem i179_36 : mj_ins 179 36 = some (.if_icmp .ge 43, 39) := by decide +kernel
theorem e179_36 {ls : mj_L} {st : List Value} {σ : mj_S} {τ : mj_T} {x y : Int32} : mj_E 179 36 ls (.int y :: .int x :: st) σ τ = if y ≤ x then mj_E 179 43 ls st σ τ else mj_E 179 39 ls st σ τ := (mj_ifi i179_36).trans (mj_cdT rfl)
theorem i179_39 : mj_ins 179 39 = some (.iconst (1), 40) := by decide +kernel
theorem e179_39 {ls : mj_L} {st : List Value} {σ : mj_S} {τ : mj_T} : mj_E 179 39 ls st σ τ = mj_E 179 40 ls (.int (nI 1) :: st) σ τ := mj_nx i179_39 rfl
theorem i179_40 : mj_ins 179 40 = some (.goto 44, 43) := by decide +kernel
theorem e179_40 {ls : mj_L} {st : List Value} {σ : mj_S} {τ : mj_T} : mj_E 179 40 ls st σ τ = mj_E 179 44 ls st σ τ := mj_nx i179_40 rfl
theorem i179_43 : mj_ins 179 43 = some (.iconst (0), 44) := by decide +kernel
theorem e179_43 {ls : mj_L} {st : List Value} {σ : mj_S} {τ : mj_T} : mj_E 179 43 ls st σ τ = mj_E 179 44 ls (.int (nI 0) :: st) σ τ := mj_nx i179_43 rfl
theorem i179_44 : mj_ins 179 44 = some (.iadd, 45) := by decide +kernel
theorem e179_44 {ls : mj_L} {st : List Value} {σ : mj_S} {τ : mj_T} {x y : Int32} : mj_E 179 44 ls (.int y :: .int x :: st) σ τ = mj_E 179 45 ls (.int (x + y) :: st) σ τ := mj_nx i179_44 rfl
theorem i179_45 : mj_ins 179 45 = some (.iastore, 46) := by decide +kernel
theorem e179_45 {ls : mj_L} {st : List Value} {σ : mj_S} {τ : mj_T} {x v : Int32} {k : Nat} : mj_E 179 45 ls (.int v :: .int x :: .ref k :: st) σ τ = if mj_ib (mj_lw k) x = true then mj_E 179 46 ls st (mj_up σ k x.toNatClampNeg v) τ else none := mj_ast i179_45
theorem i179_46 : mj_ins 179 46 = some (.aload 0, 47) := by decide +kernel
theorem e179_46 {ls : mj_L} {st : List Value} {σ : mj_S} {τ : mj_T} {v : Nat} : mj_E 179 46 (some (.ref v) :: ls) st σ τ = mj_E 179 47 (some (.ref v) :: ls) (.ref v :: st) σ τ := mj_nx i179_46 rfl
theorem i179_47 : mj_ins 179 47 = some (.getfield 715, 50) := by decide +kernel
theorem e179_47 {ls : mj_L} {st : List Value} {σ : mj_S} {τ : mj_T} : mj_E 179 47 ls (.ref 62 :: st) σ τ = mj_E 179 50 ls (.ref 72 :: st) σ τ := mj_nx i179_47 rfl
theorem i179_50 : mj_ins 179 50 = some (.iload 1, 51) := by decide +kernel
theorem e179_50 {ls : mj_L} {st : List Value} {σ : mj_S} {τ : mj_T} {a0 : Option Value} {v : Int32} : mj_E 179 50 (a0 :: some (.int v) :: ls) st σ τ = mj_E 179 51 (a0 :: some (.int v) :: ls) (.int v :: st) σ τ := mj_nx i179_50 rfl
theorem i179_51 : mj_ins 179 51 = some (.dup2, 52) := by decide +kernel
theorem e179_51 {ls : mj_L} {st : List Value} {σ : mj_S} {τ : mj_T} {y : Int32} {x : Nat} : mj_E 179 51 ls (.int y :: .ref x :: st) σ τ = mj_E 179 52 ls (.int y :: .ref x :: .int y :: .ref x :: st) σ τ := mj_nx i179_51 rfl
theorem i179_52 : mj_ins 179 52 = some (.iaload, 53) := by decide +kernel
theorem e179_52 {ls : mj_L} {st : List Value} {σ : mj_S} {τ : mj_T} {x : Int32} {k : Nat} : mj_E 179 52 ls (.int x :: .ref k :: st) σ τ = if mj_ib (mj_li σ k) x = true then mj_E 179 53 ls (.int (σ k x.toNatClampNeg) :: st) σ τ else none := mj_ald i179_52
theorem i179_53 : mj_ins 179 53 = some (.iconst (1), 54) := by decide +kernel
theorem e179_53 {ls : mj_L} {st : List Value} {σ : mj_S} {τ : mj_T} : mj_E 179 53 ls st σ τ = mj_E 179 54 ls (.int (nI 1) :: st) σ τ := mj_nx i179_53 rfl
theorem i179_54 : mj_ins 179 54 = some (.aload 0, 55) := by decide +kernel
theorem e179_54 {ls : mj_L} {st : List Value} {σ : mj_S} {τ : mj_T} {v : Nat} : mj_E 179 54 (some (.ref v) :: ls) st σ τ = mj_E 179 55 (some (.ref v) :: ls) (.ref v :: st) σ τ := mj_nx i179_54 rfl
theorem i179_55 : mj_ins 179 55 = some (.getfield 737, 58) := by decide +kernel
theorem e179_55 {ls : mj_L} {st : List Value} {σ : mj_S} {τ : mj_T} : mj_E 179 55 ls (.ref 62 :: st) σ τ = mj_E 179 58 ls (.int (σ 62 37) :: st) σ τ := mj_nx i179_55 rfl
theorem i179_58 : mj_ins 179 58 = some (.ishl, 59) := by decide +kernel
theorem e179_58 {ls : mj_L} {st : List Value} {σ : mj_S} {τ : mj_T} {x y : Int32} : mj_E 179 58 ls (.int y :: .int x :: st) σ τ = mj_E 179 59 ls (.int (x <<< (y &&& 31)) :: st) σ τ := mj_nx i179_58 rfl
theorem i179_59 : mj_ins 179 59 = some (.iconst (1), 60) := by decide +kernel
theorem e179_59 {ls : mj_L} {st : List Value} {σ : mj_S} {τ : mj_T} : mj_E 179 59 ls st σ τ = mj_E 179 60 ls (.int (nI 1) :: st) σ τ := mj_nx i179_59 rfl
theorem i179_60 : mj_ins 179 60 = some (.aload 0, 61) := by decide +kernel
theorem e179_60 {ls : mj_L} {st : List Value} {σ : mj_S} {τ : mj_T} {v : Nat} : mj_E 179 60 (some (.ref v) :: ls) st σ τ = mj_E 179 61 (some (.ref v) :: ls) (.ref v :: st) σ τ := mj_nx i179_60 rfl
theorem i179_61 : mj_ins 179 61 = some (.getfield 735, 64) := by decide +kernel
theorem e179_61 {ls : mj_L} {st : List Value} {σ : mj_S} {τ : mj_T} : mj_E 179 61 ls (.ref 62 :: st) σ τ = mj_E 179 64 ls (.int (σ 62 35) :: st) σ τ := mj_nx i179_61 rfl
theorem i179_64 : mj_ins 179 64 = some (.ishl, 65) := by decide +kernel
theorem e179_64 {ls : mj_L} {st : List Value} {σ : mj_S} {τ : mj_T} {x y : Int32} : mj_E 179 64 ls (.int y :: .int x :: st) σ τ = mj_E 179 65 ls (.int (x <<< (y &&& 31)) :: st) σ τ := mj_nx i179_64 rfl
theorem i179_65 : mj_ins 179 65 = some (.isub, 66) := by decide +kernel
theorem e179_65 {ls : mj_L} {st : List Value} {σ : mj_S} {τ : mj_T} {x y : Int32} : mj_E 179 65 ls (.int y :: .int x :: st) σ τ = mj_E 179 66 ls (.int (x - y) :: st) σ τ := mj_nx i179_65 rfl
theorem i179_66 : mj_ins 179 66 = some (.iadd, 67) := by decide +kernel
theorem e179_66 {ls : mj_L} {st : List Value} {σ : mj_S} {τ : mj_T} {x y : Int32} : mj_E 179 66 ls (.int y :: .int x :: st) σ τ = mj_E 179 67 ls (.int (x + y) :: st) σ τ := mj_nx i179_66 rfl
theorem i179_67 : mj_ins 179 67 = some (.iastore, 68) := by decide +kernel
theorem e179_67 {ls : mj_L} {st : List Value} {σ : mj_S} {τ : mj_T} {x v : Int32} {k : Nat} : mj_E 179 67 ls (.int v :: .int x :: .ref k :: st) σ τ = if mj_ib (mj_lw k) x = true then mj_E 179 68 ls st (mj_up σ k x.toNatClampNeg v) τ else none := mj_ast i179_67
theorem i179_68 : mj_ins 179 68 = some (.aload 0, 69) := by decide +kernel
theorem e179_68 {ls : mj_L} {st : List Value} {σ : mj_S} {τ : mj_T} {v : Nat} : mj_E 179 68 (some (.ref v) :: ls) st σ τ = mj_E 179 69 (some (.ref v) :: ls) (.ref v :: st) σ τ := mj_nx i179_68 rfl
theorem i179_69 : mj_ins 179 69 = some (.getfield 737, 72) := by decide +kernel
theorem e179_69 {ls : mj_L} {st : List Value} {σ : mj_S} {τ : mj_T} : mj_E 179 69 ls (.ref 62 :: st) σ τ = mj_E 179 72 ls (.int (σ 62 37) :: st) σ τ := mj_nx i179_69 rfl
theorem i179_72 : mj_ins 179 72 = some (.ireturn, 73) := by decide +kernel
theorem e179_72 {ls : mj_L} {σ : mj_S} {τ : mj_T} {v : Int32} : mj_E 179 72 ls [.int v] σ τ = some (some (.int v), σ, τ) := mj_irt i179_72 rfl
theorem c180 {σ : mj_S} {τ : mj_T} {r : Nat} : mj_C 180 [.ref r] σ τ = mj_E 180 0 [some (.ref r), none, none] [] σ τ := rfl
theorem i180_0 : mj_ins 180 0 = some (.iconst (0), 1) := by decide +kernel
theorem e180_0 {ls : mj_L} {st : List Value} {σ : mj_S} {τ : mj_T} : mj_E 180 0 ls st σ τ = mj_E 180 1 ls (.int (nI 0) :: st) σ τ := mj_nx i180_0 rfl
theorem i180_1 : mj_ins 180 1 = some (.istore 1, 2) := by decide +kernel
theorem e180_1 {ls : mj_L} {st : List Value} {σ : mj_S} {τ : mj_T} {a0 a1 : Option Value} {v : Int32} : mj_E 180 1 (a0 :: a1 :: ls) (.int v :: st) σ τ = mj_E 180 2 (a0 :: some (.int v) :: ls) st σ τ := mj_nx i180_1 rfl
theorem i180_2 : mj_ins 180 2 = some (.iload 1, 3) := by decide +kernel
theorem e180_2 {ls : mj_L} {st : List Value} {σ : mj_S} {τ : mj_T} {a0 : Option Value} {v : Int32} : mj_E 180 2 (a0 :: some (.int v) :: ls) st σ τ = mj_E 180 3 (a0 :: some (.int v) :: ls) (.int v :: st) σ τ := mj_nx i180_2 rfl
theorem i180_3 : mj_ins 180 3 = some (.aload 0, 4) := by decide +kernel
theorem e180_3 {ls : mj_L} {st : List Value} {σ : mj_S} {τ : mj_T} {v : Nat} : mj_E 180 3 (some (.ref v) :: ls) st σ τ = mj_E 180 4 (some (.ref v) :: ls) (.ref v :: st) σ τ := mj_nx i180_3 rfl
theorem i180_4 : mj_ins 180 4 = some (.getfield 701, 7) := by decide +kernel
theorem e180_4 {ls : mj_L} {st : List Value} {σ : mj_S} {τ : mj_T} : mj_E 180 4 ls (.ref 62 :: st) σ τ = mj_E 180 7 ls (.int (σ 62 1) :: st) σ τ := mj_nx i180_4 rfl
theorem i180_7 : mj_ins 180 7 = some (.if_icmp .ge 108, 10) := by decide +kernel
theorem e180_7 {ls : mj_L} {st : List Value} {σ : mj_S} {τ : mj_T} {x y : Int32} : mj_E 180 7 ls (.int y :: .int x :: st) σ τ = if y ≤ x then mj_E 180 108 ls st σ τ else mj_E 180 10 ls st σ τ := (mj_ifi i180_7).trans (mj_cdT rfl)
theorem i180_10 : mj_ins 180 10 = some (.aload 0, 11) := by decide +kernel
theorem e180_10 {ls : mj_L} {st : List Value} {σ : mj_S} {τ : mj_T} {v : Nat} : mj_E 180 10 (some (.ref v) :: ls) st σ τ = mj_E 180 11 (some (.ref v) :: ls) (.ref v :: st) σ τ := mj_nx i180_10 rfl
theorem i180_11 : mj_ins 180 11 = some (.getfield 714, 14) := by decide +kernel
theorem e180_11 {ls : mj_L} {st : List Value} {σ : mj_S} {τ : mj_T} : mj_E 180 11 ls (.ref 62 :: st) σ τ = mj_E 180 14 ls (.ref 71 :: st) σ τ := mj_nx i180_11 rfl
theorem i180_14 : mj_ins 180 14 = some (.iload 1, 15) := by decide +kernel
theorem e180_14 {ls : mj_L} {st : List Value} {σ : mj_S} {τ : mj_T} {a0 : Option Value} {v : Int32} : mj_E 180 14 (a0 :: some (.int v) :: ls) st σ τ = mj_E 180 15 (a0 :: some (.int v) :: ls) (.int v :: st) σ τ := mj_nx i180_14 rfl
theorem i180_15 : mj_ins 180 15 = some (.dup2, 16) := by decide +kernel
theorem e180_15 {ls : mj_L} {st : List Value} {σ : mj_S} {τ : mj_T} {y : Int32} {x : Nat} : mj_E 180 15 ls (.int y :: .ref x :: st) σ τ = mj_E 180 16 ls (.int y :: .ref x :: .int y :: .ref x :: st) σ τ := mj_nx i180_15 rfl
theorem i180_16 : mj_ins 180 16 = some (.iaload, 17) := by decide +kernel
theorem e180_16 {ls : mj_L} {st : List Value} {σ : mj_S} {τ : mj_T} {x : Int32} {k : Nat} : mj_E 180 16 ls (.int x :: .ref k :: st) σ τ = if mj_ib (mj_li σ k) x = true then mj_E 180 17 ls (.int (σ k x.toNatClampNeg) :: st) σ τ else none := mj_ald i180_16
theorem i180_17 : mj_ins 180 17 = some (.aload 0, 18) := by decide +kernel
theorem e180_17 {ls : mj_L} {st : List Value} {σ : mj_S} {τ : mj_T} {v : Nat} : mj_E 180 17 (some (.ref v) :: ls) st σ τ = mj_E 180 18 (some (.ref v) :: ls) (.ref v :: st) σ τ := mj_nx i180_17 rfl
theorem i180_18 : mj_ins 180 18 = some (.getfield 714, 21) := by decide +kernel
theorem e180_18 {ls : mj_L} {st : List Value} {σ : mj_S} {τ : mj_T} : mj_E 180 18 ls (.ref 62 :: st) σ τ = mj_E 180 21 ls (.ref 71 :: st) σ τ := mj_nx i180_18 rfl
theorem i180_21 : mj_ins 180 21 = some (.iload 1, 22) := by decide +kernel
theorem e180_21 {ls : mj_L} {st : List Value} {σ : mj_S} {τ : mj_T} {a0 : Option Value} {v : Int32} : mj_E 180 21 (a0 :: some (.int v) :: ls) st σ τ = mj_E 180 22 (a0 :: some (.int v) :: ls) (.int v :: st) σ τ := mj_nx i180_21 rfl
theorem i180_22 : mj_ins 180 22 = some (.iaload, 23) := by decide +kernel
theorem e180_22 {ls : mj_L} {st : List Value} {σ : mj_S} {τ : mj_T} {x : Int32} {k : Nat} : mj_E 180 22 ls (.int x :: .ref k :: st) σ τ = if mj_ib (mj_li σ k) x = true then mj_E 180 23 ls (.int (σ k x.toNatClampNeg) :: st) σ τ else none := mj_ald i180_22
theorem i180_23 : mj_ins 180 23 = some (.iconst (30), 25) := by decide +kernel
theorem e180_23 {ls : mj_L} {st : List Value} {σ : mj_S} {τ : mj_T} : mj_E 180 23 ls st σ τ = mj_E 180 25 ls (.int (nI 30) :: st) σ τ := mj_nx i180_23 rfl
theorem i180_25 : mj_ins 180 25 = some (.if_icmp .ge 32, 28) := by decide +kernel
theorem e180_25 {ls : mj_L} {st : List Value} {σ : mj_S} {τ : mj_T} {x y : Int32} : mj_E 180 25 ls (.int y :: .int x :: st) σ τ = if y ≤ x then mj_E 180 32 ls st σ τ else mj_E 180 28 ls st σ τ := (mj_ifi i180_25).trans (mj_cdT rfl)
theorem i180_28 : mj_ins 180 28 = some (.iconst (1), 29) := by decide +kernel
theorem e180_28 {ls : mj_L} {st : List Value} {σ : mj_S} {τ : mj_T} : mj_E 180 28 ls st σ τ = mj_E 180 29 ls (.int (nI 1) :: st) σ τ := mj_nx i180_28 rfl
theorem i180_29 : mj_ins 180 29 = some (.goto 33, 32) := by decide +kernel
theorem e180_29 {ls : mj_L} {st : List Value} {σ : mj_S} {τ : mj_T} : mj_E 180 29 ls st σ τ = mj_E 180 33 ls st σ τ := mj_nx i180_29 rfl
theorem i180_32 : mj_ins 180 32 = some (.iconst (0), 33) := by decide +kernel
theorem e180_32 {ls : mj_L} {st : List Value} {σ : mj_S} {τ : mj_T} : mj_E 180 32 ls st σ τ = mj_E 180 33 ls (.int (nI 0) :: st) σ τ := mj_nx i180_32 rfl
theorem i180_33 : mj_ins 180 33 = some (.iadd, 34) := by decide +kernel
theorem e180_33 {ls : mj_L} {st : List Value} {σ : mj_S} {τ : mj_T} {x y : Int32} : mj_E 180 33 ls (.int y :: .int x :: st) σ τ = mj_E 180 34 ls (.int (x + y) :: st) σ τ := mj_nx i180_33 rfl
theorem i180_34 : mj_ins 180 34 = some (.iastore, 35) := by decide +kernel
theorem e180_34 {ls : mj_L} {st : List Value} {σ : mj_S} {τ : mj_T} {x v : Int32} {k : Nat} : mj_E 180 34 ls (.int v :: .int x :: .ref k :: st) σ τ = if mj_ib (mj_lw k) x = true then mj_E 180 35 ls st (mj_up σ k x.toNatClampNeg v) τ else none := mj_ast i180_34
theorem i180_35 : mj_ins 180 35 = some (.iconst (0), 36) := by decide +kernel
theorem e180_35 {ls : mj_L} {st : List Value} {σ : mj_S} {τ : mj_T} : mj_E 180 35 ls st σ τ = mj_E 180 36 ls (.int (nI 0) :: st) σ τ := mj_nx i180_35 rfl
theorem i180_36 : mj_ins 180 36 = some (.istore 2, 37) := by decide +kernel
theorem e180_36 {ls : mj_L} {st : List Value} {σ : mj_S} {τ : mj_T} {a0 a1 a2 : Option Value} {v : Int32} : mj_E 180 36 (a0 :: a1 :: a2 :: ls) (.int v :: st) σ τ = mj_E 180 37 (a0 :: a1 :: some (.int v) :: ls) st σ τ := mj_nx i180_36 rfl
theorem i180_37 : mj_ins 180 37 = some (.iload 2, 38) := by decide +kernel
theorem e180_37 {ls : mj_L} {st : List Value} {σ : mj_S} {τ : mj_T} {a0 a1 : Option Value} {v : Int32} : mj_E 180 37 (a0 :: a1 :: some (.int v) :: ls) st σ τ = mj_E 180 38 (a0 :: a1 :: some (.int v) :: ls) (.int v :: st) σ τ := mj_nx i180_37 rfl
theorem i180_38 : mj_ins 180 38 = some (.aload 0, 39) := by decide +kernel
theorem e180_38 {ls : mj_L} {st : List Value} {σ : mj_S} {τ : mj_T} {v : Nat} : mj_E 180 38 (some (.ref v) :: ls) st σ τ = mj_E 180 39 (some (.ref v) :: ls) (.ref v :: st) σ τ := mj_nx i180_38 rfl
theorem i180_39 : mj_ins 180 39 = some (.getfield 700, 42) := by decide +kernel
theorem e180_39 {ls : mj_L} {st : List Value} {σ : mj_S} {τ : mj_T} : mj_E 180 39 ls (.ref 62 :: st) σ τ = mj_E 180 42 ls (.int (σ 62 0) :: st) σ τ := mj_nx i180_39 rfl
theorem i180_42 : mj_ins 180 42 = some (.if_icmp .ge 102, 45) := by decide +kernel
theorem e180_42 {ls : mj_L} {st : List Value} {σ : mj_S} {τ : mj_T} {x y : Int32} : mj_E 180 42 ls (.int y :: .int x :: st) σ τ = if y ≤ x then mj_E 180 102 ls st σ τ else mj_E 180 45 ls st σ τ := (mj_ifi i180_42).trans (mj_cdT rfl)
theorem i180_45 : mj_ins 180 45 = some (.aload 0, 46) := by decide +kernel
theorem e180_45 {ls : mj_L} {st : List Value} {σ : mj_S} {τ : mj_T} {v : Nat} : mj_E 180 45 (some (.ref v) :: ls) st σ τ = mj_E 180 46 (some (.ref v) :: ls) (.ref v :: st) σ τ := mj_nx i180_45 rfl
theorem i180_46 : mj_ins 180 46 = some (.getfield 715, 49) := by decide +kernel
theorem e180_46 {ls : mj_L} {st : List Value} {σ : mj_S} {τ : mj_T} : mj_E 180 46 ls (.ref 62 :: st) σ τ = mj_E 180 49 ls (.ref 72 :: st) σ τ := mj_nx i180_46 rfl
theorem i180_49 : mj_ins 180 49 = some (.iload 1, 50) := by decide +kernel
theorem e180_49 {ls : mj_L} {st : List Value} {σ : mj_S} {τ : mj_T} {a0 : Option Value} {v : Int32} : mj_E 180 49 (a0 :: some (.int v) :: ls) st σ τ = mj_E 180 50 (a0 :: some (.int v) :: ls) (.int v :: st) σ τ := mj_nx i180_49 rfl
theorem i180_50 : mj_ins 180 50 = some (.iaload, 51) := by decide +kernel
theorem e180_50 {ls : mj_L} {st : List Value} {σ : mj_S} {τ : mj_T} {x : Int32} {k : Nat} : mj_E 180 50 ls (.int x :: .ref k :: st) σ τ = if mj_ib (mj_li σ k) x = true then mj_E 180 51 ls (.int (σ k x.toNatClampNeg) :: st) σ τ else none := mj_ald i180_50
theorem i180_51 : mj_ins 180 51 = some (.iload 2, 52) := by decide +kernel
theorem e180_51 {ls : mj_L} {st : List Value} {σ : mj_S} {τ : mj_T} {a0 a1 : Option Value} {v : Int32} : mj_E 180 51 (a0 :: a1 :: some (.int v) :: ls) st σ τ = mj_E 180 52 (a0 :: a1 :: some (.int v) :: ls) (.int v :: st) σ τ := mj_nx i180_51 rfl
theorem i180_52 : mj_ins 180 52 = some (.ishr, 53) := by decide +kernel
theorem e180_52 {ls : mj_L} {st : List Value} {σ : mj_S} {τ : mj_T} {x y : Int32} : mj_E 180 52 ls (.int y :: .int x :: st) σ τ = mj_E 180 53 ls (.int (x >>> (y &&& 31)) :: st) σ τ := mj_nx i180_52 rfl
theorem i180_53 : mj_ins 180 53 = some (.iconst (1), 54) := by decide +kernel
theorem e180_53 {ls : mj_L} {st : List Value} {σ : mj_S} {τ : mj_T} : mj_E 180 53 ls st σ τ = mj_E 180 54 ls (.int (nI 1) :: st) σ τ := mj_nx i180_53 rfl
theorem i180_54 : mj_ins 180 54 = some (.iand, 55) := by decide +kernel
theorem e180_54 {ls : mj_L} {st : List Value} {σ : mj_S} {τ : mj_T} {x y : Int32} : mj_E 180 54 ls (.int y :: .int x :: st) σ τ = mj_E 180 55 ls (.int (x &&& y) :: st) σ τ := mj_nx i180_54 rfl
theorem i180_55 : mj_ins 180 55 = some (.iconst (1), 56) := by decide +kernel
theorem e180_55 {ls : mj_L} {st : List Value} {σ : mj_S} {τ : mj_T} : mj_E 180 55 ls st σ τ = mj_E 180 56 ls (.int (nI 1) :: st) σ τ := mj_nx i180_55 rfl
theorem i180_56 : mj_ins 180 56 = some (.if_icmp .ne 96, 59) := by decide +kernel
theorem e180_56 {ls : mj_L} {st : List Value} {σ : mj_S} {τ : mj_T} {x y : Int32} : mj_E 180 56 ls (.int y :: .int x :: st) σ τ = if x = y then mj_E 180 59 ls st σ τ else mj_E 180 96 ls st σ τ := (mj_ifi i180_56).trans (mj_cdF rfl)
theorem i180_59 : mj_ins 180 59 = some (.aload 0, 60) := by decide +kernel
theorem e180_59 {ls : mj_L} {st : List Value} {σ : mj_S} {τ : mj_T} {v : Nat} : mj_E 180 59 (some (.ref v) :: ls) st σ τ = mj_E 180 60 (some (.ref v) :: ls) (.ref v :: st) σ τ := mj_nx i180_59 rfl
theorem i180_60 : mj_ins 180 60 = some (.getfield 707, 63) := by decide +kernel
theorem e180_60 {ls : mj_L} {st : List Value} {σ : mj_S} {τ : mj_T} : mj_E 180 60 ls (.ref 62 :: st) σ τ = mj_E 180 63 ls (.ref 64 :: st) σ τ := mj_nx i180_60 rfl
theorem i180_63 : mj_ins 180 63 = some (.iload 2, 64) := by decide +kernel
theorem e180_63 {ls : mj_L} {st : List Value} {σ : mj_S} {τ : mj_T} {a0 a1 : Option Value} {v : Int32} : mj_E 180 63 (a0 :: a1 :: some (.int v) :: ls) st σ τ = mj_E 180 64 (a0 :: a1 :: some (.int v) :: ls) (.int v :: st) σ τ := mj_nx i180_63 rfl
theorem i180_64 : mj_ins 180 64 = some (.iaload, 65) := by decide +kernel
theorem e180_64 {ls : mj_L} {st : List Value} {σ : mj_S} {τ : mj_T} {x : Int32} {k : Nat} : mj_E 180 64 ls (.int x :: .ref k :: st) σ τ = if mj_ib (mj_li σ k) x = true then mj_E 180 65 ls (.int (σ k x.toNatClampNeg) :: st) σ τ else none := mj_ald i180_64
theorem i180_65 : mj_ins 180 65 = some (.iconst (4), 66) := by decide +kernel
theorem e180_65 {ls : mj_L} {st : List Value} {σ : mj_S} {τ : mj_T} : mj_E 180 65 ls st σ τ = mj_E 180 66 ls (.int (nI 4) :: st) σ τ := mj_nx i180_65 rfl
theorem i180_66 : mj_ins 180 66 = some (.if_icmp .eq 96, 69) := by decide +kernel
theorem e180_66 {ls : mj_L} {st : List Value} {σ : mj_S} {τ : mj_T} {x y : Int32} : mj_E 180 66 ls (.int y :: .int x :: st) σ τ = if x = y then mj_E 180 96 ls st σ τ else mj_E 180 69 ls st σ τ := (mj_ifi i180_66).trans (mj_cdT rfl)
theorem i180_69 : mj_ins 180 69 = some (.aload 0, 70) := by decide +kernel
theorem e180_69 {ls : mj_L} {st : List Value} {σ : mj_S} {τ : mj_T} {v : Nat} : mj_E 180 69 (some (.ref v) :: ls) st σ τ = mj_E 180 70 (some (.ref v) :: ls) (.ref v :: st) σ τ := mj_nx i180_69 rfl
theorem i180_70 : mj_ins 180 70 = some (.getfield 716, 73) := by decide +kernel
theorem e180_70 {ls : mj_L} {st : List Value} {σ : mj_S} {τ : mj_T} : mj_E 180 70 ls (.ref 62 :: st) σ τ = mj_E 180 73 ls (.ref 73 :: st) σ τ := mj_nx i180_70 rfl
theorem i180_73 : mj_ins 180 73 = some (.iconst (8), 75) := by decide +kernel
theorem e180_73 {ls : mj_L} {st : List Value} {σ : mj_S} {τ : mj_T} : mj_E 180 73 ls st σ τ = mj_E 180 75 ls (.int (nI 8) :: st) σ τ := mj_nx i180_73 rfl
theorem i180_75 : mj_ins 180 75 = some (.iload 1, 76) := by decide +kernel
theorem e180_75 {ls : mj_L} {st : List Value} {σ : mj_S} {τ : mj_T} {a0 : Option Value} {v : Int32} : mj_E 180 75 (a0 :: some (.int v) :: ls) st σ τ = mj_E 180 76 (a0 :: some (.int v) :: ls) (.int v :: st) σ τ := mj_nx i180_75 rfl
theorem i180_76 : mj_ins 180 76 = some (.imul, 77) := by decide +kernel
theorem e180_76 {ls : mj_L} {st : List Value} {σ : mj_S} {τ : mj_T} {x y : Int32} : mj_E 180 76 ls (.int y :: .int x :: st) σ τ = mj_E 180 77 ls (.int (x * y) :: st) σ τ := mj_nx i180_76 rfl
theorem i180_77 : mj_ins 180 77 = some (.iload 2, 78) := by decide +kernel
theorem e180_77 {ls : mj_L} {st : List Value} {σ : mj_S} {τ : mj_T} {a0 a1 : Option Value} {v : Int32} : mj_E 180 77 (a0 :: a1 :: some (.int v) :: ls) st σ τ = mj_E 180 78 (a0 :: a1 :: some (.int v) :: ls) (.int v :: st) σ τ := mj_nx i180_77 rfl
theorem i180_78 : mj_ins 180 78 = some (.iadd, 79) := by decide +kernel
theorem e180_78 {ls : mj_L} {st : List Value} {σ : mj_S} {τ : mj_T} {x y : Int32} : mj_E 180 78 ls (.int y :: .int x :: st) σ τ = mj_E 180 79 ls (.int (x + y) :: st) σ τ := mj_nx i180_78 rfl
theorem i180_79 : mj_ins 180 79 = some (.aload 0, 80) := by decide +kernel
theorem e180_79 {ls : mj_L} {st : List Value} {σ : mj_S} {τ : mj_T} {v : Nat} : mj_E 180 79 (some (.ref v) :: ls) st σ τ = mj_E 180 80 (some (.ref v) :: ls) (.ref v :: st) σ τ := mj_nx i180_79 rfl
theorem i180_80 : mj_ins 180 80 = some (.iload 1, 81) := by decide +kernel
theorem e180_80 {ls : mj_L} {st : List Value} {σ : mj_S} {τ : mj_T} {a0 : Option Value} {v : Int32} : mj_E 180 80 (a0 :: some (.int v) :: ls) st σ τ = mj_E 180 81 (a0 :: some (.int v) :: ls) (.int v :: st) σ τ := mj_nx i180_80 rfl
theorem i180_81 : mj_ins 180 81 = some (.iload 2, 82) := by decide +kernel
theorem e180_81 {ls : mj_L} {st : List Value} {σ : mj_S} {τ : mj_T} {a0 a1 : Option Value} {v : Int32} : mj_E 180 81 (a0 :: a1 :: some (.int v) :: ls) st σ τ = mj_E 180 82 (a0 :: a1 :: some (.int v) :: ls) (.int v :: st) σ τ := mj_nx i180_81 rfl
theorem i180_82 : mj_ins 180 82 = some (.iconst (1), 83) := by decide +kernel
theorem e180_82 {ls : mj_L} {st : List Value} {σ : mj_S} {τ : mj_T} : mj_E 180 82 ls st σ τ = mj_E 180 83 ls (.int (nI 1) :: st) σ τ := mj_nx i180_82 rfl
theorem i180_83 : mj_ins 180 83 = some (.aload 0, 84) := by decide +kernel
theorem e180_83 {ls : mj_L} {st : List Value} {σ : mj_S} {τ : mj_T} {v : Nat} : mj_E 180 83 (some (.ref v) :: ls) st σ τ = mj_E 180 84 (some (.ref v) :: ls) (.ref v :: st) σ τ := mj_nx i180_83 rfl
theorem i180_84 : mj_ins 180 84 = some (.getfield 710, 87) := by decide +kernel
theorem e180_84 {ls : mj_L} {st : List Value} {σ : mj_S} {τ : mj_T} : mj_E 180 84 ls (.ref 62 :: st) σ τ = mj_E 180 87 ls (.ref 67 :: st) σ τ := mj_nx i180_84 rfl
theorem i180_87 : mj_ins 180 87 = some (.iload 2, 88) := by decide +kernel
theorem e180_87 {ls : mj_L} {st : List Value} {σ : mj_S} {τ : mj_T} {a0 a1 : Option Value} {v : Int32} : mj_E 180 87 (a0 :: a1 :: some (.int v) :: ls) st σ τ = mj_E 180 88 (a0 :: a1 :: some (.int v) :: ls) (.int v :: st) σ τ := mj_nx i180_87 rfl
theorem i180_88 : mj_ins 180 88 = some (.iaload, 89) := by decide +kernel
theorem e180_88 {ls : mj_L} {st : List Value} {σ : mj_S} {τ : mj_T} {x : Int32} {k : Nat} : mj_E 180 88 ls (.int x :: .ref k :: st) σ τ = if mj_ib (mj_li σ k) x = true then mj_E 180 89 ls (.int (σ k x.toNatClampNeg) :: st) σ τ else none := mj_ald i180_88
theorem i180_89 : mj_ins 180 89 = some (.iconst (4), 90) := by decide +kernel
theorem e180_89 {ls : mj_L} {st : List Value} {σ : mj_S} {τ : mj_T} : mj_E 180 89 ls st σ τ = mj_E 180 90 ls (.int (nI 4) :: st) σ τ := mj_nx i180_89 rfl
theorem i180_90 : mj_ins 180 90 = some (.idiv, 91) := by decide +kernel
theorem e180_90 {ls : mj_L} {st : List Value} {σ : mj_S} {τ : mj_T} {x y : Int32} : mj_E 180 90 ls (.int y :: .int x :: st) σ τ = if y = 0 then none else mj_E 180 91 ls (.int (x / y) :: st) σ τ := mj_div i180_90
theorem i180_91 : mj_ins 180 91 = some (.iadd, 92) := by decide +kernel
theorem e180_91 {ls : mj_L} {st : List Value} {σ : mj_S} {τ : mj_T} {x y : Int32} : mj_E 180 91 ls (.int y :: .int x :: st) σ τ = mj_E 180 92 ls (.int (x + y) :: st) σ τ := mj_nx i180_91 rfl
theorem i180_92 : mj_ins 180 92 = some (.invokevirtual 138, 95) := by decide +kernel
theorem e180_92 {ls : mj_L} {σ : mj_S} {τ : mj_T} {r : Nat} {x0 : Int32} {x1 : Int32} {x2 : Int32} {w0 w1 : Value} : mj_E 180 92 ls [.int x2, .int x1, .int x0, .ref r, w0, w1] σ τ = if mj_rcv r 7 = true then mj_bd (mj_C 138 [.ref r, .int x0, .int x1, .int x2] σ τ) (mj_K 180 95 ls [w0, w1]) else none := mj_clV (as := [.int x0, .int x1, .int x2]) (r := [w0, w1]) i180_92 (by decide +kernel : mj_vk 180 138 3 2 4 false = true) (by decide +kernel)
theorem i180_95 : mj_ins 180 95 = some (.iastore, 96) := by decide +kernel
theorem e180_95 {ls : mj_L} {st : List Value} {σ : mj_S} {τ : mj_T} {x v : Int32} {k : Nat} : mj_E 180 95 ls (.int v :: .int x :: .ref k :: st) σ τ = if mj_ib (mj_lw k) x = true then mj_E 180 96 ls st (mj_up σ k x.toNatClampNeg v) τ else none := mj_ast i180_95
theorem i180_96 : mj_ins 180 96 = some (.iinc 2 (1), 99) := by decide +kernel
theorem e180_96 {ls : mj_L} {st : List Value} {σ : mj_S} {τ : mj_T} {a0 a1 : Option Value} {v : Int32} : mj_E 180 96 (a0 :: a1 :: some (.int v) :: ls) st σ τ = mj_E 180 99 (a0 :: a1 :: some (.int (v + nI 1)) :: ls) st σ τ := mj_nx i180_96 rfl
theorem i180_99 : mj_ins 180 99 = some (.goto 37, 102) := by decide +kernel
theorem e180_99 {ls : mj_L} {st : List Value} {σ : mj_S} {τ : mj_T} : mj_E 180 99 ls st σ τ = mj_E 180 37 ls st σ τ := mj_nx i180_99 rfl
theorem i180_102 : mj_ins 180 102 = some (.iinc 1 (1), 105) := by decide +kernel
theorem e180_102 {ls : mj_L} {st : List Value} {σ : mj_S} {τ : mj_T} {a0 : Option Value} {v : Int32} : mj_E 180 102 (a0 :: some (.int v) :: ls) st σ τ = mj_E 180 105 (a0 :: some (.int (v + nI 1)) :: ls) st σ τ := mj_nx i180_102 rfl
theorem i180_105 : mj_ins 180 105 = some (.goto 2, 108) := by decide +kernel
theorem e180_105 {ls : mj_L} {st : List Value} {σ : mj_S} {τ : mj_T} : mj_E 180 105 ls st σ τ = mj_E 180 2 ls st σ τ := mj_nx i180_105 rfl
theorem i180_108 : mj_ins 180 108 = some (.iconst (0), 109) := by decide +kernel
theorem e180_108 {ls : mj_L} {st : List Value} {σ : mj_S} {τ : mj_T} : mj_E 180 108 ls st σ τ = mj_E 180 109 ls (.int (nI 0) :: st) σ τ := mj_nx i180_108 rfl
theorem i180_109 : mj_ins 180 109 = some (.istore 1, 110) := by decide +kernel
theorem e180_109 {ls : mj_L} {st : List Value} {σ : mj_S} {τ : mj_T} {a0 a1 : Option Value} {v : Int32} : mj_E 180 109 (a0 :: a1 :: ls) (.int v :: st) σ τ = mj_E 180 110 (a0 :: some (.int v) :: ls) st σ τ := mj_nx i180_109 rfl
theorem i180_110 : mj_ins 180 110 = some (.iload 1, 111) := by decide +kernel
theorem e180_110 {ls : mj_L} {st : List Value} {σ : mj_S} {τ : mj_T} {a0 : Option Value} {v : Int32} : mj_E 180 110 (a0 :: some (.int v) :: ls) st σ τ = mj_E 180 111 (a0 :: some (.int v) :: ls) (.int v :: st) σ τ := mj_nx i180_110 rfl
theorem i180_111 : mj_ins 180 111 = some (.aload 0, 112) := by decide +kernel
theorem e180_111 {ls : mj_L} {st : List Value} {σ : mj_S} {τ : mj_T} {v : Nat} : mj_E 180 111 (some (.ref v) :: ls) st σ τ = mj_E 180 112 (some (.ref v) :: ls) (.ref v :: st) σ τ := mj_nx i180_111 rfl
theorem i180_112 : mj_ins 180 112 = some (.getfield 701, 115) := by decide +kernel
theorem e180_112 {ls : mj_L} {st : List Value} {σ : mj_S} {τ : mj_T} : mj_E 180 112 ls (.ref 62 :: st) σ τ = mj_E 180 115 ls (.int (σ 62 1) :: st) σ τ := mj_nx i180_112 rfl
theorem i180_115 : mj_ins 180 115 = some (.if_icmp .ge 141, 118) := by decide +kernel
theorem e180_115 {ls : mj_L} {st : List Value} {σ : mj_S} {τ : mj_T} {x y : Int32} : mj_E 180 115 ls (.int y :: .int x :: st) σ τ = if y ≤ x then mj_E 180 141 ls st σ τ else mj_E 180 118 ls st σ τ := (mj_ifi i180_115).trans (mj_cdT rfl)
theorem i180_118 : mj_ins 180 118 = some (.aload 0, 119) := by decide +kernel
theorem e180_118 {ls : mj_L} {st : List Value} {σ : mj_S} {τ : mj_T} {v : Nat} : mj_E 180 118 (some (.ref v) :: ls) st σ τ = mj_E 180 119 (some (.ref v) :: ls) (.ref v :: st) σ τ := mj_nx i180_118 rfl
theorem i180_119 : mj_ins 180 119 = some (.getfield 714, 122) := by decide +kernel
theorem e180_119 {ls : mj_L} {st : List Value} {σ : mj_S} {τ : mj_T} : mj_E 180 119 ls (.ref 62 :: st) σ τ = mj_E 180 122 ls (.ref 71 :: st) σ τ := mj_nx i180_119 rfl
theorem i180_122 : mj_ins 180 122 = some (.iload 1, 123) := by decide +kernel
theorem e180_122 {ls : mj_L} {st : List Value} {σ : mj_S} {τ : mj_T} {a0 : Option Value} {v : Int32} : mj_E 180 122 (a0 :: some (.int v) :: ls) st σ τ = mj_E 180 123 (a0 :: some (.int v) :: ls) (.int v :: st) σ τ := mj_nx i180_122 rfl
theorem i180_123 : mj_ins 180 123 = some (.iaload, 124) := by decide +kernel
theorem e180_123 {ls : mj_L} {st : List Value} {σ : mj_S} {τ : mj_T} {x : Int32} {k : Nat} : mj_E 180 123 ls (.int x :: .ref k :: st) σ τ = if mj_ib (mj_li σ k) x = true then mj_E 180 124 ls (.int (σ k x.toNatClampNeg) :: st) σ τ else none := mj_ald i180_123
theorem i180_124 : mj_ins 180 124 = some (.iconst (9), 126) := by decide +kernel
theorem e180_124 {ls : mj_L} {st : List Value} {σ : mj_S} {τ : mj_T} : mj_E 180 124 ls st σ τ = mj_E 180 126 ls (.int (nI 9) :: st) σ τ := mj_nx i180_124 rfl
theorem i180_126 : mj_ins 180 126 = some (.if_icmp .ne 135, 129) := by decide +kernel
theorem e180_126 {ls : mj_L} {st : List Value} {σ : mj_S} {τ : mj_T} {x y : Int32} : mj_E 180 126 ls (.int y :: .int x :: st) σ τ = if x = y then mj_E 180 129 ls st σ τ else mj_E 180 135 ls st σ τ := (mj_ifi i180_126).trans (mj_cdF rfl)
theorem i180_129 : mj_ins 180 129 = some (.aload 0, 130) := by decide +kernel
theorem e180_129 {ls : mj_L} {st : List Value} {σ : mj_S} {τ : mj_T} {v : Nat} : mj_E 180 129 (some (.ref v) :: ls) st σ τ = mj_E 180 130 (some (.ref v) :: ls) (.ref v :: st) σ τ := mj_nx i180_129 rfl
theorem i180_130 : mj_ins 180 130 = some (.iload 1, 131) := by decide +kernel
theorem e180_130 {ls : mj_L} {st : List Value} {σ : mj_S} {τ : mj_T} {a0 : Option Value} {v : Int32} : mj_E 180 130 (a0 :: some (.int v) :: ls) st σ τ = mj_E 180 131 (a0 :: some (.int v) :: ls) (.int v :: st) σ τ := mj_nx i180_130 rfl
theorem i180_131 : mj_ins 180 131 = some (.invokevirtual 179, 134) := by decide +kernel
theorem e180_131 {ls : mj_L} {σ : mj_S} {τ : mj_T} {r : Nat} {x0 : Int32} : mj_E 180 131 ls [.int x0, .ref r] σ τ = if mj_rcv r 7 = true then mj_bd (mj_C 179 [.ref r, .int x0] σ τ) (mj_K 180 134 ls []) else none := mj_clV (as := [.int x0]) (r := []) i180_131 (by decide +kernel : mj_vk 180 179 1 0 2 false = true) (by decide +kernel)
theorem i180_134 : mj_ins 180 134 = some (.pop, 135) := by decide +kernel
theorem e180_134 {ls : mj_L} {st : List Value} {σ : mj_S} {τ : mj_T} {v : Int32} : mj_E 180 134 ls (.int v :: st) σ τ = mj_E 180 135 ls st σ τ := mj_nx i180_134 rfl
theorem i180_135 : mj_ins 180 135 = some (.iinc 1 (1), 138) := by decide +kernel
theorem e180_135 {ls : mj_L} {st : List Value} {σ : mj_S} {τ : mj_T} {a0 : Option Value} {v : Int32} : mj_E 180 135 (a0 :: some (.int v) :: ls) st σ τ = mj_E 180 138 (a0 :: some (.int (v + nI 1)) :: ls) st σ τ := mj_nx i180_135 rfl
theorem i180_138 : mj_ins 180 138 = some (.goto 110, 141) := by decide +kernel
theorem e180_138 {ls : mj_L} {st : List Value} {σ : mj_S} {τ : mj_T} : mj_E 180 138 ls st σ τ = mj_E 180 110 ls st σ τ := mj_nx i180_138 rfl
theorem i180_141 : mj_ins 180 141 = some (.aload 0, 142) := by decide +kernel
theorem e180_141 {ls : mj_L} {st : List Value} {σ : mj_S} {τ : mj_T} {v : Nat} : mj_E 180 141 (some (.ref v) :: ls) st σ τ = mj_E 180 142 (some (.ref v) :: ls) (.ref v :: st) σ τ := mj_nx i180_141 rfl
theorem i180_142 : mj_ins 180 142 = some (.dup, 143) := by decide +kernel
theorem e180_142 {ls : mj_L} {st : List Value} {σ : mj_S} {τ : mj_T} {v : Nat} : mj_E 180 142 ls (.ref v :: st) σ τ = mj_E 180 143 ls (.ref v :: .ref v :: st) σ τ := mj_nx i180_142 rfl
theorem i180_143 : mj_ins 180 143 = some (.getfield 703, 146) := by decide +kernel
theorem e180_143 {ls : mj_L} {st : List Value} {σ : mj_S} {τ : mj_T} : mj_E 180 143 ls (.ref 62 :: st) σ τ = mj_E 180 146 ls (.int (σ 62 3) :: st) σ τ := mj_nx i180_143 rfl
theorem i180_146 : mj_ins 180 146 = some (.iconst (1), 147) := by decide +kernel
theorem e180_146 {ls : mj_L} {st : List Value} {σ : mj_S} {τ : mj_T} : mj_E 180 146 ls st σ τ = mj_E 180 147 ls (.int (nI 1) :: st) σ τ := mj_nx i180_146 rfl
theorem i180_147 : mj_ins 180 147 = some (.iadd, 148) := by decide +kernel
theorem e180_147 {ls : mj_L} {st : List Value} {σ : mj_S} {τ : mj_T} {x y : Int32} : mj_E 180 147 ls (.int y :: .int x :: st) σ τ = mj_E 180 148 ls (.int (x + y) :: st) σ τ := mj_nx i180_147 rfl
theorem i180_148 : mj_ins 180 148 = some (.putfield 703, 151) := by decide +kernel
theorem e180_148 {ls : mj_L} {st : List Value} {σ : mj_S} {τ : mj_T} {v : Int32} : mj_E 180 148 ls (.int v :: .ref 62 :: st) σ τ = mj_E 180 151 ls st (mj_up σ 62 3 v) τ := mj_nx i180_148 rfl
theorem i180_151 : mj_ins 180 151 = some (.return_, 152) := by decide +kernel
theorem e180_151 {ls : mj_L} {σ : mj_S} {τ : mj_T} : mj_E 180 151 ls [] σ τ = some (none, σ, τ) := mj_vrt i180_151 rfl
theorem c181 {σ : mj_S} {τ : mj_T} {r : Nat} {x0 : Int32} {x1 : Int32} {x2 : Int32} : mj_C 181 [.ref r, .int x0, .int x1, .int x2] σ τ = mj_E 181 0 [some (.ref r), some (.int x0), some (.int x1), some (.int x2), none] [] σ τ := rfl
theorem i181_0 : mj_ins 181 0 = some (.aload 0, 1) := by decide +kernel
theorem e181_0 {ls : mj_L} {st : List Value} {σ : mj_S} {τ : mj_T} {v : Nat} : mj_E 181 0 (some (.ref v) :: ls) st σ τ = mj_E 181 1 (some (.ref v) :: ls) (.ref v :: st) σ τ := mj_nx i181_0 rfl
theorem i181_1 : mj_ins 181 1 = some (.iload 1, 2) := by decide +kernel
theorem e181_1 {ls : mj_L} {st : List Value} {σ : mj_S} {τ : mj_T} {a0 : Option Value} {v : Int32} : mj_E 181 1 (a0 :: some (.int v) :: ls) st σ τ = mj_E 181 2 (a0 :: some (.int v) :: ls) (.int v :: st) σ τ := mj_nx i181_1 rfl
theorem i181_2 : mj_ins 181 2 = some (.invokevirtual 120, 5) := by decide +kernel
theorem e181_2 {ls : mj_L} {σ : mj_S} {τ : mj_T} {r : Nat} {x0 : Int32} : mj_E 181 2 ls [.int x0, .ref r] σ τ = if mj_rcv r 7 = true then mj_bd (mj_C 120 [.ref r, .int x0] σ τ) (mj_K 181 5 ls []) else none := mj_clV (as := [.int x0]) (r := []) i181_2 (by decide +kernel : mj_vk 181 120 1 0 2 false = true) (by decide +kernel)
theorem i181_5 : mj_ins 181 5 = some (.ifCond .ne 14, 8) := by decide +kernel
theorem e181_5 {ls : mj_L} {st : List Value} {σ : mj_S} {τ : mj_T} {x : Int32} : mj_E 181 5 ls (.int x :: st) σ τ = if x = 0 then mj_E 181 8 ls st σ τ else mj_E 181 14 ls st σ τ := (mj_ifc i181_5).trans (mj_cdF rfl)
theorem i181_8 : mj_ins 181 8 = some (.aload 0, 9) := by decide +kernel
theorem e181_8 {ls : mj_L} {st : List Value} {σ : mj_S} {τ : mj_T} {v : Nat} : mj_E 181 8 (some (.ref v) :: ls) st σ τ = mj_E 181 9 (some (.ref v) :: ls) (.ref v :: st) σ τ := mj_nx i181_8 rfl
theorem i181_9 : mj_ins 181 9 = some (.iconst (-1), 10) := by decide +kernel
theorem e181_9 {ls : mj_L} {st : List Value} {σ : mj_S} {τ : mj_T} : mj_E 181 9 ls st σ τ = mj_E 181 10 ls (.int ((-1)) :: st) σ τ := mj_nx i181_9 rfl
theorem i181_10 : mj_ins 181 10 = some (.invokevirtual 117, 13) := by decide +kernel
theorem e181_10 {ls : mj_L} {σ : mj_S} {τ : mj_T} {r : Nat} {x0 : Int32} : mj_E 181 10 ls [.int x0, .ref r] σ τ = if mj_rcv r 7 = true then mj_bd (mj_C 117 [.ref r, .int x0] σ τ) (mj_K 181 13 ls []) else none := mj_clV (as := [.int x0]) (r := []) i181_10 (by decide +kernel : mj_vk 181 117 1 0 2 false = true) (by decide +kernel)
theorem i181_13 : mj_ins 181 13 = some (.ireturn, 14) := by decide +kernel
theorem e181_13 {ls : mj_L} {σ : mj_S} {τ : mj_T} {v : Int32} : mj_E 181 13 ls [.int v] σ τ = some (some (.int v), σ, τ) := mj_irt i181_13 rfl
theorem i181_14 : mj_ins 181 14 = some (.iload 3, 15) := by decide +kernel
theorem e181_14 {ls : mj_L} {st : List Value} {σ : mj_S} {τ : mj_T} {a0 a1 a2 : Option Value} {v : Int32} : mj_E 181 14 (a0 :: a1 :: a2 :: some (.int v) :: ls) st σ τ = mj_E 181 15 (a0 :: a1 :: a2 :: some (.int v) :: ls) (.int v :: st) σ τ := mj_nx i181_14 rfl
theorem i181_15 : mj_ins 181 15 = some (.ifCond .lt 23, 18) := by decide +kernel
theorem e181_15 {ls : mj_L} {st : List Value} {σ : mj_S} {τ : mj_T} {x : Int32} : mj_E 181 15 ls (.int x :: st) σ τ = if x < 0 then mj_E 181 23 ls st σ τ else mj_E 181 18 ls st σ τ := (mj_ifc i181_15).trans (mj_cdT rfl)
theorem i181_18 : mj_ins 181 18 = some (.iload 3, 19) := by decide +kernel
theorem e181_18 {ls : mj_L} {st : List Value} {σ : mj_S} {τ : mj_T} {a0 a1 a2 : Option Value} {v : Int32} : mj_E 181 18 (a0 :: a1 :: a2 :: some (.int v) :: ls) st σ τ = mj_E 181 19 (a0 :: a1 :: a2 :: some (.int v) :: ls) (.int v :: st) σ τ := mj_nx i181_18 rfl
theorem i181_19 : mj_ins 181 19 = some (.iconst (1), 20) := by decide +kernel
theorem e181_19 {ls : mj_L} {st : List Value} {σ : mj_S} {τ : mj_T} : mj_E 181 19 ls st σ τ = mj_E 181 20 ls (.int (nI 1) :: st) σ τ := mj_nx i181_19 rfl
theorem i181_20 : mj_ins 181 20 = some (.if_icmp .le 30, 23) := by decide +kernel
theorem e181_20 {ls : mj_L} {st : List Value} {σ : mj_S} {τ : mj_T} {x y : Int32} : mj_E 181 20 ls (.int y :: .int x :: st) σ τ = if x ≤ y then mj_E 181 30 ls st σ τ else mj_E 181 23 ls st σ τ := (mj_ifi i181_20).trans (mj_cdT rfl)
theorem i181_23 : mj_ins 181 23 = some (.aload 0, 24) := by decide +kernel
theorem e181_23 {ls : mj_L} {st : List Value} {σ : mj_S} {τ : mj_T} {v : Nat} : mj_E 181 23 (some (.ref v) :: ls) st σ τ = mj_E 181 24 (some (.ref v) :: ls) (.ref v :: st) σ τ := mj_nx i181_23 rfl
theorem i181_24 : mj_ins 181 24 = some (.iconst (-5), 26) := by decide +kernel
theorem e181_24 {ls : mj_L} {st : List Value} {σ : mj_S} {τ : mj_T} : mj_E 181 24 ls st σ τ = mj_E 181 26 ls (.int ((-5)) :: st) σ τ := mj_nx i181_24 rfl
theorem i181_26 : mj_ins 181 26 = some (.invokevirtual 117, 29) := by decide +kernel
theorem e181_26 {ls : mj_L} {σ : mj_S} {τ : mj_T} {r : Nat} {x0 : Int32} : mj_E 181 26 ls [.int x0, .ref r] σ τ = if mj_rcv r 7 = true then mj_bd (mj_C 117 [.ref r, .int x0] σ τ) (mj_K 181 29 ls []) else none := mj_clV (as := [.int x0]) (r := []) i181_26 (by decide +kernel : mj_vk 181 117 1 0 2 false = true) (by decide +kernel)
theorem i181_29 : mj_ins 181 29 = some (.ireturn, 30) := by decide +kernel
theorem e181_29 {ls : mj_L} {σ : mj_S} {τ : mj_T} {v : Int32} : mj_E 181 29 ls [.int v] σ τ = some (some (.int v), σ, τ) := mj_irt i181_29 rfl
theorem i181_30 : mj_ins 181 30 = some (.aload 0, 31) := by decide +kernel
theorem e181_30 {ls : mj_L} {st : List Value} {σ : mj_S} {τ : mj_T} {v : Nat} : mj_E 181 30 (some (.ref v) :: ls) st σ τ = mj_E 181 31 (some (.ref v) :: ls) (.ref v :: st) σ τ := mj_nx i181_30 rfl
theorem i181_31 : mj_ins 181 31 = some (.iload 2, 32) := by decide +kernel
theorem e181_31 {ls : mj_L} {st : List Value} {σ : mj_S} {τ : mj_T} {a0 a1 : Option Value} {v : Int32} : mj_E 181 31 (a0 :: a1 :: some (.int v) :: ls) st σ τ = mj_E 181 32 (a0 :: a1 :: some (.int v) :: ls) (.int v :: st) σ τ := mj_nx i181_31 rfl
theorem i181_32 : mj_ins 181 32 = some (.iconst (0), 33) := by decide +kernel
theorem e181_32 {ls : mj_L} {st : List Value} {σ : mj_S} {τ : mj_T} : mj_E 181 32 ls st σ τ = mj_E 181 33 ls (.int (nI 0) :: st) σ τ := mj_nx i181_32 rfl
theorem i181_33 : mj_ins 181 33 = some (.iconst (20), 35) := by decide +kernel
theorem e181_33 {ls : mj_L} {st : List Value} {σ : mj_S} {τ : mj_T} : mj_E 181 33 ls st σ τ = mj_E 181 35 ls (.int (nI 20) :: st) σ τ := mj_nx i181_33 rfl
theorem i181_35 : mj_ins 181 35 = some (.invokevirtual 122, 38) := by decide +kernel
theorem e181_35 {ls : mj_L} {σ : mj_S} {τ : mj_T} {r : Nat} {x0 : Int32} {x1 : Int32} {x2 : Int32} : mj_E 181 35 ls [.int x2, .int x1, .int x0, .ref r] σ τ = if mj_rcv r 7 = true then mj_bd (mj_C 122 [.ref r, .int x0, .int x1, .int x2] σ τ) (mj_K 181 38 ls []) else none := mj_clV (as := [.int x0, .int x1, .int x2]) (r := []) i181_35 (by decide +kernel : mj_vk 181 122 3 0 4 false = true) (by decide +kernel)
theorem i181_38 : mj_ins 181 38 = some (.ifCond .ne 48, 41) := by decide +kernel
theorem e181_38 {ls : mj_L} {st : List Value} {σ : mj_S} {τ : mj_T} {x : Int32} : mj_E 181 38 ls (.int x :: st) σ τ = if x = 0 then mj_E 181 41 ls st σ τ else mj_E 181 48 ls st σ τ := (mj_ifc i181_38).trans (mj_cdF rfl)
theorem i181_41 : mj_ins 181 41 = some (.aload 0, 42) := by decide +kernel
theorem e181_41 {ls : mj_L} {st : List Value} {σ : mj_S} {τ : mj_T} {v : Nat} : mj_E 181 41 (some (.ref v) :: ls) st σ τ = mj_E 181 42 (some (.ref v) :: ls) (.ref v :: st) σ τ := mj_nx i181_41 rfl
theorem i181_42 : mj_ins 181 42 = some (.iconst (-6), 44) := by decide +kernel
theorem e181_42 {ls : mj_L} {st : List Value} {σ : mj_S} {τ : mj_T} : mj_E 181 42 ls st σ τ = mj_E 181 44 ls (.int ((-6)) :: st) σ τ := mj_nx i181_42 rfl
theorem i181_44 : mj_ins 181 44 = some (.invokevirtual 117, 47) := by decide +kernel
theorem e181_44 {ls : mj_L} {σ : mj_S} {τ : mj_T} {r : Nat} {x0 : Int32} : mj_E 181 44 ls [.int x0, .ref r] σ τ = if mj_rcv r 7 = true then mj_bd (mj_C 117 [.ref r, .int x0] σ τ) (mj_K 181 47 ls []) else none := mj_clV (as := [.int x0]) (r := []) i181_44 (by decide +kernel : mj_vk 181 117 1 0 2 false = true) (by decide +kernel)
theorem i181_47 : mj_ins 181 47 = some (.ireturn, 48) := by decide +kernel
theorem e181_47 {ls : mj_L} {σ : mj_S} {τ : mj_T} {v : Int32} : mj_E 181 47 ls [.int v] σ τ = some (some (.int v), σ, τ) := mj_irt i181_47 rfl
theorem i181_48 : mj_ins 181 48 = some (.aload 0, 49) := by decide +kernel
theorem e181_48 {ls : mj_L} {st : List Value} {σ : mj_S} {τ : mj_T} {v : Nat} : mj_E 181 48 (some (.ref v) :: ls) st σ τ = mj_E 181 49 (some (.ref v) :: ls) (.ref v :: st) σ τ := mj_nx i181_48 rfl
theorem i181_49 : mj_ins 181 49 = some (.aload 0, 50) := by decide +kernel
theorem e181_49 {ls : mj_L} {st : List Value} {σ : mj_S} {τ : mj_T} {v : Nat} : mj_E 181 49 (some (.ref v) :: ls) st σ τ = mj_E 181 50 (some (.ref v) :: ls) (.ref v :: st) σ τ := mj_nx i181_49 rfl
theorem i181_50 : mj_ins 181 50 = some (.getfield 734, 53) := by decide +kernel
theorem e181_50 {ls : mj_L} {st : List Value} {σ : mj_S} {τ : mj_T} : mj_E 181 50 ls (.ref 62 :: st) σ τ = mj_E 181 53 ls (.ref 86 :: st) σ τ := mj_nx i181_50 rfl
theorem i181_53 : mj_ins 181 53 = some (.iconst (0), 54) := by decide +kernel
theorem e181_53 {ls : mj_L} {st : List Value} {σ : mj_S} {τ : mj_T} : mj_E 181 53 ls st σ τ = mj_E 181 54 ls (.int (nI 0) :: st) σ τ := mj_nx i181_53 rfl
theorem i181_54 : mj_ins 181 54 = some (.invokevirtual 152, 57) := by decide +kernel
theorem e181_54 {ls : mj_L} {σ : mj_S} {τ : mj_T} {r : Nat} {x0 : Nat} {x1 : Int32} : mj_E 181 54 ls [.int x1, .ref x0, .ref r] σ τ = if mj_rcv r 7 = true then mj_bd (mj_C 152 [.ref r, .ref x0, .int x1] σ τ) (mj_K 181 57 ls []) else none := mj_clV (as := [.ref x0, .int x1]) (r := []) i181_54 (by decide +kernel : mj_vk 181 152 2 0 3 false = true) (by decide +kernel)
theorem i181_57 : mj_ins 181 57 = some (.iconst (0), 58) := by decide +kernel
theorem e181_57 {ls : mj_L} {st : List Value} {σ : mj_S} {τ : mj_T} : mj_E 181 57 ls st σ τ = mj_E 181 58 ls (.int (nI 0) :: st) σ τ := mj_nx i181_57 rfl
theorem i181_58 : mj_ins 181 58 = some (.istore 4, 60) := by decide +kernel
theorem e181_58 {ls : mj_L} {st : List Value} {σ : mj_S} {τ : mj_T} {a0 a1 a2 a3 a4 : Option Value} {v : Int32} : mj_E 181 58 (a0 :: a1 :: a2 :: a3 :: a4 :: ls) (.int v :: st) σ τ = mj_E 181 60 (a0 :: a1 :: a2 :: a3 :: some (.int v) :: ls) st σ τ := mj_nx i181_58 rfl
theorem i181_60 : mj_ins 181 60 = some (.iload 4, 62) := by decide +kernel
theorem e181_60 {ls : mj_L} {st : List Value} {σ : mj_S} {τ : mj_T} {a0 a1 a2 a3 : Option Value} {v : Int32} : mj_E 181 60 (a0 :: a1 :: a2 :: a3 :: some (.int v) :: ls) st σ τ = mj_E 181 62 (a0 :: a1 :: a2 :: a3 :: some (.int v) :: ls) (.int v :: st) σ τ := mj_nx i181_60 rfl
theorem i181_62 : mj_ins 181 62 = some (.iload 2, 63) := by decide +kernel
theorem e181_62 {ls : mj_L} {st : List Value} {σ : mj_S} {τ : mj_T} {a0 a1 : Option Value} {v : Int32} : mj_E 181 62 (a0 :: a1 :: some (.int v) :: ls) st σ τ = mj_E 181 63 (a0 :: a1 :: some (.int v) :: ls) (.int v :: st) σ τ := mj_nx i181_62 rfl
theorem i181_63 : mj_ins 181 63 = some (.if_icmp .ge 76, 66) := by decide +kernel
theorem e181_63 {ls : mj_L} {st : List Value} {σ : mj_S} {τ : mj_T} {x y : Int32} : mj_E 181 63 ls (.int y :: .int x :: st) σ τ = if y ≤ x then mj_E 181 76 ls st σ τ else mj_E 181 66 ls st σ τ := (mj_ifi i181_63).trans (mj_cdT rfl)
theorem i181_66 : mj_ins 181 66 = some (.aload 0, 67) := by decide +kernel
theorem e181_66 {ls : mj_L} {st : List Value} {σ : mj_S} {τ : mj_T} {v : Nat} : mj_E 181 66 (some (.ref v) :: ls) st σ τ = mj_E 181 67 (some (.ref v) :: ls) (.ref v :: st) σ τ := mj_nx i181_66 rfl
theorem i181_67 : mj_ins 181 67 = some (.invokevirtual 180, 70) := by decide +kernel
theorem e181_67 {ls : mj_L} {σ : mj_S} {τ : mj_T} {r : Nat} : mj_E 181 67 ls [.ref r] σ τ = if mj_rcv r 7 = true then mj_bd (mj_C 180 [.ref r] σ τ) (mj_K 181 70 ls []) else none := mj_clV (as := []) (r := []) i181_67 (by decide +kernel : mj_vk 181 180 0 0 1 false = true) (by decide +kernel)
theorem i181_70 : mj_ins 181 70 = some (.iinc 4 (1), 73) := by decide +kernel
theorem e181_70 {ls : mj_L} {st : List Value} {σ : mj_S} {τ : mj_T} {a0 a1 a2 a3 : Option Value} {v : Int32} : mj_E 181 70 (a0 :: a1 :: a2 :: a3 :: some (.int v) :: ls) st σ τ = mj_E 181 73 (a0 :: a1 :: a2 :: a3 :: some (.int (v + nI 1)) :: ls) st σ τ := mj_nx i181_70 rfl
theorem i181_73 : mj_ins 181 73 = some (.goto 60, 76) := by decide +kernel
theorem e181_73 {ls : mj_L} {st : List Value} {σ : mj_S} {τ : mj_T} : mj_E 181 73 ls st σ τ = mj_E 181 60 ls st σ τ := mj_nx i181_73 rfl
theorem i181_76 : mj_ins 181 76 = some (.iload 3, 77) := by decide +kernel
theorem e181_76 {ls : mj_L} {st : List Value} {σ : mj_S} {τ : mj_T} {a0 a1 a2 : Option Value} {v : Int32} : mj_E 181 76 (a0 :: a1 :: a2 :: some (.int v) :: ls) st σ τ = mj_E 181 77 (a0 :: a1 :: a2 :: some (.int v) :: ls) (.int v :: st) σ τ := mj_nx i181_76 rfl
theorem i181_77 : mj_ins 181 77 = some (.ifCond .ne 88, 80) := by decide +kernel
theorem e181_77 {ls : mj_L} {st : List Value} {σ : mj_S} {τ : mj_T} {x : Int32} : mj_E 181 77 ls (.int x :: st) σ τ = if x = 0 then mj_E 181 80 ls st σ τ else mj_E 181 88 ls st σ τ := (mj_ifc i181_77).trans (mj_cdF rfl)
theorem i181_80 : mj_ins 181 80 = some (.aload 0, 81) := by decide +kernel
theorem e181_80 {ls : mj_L} {st : List Value} {σ : mj_S} {τ : mj_T} {v : Nat} : mj_E 181 80 (some (.ref v) :: ls) st σ τ = mj_E 181 81 (some (.ref v) :: ls) (.ref v :: st) σ τ := mj_nx i181_80 rfl
theorem i181_81 : mj_ins 181 81 = some (.iload 1, 82) := by decide +kernel
theorem e181_81 {ls : mj_L} {st : List Value} {σ : mj_S} {τ : mj_T} {a0 : Option Value} {v : Int32} : mj_E 181 81 (a0 :: some (.int v) :: ls) st σ τ = mj_E 181 82 (a0 :: some (.int v) :: ls) (.int v :: st) σ τ := mj_nx i181_81 rfl
theorem i181_82 : mj_ins 181 82 = some (.invokevirtual 141, 85) := by decide +kernel
theorem e181_82 {ls : mj_L} {σ : mj_S} {τ : mj_T} {r : Nat} {x0 : Int32} : mj_E 181 82 ls [.int x0, .ref r] σ τ = if mj_rcv r 7 = true then mj_bd (mj_C 141 [.ref r, .int x0] σ τ) (mj_K 181 85 ls []) else none := mj_clV (as := [.int x0]) (r := []) i181_82 (by decide +kernel : mj_vk 181 141 1 0 2 false = true) (by decide +kernel)
theorem i181_85 : mj_ins 181 85 = some (.goto 94, 88) := by decide +kernel
theorem e181_85 {ls : mj_L} {st : List Value} {σ : mj_S} {τ : mj_T} : mj_E 181 85 ls st σ τ = mj_E 181 94 ls st σ τ := mj_nx i181_85 rfl
theorem i181_88 : mj_ins 181 88 = some (.aload 0, 89) := by decide +kernel
theorem e181_88 {ls : mj_L} {st : List Value} {σ : mj_S} {τ : mj_T} {v : Nat} : mj_E 181 88 (some (.ref v) :: ls) st σ τ = mj_E 181 89 (some (.ref v) :: ls) (.ref v :: st) σ τ := mj_nx i181_88 rfl
theorem i181_89 : mj_ins 181 89 = some (.getfield 711, 92) := by decide +kernel
theorem e181_89 {ls : mj_L} {st : List Value} {σ : mj_S} {τ : mj_T} : mj_E 181 89 ls (.ref 62 :: st) σ τ = mj_E 181 92 ls (.ref 68 :: st) σ τ := mj_nx i181_89 rfl
theorem i181_92 : mj_ins 181 92 = some (.iload 1, 93) := by decide +kernel
theorem e181_92 {ls : mj_L} {st : List Value} {σ : mj_S} {τ : mj_T} {a0 : Option Value} {v : Int32} : mj_E 181 92 (a0 :: some (.int v) :: ls) st σ τ = mj_E 181 93 (a0 :: some (.int v) :: ls) (.int v :: st) σ τ := mj_nx i181_92 rfl
theorem i181_93 : mj_ins 181 93 = some (.iaload, 94) := by decide +kernel
theorem e181_93 {ls : mj_L} {st : List Value} {σ : mj_S} {τ : mj_T} {x : Int32} {k : Nat} : mj_E 181 93 ls (.int x :: .ref k :: st) σ τ = if mj_ib (mj_li σ k) x = true then mj_E 181 94 ls (.int (σ k x.toNatClampNeg) :: st) σ τ else none := mj_ald i181_93
theorem i181_94 : mj_ins 181 94 = some (.istore 4, 96) := by decide +kernel
theorem e181_94 {ls : mj_L} {st : List Value} {σ : mj_S} {τ : mj_T} {a0 a1 a2 a3 a4 : Option Value} {v : Int32} : mj_E 181 94 (a0 :: a1 :: a2 :: a3 :: a4 :: ls) (.int v :: st) σ τ = mj_E 181 96 (a0 :: a1 :: a2 :: a3 :: some (.int v) :: ls) st σ τ := mj_nx i181_94 rfl
theorem i181_96 : mj_ins 181 96 = some (.aload 0, 97) := by decide +kernel
theorem e181_96 {ls : mj_L} {st : List Value} {σ : mj_S} {τ : mj_T} {v : Nat} : mj_E 181 96 (some (.ref v) :: ls) st σ τ = mj_E 181 97 (some (.ref v) :: ls) (.ref v :: st) σ τ := mj_nx i181_96 rfl
theorem i181_97 : mj_ins 181 97 = some (.aload 0, 98) := by decide +kernel
theorem e181_97 {ls : mj_L} {st : List Value} {σ : mj_S} {τ : mj_T} {v : Nat} : mj_E 181 97 (some (.ref v) :: ls) st σ τ = mj_E 181 98 (some (.ref v) :: ls) (.ref v :: st) σ τ := mj_nx i181_97 rfl
theorem i181_98 : mj_ins 181 98 = some (.getfield 734, 101) := by decide +kernel
theorem e181_98 {ls : mj_L} {st : List Value} {σ : mj_S} {τ : mj_T} : mj_E 181 98 ls (.ref 62 :: st) σ τ = mj_E 181 101 ls (.ref 86 :: st) σ τ := mj_nx i181_98 rfl
theorem i181_101 : mj_ins 181 101 = some (.iconst (1), 102) := by decide +kernel
theorem e181_101 {ls : mj_L} {st : List Value} {σ : mj_S} {τ : mj_T} : mj_E 181 101 ls st σ τ = mj_E 181 102 ls (.int (nI 1) :: st) σ τ := mj_nx i181_101 rfl
theorem i181_102 : mj_ins 181 102 = some (.invokevirtual 152, 105) := by decide +kernel
theorem e181_102 {ls : mj_L} {σ : mj_S} {τ : mj_T} {r : Nat} {x0 : Nat} {x1 : Int32} : mj_E 181 102 ls [.int x1, .ref x0, .ref r] σ τ = if mj_rcv r 7 = true then mj_bd (mj_C 152 [.ref r, .ref x0, .int x1] σ τ) (mj_K 181 105 ls []) else none := mj_clV (as := [.ref x0, .int x1]) (r := []) i181_102 (by decide +kernel : mj_vk 181 152 2 0 3 false = true) (by decide +kernel)
theorem i181_105 : mj_ins 181 105 = some (.iload 4, 107) := by decide +kernel
theorem e181_105 {ls : mj_L} {st : List Value} {σ : mj_S} {τ : mj_T} {a0 a1 a2 a3 : Option Value} {v : Int32} : mj_E 181 105 (a0 :: a1 :: a2 :: a3 :: some (.int v) :: ls) st σ τ = mj_E 181 107 (a0 :: a1 :: a2 :: a3 :: some (.int v) :: ls) (.int v :: st) σ τ := mj_nx i181_105 rfl
theorem i181_107 : mj_ins 181 107 = some (.ireturn, 108) := by decide +kernel
theorem e181_107 {ls : mj_L} {σ : mj_S} {τ : mj_T} {v : Int32} : mj_E 181 107 ls [.int v] σ τ = some (some (.int v), σ, τ) := mj_irt i181_107 rfl
theorem c182 {σ : mj_S} {τ : mj_T} {r : Nat} {x0 : Int32} {x1 : Int32} : mj_C 182 [.ref r, .int x0, .int x1] σ τ = mj_E 182 0 [some (.ref r), some (.int x0), some (.int x1), none, none] [] σ τ := rfl
theorem i182_0 : mj_ins 182 0 = some (.aload 0, 1) := by decide +kernel
theorem e182_0 {ls : mj_L} {st : List Value} {σ : mj_S} {τ : mj_T} {v : Nat} : mj_E 182 0 (some (.ref v) :: ls) st σ τ = mj_E 182 1 (some (.ref v) :: ls) (.ref v :: st) σ τ := mj_nx i182_0 rfl
theorem i182_1 : mj_ins 182 1 = some (.iload 1, 2) := by decide +kernel
theorem e182_1 {ls : mj_L} {st : List Value} {σ : mj_S} {τ : mj_T} {a0 : Option Value} {v : Int32} : mj_E 182 1 (a0 :: some (.int v) :: ls) st σ τ = mj_E 182 2 (a0 :: some (.int v) :: ls) (.int v :: st) σ τ := mj_nx i182_1 rfl
theorem i182_2 : mj_ins 182 2 = some (.invokevirtual 119, 5) := by decide +kernel
theorem e182_2 {ls : mj_L} {σ : mj_S} {τ : mj_T} {r : Nat} {x0 : Int32} : mj_E 182 2 ls [.int x0, .ref r] σ τ = if mj_rcv r 7 = true then mj_bd (mj_C 119 [.ref r, .int x0] σ τ) (mj_K 182 5 ls []) else none := mj_clV (as := [.int x0]) (r := []) i182_2 (by decide +kernel : mj_vk 182 119 1 0 2 false = true) (by decide +kernel)
theorem i182_5 : mj_ins 182 5 = some (.ifCond .eq 16, 8) := by decide +kernel
theorem e182_5 {ls : mj_L} {st : List Value} {σ : mj_S} {τ : mj_T} {x : Int32} : mj_E 182 5 ls (.int x :: st) σ τ = if x = 0 then mj_E 182 16 ls st σ τ else mj_E 182 8 ls st σ τ := (mj_ifc i182_5).trans (mj_cdT rfl)
theorem i182_8 : mj_ins 182 8 = some (.aload 0, 9) := by decide +kernel
theorem e182_8 {ls : mj_L} {st : List Value} {σ : mj_S} {τ : mj_T} {v : Nat} : mj_E 182 8 (some (.ref v) :: ls) st σ τ = mj_E 182 9 (some (.ref v) :: ls) (.ref v :: st) σ τ := mj_nx i182_8 rfl
theorem i182_9 : mj_ins 182 9 = some (.iload 2, 10) := by decide +kernel
theorem e182_9 {ls : mj_L} {st : List Value} {σ : mj_S} {τ : mj_T} {a0 a1 : Option Value} {v : Int32} : mj_E 182 9 (a0 :: a1 :: some (.int v) :: ls) st σ τ = mj_E 182 10 (a0 :: a1 :: some (.int v) :: ls) (.int v :: st) σ τ := mj_nx i182_9 rfl
theorem i182_10 : mj_ins 182 10 = some (.invokevirtual 121, 13) := by decide +kernel
theorem e182_10 {ls : mj_L} {σ : mj_S} {τ : mj_T} {r : Nat} {x0 : Int32} : mj_E 182 10 ls [.int x0, .ref r] σ τ = if mj_rcv r 7 = true then mj_bd (mj_C 121 [.ref r, .int x0] σ τ) (mj_K 182 13 ls []) else none := mj_clV (as := [.int x0]) (r := []) i182_10 (by decide +kernel : mj_vk 182 121 1 0 2 false = true) (by decide +kernel)
theorem i182_13 : mj_ins 182 13 = some (.ifCond .ne 22, 16) := by decide +kernel
theorem e182_13 {ls : mj_L} {st : List Value} {σ : mj_S} {τ : mj_T} {x : Int32} : mj_E 182 13 ls (.int x :: st) σ τ = if x = 0 then mj_E 182 16 ls st σ τ else mj_E 182 22 ls st σ τ := (mj_ifc i182_13).trans (mj_cdF rfl)
theorem i182_16 : mj_ins 182 16 = some (.aload 0, 17) := by decide +kernel
theorem e182_16 {ls : mj_L} {st : List Value} {σ : mj_S} {τ : mj_T} {v : Nat} : mj_E 182 16 (some (.ref v) :: ls) st σ τ = mj_E 182 17 (some (.ref v) :: ls) (.ref v :: st) σ τ := mj_nx i182_16 rfl
theorem i182_17 : mj_ins 182 17 = some (.iconst (-1), 18) := by decide +kernel
theorem e182_17 {ls : mj_L} {st : List Value} {σ : mj_S} {τ : mj_T} : mj_E 182 17 ls st σ τ = mj_E 182 18 ls (.int ((-1)) :: st) σ τ := mj_nx i182_17 rfl
theorem i182_18 : mj_ins 182 18 = some (.invokevirtual 118, 21) := by decide +kernel
theorem e182_18 {ls : mj_L} {σ : mj_S} {τ : mj_T} {r : Nat} {x0 : Int32} : mj_E 182 18 ls [.int x0, .ref r] σ τ = if mj_rcv r 7 = true then mj_bd (mj_C 118 [.ref r, .int x0] σ τ) (mj_K 182 21 ls []) else none := mj_clV (as := [.int x0]) (r := []) i182_18 (by decide +kernel : mj_vk 182 118 1 0 2 false = true) (by decide +kernel)
theorem i182_21 : mj_ins 182 21 = some (.ireturn, 22) := by decide +kernel
theorem e182_21 {ls : mj_L} {σ : mj_S} {τ : mj_T} {v : Int32} : mj_E 182 21 ls [.int v] σ τ = some (some (.int v), σ, τ) := mj_irt i182_21 rfl
theorem i182_22 : mj_ins 182 22 = some (.aload 0, 23) := by decide +kernel
theorem e182_22 {ls : mj_L} {st : List Value} {σ : mj_S} {τ : mj_T} {v : Nat} : mj_E 182 22 (some (.ref v) :: ls) st σ τ = mj_E 182 23 (some (.ref v) :: ls) (.ref v :: st) σ τ := mj_nx i182_22 rfl
theorem i182_23 : mj_ins 182 23 = some (.iload 1, 24) := by decide +kernel
theorem e182_23 {ls : mj_L} {st : List Value} {σ : mj_S} {τ : mj_T} {a0 : Option Value} {v : Int32} : mj_E 182 23 (a0 :: some (.int v) :: ls) st σ τ = mj_E 182 24 (a0 :: some (.int v) :: ls) (.int v :: st) σ τ := mj_nx i182_23 rfl
theorem i182_24 : mj_ins 182 24 = some (.invokevirtual 130, 27) := by decide +kernel
theorem e182_24 {ls : mj_L} {σ : mj_S} {τ : mj_T} {r : Nat} {x0 : Int32} : mj_E 182 24 ls [.int x0, .ref r] σ τ = if mj_rcv r 7 = true then mj_bd (mj_C 130 [.ref r, .int x0] σ τ) (mj_K 182 27 ls []) else none := mj_clV (as := [.int x0]) (r := []) i182_24 (by decide +kernel : mj_vk 182 130 1 0 2 false = true) (by decide +kernel)
theorem i182_27 : mj_ins 182 27 = some (.istore 3, 28) := by decide +kernel
theorem e182_27 {ls : mj_L} {st : List Value} {σ : mj_S} {τ : mj_T} {a0 a1 a2 a3 : Option Value} {v : Int32} : mj_E 182 27 (a0 :: a1 :: a2 :: a3 :: ls) (.int v :: st) σ τ = mj_E 182 28 (a0 :: a1 :: a2 :: some (.int v) :: ls) st σ τ := mj_nx i182_27 rfl
theorem i182_28 : mj_ins 182 28 = some (.iload 3, 29) := by decide +kernel
theorem e182_28 {ls : mj_L} {st : List Value} {σ : mj_S} {τ : mj_T} {a0 a1 a2 : Option Value} {v : Int32} : mj_E 182 28 (a0 :: a1 :: a2 :: some (.int v) :: ls) st σ τ = mj_E 182 29 (a0 :: a1 :: a2 :: some (.int v) :: ls) (.int v :: st) σ τ := mj_nx i182_28 rfl
theorem i182_29 : mj_ins 182 29 = some (.ifCond .ne 45, 32) := by decide +kernel
theorem e182_29 {ls : mj_L} {st : List Value} {σ : mj_S} {τ : mj_T} {x : Int32} : mj_E 182 29 ls (.int x :: st) σ τ = if x = 0 then mj_E 182 32 ls st σ τ else mj_E 182 45 ls st σ τ := (mj_ifc i182_29).trans (mj_cdF rfl)
theorem i182_32 : mj_ins 182 32 = some (.aload 0, 33) := by decide +kernel
theorem e182_32 {ls : mj_L} {st : List Value} {σ : mj_S} {τ : mj_T} {v : Nat} : mj_E 182 32 (some (.ref v) :: ls) st σ τ = mj_E 182 33 (some (.ref v) :: ls) (.ref v :: st) σ τ := mj_nx i182_32 rfl
theorem i182_33 : mj_ins 182 33 = some (.getfield 719, 36) := by decide +kernel
theorem e182_33 {ls : mj_L} {st : List Value} {σ : mj_S} {τ : mj_T} : mj_E 182 33 ls (.ref 62 :: st) σ τ = mj_E 182 36 ls (.ref 76 :: st) σ τ := mj_nx i182_33 rfl
theorem i182_36 : mj_ins 182 36 = some (.iload 1, 37) := by decide +kernel
theorem e182_36 {ls : mj_L} {st : List Value} {σ : mj_S} {τ : mj_T} {a0 : Option Value} {v : Int32} : mj_E 182 36 (a0 :: some (.int v) :: ls) st σ τ = mj_E 182 37 (a0 :: some (.int v) :: ls) (.int v :: st) σ τ := mj_nx i182_36 rfl
theorem i182_37 : mj_ins 182 37 = some (.iaload, 38) := by decide +kernel
theorem e182_37 {ls : mj_L} {st : List Value} {σ : mj_S} {τ : mj_T} {x : Int32} {k : Nat} : mj_E 182 37 ls (.int x :: .ref k :: st) σ τ = if mj_ib (mj_li σ k) x = true then mj_E 182 38 ls (.int (σ k x.toNatClampNeg) :: st) σ τ else none := mj_ald i182_37
theorem i182_38 : mj_ins 182 38 = some (.iconst (3), 39) := by decide +kernel
theorem e182_38 {ls : mj_L} {st : List Value} {σ : mj_S} {τ : mj_T} : mj_E 182 38 ls st σ τ = mj_E 182 39 ls (.int (nI 3) :: st) σ τ := mj_nx i182_38 rfl
theorem i182_39 : mj_ins 182 39 = some (.if_icmp .ge 45, 42) := by decide +kernel
theorem e182_39 {ls : mj_L} {st : List Value} {σ : mj_S} {τ : mj_T} {x y : Int32} : mj_E 182 39 ls (.int y :: .int x :: st) σ τ = if y ≤ x then mj_E 182 45 ls st σ τ else mj_E 182 42 ls st σ τ := (mj_ifi i182_39).trans (mj_cdT rfl)
theorem i182_42 : mj_ins 182 42 = some (.iconst (-5), 44) := by decide +kernel
theorem e182_42 {ls : mj_L} {st : List Value} {σ : mj_S} {τ : mj_T} : mj_E 182 42 ls st σ τ = mj_E 182 44 ls (.int ((-5)) :: st) σ τ := mj_nx i182_42 rfl
theorem i182_44 : mj_ins 182 44 = some (.istore 3, 45) := by decide +kernel
theorem e182_44 {ls : mj_L} {st : List Value} {σ : mj_S} {τ : mj_T} {a0 a1 a2 a3 : Option Value} {v : Int32} : mj_E 182 44 (a0 :: a1 :: a2 :: a3 :: ls) (.int v :: st) σ τ = mj_E 182 45 (a0 :: a1 :: a2 :: some (.int v) :: ls) st σ τ := mj_nx i182_44 rfl
theorem i182_45 : mj_ins 182 45 = some (.iload 3, 46) := by decide +kernel
theorem e182_45 {ls : mj_L} {st : List Value} {σ : mj_S} {τ : mj_T} {a0 a1 a2 : Option Value} {v : Int32} : mj_E 182 45 (a0 :: a1 :: a2 :: some (.int v) :: ls) st σ τ = mj_E 182 46 (a0 :: a1 :: a2 :: some (.int v) :: ls) (.int v :: st) σ τ := mj_nx i182_45 rfl
theorem i182_46 : mj_ins 182 46 = some (.ifCond .eq 55, 49) := by decide +kernel
theorem e182_46 {ls : mj_L} {st : List Value} {σ : mj_S} {τ : mj_T} {x : Int32} : mj_E 182 46 ls (.int x :: st) σ τ = if x = 0 then mj_E 182 55 ls st σ τ else mj_E 182 49 ls st σ τ := (mj_ifc i182_46).trans (mj_cdT rfl)
theorem i182_49 : mj_ins 182 49 = some (.aload 0, 50) := by decide +kernel
theorem e182_49 {ls : mj_L} {st : List Value} {σ : mj_S} {τ : mj_T} {v : Nat} : mj_E 182 49 (some (.ref v) :: ls) st σ τ = mj_E 182 50 (some (.ref v) :: ls) (.ref v :: st) σ τ := mj_nx i182_49 rfl
theorem i182_50 : mj_ins 182 50 = some (.iload 3, 51) := by decide +kernel
theorem e182_50 {ls : mj_L} {st : List Value} {σ : mj_S} {τ : mj_T} {a0 a1 a2 : Option Value} {v : Int32} : mj_E 182 50 (a0 :: a1 :: a2 :: some (.int v) :: ls) st σ τ = mj_E 182 51 (a0 :: a1 :: a2 :: some (.int v) :: ls) (.int v :: st) σ τ := mj_nx i182_50 rfl
theorem i182_51 : mj_ins 182 51 = some (.invokevirtual 118, 54) := by decide +kernel
theorem e182_51 {ls : mj_L} {σ : mj_S} {τ : mj_T} {r : Nat} {x0 : Int32} : mj_E 182 51 ls [.int x0, .ref r] σ τ = if mj_rcv r 7 = true then mj_bd (mj_C 118 [.ref r, .int x0] σ τ) (mj_K 182 54 ls []) else none := mj_clV (as := [.int x0]) (r := []) i182_51 (by decide +kernel : mj_vk 182 118 1 0 2 false = true) (by decide +kernel)
theorem i182_54 : mj_ins 182 54 = some (.ireturn, 55) := by decide +kernel
theorem e182_54 {ls : mj_L} {σ : mj_S} {τ : mj_T} {v : Int32} : mj_E 182 54 ls [.int v] σ τ = some (some (.int v), σ, τ) := mj_irt i182_54 rfl
theorem i182_55 : mj_ins 182 55 = some (.aload 0, 56) := by decide +kernel
theorem e182_55 {ls : mj_L} {st : List Value} {σ : mj_S} {τ : mj_T} {v : Nat} : mj_E 182 55 (some (.ref v) :: ls) st σ τ = mj_E 182 56 (some (.ref v) :: ls) (.ref v :: st) σ τ := mj_nx i182_55 rfl
theorem i182_56 : mj_ins 182 56 = some (.iload 2, 57) := by decide +kernel
theorem e182_56 {ls : mj_L} {st : List Value} {σ : mj_S} {τ : mj_T} {a0 a1 : Option Value} {v : Int32} : mj_E 182 56 (a0 :: a1 :: some (.int v) :: ls) st σ τ = mj_E 182 57 (a0 :: a1 :: some (.int v) :: ls) (.int v :: st) σ τ := mj_nx i182_56 rfl
theorem i182_57 : mj_ins 182 57 = some (.invokevirtual 157, 60) := by decide +kernel
theorem e182_57 {ls : mj_L} {σ : mj_S} {τ : mj_T} {r : Nat} {x0 : Int32} : mj_E 182 57 ls [.int x0, .ref r] σ τ = if mj_rcv r 7 = true then mj_bd (mj_C 157 [.ref r, .int x0] σ τ) (mj_K 182 60 ls []) else none := mj_clV (as := [.int x0]) (r := []) i182_57 (by decide +kernel : mj_vk 182 157 1 0 2 false = true) (by decide +kernel)
theorem i182_60 : mj_ins 182 60 = some (.iconst (0), 61) := by decide +kernel
theorem e182_60 {ls : mj_L} {st : List Value} {σ : mj_S} {τ : mj_T} : mj_E 182 60 ls st σ τ = mj_E 182 61 ls (.int (nI 0) :: st) σ τ := mj_nx i182_60 rfl
theorem i182_61 : mj_ins 182 61 = some (.istore 4, 63) := by decide +kernel
theorem e182_61 {ls : mj_L} {st : List Value} {σ : mj_S} {τ : mj_T} {a0 a1 a2 a3 a4 : Option Value} {v : Int32} : mj_E 182 61 (a0 :: a1 :: a2 :: a3 :: a4 :: ls) (.int v :: st) σ τ = mj_E 182 63 (a0 :: a1 :: a2 :: a3 :: some (.int v) :: ls) st σ τ := mj_nx i182_61 rfl
theorem i182_63 : mj_ins 182 63 = some (.iload 4, 65) := by decide +kernel
theorem e182_63 {ls : mj_L} {st : List Value} {σ : mj_S} {τ : mj_T} {a0 a1 a2 a3 : Option Value} {v : Int32} : mj_E 182 63 (a0 :: a1 :: a2 :: a3 :: some (.int v) :: ls) st σ τ = mj_E 182 65 (a0 :: a1 :: a2 :: a3 :: some (.int v) :: ls) (.int v :: st) σ τ := mj_nx i182_63 rfl
theorem i182_65 : mj_ins 182 65 = some (.iconst (3), 66) := by decide +kernel
theorem e182_65 {ls : mj_L} {st : List Value} {σ : mj_S} {τ : mj_T} : mj_E 182 65 ls st σ τ = mj_E 182 66 ls (.int (nI 3) :: st) σ τ := mj_nx i182_65 rfl
theorem i182_66 : mj_ins 182 66 = some (.if_icmp .ge 94, 69) := by decide +kernel
theorem e182_66 {ls : mj_L} {st : List Value} {σ : mj_S} {τ : mj_T} {x y : Int32} : mj_E 182 66 ls (.int y :: .int x :: st) σ τ = if y ≤ x then mj_E 182 94 ls st σ τ else mj_E 182 69 ls st σ τ := (mj_ifi i182_66).trans (mj_cdT rfl)
theorem i182_69 : mj_ins 182 69 = some (.aload 0, 70) := by decide +kernel
theorem e182_69 {ls : mj_L} {st : List Value} {σ : mj_S} {τ : mj_T} {v : Nat} : mj_E 182 69 (some (.ref v) :: ls) st σ τ = mj_E 182 70 (some (.ref v) :: ls) (.ref v :: st) σ τ := mj_nx i182_69 rfl
theorem i182_70 : mj_ins 182 70 = some (.iload 1, 71) := by decide +kernel
theorem e182_70 {ls : mj_L} {st : List Value} {σ : mj_S} {τ : mj_T} {a0 : Option Value} {v : Int32} : mj_E 182 70 (a0 :: some (.int v) :: ls) st σ τ = mj_E 182 71 (a0 :: some (.int v) :: ls) (.int v :: st) σ τ := mj_nx i182_70 rfl
theorem i182_71 : mj_ins 182 71 = some (.iload 4, 73) := by decide +kernel
theorem e182_71 {ls : mj_L} {st : List Value} {σ : mj_S} {τ : mj_T} {a0 a1 a2 a3 : Option Value} {v : Int32} : mj_E 182 71 (a0 :: a1 :: a2 :: a3 :: some (.int v) :: ls) st σ τ = mj_E 182 73 (a0 :: a1 :: a2 :: a3 :: some (.int v) :: ls) (.int v :: st) σ τ := mj_nx i182_71 rfl
theorem i182_73 : mj_ins 182 73 = some (.invokevirtual 131, 76) := by decide +kernel
theorem e182_73 {ls : mj_L} {σ : mj_S} {τ : mj_T} {r : Nat} {x0 : Int32} {x1 : Int32} : mj_E 182 73 ls [.int x1, .int x0, .ref r] σ τ = if mj_rcv r 7 = true then mj_bd (mj_C 131 [.ref r, .int x0, .int x1] σ τ) (mj_K 182 76 ls []) else none := mj_clV (as := [.int x0, .int x1]) (r := []) i182_73 (by decide +kernel : mj_vk 182 131 2 0 3 false = true) (by decide +kernel)
theorem i182_76 : mj_ins 182 76 = some (.aload 0, 77) := by decide +kernel
theorem e182_76 {ls : mj_L} {st : List Value} {σ : mj_S} {τ : mj_T} {v : Nat} : mj_E 182 76 (some (.ref v) :: ls) st σ τ = mj_E 182 77 (some (.ref v) :: ls) (.ref v :: st) σ τ := mj_nx i182_76 rfl
theorem i182_77 : mj_ins 182 77 = some (.iload 4, 79) := by decide +kernel
theorem e182_77 {ls : mj_L} {st : List Value} {σ : mj_S} {τ : mj_T} {a0 a1 a2 a3 : Option Value} {v : Int32} : mj_E 182 77 (a0 :: a1 :: a2 :: a3 :: some (.int v) :: ls) st σ τ = mj_E 182 79 (a0 :: a1 :: a2 :: a3 :: some (.int v) :: ls) (.int v :: st) σ τ := mj_nx i182_77 rfl
theorem i182_79 : mj_ins 182 79 = some (.invokevirtual 159, 82) := by decide +kernel
theorem e182_79 {ls : mj_L} {σ : mj_S} {τ : mj_T} {r : Nat} {x0 : Int32} {w0 : Value} : mj_E 182 79 ls [.int x0, .ref r, w0] σ τ = if mj_rcv r 7 = true then mj_bd (mj_C 159 [.ref r, .int x0] σ τ) (mj_K 182 82 ls [w0]) else none := mj_clV (as := [.int x0]) (r := [w0]) i182_79 (by decide +kernel : mj_vk 182 159 1 1 2 false = true) (by decide +kernel)
theorem i182_82 : mj_ins 182 82 = some (.if_icmp .eq 88, 85) := by decide +kernel
theorem e182_82 {ls : mj_L} {st : List Value} {σ : mj_S} {τ : mj_T} {x y : Int32} : mj_E 182 82 ls (.int y :: .int x :: st) σ τ = if x = y then mj_E 182 88 ls st σ τ else mj_E 182 85 ls st σ τ := (mj_ifi i182_82).trans (mj_cdT rfl)
theorem i182_85 : mj_ins 182 85 = some (.iload 4, 87) := by decide +kernel
theorem e182_85 {ls : mj_L} {st : List Value} {σ : mj_S} {τ : mj_T} {a0 a1 a2 a3 : Option Value} {v : Int32} : mj_E 182 85 (a0 :: a1 :: a2 :: a3 :: some (.int v) :: ls) st σ τ = mj_E 182 87 (a0 :: a1 :: a2 :: a3 :: some (.int v) :: ls) (.int v :: st) σ τ := mj_nx i182_85 rfl
theorem i182_87 : mj_ins 182 87 = some (.ireturn, 88) := by decide +kernel
theorem e182_87 {ls : mj_L} {σ : mj_S} {τ : mj_T} {v : Int32} : mj_E 182 87 ls [.int v] σ τ = some (some (.int v), σ, τ) := mj_irt i182_87 rfl
theorem i182_88 : mj_ins 182 88 = some (.iinc 4 (1), 91) := by decide +kernel
theorem e182_88 {ls : mj_L} {st : List Value} {σ : mj_S} {τ : mj_T} {a0 a1 a2 a3 : Option Value} {v : Int32} : mj_E 182 88 (a0 :: a1 :: a2 :: a3 :: some (.int v) :: ls) st σ τ = mj_E 182 91 (a0 :: a1 :: a2 :: a3 :: some (.int (v + nI 1)) :: ls) st σ τ := mj_nx i182_88 rfl
theorem i182_91 : mj_ins 182 91 = some (.goto 63, 94) := by decide +kernel
theorem e182_91 {ls : mj_L} {st : List Value} {σ : mj_S} {τ : mj_T} : mj_E 182 91 ls st σ τ = mj_E 182 63 ls st σ τ := mj_nx i182_91 rfl
theorem i182_94 : mj_ins 182 94 = some (.iconst (-1), 95) := by decide +kernel
theorem e182_94 {ls : mj_L} {st : List Value} {σ : mj_S} {τ : mj_T} : mj_E 182 94 ls st σ τ = mj_E 182 95 ls (.int ((-1)) :: st) σ τ := mj_nx i182_94 rfl
theorem i182_95 : mj_ins 182 95 = some (.ireturn, 96) := by decide +kernel
theorem e182_95 {ls : mj_L} {σ : mj_S} {τ : mj_T} {v : Int32} : mj_E 182 95 ls [.int v] σ τ = some (some (.int v), σ, τ) := mj_irt i182_95 rfl
theorem c183 {σ : mj_S} {τ : mj_T} {r : Nat} {x0 : Int32} : mj_C 183 [.ref r, .int x0] σ τ = mj_E 183 0 [some (.ref r), some (.int x0)] [] σ τ := rfl
theorem i183_0 : mj_ins 183 0 = some (.aload 0, 1) := by decide +kernel
theorem e183_0 {ls : mj_L} {st : List Value} {σ : mj_S} {τ : mj_T} {v : Nat} : mj_E 183 0 (some (.ref v) :: ls) st σ τ = mj_E 183 1 (some (.ref v) :: ls) (.ref v :: st) σ τ := mj_nx i183_0 rfl
theorem i183_1 : mj_ins 183 1 = some (.iload 1, 2) := by decide +kernel
theorem e183_1 {ls : mj_L} {st : List Value} {σ : mj_S} {τ : mj_T} {a0 : Option Value} {v : Int32} : mj_E 183 1 (a0 :: some (.int v) :: ls) st σ τ = mj_E 183 2 (a0 :: some (.int v) :: ls) (.int v :: st) σ τ := mj_nx i183_1 rfl
theorem i183_2 : mj_ins 183 2 = some (.invokevirtual 121, 5) := by decide +kernel
theorem e183_2 {ls : mj_L} {σ : mj_S} {τ : mj_T} {r : Nat} {x0 : Int32} : mj_E 183 2 ls [.int x0, .ref r] σ τ = if mj_rcv r 7 = true then mj_bd (mj_C 121 [.ref r, .int x0] σ τ) (mj_K 183 5 ls []) else none := mj_clV (as := [.int x0]) (r := []) i183_2 (by decide +kernel : mj_vk 183 121 1 0 2 false = true) (by decide +kernel)
theorem i183_5 : mj_ins 183 5 = some (.ifCond .ne 14, 8) := by decide +kernel
theorem e183_5 {ls : mj_L} {st : List Value} {σ : mj_S} {τ : mj_T} {x : Int32} : mj_E 183 5 ls (.int x :: st) σ τ = if x = 0 then mj_E 183 8 ls st σ τ else mj_E 183 14 ls st σ τ := (mj_ifc i183_5).trans (mj_cdF rfl)
theorem i183_8 : mj_ins 183 8 = some (.aload 0, 9) := by decide +kernel
theorem e183_8 {ls : mj_L} {st : List Value} {σ : mj_S} {τ : mj_T} {v : Nat} : mj_E 183 8 (some (.ref v) :: ls) st σ τ = mj_E 183 9 (some (.ref v) :: ls) (.ref v :: st) σ τ := mj_nx i183_8 rfl
theorem i183_9 : mj_ins 183 9 = some (.iconst (-1), 10) := by decide +kernel
theorem e183_9 {ls : mj_L} {st : List Value} {σ : mj_S} {τ : mj_T} : mj_E 183 9 ls st σ τ = mj_E 183 10 ls (.int ((-1)) :: st) σ τ := mj_nx i183_9 rfl
theorem i183_10 : mj_ins 183 10 = some (.invokevirtual 118, 13) := by decide +kernel
theorem e183_10 {ls : mj_L} {σ : mj_S} {τ : mj_T} {r : Nat} {x0 : Int32} : mj_E 183 10 ls [.int x0, .ref r] σ τ = if mj_rcv r 7 = true then mj_bd (mj_C 118 [.ref r, .int x0] σ τ) (mj_K 183 13 ls []) else none := mj_clV (as := [.int x0]) (r := []) i183_10 (by decide +kernel : mj_vk 183 118 1 0 2 false = true) (by decide +kernel)
theorem i183_13 : mj_ins 183 13 = some (.ireturn, 14) := by decide +kernel
theorem e183_13 {ls : mj_L} {σ : mj_S} {τ : mj_T} {v : Int32} : mj_E 183 13 ls [.int v] σ τ = some (some (.int v), σ, τ) := mj_irt i183_13 rfl
theorem i183_14 : mj_ins 183 14 = some (.aload 0, 15) := by decide +kernel
theorem e183_14 {ls : mj_L} {st : List Value} {σ : mj_S} {τ : mj_T} {v : Nat} : mj_E 183 14 (some (.ref v) :: ls) st σ τ = mj_E 183 15 (some (.ref v) :: ls) (.ref v :: st) σ τ := mj_nx i183_14 rfl
theorem i183_15 : mj_ins 183 15 = some (.getfield 714, 18) := by decide +kernel
theorem e183_15 {ls : mj_L} {st : List Value} {σ : mj_S} {τ : mj_T} : mj_E 183 15 ls (.ref 62 :: st) σ τ = mj_E 183 18 ls (.ref 71 :: st) σ τ := mj_nx i183_15 rfl
theorem i183_18 : mj_ins 183 18 = some (.iload 1, 19) := by decide +kernel
theorem e183_18 {ls : mj_L} {st : List Value} {σ : mj_S} {τ : mj_T} {a0 : Option Value} {v : Int32} : mj_E 183 18 (a0 :: some (.int v) :: ls) st σ τ = mj_E 183 19 (a0 :: some (.int v) :: ls) (.int v :: st) σ τ := mj_nx i183_18 rfl
theorem i183_19 : mj_ins 183 19 = some (.iaload, 20) := by decide +kernel
theorem e183_19 {ls : mj_L} {st : List Value} {σ : mj_S} {τ : mj_T} {x : Int32} {k : Nat} : mj_E 183 19 ls (.int x :: .ref k :: st) σ τ = if mj_ib (mj_li σ k) x = true then mj_E 183 20 ls (.int (σ k x.toNatClampNeg) :: st) σ τ else none := mj_ald i183_19
theorem i183_20 : mj_ins 183 20 = some (.iconst (9), 22) := by decide +kernel
theorem e183_20 {ls : mj_L} {st : List Value} {σ : mj_S} {τ : mj_T} : mj_E 183 20 ls st σ τ = mj_E 183 22 ls (.int (nI 9) :: st) σ τ := mj_nx i183_20 rfl
theorem i183_22 : mj_ins 183 22 = some (.if_icmp .ge 37, 25) := by decide +kernel
theorem e183_22 {ls : mj_L} {st : List Value} {σ : mj_S} {τ : mj_T} {x y : Int32} : mj_E 183 22 ls (.int y :: .int x :: st) σ τ = if y ≤ x then mj_E 183 37 ls st σ τ else mj_E 183 25 ls st σ τ := (mj_ifi i183_22).trans (mj_cdT rfl)
theorem i183_25 : mj_ins 183 25 = some (.iconst (9), 27) := by decide +kernel
theorem e183_25 {ls : mj_L} {st : List Value} {σ : mj_S} {τ : mj_T} : mj_E 183 25 ls st σ τ = mj_E 183 27 ls (.int (nI 9) :: st) σ τ := mj_nx i183_25 rfl
theorem i183_27 : mj_ins 183 27 = some (.aload 0, 28) := by decide +kernel
theorem e183_27 {ls : mj_L} {st : List Value} {σ : mj_S} {τ : mj_T} {v : Nat} : mj_E 183 27 (some (.ref v) :: ls) st σ τ = mj_E 183 28 (some (.ref v) :: ls) (.ref v :: st) σ τ := mj_nx i183_27 rfl
theorem i183_28 : mj_ins 183 28 = some (.getfield 714, 31) := by decide +kernel
theorem e183_28 {ls : mj_L} {st : List Value} {σ : mj_S} {τ : mj_T} : mj_E 183 28 ls (.ref 62 :: st) σ τ = mj_E 183 31 ls (.ref 71 :: st) σ τ := mj_nx i183_28 rfl
theorem i183_31 : mj_ins 183 31 = some (.iload 1, 32) := by decide +kernel
theorem e183_31 {ls : mj_L} {st : List Value} {σ : mj_S} {τ : mj_T} {a0 : Option Value} {v : Int32} : mj_E 183 31 (a0 :: some (.int v) :: ls) st σ τ = mj_E 183 32 (a0 :: some (.int v) :: ls) (.int v :: st) σ τ := mj_nx i183_31 rfl
theorem i183_32 : mj_ins 183 32 = some (.iaload, 33) := by decide +kernel
theorem e183_32 {ls : mj_L} {st : List Value} {σ : mj_S} {τ : mj_T} {x : Int32} {k : Nat} : mj_E 183 32 ls (.int x :: .ref k :: st) σ τ = if mj_ib (mj_li σ k) x = true then mj_E 183 33 ls (.int (σ k x.toNatClampNeg) :: st) σ τ else none := mj_ald i183_32
theorem i183_33 : mj_ins 183 33 = some (.isub, 34) := by decide +kernel
theorem e183_33 {ls : mj_L} {st : List Value} {σ : mj_S} {τ : mj_T} {x y : Int32} : mj_E 183 33 ls (.int y :: .int x :: st) σ τ = mj_E 183 34 ls (.int (x - y) :: st) σ τ := mj_nx i183_33 rfl
theorem i183_34 : mj_ins 183 34 = some (.goto 38, 37) := by decide +kernel
theorem e183_34 {ls : mj_L} {st : List Value} {σ : mj_S} {τ : mj_T} : mj_E 183 34 ls st σ τ = mj_E 183 38 ls st σ τ := mj_nx i183_34 rfl
theorem i183_37 : mj_ins 183 37 = some (.iconst (-1), 38) := by decide +kernel
theorem e183_37 {ls : mj_L} {st : List Value} {σ : mj_S} {τ : mj_T} : mj_E 183 37 ls st σ τ = mj_E 183 38 ls (.int ((-1)) :: st) σ τ := mj_nx i183_37 rfl
theorem i183_38 : mj_ins 183 38 = some (.ireturn, 39) := by decide +kernel
theorem e183_38 {ls : mj_L} {σ : mj_S} {τ : mj_T} {v : Int32} : mj_E 183 38 ls [.int v] σ τ = some (some (.int v), σ, τ) := mj_irt i183_38 rfl
theorem c184 {σ : mj_S} {τ : mj_T} {r : Nat} {x0 : Int32} : mj_C 184 [.ref r, .int x0] σ τ = mj_E 184 0 [some (.ref r), some (.int x0), none] [] σ τ := rfl
theorem i184_0 : mj_ins 184 0 = some (.aload 0, 1) := by decide +kernel
theorem e184_0 {ls : mj_L} {st : List Value} {σ : mj_S} {τ : mj_T} {v : Nat} : mj_E 184 0 (some (.ref v) :: ls) st σ τ = mj_E 184 1 (some (.ref v) :: ls) (.ref v :: st) σ τ := mj_nx i184_0 rfl
theorem i184_1 : mj_ins 184 1 = some (.iload 1, 2) := by decide +kernel
theorem e184_1 {ls : mj_L} {st : List Value} {σ : mj_S} {τ : mj_T} {a0 : Option Value} {v : Int32} : mj_E 184 1 (a0 :: some (.int v) :: ls) st σ τ = mj_E 184 2 (a0 :: some (.int v) :: ls) (.int v :: st) σ τ := mj_nx i184_1 rfl
theorem i184_2 : mj_ins 184 2 = some (.invokevirtual 121, 5) := by decide +kernel
theorem e184_2 {ls : mj_L} {σ : mj_S} {τ : mj_T} {r : Nat} {x0 : Int32} : mj_E 184 2 ls [.int x0, .ref r] σ τ = if mj_rcv r 7 = true then mj_bd (mj_C 121 [.ref r, .int x0] σ τ) (mj_K 184 5 ls []) else none := mj_clV (as := [.int x0]) (r := []) i184_2 (by decide +kernel : mj_vk 184 121 1 0 2 false = true) (by decide +kernel)
theorem i184_5 : mj_ins 184 5 = some (.ifCond .ne 14, 8) := by decide +kernel
theorem e184_5 {ls : mj_L} {st : List Value} {σ : mj_S} {τ : mj_T} {x : Int32} : mj_E 184 5 ls (.int x :: st) σ τ = if x = 0 then mj_E 184 8 ls st σ τ else mj_E 184 14 ls st σ τ := (mj_ifc i184_5).trans (mj_cdF rfl)
theorem i184_8 : mj_ins 184 8 = some (.aload 0, 9) := by decide +kernel
theorem e184_8 {ls : mj_L} {st : List Value} {σ : mj_S} {τ : mj_T} {v : Nat} : mj_E 184 8 (some (.ref v) :: ls) st σ τ = mj_E 184 9 (some (.ref v) :: ls) (.ref v :: st) σ τ := mj_nx i184_8 rfl
theorem i184_9 : mj_ins 184 9 = some (.iconst (-1), 10) := by decide +kernel
theorem e184_9 {ls : mj_L} {st : List Value} {σ : mj_S} {τ : mj_T} : mj_E 184 9 ls st σ τ = mj_E 184 10 ls (.int ((-1)) :: st) σ τ := mj_nx i184_9 rfl
theorem i184_10 : mj_ins 184 10 = some (.invokevirtual 117, 13) := by decide +kernel
theorem e184_10 {ls : mj_L} {σ : mj_S} {τ : mj_T} {r : Nat} {x0 : Int32} : mj_E 184 10 ls [.int x0, .ref r] σ τ = if mj_rcv r 7 = true then mj_bd (mj_C 117 [.ref r, .int x0] σ τ) (mj_K 184 13 ls []) else none := mj_clV (as := [.int x0]) (r := []) i184_10 (by decide +kernel : mj_vk 184 117 1 0 2 false = true) (by decide +kernel)
theorem i184_13 : mj_ins 184 13 = some (.ireturn, 14) := by decide +kernel
theorem e184_13 {ls : mj_L} {σ : mj_S} {τ : mj_T} {v : Int32} : mj_E 184 13 ls [.int v] σ τ = some (some (.int v), σ, τ) := mj_irt i184_13 rfl
theorem i184_14 : mj_ins 184 14 = some (.aload 0, 15) := by decide +kernel
theorem e184_14 {ls : mj_L} {st : List Value} {σ : mj_S} {τ : mj_T} {v : Nat} : mj_E 184 14 (some (.ref v) :: ls) st σ τ = mj_E 184 15 (some (.ref v) :: ls) (.ref v :: st) σ τ := mj_nx i184_14 rfl
theorem i184_15 : mj_ins 184 15 = some (.iload 1, 16) := by decide +kernel
theorem e184_15 {ls : mj_L} {st : List Value} {σ : mj_S} {τ : mj_T} {a0 : Option Value} {v : Int32} : mj_E 184 15 (a0 :: some (.int v) :: ls) st σ τ = mj_E 184 16 (a0 :: some (.int v) :: ls) (.int v :: st) σ τ := mj_nx i184_15 rfl
theorem i184_16 : mj_ins 184 16 = some (.invokevirtual 179, 19) := by decide +kernel
theorem e184_16 {ls : mj_L} {σ : mj_S} {τ : mj_T} {r : Nat} {x0 : Int32} : mj_E 184 16 ls [.int x0, .ref r] σ τ = if mj_rcv r 7 = true then mj_bd (mj_C 179 [.ref r, .int x0] σ τ) (mj_K 184 19 ls []) else none := mj_clV (as := [.int x0]) (r := []) i184_16 (by decide +kernel : mj_vk 184 179 1 0 2 false = true) (by decide +kernel)
theorem i184_19 : mj_ins 184 19 = some (.istore 2, 20) := by decide +kernel
theorem e184_19 {ls : mj_L} {st : List Value} {σ : mj_S} {τ : mj_T} {a0 a1 a2 : Option Value} {v : Int32} : mj_E 184 19 (a0 :: a1 :: a2 :: ls) (.int v :: st) σ τ = mj_E 184 20 (a0 :: a1 :: some (.int v) :: ls) st σ τ := mj_nx i184_19 rfl
theorem i184_20 : mj_ins 184 20 = some (.iload 2, 21) := by decide +kernel
theorem e184_20 {ls : mj_L} {st : List Value} {σ : mj_S} {τ : mj_T} {a0 a1 : Option Value} {v : Int32} : mj_E 184 20 (a0 :: a1 :: some (.int v) :: ls) st σ τ = mj_E 184 21 (a0 :: a1 :: some (.int v) :: ls) (.int v :: st) σ τ := mj_nx i184_20 rfl
theorem i184_21 : mj_ins 184 21 = some (.iconst (-1), 22) := by decide +kernel
theorem e184_21 {ls : mj_L} {st : List Value} {σ : mj_S} {τ : mj_T} : mj_E 184 21 ls st σ τ = mj_E 184 22 ls (.int ((-1)) :: st) σ τ := mj_nx i184_21 rfl
theorem i184_22 : mj_ins 184 22 = some (.if_icmp .ne 34, 25) := by decide +kernel
theorem e184_22 {ls : mj_L} {st : List Value} {σ : mj_S} {τ : mj_T} {x y : Int32} : mj_E 184 22 ls (.int y :: .int x :: st) σ τ = if x = y then mj_E 184 25 ls st σ τ else mj_E 184 34 ls st σ τ := (mj_ifi i184_22).trans (mj_cdF rfl)
theorem i184_25 : mj_ins 184 25 = some (.aload 0, 26) := by decide +kernel
theorem e184_25 {ls : mj_L} {st : List Value} {σ : mj_S} {τ : mj_T} {v : Nat} : mj_E 184 25 (some (.ref v) :: ls) st σ τ = mj_E 184 26 (some (.ref v) :: ls) (.ref v :: st) σ τ := mj_nx i184_25 rfl
theorem i184_26 : mj_ins 184 26 = some (.iconst (-6), 28) := by decide +kernel
theorem e184_26 {ls : mj_L} {st : List Value} {σ : mj_S} {τ : mj_T} : mj_E 184 26 ls st σ τ = mj_E 184 28 ls (.int ((-6)) :: st) σ τ := mj_nx i184_26 rfl
theorem i184_28 : mj_ins 184 28 = some (.invokevirtual 117, 31) := by decide +kernel
theorem e184_28 {ls : mj_L} {σ : mj_S} {τ : mj_T} {r : Nat} {x0 : Int32} : mj_E 184 28 ls [.int x0, .ref r] σ τ = if mj_rcv r 7 = true then mj_bd (mj_C 117 [.ref r, .int x0] σ τ) (mj_K 184 31 ls []) else none := mj_clV (as := [.int x0]) (r := []) i184_28 (by decide +kernel : mj_vk 184 117 1 0 2 false = true) (by decide +kernel)
theorem i184_31 : mj_ins 184 31 = some (.goto 35, 34) := by decide +kernel
theorem e184_31 {ls : mj_L} {st : List Value} {σ : mj_S} {τ : mj_T} : mj_E 184 31 ls st σ τ = mj_E 184 35 ls st σ τ := mj_nx i184_31 rfl
theorem i184_34 : mj_ins 184 34 = some (.iload 2, 35) := by decide +kernel
theorem e184_34 {ls : mj_L} {st : List Value} {σ : mj_S} {τ : mj_T} {a0 a1 : Option Value} {v : Int32} : mj_E 184 34 (a0 :: a1 :: some (.int v) :: ls) st σ τ = mj_E 184 35 (a0 :: a1 :: some (.int v) :: ls) (.int v :: st) σ τ := mj_nx i184_34 rfl
theorem i184_35 : mj_ins 184 35 = some (.ireturn, 36) := by decide +kernel
theorem e184_35 {ls : mj_L} {σ : mj_S} {τ : mj_T} {v : Int32} : mj_E 184 35 ls [.int v] σ τ = some (some (.int v), σ, τ) := mj_irt i184_35 rfl
theorem c185 {σ : mj_S} {τ : mj_T} {r : Nat} {x0 : Int32} : mj_C 185 [.ref r, .int x0] σ τ = mj_E 185 0 [some (.ref r), some (.int x0), none] [] σ τ := rfl
theorem i185_0 : mj_ins 185 0 = some (.aload 0, 1) := by decide +kernel
theorem e185_0 {ls : mj_L} {st : List Value} {σ : mj_S} {τ : mj_T} {v : Nat} : mj_E 185 0 (some (.ref v) :: ls) st σ τ = mj_E 185 1 (some (.ref v) :: ls) (.ref v :: st) σ τ := mj_nx i185_0 rfl
theorem i185_1 : mj_ins 185 1 = some (.iload 1, 2) := by decide +kernel
theorem e185_1 {ls : mj_L} {st : List Value} {σ : mj_S} {τ : mj_T} {a0 : Option Value} {v : Int32} : mj_E 185 1 (a0 :: some (.int v) :: ls) st σ τ = mj_E 185 2 (a0 :: some (.int v) :: ls) (.int v :: st) σ τ := mj_nx i185_1 rfl
theorem i185_2 : mj_ins 185 2 = some (.iconst (1), 3) := by decide +kernel
theorem e185_2 {ls : mj_L} {st : List Value} {σ : mj_S} {τ : mj_T} : mj_E 185 2 ls st σ τ = mj_E 185 3 ls (.int (nI 1) :: st) σ τ := mj_nx i185_2 rfl
theorem i185_3 : mj_ins 185 3 = some (.iconst (40), 5) := by decide +kernel
theorem e185_3 {ls : mj_L} {st : List Value} {σ : mj_S} {τ : mj_T} : mj_E 185 3 ls st σ τ = mj_E 185 5 ls (.int (nI 40) :: st) σ τ := mj_nx i185_3 rfl
theorem i185_5 : mj_ins 185 5 = some (.invokevirtual 122, 8) := by decide +kernel
theorem e185_5 {ls : mj_L} {σ : mj_S} {τ : mj_T} {r : Nat} {x0 : Int32} {x1 : Int32} {x2 : Int32} : mj_E 185 5 ls [.int x2, .int x1, .int x0, .ref r] σ τ = if mj_rcv r 7 = true then mj_bd (mj_C 122 [.ref r, .int x0, .int x1, .int x2] σ τ) (mj_K 185 8 ls []) else none := mj_clV (as := [.int x0, .int x1, .int x2]) (r := []) i185_5 (by decide +kernel : mj_vk 185 122 3 0 4 false = true) (by decide +kernel)
theorem i185_8 : mj_ins 185 8 = some (.ifCond .ne 18, 11) := by decide +kernel
theorem e185_8 {ls : mj_L} {st : List Value} {σ : mj_S} {τ : mj_T} {x : Int32} : mj_E 185 8 ls (.int x :: st) σ τ = if x = 0 then mj_E 185 11 ls st σ τ else mj_E 185 18 ls st σ τ := (mj_ifc i185_8).trans (mj_cdF rfl)
theorem i185_11 : mj_ins 185 11 = some (.aload 0, 12) := by decide +kernel
theorem e185_11 {ls : mj_L} {st : List Value} {σ : mj_S} {τ : mj_T} {v : Nat} : mj_E 185 11 (some (.ref v) :: ls) st σ τ = mj_E 185 12 (some (.ref v) :: ls) (.ref v :: st) σ τ := mj_nx i185_11 rfl
theorem i185_12 : mj_ins 185 12 = some (.iconst (-6), 14) := by decide +kernel
theorem e185_12 {ls : mj_L} {st : List Value} {σ : mj_S} {τ : mj_T} : mj_E 185 12 ls st σ τ = mj_E 185 14 ls (.int ((-6)) :: st) σ τ := mj_nx i185_12 rfl
theorem i185_14 : mj_ins 185 14 = some (.invokevirtual 117, 17) := by decide +kernel
theorem e185_14 {ls : mj_L} {σ : mj_S} {τ : mj_T} {r : Nat} {x0 : Int32} : mj_E 185 14 ls [.int x0, .ref r] σ τ = if mj_rcv r 7 = true then mj_bd (mj_C 117 [.ref r, .int x0] σ τ) (mj_K 185 17 ls []) else none := mj_clV (as := [.int x0]) (r := []) i185_14 (by decide +kernel : mj_vk 185 117 1 0 2 false = true) (by decide +kernel)
theorem i185_17 : mj_ins 185 17 = some (.ireturn, 18) := by decide +kernel
theorem e185_17 {ls : mj_L} {σ : mj_S} {τ : mj_T} {v : Int32} : mj_E 185 17 ls [.int v] σ τ = some (some (.int v), σ, τ) := mj_irt i185_17 rfl
theorem i185_18 : mj_ins 185 18 = some (.iconst (0), 19) := by decide +kernel
theorem e185_18 {ls : mj_L} {st : List Value} {σ : mj_S} {τ : mj_T} : mj_E 185 18 ls st σ τ = mj_E 185 19 ls (.int (nI 0) :: st) σ τ := mj_nx i185_18 rfl
theorem i185_19 : mj_ins 185 19 = some (.istore 2, 20) := by decide +kernel
theorem e185_19 {ls : mj_L} {st : List Value} {σ : mj_S} {τ : mj_T} {a0 a1 a2 : Option Value} {v : Int32} : mj_E 185 19 (a0 :: a1 :: a2 :: ls) (.int v :: st) σ τ = mj_E 185 20 (a0 :: a1 :: some (.int v) :: ls) st σ τ := mj_nx i185_19 rfl
theorem i185_20 : mj_ins 185 20 = some (.iload 2, 21) := by decide +kernel
theorem e185_20 {ls : mj_L} {st : List Value} {σ : mj_S} {τ : mj_T} {a0 a1 : Option Value} {v : Int32} : mj_E 185 20 (a0 :: a1 :: some (.int v) :: ls) st σ τ = mj_E 185 21 (a0 :: a1 :: some (.int v) :: ls) (.int v :: st) σ τ := mj_nx i185_20 rfl
theorem i185_21 : mj_ins 185 21 = some (.iload 1, 22) := by decide +kernel
theorem e185_21 {ls : mj_L} {st : List Value} {σ : mj_S} {τ : mj_T} {a0 : Option Value} {v : Int32} : mj_E 185 21 (a0 :: some (.int v) :: ls) st σ τ = mj_E 185 22 (a0 :: some (.int v) :: ls) (.int v :: st) σ τ := mj_nx i185_21 rfl
theorem i185_22 : mj_ins 185 22 = some (.if_icmp .ge 35, 25) := by decide +kernel
theorem e185_22 {ls : mj_L} {st : List Value} {σ : mj_S} {τ : mj_T} {x y : Int32} : mj_E 185 22 ls (.int y :: .int x :: st) σ τ = if y ≤ x then mj_E 185 35 ls st σ τ else mj_E 185 25 ls st σ τ := (mj_ifi i185_22).trans (mj_cdT rfl)
theorem i185_25 : mj_ins 185 25 = some (.aload 0, 26) := by decide +kernel
theorem e185_25 {ls : mj_L} {st : List Value} {σ : mj_S} {τ : mj_T} {v : Nat} : mj_E 185 25 (some (.ref v) :: ls) st σ τ = mj_E 185 26 (some (.ref v) :: ls) (.ref v :: st) σ τ := mj_nx i185_25 rfl
theorem i185_26 : mj_ins 185 26 = some (.invokevirtual 180, 29) := by decide +kernel
theorem e185_26 {ls : mj_L} {σ : mj_S} {τ : mj_T} {r : Nat} : mj_E 185 26 ls [.ref r] σ τ = if mj_rcv r 7 = true then mj_bd (mj_C 180 [.ref r] σ τ) (mj_K 185 29 ls []) else none := mj_clV (as := []) (r := []) i185_26 (by decide +kernel : mj_vk 185 180 0 0 1 false = true) (by decide +kernel)
theorem i185_29 : mj_ins 185 29 = some (.iinc 2 (1), 32) := by decide +kernel
theorem e185_29 {ls : mj_L} {st : List Value} {σ : mj_S} {τ : mj_T} {a0 a1 : Option Value} {v : Int32} : mj_E 185 29 (a0 :: a1 :: some (.int v) :: ls) st σ τ = mj_E 185 32 (a0 :: a1 :: some (.int (v + nI 1)) :: ls) st σ τ := mj_nx i185_29 rfl
theorem i185_32 : mj_ins 185 32 = some (.goto 20, 35) := by decide +kernel
theorem e185_32 {ls : mj_L} {st : List Value} {σ : mj_S} {τ : mj_T} : mj_E 185 32 ls st σ τ = mj_E 185 20 ls st σ τ := mj_nx i185_32 rfl
theorem i185_35 : mj_ins 185 35 = some (.aload 0, 36) := by decide +kernel
theorem e185_35 {ls : mj_L} {st : List Value} {σ : mj_S} {τ : mj_T} {v : Nat} : mj_E 185 35 (some (.ref v) :: ls) st σ τ = mj_E 185 36 (some (.ref v) :: ls) (.ref v :: st) σ τ := mj_nx i185_35 rfl
theorem i185_36 : mj_ins 185 36 = some (.getfield 703, 39) := by decide +kernel
theorem e185_36 {ls : mj_L} {st : List Value} {σ : mj_S} {τ : mj_T} : mj_E 185 36 ls (.ref 62 :: st) σ τ = mj_E 185 39 ls (.int (σ 62 3) :: st) σ τ := mj_nx i185_36 rfl
theorem i185_39 : mj_ins 185 39 = some (.ireturn, 40) := by decide +kernel
theorem e185_39 {ls : mj_L} {σ : mj_S} {τ : mj_T} {v : Int32} : mj_E 185 39 ls [.int v] σ τ = some (some (.int v), σ, τ) := mj_irt i185_39 rfl
theorem c186 {σ : mj_S} {τ : mj_T} {r : Nat} {x0 : Int32} : mj_C 186 [.ref r, .int x0] σ τ = mj_E 186 0 [some (.ref r), some (.int x0)] [] σ τ := rfl
theorem i186_0 : mj_ins 186 0 = some (.aload 0, 1) := by decide +kernel
theorem e186_0 {ls : mj_L} {st : List Value} {σ : mj_S} {τ : mj_T} {v : Nat} : mj_E 186 0 (some (.ref v) :: ls) st σ τ = mj_E 186 1 (some (.ref v) :: ls) (.ref v :: st) σ τ := mj_nx i186_0 rfl
theorem i186_1 : mj_ins 186 1 = some (.aload 0, 2) := by decide +kernel
theorem e186_1 {ls : mj_L} {st : List Value} {σ : mj_S} {τ : mj_T} {v : Nat} : mj_E 186 1 (some (.ref v) :: ls) st σ τ = mj_E 186 2 (some (.ref v) :: ls) (.ref v :: st) σ τ := mj_nx i186_1 rfl
theorem i186_2 : mj_ins 186 2 = some (.getfield 704, 5) := by decide +kernel
theorem e186_2 {ls : mj_L} {st : List Value} {σ : mj_S} {τ : mj_T} : mj_E 186 2 ls (.ref 62 :: st) σ τ = mj_E 186 5 ls (.int (σ 62 4) :: st) σ τ := mj_nx i186_2 rfl
theorem i186_5 : mj_ins 186 5 = some (.iconst (1103515245), 8) := by decide +kernel
theorem e186_5 {ls : mj_L} {st : List Value} {σ : mj_S} {τ : mj_T} : mj_E 186 5 ls st σ τ = mj_E 186 8 ls (.int (nI 1103515245) :: st) σ τ := mj_nx i186_5 rfl
theorem i186_8 : mj_ins 186 8 = some (.imul, 9) := by decide +kernel
theorem e186_8 {ls : mj_L} {st : List Value} {σ : mj_S} {τ : mj_T} {x y : Int32} : mj_E 186 8 ls (.int y :: .int x :: st) σ τ = mj_E 186 9 ls (.int (x * y) :: st) σ τ := mj_nx i186_8 rfl
theorem i186_9 : mj_ins 186 9 = some (.iconst (12345), 12) := by decide +kernel
theorem e186_9 {ls : mj_L} {st : List Value} {σ : mj_S} {τ : mj_T} : mj_E 186 9 ls st σ τ = mj_E 186 12 ls (.int (nI 12345) :: st) σ τ := mj_nx i186_9 rfl
theorem i186_12 : mj_ins 186 12 = some (.iadd, 13) := by decide +kernel
theorem e186_12 {ls : mj_L} {st : List Value} {σ : mj_S} {τ : mj_T} {x y : Int32} : mj_E 186 12 ls (.int y :: .int x :: st) σ τ = mj_E 186 13 ls (.int (x + y) :: st) σ τ := mj_nx i186_12 rfl
theorem i186_13 : mj_ins 186 13 = some (.putfield 704, 16) := by decide +kernel
theorem e186_13 {ls : mj_L} {st : List Value} {σ : mj_S} {τ : mj_T} {v : Int32} : mj_E 186 13 ls (.int v :: .ref 62 :: st) σ τ = mj_E 186 16 ls st (mj_up σ 62 4 v) τ := mj_nx i186_13 rfl
theorem i186_16 : mj_ins 186 16 = some (.aload 0, 17) := by decide +kernel
theorem e186_16 {ls : mj_L} {st : List Value} {σ : mj_S} {τ : mj_T} {v : Nat} : mj_E 186 16 (some (.ref v) :: ls) st σ τ = mj_E 186 17 (some (.ref v) :: ls) (.ref v :: st) σ τ := mj_nx i186_16 rfl
theorem i186_17 : mj_ins 186 17 = some (.getfield 704, 20) := by decide +kernel
theorem e186_17 {ls : mj_L} {st : List Value} {σ : mj_S} {τ : mj_T} : mj_E 186 17 ls (.ref 62 :: st) σ τ = mj_E 186 20 ls (.int (σ 62 4) :: st) σ τ := mj_nx i186_17 rfl
theorem i186_20 : mj_ins 186 20 = some (.iconst (16), 22) := by decide +kernel
theorem e186_20 {ls : mj_L} {st : List Value} {σ : mj_S} {τ : mj_T} : mj_E 186 20 ls st σ τ = mj_E 186 22 ls (.int (nI 16) :: st) σ τ := mj_nx i186_20 rfl
theorem i186_22 : mj_ins 186 22 = some (.iushr, 23) := by decide +kernel
theorem e186_22 {ls : mj_L} {st : List Value} {σ : mj_S} {τ : mj_T} {x y : Int32} : mj_E 186 22 ls (.int y :: .int x :: st) σ τ = mj_E 186 23 ls (.int ((x.toUInt32 >>> (y.toUInt32 &&& Int32.toUInt32 31)).toInt32) :: st) σ τ := mj_nx i186_22 rfl
theorem i186_23 : mj_ins 186 23 = some (.iload 1, 24) := by decide +kernel
theorem e186_23 {ls : mj_L} {st : List Value} {σ : mj_S} {τ : mj_T} {a0 : Option Value} {v : Int32} : mj_E 186 23 (a0 :: some (.int v) :: ls) st σ τ = mj_E 186 24 (a0 :: some (.int v) :: ls) (.int v :: st) σ τ := mj_nx i186_23 rfl
theorem i186_24 : mj_ins 186 24 = some (.irem, 25) := by decide +kernel
theorem e186_24 {ls : mj_L} {st : List Value} {σ : mj_S} {τ : mj_T} {x y : Int32} : mj_E 186 24 ls (.int y :: .int x :: st) σ τ = if y = 0 then none else mj_E 186 25 ls (.int (x - x / y * y) :: st) σ τ := mj_rem i186_24
theorem i186_25 : mj_ins 186 25 = some (.ireturn, 26) := by decide +kernel
theorem e186_25 {ls : mj_L} {σ : mj_S} {τ : mj_T} {v : Int32} : mj_E 186 25 ls [.int v] σ τ = some (some (.int v), σ, τ) := mj_irt i186_25 rfl
theorem c187 {σ : mj_S} {τ : mj_T} {r : Nat} {x0 : Nat} {x1 : Int32} : mj_C 187 [.ref r, .ref x0, .int x1] σ τ = mj_E 187 0 [some (.ref r), some (.ref x0), some (.int x1), none, none] [] σ τ := rfl
theorem i187_0 : mj_ins 187 0 = some (.iconst (0), 1) := by decide +kernel
theorem e187_0 {ls : mj_L} {st : List Value} {σ : mj_S} {τ : mj_T} : mj_E 187 0 ls st σ τ = mj_E 187 1 ls (.int (nI 0) :: st) σ τ := mj_nx i187_0 rfl
theorem i187_1 : mj_ins 187 1 = some (.istore 3, 2) := by decide +kernel
theorem e187_1 {ls : mj_L} {st : List Value} {σ : mj_S} {τ : mj_T} {a0 a1 a2 a3 : Option Value} {v : Int32} : mj_E 187 1 (a0 :: a1 :: a2 :: a3 :: ls) (.int v :: st) σ τ = mj_E 187 2 (a0 :: a1 :: a2 :: some (.int v) :: ls) st σ τ := mj_nx i187_1 rfl
theorem i187_2 : mj_ins 187 2 = some (.iconst (0), 3) := by decide +kernel
theorem e187_2 {ls : mj_L} {st : List Value} {σ : mj_S} {τ : mj_T} : mj_E 187 2 ls st σ τ = mj_E 187 3 ls (.int (nI 0) :: st) σ τ := mj_nx i187_2 rfl
theorem i187_3 : mj_ins 187 3 = some (.istore 4, 5) := by decide +kernel
theorem e187_3 {ls : mj_L} {st : List Value} {σ : mj_S} {τ : mj_T} {a0 a1 a2 a3 a4 : Option Value} {v : Int32} : mj_E 187 3 (a0 :: a1 :: a2 :: a3 :: a4 :: ls) (.int v :: st) σ τ = mj_E 187 5 (a0 :: a1 :: a2 :: a3 :: some (.int v) :: ls) st σ τ := mj_nx i187_3 rfl
theorem i187_5 : mj_ins 187 5 = some (.iload 4, 7) := by decide +kernel
theorem e187_5 {ls : mj_L} {st : List Value} {σ : mj_S} {τ : mj_T} {a0 a1 a2 a3 : Option Value} {v : Int32} : mj_E 187 5 (a0 :: a1 :: a2 :: a3 :: some (.int v) :: ls) st σ τ = mj_E 187 7 (a0 :: a1 :: a2 :: a3 :: some (.int v) :: ls) (.int v :: st) σ τ := mj_nx i187_5 rfl
theorem i187_7 : mj_ins 187 7 = some (.iload 2, 8) := by decide +kernel
theorem e187_7 {ls : mj_L} {st : List Value} {σ : mj_S} {τ : mj_T} {a0 a1 : Option Value} {v : Int32} : mj_E 187 7 (a0 :: a1 :: some (.int v) :: ls) st σ τ = mj_E 187 8 (a0 :: a1 :: some (.int v) :: ls) (.int v :: st) σ τ := mj_nx i187_7 rfl
theorem i187_8 : mj_ins 187 8 = some (.if_icmp .ge 24, 11) := by decide +kernel
theorem e187_8 {ls : mj_L} {st : List Value} {σ : mj_S} {τ : mj_T} {x y : Int32} : mj_E 187 8 ls (.int y :: .int x :: st) σ τ = if y ≤ x then mj_E 187 24 ls st σ τ else mj_E 187 11 ls st σ τ := (mj_ifi i187_8).trans (mj_cdT rfl)
theorem i187_11 : mj_ins 187 11 = some (.iload 3, 12) := by decide +kernel
theorem e187_11 {ls : mj_L} {st : List Value} {σ : mj_S} {τ : mj_T} {a0 a1 a2 : Option Value} {v : Int32} : mj_E 187 11 (a0 :: a1 :: a2 :: some (.int v) :: ls) st σ τ = mj_E 187 12 (a0 :: a1 :: a2 :: some (.int v) :: ls) (.int v :: st) σ τ := mj_nx i187_11 rfl
theorem i187_12 : mj_ins 187 12 = some (.aload 1, 13) := by decide +kernel
theorem e187_12 {ls : mj_L} {st : List Value} {σ : mj_S} {τ : mj_T} {a0 : Option Value} {v : Nat} : mj_E 187 12 (a0 :: some (.ref v) :: ls) st σ τ = mj_E 187 13 (a0 :: some (.ref v) :: ls) (.ref v :: st) σ τ := mj_nx i187_12 rfl
theorem i187_13 : mj_ins 187 13 = some (.iload 4, 15) := by decide +kernel
theorem e187_13 {ls : mj_L} {st : List Value} {σ : mj_S} {τ : mj_T} {a0 a1 a2 a3 : Option Value} {v : Int32} : mj_E 187 13 (a0 :: a1 :: a2 :: a3 :: some (.int v) :: ls) st σ τ = mj_E 187 15 (a0 :: a1 :: a2 :: a3 :: some (.int v) :: ls) (.int v :: st) σ τ := mj_nx i187_13 rfl
theorem i187_15 : mj_ins 187 15 = some (.iaload, 16) := by decide +kernel
theorem e187_15 {ls : mj_L} {st : List Value} {σ : mj_S} {τ : mj_T} {x : Int32} {k : Nat} : mj_E 187 15 ls (.int x :: .ref k :: st) σ τ = if mj_ib (mj_li σ k) x = true then mj_E 187 16 ls (.int (σ k x.toNatClampNeg) :: st) σ τ else none := mj_ald i187_15
theorem i187_16 : mj_ins 187 16 = some (.iadd, 17) := by decide +kernel
theorem e187_16 {ls : mj_L} {st : List Value} {σ : mj_S} {τ : mj_T} {x y : Int32} : mj_E 187 16 ls (.int y :: .int x :: st) σ τ = mj_E 187 17 ls (.int (x + y) :: st) σ τ := mj_nx i187_16 rfl
theorem i187_17 : mj_ins 187 17 = some (.istore 3, 18) := by decide +kernel
theorem e187_17 {ls : mj_L} {st : List Value} {σ : mj_S} {τ : mj_T} {a0 a1 a2 a3 : Option Value} {v : Int32} : mj_E 187 17 (a0 :: a1 :: a2 :: a3 :: ls) (.int v :: st) σ τ = mj_E 187 18 (a0 :: a1 :: a2 :: some (.int v) :: ls) st σ τ := mj_nx i187_17 rfl
theorem i187_18 : mj_ins 187 18 = some (.iinc 4 (1), 21) := by decide +kernel
theorem e187_18 {ls : mj_L} {st : List Value} {σ : mj_S} {τ : mj_T} {a0 a1 a2 a3 : Option Value} {v : Int32} : mj_E 187 18 (a0 :: a1 :: a2 :: a3 :: some (.int v) :: ls) st σ τ = mj_E 187 21 (a0 :: a1 :: a2 :: a3 :: some (.int (v + nI 1)) :: ls) st σ τ := mj_nx i187_18 rfl
theorem i187_21 : mj_ins 187 21 = some (.goto 5, 24) := by decide +kernel
theorem e187_21 {ls : mj_L} {st : List Value} {σ : mj_S} {τ : mj_T} : mj_E 187 21 ls st σ τ = mj_E 187 5 ls st σ τ := mj_nx i187_21 rfl
theorem i187_24 : mj_ins 187 24 = some (.iload 3, 25) := by decide +kernel
theorem e187_24 {ls : mj_L} {st : List Value} {σ : mj_S} {τ : mj_T} {a0 a1 a2 : Option Value} {v : Int32} : mj_E 187 24 (a0 :: a1 :: a2 :: some (.int v) :: ls) st σ τ = mj_E 187 25 (a0 :: a1 :: a2 :: some (.int v) :: ls) (.int v :: st) σ τ := mj_nx i187_24 rfl
theorem i187_25 : mj_ins 187 25 = some (.ireturn, 26) := by decide +kernel
theorem e187_25 {ls : mj_L} {σ : mj_S} {τ : mj_T} {v : Int32} : mj_E 187 25 ls [.int v] σ τ = some (some (.int v), σ, τ) := mj_irt i187_25 rfl
theorem c188 {σ : mj_S} {τ : mj_T} {r : Nat} {x0 : Int32} : mj_C 188 [.ref r, .int x0] σ τ = mj_E 188 0 [some (.ref r), some (.int x0), none, none, none, none] [] σ τ := rfl
theorem i188_0 : mj_ins 188 0 = some (.aload 0, 1) := by decide +kernel
theorem e188_0 {ls : mj_L} {st : List Value} {σ : mj_S} {τ : mj_T} {v : Nat} : mj_E 188 0 (some (.ref v) :: ls) st σ τ = mj_E 188 1 (some (.ref v) :: ls) (.ref v :: st) σ τ := mj_nx i188_0 rfl
theorem i188_1 : mj_ins 188 1 = some (.getfield 700, 4) := by decide +kernel
theorem e188_1 {ls : mj_L} {st : List Value} {σ : mj_S} {τ : mj_T} : mj_E 188 1 ls (.ref 62 :: st) σ τ = mj_E 188 4 ls (.int (σ 62 0) :: st) σ τ := mj_nx i188_1 rfl
theorem i188_4 : mj_ins 188 4 = some (.ifCond .eq 14, 7) := by decide +kernel
theorem e188_4 {ls : mj_L} {st : List Value} {σ : mj_S} {τ : mj_T} {x : Int32} : mj_E 188 4 ls (.int x :: st) σ τ = if x = 0 then mj_E 188 14 ls st σ τ else mj_E 188 7 ls st σ τ := (mj_ifc i188_4).trans (mj_cdT rfl)
theorem i188_7 : mj_ins 188 7 = some (.aload 0, 8) := by decide +kernel
theorem e188_7 {ls : mj_L} {st : List Value} {σ : mj_S} {τ : mj_T} {v : Nat} : mj_E 188 7 (some (.ref v) :: ls) st σ τ = mj_E 188 8 (some (.ref v) :: ls) (.ref v :: st) σ τ := mj_nx i188_7 rfl
theorem i188_8 : mj_ins 188 8 = some (.getfield 701, 11) := by decide +kernel
theorem e188_8 {ls : mj_L} {st : List Value} {σ : mj_S} {τ : mj_T} : mj_E 188 8 ls (.ref 62 :: st) σ τ = mj_E 188 11 ls (.int (σ 62 1) :: st) σ τ := mj_nx i188_8 rfl
theorem i188_11 : mj_ins 188 11 = some (.ifCond .ne 21, 14) := by decide +kernel
theorem e188_11 {ls : mj_L} {st : List Value} {σ : mj_S} {τ : mj_T} {x : Int32} : mj_E 188 11 ls (.int x :: st) σ τ = if x = 0 then mj_E 188 14 ls st σ τ else mj_E 188 21 ls st σ τ := (mj_ifc i188_11).trans (mj_cdF rfl)
theorem i188_14 : mj_ins 188 14 = some (.aload 0, 15) := by decide +kernel
theorem e188_14 {ls : mj_L} {st : List Value} {σ : mj_S} {τ : mj_T} {v : Nat} : mj_E 188 14 (some (.ref v) :: ls) st σ τ = mj_E 188 15 (some (.ref v) :: ls) (.ref v :: st) σ τ := mj_nx i188_14 rfl
theorem i188_15 : mj_ins 188 15 = some (.iconst (-5), 17) := by decide +kernel
theorem e188_15 {ls : mj_L} {st : List Value} {σ : mj_S} {τ : mj_T} : mj_E 188 15 ls st σ τ = mj_E 188 17 ls (.int ((-5)) :: st) σ τ := mj_nx i188_15 rfl
theorem i188_17 : mj_ins 188 17 = some (.invokevirtual 117, 20) := by decide +kernel
theorem e188_17 {ls : mj_L} {σ : mj_S} {τ : mj_T} {r : Nat} {x0 : Int32} : mj_E 188 17 ls [.int x0, .ref r] σ τ = if mj_rcv r 7 = true then mj_bd (mj_C 117 [.ref r, .int x0] σ τ) (mj_K 188 20 ls []) else none := mj_clV (as := [.int x0]) (r := []) i188_17 (by decide +kernel : mj_vk 188 117 1 0 2 false = true) (by decide +kernel)
theorem i188_20 : mj_ins 188 20 = some (.ireturn, 21) := by decide +kernel
theorem e188_20 {ls : mj_L} {σ : mj_S} {τ : mj_T} {v : Int32} : mj_E 188 20 ls [.int v] σ τ = some (some (.int v), σ, τ) := mj_irt i188_20 rfl
theorem i188_21 : mj_ins 188 21 = some (.aload 0, 22) := by decide +kernel
theorem e188_21 {ls : mj_L} {st : List Value} {σ : mj_S} {τ : mj_T} {v : Nat} : mj_E 188 21 (some (.ref v) :: ls) st σ τ = mj_E 188 22 (some (.ref v) :: ls) (.ref v :: st) σ τ := mj_nx i188_21 rfl
theorem i188_22 : mj_ins 188 22 = some (.iload 1, 23) := by decide +kernel
theorem e188_22 {ls : mj_L} {st : List Value} {σ : mj_S} {τ : mj_T} {a0 : Option Value} {v : Int32} : mj_E 188 22 (a0 :: some (.int v) :: ls) st σ τ = mj_E 188 23 (a0 :: some (.int v) :: ls) (.int v :: st) σ τ := mj_nx i188_22 rfl
theorem i188_23 : mj_ins 188 23 = some (.iconst (1), 24) := by decide +kernel
theorem e188_23 {ls : mj_L} {st : List Value} {σ : mj_S} {τ : mj_T} : mj_E 188 23 ls st σ τ = mj_E 188 24 ls (.int (nI 1) :: st) σ τ := mj_nx i188_23 rfl
theorem i188_24 : mj_ins 188 24 = some (.iconst (40), 26) := by decide +kernel
theorem e188_24 {ls : mj_L} {st : List Value} {σ : mj_S} {τ : mj_T} : mj_E 188 24 ls st σ τ = mj_E 188 26 ls (.int (nI 40) :: st) σ τ := mj_nx i188_24 rfl
theorem i188_26 : mj_ins 188 26 = some (.invokevirtual 122, 29) := by decide +kernel
theorem e188_26 {ls : mj_L} {σ : mj_S} {τ : mj_T} {r : Nat} {x0 : Int32} {x1 : Int32} {x2 : Int32} : mj_E 188 26 ls [.int x2, .int x1, .int x0, .ref r] σ τ = if mj_rcv r 7 = true then mj_bd (mj_C 122 [.ref r, .int x0, .int x1, .int x2] σ τ) (mj_K 188 29 ls []) else none := mj_clV (as := [.int x0, .int x1, .int x2]) (r := []) i188_26 (by decide +kernel : mj_vk 188 122 3 0 4 false = true) (by decide +kernel)
theorem i188_29 : mj_ins 188 29 = some (.ifCond .ne 39, 32) := by decide +kernel
theorem e188_29 {ls : mj_L} {st : List Value} {σ : mj_S} {τ : mj_T} {x : Int32} : mj_E 188 29 ls (.int x :: st) σ τ = if x = 0 then mj_E 188 32 ls st σ τ else mj_E 188 39 ls st σ τ := (mj_ifc i188_29).trans (mj_cdF rfl)
theorem i188_32 : mj_ins 188 32 = some (.aload 0, 33) := by decide +kernel
theorem e188_32 {ls : mj_L} {st : List Value} {σ : mj_S} {τ : mj_T} {v : Nat} : mj_E 188 32 (some (.ref v) :: ls) st σ τ = mj_E 188 33 (some (.ref v) :: ls) (.ref v :: st) σ τ := mj_nx i188_32 rfl
theorem i188_33 : mj_ins 188 33 = some (.iconst (-6), 35) := by decide +kernel
theorem e188_33 {ls : mj_L} {st : List Value} {σ : mj_S} {τ : mj_T} : mj_E 188 33 ls st σ τ = mj_E 188 35 ls (.int ((-6)) :: st) σ τ := mj_nx i188_33 rfl
theorem i188_35 : mj_ins 188 35 = some (.invokevirtual 117, 38) := by decide +kernel
theorem e188_35 {ls : mj_L} {σ : mj_S} {τ : mj_T} {r : Nat} {x0 : Int32} : mj_E 188 35 ls [.int x0, .ref r] σ τ = if mj_rcv r 7 = true then mj_bd (mj_C 117 [.ref r, .int x0] σ τ) (mj_K 188 38 ls []) else none := mj_clV (as := [.int x0]) (r := []) i188_35 (by decide +kernel : mj_vk 188 117 1 0 2 false = true) (by decide +kernel)
theorem i188_38 : mj_ins 188 38 = some (.ireturn, 39) := by decide +kernel
theorem e188_38 {ls : mj_L} {σ : mj_S} {τ : mj_T} {v : Int32} : mj_E 188 38 ls [.int v] σ τ = some (some (.int v), σ, τ) := mj_irt i188_38 rfl
theorem i188_39 : mj_ins 188 39 = some (.iconst (0), 40) := by decide +kernel
theorem e188_39 {ls : mj_L} {st : List Value} {σ : mj_S} {τ : mj_T} : mj_E 188 39 ls st σ τ = mj_E 188 40 ls (.int (nI 0) :: st) σ τ := mj_nx i188_39 rfl
theorem i188_40 : mj_ins 188 40 = some (.istore 2, 41) := by decide +kernel
theorem e188_40 {ls : mj_L} {st : List Value} {σ : mj_S} {τ : mj_T} {a0 a1 a2 : Option Value} {v : Int32} : mj_E 188 40 (a0 :: a1 :: a2 :: ls) (.int v :: st) σ τ = mj_E 188 41 (a0 :: a1 :: some (.int v) :: ls) st σ τ := mj_nx i188_40 rfl
theorem i188_41 : mj_ins 188 41 = some (.iload 2, 42) := by decide +kernel
theorem e188_41 {ls : mj_L} {st : List Value} {σ : mj_S} {τ : mj_T} {a0 a1 : Option Value} {v : Int32} : mj_E 188 41 (a0 :: a1 :: some (.int v) :: ls) st σ τ = mj_E 188 42 (a0 :: a1 :: some (.int v) :: ls) (.int v :: st) σ τ := mj_nx i188_41 rfl
theorem i188_42 : mj_ins 188 42 = some (.iload 1, 43) := by decide +kernel
theorem e188_42 {ls : mj_L} {st : List Value} {σ : mj_S} {τ : mj_T} {a0 : Option Value} {v : Int32} : mj_E 188 42 (a0 :: some (.int v) :: ls) st σ τ = mj_E 188 43 (a0 :: some (.int v) :: ls) (.int v :: st) σ τ := mj_nx i188_42 rfl
theorem i188_43 : mj_ins 188 43 = some (.if_icmp .ge 104, 46) := by decide +kernel
theorem e188_43 {ls : mj_L} {st : List Value} {σ : mj_S} {τ : mj_T} {x y : Int32} : mj_E 188 43 ls (.int y :: .int x :: st) σ τ = if y ≤ x then mj_E 188 104 ls st σ τ else mj_E 188 46 ls st σ τ := (mj_ifi i188_43).trans (mj_cdT rfl)
theorem i188_46 : mj_ins 188 46 = some (.aload 0, 47) := by decide +kernel
theorem e188_46 {ls : mj_L} {st : List Value} {σ : mj_S} {τ : mj_T} {v : Nat} : mj_E 188 46 (some (.ref v) :: ls) st σ τ = mj_E 188 47 (some (.ref v) :: ls) (.ref v :: st) σ τ := mj_nx i188_46 rfl
theorem i188_47 : mj_ins 188 47 = some (.aload 0, 48) := by decide +kernel
theorem e188_47 {ls : mj_L} {st : List Value} {σ : mj_S} {τ : mj_T} {v : Nat} : mj_E 188 47 (some (.ref v) :: ls) st σ τ = mj_E 188 48 (some (.ref v) :: ls) (.ref v :: st) σ τ := mj_nx i188_47 rfl
theorem i188_48 : mj_ins 188 48 = some (.getfield 700, 51) := by decide +kernel
theorem e188_48 {ls : mj_L} {st : List Value} {σ : mj_S} {τ : mj_T} : mj_E 188 48 ls (.ref 62 :: st) σ τ = mj_E 188 51 ls (.int (σ 62 0) :: st) σ τ := mj_nx i188_48 rfl
theorem i188_51 : mj_ins 188 51 = some (.invokevirtual 186, 54) := by decide +kernel
theorem e188_51 {ls : mj_L} {σ : mj_S} {τ : mj_T} {r : Nat} {x0 : Int32} : mj_E 188 51 ls [.int x0, .ref r] σ τ = if mj_rcv r 7 = true then mj_bd (mj_C 186 [.ref r, .int x0] σ τ) (mj_K 188 54 ls []) else none := mj_clV (as := [.int x0]) (r := []) i188_51 (by decide +kernel : mj_vk 188 186 1 0 2 false = true) (by decide +kernel)
theorem i188_54 : mj_ins 188 54 = some (.istore 3, 55) := by decide +kernel
theorem e188_54 {ls : mj_L} {st : List Value} {σ : mj_S} {τ : mj_T} {a0 a1 a2 a3 : Option Value} {v : Int32} : mj_E 188 54 (a0 :: a1 :: a2 :: a3 :: ls) (.int v :: st) σ τ = mj_E 188 55 (a0 :: a1 :: a2 :: some (.int v) :: ls) st σ τ := mj_nx i188_54 rfl
theorem i188_55 : mj_ins 188 55 = some (.aload 0, 56) := by decide +kernel
theorem e188_55 {ls : mj_L} {st : List Value} {σ : mj_S} {τ : mj_T} {v : Nat} : mj_E 188 55 (some (.ref v) :: ls) st σ τ = mj_E 188 56 (some (.ref v) :: ls) (.ref v :: st) σ τ := mj_nx i188_55 rfl
theorem i188_56 : mj_ins 188 56 = some (.aload 0, 57) := by decide +kernel
theorem e188_56 {ls : mj_L} {st : List Value} {σ : mj_S} {τ : mj_T} {v : Nat} : mj_E 188 56 (some (.ref v) :: ls) st σ τ = mj_E 188 57 (some (.ref v) :: ls) (.ref v :: st) σ τ := mj_nx i188_56 rfl
theorem i188_57 : mj_ins 188 57 = some (.getfield 701, 60) := by decide +kernel
theorem e188_57 {ls : mj_L} {st : List Value} {σ : mj_S} {τ : mj_T} : mj_E 188 57 ls (.ref 62 :: st) σ τ = mj_E 188 60 ls (.int (σ 62 1) :: st) σ τ := mj_nx i188_57 rfl
theorem i188_60 : mj_ins 188 60 = some (.invokevirtual 186, 63) := by decide +kernel
theorem e188_60 {ls : mj_L} {σ : mj_S} {τ : mj_T} {r : Nat} {x0 : Int32} : mj_E 188 60 ls [.int x0, .ref r] σ τ = if mj_rcv r 7 = true then mj_bd (mj_C 186 [.ref r, .int x0] σ τ) (mj_K 188 63 ls []) else none := mj_clV (as := [.int x0]) (r := []) i188_60 (by decide +kernel : mj_vk 188 186 1 0 2 false = true) (by decide +kernel)
theorem i188_63 : mj_ins 188 63 = some (.istore 4, 65) := by decide +kernel
theorem e188_63 {ls : mj_L} {st : List Value} {σ : mj_S} {τ : mj_T} {a0 a1 a2 a3 a4 : Option Value} {v : Int32} : mj_E 188 63 (a0 :: a1 :: a2 :: a3 :: a4 :: ls) (.int v :: st) σ τ = mj_E 188 65 (a0 :: a1 :: a2 :: a3 :: some (.int v) :: ls) st σ τ := mj_nx i188_63 rfl
theorem i188_65 : mj_ins 188 65 = some (.iconst (1), 66) := by decide +kernel
theorem e188_65 {ls : mj_L} {st : List Value} {σ : mj_S} {τ : mj_T} : mj_E 188 65 ls st σ τ = mj_E 188 66 ls (.int (nI 1) :: st) σ τ := mj_nx i188_65 rfl
theorem i188_66 : mj_ins 188 66 = some (.aload 0, 67) := by decide +kernel
theorem e188_66 {ls : mj_L} {st : List Value} {σ : mj_S} {τ : mj_T} {v : Nat} : mj_E 188 66 (some (.ref v) :: ls) st σ τ = mj_E 188 67 (some (.ref v) :: ls) (.ref v :: st) σ τ := mj_nx i188_66 rfl
theorem i188_67 : mj_ins 188 67 = some (.iconst (3), 68) := by decide +kernel
theorem e188_67 {ls : mj_L} {st : List Value} {σ : mj_S} {τ : mj_T} : mj_E 188 67 ls st σ τ = mj_E 188 68 ls (.int (nI 3) :: st) σ τ := mj_nx i188_67 rfl
theorem i188_68 : mj_ins 188 68 = some (.invokevirtual 186, 71) := by decide +kernel
theorem e188_68 {ls : mj_L} {σ : mj_S} {τ : mj_T} {r : Nat} {x0 : Int32} {w0 : Value} : mj_E 188 68 ls [.int x0, .ref r, w0] σ τ = if mj_rcv r 7 = true then mj_bd (mj_C 186 [.ref r, .int x0] σ τ) (mj_K 188 71 ls [w0]) else none := mj_clV (as := [.int x0]) (r := [w0]) i188_68 (by decide +kernel : mj_vk 188 186 1 1 2 false = true) (by decide +kernel)
theorem i188_71 : mj_ins 188 71 = some (.iadd, 72) := by decide +kernel
theorem e188_71 {ls : mj_L} {st : List Value} {σ : mj_S} {τ : mj_T} {x y : Int32} : mj_E 188 71 ls (.int y :: .int x :: st) σ τ = mj_E 188 72 ls (.int (x + y) :: st) σ τ := mj_nx i188_71 rfl
theorem i188_72 : mj_ins 188 72 = some (.istore 5, 74) := by decide +kernel
theorem e188_72 {ls : mj_L} {st : List Value} {σ : mj_S} {τ : mj_T} {a0 a1 a2 a3 a4 a5 : Option Value} {v : Int32} : mj_E 188 72 (a0 :: a1 :: a2 :: a3 :: a4 :: a5 :: ls) (.int v :: st) σ τ = mj_E 188 74 (a0 :: a1 :: a2 :: a3 :: a4 :: some (.int v) :: ls) st σ τ := mj_nx i188_72 rfl
theorem i188_74 : mj_ins 188 74 = some (.aload 0, 75) := by decide +kernel
theorem e188_74 {ls : mj_L} {st : List Value} {σ : mj_S} {τ : mj_T} {v : Nat} : mj_E 188 74 (some (.ref v) :: ls) st σ τ = mj_E 188 75 (some (.ref v) :: ls) (.ref v :: st) σ τ := mj_nx i188_74 rfl
theorem i188_75 : mj_ins 188 75 = some (.getfield 707, 78) := by decide +kernel
theorem e188_75 {ls : mj_L} {st : List Value} {σ : mj_S} {τ : mj_T} : mj_E 188 75 ls (.ref 62 :: st) σ τ = mj_E 188 78 ls (.ref 64 :: st) σ τ := mj_nx i188_75 rfl
theorem i188_78 : mj_ins 188 78 = some (.iload 3, 79) := by decide +kernel
theorem e188_78 {ls : mj_L} {st : List Value} {σ : mj_S} {τ : mj_T} {a0 a1 a2 : Option Value} {v : Int32} : mj_E 188 78 (a0 :: a1 :: a2 :: some (.int v) :: ls) st σ τ = mj_E 188 79 (a0 :: a1 :: a2 :: some (.int v) :: ls) (.int v :: st) σ τ := mj_nx i188_78 rfl
theorem i188_79 : mj_ins 188 79 = some (.iaload, 80) := by decide +kernel
theorem e188_79 {ls : mj_L} {st : List Value} {σ : mj_S} {τ : mj_T} {x : Int32} {k : Nat} : mj_E 188 79 ls (.int x :: .ref k :: st) σ τ = if mj_ib (mj_li σ k) x = true then mj_E 188 80 ls (.int (σ k x.toNatClampNeg) :: st) σ τ else none := mj_ald i188_79
theorem i188_80 : mj_ins 188 80 = some (.iconst (4), 81) := by decide +kernel
theorem e188_80 {ls : mj_L} {st : List Value} {σ : mj_S} {τ : mj_T} : mj_E 188 80 ls st σ τ = mj_E 188 81 ls (.int (nI 4) :: st) σ τ := mj_nx i188_80 rfl
theorem i188_81 : mj_ins 188 81 = some (.if_icmp .eq 94, 84) := by decide +kernel
theorem e188_81 {ls : mj_L} {st : List Value} {σ : mj_S} {τ : mj_T} {x y : Int32} : mj_E 188 81 ls (.int y :: .int x :: st) σ τ = if x = y then mj_E 188 94 ls st σ τ else mj_E 188 84 ls st σ τ := (mj_ifi i188_81).trans (mj_cdT rfl)
theorem i188_84 : mj_ins 188 84 = some (.aload 0, 85) := by decide +kernel
theorem e188_84 {ls : mj_L} {st : List Value} {σ : mj_S} {τ : mj_T} {v : Nat} : mj_E 188 84 (some (.ref v) :: ls) st σ τ = mj_E 188 85 (some (.ref v) :: ls) (.ref v :: st) σ τ := mj_nx i188_84 rfl
theorem i188_85 : mj_ins 188 85 = some (.iload 4, 87) := by decide +kernel
theorem e188_85 {ls : mj_L} {st : List Value} {σ : mj_S} {τ : mj_T} {a0 a1 a2 a3 : Option Value} {v : Int32} : mj_E 188 85 (a0 :: a1 :: a2 :: a3 :: some (.int v) :: ls) st σ τ = mj_E 188 87 (a0 :: a1 :: a2 :: a3 :: some (.int v) :: ls) (.int v :: st) σ τ := mj_nx i188_85 rfl
theorem i188_87 : mj_ins 188 87 = some (.iload 3, 88) := by decide +kernel
theorem e188_87 {ls : mj_L} {st : List Value} {σ : mj_S} {τ : mj_T} {a0 a1 a2 : Option Value} {v : Int32} : mj_E 188 87 (a0 :: a1 :: a2 :: some (.int v) :: ls) st σ τ = mj_E 188 88 (a0 :: a1 :: a2 :: some (.int v) :: ls) (.int v :: st) σ τ := mj_nx i188_87 rfl
theorem i188_88 : mj_ins 188 88 = some (.iload 5, 90) := by decide +kernel
theorem e188_88 {ls : mj_L} {st : List Value} {σ : mj_S} {τ : mj_T} {a0 a1 a2 a3 a4 : Option Value} {v : Int32} : mj_E 188 88 (a0 :: a1 :: a2 :: a3 :: a4 :: some (.int v) :: ls) st σ τ = mj_E 188 90 (a0 :: a1 :: a2 :: a3 :: a4 :: some (.int v) :: ls) (.int v :: st) σ τ := mj_nx i188_88 rfl
theorem i188_90 : mj_ins 188 90 = some (.invokevirtual 139, 93) := by decide +kernel
theorem e188_90 {ls : mj_L} {σ : mj_S} {τ : mj_T} {r : Nat} {x0 : Int32} {x1 : Int32} {x2 : Int32} : mj_E 188 90 ls [.int x2, .int x1, .int x0, .ref r] σ τ = if mj_rcv r 7 = true then mj_bd (mj_C 139 [.ref r, .int x0, .int x1, .int x2] σ τ) (mj_K 188 93 ls []) else none := mj_clV (as := [.int x0, .int x1, .int x2]) (r := []) i188_90 (by decide +kernel : mj_vk 188 139 3 0 4 false = true) (by decide +kernel)
theorem i188_93 : mj_ins 188 93 = some (.pop, 94) := by decide +kernel
theorem e188_93 {ls : mj_L} {st : List Value} {σ : mj_S} {τ : mj_T} {v : Int32} : mj_E 188 93 ls (.int v :: st) σ τ = mj_E 188 94 ls st σ τ := mj_nx i188_93 rfl
theorem i188_94 : mj_ins 188 94 = some (.aload 0, 95) := by decide +kernel
theorem e188_94 {ls : mj_L} {st : List Value} {σ : mj_S} {τ : mj_T} {v : Nat} : mj_E 188 94 (some (.ref v) :: ls) st σ τ = mj_E 188 95 (some (.ref v) :: ls) (.ref v :: st) σ τ := mj_nx i188_94 rfl
theorem i188_95 : mj_ins 188 95 = some (.invokevirtual 180, 98) := by decide +kernel
theorem e188_95 {ls : mj_L} {σ : mj_S} {τ : mj_T} {r : Nat} : mj_E 188 95 ls [.ref r] σ τ = if mj_rcv r 7 = true then mj_bd (mj_C 180 [.ref r] σ τ) (mj_K 188 98 ls []) else none := mj_clV (as := []) (r := []) i188_95 (by decide +kernel : mj_vk 188 180 0 0 1 false = true) (by decide +kernel)
theorem i188_98 : mj_ins 188 98 = some (.iinc 2 (1), 101) := by decide +kernel
theorem e188_98 {ls : mj_L} {st : List Value} {σ : mj_S} {τ : mj_T} {a0 a1 : Option Value} {v : Int32} : mj_E 188 98 (a0 :: a1 :: some (.int v) :: ls) st σ τ = mj_E 188 101 (a0 :: a1 :: some (.int (v + nI 1)) :: ls) st σ τ := mj_nx i188_98 rfl
theorem i188_101 : mj_ins 188 101 = some (.goto 41, 104) := by decide +kernel
theorem e188_101 {ls : mj_L} {st : List Value} {σ : mj_S} {τ : mj_T} : mj_E 188 101 ls st σ τ = mj_E 188 41 ls st σ τ := mj_nx i188_101 rfl
theorem i188_104 : mj_ins 188 104 = some (.aload 0, 105) := by decide +kernel
theorem e188_104 {ls : mj_L} {st : List Value} {σ : mj_S} {τ : mj_T} {v : Nat} : mj_E 188 104 (some (.ref v) :: ls) st σ τ = mj_E 188 105 (some (.ref v) :: ls) (.ref v :: st) σ τ := mj_nx i188_104 rfl
theorem i188_105 : mj_ins 188 105 = some (.aload 0, 106) := by decide +kernel
theorem e188_105 {ls : mj_L} {st : List Value} {σ : mj_S} {τ : mj_T} {v : Nat} : mj_E 188 105 (some (.ref v) :: ls) st σ τ = mj_E 188 106 (some (.ref v) :: ls) (.ref v :: st) σ τ := mj_nx i188_105 rfl
theorem i188_106 : mj_ins 188 106 = some (.getfield 711, 109) := by decide +kernel
theorem e188_106 {ls : mj_L} {st : List Value} {σ : mj_S} {τ : mj_T} : mj_E 188 106 ls (.ref 62 :: st) σ τ = mj_E 188 109 ls (.ref 68 :: st) σ τ := mj_nx i188_106 rfl
theorem i188_109 : mj_ins 188 109 = some (.aload 0, 110) := by decide +kernel
theorem e188_109 {ls : mj_L} {st : List Value} {σ : mj_S} {τ : mj_T} {v : Nat} : mj_E 188 109 (some (.ref v) :: ls) st σ τ = mj_E 188 110 (some (.ref v) :: ls) (.ref v :: st) σ τ := mj_nx i188_109 rfl
theorem i188_110 : mj_ins 188 110 = some (.getfield 700, 113) := by decide +kernel
theorem e188_110 {ls : mj_L} {st : List Value} {σ : mj_S} {τ : mj_T} : mj_E 188 110 ls (.ref 62 :: st) σ τ = mj_E 188 113 ls (.int (σ 62 0) :: st) σ τ := mj_nx i188_110 rfl
theorem i188_113 : mj_ins 188 113 = some (.invokevirtual 187, 116) := by decide +kernel
theorem e188_113 {ls : mj_L} {σ : mj_S} {τ : mj_T} {r : Nat} {x0 : Nat} {x1 : Int32} : mj_E 188 113 ls [.int x1, .ref x0, .ref r] σ τ = if mj_rcv r 7 = true then mj_bd (mj_C 187 [.ref r, .ref x0, .int x1] σ τ) (mj_K 188 116 ls []) else none := mj_clV (as := [.ref x0, .int x1]) (r := []) i188_113 (by decide +kernel : mj_vk 188 187 2 0 3 false = true) (by decide +kernel)
theorem i188_116 : mj_ins 188 116 = some (.ireturn, 117) := by decide +kernel
theorem e188_116 {ls : mj_L} {σ : mj_S} {τ : mj_T} {v : Int32} : mj_E 188 116 ls [.int v] σ τ = some (some (.int v), σ, τ) := mj_irt i188_116 rfl
theorem c189 {σ : mj_S} {τ : mj_T} {r : Nat} {x0 : Int32} : mj_C 189 [.ref r, .int x0] σ τ = mj_E 189 0 [some (.ref r), some (.int x0), none] [] σ τ := rfl
theorem i189_0 : mj_ins 189 0 = some (.aload 0, 1) := by decide +kernel
theorem e189_0 {ls : mj_L} {st : List Value} {σ : mj_S} {τ : mj_T} {v : Nat} : mj_E 189 0 (some (.ref v) :: ls) st σ τ = mj_E 189 1 (some (.ref v) :: ls) (.ref v :: st) σ τ := mj_nx i189_0 rfl
theorem i189_1 : mj_ins 189 1 = some (.getfield 704, 4) := by decide +kernel
theorem e189_1 {ls : mj_L} {st : List Value} {σ : mj_S} {τ : mj_T} : mj_E 189 1 ls (.ref 62 :: st) σ τ = mj_E 189 4 ls (.int (σ 62 4) :: st) σ τ := mj_nx i189_1 rfl
theorem i189_4 : mj_ins 189 4 = some (.istore 2, 5) := by decide +kernel
theorem e189_4 {ls : mj_L} {st : List Value} {σ : mj_S} {τ : mj_T} {a0 a1 a2 : Option Value} {v : Int32} : mj_E 189 4 (a0 :: a1 :: a2 :: ls) (.int v :: st) σ τ = mj_E 189 5 (a0 :: a1 :: some (.int v) :: ls) st σ τ := mj_nx i189_4 rfl
theorem i189_5 : mj_ins 189 5 = some (.aload 0, 6) := by decide +kernel
theorem e189_5 {ls : mj_L} {st : List Value} {σ : mj_S} {τ : mj_T} {v : Nat} : mj_E 189 5 (some (.ref v) :: ls) st σ τ = mj_E 189 6 (some (.ref v) :: ls) (.ref v :: st) σ τ := mj_nx i189_5 rfl
theorem i189_6 : mj_ins 189 6 = some (.iload 1, 7) := by decide +kernel
theorem e189_6 {ls : mj_L} {st : List Value} {σ : mj_S} {τ : mj_T} {a0 : Option Value} {v : Int32} : mj_E 189 6 (a0 :: some (.int v) :: ls) st σ τ = mj_E 189 7 (a0 :: some (.int v) :: ls) (.int v :: st) σ τ := mj_nx i189_6 rfl
theorem i189_7 : mj_ins 189 7 = some (.putfield 704, 10) := by decide +kernel
theorem e189_7 {ls : mj_L} {st : List Value} {σ : mj_S} {τ : mj_T} {v : Int32} : mj_E 189 7 ls (.int v :: .ref 62 :: st) σ τ = mj_E 189 10 ls st (mj_up σ 62 4 v) τ := mj_nx i189_7 rfl
theorem i189_10 : mj_ins 189 10 = some (.iload 2, 11) := by decide +kernel
theorem e189_10 {ls : mj_L} {st : List Value} {σ : mj_S} {τ : mj_T} {a0 a1 : Option Value} {v : Int32} : mj_E 189 10 (a0 :: a1 :: some (.int v) :: ls) st σ τ = mj_E 189 11 (a0 :: a1 :: some (.int v) :: ls) (.int v :: st) σ τ := mj_nx i189_10 rfl
theorem i189_11 : mj_ins 189 11 = some (.ireturn, 12) := by decide +kernel
theorem e189_11 {ls : mj_L} {σ : mj_S} {τ : mj_T} {v : Int32} : mj_E 189 11 ls [.int v] σ τ = some (some (.int v), σ, τ) := mj_irt i189_11 rfl
theorem c190 {σ : mj_S} {τ : mj_T} {r : Nat} {x0 : Int32} : mj_C 190 [.ref r, .int x0] σ τ = mj_E 190 0 [some (.ref r), some (.int x0)] [] σ τ := rfl
theorem i190_0 : mj_ins 190 0 = some (.aload 0, 1) := by decide +kernel
theorem e190_0 {ls : mj_L} {st : List Value} {σ : mj_S} {τ : mj_T} {v : Nat} : mj_E 190 0 (some (.ref v) :: ls) st σ τ = mj_E 190 1 (some (.ref v) :: ls) (.ref v :: st) σ τ := mj_nx i190_0 rfl
theorem i190_1 : mj_ins 190 1 = some (.getfield 741, 4) := by decide +kernel
theorem e190_1 {ls : mj_L} {st : List Value} {σ : mj_S} {τ : mj_T} : mj_E 190 1 ls (.ref 62 :: st) σ τ = mj_E 190 4 ls (.int (σ 62 41) :: st) σ τ := mj_nx i190_1 rfl
theorem i190_4 : mj_ins 190 4 = some (.iconst (20), 6) := by decide +kernel
theorem e190_4 {ls : mj_L} {st : List Value} {σ : mj_S} {τ : mj_T} : mj_E 190 4 ls st σ τ = mj_E 190 6 ls (.int (nI 20) :: st) σ τ := mj_nx i190_4 rfl
theorem i190_6 : mj_ins 190 6 = some (.if_icmp .ge 19, 9) := by decide +kernel
theorem e190_6 {ls : mj_L} {st : List Value} {σ : mj_S} {τ : mj_T} {x y : Int32} : mj_E 190 6 ls (.int y :: .int x :: st) σ τ = if y ≤ x then mj_E 190 19 ls st σ τ else mj_E 190 9 ls st σ τ := (mj_ifi i190_6).trans (mj_cdT rfl)
theorem i190_9 : mj_ins 190 9 = some (.aload 0, 10) := by decide +kernel
theorem e190_9 {ls : mj_L} {st : List Value} {σ : mj_S} {τ : mj_T} {v : Nat} : mj_E 190 9 (some (.ref v) :: ls) st σ τ = mj_E 190 10 (some (.ref v) :: ls) (.ref v :: st) σ τ := mj_nx i190_9 rfl
theorem i190_10 : mj_ins 190 10 = some (.getfield 740, 13) := by decide +kernel
theorem e190_10 {ls : mj_L} {st : List Value} {σ : mj_S} {τ : mj_T} : mj_E 190 10 ls (.ref 62 :: st) σ τ = mj_E 190 13 ls (.ref 89 :: st) σ τ := mj_nx i190_10 rfl
theorem i190_13 : mj_ins 190 13 = some (.aload 0, 14) := by decide +kernel
theorem e190_13 {ls : mj_L} {st : List Value} {σ : mj_S} {τ : mj_T} {v : Nat} : mj_E 190 13 (some (.ref v) :: ls) st σ τ = mj_E 190 14 (some (.ref v) :: ls) (.ref v :: st) σ τ := mj_nx i190_13 rfl
theorem i190_14 : mj_ins 190 14 = some (.getfield 741, 17) := by decide +kernel
theorem e190_14 {ls : mj_L} {st : List Value} {σ : mj_S} {τ : mj_T} : mj_E 190 14 ls (.ref 62 :: st) σ τ = mj_E 190 17 ls (.int (σ 62 41) :: st) σ τ := mj_nx i190_14 rfl
theorem i190_17 : mj_ins 190 17 = some (.iload 1, 18) := by decide +kernel
theorem e190_17 {ls : mj_L} {st : List Value} {σ : mj_S} {τ : mj_T} {a0 : Option Value} {v : Int32} : mj_E 190 17 (a0 :: some (.int v) :: ls) st σ τ = mj_E 190 18 (a0 :: some (.int v) :: ls) (.int v :: st) σ τ := mj_nx i190_17 rfl
theorem i190_18 : mj_ins 190 18 = some (.iastore, 19) := by decide +kernel
theorem e190_18 {ls : mj_L} {st : List Value} {σ : mj_S} {τ : mj_T} {x v : Int32} {k : Nat} : mj_E 190 18 ls (.int v :: .int x :: .ref k :: st) σ τ = if mj_ib (mj_lw k) x = true then mj_E 190 19 ls st (mj_up σ k x.toNatClampNeg v) τ else none := mj_ast i190_18
theorem i190_19 : mj_ins 190 19 = some (.aload 0, 20) := by decide +kernel
theorem e190_19 {ls : mj_L} {st : List Value} {σ : mj_S} {τ : mj_T} {v : Nat} : mj_E 190 19 (some (.ref v) :: ls) st σ τ = mj_E 190 20 (some (.ref v) :: ls) (.ref v :: st) σ τ := mj_nx i190_19 rfl
theorem i190_20 : mj_ins 190 20 = some (.dup, 21) := by decide +kernel
theorem e190_20 {ls : mj_L} {st : List Value} {σ : mj_S} {τ : mj_T} {v : Nat} : mj_E 190 20 ls (.ref v :: st) σ τ = mj_E 190 21 ls (.ref v :: .ref v :: st) σ τ := mj_nx i190_20 rfl
theorem i190_21 : mj_ins 190 21 = some (.getfield 741, 24) := by decide +kernel
theorem e190_21 {ls : mj_L} {st : List Value} {σ : mj_S} {τ : mj_T} : mj_E 190 21 ls (.ref 62 :: st) σ τ = mj_E 190 24 ls (.int (σ 62 41) :: st) σ τ := mj_nx i190_21 rfl
theorem i190_24 : mj_ins 190 24 = some (.iconst (1), 25) := by decide +kernel
theorem e190_24 {ls : mj_L} {st : List Value} {σ : mj_S} {τ : mj_T} : mj_E 190 24 ls st σ τ = mj_E 190 25 ls (.int (nI 1) :: st) σ τ := mj_nx i190_24 rfl
theorem i190_25 : mj_ins 190 25 = some (.iadd, 26) := by decide +kernel
theorem e190_25 {ls : mj_L} {st : List Value} {σ : mj_S} {τ : mj_T} {x y : Int32} : mj_E 190 25 ls (.int y :: .int x :: st) σ τ = mj_E 190 26 ls (.int (x + y) :: st) σ τ := mj_nx i190_25 rfl
theorem i190_26 : mj_ins 190 26 = some (.putfield 741, 29) := by decide +kernel
theorem e190_26 {ls : mj_L} {st : List Value} {σ : mj_S} {τ : mj_T} {v : Int32} : mj_E 190 26 ls (.int v :: .ref 62 :: st) σ τ = mj_E 190 29 ls st (mj_up σ 62 41 v) τ := mj_nx i190_26 rfl
theorem i190_29 : mj_ins 190 29 = some (.return_, 30) := by decide +kernel
theorem e190_29 {ls : mj_L} {σ : mj_S} {τ : mj_T} : mj_E 190 29 ls [] σ τ = some (none, σ, τ) := mj_vrt i190_29 rfl
theorem c191 {σ : mj_S} {τ : mj_T} {r : Nat} {x0 : Int32} {x1 : Int32} : mj_C 191 [.ref r, .int x0, .int x1] σ τ = mj_E 191 0 [some (.ref r), some (.int x0), some (.int x1), none, none, none] [] σ τ := rfl
theorem i191_0 : mj_ins 191 0 = some (.aload 0, 1) := by decide +kernel
theorem e191_0 {ls : mj_L} {st : List Value} {σ : mj_S} {τ : mj_T} {v : Nat} : mj_E 191 0 (some (.ref v) :: ls) st σ τ = mj_E 191 1 (some (.ref v) :: ls) (.ref v :: st) σ τ := mj_nx i191_0 rfl
theorem i191_1 : mj_ins 191 1 = some (.getfield 707, 4) := by decide +kernel
theorem e191_1 {ls : mj_L} {st : List Value} {σ : mj_S} {τ : mj_T} : mj_E 191 1 ls (.ref 62 :: st) σ τ = mj_E 191 4 ls (.ref 64 :: st) σ τ := mj_nx i191_1 rfl
theorem i191_4 : mj_ins 191 4 = some (.iload 1, 5) := by decide +kernel
theorem e191_4 {ls : mj_L} {st : List Value} {σ : mj_S} {τ : mj_T} {a0 : Option Value} {v : Int32} : mj_E 191 4 (a0 :: some (.int v) :: ls) st σ τ = mj_E 191 5 (a0 :: some (.int v) :: ls) (.int v :: st) σ τ := mj_nx i191_4 rfl
theorem i191_5 : mj_ins 191 5 = some (.iaload, 6) := by decide +kernel
theorem e191_5 {ls : mj_L} {st : List Value} {σ : mj_S} {τ : mj_T} {x : Int32} {k : Nat} : mj_E 191 5 ls (.int x :: .ref k :: st) σ τ = if mj_ib (mj_li σ k) x = true then mj_E 191 6 ls (.int (σ k x.toNatClampNeg) :: st) σ τ else none := mj_ald i191_5
theorem i191_6 : mj_ins 191 6 = some (.istore 3, 7) := by decide +kernel
theorem e191_6 {ls : mj_L} {st : List Value} {σ : mj_S} {τ : mj_T} {a0 a1 a2 a3 : Option Value} {v : Int32} : mj_E 191 6 (a0 :: a1 :: a2 :: a3 :: ls) (.int v :: st) σ τ = mj_E 191 7 (a0 :: a1 :: a2 :: some (.int v) :: ls) st σ τ := mj_nx i191_6 rfl
theorem i191_7 : mj_ins 191 7 = some (.iload 3, 8) := by decide +kernel
theorem e191_7 {ls : mj_L} {st : List Value} {σ : mj_S} {τ : mj_T} {a0 a1 a2 : Option Value} {v : Int32} : mj_E 191 7 (a0 :: a1 :: a2 :: some (.int v) :: ls) st σ τ = mj_E 191 8 (a0 :: a1 :: a2 :: some (.int v) :: ls) (.int v :: st) σ τ := mj_nx i191_7 rfl
theorem i191_8 : mj_ins 191 8 = some (.iconst (1), 9) := by decide +kernel
theorem e191_8 {ls : mj_L} {st : List Value} {σ : mj_S} {τ : mj_T} : mj_E 191 8 ls st σ τ = mj_E 191 9 ls (.int (nI 1) :: st) σ τ := mj_nx i191_8 rfl
theorem i191_9 : mj_ins 191 9 = some (.if_icmp .eq 23, 12) := by decide +kernel
theorem e191_9 {ls : mj_L} {st : List Value} {σ : mj_S} {τ : mj_T} {x y : Int32} : mj_E 191 9 ls (.int y :: .int x :: st) σ τ = if x = y then mj_E 191 23 ls st σ τ else mj_E 191 12 ls st σ τ := (mj_ifi i191_9).trans (mj_cdT rfl)
theorem i191_12 : mj_ins 191 12 = some (.iload 3, 13) := by decide +kernel
theorem e191_12 {ls : mj_L} {st : List Value} {σ : mj_S} {τ : mj_T} {a0 a1 a2 : Option Value} {v : Int32} : mj_E 191 12 (a0 :: a1 :: a2 :: some (.int v) :: ls) st σ τ = mj_E 191 13 (a0 :: a1 :: a2 :: some (.int v) :: ls) (.int v :: st) σ τ := mj_nx i191_12 rfl
theorem i191_13 : mj_ins 191 13 = some (.iconst (3), 14) := by decide +kernel
theorem e191_13 {ls : mj_L} {st : List Value} {σ : mj_S} {τ : mj_T} : mj_E 191 13 ls st σ τ = mj_E 191 14 ls (.int (nI 3) :: st) σ τ := mj_nx i191_13 rfl
theorem i191_14 : mj_ins 191 14 = some (.if_icmp .eq 23, 17) := by decide +kernel
theorem e191_14 {ls : mj_L} {st : List Value} {σ : mj_S} {τ : mj_T} {x y : Int32} : mj_E 191 14 ls (.int y :: .int x :: st) σ τ = if x = y then mj_E 191 23 ls st σ τ else mj_E 191 17 ls st σ τ := (mj_ifi i191_14).trans (mj_cdT rfl)
theorem i191_17 : mj_ins 191 17 = some (.iload 3, 18) := by decide +kernel
theorem e191_17 {ls : mj_L} {st : List Value} {σ : mj_S} {τ : mj_T} {a0 a1 a2 : Option Value} {v : Int32} : mj_E 191 17 (a0 :: a1 :: a2 :: some (.int v) :: ls) st σ τ = mj_E 191 18 (a0 :: a1 :: a2 :: some (.int v) :: ls) (.int v :: st) σ τ := mj_nx i191_17 rfl
theorem i191_18 : mj_ins 191 18 = some (.iconst (6), 20) := by decide +kernel
theorem e191_18 {ls : mj_L} {st : List Value} {σ : mj_S} {τ : mj_T} : mj_E 191 18 ls st σ τ = mj_E 191 20 ls (.int (nI 6) :: st) σ τ := mj_nx i191_18 rfl
theorem i191_20 : mj_ins 191 20 = some (.if_icmp .ne 27, 23) := by decide +kernel
theorem e191_20 {ls : mj_L} {st : List Value} {σ : mj_S} {τ : mj_T} {x y : Int32} : mj_E 191 20 ls (.int y :: .int x :: st) σ τ = if x = y then mj_E 191 23 ls st σ τ else mj_E 191 27 ls st σ τ := (mj_ifi i191_20).trans (mj_cdF rfl)
theorem i191_23 : mj_ins 191 23 = some (.iconst (1), 24) := by decide +kernel
theorem e191_23 {ls : mj_L} {st : List Value} {σ : mj_S} {τ : mj_T} : mj_E 191 23 ls st σ τ = mj_E 191 24 ls (.int (nI 1) :: st) σ τ := mj_nx i191_23 rfl
theorem i191_24 : mj_ins 191 24 = some (.goto 28, 27) := by decide +kernel
theorem e191_24 {ls : mj_L} {st : List Value} {σ : mj_S} {τ : mj_T} : mj_E 191 24 ls st σ τ = mj_E 191 28 ls st σ τ := mj_nx i191_24 rfl
theorem i191_27 : mj_ins 191 27 = some (.iconst (0), 28) := by decide +kernel
theorem e191_27 {ls : mj_L} {st : List Value} {σ : mj_S} {τ : mj_T} : mj_E 191 27 ls st σ τ = mj_E 191 28 ls (.int (nI 0) :: st) σ τ := mj_nx i191_27 rfl
theorem i191_28 : mj_ins 191 28 = some (.istore 4, 30) := by decide +kernel
theorem e191_28 {ls : mj_L} {st : List Value} {σ : mj_S} {τ : mj_T} {a0 a1 a2 a3 a4 : Option Value} {v : Int32} : mj_E 191 28 (a0 :: a1 :: a2 :: a3 :: a4 :: ls) (.int v :: st) σ τ = mj_E 191 30 (a0 :: a1 :: a2 :: a3 :: some (.int v) :: ls) st σ τ := mj_nx i191_28 rfl
theorem i191_30 : mj_ins 191 30 = some (.iload 3, 31) := by decide +kernel
theorem e191_30 {ls : mj_L} {st : List Value} {σ : mj_S} {τ : mj_T} {a0 a1 a2 : Option Value} {v : Int32} : mj_E 191 30 (a0 :: a1 :: a2 :: some (.int v) :: ls) st σ τ = mj_E 191 31 (a0 :: a1 :: a2 :: some (.int v) :: ls) (.int v :: st) σ τ := mj_nx i191_30 rfl
theorem i191_31 : mj_ins 191 31 = some (.iconst (6), 33) := by decide +kernel
theorem e191_31 {ls : mj_L} {st : List Value} {σ : mj_S} {τ : mj_T} : mj_E 191 31 ls st σ τ = mj_E 191 33 ls (.int (nI 6) :: st) σ τ := mj_nx i191_31 rfl
theorem i191_33 : mj_ins 191 33 = some (.if_icmp .ne 42, 36) := by decide +kernel
theorem e191_33 {ls : mj_L} {st : List Value} {σ : mj_S} {τ : mj_T} {x y : Int32} : mj_E 191 33 ls (.int y :: .int x :: st) σ τ = if x = y then mj_E 191 36 ls st σ τ else mj_E 191 42 ls st σ τ := (mj_ifi i191_33).trans (mj_cdF rfl)
theorem i191_36 : mj_ins 191 36 = some (.aload 0, 37) := by decide +kernel
theorem e191_36 {ls : mj_L} {st : List Value} {σ : mj_S} {τ : mj_T} {v : Nat} : mj_E 191 36 (some (.ref v) :: ls) st σ τ = mj_E 191 37 (some (.ref v) :: ls) (.ref v :: st) σ τ := mj_nx i191_36 rfl
theorem i191_37 : mj_ins 191 37 = some (.iconst (70), 39) := by decide +kernel
theorem e191_37 {ls : mj_L} {st : List Value} {σ : mj_S} {τ : mj_T} : mj_E 191 37 ls st σ τ = mj_E 191 39 ls (.int (nI 70) :: st) σ τ := mj_nx i191_37 rfl
theorem i191_39 : mj_ins 191 39 = some (.invokevirtual 190, 42) := by decide +kernel
theorem e191_39 {ls : mj_L} {σ : mj_S} {τ : mj_T} {r : Nat} {x0 : Int32} : mj_E 191 39 ls [.int x0, .ref r] σ τ = if mj_rcv r 7 = true then mj_bd (mj_C 190 [.ref r, .int x0] σ τ) (mj_K 191 42 ls []) else none := mj_clV (as := [.int x0]) (r := []) i191_39 (by decide +kernel : mj_vk 191 190 1 0 2 false = true) (by decide +kernel)
theorem i191_42 : mj_ins 191 42 = some (.iload 4, 44) := by decide +kernel
theorem e191_42 {ls : mj_L} {st : List Value} {σ : mj_S} {τ : mj_T} {a0 a1 a2 a3 : Option Value} {v : Int32} : mj_E 191 42 (a0 :: a1 :: a2 :: a3 :: some (.int v) :: ls) st σ τ = mj_E 191 44 (a0 :: a1 :: a2 :: a3 :: some (.int v) :: ls) (.int v :: st) σ τ := mj_nx i191_42 rfl
theorem i191_44 : mj_ins 191 44 = some (.ifCond .eq 53, 47) := by decide +kernel
theorem e191_44 {ls : mj_L} {st : List Value} {σ : mj_S} {τ : mj_T} {x : Int32} : mj_E 191 44 ls (.int x :: st) σ τ = if x = 0 then mj_E 191 53 ls st σ τ else mj_E 191 47 ls st σ τ := (mj_ifc i191_44).trans (mj_cdT rfl)
theorem i191_47 : mj_ins 191 47 = some (.aload 0, 48) := by decide +kernel
theorem e191_47 {ls : mj_L} {st : List Value} {σ : mj_S} {τ : mj_T} {v : Nat} : mj_E 191 47 (some (.ref v) :: ls) st σ τ = mj_E 191 48 (some (.ref v) :: ls) (.ref v :: st) σ τ := mj_nx i191_47 rfl
theorem i191_48 : mj_ins 191 48 = some (.iconst (20), 50) := by decide +kernel
theorem e191_48 {ls : mj_L} {st : List Value} {σ : mj_S} {τ : mj_T} : mj_E 191 48 ls st σ τ = mj_E 191 50 ls (.int (nI 20) :: st) σ τ := mj_nx i191_48 rfl
theorem i191_50 : mj_ins 191 50 = some (.invokevirtual 190, 53) := by decide +kernel
theorem e191_50 {ls : mj_L} {σ : mj_S} {τ : mj_T} {r : Nat} {x0 : Int32} : mj_E 191 50 ls [.int x0, .ref r] σ τ = if mj_rcv r 7 = true then mj_bd (mj_C 190 [.ref r, .int x0] σ τ) (mj_K 191 53 ls []) else none := mj_clV (as := [.int x0]) (r := []) i191_50 (by decide +kernel : mj_vk 191 190 1 0 2 false = true) (by decide +kernel)
theorem i191_53 : mj_ins 191 53 = some (.iload 3, 54) := by decide +kernel
theorem e191_53 {ls : mj_L} {st : List Value} {σ : mj_S} {τ : mj_T} {a0 a1 a2 : Option Value} {v : Int32} : mj_E 191 53 (a0 :: a1 :: a2 :: some (.int v) :: ls) st σ τ = mj_E 191 54 (a0 :: a1 :: a2 :: some (.int v) :: ls) (.int v :: st) σ τ := mj_nx i191_53 rfl
theorem i191_54 : mj_ins 191 54 = some (.iconst (4), 55) := by decide +kernel
theorem e191_54 {ls : mj_L} {st : List Value} {σ : mj_S} {τ : mj_T} : mj_E 191 54 ls st σ τ = mj_E 191 55 ls (.int (nI 4) :: st) σ τ := mj_nx i191_54 rfl
theorem i191_55 : mj_ins 191 55 = some (.if_icmp .ne 64, 58) := by decide +kernel
theorem e191_55 {ls : mj_L} {st : List Value} {σ : mj_S} {τ : mj_T} {x y : Int32} : mj_E 191 55 ls (.int y :: .int x :: st) σ τ = if x = y then mj_E 191 58 ls st σ τ else mj_E 191 64 ls st σ τ := (mj_ifi i191_55).trans (mj_cdF rfl)
theorem i191_58 : mj_ins 191 58 = some (.aload 0, 59) := by decide +kernel
theorem e191_58 {ls : mj_L} {st : List Value} {σ : mj_S} {τ : mj_T} {v : Nat} : mj_E 191 58 (some (.ref v) :: ls) st σ τ = mj_E 191 59 (some (.ref v) :: ls) (.ref v :: st) σ τ := mj_nx i191_58 rfl
theorem i191_59 : mj_ins 191 59 = some (.iconst (51), 61) := by decide +kernel
theorem e191_59 {ls : mj_L} {st : List Value} {σ : mj_S} {τ : mj_T} : mj_E 191 59 ls st σ τ = mj_E 191 61 ls (.int (nI 51) :: st) σ τ := mj_nx i191_59 rfl
theorem i191_61 : mj_ins 191 61 = some (.invokevirtual 190, 64) := by decide +kernel
theorem e191_61 {ls : mj_L} {σ : mj_S} {τ : mj_T} {r : Nat} {x0 : Int32} : mj_E 191 61 ls [.int x0, .ref r] σ τ = if mj_rcv r 7 = true then mj_bd (mj_C 190 [.ref r, .int x0] σ τ) (mj_K 191 64 ls []) else none := mj_clV (as := [.int x0]) (r := []) i191_61 (by decide +kernel : mj_vk 191 190 1 0 2 false = true) (by decide +kernel)
theorem i191_64 : mj_ins 191 64 = some (.aload 0, 65) := by decide +kernel
theorem e191_64 {ls : mj_L} {st : List Value} {σ : mj_S} {τ : mj_T} {v : Nat} : mj_E 191 64 (some (.ref v) :: ls) st σ τ = mj_E 191 65 (some (.ref v) :: ls) (.ref v :: st) σ τ := mj_nx i191_64 rfl
theorem i191_65 : mj_ins 191 65 = some (.iconst (10), 67) := by decide +kernel
theorem e191_65 {ls : mj_L} {st : List Value} {σ : mj_S} {τ : mj_T} : mj_E 191 65 ls st σ τ = mj_E 191 67 ls (.int (nI 10) :: st) σ τ := mj_nx i191_65 rfl
theorem i191_67 : mj_ins 191 67 = some (.invokevirtual 190, 70) := by decide +kernel
theorem e191_67 {ls : mj_L} {σ : mj_S} {τ : mj_T} {r : Nat} {x0 : Int32} : mj_E 191 67 ls [.int x0, .ref r] σ τ = if mj_rcv r 7 = true then mj_bd (mj_C 190 [.ref r, .int x0] σ τ) (mj_K 191 70 ls []) else none := mj_clV (as := [.int x0]) (r := []) i191_67 (by decide +kernel : mj_vk 191 190 1 0 2 false = true) (by decide +kernel)
theorem i191_70 : mj_ins 191 70 = some (.iload 2, 71) := by decide +kernel
theorem e191_70 {ls : mj_L} {st : List Value} {σ : mj_S} {τ : mj_T} {a0 a1 : Option Value} {v : Int32} : mj_E 191 70 (a0 :: a1 :: some (.int v) :: ls) st σ τ = mj_E 191 71 (a0 :: a1 :: some (.int v) :: ls) (.int v :: st) σ τ := mj_nx i191_70 rfl
theorem i191_71 : mj_ins 191 71 = some (.iload 1, 72) := by decide +kernel
theorem e191_71 {ls : mj_L} {st : List Value} {σ : mj_S} {τ : mj_T} {a0 : Option Value} {v : Int32} : mj_E 191 71 (a0 :: some (.int v) :: ls) st σ τ = mj_E 191 72 (a0 :: some (.int v) :: ls) (.int v :: st) σ τ := mj_nx i191_71 rfl
theorem i191_72 : mj_ins 191 72 = some (.iadd, 73) := by decide +kernel
theorem e191_72 {ls : mj_L} {st : List Value} {σ : mj_S} {τ : mj_T} {x y : Int32} : mj_E 191 72 ls (.int y :: .int x :: st) σ τ = mj_E 191 73 ls (.int (x + y) :: st) σ τ := mj_nx i191_72 rfl
theorem i191_73 : mj_ins 191 73 = some (.istore 5, 75) := by decide +kernel
theorem e191_73 {ls : mj_L} {st : List Value} {σ : mj_S} {τ : mj_T} {a0 a1 a2 a3 a4 a5 : Option Value} {v : Int32} : mj_E 191 73 (a0 :: a1 :: a2 :: a3 :: a4 :: a5 :: ls) (.int v :: st) σ τ = mj_E 191 75 (a0 :: a1 :: a2 :: a3 :: a4 :: some (.int v) :: ls) st σ τ := mj_nx i191_73 rfl
theorem i191_75 : mj_ins 191 75 = some (.iload 4, 77) := by decide +kernel
theorem e191_75 {ls : mj_L} {st : List Value} {σ : mj_S} {τ : mj_T} {a0 a1 a2 a3 : Option Value} {v : Int32} : mj_E 191 75 (a0 :: a1 :: a2 :: a3 :: some (.int v) :: ls) st σ τ = mj_E 191 77 (a0 :: a1 :: a2 :: a3 :: some (.int v) :: ls) (.int v :: st) σ τ := mj_nx i191_75 rfl
theorem i191_77 : mj_ins 191 77 = some (.ifCond .eq 91, 80) := by decide +kernel
theorem e191_77 {ls : mj_L} {st : List Value} {σ : mj_S} {τ : mj_T} {x : Int32} : mj_E 191 77 ls (.int x :: st) σ τ = if x = 0 then mj_E 191 91 ls st σ τ else mj_E 191 80 ls st σ τ := (mj_ifc i191_77).trans (mj_cdT rfl)
theorem i191_80 : mj_ins 191 80 = some (.iload 5, 82) := by decide +kernel
theorem e191_80 {ls : mj_L} {st : List Value} {σ : mj_S} {τ : mj_T} {a0 a1 a2 a3 a4 : Option Value} {v : Int32} : mj_E 191 80 (a0 :: a1 :: a2 :: a3 :: a4 :: some (.int v) :: ls) st σ τ = mj_E 191 82 (a0 :: a1 :: a2 :: a3 :: a4 :: some (.int v) :: ls) (.int v :: st) σ τ := mj_nx i191_80 rfl
theorem i191_82 : mj_ins 191 82 = some (.aload 0, 83) := by decide +kernel
theorem e191_82 {ls : mj_L} {st : List Value} {σ : mj_S} {τ : mj_T} {v : Nat} : mj_E 191 82 (some (.ref v) :: ls) st σ τ = mj_E 191 83 (some (.ref v) :: ls) (.ref v :: st) σ τ := mj_nx i191_82 rfl
theorem i191_83 : mj_ins 191 83 = some (.getfield 708, 86) := by decide +kernel
theorem e191_83 {ls : mj_L} {st : List Value} {σ : mj_S} {τ : mj_T} : mj_E 191 83 ls (.ref 62 :: st) σ τ = mj_E 191 86 ls (.ref 65 :: st) σ τ := mj_nx i191_83 rfl
theorem i191_86 : mj_ins 191 86 = some (.iload 1, 87) := by decide +kernel
theorem e191_86 {ls : mj_L} {st : List Value} {σ : mj_S} {τ : mj_T} {a0 : Option Value} {v : Int32} : mj_E 191 86 (a0 :: some (.int v) :: ls) st σ τ = mj_E 191 87 (a0 :: some (.int v) :: ls) (.int v :: st) σ τ := mj_nx i191_86 rfl
theorem i191_87 : mj_ins 191 87 = some (.iaload, 88) := by decide +kernel
theorem e191_87 {ls : mj_L} {st : List Value} {σ : mj_S} {τ : mj_T} {x : Int32} {k : Nat} : mj_E 191 87 ls (.int x :: .ref k :: st) σ τ = if mj_ib (mj_li σ k) x = true then mj_E 191 88 ls (.int (σ k x.toNatClampNeg) :: st) σ τ else none := mj_ald i191_87
theorem i191_88 : mj_ins 191 88 = some (.iadd, 89) := by decide +kernel
theorem e191_88 {ls : mj_L} {st : List Value} {σ : mj_S} {τ : mj_T} {x y : Int32} : mj_E 191 88 ls (.int y :: .int x :: st) σ τ = mj_E 191 89 ls (.int (x + y) :: st) σ τ := mj_nx i191_88 rfl
theorem i191_89 : mj_ins 191 89 = some (.istore 5, 91) := by decide +kernel
theorem e191_89 {ls : mj_L} {st : List Value} {σ : mj_S} {τ : mj_T} {a0 a1 a2 a3 a4 a5 : Option Value} {v : Int32} : mj_E 191 89 (a0 :: a1 :: a2 :: a3 :: a4 :: a5 :: ls) (.int v :: st) σ τ = mj_E 191 91 (a0 :: a1 :: a2 :: a3 :: a4 :: some (.int v) :: ls) st σ τ := mj_nx i191_89 rfl
theorem i191_91 : mj_ins 191 91 = some (.iload 3, 92) := by decide +kernel
theorem e191_91 {ls : mj_L} {st : List Value} {σ : mj_S} {τ : mj_T} {a0 a1 a2 : Option Value} {v : Int32} : mj_E 191 91 (a0 :: a1 :: a2 :: some (.int v) :: ls) st σ τ = mj_E 191 92 (a0 :: a1 :: a2 :: some (.int v) :: ls) (.int v :: st) σ τ := mj_nx i191_91 rfl
theorem i191_92 : mj_ins 191 92 = some (.iconst (4), 93) := by decide +kernel
theorem e191_92 {ls : mj_L} {st : List Value} {σ : mj_S} {τ : mj_T} : mj_E 191 92 ls st σ τ = mj_E 191 93 ls (.int (nI 4) :: st) σ τ := mj_nx i191_92 rfl
theorem i191_93 : mj_ins 191 93 = some (.if_icmp .ne 102, 96) := by decide +kernel
theorem e191_93 {ls : mj_L} {st : List Value} {σ : mj_S} {τ : mj_T} {x y : Int32} : mj_E 191 93 ls (.int y :: .int x :: st) σ τ = if x = y then mj_E 191 96 ls st σ τ else mj_E 191 102 ls st σ τ := (mj_ifi i191_93).trans (mj_cdF rfl)
theorem i191_96 : mj_ins 191 96 = some (.iload 5, 98) := by decide +kernel
theorem e191_96 {ls : mj_L} {st : List Value} {σ : mj_S} {τ : mj_T} {a0 a1 a2 a3 a4 : Option Value} {v : Int32} : mj_E 191 96 (a0 :: a1 :: a2 :: a3 :: a4 :: some (.int v) :: ls) st σ τ = mj_E 191 98 (a0 :: a1 :: a2 :: a3 :: a4 :: some (.int v) :: ls) (.int v :: st) σ τ := mj_nx i191_96 rfl
theorem i191_98 : mj_ins 191 98 = some (.iload 1, 99) := by decide +kernel
theorem e191_98 {ls : mj_L} {st : List Value} {σ : mj_S} {τ : mj_T} {a0 : Option Value} {v : Int32} : mj_E 191 98 (a0 :: some (.int v) :: ls) st σ τ = mj_E 191 99 (a0 :: some (.int v) :: ls) (.int v :: st) σ τ := mj_nx i191_98 rfl
theorem i191_99 : mj_ins 191 99 = some (.isub, 100) := by decide +kernel
theorem e191_99 {ls : mj_L} {st : List Value} {σ : mj_S} {τ : mj_T} {x y : Int32} : mj_E 191 99 ls (.int y :: .int x :: st) σ τ = mj_E 191 100 ls (.int (x - y) :: st) σ τ := mj_nx i191_99 rfl
theorem i191_100 : mj_ins 191 100 = some (.istore 5, 102) := by decide +kernel
theorem e191_100 {ls : mj_L} {st : List Value} {σ : mj_S} {τ : mj_T} {a0 a1 a2 a3 a4 a5 : Option Value} {v : Int32} : mj_E 191 100 (a0 :: a1 :: a2 :: a3 :: a4 :: a5 :: ls) (.int v :: st) σ τ = mj_E 191 102 (a0 :: a1 :: a2 :: a3 :: a4 :: some (.int v) :: ls) st σ τ := mj_nx i191_100 rfl
theorem i191_102 : mj_ins 191 102 = some (.iload 3, 103) := by decide +kernel
theorem e191_102 {ls : mj_L} {st : List Value} {σ : mj_S} {τ : mj_T} {a0 a1 a2 : Option Value} {v : Int32} : mj_E 191 102 (a0 :: a1 :: a2 :: some (.int v) :: ls) st σ τ = mj_E 191 103 (a0 :: a1 :: a2 :: some (.int v) :: ls) (.int v :: st) σ τ := mj_nx i191_102 rfl
theorem i191_103 : mj_ins 191 103 = some (.iconst (6), 105) := by decide +kernel
theorem e191_103 {ls : mj_L} {st : List Value} {σ : mj_S} {τ : mj_T} : mj_E 191 103 ls st σ τ = mj_E 191 105 ls (.int (nI 6) :: st) σ τ := mj_nx i191_103 rfl
theorem i191_105 : mj_ins 191 105 = some (.if_icmp .ne 115, 108) := by decide +kernel
theorem e191_105 {ls : mj_L} {st : List Value} {σ : mj_S} {τ : mj_T} {x y : Int32} : mj_E 191 105 ls (.int y :: .int x :: st) σ τ = if x = y then mj_E 191 108 ls st σ τ else mj_E 191 115 ls st σ τ := (mj_ifi i191_105).trans (mj_cdF rfl)
theorem i191_108 : mj_ins 191 108 = some (.iload 5, 110) := by decide +kernel
theorem e191_108 {ls : mj_L} {st : List Value} {σ : mj_S} {τ : mj_T} {a0 a1 a2 a3 a4 : Option Value} {v : Int32} : mj_E 191 108 (a0 :: a1 :: a2 :: a3 :: a4 :: some (.int v) :: ls) st σ τ = mj_E 191 110 (a0 :: a1 :: a2 :: a3 :: a4 :: some (.int v) :: ls) (.int v :: st) σ τ := mj_nx i191_108 rfl
theorem i191_110 : mj_ins 191 110 = some (.iconst (2), 111) := by decide +kernel
theorem e191_110 {ls : mj_L} {st : List Value} {σ : mj_S} {τ : mj_T} : mj_E 191 110 ls st σ τ = mj_E 191 111 ls (.int (nI 2) :: st) σ τ := mj_nx i191_110 rfl
theorem i191_111 : mj_ins 191 111 = some (.imul, 112) := by decide +kernel
theorem e191_111 {ls : mj_L} {st : List Value} {σ : mj_S} {τ : mj_T} {x y : Int32} : mj_E 191 111 ls (.int y :: .int x :: st) σ τ = mj_E 191 112 ls (.int (x * y) :: st) σ τ := mj_nx i191_111 rfl
theorem i191_112 : mj_ins 191 112 = some (.goto 117, 115) := by decide +kernel
theorem e191_112 {ls : mj_L} {st : List Value} {σ : mj_S} {τ : mj_T} : mj_E 191 112 ls st σ τ = mj_E 191 117 ls st σ τ := mj_nx i191_112 rfl
theorem i191_115 : mj_ins 191 115 = some (.iload 5, 117) := by decide +kernel
theorem e191_115 {ls : mj_L} {st : List Value} {σ : mj_S} {τ : mj_T} {a0 a1 a2 a3 a4 : Option Value} {v : Int32} : mj_E 191 115 (a0 :: a1 :: a2 :: a3 :: a4 :: some (.int v) :: ls) st σ τ = mj_E 191 117 (a0 :: a1 :: a2 :: a3 :: a4 :: some (.int v) :: ls) (.int v :: st) σ τ := mj_nx i191_115 rfl
theorem i191_117 : mj_ins 191 117 = some (.ireturn, 118) := by decide +kernel
theorem e191_117 {ls : mj_L} {σ : mj_S} {τ : mj_T} {v : Int32} : mj_E 191 117 ls [.int v] σ τ = some (some (.int v), σ, τ) := mj_irt i191_117 rfl
theorem c192 {σ : mj_S} {τ : mj_T} {r : Nat} {x0 : Int32} {x1 : Int32} : mj_C 192 [.ref r, .int x0, .int x1] σ τ = mj_E 192 0 [some (.ref r), some (.int x0), some (.int x1), none, none, none, none] [] σ τ := rfl
theorem i192_0 : mj_ins 192 0 = some (.aload 0, 1) := by decide +kernel
theorem e192_0 {ls : mj_L} {st : List Value} {σ : mj_S} {τ : mj_T} {v : Nat} : mj_E 192 0 (some (.ref v) :: ls) st σ τ = mj_E 192 1 (some (.ref v) :: ls) (.ref v :: st) σ τ := mj_nx i192_0 rfl
theorem i192_1 : mj_ins 192 1 = some (.getfield 707, 4) := by decide +kernel
theorem e192_1 {ls : mj_L} {st : List Value} {σ : mj_S} {τ : mj_T} : mj_E 192 1 ls (.ref 62 :: st) σ τ = mj_E 192 4 ls (.ref 64 :: st) σ τ := mj_nx i192_1 rfl
theorem i192_4 : mj_ins 192 4 = some (.iload 1, 5) := by decide +kernel
theorem e192_4 {ls : mj_L} {st : List Value} {σ : mj_S} {τ : mj_T} {a0 : Option Value} {v : Int32} : mj_E 192 4 (a0 :: some (.int v) :: ls) st σ τ = mj_E 192 5 (a0 :: some (.int v) :: ls) (.int v :: st) σ τ := mj_nx i192_4 rfl
theorem i192_5 : mj_ins 192 5 = some (.iaload, 6) := by decide +kernel
theorem e192_5 {ls : mj_L} {st : List Value} {σ : mj_S} {τ : mj_T} {x : Int32} {k : Nat} : mj_E 192 5 ls (.int x :: .ref k :: st) σ τ = if mj_ib (mj_li σ k) x = true then mj_E 192 6 ls (.int (σ k x.toNatClampNeg) :: st) σ τ else none := mj_ald i192_5
theorem i192_6 : mj_ins 192 6 = some (.istore 3, 7) := by decide +kernel
theorem e192_6 {ls : mj_L} {st : List Value} {σ : mj_S} {τ : mj_T} {a0 a1 a2 a3 : Option Value} {v : Int32} : mj_E 192 6 (a0 :: a1 :: a2 :: a3 :: ls) (.int v :: st) σ τ = mj_E 192 7 (a0 :: a1 :: a2 :: some (.int v) :: ls) st σ τ := mj_nx i192_6 rfl
theorem i192_7 : mj_ins 192 7 = some (.iload 2, 8) := by decide +kernel
theorem e192_7 {ls : mj_L} {st : List Value} {σ : mj_S} {τ : mj_T} {a0 a1 : Option Value} {v : Int32} : mj_E 192 7 (a0 :: a1 :: some (.int v) :: ls) st σ τ = mj_E 192 8 (a0 :: a1 :: some (.int v) :: ls) (.int v :: st) σ τ := mj_nx i192_7 rfl
theorem i192_8 : mj_ins 192 8 = some (.istore 4, 10) := by decide +kernel
theorem e192_8 {ls : mj_L} {st : List Value} {σ : mj_S} {τ : mj_T} {a0 a1 a2 a3 a4 : Option Value} {v : Int32} : mj_E 192 8 (a0 :: a1 :: a2 :: a3 :: a4 :: ls) (.int v :: st) σ τ = mj_E 192 10 (a0 :: a1 :: a2 :: a3 :: some (.int v) :: ls) st σ τ := mj_nx i192_8 rfl
theorem i192_10 : mj_ins 192 10 = some (.iload 3, 11) := by decide +kernel
theorem e192_10 {ls : mj_L} {st : List Value} {σ : mj_S} {τ : mj_T} {a0 a1 a2 : Option Value} {v : Int32} : mj_E 192 10 (a0 :: a1 :: a2 :: some (.int v) :: ls) st σ τ = mj_E 192 11 (a0 :: a1 :: a2 :: some (.int v) :: ls) (.int v :: st) σ τ := mj_nx i192_10 rfl
theorem i192_11 : mj_ins 192 11 = some (.iconst (6), 13) := by decide +kernel
theorem e192_11 {ls : mj_L} {st : List Value} {σ : mj_S} {τ : mj_T} : mj_E 192 11 ls st σ τ = mj_E 192 13 ls (.int (nI 6) :: st) σ τ := mj_nx i192_11 rfl
theorem i192_13 : mj_ins 192 13 = some (.if_icmp .ne 33, 16) := by decide +kernel
theorem e192_13 {ls : mj_L} {st : List Value} {σ : mj_S} {τ : mj_T} {x y : Int32} : mj_E 192 13 ls (.int y :: .int x :: st) σ τ = if x = y then mj_E 192 16 ls st σ τ else mj_E 192 33 ls st σ τ := (mj_ifi i192_13).trans (mj_cdF rfl)
theorem i192_16 : mj_ins 192 16 = some (.aload 0, 17) := by decide +kernel
theorem e192_16 {ls : mj_L} {st : List Value} {σ : mj_S} {τ : mj_T} {v : Nat} : mj_E 192 16 (some (.ref v) :: ls) st σ τ = mj_E 192 17 (some (.ref v) :: ls) (.ref v :: st) σ τ := mj_nx i192_16 rfl
theorem i192_17 : mj_ins 192 17 = some (.iconst (71), 19) := by decide +kernel
theorem e192_17 {ls : mj_L} {st : List Value} {σ : mj_S} {τ : mj_T} : mj_E 192 17 ls st σ τ = mj_E 192 19 ls (.int (nI 71) :: st) σ τ := mj_nx i192_17 rfl
theorem i192_19 : mj_ins 192 19 = some (.invokevirtual 190, 22) := by decide +kernel
theorem e192_19 {ls : mj_L} {σ : mj_S} {τ : mj_T} {r : Nat} {x0 : Int32} : mj_E 192 19 ls [.int x0, .ref r] σ τ = if mj_rcv r 7 = true then mj_bd (mj_C 190 [.ref r, .int x0] σ τ) (mj_K 192 22 ls []) else none := mj_clV (as := [.int x0]) (r := []) i192_19 (by decide +kernel : mj_vk 192 190 1 0 2 false = true) (by decide +kernel)
theorem i192_22 : mj_ins 192 22 = some (.iload 4, 24) := by decide +kernel
theorem e192_22 {ls : mj_L} {st : List Value} {σ : mj_S} {τ : mj_T} {a0 a1 a2 a3 : Option Value} {v : Int32} : mj_E 192 22 (a0 :: a1 :: a2 :: a3 :: some (.int v) :: ls) st σ τ = mj_E 192 24 (a0 :: a1 :: a2 :: a3 :: some (.int v) :: ls) (.int v :: st) σ τ := mj_nx i192_22 rfl
theorem i192_24 : mj_ins 192 24 = some (.aload 0, 25) := by decide +kernel
theorem e192_24 {ls : mj_L} {st : List Value} {σ : mj_S} {τ : mj_T} {v : Nat} : mj_E 192 24 (some (.ref v) :: ls) st σ τ = mj_E 192 25 (some (.ref v) :: ls) (.ref v :: st) σ τ := mj_nx i192_24 rfl
theorem i192_25 : mj_ins 192 25 = some (.getfield 708, 28) := by decide +kernel
theorem e192_25 {ls : mj_L} {st : List Value} {σ : mj_S} {τ : mj_T} : mj_E 192 25 ls (.ref 62 :: st) σ τ = mj_E 192 28 ls (.ref 65 :: st) σ τ := mj_nx i192_25 rfl
theorem i192_28 : mj_ins 192 28 = some (.iload 1, 29) := by decide +kernel
theorem e192_28 {ls : mj_L} {st : List Value} {σ : mj_S} {τ : mj_T} {a0 : Option Value} {v : Int32} : mj_E 192 28 (a0 :: some (.int v) :: ls) st σ τ = mj_E 192 29 (a0 :: some (.int v) :: ls) (.int v :: st) σ τ := mj_nx i192_28 rfl
theorem i192_29 : mj_ins 192 29 = some (.iaload, 30) := by decide +kernel
theorem e192_29 {ls : mj_L} {st : List Value} {σ : mj_S} {τ : mj_T} {x : Int32} {k : Nat} : mj_E 192 29 ls (.int x :: .ref k :: st) σ τ = if mj_ib (mj_li σ k) x = true then mj_E 192 30 ls (.int (σ k x.toNatClampNeg) :: st) σ τ else none := mj_ald i192_29
theorem i192_30 : mj_ins 192 30 = some (.isub, 31) := by decide +kernel
theorem e192_30 {ls : mj_L} {st : List Value} {σ : mj_S} {τ : mj_T} {x y : Int32} : mj_E 192 30 ls (.int y :: .int x :: st) σ τ = mj_E 192 31 ls (.int (x - y) :: st) σ τ := mj_nx i192_30 rfl
theorem i192_31 : mj_ins 192 31 = some (.istore 4, 33) := by decide +kernel
theorem e192_31 {ls : mj_L} {st : List Value} {σ : mj_S} {τ : mj_T} {a0 a1 a2 a3 a4 : Option Value} {v : Int32} : mj_E 192 31 (a0 :: a1 :: a2 :: a3 :: a4 :: ls) (.int v :: st) σ τ = mj_E 192 33 (a0 :: a1 :: a2 :: a3 :: some (.int v) :: ls) st σ τ := mj_nx i192_31 rfl
theorem i192_33 : mj_ins 192 33 = some (.iload 3, 34) := by decide +kernel
theorem e192_33 {ls : mj_L} {st : List Value} {σ : mj_S} {τ : mj_T} {a0 a1 a2 : Option Value} {v : Int32} : mj_E 192 33 (a0 :: a1 :: a2 :: some (.int v) :: ls) st σ τ = mj_E 192 34 (a0 :: a1 :: a2 :: some (.int v) :: ls) (.int v :: st) σ τ := mj_nx i192_33 rfl
theorem i192_34 : mj_ins 192 34 = some (.iconst (3), 35) := by decide +kernel
theorem e192_34 {ls : mj_L} {st : List Value} {σ : mj_S} {τ : mj_T} : mj_E 192 34 ls st σ τ = mj_E 192 35 ls (.int (nI 3) :: st) σ τ := mj_nx i192_34 rfl
theorem i192_35 : mj_ins 192 35 = some (.if_icmp .eq 44, 38) := by decide +kernel
theorem e192_35 {ls : mj_L} {st : List Value} {σ : mj_S} {τ : mj_T} {x y : Int32} : mj_E 192 35 ls (.int y :: .int x :: st) σ τ = if x = y then mj_E 192 44 ls st σ τ else mj_E 192 38 ls st σ τ := (mj_ifi i192_35).trans (mj_cdT rfl)
theorem i192_38 : mj_ins 192 38 = some (.iload 3, 39) := by decide +kernel
theorem e192_38 {ls : mj_L} {st : List Value} {σ : mj_S} {τ : mj_T} {a0 a1 a2 : Option Value} {v : Int32} : mj_E 192 38 (a0 :: a1 :: a2 :: some (.int v) :: ls) st σ τ = mj_E 192 39 (a0 :: a1 :: a2 :: some (.int v) :: ls) (.int v :: st) σ τ := mj_nx i192_38 rfl
theorem i192_39 : mj_ins 192 39 = some (.iconst (6), 41) := by decide +kernel
theorem e192_39 {ls : mj_L} {st : List Value} {σ : mj_S} {τ : mj_T} : mj_E 192 39 ls st σ τ = mj_E 192 41 ls (.int (nI 6) :: st) σ τ := mj_nx i192_39 rfl
theorem i192_41 : mj_ins 192 41 = some (.if_icmp .ne 53, 44) := by decide +kernel
theorem e192_41 {ls : mj_L} {st : List Value} {σ : mj_S} {τ : mj_T} {x y : Int32} : mj_E 192 41 ls (.int y :: .int x :: st) σ τ = if x = y then mj_E 192 44 ls st σ τ else mj_E 192 53 ls st σ τ := (mj_ifi i192_41).trans (mj_cdF rfl)
theorem i192_44 : mj_ins 192 44 = some (.aload 0, 45) := by decide +kernel
theorem e192_44 {ls : mj_L} {st : List Value} {σ : mj_S} {τ : mj_T} {v : Nat} : mj_E 192 44 (some (.ref v) :: ls) st σ τ = mj_E 192 45 (some (.ref v) :: ls) (.ref v :: st) σ τ := mj_nx i192_44 rfl
theorem i192_45 : mj_ins 192 45 = some (.iconst (40), 47) := by decide +kernel
theorem e192_45 {ls : mj_L} {st : List Value} {σ : mj_S} {τ : mj_T} : mj_E 192 45 ls st σ τ = mj_E 192 47 ls (.int (nI 40) :: st) σ τ := mj_nx i192_45 rfl
theorem i192_47 : mj_ins 192 47 = some (.invokevirtual 190, 50) := by decide +kernel
theorem e192_47 {ls : mj_L} {σ : mj_S} {τ : mj_T} {r : Nat} {x0 : Int32} : mj_E 192 47 ls [.int x0, .ref r] σ τ = if mj_rcv r 7 = true then mj_bd (mj_C 190 [.ref r, .int x0] σ τ) (mj_K 192 50 ls []) else none := mj_clV (as := [.int x0]) (r := []) i192_47 (by decide +kernel : mj_vk 192 190 1 0 2 false = true) (by decide +kernel)
theorem i192_50 : mj_ins 192 50 = some (.iinc 4 (1), 53) := by decide +kernel
theorem e192_50 {ls : mj_L} {st : List Value} {σ : mj_S} {τ : mj_T} {a0 a1 a2 a3 : Option Value} {v : Int32} : mj_E 192 50 (a0 :: a1 :: a2 :: a3 :: some (.int v) :: ls) st σ τ = mj_E 192 53 (a0 :: a1 :: a2 :: a3 :: some (.int (v + nI 1)) :: ls) st σ τ := mj_nx i192_50 rfl
theorem i192_53 : mj_ins 192 53 = some (.iload 3, 54) := by decide +kernel
theorem e192_53 {ls : mj_L} {st : List Value} {σ : mj_S} {τ : mj_T} {a0 a1 a2 : Option Value} {v : Int32} : mj_E 192 53 (a0 :: a1 :: a2 :: some (.int v) :: ls) st σ τ = mj_E 192 54 (a0 :: a1 :: a2 :: some (.int v) :: ls) (.int v :: st) σ τ := mj_nx i192_53 rfl
theorem i192_54 : mj_ins 192 54 = some (.iconst (2), 55) := by decide +kernel
theorem e192_54 {ls : mj_L} {st : List Value} {σ : mj_S} {τ : mj_T} : mj_E 192 54 ls st σ τ = mj_E 192 55 ls (.int (nI 2) :: st) σ τ := mj_nx i192_54 rfl
theorem i192_55 : mj_ins 192 55 = some (.if_icmp .eq 63, 58) := by decide +kernel
theorem e192_55 {ls : mj_L} {st : List Value} {σ : mj_S} {τ : mj_T} {x y : Int32} : mj_E 192 55 ls (.int y :: .int x :: st) σ τ = if x = y then mj_E 192 63 ls st σ τ else mj_E 192 58 ls st σ τ := (mj_ifi i192_55).trans (mj_cdT rfl)
theorem i192_58 : mj_ins 192 58 = some (.iload 3, 59) := by decide +kernel
theorem e192_58 {ls : mj_L} {st : List Value} {σ : mj_S} {τ : mj_T} {a0 a1 a2 : Option Value} {v : Int32} : mj_E 192 58 (a0 :: a1 :: a2 :: some (.int v) :: ls) st σ τ = mj_E 192 59 (a0 :: a1 :: a2 :: some (.int v) :: ls) (.int v :: st) σ τ := mj_nx i192_58 rfl
theorem i192_59 : mj_ins 192 59 = some (.iconst (5), 60) := by decide +kernel
theorem e192_59 {ls : mj_L} {st : List Value} {σ : mj_S} {τ : mj_T} : mj_E 192 59 ls st σ τ = mj_E 192 60 ls (.int (nI 5) :: st) σ τ := mj_nx i192_59 rfl
theorem i192_60 : mj_ins 192 60 = some (.if_icmp .ne 67, 63) := by decide +kernel
theorem e192_60 {ls : mj_L} {st : List Value} {σ : mj_S} {τ : mj_T} {x y : Int32} : mj_E 192 60 ls (.int y :: .int x :: st) σ τ = if x = y then mj_E 192 63 ls st σ τ else mj_E 192 67 ls st σ τ := (mj_ifi i192_60).trans (mj_cdF rfl)
theorem i192_63 : mj_ins 192 63 = some (.iconst (1), 64) := by decide +kernel
theorem e192_63 {ls : mj_L} {st : List Value} {σ : mj_S} {τ : mj_T} : mj_E 192 63 ls st σ τ = mj_E 192 64 ls (.int (nI 1) :: st) σ τ := mj_nx i192_63 rfl
theorem i192_64 : mj_ins 192 64 = some (.goto 68, 67) := by decide +kernel
theorem e192_64 {ls : mj_L} {st : List Value} {σ : mj_S} {τ : mj_T} : mj_E 192 64 ls st σ τ = mj_E 192 68 ls st σ τ := mj_nx i192_64 rfl
theorem i192_67 : mj_ins 192 67 = some (.iconst (0), 68) := by decide +kernel
theorem e192_67 {ls : mj_L} {st : List Value} {σ : mj_S} {τ : mj_T} : mj_E 192 67 ls st σ τ = mj_E 192 68 ls (.int (nI 0) :: st) σ τ := mj_nx i192_67 rfl
theorem i192_68 : mj_ins 192 68 = some (.istore 5, 70) := by decide +kernel
theorem e192_68 {ls : mj_L} {st : List Value} {σ : mj_S} {τ : mj_T} {a0 a1 a2 a3 a4 a5 : Option Value} {v : Int32} : mj_E 192 68 (a0 :: a1 :: a2 :: a3 :: a4 :: a5 :: ls) (.int v :: st) σ τ = mj_E 192 70 (a0 :: a1 :: a2 :: a3 :: a4 :: some (.int v) :: ls) st σ τ := mj_nx i192_68 rfl
theorem i192_70 : mj_ins 192 70 = some (.iload 5, 72) := by decide +kernel
theorem e192_70 {ls : mj_L} {st : List Value} {σ : mj_S} {τ : mj_T} {a0 a1 a2 a3 a4 : Option Value} {v : Int32} : mj_E 192 70 (a0 :: a1 :: a2 :: a3 :: a4 :: some (.int v) :: ls) st σ τ = mj_E 192 72 (a0 :: a1 :: a2 :: a3 :: a4 :: some (.int v) :: ls) (.int v :: st) σ τ := mj_nx i192_70 rfl
theorem i192_72 : mj_ins 192 72 = some (.ifCond .eq 81, 75) := by decide +kernel
theorem e192_72 {ls : mj_L} {st : List Value} {σ : mj_S} {τ : mj_T} {x : Int32} : mj_E 192 72 ls (.int x :: st) σ τ = if x = 0 then mj_E 192 81 ls st σ τ else mj_E 192 75 ls st σ τ := (mj_ifc i192_72).trans (mj_cdT rfl)
theorem i192_75 : mj_ins 192 75 = some (.aload 0, 76) := by decide +kernel
theorem e192_75 {ls : mj_L} {st : List Value} {σ : mj_S} {τ : mj_T} {v : Nat} : mj_E 192 75 (some (.ref v) :: ls) st σ τ = mj_E 192 76 (some (.ref v) :: ls) (.ref v :: st) σ τ := mj_nx i192_75 rfl
theorem i192_76 : mj_ins 192 76 = some (.iconst (30), 78) := by decide +kernel
theorem e192_76 {ls : mj_L} {st : List Value} {σ : mj_S} {τ : mj_T} : mj_E 192 76 ls st σ τ = mj_E 192 78 ls (.int (nI 30) :: st) σ τ := mj_nx i192_76 rfl
theorem i192_78 : mj_ins 192 78 = some (.invokevirtual 190, 81) := by decide +kernel
theorem e192_78 {ls : mj_L} {σ : mj_S} {τ : mj_T} {r : Nat} {x0 : Int32} : mj_E 192 78 ls [.int x0, .ref r] σ τ = if mj_rcv r 7 = true then mj_bd (mj_C 190 [.ref r, .int x0] σ τ) (mj_K 192 81 ls []) else none := mj_clV (as := [.int x0]) (r := []) i192_78 (by decide +kernel : mj_vk 192 190 1 0 2 false = true) (by decide +kernel)
theorem i192_81 : mj_ins 192 81 = some (.aload 0, 82) := by decide +kernel
theorem e192_81 {ls : mj_L} {st : List Value} {σ : mj_S} {τ : mj_T} {v : Nat} : mj_E 192 81 (some (.ref v) :: ls) st σ τ = mj_E 192 82 (some (.ref v) :: ls) (.ref v :: st) σ τ := mj_nx i192_81 rfl
theorem i192_82 : mj_ins 192 82 = some (.iconst (11), 84) := by decide +kernel
theorem e192_82 {ls : mj_L} {st : List Value} {σ : mj_S} {τ : mj_T} : mj_E 192 82 ls st σ τ = mj_E 192 84 ls (.int (nI 11) :: st) σ τ := mj_nx i192_82 rfl
theorem i192_84 : mj_ins 192 84 = some (.invokevirtual 190, 87) := by decide +kernel
theorem e192_84 {ls : mj_L} {σ : mj_S} {τ : mj_T} {r : Nat} {x0 : Int32} : mj_E 192 84 ls [.int x0, .ref r] σ τ = if mj_rcv r 7 = true then mj_bd (mj_C 190 [.ref r, .int x0] σ τ) (mj_K 192 87 ls []) else none := mj_clV (as := [.int x0]) (r := []) i192_84 (by decide +kernel : mj_vk 192 190 1 0 2 false = true) (by decide +kernel)
theorem i192_87 : mj_ins 192 87 = some (.aload 0, 88) := by decide +kernel
theorem e192_87 {ls : mj_L} {st : List Value} {σ : mj_S} {τ : mj_T} {v : Nat} : mj_E 192 87 (some (.ref v) :: ls) st σ τ = mj_E 192 88 (some (.ref v) :: ls) (.ref v :: st) σ τ := mj_nx i192_87 rfl
theorem i192_88 : mj_ins 192 88 = some (.iload 1, 89) := by decide +kernel
theorem e192_88 {ls : mj_L} {st : List Value} {σ : mj_S} {τ : mj_T} {a0 : Option Value} {v : Int32} : mj_E 192 88 (a0 :: some (.int v) :: ls) st σ τ = mj_E 192 89 (a0 :: some (.int v) :: ls) (.int v :: st) σ τ := mj_nx i192_88 rfl
theorem i192_89 : mj_ins 192 89 = some (.iload 4, 91) := by decide +kernel
theorem e192_89 {ls : mj_L} {st : List Value} {σ : mj_S} {τ : mj_T} {a0 a1 a2 a3 : Option Value} {v : Int32} : mj_E 192 89 (a0 :: a1 :: a2 :: a3 :: some (.int v) :: ls) st σ τ = mj_E 192 91 (a0 :: a1 :: a2 :: a3 :: some (.int v) :: ls) (.int v :: st) σ τ := mj_nx i192_89 rfl
theorem i192_91 : mj_ins 192 91 = some (.invokevirtual 191, 94) := by decide +kernel
theorem e192_91 {ls : mj_L} {σ : mj_S} {τ : mj_T} {r : Nat} {x0 : Int32} {x1 : Int32} : mj_E 192 91 ls [.int x1, .int x0, .ref r] σ τ = if mj_rcv r 7 = true then mj_bd (mj_C 191 [.ref r, .int x0, .int x1] σ τ) (mj_K 192 94 ls []) else none := mj_clV (as := [.int x0, .int x1]) (r := []) i192_91 (by decide +kernel : mj_vk 192 191 2 0 3 false = true) (by decide +kernel)
theorem i192_94 : mj_ins 192 94 = some (.iconst (2), 95) := by decide +kernel
theorem e192_94 {ls : mj_L} {st : List Value} {σ : mj_S} {τ : mj_T} : mj_E 192 94 ls st σ τ = mj_E 192 95 ls (.int (nI 2) :: st) σ τ := mj_nx i192_94 rfl
theorem i192_95 : mj_ins 192 95 = some (.imul, 96) := by decide +kernel
theorem e192_95 {ls : mj_L} {st : List Value} {σ : mj_S} {τ : mj_T} {x y : Int32} : mj_E 192 95 ls (.int y :: .int x :: st) σ τ = mj_E 192 96 ls (.int (x * y) :: st) σ τ := mj_nx i192_95 rfl
theorem i192_96 : mj_ins 192 96 = some (.istore 6, 98) := by decide +kernel
theorem e192_96 {ls : mj_L} {st : List Value} {σ : mj_S} {τ : mj_T} {a0 a1 a2 a3 a4 a5 a6 : Option Value} {v : Int32} : mj_E 192 96 (a0 :: a1 :: a2 :: a3 :: a4 :: a5 :: a6 :: ls) (.int v :: st) σ τ = mj_E 192 98 (a0 :: a1 :: a2 :: a3 :: a4 :: a5 :: some (.int v) :: ls) st σ τ := mj_nx i192_96 rfl
theorem i192_98 : mj_ins 192 98 = some (.iload 5, 100) := by decide +kernel
theorem e192_98 {ls : mj_L} {st : List Value} {σ : mj_S} {τ : mj_T} {a0 a1 a2 a3 a4 : Option Value} {v : Int32} : mj_E 192 98 (a0 :: a1 :: a2 :: a3 :: a4 :: some (.int v) :: ls) st σ τ = mj_E 192 100 (a0 :: a1 :: a2 :: a3 :: a4 :: some (.int v) :: ls) (.int v :: st) σ τ := mj_nx i192_98 rfl
theorem i192_100 : mj_ins 192 100 = some (.ifCond .eq 110, 103) := by decide +kernel
theorem e192_100 {ls : mj_L} {st : List Value} {σ : mj_S} {τ : mj_T} {x : Int32} : mj_E 192 100 ls (.int x :: st) σ τ = if x = 0 then mj_E 192 110 ls st σ τ else mj_E 192 103 ls st σ τ := (mj_ifc i192_100).trans (mj_cdT rfl)
theorem i192_103 : mj_ins 192 103 = some (.iload 6, 105) := by decide +kernel
theorem e192_103 {ls : mj_L} {st : List Value} {σ : mj_S} {τ : mj_T} {a0 a1 a2 a3 a4 a5 : Option Value} {v : Int32} : mj_E 192 103 (a0 :: a1 :: a2 :: a3 :: a4 :: a5 :: some (.int v) :: ls) st σ τ = mj_E 192 105 (a0 :: a1 :: a2 :: a3 :: a4 :: a5 :: some (.int v) :: ls) (.int v :: st) σ τ := mj_nx i192_103 rfl
theorem i192_105 : mj_ins 192 105 = some (.iconst (3), 106) := by decide +kernel
theorem e192_105 {ls : mj_L} {st : List Value} {σ : mj_S} {τ : mj_T} : mj_E 192 105 ls st σ τ = mj_E 192 106 ls (.int (nI 3) :: st) σ τ := mj_nx i192_105 rfl
theorem i192_106 : mj_ins 192 106 = some (.imul, 107) := by decide +kernel
theorem e192_106 {ls : mj_L} {st : List Value} {σ : mj_S} {τ : mj_T} {x y : Int32} : mj_E 192 106 ls (.int y :: .int x :: st) σ τ = mj_E 192 107 ls (.int (x * y) :: st) σ τ := mj_nx i192_106 rfl
theorem i192_107 : mj_ins 192 107 = some (.goto 112, 110) := by decide +kernel
theorem e192_107 {ls : mj_L} {st : List Value} {σ : mj_S} {τ : mj_T} : mj_E 192 107 ls st σ τ = mj_E 192 112 ls st σ τ := mj_nx i192_107 rfl
theorem i192_110 : mj_ins 192 110 = some (.iload 6, 112) := by decide +kernel
theorem e192_110 {ls : mj_L} {st : List Value} {σ : mj_S} {τ : mj_T} {a0 a1 a2 a3 a4 a5 : Option Value} {v : Int32} : mj_E 192 110 (a0 :: a1 :: a2 :: a3 :: a4 :: a5 :: some (.int v) :: ls) st σ τ = mj_E 192 112 (a0 :: a1 :: a2 :: a3 :: a4 :: a5 :: some (.int v) :: ls) (.int v :: st) σ τ := mj_nx i192_110 rfl
theorem i192_112 : mj_ins 192 112 = some (.ireturn, 113) := by decide +kernel
theorem e192_112 {ls : mj_L} {σ : mj_S} {τ : mj_T} {v : Int32} : mj_E 192 112 ls [.int v] σ τ = some (some (.int v), σ, τ) := mj_irt i192_112 rfl
theorem c193 {σ : mj_S} {τ : mj_T} {r : Nat} {x0 : Int32} {x1 : Int32} : mj_C 193 [.ref r, .int x0, .int x1] σ τ = mj_E 193 0 [some (.ref r), some (.int x0), some (.int x1), none, none] [] σ τ := rfl
theorem i193_0 : mj_ins 193 0 = some (.aload 0, 1) := by decide +kernel
theorem e193_0 {ls : mj_L} {st : List Value} {σ : mj_S} {τ : mj_T} {v : Nat} : mj_E 193 0 (some (.ref v) :: ls) st σ τ = mj_E 193 1 (some (.ref v) :: ls) (.ref v :: st) σ τ := mj_nx i193_0 rfl
theorem i193_1 : mj_ins 193 1 = some (.getfield 707, 4) := by decide +kernel
theorem e193_1 {ls : mj_L} {st : List Value} {σ : mj_S} {τ : mj_T} : mj_E 193 1 ls (.ref 62 :: st) σ τ = mj_E 193 4 ls (.ref 64 :: st) σ τ := mj_nx i193_1 rfl
theorem i193_4 : mj_ins 193 4 = some (.iload 1, 5) := by decide +kernel
theorem e193_4 {ls : mj_L} {st : List Value} {σ : mj_S} {τ : mj_T} {a0 : Option Value} {v : Int32} : mj_E 193 4 (a0 :: some (.int v) :: ls) st σ τ = mj_E 193 5 (a0 :: some (.int v) :: ls) (.int v :: st) σ τ := mj_nx i193_4 rfl
theorem i193_5 : mj_ins 193 5 = some (.iaload, 6) := by decide +kernel
theorem e193_5 {ls : mj_L} {st : List Value} {σ : mj_S} {τ : mj_T} {x : Int32} {k : Nat} : mj_E 193 5 ls (.int x :: .ref k :: st) σ τ = if mj_ib (mj_li σ k) x = true then mj_E 193 6 ls (.int (σ k x.toNatClampNeg) :: st) σ τ else none := mj_ald i193_5
theorem i193_6 : mj_ins 193 6 = some (.istore 3, 7) := by decide +kernel
theorem e193_6 {ls : mj_L} {st : List Value} {σ : mj_S} {τ : mj_T} {a0 a1 a2 a3 : Option Value} {v : Int32} : mj_E 193 6 (a0 :: a1 :: a2 :: a3 :: ls) (.int v :: st) σ τ = mj_E 193 7 (a0 :: a1 :: a2 :: some (.int v) :: ls) st σ τ := mj_nx i193_6 rfl
theorem i193_7 : mj_ins 193 7 = some (.iload 3, 8) := by decide +kernel
theorem e193_7 {ls : mj_L} {st : List Value} {σ : mj_S} {τ : mj_T} {a0 a1 a2 : Option Value} {v : Int32} : mj_E 193 7 (a0 :: a1 :: a2 :: some (.int v) :: ls) st σ τ = mj_E 193 8 (a0 :: a1 :: a2 :: some (.int v) :: ls) (.int v :: st) σ τ := mj_nx i193_7 rfl
theorem i193_8 : mj_ins 193 8 = some (.iconst (5), 9) := by decide +kernel
theorem e193_8 {ls : mj_L} {st : List Value} {σ : mj_S} {τ : mj_T} : mj_E 193 8 ls st σ τ = mj_E 193 9 ls (.int (nI 5) :: st) σ τ := mj_nx i193_8 rfl
theorem i193_9 : mj_ins 193 9 = some (.if_icmp .ne 18, 12) := by decide +kernel
theorem e193_9 {ls : mj_L} {st : List Value} {σ : mj_S} {τ : mj_T} {x y : Int32} : mj_E 193 9 ls (.int y :: .int x :: st) σ τ = if x = y then mj_E 193 12 ls st σ τ else mj_E 193 18 ls st σ τ := (mj_ifi i193_9).trans (mj_cdF rfl)
theorem i193_12 : mj_ins 193 12 = some (.aload 0, 13) := by decide +kernel
theorem e193_12 {ls : mj_L} {st : List Value} {σ : mj_S} {τ : mj_T} {v : Nat} : mj_E 193 12 (some (.ref v) :: ls) st σ τ = mj_E 193 13 (some (.ref v) :: ls) (.ref v :: st) σ τ := mj_nx i193_12 rfl
theorem i193_13 : mj_ins 193 13 = some (.iconst (60), 15) := by decide +kernel
theorem e193_13 {ls : mj_L} {st : List Value} {σ : mj_S} {τ : mj_T} : mj_E 193 13 ls st σ τ = mj_E 193 15 ls (.int (nI 60) :: st) σ τ := mj_nx i193_13 rfl
theorem i193_15 : mj_ins 193 15 = some (.invokevirtual 190, 18) := by decide +kernel
theorem e193_15 {ls : mj_L} {σ : mj_S} {τ : mj_T} {r : Nat} {x0 : Int32} : mj_E 193 15 ls [.int x0, .ref r] σ τ = if mj_rcv r 7 = true then mj_bd (mj_C 190 [.ref r, .int x0] σ τ) (mj_K 193 18 ls []) else none := mj_clV (as := [.int x0]) (r := []) i193_15 (by decide +kernel : mj_vk 193 190 1 0 2 false = true) (by decide +kernel)
theorem i193_18 : mj_ins 193 18 = some (.iload 3, 19) := by decide +kernel
theorem e193_18 {ls : mj_L} {st : List Value} {σ : mj_S} {τ : mj_T} {a0 a1 a2 : Option Value} {v : Int32} : mj_E 193 18 (a0 :: a1 :: a2 :: some (.int v) :: ls) st σ τ = mj_E 193 19 (a0 :: a1 :: a2 :: some (.int v) :: ls) (.int v :: st) σ τ := mj_nx i193_18 rfl
theorem i193_19 : mj_ins 193 19 = some (.iconst (4), 20) := by decide +kernel
theorem e193_19 {ls : mj_L} {st : List Value} {σ : mj_S} {τ : mj_T} : mj_E 193 19 ls st σ τ = mj_E 193 20 ls (.int (nI 4) :: st) σ τ := mj_nx i193_19 rfl
theorem i193_20 : mj_ins 193 20 = some (.if_icmp .ne 29, 23) := by decide +kernel
theorem e193_20 {ls : mj_L} {st : List Value} {σ : mj_S} {τ : mj_T} {x y : Int32} : mj_E 193 20 ls (.int y :: .int x :: st) σ τ = if x = y then mj_E 193 23 ls st σ τ else mj_E 193 29 ls st σ τ := (mj_ifi i193_20).trans (mj_cdF rfl)
theorem i193_23 : mj_ins 193 23 = some (.aload 0, 24) := by decide +kernel
theorem e193_23 {ls : mj_L} {st : List Value} {σ : mj_S} {τ : mj_T} {v : Nat} : mj_E 193 23 (some (.ref v) :: ls) st σ τ = mj_E 193 24 (some (.ref v) :: ls) (.ref v :: st) σ τ := mj_nx i193_23 rfl
theorem i193_24 : mj_ins 193 24 = some (.iconst (50), 26) := by decide +kernel
theorem e193_24 {ls : mj_L} {st : List Value} {σ : mj_S} {τ : mj_T} : mj_E 193 24 ls st σ τ = mj_E 193 26 ls (.int (nI 50) :: st) σ τ := mj_nx i193_24 rfl
theorem i193_26 : mj_ins 193 26 = some (.invokevirtual 190, 29) := by decide +kernel
theorem e193_26 {ls : mj_L} {σ : mj_S} {τ : mj_T} {r : Nat} {x0 : Int32} : mj_E 193 26 ls [.int x0, .ref r] σ τ = if mj_rcv r 7 = true then mj_bd (mj_C 190 [.ref r, .int x0] σ τ) (mj_K 193 29 ls []) else none := mj_clV (as := [.int x0]) (r := []) i193_26 (by decide +kernel : mj_vk 193 190 1 0 2 false = true) (by decide +kernel)
theorem i193_29 : mj_ins 193 29 = some (.aload 0, 30) := by decide +kernel
theorem e193_29 {ls : mj_L} {st : List Value} {σ : mj_S} {τ : mj_T} {v : Nat} : mj_E 193 29 (some (.ref v) :: ls) st σ τ = mj_E 193 30 (some (.ref v) :: ls) (.ref v :: st) σ τ := mj_nx i193_29 rfl
theorem i193_30 : mj_ins 193 30 = some (.iconst (12), 32) := by decide +kernel
theorem e193_30 {ls : mj_L} {st : List Value} {σ : mj_S} {τ : mj_T} : mj_E 193 30 ls st σ τ = mj_E 193 32 ls (.int (nI 12) :: st) σ τ := mj_nx i193_30 rfl
theorem i193_32 : mj_ins 193 32 = some (.invokevirtual 190, 35) := by decide +kernel
theorem e193_32 {ls : mj_L} {σ : mj_S} {τ : mj_T} {r : Nat} {x0 : Int32} : mj_E 193 32 ls [.int x0, .ref r] σ τ = if mj_rcv r 7 = true then mj_bd (mj_C 190 [.ref r, .int x0] σ τ) (mj_K 193 35 ls []) else none := mj_clV (as := [.int x0]) (r := []) i193_32 (by decide +kernel : mj_vk 193 190 1 0 2 false = true) (by decide +kernel)
theorem i193_35 : mj_ins 193 35 = some (.aload 0, 36) := by decide +kernel
theorem e193_35 {ls : mj_L} {st : List Value} {σ : mj_S} {τ : mj_T} {v : Nat} : mj_E 193 35 (some (.ref v) :: ls) st σ τ = mj_E 193 36 (some (.ref v) :: ls) (.ref v :: st) σ τ := mj_nx i193_35 rfl
theorem i193_36 : mj_ins 193 36 = some (.iload 1, 37) := by decide +kernel
theorem e193_36 {ls : mj_L} {st : List Value} {σ : mj_S} {τ : mj_T} {a0 : Option Value} {v : Int32} : mj_E 193 36 (a0 :: some (.int v) :: ls) st σ τ = mj_E 193 37 (a0 :: some (.int v) :: ls) (.int v :: st) σ τ := mj_nx i193_36 rfl
theorem i193_37 : mj_ins 193 37 = some (.iload 2, 38) := by decide +kernel
theorem e193_37 {ls : mj_L} {st : List Value} {σ : mj_S} {τ : mj_T} {a0 a1 : Option Value} {v : Int32} : mj_E 193 37 (a0 :: a1 :: some (.int v) :: ls) st σ τ = mj_E 193 38 (a0 :: a1 :: some (.int v) :: ls) (.int v :: st) σ τ := mj_nx i193_37 rfl
theorem i193_38 : mj_ins 193 38 = some (.invokevirtual 192, 41) := by decide +kernel
theorem e193_38 {ls : mj_L} {σ : mj_S} {τ : mj_T} {r : Nat} {x0 : Int32} {x1 : Int32} : mj_E 193 38 ls [.int x1, .int x0, .ref r] σ τ = if mj_rcv r 7 = true then mj_bd (mj_C 192 [.ref r, .int x0, .int x1] σ τ) (mj_K 193 41 ls []) else none := mj_clV (as := [.int x0, .int x1]) (r := []) i193_38 (by decide +kernel : mj_vk 193 192 2 0 3 false = true) (by decide +kernel)
theorem i193_41 : mj_ins 193 41 = some (.istore 4, 43) := by decide +kernel
theorem e193_41 {ls : mj_L} {st : List Value} {σ : mj_S} {τ : mj_T} {a0 a1 a2 a3 a4 : Option Value} {v : Int32} : mj_E 193 41 (a0 :: a1 :: a2 :: a3 :: a4 :: ls) (.int v :: st) σ τ = mj_E 193 43 (a0 :: a1 :: a2 :: a3 :: some (.int v) :: ls) st σ τ := mj_nx i193_41 rfl
theorem i193_43 : mj_ins 193 43 = some (.iload 4, 45) := by decide +kernel
theorem e193_43 {ls : mj_L} {st : List Value} {σ : mj_S} {τ : mj_T} {a0 a1 a2 a3 : Option Value} {v : Int32} : mj_E 193 43 (a0 :: a1 :: a2 :: a3 :: some (.int v) :: ls) st σ τ = mj_E 193 45 (a0 :: a1 :: a2 :: a3 :: some (.int v) :: ls) (.int v :: st) σ τ := mj_nx i193_43 rfl
theorem i193_45 : mj_ins 193 45 = some (.aload 0, 46) := by decide +kernel
theorem e193_45 {ls : mj_L} {st : List Value} {σ : mj_S} {τ : mj_T} {v : Nat} : mj_E 193 45 (some (.ref v) :: ls) st σ τ = mj_E 193 46 (some (.ref v) :: ls) (.ref v :: st) σ τ := mj_nx i193_45 rfl
theorem i193_46 : mj_ins 193 46 = some (.iload 1, 47) := by decide +kernel
theorem e193_46 {ls : mj_L} {st : List Value} {σ : mj_S} {τ : mj_T} {a0 : Option Value} {v : Int32} : mj_E 193 46 (a0 :: some (.int v) :: ls) st σ τ = mj_E 193 47 (a0 :: some (.int v) :: ls) (.int v :: st) σ τ := mj_nx i193_46 rfl
theorem i193_47 : mj_ins 193 47 = some (.iload 2, 48) := by decide +kernel
theorem e193_47 {ls : mj_L} {st : List Value} {σ : mj_S} {τ : mj_T} {a0 a1 : Option Value} {v : Int32} : mj_E 193 47 (a0 :: a1 :: some (.int v) :: ls) st σ τ = mj_E 193 48 (a0 :: a1 :: some (.int v) :: ls) (.int v :: st) σ τ := mj_nx i193_47 rfl
theorem i193_48 : mj_ins 193 48 = some (.aload 0, 49) := by decide +kernel
theorem e193_48 {ls : mj_L} {st : List Value} {σ : mj_S} {τ : mj_T} {v : Nat} : mj_E 193 48 (some (.ref v) :: ls) st σ τ = mj_E 193 49 (some (.ref v) :: ls) (.ref v :: st) σ τ := mj_nx i193_48 rfl
theorem i193_49 : mj_ins 193 49 = some (.getfield 708, 52) := by decide +kernel
theorem e193_49 {ls : mj_L} {st : List Value} {σ : mj_S} {τ : mj_T} : mj_E 193 49 ls (.ref 62 :: st) σ τ = mj_E 193 52 ls (.ref 65 :: st) σ τ := mj_nx i193_49 rfl
theorem i193_52 : mj_ins 193 52 = some (.iload 1, 53) := by decide +kernel
theorem e193_52 {ls : mj_L} {st : List Value} {σ : mj_S} {τ : mj_T} {a0 : Option Value} {v : Int32} : mj_E 193 52 (a0 :: some (.int v) :: ls) st σ τ = mj_E 193 53 (a0 :: some (.int v) :: ls) (.int v :: st) σ τ := mj_nx i193_52 rfl
theorem i193_53 : mj_ins 193 53 = some (.iaload, 54) := by decide +kernel
theorem e193_53 {ls : mj_L} {st : List Value} {σ : mj_S} {τ : mj_T} {x : Int32} {k : Nat} : mj_E 193 53 ls (.int x :: .ref k :: st) σ τ = if mj_ib (mj_li σ k) x = true then mj_E 193 54 ls (.int (σ k x.toNatClampNeg) :: st) σ τ else none := mj_ald i193_53
theorem i193_54 : mj_ins 193 54 = some (.isub, 55) := by decide +kernel
theorem e193_54 {ls : mj_L} {st : List Value} {σ : mj_S} {τ : mj_T} {x y : Int32} : mj_E 193 54 ls (.int y :: .int x :: st) σ τ = mj_E 193 55 ls (.int (x - y) :: st) σ τ := mj_nx i193_54 rfl
theorem i193_55 : mj_ins 193 55 = some (.invokevirtual 191, 58) := by decide +kernel
theorem e193_55 {ls : mj_L} {σ : mj_S} {τ : mj_T} {r : Nat} {x0 : Int32} {x1 : Int32} {w0 : Value} : mj_E 193 55 ls [.int x1, .int x0, .ref r, w0] σ τ = if mj_rcv r 7 = true then mj_bd (mj_C 191 [.ref r, .int x0, .int x1] σ τ) (mj_K 193 58 ls [w0]) else none := mj_clV (as := [.int x0, .int x1]) (r := [w0]) i193_55 (by decide +kernel : mj_vk 193 191 2 1 3 false = true) (by decide +kernel)
theorem i193_58 : mj_ins 193 58 = some (.ixor, 59) := by decide +kernel
theorem e193_58 {ls : mj_L} {st : List Value} {σ : mj_S} {τ : mj_T} {x y : Int32} : mj_E 193 58 ls (.int y :: .int x :: st) σ τ = mj_E 193 59 ls (.int (x ^^^ y) :: st) σ τ := mj_nx i193_58 rfl
theorem i193_59 : mj_ins 193 59 = some (.istore 4, 61) := by decide +kernel
theorem e193_59 {ls : mj_L} {st : List Value} {σ : mj_S} {τ : mj_T} {a0 a1 a2 a3 a4 : Option Value} {v : Int32} : mj_E 193 59 (a0 :: a1 :: a2 :: a3 :: a4 :: ls) (.int v :: st) σ τ = mj_E 193 61 (a0 :: a1 :: a2 :: a3 :: some (.int v) :: ls) st σ τ := mj_nx i193_59 rfl
theorem i193_61 : mj_ins 193 61 = some (.iload 3, 62) := by decide +kernel
theorem e193_61 {ls : mj_L} {st : List Value} {σ : mj_S} {τ : mj_T} {a0 a1 a2 : Option Value} {v : Int32} : mj_E 193 61 (a0 :: a1 :: a2 :: some (.int v) :: ls) st σ τ = mj_E 193 62 (a0 :: a1 :: a2 :: some (.int v) :: ls) (.int v :: st) σ τ := mj_nx i193_61 rfl
theorem i193_62 : mj_ins 193 62 = some (.iconst (4), 63) := by decide +kernel
theorem e193_62 {ls : mj_L} {st : List Value} {σ : mj_S} {τ : mj_T} : mj_E 193 62 ls st σ τ = mj_E 193 63 ls (.int (nI 4) :: st) σ τ := mj_nx i193_62 rfl
theorem i193_63 : mj_ins 193 63 = some (.if_icmp .ne 72, 66) := by decide +kernel
theorem e193_63 {ls : mj_L} {st : List Value} {σ : mj_S} {τ : mj_T} {x y : Int32} : mj_E 193 63 ls (.int y :: .int x :: st) σ τ = if x = y then mj_E 193 66 ls st σ τ else mj_E 193 72 ls st σ τ := (mj_ifi i193_63).trans (mj_cdF rfl)
theorem i193_66 : mj_ins 193 66 = some (.iload 4, 68) := by decide +kernel
theorem e193_66 {ls : mj_L} {st : List Value} {σ : mj_S} {τ : mj_T} {a0 a1 a2 a3 : Option Value} {v : Int32} : mj_E 193 66 (a0 :: a1 :: a2 :: a3 :: some (.int v) :: ls) st σ τ = mj_E 193 68 (a0 :: a1 :: a2 :: a3 :: some (.int v) :: ls) (.int v :: st) σ τ := mj_nx i193_66 rfl
theorem i193_68 : mj_ins 193 68 = some (.ineg, 69) := by decide +kernel
theorem e193_68 {ls : mj_L} {st : List Value} {σ : mj_S} {τ : mj_T} {x : Int32} : mj_E 193 68 ls (.int x :: st) σ τ = mj_E 193 69 ls (.int (-x) :: st) σ τ := mj_nx i193_68 rfl
theorem i193_69 : mj_ins 193 69 = some (.goto 86, 72) := by decide +kernel
theorem e193_69 {ls : mj_L} {st : List Value} {σ : mj_S} {τ : mj_T} : mj_E 193 69 ls st σ τ = mj_E 193 86 ls st σ τ := mj_nx i193_69 rfl
theorem i193_72 : mj_ins 193 72 = some (.iload 3, 73) := by decide +kernel
theorem e193_72 {ls : mj_L} {st : List Value} {σ : mj_S} {τ : mj_T} {a0 a1 a2 : Option Value} {v : Int32} : mj_E 193 72 (a0 :: a1 :: a2 :: some (.int v) :: ls) st σ τ = mj_E 193 73 (a0 :: a1 :: a2 :: some (.int v) :: ls) (.int v :: st) σ τ := mj_nx i193_72 rfl
theorem i193_73 : mj_ins 193 73 = some (.iconst (5), 74) := by decide +kernel
theorem e193_73 {ls : mj_L} {st : List Value} {σ : mj_S} {τ : mj_T} : mj_E 193 73 ls st σ τ = mj_E 193 74 ls (.int (nI 5) :: st) σ τ := mj_nx i193_73 rfl
theorem i193_74 : mj_ins 193 74 = some (.if_icmp .ne 84, 77) := by decide +kernel
theorem e193_74 {ls : mj_L} {st : List Value} {σ : mj_S} {τ : mj_T} {x y : Int32} : mj_E 193 74 ls (.int y :: .int x :: st) σ τ = if x = y then mj_E 193 77 ls st σ τ else mj_E 193 84 ls st σ τ := (mj_ifi i193_74).trans (mj_cdF rfl)
theorem i193_77 : mj_ins 193 77 = some (.iload 4, 79) := by decide +kernel
theorem e193_77 {ls : mj_L} {st : List Value} {σ : mj_S} {τ : mj_T} {a0 a1 a2 a3 : Option Value} {v : Int32} : mj_E 193 77 (a0 :: a1 :: a2 :: a3 :: some (.int v) :: ls) st σ τ = mj_E 193 79 (a0 :: a1 :: a2 :: a3 :: some (.int v) :: ls) (.int v :: st) σ τ := mj_nx i193_77 rfl
theorem i193_79 : mj_ins 193 79 = some (.iconst (5), 80) := by decide +kernel
theorem e193_79 {ls : mj_L} {st : List Value} {σ : mj_S} {τ : mj_T} : mj_E 193 79 ls st σ τ = mj_E 193 80 ls (.int (nI 5) :: st) σ τ := mj_nx i193_79 rfl
theorem i193_80 : mj_ins 193 80 = some (.ixor, 81) := by decide +kernel
theorem e193_80 {ls : mj_L} {st : List Value} {σ : mj_S} {τ : mj_T} {x y : Int32} : mj_E 193 80 ls (.int y :: .int x :: st) σ τ = mj_E 193 81 ls (.int (x ^^^ y) :: st) σ τ := mj_nx i193_80 rfl
theorem i193_81 : mj_ins 193 81 = some (.goto 86, 84) := by decide +kernel
theorem e193_81 {ls : mj_L} {st : List Value} {σ : mj_S} {τ : mj_T} : mj_E 193 81 ls st σ τ = mj_E 193 86 ls st σ τ := mj_nx i193_81 rfl
theorem i193_84 : mj_ins 193 84 = some (.iload 4, 86) := by decide +kernel
theorem e193_84 {ls : mj_L} {st : List Value} {σ : mj_S} {τ : mj_T} {a0 a1 a2 a3 : Option Value} {v : Int32} : mj_E 193 84 (a0 :: a1 :: a2 :: a3 :: some (.int v) :: ls) st σ τ = mj_E 193 86 (a0 :: a1 :: a2 :: a3 :: some (.int v) :: ls) (.int v :: st) σ τ := mj_nx i193_84 rfl
theorem i193_86 : mj_ins 193 86 = some (.ireturn, 87) := by decide +kernel
theorem e193_86 {ls : mj_L} {σ : mj_S} {τ : mj_T} {v : Int32} : mj_E 193 86 ls [.int v] σ τ = some (some (.int v), σ, τ) := mj_irt i193_86 rfl
theorem c194 {σ : mj_S} {τ : mj_T} {r : Nat} {x0 : Int32} {x1 : Int32} {x2 : Int32} : mj_C 194 [.ref r, .int x0, .int x1, .int x2] σ τ = mj_E 194 0 [some (.ref r), some (.int x0), some (.int x1), some (.int x2)] [] σ τ := rfl
theorem i194_0 : mj_ins 194 0 = some (.aload 0, 1) := by decide +kernel
theorem e194_0 {ls : mj_L} {st : List Value} {σ : mj_S} {τ : mj_T} {v : Nat} : mj_E 194 0 (some (.ref v) :: ls) st σ τ = mj_E 194 1 (some (.ref v) :: ls) (.ref v :: st) σ τ := mj_nx i194_0 rfl
theorem i194_1 : mj_ins 194 1 = some (.iconst (0), 2) := by decide +kernel
theorem e194_1 {ls : mj_L} {st : List Value} {σ : mj_S} {τ : mj_T} : mj_E 194 1 ls st σ τ = mj_E 194 2 ls (.int (nI 0) :: st) σ τ := mj_nx i194_1 rfl
theorem i194_2 : mj_ins 194 2 = some (.putfield 741, 5) := by decide +kernel
theorem e194_2 {ls : mj_L} {st : List Value} {σ : mj_S} {τ : mj_T} {v : Int32} : mj_E 194 2 ls (.int v :: .ref 62 :: st) σ τ = mj_E 194 5 ls st (mj_up σ 62 41 v) τ := mj_nx i194_2 rfl
theorem i194_5 : mj_ins 194 5 = some (.aload 0, 6) := by decide +kernel
theorem e194_5 {ls : mj_L} {st : List Value} {σ : mj_S} {τ : mj_T} {v : Nat} : mj_E 194 5 (some (.ref v) :: ls) st σ τ = mj_E 194 6 (some (.ref v) :: ls) (.ref v :: st) σ τ := mj_nx i194_5 rfl
theorem i194_6 : mj_ins 194 6 = some (.iload 1, 7) := by decide +kernel
theorem e194_6 {ls : mj_L} {st : List Value} {σ : mj_S} {τ : mj_T} {a0 : Option Value} {v : Int32} : mj_E 194 6 (a0 :: some (.int v) :: ls) st σ τ = mj_E 194 7 (a0 :: some (.int v) :: ls) (.int v :: st) σ τ := mj_nx i194_6 rfl
theorem i194_7 : mj_ins 194 7 = some (.invokevirtual 120, 10) := by decide +kernel
theorem e194_7 {ls : mj_L} {σ : mj_S} {τ : mj_T} {r : Nat} {x0 : Int32} : mj_E 194 7 ls [.int x0, .ref r] σ τ = if mj_rcv r 7 = true then mj_bd (mj_C 120 [.ref r, .int x0] σ τ) (mj_K 194 10 ls []) else none := mj_clV (as := [.int x0]) (r := []) i194_7 (by decide +kernel : mj_vk 194 120 1 0 2 false = true) (by decide +kernel)
theorem i194_10 : mj_ins 194 10 = some (.ifCond .eq 22, 13) := by decide +kernel
theorem e194_10 {ls : mj_L} {st : List Value} {σ : mj_S} {τ : mj_T} {x : Int32} : mj_E 194 10 ls (.int x :: st) σ τ = if x = 0 then mj_E 194 22 ls st σ τ else mj_E 194 13 ls st σ τ := (mj_ifc i194_10).trans (mj_cdT rfl)
theorem i194_13 : mj_ins 194 13 = some (.iload 2, 14) := by decide +kernel
theorem e194_13 {ls : mj_L} {st : List Value} {σ : mj_S} {τ : mj_T} {a0 a1 : Option Value} {v : Int32} : mj_E 194 13 (a0 :: a1 :: some (.int v) :: ls) st σ τ = mj_E 194 14 (a0 :: a1 :: some (.int v) :: ls) (.int v :: st) σ τ := mj_nx i194_13 rfl
theorem i194_14 : mj_ins 194 14 = some (.ifCond .lt 22, 17) := by decide +kernel
theorem e194_14 {ls : mj_L} {st : List Value} {σ : mj_S} {τ : mj_T} {x : Int32} : mj_E 194 14 ls (.int x :: st) σ τ = if x < 0 then mj_E 194 22 ls st σ τ else mj_E 194 17 ls st σ τ := (mj_ifc i194_14).trans (mj_cdT rfl)
theorem i194_17 : mj_ins 194 17 = some (.iload 2, 18) := by decide +kernel
theorem e194_17 {ls : mj_L} {st : List Value} {σ : mj_S} {τ : mj_T} {a0 a1 : Option Value} {v : Int32} : mj_E 194 17 (a0 :: a1 :: some (.int v) :: ls) st σ τ = mj_E 194 18 (a0 :: a1 :: some (.int v) :: ls) (.int v :: st) σ τ := mj_nx i194_17 rfl
theorem i194_18 : mj_ins 194 18 = some (.iconst (2), 19) := by decide +kernel
theorem e194_18 {ls : mj_L} {st : List Value} {σ : mj_S} {τ : mj_T} : mj_E 194 18 ls st σ τ = mj_E 194 19 ls (.int (nI 2) :: st) σ τ := mj_nx i194_18 rfl
theorem i194_19 : mj_ins 194 19 = some (.if_icmp .le 24, 22) := by decide +kernel
theorem e194_19 {ls : mj_L} {st : List Value} {σ : mj_S} {τ : mj_T} {x y : Int32} : mj_E 194 19 ls (.int y :: .int x :: st) σ τ = if x ≤ y then mj_E 194 24 ls st σ τ else mj_E 194 22 ls st σ τ := (mj_ifi i194_19).trans (mj_cdT rfl)
theorem i194_22 : mj_ins 194 22 = some (.iconst (0), 23) := by decide +kernel
theorem e194_22 {ls : mj_L} {st : List Value} {σ : mj_S} {τ : mj_T} : mj_E 194 22 ls st σ τ = mj_E 194 23 ls (.int (nI 0) :: st) σ τ := mj_nx i194_22 rfl
theorem i194_23 : mj_ins 194 23 = some (.ireturn, 24) := by decide +kernel
theorem e194_23 {ls : mj_L} {σ : mj_S} {τ : mj_T} {v : Int32} : mj_E 194 23 ls [.int v] σ τ = some (some (.int v), σ, τ) := mj_irt i194_23 rfl
theorem i194_24 : mj_ins 194 24 = some (.iload 2, 25) := by decide +kernel
theorem e194_24 {ls : mj_L} {st : List Value} {σ : mj_S} {τ : mj_T} {a0 a1 : Option Value} {v : Int32} : mj_E 194 24 (a0 :: a1 :: some (.int v) :: ls) st σ τ = mj_E 194 25 (a0 :: a1 :: some (.int v) :: ls) (.int v :: st) σ τ := mj_nx i194_24 rfl
theorem i194_25 : mj_ins 194 25 = some (.ifCond .ne 37, 28) := by decide +kernel
theorem e194_25 {ls : mj_L} {st : List Value} {σ : mj_S} {τ : mj_T} {x : Int32} : mj_E 194 25 ls (.int x :: st) σ τ = if x = 0 then mj_E 194 28 ls st σ τ else mj_E 194 37 ls st σ τ := (mj_ifc i194_25).trans (mj_cdF rfl)
theorem i194_28 : mj_ins 194 28 = some (.aload 0, 29) := by decide +kernel
theorem e194_28 {ls : mj_L} {st : List Value} {σ : mj_S} {τ : mj_T} {v : Nat} : mj_E 194 28 (some (.ref v) :: ls) st σ τ = mj_E 194 29 (some (.ref v) :: ls) (.ref v :: st) σ τ := mj_nx i194_28 rfl
theorem i194_29 : mj_ins 194 29 = some (.iload 1, 30) := by decide +kernel
theorem e194_29 {ls : mj_L} {st : List Value} {σ : mj_S} {τ : mj_T} {a0 : Option Value} {v : Int32} : mj_E 194 29 (a0 :: some (.int v) :: ls) st σ τ = mj_E 194 30 (a0 :: some (.int v) :: ls) (.int v :: st) σ τ := mj_nx i194_29 rfl
theorem i194_30 : mj_ins 194 30 = some (.iload 3, 31) := by decide +kernel
theorem e194_30 {ls : mj_L} {st : List Value} {σ : mj_S} {τ : mj_T} {a0 a1 a2 : Option Value} {v : Int32} : mj_E 194 30 (a0 :: a1 :: a2 :: some (.int v) :: ls) st σ τ = mj_E 194 31 (a0 :: a1 :: a2 :: some (.int v) :: ls) (.int v :: st) σ τ := mj_nx i194_30 rfl
theorem i194_31 : mj_ins 194 31 = some (.invokevirtual 191, 34) := by decide +kernel
theorem e194_31 {ls : mj_L} {σ : mj_S} {τ : mj_T} {r : Nat} {x0 : Int32} {x1 : Int32} : mj_E 194 31 ls [.int x1, .int x0, .ref r] σ τ = if mj_rcv r 7 = true then mj_bd (mj_C 191 [.ref r, .int x0, .int x1] σ τ) (mj_K 194 34 ls []) else none := mj_clV (as := [.int x0, .int x1]) (r := []) i194_31 (by decide +kernel : mj_vk 194 191 2 0 3 false = true) (by decide +kernel)
theorem i194_34 : mj_ins 194 34 = some (.goto 57, 37) := by decide +kernel
theorem e194_34 {ls : mj_L} {st : List Value} {σ : mj_S} {τ : mj_T} : mj_E 194 34 ls st σ τ = mj_E 194 57 ls st σ τ := mj_nx i194_34 rfl
theorem i194_37 : mj_ins 194 37 = some (.iload 2, 38) := by decide +kernel
theorem e194_37 {ls : mj_L} {st : List Value} {σ : mj_S} {τ : mj_T} {a0 a1 : Option Value} {v : Int32} : mj_E 194 37 (a0 :: a1 :: some (.int v) :: ls) st σ τ = mj_E 194 38 (a0 :: a1 :: some (.int v) :: ls) (.int v :: st) σ τ := mj_nx i194_37 rfl
theorem i194_38 : mj_ins 194 38 = some (.iconst (1), 39) := by decide +kernel
theorem e194_38 {ls : mj_L} {st : List Value} {σ : mj_S} {τ : mj_T} : mj_E 194 38 ls st σ τ = mj_E 194 39 ls (.int (nI 1) :: st) σ τ := mj_nx i194_38 rfl
theorem i194_39 : mj_ins 194 39 = some (.if_icmp .ne 51, 42) := by decide +kernel
theorem e194_39 {ls : mj_L} {st : List Value} {σ : mj_S} {τ : mj_T} {x y : Int32} : mj_E 194 39 ls (.int y :: .int x :: st) σ τ = if x = y then mj_E 194 42 ls st σ τ else mj_E 194 51 ls st σ τ := (mj_ifi i194_39).trans (mj_cdF rfl)
theorem i194_42 : mj_ins 194 42 = some (.aload 0, 43) := by decide +kernel
theorem e194_42 {ls : mj_L} {st : List Value} {σ : mj_S} {τ : mj_T} {v : Nat} : mj_E 194 42 (some (.ref v) :: ls) st σ τ = mj_E 194 43 (some (.ref v) :: ls) (.ref v :: st) σ τ := mj_nx i194_42 rfl
theorem i194_43 : mj_ins 194 43 = some (.iload 1, 44) := by decide +kernel
theorem e194_43 {ls : mj_L} {st : List Value} {σ : mj_S} {τ : mj_T} {a0 : Option Value} {v : Int32} : mj_E 194 43 (a0 :: some (.int v) :: ls) st σ τ = mj_E 194 44 (a0 :: some (.int v) :: ls) (.int v :: st) σ τ := mj_nx i194_43 rfl
theorem i194_44 : mj_ins 194 44 = some (.iload 3, 45) := by decide +kernel
theorem e194_44 {ls : mj_L} {st : List Value} {σ : mj_S} {τ : mj_T} {a0 a1 a2 : Option Value} {v : Int32} : mj_E 194 44 (a0 :: a1 :: a2 :: some (.int v) :: ls) st σ τ = mj_E 194 45 (a0 :: a1 :: a2 :: some (.int v) :: ls) (.int v :: st) σ τ := mj_nx i194_44 rfl
theorem i194_45 : mj_ins 194 45 = some (.invokevirtual 192, 48) := by decide +kernel
theorem e194_45 {ls : mj_L} {σ : mj_S} {τ : mj_T} {r : Nat} {x0 : Int32} {x1 : Int32} : mj_E 194 45 ls [.int x1, .int x0, .ref r] σ τ = if mj_rcv r 7 = true then mj_bd (mj_C 192 [.ref r, .int x0, .int x1] σ τ) (mj_K 194 48 ls []) else none := mj_clV (as := [.int x0, .int x1]) (r := []) i194_45 (by decide +kernel : mj_vk 194 192 2 0 3 false = true) (by decide +kernel)
theorem i194_48 : mj_ins 194 48 = some (.goto 57, 51) := by decide +kernel
theorem e194_48 {ls : mj_L} {st : List Value} {σ : mj_S} {τ : mj_T} : mj_E 194 48 ls st σ τ = mj_E 194 57 ls st σ τ := mj_nx i194_48 rfl
theorem i194_51 : mj_ins 194 51 = some (.aload 0, 52) := by decide +kernel
theorem e194_51 {ls : mj_L} {st : List Value} {σ : mj_S} {τ : mj_T} {v : Nat} : mj_E 194 51 (some (.ref v) :: ls) st σ τ = mj_E 194 52 (some (.ref v) :: ls) (.ref v :: st) σ τ := mj_nx i194_51 rfl
theorem i194_52 : mj_ins 194 52 = some (.iload 1, 53) := by decide +kernel
theorem e194_52 {ls : mj_L} {st : List Value} {σ : mj_S} {τ : mj_T} {a0 : Option Value} {v : Int32} : mj_E 194 52 (a0 :: some (.int v) :: ls) st σ τ = mj_E 194 53 (a0 :: some (.int v) :: ls) (.int v :: st) σ τ := mj_nx i194_52 rfl
theorem i194_53 : mj_ins 194 53 = some (.iload 3, 54) := by decide +kernel
theorem e194_53 {ls : mj_L} {st : List Value} {σ : mj_S} {τ : mj_T} {a0 a1 a2 : Option Value} {v : Int32} : mj_E 194 53 (a0 :: a1 :: a2 :: some (.int v) :: ls) st σ τ = mj_E 194 54 (a0 :: a1 :: a2 :: some (.int v) :: ls) (.int v :: st) σ τ := mj_nx i194_53 rfl
theorem i194_54 : mj_ins 194 54 = some (.invokevirtual 193, 57) := by decide +kernel
theorem e194_54 {ls : mj_L} {σ : mj_S} {τ : mj_T} {r : Nat} {x0 : Int32} {x1 : Int32} : mj_E 194 54 ls [.int x1, .int x0, .ref r] σ τ = if mj_rcv r 7 = true then mj_bd (mj_C 193 [.ref r, .int x0, .int x1] σ τ) (mj_K 194 57 ls []) else none := mj_clV (as := [.int x0, .int x1]) (r := []) i194_54 (by decide +kernel : mj_vk 194 193 2 0 3 false = true) (by decide +kernel)
theorem i194_57 : mj_ins 194 57 = some (.ireturn, 58) := by decide +kernel
theorem e194_57 {ls : mj_L} {σ : mj_S} {τ : mj_T} {v : Int32} : mj_E 194 57 ls [.int v] σ τ = some (some (.int v), σ, τ) := mj_irt i194_57 rfl
theorem c195 {σ : mj_S} {τ : mj_T} {r : Nat} {x0 : Int32} : mj_C 195 [.ref r, .int x0] σ τ = mj_E 195 0 [some (.ref r), some (.int x0)] [] σ τ := rfl
theorem i195_0 : mj_ins 195 0 = some (.iload 1, 1) := by decide +kernel
theorem e195_0 {ls : mj_L} {st : List Value} {σ : mj_S} {τ : mj_T} {a0 : Option Value} {v : Int32} : mj_E 195 0 (a0 :: some (.int v) :: ls) st σ τ = mj_E 195 1 (a0 :: some (.int v) :: ls) (.int v :: st) σ τ := mj_nx i195_0 rfl
theorem i195_1 : mj_ins 195 1 = some (.ifCond .lt 27, 4) := by decide +kernel
theorem e195_1 {ls : mj_L} {st : List Value} {σ : mj_S} {τ : mj_T} {x : Int32} : mj_E 195 1 ls (.int x :: st) σ τ = if x < 0 then mj_E 195 27 ls st σ τ else mj_E 195 4 ls st σ τ := (mj_ifc i195_1).trans (mj_cdT rfl)
theorem i195_4 : mj_ins 195 4 = some (.iload 1, 5) := by decide +kernel
theorem e195_4 {ls : mj_L} {st : List Value} {σ : mj_S} {τ : mj_T} {a0 : Option Value} {v : Int32} : mj_E 195 4 (a0 :: some (.int v) :: ls) st σ τ = mj_E 195 5 (a0 :: some (.int v) :: ls) (.int v :: st) σ τ := mj_nx i195_4 rfl
theorem i195_5 : mj_ins 195 5 = some (.iconst (20), 7) := by decide +kernel
theorem e195_5 {ls : mj_L} {st : List Value} {σ : mj_S} {τ : mj_T} : mj_E 195 5 ls st σ τ = mj_E 195 7 ls (.int (nI 20) :: st) σ τ := mj_nx i195_5 rfl
theorem i195_7 : mj_ins 195 7 = some (.if_icmp .ge 27, 10) := by decide +kernel
theorem e195_7 {ls : mj_L} {st : List Value} {σ : mj_S} {τ : mj_T} {x y : Int32} : mj_E 195 7 ls (.int y :: .int x :: st) σ τ = if y ≤ x then mj_E 195 27 ls st σ τ else mj_E 195 10 ls st σ τ := (mj_ifi i195_7).trans (mj_cdT rfl)
theorem i195_10 : mj_ins 195 10 = some (.iload 1, 11) := by decide +kernel
theorem e195_10 {ls : mj_L} {st : List Value} {σ : mj_S} {τ : mj_T} {a0 : Option Value} {v : Int32} : mj_E 195 10 (a0 :: some (.int v) :: ls) st σ τ = mj_E 195 11 (a0 :: some (.int v) :: ls) (.int v :: st) σ τ := mj_nx i195_10 rfl
theorem i195_11 : mj_ins 195 11 = some (.aload 0, 12) := by decide +kernel
theorem e195_11 {ls : mj_L} {st : List Value} {σ : mj_S} {τ : mj_T} {v : Nat} : mj_E 195 11 (some (.ref v) :: ls) st σ τ = mj_E 195 12 (some (.ref v) :: ls) (.ref v :: st) σ τ := mj_nx i195_11 rfl
theorem i195_12 : mj_ins 195 12 = some (.getfield 741, 15) := by decide +kernel
theorem e195_12 {ls : mj_L} {st : List Value} {σ : mj_S} {τ : mj_T} : mj_E 195 12 ls (.ref 62 :: st) σ τ = mj_E 195 15 ls (.int (σ 62 41) :: st) σ τ := mj_nx i195_12 rfl
theorem i195_15 : mj_ins 195 15 = some (.if_icmp .ge 27, 18) := by decide +kernel
theorem e195_15 {ls : mj_L} {st : List Value} {σ : mj_S} {τ : mj_T} {x y : Int32} : mj_E 195 15 ls (.int y :: .int x :: st) σ τ = if y ≤ x then mj_E 195 27 ls st σ τ else mj_E 195 18 ls st σ τ := (mj_ifi i195_15).trans (mj_cdT rfl)
theorem i195_18 : mj_ins 195 18 = some (.aload 0, 19) := by decide +kernel
theorem e195_18 {ls : mj_L} {st : List Value} {σ : mj_S} {τ : mj_T} {v : Nat} : mj_E 195 18 (some (.ref v) :: ls) st σ τ = mj_E 195 19 (some (.ref v) :: ls) (.ref v :: st) σ τ := mj_nx i195_18 rfl
theorem i195_19 : mj_ins 195 19 = some (.getfield 740, 22) := by decide +kernel
theorem e195_19 {ls : mj_L} {st : List Value} {σ : mj_S} {τ : mj_T} : mj_E 195 19 ls (.ref 62 :: st) σ τ = mj_E 195 22 ls (.ref 89 :: st) σ τ := mj_nx i195_19 rfl
theorem i195_22 : mj_ins 195 22 = some (.iload 1, 23) := by decide +kernel
theorem e195_22 {ls : mj_L} {st : List Value} {σ : mj_S} {τ : mj_T} {a0 : Option Value} {v : Int32} : mj_E 195 22 (a0 :: some (.int v) :: ls) st σ τ = mj_E 195 23 (a0 :: some (.int v) :: ls) (.int v :: st) σ τ := mj_nx i195_22 rfl
theorem i195_23 : mj_ins 195 23 = some (.iaload, 24) := by decide +kernel
theorem e195_23 {ls : mj_L} {st : List Value} {σ : mj_S} {τ : mj_T} {x : Int32} {k : Nat} : mj_E 195 23 ls (.int x :: .ref k :: st) σ τ = if mj_ib (mj_li σ k) x = true then mj_E 195 24 ls (.int (σ k x.toNatClampNeg) :: st) σ τ else none := mj_ald i195_23
theorem i195_24 : mj_ins 195 24 = some (.goto 28, 27) := by decide +kernel
theorem e195_24 {ls : mj_L} {st : List Value} {σ : mj_S} {τ : mj_T} : mj_E 195 24 ls st σ τ = mj_E 195 28 ls st σ τ := mj_nx i195_24 rfl
theorem i195_27 : mj_ins 195 27 = some (.iconst (-1), 28) := by decide +kernel
theorem e195_27 {ls : mj_L} {st : List Value} {σ : mj_S} {τ : mj_T} : mj_E 195 27 ls st σ τ = mj_E 195 28 ls (.int ((-1)) :: st) σ τ := mj_nx i195_27 rfl
theorem i195_28 : mj_ins 195 28 = some (.ireturn, 29) := by decide +kernel
theorem e195_28 {ls : mj_L} {σ : mj_S} {τ : mj_T} {v : Int32} : mj_E 195 28 ls [.int v] σ τ = some (some (.int v), σ, τ) := mj_irt i195_28 rfl
theorem c196 {σ : mj_S} {τ : mj_T} {r : Nat} : mj_C 196 [.ref r] σ τ = mj_E 196 0 [some (.ref r)] [] σ τ := rfl
theorem i196_0 : mj_ins 196 0 = some (.aload 0, 1) := by decide +kernel
theorem e196_0 {ls : mj_L} {st : List Value} {σ : mj_S} {τ : mj_T} {v : Nat} : mj_E 196 0 (some (.ref v) :: ls) st σ τ = mj_E 196 1 (some (.ref v) :: ls) (.ref v :: st) σ τ := mj_nx i196_0 rfl
theorem i196_1 : mj_ins 196 1 = some (.iconst (1), 2) := by decide +kernel
theorem e196_1 {ls : mj_L} {st : List Value} {σ : mj_S} {τ : mj_T} : mj_E 196 1 ls st σ τ = mj_E 196 2 ls (.int (nI 1) :: st) σ τ := mj_nx i196_1 rfl
theorem i196_2 : mj_ins 196 2 = some (.putfield 742, 5) := by decide +kernel
theorem e196_2 {ls : mj_L} {st : List Value} {σ : mj_S} {τ : mj_T} : mj_E 196 2 ls (.int (nI 1) :: .ref 62 :: st) σ τ = mj_E 196 5 ls st (mj_up σ 62 42 (nI 1)) τ := mj_nx i196_2 rfl
theorem i196_5 : mj_ins 196 5 = some (.aload 0, 6) := by decide +kernel
theorem e196_5 {ls : mj_L} {st : List Value} {σ : mj_S} {τ : mj_T} {v : Nat} : mj_E 196 5 (some (.ref v) :: ls) st σ τ = mj_E 196 6 (some (.ref v) :: ls) (.ref v :: st) σ τ := mj_nx i196_5 rfl
theorem i196_6 : mj_ins 196 6 = some (.aload 0, 7) := by decide +kernel
theorem e196_6 {ls : mj_L} {st : List Value} {σ : mj_S} {τ : mj_T} {v : Nat} : mj_E 196 6 (some (.ref v) :: ls) st σ τ = mj_E 196 7 (some (.ref v) :: ls) (.ref v :: st) σ τ := mj_nx i196_6 rfl
theorem i196_7 : mj_ins 196 7 = some (.getfield 733, 10) := by decide +kernel
theorem e196_7 {ls : mj_L} {st : List Value} {σ : mj_S} {τ : mj_T} : mj_E 196 7 ls (.ref 62 :: st) σ τ = mj_E 196 10 ls (.ref 85 :: st) σ τ := mj_nx i196_7 rfl
theorem i196_10 : mj_ins 196 10 = some (.iconst (0), 11) := by decide +kernel
theorem e196_10 {ls : mj_L} {st : List Value} {σ : mj_S} {τ : mj_T} : mj_E 196 10 ls st σ τ = mj_E 196 11 ls (.int (nI 0) :: st) σ τ := mj_nx i196_10 rfl
theorem i196_11 : mj_ins 196 11 = some (.invokevirtual 152, 14) := by decide +kernel
theorem e196_11 {ls : mj_L} {σ : mj_S} {τ : mj_T} {r : Nat} {x0 : Nat} {x1 : Int32} : mj_E 196 11 ls [.int x1, .ref x0, .ref r] σ τ = if mj_rcv r 7 = true then mj_bd (mj_C 152 [.ref r, .ref x0, .int x1] σ τ) (mj_K 196 14 ls []) else none := mj_clV (as := [.ref x0, .int x1]) (r := []) i196_11 (by decide +kernel : mj_vk 196 152 2 0 3 false = true) (by decide +kernel)
theorem i196_14 : mj_ins 196 14 = some (.aload 0, 15) := by decide +kernel
theorem e196_14 {ls : mj_L} {st : List Value} {σ : mj_S} {τ : mj_T} {v : Nat} : mj_E 196 14 (some (.ref v) :: ls) st σ τ = mj_E 196 15 (some (.ref v) :: ls) (.ref v :: st) σ τ := mj_nx i196_14 rfl
theorem i196_15 : mj_ins 196 15 = some (.getfield 700, 18) := by decide +kernel
theorem e196_15 {ls : mj_L} {st : List Value} {σ : mj_S} {τ : mj_T} : mj_E 196 15 ls (.ref 62 :: st) σ τ = mj_E 196 18 ls (.int (σ 62 0) :: st) σ τ := mj_nx i196_15 rfl
theorem i196_18 : mj_ins 196 18 = some (.ireturn, 19) := by decide +kernel
theorem e196_18 {ls : mj_L} {σ : mj_S} {τ : mj_T} {v : Int32} : mj_E 196 18 ls [.int v] σ τ = some (some (.int v), σ, τ) := mj_irt i196_18 rfl
theorem c197 {σ : mj_S} {τ : mj_T} {r : Nat} : mj_C 197 [.ref r] σ τ = mj_E 197 0 [some (.ref r), none] [] σ τ := rfl
theorem i197_0 : mj_ins 197 0 = some (.aload 0, 1) := by decide +kernel
theorem e197_0 {ls : mj_L} {st : List Value} {σ : mj_S} {τ : mj_T} {v : Nat} : mj_E 197 0 (some (.ref v) :: ls) st σ τ = mj_E 197 1 (some (.ref v) :: ls) (.ref v :: st) σ τ := mj_nx i197_0 rfl
theorem i197_1 : mj_ins 197 1 = some (.getfield 742, 4) := by decide +kernel
theorem e197_1 {ls : mj_L} {st : List Value} {σ : mj_S} {τ : mj_T} : mj_E 197 1 ls (.ref 62 :: st) σ τ = mj_E 197 4 ls (.int (σ 62 42) :: st) σ τ := mj_nx i197_1 rfl
theorem i197_4 : mj_ins 197 4 = some (.ifCond .ne 14, 7) := by decide +kernel
theorem e197_4 {ls : mj_L} {st : List Value} {σ : mj_S} {τ : mj_T} {x : Int32} : mj_E 197 4 ls (.int x :: st) σ τ = if x = 0 then mj_E 197 7 ls st σ τ else mj_E 197 14 ls st σ τ := (mj_ifc i197_4).trans (mj_cdF rfl)
theorem i197_7 : mj_ins 197 7 = some (.aload 0, 8) := by decide +kernel
theorem e197_7 {ls : mj_L} {st : List Value} {σ : mj_S} {τ : mj_T} {v : Nat} : mj_E 197 7 (some (.ref v) :: ls) st σ τ = mj_E 197 8 (some (.ref v) :: ls) (.ref v :: st) σ τ := mj_nx i197_7 rfl
theorem i197_8 : mj_ins 197 8 = some (.iconst (-6), 10) := by decide +kernel
theorem e197_8 {ls : mj_L} {st : List Value} {σ : mj_S} {τ : mj_T} : mj_E 197 8 ls st σ τ = mj_E 197 10 ls (.int ((-6)) :: st) σ τ := mj_nx i197_8 rfl
theorem i197_10 : mj_ins 197 10 = some (.invokevirtual 117, 13) := by decide +kernel
theorem e197_10 {ls : mj_L} {σ : mj_S} {τ : mj_T} {r : Nat} {x0 : Int32} : mj_E 197 10 ls [.int x0, .ref r] σ τ = if mj_rcv r 7 = true then mj_bd (mj_C 117 [.ref r, .int x0] σ τ) (mj_K 197 13 ls []) else none := mj_clV (as := [.int x0]) (r := []) i197_10 (by decide +kernel : mj_vk 197 117 1 0 2 false = true) (by decide +kernel)
theorem i197_13 : mj_ins 197 13 = some (.ireturn, 14) := by decide +kernel
theorem e197_13 {ls : mj_L} {σ : mj_S} {τ : mj_T} {v : Int32} : mj_E 197 13 ls [.int v] σ τ = some (some (.int v), σ, τ) := mj_irt i197_13 rfl
theorem i197_14 : mj_ins 197 14 = some (.aload 0, 15) := by decide +kernel
theorem e197_14 {ls : mj_L} {st : List Value} {σ : mj_S} {τ : mj_T} {v : Nat} : mj_E 197 14 (some (.ref v) :: ls) st σ τ = mj_E 197 15 (some (.ref v) :: ls) (.ref v :: st) σ τ := mj_nx i197_14 rfl
theorem i197_15 : mj_ins 197 15 = some (.aload 0, 16) := by decide +kernel
theorem e197_15 {ls : mj_L} {st : List Value} {σ : mj_S} {τ : mj_T} {v : Nat} : mj_E 197 15 (some (.ref v) :: ls) st σ τ = mj_E 197 16 (some (.ref v) :: ls) (.ref v :: st) σ τ := mj_nx i197_15 rfl
theorem i197_16 : mj_ins 197 16 = some (.getfield 733, 19) := by decide +kernel
theorem e197_16 {ls : mj_L} {st : List Value} {σ : mj_S} {τ : mj_T} : mj_E 197 16 ls (.ref 62 :: st) σ τ = mj_E 197 19 ls (.ref 85 :: st) σ τ := mj_nx i197_16 rfl
theorem i197_19 : mj_ins 197 19 = some (.iconst (1), 20) := by decide +kernel
theorem e197_19 {ls : mj_L} {st : List Value} {σ : mj_S} {τ : mj_T} : mj_E 197 19 ls st σ τ = mj_E 197 20 ls (.int (nI 1) :: st) σ τ := mj_nx i197_19 rfl
theorem i197_20 : mj_ins 197 20 = some (.invokevirtual 152, 23) := by decide +kernel
theorem e197_20 {ls : mj_L} {σ : mj_S} {τ : mj_T} {r : Nat} {x0 : Nat} {x1 : Int32} : mj_E 197 20 ls [.int x1, .ref x0, .ref r] σ τ = if mj_rcv r 7 = true then mj_bd (mj_C 152 [.ref r, .ref x0, .int x1] σ τ) (mj_K 197 23 ls []) else none := mj_clV (as := [.ref x0, .int x1]) (r := []) i197_20 (by decide +kernel : mj_vk 197 152 2 0 3 false = true) (by decide +kernel)
theorem i197_23 : mj_ins 197 23 = some (.iconst (0), 24) := by decide +kernel
theorem e197_23 {ls : mj_L} {st : List Value} {σ : mj_S} {τ : mj_T} : mj_E 197 23 ls st σ τ = mj_E 197 24 ls (.int (nI 0) :: st) σ τ := mj_nx i197_23 rfl
theorem i197_24 : mj_ins 197 24 = some (.istore 1, 25) := by decide +kernel
theorem e197_24 {ls : mj_L} {st : List Value} {σ : mj_S} {τ : mj_T} {a0 a1 : Option Value} {v : Int32} : mj_E 197 24 (a0 :: a1 :: ls) (.int v :: st) σ τ = mj_E 197 25 (a0 :: some (.int v) :: ls) st σ τ := mj_nx i197_24 rfl
theorem i197_25 : mj_ins 197 25 = some (.iload 1, 26) := by decide +kernel
theorem e197_25 {ls : mj_L} {st : List Value} {σ : mj_S} {τ : mj_T} {a0 : Option Value} {v : Int32} : mj_E 197 25 (a0 :: some (.int v) :: ls) st σ τ = mj_E 197 26 (a0 :: some (.int v) :: ls) (.int v :: st) σ τ := mj_nx i197_25 rfl
theorem i197_26 : mj_ins 197 26 = some (.iconst (8), 28) := by decide +kernel
theorem e197_26 {ls : mj_L} {st : List Value} {σ : mj_S} {τ : mj_T} : mj_E 197 26 ls st σ τ = mj_E 197 28 ls (.int (nI 8) :: st) σ τ := mj_nx i197_26 rfl
theorem i197_28 : mj_ins 197 28 = some (.if_icmp .ge 67, 31) := by decide +kernel
theorem e197_28 {ls : mj_L} {st : List Value} {σ : mj_S} {τ : mj_T} {x y : Int32} : mj_E 197 28 ls (.int y :: .int x :: st) σ τ = if y ≤ x then mj_E 197 67 ls st σ τ else mj_E 197 31 ls st σ τ := (mj_ifi i197_28).trans (mj_cdT rfl)
theorem i197_31 : mj_ins 197 31 = some (.aload 0, 32) := by decide +kernel
theorem e197_31 {ls : mj_L} {st : List Value} {σ : mj_S} {τ : mj_T} {v : Nat} : mj_E 197 31 (some (.ref v) :: ls) st σ τ = mj_E 197 32 (some (.ref v) :: ls) (.ref v :: st) σ τ := mj_nx i197_31 rfl
theorem i197_32 : mj_ins 197 32 = some (.getfield 717, 35) := by decide +kernel
theorem e197_32 {ls : mj_L} {st : List Value} {σ : mj_S} {τ : mj_T} : mj_E 197 32 ls (.ref 62 :: st) σ τ = mj_E 197 35 ls (.ref 74 :: st) σ τ := mj_nx i197_32 rfl
theorem i197_35 : mj_ins 197 35 = some (.iload 1, 36) := by decide +kernel
theorem e197_35 {ls : mj_L} {st : List Value} {σ : mj_S} {τ : mj_T} {a0 : Option Value} {v : Int32} : mj_E 197 35 (a0 :: some (.int v) :: ls) st σ τ = mj_E 197 36 (a0 :: some (.int v) :: ls) (.int v :: st) σ τ := mj_nx i197_35 rfl
theorem i197_36 : mj_ins 197 36 = some (.iaload, 37) := by decide +kernel
theorem e197_36 {ls : mj_L} {st : List Value} {σ : mj_S} {τ : mj_T} {x : Int32} {k : Nat} : mj_E 197 36 ls (.int x :: .ref k :: st) σ τ = if mj_ib (mj_li σ k) x = true then mj_E 197 37 ls (.int (σ k x.toNatClampNeg) :: st) σ τ else none := mj_ald i197_36
theorem i197_37 : mj_ins 197 37 = some (.iconst (2), 38) := by decide +kernel
theorem e197_37 {ls : mj_L} {st : List Value} {σ : mj_S} {τ : mj_T} : mj_E 197 37 ls st σ τ = mj_E 197 38 ls (.int (nI 2) :: st) σ τ := mj_nx i197_37 rfl
theorem i197_38 : mj_ins 197 38 = some (.if_icmp .ne 61, 41) := by decide +kernel
theorem e197_38 {ls : mj_L} {st : List Value} {σ : mj_S} {τ : mj_T} {x y : Int32} : mj_E 197 38 ls (.int y :: .int x :: st) σ τ = if x = y then mj_E 197 41 ls st σ τ else mj_E 197 61 ls st σ τ := (mj_ifi i197_38).trans (mj_cdF rfl)
theorem i197_41 : mj_ins 197 41 = some (.aload 0, 42) := by decide +kernel
theorem e197_41 {ls : mj_L} {st : List Value} {σ : mj_S} {τ : mj_T} {v : Nat} : mj_E 197 41 (some (.ref v) :: ls) st σ τ = mj_E 197 42 (some (.ref v) :: ls) (.ref v :: st) σ τ := mj_nx i197_41 rfl
theorem i197_42 : mj_ins 197 42 = some (.getfield 720, 45) := by decide +kernel
theorem e197_42 {ls : mj_L} {st : List Value} {σ : mj_S} {τ : mj_T} : mj_E 197 42 ls (.ref 62 :: st) σ τ = mj_E 197 45 ls (.ref 77 :: st) σ τ := mj_nx i197_42 rfl
theorem i197_45 : mj_ins 197 45 = some (.iload 1, 46) := by decide +kernel
theorem e197_45 {ls : mj_L} {st : List Value} {σ : mj_S} {τ : mj_T} {a0 : Option Value} {v : Int32} : mj_E 197 45 (a0 :: some (.int v) :: ls) st σ τ = mj_E 197 46 (a0 :: some (.int v) :: ls) (.int v :: st) σ τ := mj_nx i197_45 rfl
theorem i197_46 : mj_ins 197 46 = some (.iaload, 47) := by decide +kernel
theorem e197_46 {ls : mj_L} {st : List Value} {σ : mj_S} {τ : mj_T} {x : Int32} {k : Nat} : mj_E 197 46 ls (.int x :: .ref k :: st) σ τ = if mj_ib (mj_li σ k) x = true then mj_E 197 47 ls (.int (σ k x.toNatClampNeg) :: st) σ τ else none := mj_ald i197_46
theorem i197_47 : mj_ins 197 47 = some (.aload 0, 48) := by decide +kernel
theorem e197_47 {ls : mj_L} {st : List Value} {σ : mj_S} {τ : mj_T} {v : Nat} : mj_E 197 47 (some (.ref v) :: ls) st σ τ = mj_E 197 48 (some (.ref v) :: ls) (.ref v :: st) σ τ := mj_nx i197_47 rfl
theorem i197_48 : mj_ins 197 48 = some (.getfield 700, 51) := by decide +kernel
theorem e197_48 {ls : mj_L} {st : List Value} {σ : mj_S} {τ : mj_T} : mj_E 197 48 ls (.ref 62 :: st) σ τ = mj_E 197 51 ls (.int (σ 62 0) :: st) σ τ := mj_nx i197_48 rfl
theorem i197_51 : mj_ins 197 51 = some (.if_icmp .lt 61, 54) := by decide +kernel
theorem e197_51 {ls : mj_L} {st : List Value} {σ : mj_S} {τ : mj_T} {x y : Int32} : mj_E 197 51 ls (.int y :: .int x :: st) σ τ = if x < y then mj_E 197 61 ls st σ τ else mj_E 197 54 ls st σ τ := (mj_ifi i197_51).trans (mj_cdT rfl)
theorem i197_54 : mj_ins 197 54 = some (.aload 0, 55) := by decide +kernel
theorem e197_54 {ls : mj_L} {st : List Value} {σ : mj_S} {τ : mj_T} {v : Nat} : mj_E 197 54 (some (.ref v) :: ls) st σ τ = mj_E 197 55 (some (.ref v) :: ls) (.ref v :: st) σ τ := mj_nx i197_54 rfl
theorem i197_55 : mj_ins 197 55 = some (.getfield 717, 58) := by decide +kernel
theorem e197_55 {ls : mj_L} {st : List Value} {σ : mj_S} {τ : mj_T} : mj_E 197 55 ls (.ref 62 :: st) σ τ = mj_E 197 58 ls (.ref 74 :: st) σ τ := mj_nx i197_55 rfl
theorem i197_58 : mj_ins 197 58 = some (.iload 1, 59) := by decide +kernel
theorem e197_58 {ls : mj_L} {st : List Value} {σ : mj_S} {τ : mj_T} {a0 : Option Value} {v : Int32} : mj_E 197 58 (a0 :: some (.int v) :: ls) st σ τ = mj_E 197 59 (a0 :: some (.int v) :: ls) (.int v :: st) σ τ := mj_nx i197_58 rfl
theorem i197_59 : mj_ins 197 59 = some (.iconst (0), 60) := by decide +kernel
theorem e197_59 {ls : mj_L} {st : List Value} {σ : mj_S} {τ : mj_T} : mj_E 197 59 ls st σ τ = mj_E 197 60 ls (.int (nI 0) :: st) σ τ := mj_nx i197_59 rfl
theorem i197_60 : mj_ins 197 60 = some (.iastore, 61) := by decide +kernel
theorem e197_60 {ls : mj_L} {st : List Value} {σ : mj_S} {τ : mj_T} {x v : Int32} {k : Nat} : mj_E 197 60 ls (.int v :: .int x :: .ref k :: st) σ τ = if mj_ib (mj_lw k) x = true then mj_E 197 61 ls st (mj_up σ k x.toNatClampNeg v) τ else none := mj_ast i197_60
theorem i197_61 : mj_ins 197 61 = some (.iinc 1 (1), 64) := by decide +kernel
theorem e197_61 {ls : mj_L} {st : List Value} {σ : mj_S} {τ : mj_T} {a0 : Option Value} {v : Int32} : mj_E 197 61 (a0 :: some (.int v) :: ls) st σ τ = mj_E 197 64 (a0 :: some (.int (v + nI 1)) :: ls) st σ τ := mj_nx i197_61 rfl
theorem i197_64 : mj_ins 197 64 = some (.goto 25, 67) := by decide +kernel
theorem e197_64 {ls : mj_L} {st : List Value} {σ : mj_S} {τ : mj_T} : mj_E 197 64 ls st σ τ = mj_E 197 25 ls st σ τ := mj_nx i197_64 rfl
theorem i197_67 : mj_ins 197 67 = some (.aload 0, 68) := by decide +kernel
theorem e197_67 {ls : mj_L} {st : List Value} {σ : mj_S} {τ : mj_T} {v : Nat} : mj_E 197 67 (some (.ref v) :: ls) st σ τ = mj_E 197 68 (some (.ref v) :: ls) (.ref v :: st) σ τ := mj_nx i197_67 rfl
theorem i197_68 : mj_ins 197 68 = some (.getfield 700, 71) := by decide +kernel
theorem e197_68 {ls : mj_L} {st : List Value} {σ : mj_S} {τ : mj_T} : mj_E 197 68 ls (.ref 62 :: st) σ τ = mj_E 197 71 ls (.int (σ 62 0) :: st) σ τ := mj_nx i197_68 rfl
theorem i197_71 : mj_ins 197 71 = some (.ireturn, 72) := by decide +kernel
theorem e197_71 {ls : mj_L} {σ : mj_S} {τ : mj_T} {v : Int32} : mj_E 197 71 ls [.int v] σ τ = some (some (.int v), σ, τ) := mj_irt i197_71 rfl
theorem c198 {σ : mj_S} {τ : mj_T} {r : Nat} : mj_C 198 [.ref r] σ τ = mj_E 198 0 [some (.ref r), none, none, none] [] σ τ := rfl
theorem i198_0 : mj_ins 198 0 = some (.iconst (0), 1) := by decide +kernel
theorem e198_0 {ls : mj_L} {st : List Value} {σ : mj_S} {τ : mj_T} : mj_E 198 0 ls st σ τ = mj_E 198 1 ls (.int (nI 0) :: st) σ τ := mj_nx i198_0 rfl
theorem i198_1 : mj_ins 198 1 = some (.istore 1, 2) := by decide +kernel
theorem e198_1 {ls : mj_L} {st : List Value} {σ : mj_S} {τ : mj_T} {a0 a1 : Option Value} {v : Int32} : mj_E 198 1 (a0 :: a1 :: ls) (.int v :: st) σ τ = mj_E 198 2 (a0 :: some (.int v) :: ls) st σ τ := mj_nx i198_1 rfl
theorem i198_2 : mj_ins 198 2 = some (.iconst (0), 3) := by decide +kernel
theorem e198_2 {ls : mj_L} {st : List Value} {σ : mj_S} {τ : mj_T} : mj_E 198 2 ls st σ τ = mj_E 198 3 ls (.int (nI 0) :: st) σ τ := mj_nx i198_2 rfl
theorem i198_3 : mj_ins 198 3 = some (.istore 2, 4) := by decide +kernel
theorem e198_3 {ls : mj_L} {st : List Value} {σ : mj_S} {τ : mj_T} {a0 a1 a2 : Option Value} {v : Int32} : mj_E 198 3 (a0 :: a1 :: a2 :: ls) (.int v :: st) σ τ = mj_E 198 4 (a0 :: a1 :: some (.int v) :: ls) st σ τ := mj_nx i198_3 rfl
theorem i198_4 : mj_ins 198 4 = some (.iload 2, 5) := by decide +kernel
theorem e198_4 {ls : mj_L} {st : List Value} {σ : mj_S} {τ : mj_T} {a0 a1 : Option Value} {v : Int32} : mj_E 198 4 (a0 :: a1 :: some (.int v) :: ls) st σ τ = mj_E 198 5 (a0 :: a1 :: some (.int v) :: ls) (.int v :: st) σ τ := mj_nx i198_4 rfl
theorem i198_5 : mj_ins 198 5 = some (.aload 0, 6) := by decide +kernel
theorem e198_5 {ls : mj_L} {st : List Value} {σ : mj_S} {τ : mj_T} {v : Nat} : mj_E 198 5 (some (.ref v) :: ls) st σ τ = mj_E 198 6 (some (.ref v) :: ls) (.ref v :: st) σ τ := mj_nx i198_5 rfl
theorem i198_6 : mj_ins 198 6 = some (.getfield 701, 9) := by decide +kernel
theorem e198_6 {ls : mj_L} {st : List Value} {σ : mj_S} {τ : mj_T} : mj_E 198 6 ls (.ref 62 :: st) σ τ = mj_E 198 9 ls (.int (σ 62 1) :: st) σ τ := mj_nx i198_6 rfl
theorem i198_9 : mj_ins 198 9 = some (.if_icmp .ge 48, 12) := by decide +kernel
theorem e198_9 {ls : mj_L} {st : List Value} {σ : mj_S} {τ : mj_T} {x y : Int32} : mj_E 198 9 ls (.int y :: .int x :: st) σ τ = if y ≤ x then mj_E 198 48 ls st σ τ else mj_E 198 12 ls st σ τ := (mj_ifi i198_9).trans (mj_cdT rfl)
theorem i198_12 : mj_ins 198 12 = some (.iconst (0), 13) := by decide +kernel
theorem e198_12 {ls : mj_L} {st : List Value} {σ : mj_S} {τ : mj_T} : mj_E 198 12 ls st σ τ = mj_E 198 13 ls (.int (nI 0) :: st) σ τ := mj_nx i198_12 rfl
theorem i198_13 : mj_ins 198 13 = some (.istore 3, 14) := by decide +kernel
theorem e198_13 {ls : mj_L} {st : List Value} {σ : mj_S} {τ : mj_T} {a0 a1 a2 a3 : Option Value} {v : Int32} : mj_E 198 13 (a0 :: a1 :: a2 :: a3 :: ls) (.int v :: st) σ τ = mj_E 198 14 (a0 :: a1 :: a2 :: some (.int v) :: ls) st σ τ := mj_nx i198_13 rfl
theorem i198_14 : mj_ins 198 14 = some (.iload 3, 15) := by decide +kernel
theorem e198_14 {ls : mj_L} {st : List Value} {σ : mj_S} {τ : mj_T} {a0 a1 a2 : Option Value} {v : Int32} : mj_E 198 14 (a0 :: a1 :: a2 :: some (.int v) :: ls) st σ τ = mj_E 198 15 (a0 :: a1 :: a2 :: some (.int v) :: ls) (.int v :: st) σ τ := mj_nx i198_14 rfl
theorem i198_15 : mj_ins 198 15 = some (.aload 0, 16) := by decide +kernel
theorem e198_15 {ls : mj_L} {st : List Value} {σ : mj_S} {τ : mj_T} {v : Nat} : mj_E 198 15 (some (.ref v) :: ls) st σ τ = mj_E 198 16 (some (.ref v) :: ls) (.ref v :: st) σ τ := mj_nx i198_15 rfl
theorem i198_16 : mj_ins 198 16 = some (.getfield 700, 19) := by decide +kernel
theorem e198_16 {ls : mj_L} {st : List Value} {σ : mj_S} {τ : mj_T} : mj_E 198 16 ls (.ref 62 :: st) σ τ = mj_E 198 19 ls (.int (σ 62 0) :: st) σ τ := mj_nx i198_16 rfl
theorem i198_19 : mj_ins 198 19 = some (.if_icmp .ge 42, 22) := by decide +kernel
theorem e198_19 {ls : mj_L} {st : List Value} {σ : mj_S} {τ : mj_T} {x y : Int32} : mj_E 198 19 ls (.int y :: .int x :: st) σ τ = if y ≤ x then mj_E 198 42 ls st σ τ else mj_E 198 22 ls st σ τ := (mj_ifi i198_19).trans (mj_cdT rfl)
theorem i198_22 : mj_ins 198 22 = some (.iload 1, 23) := by decide +kernel
theorem e198_22 {ls : mj_L} {st : List Value} {σ : mj_S} {τ : mj_T} {a0 : Option Value} {v : Int32} : mj_E 198 22 (a0 :: some (.int v) :: ls) st σ τ = mj_E 198 23 (a0 :: some (.int v) :: ls) (.int v :: st) σ τ := mj_nx i198_22 rfl
theorem i198_23 : mj_ins 198 23 = some (.aload 0, 24) := by decide +kernel
theorem e198_23 {ls : mj_L} {st : List Value} {σ : mj_S} {τ : mj_T} {v : Nat} : mj_E 198 23 (some (.ref v) :: ls) st σ τ = mj_E 198 24 (some (.ref v) :: ls) (.ref v :: st) σ τ := mj_nx i198_23 rfl
theorem i198_24 : mj_ins 198 24 = some (.getfield 716, 27) := by decide +kernel
theorem e198_24 {ls : mj_L} {st : List Value} {σ : mj_S} {τ : mj_T} : mj_E 198 24 ls (.ref 62 :: st) σ τ = mj_E 198 27 ls (.ref 73 :: st) σ τ := mj_nx i198_24 rfl
theorem i198_27 : mj_ins 198 27 = some (.iconst (8), 29) := by decide +kernel
theorem e198_27 {ls : mj_L} {st : List Value} {σ : mj_S} {τ : mj_T} : mj_E 198 27 ls st σ τ = mj_E 198 29 ls (.int (nI 8) :: st) σ τ := mj_nx i198_27 rfl
theorem i198_29 : mj_ins 198 29 = some (.iload 2, 30) := by decide +kernel
theorem e198_29 {ls : mj_L} {st : List Value} {σ : mj_S} {τ : mj_T} {a0 a1 : Option Value} {v : Int32} : mj_E 198 29 (a0 :: a1 :: some (.int v) :: ls) st σ τ = mj_E 198 30 (a0 :: a1 :: some (.int v) :: ls) (.int v :: st) σ τ := mj_nx i198_29 rfl
theorem i198_30 : mj_ins 198 30 = some (.imul, 31) := by decide +kernel
theorem e198_30 {ls : mj_L} {st : List Value} {σ : mj_S} {τ : mj_T} {x y : Int32} : mj_E 198 30 ls (.int y :: .int x :: st) σ τ = mj_E 198 31 ls (.int (x * y) :: st) σ τ := mj_nx i198_30 rfl
theorem i198_31 : mj_ins 198 31 = some (.iload 3, 32) := by decide +kernel
theorem e198_31 {ls : mj_L} {st : List Value} {σ : mj_S} {τ : mj_T} {a0 a1 a2 : Option Value} {v : Int32} : mj_E 198 31 (a0 :: a1 :: a2 :: some (.int v) :: ls) st σ τ = mj_E 198 32 (a0 :: a1 :: a2 :: some (.int v) :: ls) (.int v :: st) σ τ := mj_nx i198_31 rfl
theorem i198_32 : mj_ins 198 32 = some (.iadd, 33) := by decide +kernel
theorem e198_32 {ls : mj_L} {st : List Value} {σ : mj_S} {τ : mj_T} {x y : Int32} : mj_E 198 32 ls (.int y :: .int x :: st) σ τ = mj_E 198 33 ls (.int (x + y) :: st) σ τ := mj_nx i198_32 rfl
theorem i198_33 : mj_ins 198 33 = some (.iaload, 34) := by decide +kernel
theorem e198_33 {ls : mj_L} {st : List Value} {σ : mj_S} {τ : mj_T} {x : Int32} {k : Nat} : mj_E 198 33 ls (.int x :: .ref k :: st) σ τ = if mj_ib (mj_li σ k) x = true then mj_E 198 34 ls (.int (σ k x.toNatClampNeg) :: st) σ τ else none := mj_ald i198_33
theorem i198_34 : mj_ins 198 34 = some (.iadd, 35) := by decide +kernel
theorem e198_34 {ls : mj_L} {st : List Value} {σ : mj_S} {τ : mj_T} {x y : Int32} : mj_E 198 34 ls (.int y :: .int x :: st) σ τ = mj_E 198 35 ls (.int (x + y) :: st) σ τ := mj_nx i198_34 rfl
theorem i198_35 : mj_ins 198 35 = some (.istore 1, 36) := by decide +kernel
theorem e198_35 {ls : mj_L} {st : List Value} {σ : mj_S} {τ : mj_T} {a0 a1 : Option Value} {v : Int32} : mj_E 198 35 (a0 :: a1 :: ls) (.int v :: st) σ τ = mj_E 198 36 (a0 :: some (.int v) :: ls) st σ τ := mj_nx i198_35 rfl
theorem i198_36 : mj_ins 198 36 = some (.iinc 3 (1), 39) := by decide +kernel
theorem e198_36 {ls : mj_L} {st : List Value} {σ : mj_S} {τ : mj_T} {a0 a1 a2 : Option Value} {v : Int32} : mj_E 198 36 (a0 :: a1 :: a2 :: some (.int v) :: ls) st σ τ = mj_E 198 39 (a0 :: a1 :: a2 :: some (.int (v + nI 1)) :: ls) st σ τ := mj_nx i198_36 rfl
theorem i198_39 : mj_ins 198 39 = some (.goto 14, 42) := by decide +kernel
theorem e198_39 {ls : mj_L} {st : List Value} {σ : mj_S} {τ : mj_T} : mj_E 198 39 ls st σ τ = mj_E 198 14 ls st σ τ := mj_nx i198_39 rfl
theorem i198_42 : mj_ins 198 42 = some (.iinc 2 (1), 45) := by decide +kernel
theorem e198_42 {ls : mj_L} {st : List Value} {σ : mj_S} {τ : mj_T} {a0 a1 : Option Value} {v : Int32} : mj_E 198 42 (a0 :: a1 :: some (.int v) :: ls) st σ τ = mj_E 198 45 (a0 :: a1 :: some (.int (v + nI 1)) :: ls) st σ τ := mj_nx i198_42 rfl
theorem i198_45 : mj_ins 198 45 = some (.goto 4, 48) := by decide +kernel
theorem e198_45 {ls : mj_L} {st : List Value} {σ : mj_S} {τ : mj_T} : mj_E 198 45 ls st σ τ = mj_E 198 4 ls st σ τ := mj_nx i198_45 rfl
theorem i198_48 : mj_ins 198 48 = some (.iload 1, 49) := by decide +kernel
theorem e198_48 {ls : mj_L} {st : List Value} {σ : mj_S} {τ : mj_T} {a0 : Option Value} {v : Int32} : mj_E 198 48 (a0 :: some (.int v) :: ls) st σ τ = mj_E 198 49 (a0 :: some (.int v) :: ls) (.int v :: st) σ τ := mj_nx i198_48 rfl
theorem i198_49 : mj_ins 198 49 = some (.ireturn, 50) := by decide +kernel
theorem e198_49 {ls : mj_L} {σ : mj_S} {τ : mj_T} {v : Int32} : mj_E 198 49 ls [.int v] σ τ = some (some (.int v), σ, τ) := mj_irt i198_49 rfl
theorem c199 {σ : mj_S} {τ : mj_T} {r : Nat} {x0 : Int32} : mj_C 199 [.ref r, .int x0] σ τ = mj_E 199 0 [some (.ref r), some (.int x0)] [] σ τ := rfl
theorem i199_0 : mj_ins 199 0 = some (.iload 1, 1) := by decide +kernel
theorem e199_0 {ls : mj_L} {st : List Value} {σ : mj_S} {τ : mj_T} {a0 : Option Value} {v : Int32} : mj_E 199 0 (a0 :: some (.int v) :: ls) st σ τ = mj_E 199 1 (a0 :: some (.int v) :: ls) (.int v :: st) σ τ := mj_nx i199_0 rfl
theorem i199_1 : mj_ins 199 1 = some (.iconst (11), 3) := by decide +kernel
theorem e199_1 {ls : mj_L} {st : List Value} {σ : mj_S} {τ : mj_T} : mj_E 199 1 ls st σ τ = mj_E 199 3 ls (.int (nI 11) :: st) σ τ := mj_nx i199_1 rfl
theorem i199_3 : mj_ins 199 3 = some (.if_icmp .lt 22, 6) := by decide +kernel
theorem e199_3 {ls : mj_L} {st : List Value} {σ : mj_S} {τ : mj_T} {x y : Int32} : mj_E 199 3 ls (.int y :: .int x :: st) σ τ = if x < y then mj_E 199 22 ls st σ τ else mj_E 199 6 ls st σ τ := (mj_ifi i199_3).trans (mj_cdT rfl)
theorem i199_6 : mj_ins 199 6 = some (.iload 1, 7) := by decide +kernel
theorem e199_6 {ls : mj_L} {st : List Value} {σ : mj_S} {τ : mj_T} {a0 : Option Value} {v : Int32} : mj_E 199 6 (a0 :: some (.int v) :: ls) st σ τ = mj_E 199 7 (a0 :: some (.int v) :: ls) (.int v :: st) σ τ := mj_nx i199_6 rfl
theorem i199_7 : mj_ins 199 7 = some (.iconst (17), 9) := by decide +kernel
theorem e199_7 {ls : mj_L} {st : List Value} {σ : mj_S} {τ : mj_T} : mj_E 199 7 ls st σ τ = mj_E 199 9 ls (.int (nI 17) :: st) σ τ := mj_nx i199_7 rfl
theorem i199_9 : mj_ins 199 9 = some (.if_icmp .gt 22, 12) := by decide +kernel
theorem e199_9 {ls : mj_L} {st : List Value} {σ : mj_S} {τ : mj_T} {x y : Int32} : mj_E 199 9 ls (.int y :: .int x :: st) σ τ = if y < x then mj_E 199 22 ls st σ τ else mj_E 199 12 ls st σ τ := (mj_ifi i199_9).trans (mj_cdT rfl)
theorem i199_12 : mj_ins 199 12 = some (.aload 0, 13) := by decide +kernel
theorem e199_12 {ls : mj_L} {st : List Value} {σ : mj_S} {τ : mj_T} {v : Nat} : mj_E 199 12 (some (.ref v) :: ls) st σ τ = mj_E 199 13 (some (.ref v) :: ls) (.ref v :: st) σ τ := mj_nx i199_12 rfl
theorem i199_13 : mj_ins 199 13 = some (.getfield 706, 16) := by decide +kernel
theorem e199_13 {ls : mj_L} {st : List Value} {σ : mj_S} {τ : mj_T} : mj_E 199 13 ls (.ref 62 :: st) σ τ = mj_E 199 16 ls (.ref 63 :: st) σ τ := mj_nx i199_13 rfl
theorem i199_16 : mj_ins 199 16 = some (.iload 1, 17) := by decide +kernel
theorem e199_16 {ls : mj_L} {st : List Value} {σ : mj_S} {τ : mj_T} {a0 : Option Value} {v : Int32} : mj_E 199 16 (a0 :: some (.int v) :: ls) st σ τ = mj_E 199 17 (a0 :: some (.int v) :: ls) (.int v :: st) σ τ := mj_nx i199_16 rfl
theorem i199_17 : mj_ins 199 17 = some (.iconst (10), 19) := by decide +kernel
theorem e199_17 {ls : mj_L} {st : List Value} {σ : mj_S} {τ : mj_T} : mj_E 199 17 ls st σ τ = mj_E 199 19 ls (.int (nI 10) :: st) σ τ := mj_nx i199_17 rfl
theorem i199_19 : mj_ins 199 19 = some (.isub, 20) := by decide +kernel
theorem e199_19 {ls : mj_L} {st : List Value} {σ : mj_S} {τ : mj_T} {x y : Int32} : mj_E 199 19 ls (.int y :: .int x :: st) σ τ = mj_E 199 20 ls (.int (x - y) :: st) σ τ := mj_nx i199_19 rfl
theorem i199_20 : mj_ins 199 20 = some (.iaload, 21) := by decide +kernel
theorem e199_20 {ls : mj_L} {st : List Value} {σ : mj_S} {τ : mj_T} {x : Int32} {k : Nat} : mj_E 199 20 ls (.int x :: .ref k :: st) σ τ = if mj_ib (mj_li σ k) x = true then mj_E 199 21 ls (.int (σ k x.toNatClampNeg) :: st) σ τ else none := mj_ald i199_20
theorem i199_21 : mj_ins 199 21 = some (.ireturn, 22) := by decide +kernel
theorem e199_21 {ls : mj_L} {σ : mj_S} {τ : mj_T} {v : Int32} : mj_E 199 21 ls [.int v] σ τ = some (some (.int v), σ, τ) := mj_irt i199_21 rfl
theorem i199_22 : mj_ins 199 22 = some (.iload 1, 23) := by decide +kernel
theorem e199_22 {ls : mj_L} {st : List Value} {σ : mj_S} {τ : mj_T} {a0 : Option Value} {v : Int32} : mj_E 199 22 (a0 :: some (.int v) :: ls) st σ τ = mj_E 199 23 (a0 :: some (.int v) :: ls) (.int v :: st) σ τ := mj_nx i199_22 rfl
theorem i199_23 : mj_ins 199 23 = some (.tableswitch 116 (0) (7) #[68, 73, 78, 83, 88, 101, 106, 111], 23) := by decide +kernel
theorem e199_23 {ls : mj_L} {st : List Value} {σ : mj_S} {τ : mj_T} {x : Int32} : mj_E 199 23 ls (.int x :: st) σ τ = if x = nI 0 then mj_E 199 68 ls st σ τ else if x = nI 1 then mj_E 199 73 ls st σ τ else if x = nI 2 then mj_E 199 78 ls st σ τ else if x = nI 3 then mj_E 199 83 ls st σ τ else if x = nI 4 then mj_E 199 88 ls st σ τ else if x = nI 5 then mj_E 199 101 ls st σ τ else if x = nI 6 then mj_E 199 106 ls st σ τ else if x = nI 7 then mj_E 199 111 ls st σ τ else mj_E 199 116 ls st σ τ := mj_tsw i199_23 (by decide)
theorem i199_68 : mj_ins 199 68 = some (.aload 0, 69) := by decide +kernel
theorem e199_68 {ls : mj_L} {st : List Value} {σ : mj_S} {τ : mj_T} {v : Nat} : mj_E 199 68 (some (.ref v) :: ls) st σ τ = mj_E 199 69 (some (.ref v) :: ls) (.ref v :: st) σ τ := mj_nx i199_68 rfl
theorem i199_69 : mj_ins 199 69 = some (.getfield 700, 72) := by decide +kernel
theorem e199_69 {ls : mj_L} {st : List Value} {σ : mj_S} {τ : mj_T} : mj_E 199 69 ls (.ref 62 :: st) σ τ = mj_E 199 72 ls (.int (σ 62 0) :: st) σ τ := mj_nx i199_69 rfl
theorem i199_72 : mj_ins 199 72 = some (.ireturn, 73) := by decide +kernel
theorem e199_72 {ls : mj_L} {σ : mj_S} {τ : mj_T} {v : Int32} : mj_E 199 72 ls [.int v] σ τ = some (some (.int v), σ, τ) := mj_irt i199_72 rfl
theorem i199_73 : mj_ins 199 73 = some (.aload 0, 74) := by decide +kernel
theorem e199_73 {ls : mj_L} {st : List Value} {σ : mj_S} {τ : mj_T} {v : Nat} : mj_E 199 73 (some (.ref v) :: ls) st σ τ = mj_E 199 74 (some (.ref v) :: ls) (.ref v :: st) σ τ := mj_nx i199_73 rfl
theorem i199_74 : mj_ins 199 74 = some (.getfield 701, 77) := by decide +kernel
theorem e199_74 {ls : mj_L} {st : List Value} {σ : mj_S} {τ : mj_T} : mj_E 199 74 ls (.ref 62 :: st) σ τ = mj_E 199 77 ls (.int (σ 62 1) :: st) σ τ := mj_nx i199_74 rfl
theorem i199_77 : mj_ins 199 77 = some (.ireturn, 78) := by decide +kernel
theorem e199_77 {ls : mj_L} {σ : mj_S} {τ : mj_T} {v : Int32} : mj_E 199 77 ls [.int v] σ τ = some (some (.int v), σ, τ) := mj_irt i199_77 rfl
theorem i199_78 : mj_ins 199 78 = some (.aload 0, 79) := by decide +kernel
theorem e199_78 {ls : mj_L} {st : List Value} {σ : mj_S} {τ : mj_T} {v : Nat} : mj_E 199 78 (some (.ref v) :: ls) st σ τ = mj_E 199 79 (some (.ref v) :: ls) (.ref v :: st) σ τ := mj_nx i199_78 rfl
theorem i199_79 : mj_ins 199 79 = some (.getfield 702, 82) := by decide +kernel
theorem e199_79 {ls : mj_L} {st : List Value} {σ : mj_S} {τ : mj_T} : mj_E 199 79 ls (.ref 62 :: st) σ τ = mj_E 199 82 ls (.int (σ 62 2) :: st) σ τ := mj_nx i199_79 rfl
theorem i199_82 : mj_ins 199 82 = some (.ireturn, 83) := by decide +kernel
theorem e199_82 {ls : mj_L} {σ : mj_S} {τ : mj_T} {v : Int32} : mj_E 199 82 ls [.int v] σ τ = some (some (.int v), σ, τ) := mj_irt i199_82 rfl
theorem i199_83 : mj_ins 199 83 = some (.aload 0, 84) := by decide +kernel
theorem e199_83 {ls : mj_L} {st : List Value} {σ : mj_S} {τ : mj_T} {v : Nat} : mj_E 199 83 (some (.ref v) :: ls) st σ τ = mj_E 199 84 (some (.ref v) :: ls) (.ref v :: st) σ τ := mj_nx i199_83 rfl
theorem i199_84 : mj_ins 199 84 = some (.getfield 703, 87) := by decide +kernel
theorem e199_84 {ls : mj_L} {st : List Value} {σ : mj_S} {τ : mj_T} : mj_E 199 84 ls (.ref 62 :: st) σ τ = mj_E 199 87 ls (.int (σ 62 3) :: st) σ τ := mj_nx i199_84 rfl
theorem i199_87 : mj_ins 199 87 = some (.ireturn, 88) := by decide +kernel
theorem e199_87 {ls : mj_L} {σ : mj_S} {τ : mj_T} {v : Int32} : mj_E 199 87 ls [.int v] σ τ = some (some (.int v), σ, τ) := mj_irt i199_87 rfl
theorem i199_88 : mj_ins 199 88 = some (.aload 0, 89) := by decide +kernel
theorem e199_88 {ls : mj_L} {st : List Value} {σ : mj_S} {τ : mj_T} {v : Nat} : mj_E 199 88 (some (.ref v) :: ls) st σ τ = mj_E 199 89 (some (.ref v) :: ls) (.ref v :: st) σ τ := mj_nx i199_88 rfl
theorem i199_89 : mj_ins 199 89 = some (.aload 0, 90) := by decide +kernel
theorem e199_89 {ls : mj_L} {st : List Value} {σ : mj_S} {τ : mj_T} {v : Nat} : mj_E 199 89 (some (.ref v) :: ls) st σ τ = mj_E 199 90 (some (.ref v) :: ls) (.ref v :: st) σ τ := mj_nx i199_89 rfl
theorem i199_90 : mj_ins 199 90 = some (.getfield 711, 93) := by decide +kernel
theorem e199_90 {ls : mj_L} {st : List Value} {σ : mj_S} {τ : mj_T} : mj_E 199 90 ls (.ref 62 :: st) σ τ = mj_E 199 93 ls (.ref 68 :: st) σ τ := mj_nx i199_90 rfl
theorem i199_93 : mj_ins 199 93 = some (.aload 0, 94) := by decide +kernel
theorem e199_93 {ls : mj_L} {st : List Value} {σ : mj_S} {τ : mj_T} {v : Nat} : mj_E 199 93 (some (.ref v) :: ls) st σ τ = mj_E 199 94 (some (.ref v) :: ls) (.ref v :: st) σ τ := mj_nx i199_93 rfl
theorem i199_94 : mj_ins 199 94 = some (.getfield 700, 97) := by decide +kernel
theorem e199_94 {ls : mj_L} {st : List Value} {σ : mj_S} {τ : mj_T} : mj_E 199 94 ls (.ref 62 :: st) σ τ = mj_E 199 97 ls (.int (σ 62 0) :: st) σ τ := mj_nx i199_94 rfl
theorem i199_97 : mj_ins 199 97 = some (.invokevirtual 187, 100) := by decide +kernel
theorem e199_97 {ls : mj_L} {σ : mj_S} {τ : mj_T} {r : Nat} {x0 : Nat} {x1 : Int32} : mj_E 199 97 ls [.int x1, .ref x0, .ref r] σ τ = if mj_rcv r 7 = true then mj_bd (mj_C 187 [.ref r, .ref x0, .int x1] σ τ) (mj_K 199 100 ls []) else none := mj_clV (as := [.ref x0, .int x1]) (r := []) i199_97 (by decide +kernel : mj_vk 199 187 2 0 3 false = true) (by decide +kernel)
theorem i199_100 : mj_ins 199 100 = some (.ireturn, 101) := by decide +kernel
theorem e199_100 {ls : mj_L} {σ : mj_S} {τ : mj_T} {v : Int32} : mj_E 199 100 ls [.int v] σ τ = some (some (.int v), σ, τ) := mj_irt i199_100 rfl
theorem i199_101 : mj_ins 199 101 = some (.aload 0, 102) := by decide +kernel
theorem e199_101 {ls : mj_L} {st : List Value} {σ : mj_S} {τ : mj_T} {v : Nat} : mj_E 199 101 (some (.ref v) :: ls) st σ τ = mj_E 199 102 (some (.ref v) :: ls) (.ref v :: st) σ τ := mj_nx i199_101 rfl
theorem i199_102 : mj_ins 199 102 = some (.invokevirtual 198, 105) := by decide +kernel
theorem e199_102 {ls : mj_L} {σ : mj_S} {τ : mj_T} {r : Nat} : mj_E 199 102 ls [.ref r] σ τ = if mj_rcv r 7 = true then mj_bd (mj_C 198 [.ref r] σ τ) (mj_K 199 105 ls []) else none := mj_clV (as := []) (r := []) i199_102 (by decide +kernel : mj_vk 199 198 0 0 1 false = true) (by decide +kernel)
theorem i199_105 : mj_ins 199 105 = some (.ireturn, 106) := by decide +kernel
theorem e199_105 {ls : mj_L} {σ : mj_S} {τ : mj_T} {v : Int32} : mj_E 199 105 ls [.int v] σ τ = some (some (.int v), σ, τ) := mj_irt i199_105 rfl
theorem i199_106 : mj_ins 199 106 = some (.aload 0, 107) := by decide +kernel
theorem e199_106 {ls : mj_L} {st : List Value} {σ : mj_S} {τ : mj_T} {v : Nat} : mj_E 199 106 (some (.ref v) :: ls) st σ τ = mj_E 199 107 (some (.ref v) :: ls) (.ref v :: st) σ τ := mj_nx i199_106 rfl
theorem i199_107 : mj_ins 199 107 = some (.getfield 704, 110) := by decide +kernel
theorem e199_107 {ls : mj_L} {st : List Value} {σ : mj_S} {τ : mj_T} : mj_E 199 107 ls (.ref 62 :: st) σ τ = mj_E 199 110 ls (.int (σ 62 4) :: st) σ τ := mj_nx i199_107 rfl
theorem i199_110 : mj_ins 199 110 = some (.ireturn, 111) := by decide +kernel
theorem e199_110 {ls : mj_L} {σ : mj_S} {τ : mj_T} {v : Int32} : mj_E 199 110 ls [.int v] σ τ = some (some (.int v), σ, τ) := mj_irt i199_110 rfl
theorem i199_111 : mj_ins 199 111 = some (.aload 0, 112) := by decide +kernel
theorem e199_111 {ls : mj_L} {st : List Value} {σ : mj_S} {τ : mj_T} {v : Nat} : mj_E 199 111 (some (.ref v) :: ls) st σ τ = mj_E 199 112 (some (.ref v) :: ls) (.ref v :: st) σ τ := mj_nx i199_111 rfl
theorem i199_112 : mj_ins 199 112 = some (.getfield 741, 115) := by decide +kernel
theorem e199_112 {ls : mj_L} {st : List Value} {σ : mj_S} {τ : mj_T} : mj_E 199 112 ls (.ref 62 :: st) σ τ = mj_E 199 115 ls (.int (σ 62 41) :: st) σ τ := mj_nx i199_112 rfl
theorem i199_115 : mj_ins 199 115 = some (.ireturn, 116) := by decide +kernel
theorem e199_115 {ls : mj_L} {σ : mj_S} {τ : mj_T} {v : Int32} : mj_E 199 115 ls [.int v] σ τ = some (some (.int v), σ, τ) := mj_irt i199_115 rfl
theorem i199_116 : mj_ins 199 116 = some (.iconst (-1), 117) := by decide +kernel
theorem e199_116 {ls : mj_L} {st : List Value} {σ : mj_S} {τ : mj_T} : mj_E 199 116 ls st σ τ = mj_E 199 117 ls (.int ((-1)) :: st) σ τ := mj_nx i199_116 rfl
theorem i199_117 : mj_ins 199 117 = some (.ireturn, 118) := by decide +kernel
theorem e199_117 {ls : mj_L} {σ : mj_S} {τ : mj_T} {v : Int32} : mj_E 199 117 ls [.int v] σ τ = some (some (.int v), σ, τ) := mj_irt i199_117 rfl
