/-! the equations of the instructions (laid by wip/whole/rows.py) -/
theorem c73 {σ : mj_S} {τ : mj_T} {r : Nat} {x0 : Int32} {x1 : Int32} {x2 : Int32} : mj_C 73 [.ref r, .int x0, .int x1, .int x2] σ τ = mj_E 73 0 [some (.ref r), some (.int x0), some (.int x1), some (.int x2), none] [] σ τ := rfl
theorem i73_0 : mj_ins 73 0 = some (.aload 0, 1) := by decide +kernel
theorem e73_0 {ls : mj_L} {st : List Value} {σ : mj_S} {τ : mj_T} {v : Nat} : mj_E 73 0 (some (.ref v) :: ls) st σ τ = mj_E 73 1 (some (.ref v) :: ls) (.ref v :: st) σ τ := mj_nx i73_0 rfl
theorem i73_1 : mj_ins 73 1 = some (.iload 1, 2) := by decide +kernel
theorem e73_1 {ls : mj_L} {st : List Value} {σ : mj_S} {τ : mj_T} {a0 : Option Value} {v : Int32} : mj_E 73 1 (a0 :: some (.int v) :: ls) st σ τ = mj_E 73 2 (a0 :: some (.int v) :: ls) (.int v :: st) σ τ := mj_nx i73_1 rfl
theorem i73_2 : mj_ins 73 2 = some (.invokevirtual 114, 5) := by decide +kernel
theorem e73_2 {ls : mj_L} {σ : mj_S} {τ : mj_T} {r : Nat} {x0 : Int32} : mj_E 73 2 ls [.int x0, .ref r] σ τ = if mj_rcv r 6 = true then mj_bd (mj_C 114 [.ref r, .int x0] σ τ) (mj_K 73 5 ls []) else none := mj_clV (as := [.int x0]) (r := []) i73_2 (by decide +kernel : mj_vk 73 114 1 0 2 false = true) (by decide +kernel)
theorem i73_5 : mj_ins 73 5 = some (.astore 4, 7) := by decide +kernel
theorem e73_5 {ls : mj_L} {st : List Value} {σ : mj_S} {τ : mj_T} {a0 a1 a2 a3 a4 : Option Value} {v : Nat} : mj_E 73 5 (a0 :: a1 :: a2 :: a3 :: a4 :: ls) (.ref v :: st) σ τ = mj_E 73 7 (a0 :: a1 :: a2 :: a3 :: some (.ref v) :: ls) st σ τ := mj_nx i73_5 rfl
theorem e73_5n {ls : mj_L} {st : List Value} {σ : mj_S} {τ : mj_T} {a0 a1 a2 a3 a4 : Option Value} : mj_E 73 5 (a0 :: a1 :: a2 :: a3 :: a4 :: ls) (.null :: st) σ τ = mj_E 73 7 (a0 :: a1 :: a2 :: a3 :: some .null :: ls) st σ τ := mj_nx i73_5 rfl
theorem i73_7 : mj_ins 73 7 = some (.aload 4, 9) := by decide +kernel
theorem e73_7 {ls : mj_L} {st : List Value} {σ : mj_S} {τ : mj_T} {a0 a1 a2 a3 : Option Value} {v : Nat} : mj_E 73 7 (a0 :: a1 :: a2 :: a3 :: some (.ref v) :: ls) st σ τ = mj_E 73 9 (a0 :: a1 :: a2 :: a3 :: some (.ref v) :: ls) (.ref v :: st) σ τ := mj_nx i73_7 rfl
theorem e73_7n {ls : mj_L} {st : List Value} {σ : mj_S} {τ : mj_T} {a0 a1 a2 a3 : Option Value} : mj_E 73 7 (a0 :: a1 :: a2 :: a3 :: some .null :: ls) st σ τ = mj_E 73 9 (a0 :: a1 :: a2 :: a3 :: some .null :: ls) (.null :: st) σ τ := mj_nx i73_7 rfl
theorem i73_9 : mj_ins 73 9 = some (.ifnonnull 18, 12) := by decide +kernel
theorem e73_9 {ls : mj_L} {st : List Value} {σ : mj_S} {τ : mj_T} {v : Nat} : mj_E 73 9 ls (.ref v :: st) σ τ = mj_E 73 18 ls st σ τ := mj_nx i73_9 rfl
theorem e73_9n {ls : mj_L} {st : List Value} {σ : mj_S} {τ : mj_T} : mj_E 73 9 ls (.null :: st) σ τ = mj_E 73 12 ls st σ τ := mj_nx i73_9 rfl
theorem i73_12 : mj_ins 73 12 = some (.aload 0, 13) := by decide +kernel
theorem e73_12 {ls : mj_L} {st : List Value} {σ : mj_S} {τ : mj_T} {v : Nat} : mj_E 73 12 (some (.ref v) :: ls) st σ τ = mj_E 73 13 (some (.ref v) :: ls) (.ref v :: st) σ τ := mj_nx i73_12 rfl
theorem i73_13 : mj_ins 73 13 = some (.iconst (-1), 14) := by decide +kernel
theorem e73_13 {ls : mj_L} {st : List Value} {σ : mj_S} {τ : mj_T} : mj_E 73 13 ls st σ τ = mj_E 73 14 ls (.int ((-1)) :: st) σ τ := mj_nx i73_13 rfl
theorem i73_14 : mj_ins 73 14 = some (.invokevirtual 112, 17) := by decide +kernel
theorem e73_14 {ls : mj_L} {σ : mj_S} {τ : mj_T} {r : Nat} {x0 : Int32} : mj_E 73 14 ls [.int x0, .ref r] σ τ = if mj_rcv r 6 = true then mj_bd (mj_C 112 [.ref r, .int x0] σ τ) (mj_K 73 17 ls []) else none := mj_clV (as := [.int x0]) (r := []) i73_14 (by decide +kernel : mj_vk 73 112 1 0 2 false = true) (by decide +kernel)
theorem i73_17 : mj_ins 73 17 = some (.ireturn, 18) := by decide +kernel
theorem e73_17 {ls : mj_L} {σ : mj_S} {τ : mj_T} {v : Int32} : mj_E 73 17 ls [.int v] σ τ = some (some (.int v), σ, τ) := mj_irt i73_17 rfl
theorem i73_18 : mj_ins 73 18 = some (.iload 3, 19) := by decide +kernel
theorem e73_18 {ls : mj_L} {st : List Value} {σ : mj_S} {τ : mj_T} {a0 a1 a2 : Option Value} {v : Int32} : mj_E 73 18 (a0 :: a1 :: a2 :: some (.int v) :: ls) st σ τ = mj_E 73 19 (a0 :: a1 :: a2 :: some (.int v) :: ls) (.int v :: st) σ τ := mj_nx i73_18 rfl
theorem i73_19 : mj_ins 73 19 = some (.ifCond .ge 29, 22) := by decide +kernel
theorem e73_19 {ls : mj_L} {st : List Value} {σ : mj_S} {τ : mj_T} {x : Int32} : mj_E 73 19 ls (.int x :: st) σ τ = if 0 ≤ x then mj_E 73 29 ls st σ τ else mj_E 73 22 ls st σ τ := (mj_ifc i73_19).trans (mj_cdT rfl)
theorem i73_22 : mj_ins 73 22 = some (.aload 0, 23) := by decide +kernel
theorem e73_22 {ls : mj_L} {st : List Value} {σ : mj_S} {τ : mj_T} {v : Nat} : mj_E 73 22 (some (.ref v) :: ls) st σ τ = mj_E 73 23 (some (.ref v) :: ls) (.ref v :: st) σ τ := mj_nx i73_22 rfl
theorem i73_23 : mj_ins 73 23 = some (.iconst (-4), 25) := by decide +kernel
theorem e73_23 {ls : mj_L} {st : List Value} {σ : mj_S} {τ : mj_T} : mj_E 73 23 ls st σ τ = mj_E 73 25 ls (.int ((-4)) :: st) σ τ := mj_nx i73_23 rfl
theorem i73_25 : mj_ins 73 25 = some (.invokevirtual 112, 28) := by decide +kernel
theorem e73_25 {ls : mj_L} {σ : mj_S} {τ : mj_T} {r : Nat} {x0 : Int32} : mj_E 73 25 ls [.int x0, .ref r] σ τ = if mj_rcv r 6 = true then mj_bd (mj_C 112 [.ref r, .int x0] σ τ) (mj_K 73 28 ls []) else none := mj_clV (as := [.int x0]) (r := []) i73_25 (by decide +kernel : mj_vk 73 112 1 0 2 false = true) (by decide +kernel)
theorem i73_28 : mj_ins 73 28 = some (.ireturn, 29) := by decide +kernel
theorem e73_28 {ls : mj_L} {σ : mj_S} {τ : mj_T} {v : Int32} : mj_E 73 28 ls [.int v] σ τ = some (some (.int v), σ, τ) := mj_irt i73_28 rfl
theorem i73_29 : mj_ins 73 29 = some (.iload 2, 30) := by decide +kernel
theorem e73_29 {ls : mj_L} {st : List Value} {σ : mj_S} {τ : mj_T} {a0 a1 : Option Value} {v : Int32} : mj_E 73 29 (a0 :: a1 :: some (.int v) :: ls) st σ τ = mj_E 73 30 (a0 :: a1 :: some (.int v) :: ls) (.int v :: st) σ τ := mj_nx i73_29 rfl
theorem i73_30 : mj_ins 73 30 = some (.iconst (3), 31) := by decide +kernel
theorem e73_30 {ls : mj_L} {st : List Value} {σ : mj_S} {τ : mj_T} : mj_E 73 30 ls st σ τ = mj_E 73 31 ls (.int (nI 3) :: st) σ τ := mj_nx i73_30 rfl
theorem i73_31 : mj_ins 73 31 = some (.invokestatic 116, 34) := by decide +kernel
theorem e73_31 {ls : mj_L} {σ : mj_S} {τ : mj_T} {x0 : Int32} {x1 : Int32} : mj_E 73 31 ls [.int x1, .int x0] σ τ = mj_bd (mj_C 116 [.int x0, .int x1] σ τ) (mj_K 73 34 ls []) := mj_clS (as := [.int x0, .int x1]) (r := []) i73_31 (by decide +kernel : mj_vk 73 116 2 0 2 false = true) rfl
theorem i73_34 : mj_ins 73 34 = some (.ifCond .ne 44, 37) := by decide +kernel
theorem e73_34 {ls : mj_L} {st : List Value} {σ : mj_S} {τ : mj_T} {x : Int32} : mj_E 73 34 ls (.int x :: st) σ τ = if x = 0 then mj_E 73 37 ls st σ τ else mj_E 73 44 ls st σ τ := (mj_ifc i73_34).trans (mj_cdF rfl)
theorem i73_37 : mj_ins 73 37 = some (.aload 0, 38) := by decide +kernel
theorem e73_37 {ls : mj_L} {st : List Value} {σ : mj_S} {τ : mj_T} {v : Nat} : mj_E 73 37 (some (.ref v) :: ls) st σ τ = mj_E 73 38 (some (.ref v) :: ls) (.ref v :: st) σ τ := mj_nx i73_37 rfl
theorem i73_38 : mj_ins 73 38 = some (.iconst (-6), 40) := by decide +kernel
theorem e73_38 {ls : mj_L} {st : List Value} {σ : mj_S} {τ : mj_T} : mj_E 73 38 ls st σ τ = mj_E 73 40 ls (.int ((-6)) :: st) σ τ := mj_nx i73_38 rfl
theorem i73_40 : mj_ins 73 40 = some (.invokevirtual 112, 43) := by decide +kernel
theorem e73_40 {ls : mj_L} {σ : mj_S} {τ : mj_T} {r : Nat} {x0 : Int32} : mj_E 73 40 ls [.int x0, .ref r] σ τ = if mj_rcv r 6 = true then mj_bd (mj_C 112 [.ref r, .int x0] σ τ) (mj_K 73 43 ls []) else none := mj_clV (as := [.int x0]) (r := []) i73_40 (by decide +kernel : mj_vk 73 112 1 0 2 false = true) (by decide +kernel)
theorem i73_43 : mj_ins 73 43 = some (.ireturn, 44) := by decide +kernel
theorem e73_43 {ls : mj_L} {σ : mj_S} {τ : mj_T} {v : Int32} : mj_E 73 43 ls [.int v] σ τ = some (some (.int v), σ, τ) := mj_irt i73_43 rfl
theorem i73_44 : mj_ins 73 44 = some (.iload 3, 45) := by decide +kernel
theorem e73_44 {ls : mj_L} {st : List Value} {σ : mj_S} {τ : mj_T} {a0 a1 a2 : Option Value} {v : Int32} : mj_E 73 44 (a0 :: a1 :: a2 :: some (.int v) :: ls) st σ τ = mj_E 73 45 (a0 :: a1 :: a2 :: some (.int v) :: ls) (.int v :: st) σ τ := mj_nx i73_44 rfl
theorem i73_45 : mj_ins 73 45 = some (.iconst (160), 48) := by decide +kernel
theorem e73_45 {ls : mj_L} {st : List Value} {σ : mj_S} {τ : mj_T} : mj_E 73 45 ls st σ τ = mj_E 73 48 ls (.int (nI 160) :: st) σ τ := mj_nx i73_45 rfl
theorem i73_48 : mj_ins 73 48 = some (.if_icmp .le 58, 51) := by decide +kernel
theorem e73_48 {ls : mj_L} {st : List Value} {σ : mj_S} {τ : mj_T} {x y : Int32} : mj_E 73 48 ls (.int y :: .int x :: st) σ τ = if x ≤ y then mj_E 73 58 ls st σ τ else mj_E 73 51 ls st σ τ := (mj_ifi i73_48).trans (mj_cdT rfl)
theorem i73_51 : mj_ins 73 51 = some (.aload 0, 52) := by decide +kernel
theorem e73_51 {ls : mj_L} {st : List Value} {σ : mj_S} {τ : mj_T} {v : Nat} : mj_E 73 51 (some (.ref v) :: ls) st σ τ = mj_E 73 52 (some (.ref v) :: ls) (.ref v :: st) σ τ := mj_nx i73_51 rfl
theorem i73_52 : mj_ins 73 52 = some (.iconst (-7), 54) := by decide +kernel
theorem e73_52 {ls : mj_L} {st : List Value} {σ : mj_S} {τ : mj_T} : mj_E 73 52 ls st σ τ = mj_E 73 54 ls (.int ((-7)) :: st) σ τ := mj_nx i73_52 rfl
theorem i73_54 : mj_ins 73 54 = some (.invokevirtual 112, 57) := by decide +kernel
theorem e73_54 {ls : mj_L} {σ : mj_S} {τ : mj_T} {r : Nat} {x0 : Int32} : mj_E 73 54 ls [.int x0, .ref r] σ τ = if mj_rcv r 6 = true then mj_bd (mj_C 112 [.ref r, .int x0] σ τ) (mj_K 73 57 ls []) else none := mj_clV (as := [.int x0]) (r := []) i73_54 (by decide +kernel : mj_vk 73 112 1 0 2 false = true) (by decide +kernel)
theorem i73_57 : mj_ins 73 57 = some (.ireturn, 58) := by decide +kernel
theorem e73_57 {ls : mj_L} {σ : mj_S} {τ : mj_T} {v : Int32} : mj_E 73 57 ls [.int v] σ τ = some (some (.int v), σ, τ) := mj_irt i73_57 rfl
theorem i73_58 : mj_ins 73 58 = some (.aload 4, 60) := by decide +kernel
theorem e73_58 {ls : mj_L} {st : List Value} {σ : mj_S} {τ : mj_T} {a0 a1 a2 a3 : Option Value} {v : Nat} : mj_E 73 58 (a0 :: a1 :: a2 :: a3 :: some (.ref v) :: ls) st σ τ = mj_E 73 60 (a0 :: a1 :: a2 :: a3 :: some (.ref v) :: ls) (.ref v :: st) σ τ := mj_nx i73_58 rfl
theorem e73_58n {ls : mj_L} {st : List Value} {σ : mj_S} {τ : mj_T} {a0 a1 a2 a3 : Option Value} : mj_E 73 58 (a0 :: a1 :: a2 :: a3 :: some .null :: ls) st σ τ = mj_E 73 60 (a0 :: a1 :: a2 :: a3 :: some .null :: ls) (.null :: st) σ τ := mj_nx i73_58 rfl
theorem i73_60 : mj_ins 73 60 = some (.iload 2, 61) := by decide +kernel
theorem e73_60 {ls : mj_L} {st : List Value} {σ : mj_S} {τ : mj_T} {a0 a1 : Option Value} {v : Int32} : mj_E 73 60 (a0 :: a1 :: some (.int v) :: ls) st σ τ = mj_E 73 61 (a0 :: a1 :: some (.int v) :: ls) (.int v :: st) σ τ := mj_nx i73_60 rfl
theorem i73_61 : mj_ins 73 61 = some (.iload 3, 62) := by decide +kernel
theorem e73_61 {ls : mj_L} {st : List Value} {σ : mj_S} {τ : mj_T} {a0 a1 a2 : Option Value} {v : Int32} : mj_E 73 61 (a0 :: a1 :: a2 :: some (.int v) :: ls) st σ τ = mj_E 73 62 (a0 :: a1 :: a2 :: some (.int v) :: ls) (.int v :: st) σ τ := mj_nx i73_61 rfl
theorem i73_62 : mj_ins 73 62 = some (.invokevirtual 59, 65) := by decide +kernel
theorem e73_62 {ls : mj_L} {σ : mj_S} {τ : mj_T} {r : Nat} {x0 : Int32} {x1 : Int32} : mj_E 73 62 ls [.int x1, .int x0, .ref r] σ τ = if mj_rcv r 4 = true then mj_bd (mj_C 59 [.ref r, .int x0, .int x1] σ τ) (mj_K 73 65 ls []) else none := mj_clV (as := [.int x0, .int x1]) (r := []) i73_62 (by decide +kernel : mj_vk 73 59 2 0 3 false = true) (by decide +kernel)
theorem i73_65 : mj_ins 73 65 = some (.iconst (1), 66) := by decide +kernel
theorem e73_65 {ls : mj_L} {st : List Value} {σ : mj_S} {τ : mj_T} : mj_E 73 65 ls st σ τ = mj_E 73 66 ls (.int (nI 1) :: st) σ τ := mj_nx i73_65 rfl
theorem i73_66 : mj_ins 73 66 = some (.ireturn, 67) := by decide +kernel
theorem e73_66 {ls : mj_L} {σ : mj_S} {τ : mj_T} {v : Int32} : mj_E 73 66 ls [.int v] σ τ = some (some (.int v), σ, τ) := mj_irt i73_66 rfl
theorem c74 {σ : mj_S} {τ : mj_T} {r : Nat} {x0 : Int32} {x1 : Int32} {x2 : Int64} : mj_C 74 [.ref r, .int x0, .int x1, .long x2] σ τ = mj_E 74 0 [some (.ref r), some (.int x0), some (.int x1), some (.long x2), none, none, none] [] σ τ := rfl
theorem i74_0 : mj_ins 74 0 = some (.aload 0, 1) := by decide +kernel
theorem e74_0 {ls : mj_L} {st : List Value} {σ : mj_S} {τ : mj_T} {v : Nat} : mj_E 74 0 (some (.ref v) :: ls) st σ τ = mj_E 74 1 (some (.ref v) :: ls) (.ref v :: st) σ τ := mj_nx i74_0 rfl
theorem i74_1 : mj_ins 74 1 = some (.iload 1, 2) := by decide +kernel
theorem e74_1 {ls : mj_L} {st : List Value} {σ : mj_S} {τ : mj_T} {a0 : Option Value} {v : Int32} : mj_E 74 1 (a0 :: some (.int v) :: ls) st σ τ = mj_E 74 2 (a0 :: some (.int v) :: ls) (.int v :: st) σ τ := mj_nx i74_1 rfl
theorem i74_2 : mj_ins 74 2 = some (.invokevirtual 114, 5) := by decide +kernel
theorem e74_2 {ls : mj_L} {σ : mj_S} {τ : mj_T} {r : Nat} {x0 : Int32} : mj_E 74 2 ls [.int x0, .ref r] σ τ = if mj_rcv r 6 = true then mj_bd (mj_C 114 [.ref r, .int x0] σ τ) (mj_K 74 5 ls []) else none := mj_clV (as := [.int x0]) (r := []) i74_2 (by decide +kernel : mj_vk 74 114 1 0 2 false = true) (by decide +kernel)
theorem i74_5 : mj_ins 74 5 = some (.astore 5, 7) := by decide +kernel
theorem e74_5 {ls : mj_L} {st : List Value} {σ : mj_S} {τ : mj_T} {a0 a1 a2 a3 a5 : Option Value} {v : Nat} : mj_E 74 5 (a0 :: a1 :: a2 :: a3 :: none :: a5 :: ls) (.ref v :: st) σ τ = mj_E 74 7 (a0 :: a1 :: a2 :: a3 :: none :: some (.ref v) :: ls) st σ τ := mj_nx i74_5 rfl
theorem e74_5n {ls : mj_L} {st : List Value} {σ : mj_S} {τ : mj_T} {a0 a1 a2 a3 a5 : Option Value} : mj_E 74 5 (a0 :: a1 :: a2 :: a3 :: none :: a5 :: ls) (.null :: st) σ τ = mj_E 74 7 (a0 :: a1 :: a2 :: a3 :: none :: some .null :: ls) st σ τ := mj_nx i74_5 rfl
theorem i74_7 : mj_ins 74 7 = some (.aload 5, 9) := by decide +kernel
theorem e74_7 {ls : mj_L} {st : List Value} {σ : mj_S} {τ : mj_T} {a0 a1 a2 a3 a4 : Option Value} {v : Nat} : mj_E 74 7 (a0 :: a1 :: a2 :: a3 :: a4 :: some (.ref v) :: ls) st σ τ = mj_E 74 9 (a0 :: a1 :: a2 :: a3 :: a4 :: some (.ref v) :: ls) (.ref v :: st) σ τ := mj_nx i74_7 rfl
theorem e74_7n {ls : mj_L} {st : List Value} {σ : mj_S} {τ : mj_T} {a0 a1 a2 a3 a4 : Option Value} : mj_E 74 7 (a0 :: a1 :: a2 :: a3 :: a4 :: some .null :: ls) st σ τ = mj_E 74 9 (a0 :: a1 :: a2 :: a3 :: a4 :: some .null :: ls) (.null :: st) σ τ := mj_nx i74_7 rfl
theorem i74_9 : mj_ins 74 9 = some (.invokestatic 115, 12) := by decide +kernel
theorem e74_9 {ls : mj_L} {σ : mj_S} {τ : mj_T} {x0 : Nat} : mj_E 74 9 ls [.ref x0] σ τ = mj_bd (mj_C 115 [.ref x0] σ τ) (mj_K 74 12 ls []) := mj_clS (as := [.ref x0]) (r := []) i74_9 (by decide +kernel : mj_vk 74 115 1 0 1 false = true) rfl
theorem e74_9n {ls : mj_L} {σ : mj_S} {τ : mj_T} : mj_E 74 9 ls [.null] σ τ = mj_bd (mj_C 115 [.null] σ τ) (mj_K 74 12 ls []) := mj_clS (as := [.null]) (r := []) i74_9 (by decide +kernel : mj_vk 74 115 1 0 1 false = true) rfl
theorem i74_12 : mj_ins 74 12 = some (.istore 6, 14) := by decide +kernel
theorem e74_12 {ls : mj_L} {st : List Value} {σ : mj_S} {τ : mj_T} {a0 a1 a2 a3 a4 a6 : Option Value} {w : Nat} {v : Int32} : mj_E 74 12 (a0 :: a1 :: a2 :: a3 :: a4 :: some (.ref w) :: a6 :: ls) (.int v :: st) σ τ = mj_E 74 14 (a0 :: a1 :: a2 :: a3 :: a4 :: some (.ref w) :: some (.int v) :: ls) st σ τ := mj_nx i74_12 rfl
theorem e74_12m {ls : mj_L} {st : List Value} {σ : mj_S} {τ : mj_T} {a0 a1 a2 a3 a4 a6 : Option Value} {v : Int32} : mj_E 74 12 (a0 :: a1 :: a2 :: a3 :: a4 :: some .null :: a6 :: ls) (.int v :: st) σ τ = mj_E 74 14 (a0 :: a1 :: a2 :: a3 :: a4 :: some .null :: some (.int v) :: ls) st σ τ := mj_nx i74_12 rfl
theorem i74_14 : mj_ins 74 14 = some (.aload 5, 16) := by decide +kernel
theorem e74_14 {ls : mj_L} {st : List Value} {σ : mj_S} {τ : mj_T} {a0 a1 a2 a3 a4 : Option Value} {v : Nat} : mj_E 74 14 (a0 :: a1 :: a2 :: a3 :: a4 :: some (.ref v) :: ls) st σ τ = mj_E 74 16 (a0 :: a1 :: a2 :: a3 :: a4 :: some (.ref v) :: ls) (.ref v :: st) σ τ := mj_nx i74_14 rfl
theorem e74_14n {ls : mj_L} {st : List Value} {σ : mj_S} {τ : mj_T} {a0 a1 a2 a3 a4 : Option Value} : mj_E 74 14 (a0 :: a1 :: a2 :: a3 :: a4 :: some .null :: ls) st σ τ = mj_E 74 16 (a0 :: a1 :: a2 :: a3 :: a4 :: some .null :: ls) (.null :: st) σ τ := mj_nx i74_14 rfl
theorem i74_16 : mj_ins 74 16 = some (.ifnull 24, 19) := by decide +kernel
theorem e74_16 {ls : mj_L} {st : List Value} {σ : mj_S} {τ : mj_T} {v : Nat} : mj_E 74 16 ls (.ref v :: st) σ τ = mj_E 74 19 ls st σ τ := mj_nx i74_16 rfl
theorem e74_16n {ls : mj_L} {st : List Value} {σ : mj_S} {τ : mj_T} : mj_E 74 16 ls (.null :: st) σ τ = mj_E 74 24 ls st σ τ := mj_nx i74_16 rfl
theorem i74_19 : mj_ins 74 19 = some (.iload 6, 21) := by decide +kernel
theorem e74_19 {ls : mj_L} {st : List Value} {σ : mj_S} {τ : mj_T} {a0 a1 a2 a3 a4 a5 : Option Value} {v : Int32} : mj_E 74 19 (a0 :: a1 :: a2 :: a3 :: a4 :: a5 :: some (.int v) :: ls) st σ τ = mj_E 74 21 (a0 :: a1 :: a2 :: a3 :: a4 :: a5 :: some (.int v) :: ls) (.int v :: st) σ τ := mj_nx i74_19 rfl
theorem i74_21 : mj_ins 74 21 = some (.ifCond .eq 31, 24) := by decide +kernel
theorem e74_21 {ls : mj_L} {st : List Value} {σ : mj_S} {τ : mj_T} {x : Int32} : mj_E 74 21 ls (.int x :: st) σ τ = if x = 0 then mj_E 74 31 ls st σ τ else mj_E 74 24 ls st σ τ := (mj_ifc i74_21).trans (mj_cdT rfl)
theorem i74_24 : mj_ins 74 24 = some (.aload 0, 25) := by decide +kernel
theorem e74_24 {ls : mj_L} {st : List Value} {σ : mj_S} {τ : mj_T} {v : Nat} : mj_E 74 24 (some (.ref v) :: ls) st σ τ = mj_E 74 25 (some (.ref v) :: ls) (.ref v :: st) σ τ := mj_nx i74_24 rfl
theorem i74_25 : mj_ins 74 25 = some (.iload 6, 27) := by decide +kernel
theorem e74_25 {ls : mj_L} {st : List Value} {σ : mj_S} {τ : mj_T} {a0 a1 a2 a3 a4 a5 : Option Value} {v : Int32} : mj_E 74 25 (a0 :: a1 :: a2 :: a3 :: a4 :: a5 :: some (.int v) :: ls) st σ τ = mj_E 74 27 (a0 :: a1 :: a2 :: a3 :: a4 :: a5 :: some (.int v) :: ls) (.int v :: st) σ τ := mj_nx i74_25 rfl
theorem i74_27 : mj_ins 74 27 = some (.invokevirtual 112, 30) := by decide +kernel
theorem e74_27 {ls : mj_L} {σ : mj_S} {τ : mj_T} {r : Nat} {x0 : Int32} : mj_E 74 27 ls [.int x0, .ref r] σ τ = if mj_rcv r 6 = true then mj_bd (mj_C 112 [.ref r, .int x0] σ τ) (mj_K 74 30 ls []) else none := mj_clV (as := [.int x0]) (r := []) i74_27 (by decide +kernel : mj_vk 74 112 1 0 2 false = true) (by decide +kernel)
theorem i74_30 : mj_ins 74 30 = some (.ireturn, 31) := by decide +kernel
theorem e74_30 {ls : mj_L} {σ : mj_S} {τ : mj_T} {v : Int32} : mj_E 74 30 ls [.int v] σ τ = some (some (.int v), σ, τ) := mj_irt i74_30 rfl
theorem i74_31 : mj_ins 74 31 = some (.aload 5, 33) := by decide +kernel
theorem e74_31 {ls : mj_L} {st : List Value} {σ : mj_S} {τ : mj_T} {a0 a1 a2 a3 a4 : Option Value} {v : Nat} : mj_E 74 31 (a0 :: a1 :: a2 :: a3 :: a4 :: some (.ref v) :: ls) st σ τ = mj_E 74 33 (a0 :: a1 :: a2 :: a3 :: a4 :: some (.ref v) :: ls) (.ref v :: st) σ τ := mj_nx i74_31 rfl
theorem e74_31n {ls : mj_L} {st : List Value} {σ : mj_S} {τ : mj_T} {a0 a1 a2 a3 a4 : Option Value} : mj_E 74 31 (a0 :: a1 :: a2 :: a3 :: a4 :: some .null :: ls) st σ τ = mj_E 74 33 (a0 :: a1 :: a2 :: a3 :: a4 :: some .null :: ls) (.null :: st) σ τ := mj_nx i74_31 rfl
theorem i74_33 : mj_ins 74 33 = some (.iload 2, 34) := by decide +kernel
theorem e74_33 {ls : mj_L} {st : List Value} {σ : mj_S} {τ : mj_T} {a0 a1 : Option Value} {v : Int32} : mj_E 74 33 (a0 :: a1 :: some (.int v) :: ls) st σ τ = mj_E 74 34 (a0 :: a1 :: some (.int v) :: ls) (.int v :: st) σ τ := mj_nx i74_33 rfl
theorem i74_34 : mj_ins 74 34 = some (.invokevirtual 63, 37) := by decide +kernel
theorem e74_34 {ls : mj_L} {σ : mj_S} {τ : mj_T} {r : Nat} {x0 : Int32} : mj_E 74 34 ls [.int x0, .ref r] σ τ = if mj_rcv r 4 = true then mj_bd (mj_C 63 [.ref r, .int x0] σ τ) (mj_K 74 37 ls []) else none := mj_clV (as := [.int x0]) (r := []) i74_34 (by decide +kernel : mj_vk 74 63 1 0 2 false = true) (by decide +kernel)
theorem i74_37 : mj_ins 74 37 = some (.ifCond .ne 47, 40) := by decide +kernel
theorem e74_37 {ls : mj_L} {st : List Value} {σ : mj_S} {τ : mj_T} {x : Int32} : mj_E 74 37 ls (.int x :: st) σ τ = if x = 0 then mj_E 74 40 ls st σ τ else mj_E 74 47 ls st σ τ := (mj_ifc i74_37).trans (mj_cdF rfl)
theorem i74_40 : mj_ins 74 40 = some (.aload 0, 41) := by decide +kernel
theorem e74_40 {ls : mj_L} {st : List Value} {σ : mj_S} {τ : mj_T} {v : Nat} : mj_E 74 40 (some (.ref v) :: ls) st σ τ = mj_E 74 41 (some (.ref v) :: ls) (.ref v :: st) σ τ := mj_nx i74_40 rfl
theorem i74_41 : mj_ins 74 41 = some (.iconst (-5), 43) := by decide +kernel
theorem e74_41 {ls : mj_L} {st : List Value} {σ : mj_S} {τ : mj_T} : mj_E 74 41 ls st σ τ = mj_E 74 43 ls (.int ((-5)) :: st) σ τ := mj_nx i74_41 rfl
theorem i74_43 : mj_ins 74 43 = some (.invokevirtual 112, 46) := by decide +kernel
theorem e74_43 {ls : mj_L} {σ : mj_S} {τ : mj_T} {r : Nat} {x0 : Int32} : mj_E 74 43 ls [.int x0, .ref r] σ τ = if mj_rcv r 6 = true then mj_bd (mj_C 112 [.ref r, .int x0] σ τ) (mj_K 74 46 ls []) else none := mj_clV (as := [.int x0]) (r := []) i74_43 (by decide +kernel : mj_vk 74 112 1 0 2 false = true) (by decide +kernel)
theorem i74_46 : mj_ins 74 46 = some (.ireturn, 47) := by decide +kernel
theorem e74_46 {ls : mj_L} {σ : mj_S} {τ : mj_T} {v : Int32} : mj_E 74 46 ls [.int v] σ τ = some (some (.int v), σ, τ) := mj_irt i74_46 rfl
theorem i74_47 : mj_ins 74 47 = some (.aload 5, 49) := by decide +kernel
theorem e74_47 {ls : mj_L} {st : List Value} {σ : mj_S} {τ : mj_T} {a0 a1 a2 a3 a4 : Option Value} {v : Nat} : mj_E 74 47 (a0 :: a1 :: a2 :: a3 :: a4 :: some (.ref v) :: ls) st σ τ = mj_E 74 49 (a0 :: a1 :: a2 :: a3 :: a4 :: some (.ref v) :: ls) (.ref v :: st) σ τ := mj_nx i74_47 rfl
theorem e74_47n {ls : mj_L} {st : List Value} {σ : mj_S} {τ : mj_T} {a0 a1 a2 a3 a4 : Option Value} : mj_E 74 47 (a0 :: a1 :: a2 :: a3 :: a4 :: some .null :: ls) st σ τ = mj_E 74 49 (a0 :: a1 :: a2 :: a3 :: a4 :: some .null :: ls) (.null :: st) σ τ := mj_nx i74_47 rfl
theorem i74_49 : mj_ins 74 49 = some (.iload 2, 50) := by decide +kernel
theorem e74_49 {ls : mj_L} {st : List Value} {σ : mj_S} {τ : mj_T} {a0 a1 : Option Value} {v : Int32} : mj_E 74 49 (a0 :: a1 :: some (.int v) :: ls) st σ τ = mj_E 74 50 (a0 :: a1 :: some (.int v) :: ls) (.int v :: st) σ τ := mj_nx i74_49 rfl
theorem i74_50 : mj_ins 74 50 = some (.lload 3, 51) := by decide +kernel
theorem e74_50 {ls : mj_L} {st : List Value} {σ : mj_S} {τ : mj_T} {a0 a1 a2 : Option Value} {v : Int64} : mj_E 74 50 (a0 :: a1 :: a2 :: some (.long v) :: ls) st σ τ = mj_E 74 51 (a0 :: a1 :: a2 :: some (.long v) :: ls) (.long v :: st) σ τ := mj_nx i74_50 rfl
theorem i74_51 : mj_ins 74 51 = some (.invokevirtual 65, 54) := by decide +kernel
theorem e74_51 {ls : mj_L} {σ : mj_S} {τ : mj_T} {r : Nat} {x0 : Int32} {x1 : Int64} : mj_E 74 51 ls [.long x1, .int x0, .ref r] σ τ = if mj_rcv r 4 = true then mj_bd (mj_C 65 [.ref r, .int x0, .long x1] σ τ) (mj_K 74 54 ls []) else none := mj_clV (as := [.int x0, .long x1]) (r := []) i74_51 (by decide +kernel : mj_vk 74 65 2 0 4 true = true) (by decide +kernel)
theorem i74_54 : mj_ins 74 54 = some (.iconst (1), 55) := by decide +kernel
theorem e74_54 {ls : mj_L} {st : List Value} {σ : mj_S} {τ : mj_T} : mj_E 74 54 ls st σ τ = mj_E 74 55 ls (.int (nI 1) :: st) σ τ := mj_nx i74_54 rfl
theorem i74_55 : mj_ins 74 55 = some (.ireturn, 56) := by decide +kernel
theorem e74_55 {ls : mj_L} {σ : mj_S} {τ : mj_T} {v : Int32} : mj_E 74 55 ls [.int v] σ τ = some (some (.int v), σ, τ) := mj_irt i74_55 rfl
theorem c75 {σ : mj_S} {τ : mj_T} {r : Nat} {x0 : Int32} {x1 : Int32} {x2 : Int32} {x3 : Int32} {x4 : Int32} : mj_C 75 [.ref r, .int x0, .int x1, .int x2, .int x3, .int x4] σ τ = mj_E 75 0 [some (.ref r), some (.int x0), some (.int x1), some (.int x2), some (.int x3), some (.int x4), none, none] [] σ τ := rfl
theorem i75_0 : mj_ins 75 0 = some (.aload 0, 1) := by decide +kernel
theorem e75_0 {ls : mj_L} {st : List Value} {σ : mj_S} {τ : mj_T} {v : Nat} : mj_E 75 0 (some (.ref v) :: ls) st σ τ = mj_E 75 1 (some (.ref v) :: ls) (.ref v :: st) σ τ := mj_nx i75_0 rfl
theorem i75_1 : mj_ins 75 1 = some (.iload 1, 2) := by decide +kernel
theorem e75_1 {ls : mj_L} {st : List Value} {σ : mj_S} {τ : mj_T} {a0 : Option Value} {v : Int32} : mj_E 75 1 (a0 :: some (.int v) :: ls) st σ τ = mj_E 75 2 (a0 :: some (.int v) :: ls) (.int v :: st) σ τ := mj_nx i75_1 rfl
theorem i75_2 : mj_ins 75 2 = some (.invokevirtual 114, 5) := by decide +kernel
theorem e75_2 {ls : mj_L} {σ : mj_S} {τ : mj_T} {r : Nat} {x0 : Int32} : mj_E 75 2 ls [.int x0, .ref r] σ τ = if mj_rcv r 6 = true then mj_bd (mj_C 114 [.ref r, .int x0] σ τ) (mj_K 75 5 ls []) else none := mj_clV (as := [.int x0]) (r := []) i75_2 (by decide +kernel : mj_vk 75 114 1 0 2 false = true) (by decide +kernel)
theorem i75_5 : mj_ins 75 5 = some (.astore 6, 7) := by decide +kernel
theorem e75_5 {ls : mj_L} {st : List Value} {σ : mj_S} {τ : mj_T} {a0 a1 a2 a3 a4 a5 a6 : Option Value} {v : Nat} : mj_E 75 5 (a0 :: a1 :: a2 :: a3 :: a4 :: a5 :: a6 :: ls) (.ref v :: st) σ τ = mj_E 75 7 (a0 :: a1 :: a2 :: a3 :: a4 :: a5 :: some (.ref v) :: ls) st σ τ := mj_nx i75_5 rfl
theorem e75_5n {ls : mj_L} {st : List Value} {σ : mj_S} {τ : mj_T} {a0 a1 a2 a3 a4 a5 a6 : Option Value} : mj_E 75 5 (a0 :: a1 :: a2 :: a3 :: a4 :: a5 :: a6 :: ls) (.null :: st) σ τ = mj_E 75 7 (a0 :: a1 :: a2 :: a3 :: a4 :: a5 :: some .null :: ls) st σ τ := mj_nx i75_5 rfl
theorem i75_7 : mj_ins 75 7 = some (.aload 0, 8) := by decide +kernel
theorem e75_7 {ls : mj_L} {st : List Value} {σ : mj_S} {τ : mj_T} {v : Nat} : mj_E 75 7 (some (.ref v) :: ls) st σ τ = mj_E 75 8 (some (.ref v) :: ls) (.ref v :: st) σ τ := mj_nx i75_7 rfl
theorem i75_8 : mj_ins 75 8 = some (.iload 2, 9) := by decide +kernel
theorem e75_8 {ls : mj_L} {st : List Value} {σ : mj_S} {τ : mj_T} {a0 a1 : Option Value} {v : Int32} : mj_E 75 8 (a0 :: a1 :: some (.int v) :: ls) st σ τ = mj_E 75 9 (a0 :: a1 :: some (.int v) :: ls) (.int v :: st) σ τ := mj_nx i75_8 rfl
theorem i75_9 : mj_ins 75 9 = some (.invokevirtual 114, 12) := by decide +kernel
theorem e75_9 {ls : mj_L} {σ : mj_S} {τ : mj_T} {r : Nat} {x0 : Int32} : mj_E 75 9 ls [.int x0, .ref r] σ τ = if mj_rcv r 6 = true then mj_bd (mj_C 114 [.ref r, .int x0] σ τ) (mj_K 75 12 ls []) else none := mj_clV (as := [.int x0]) (r := []) i75_9 (by decide +kernel : mj_vk 75 114 1 0 2 false = true) (by decide +kernel)
theorem i75_12 : mj_ins 75 12 = some (.astore 7, 14) := by decide +kernel
theorem e75_12 {ls : mj_L} {st : List Value} {σ : mj_S} {τ : mj_T} {a0 a1 a2 a3 a4 a5 a6 a7 : Option Value} {v : Nat} : mj_E 75 12 (a0 :: a1 :: a2 :: a3 :: a4 :: a5 :: a6 :: a7 :: ls) (.ref v :: st) σ τ = mj_E 75 14 (a0 :: a1 :: a2 :: a3 :: a4 :: a5 :: a6 :: some (.ref v) :: ls) st σ τ := mj_nx i75_12 rfl
theorem e75_12n {ls : mj_L} {st : List Value} {σ : mj_S} {τ : mj_T} {a0 a1 a2 a3 a4 a5 a6 a7 : Option Value} : mj_E 75 12 (a0 :: a1 :: a2 :: a3 :: a4 :: a5 :: a6 :: a7 :: ls) (.null :: st) σ τ = mj_E 75 14 (a0 :: a1 :: a2 :: a3 :: a4 :: a5 :: a6 :: some .null :: ls) st σ τ := mj_nx i75_12 rfl
theorem i75_14 : mj_ins 75 14 = some (.aload 6, 16) := by decide +kernel
theorem e75_14 {ls : mj_L} {st : List Value} {σ : mj_S} {τ : mj_T} {a0 a1 a2 a3 a4 a5 : Option Value} {v : Nat} : mj_E 75 14 (a0 :: a1 :: a2 :: a3 :: a4 :: a5 :: some (.ref v) :: ls) st σ τ = mj_E 75 16 (a0 :: a1 :: a2 :: a3 :: a4 :: a5 :: some (.ref v) :: ls) (.ref v :: st) σ τ := mj_nx i75_14 rfl
theorem e75_14n {ls : mj_L} {st : List Value} {σ : mj_S} {τ : mj_T} {a0 a1 a2 a3 a4 a5 : Option Value} : mj_E 75 14 (a0 :: a1 :: a2 :: a3 :: a4 :: a5 :: some .null :: ls) st σ τ = mj_E 75 16 (a0 :: a1 :: a2 :: a3 :: a4 :: a5 :: some .null :: ls) (.null :: st) σ τ := mj_nx i75_14 rfl
theorem i75_16 : mj_ins 75 16 = some (.ifnull 24, 19) := by decide +kernel
theorem e75_16 {ls : mj_L} {st : List Value} {σ : mj_S} {τ : mj_T} {v : Nat} : mj_E 75 16 ls (.ref v :: st) σ τ = mj_E 75 19 ls st σ τ := mj_nx i75_16 rfl
theorem e75_16n {ls : mj_L} {st : List Value} {σ : mj_S} {τ : mj_T} : mj_E 75 16 ls (.null :: st) σ τ = mj_E 75 24 ls st σ τ := mj_nx i75_16 rfl
theorem i75_19 : mj_ins 75 19 = some (.aload 7, 21) := by decide +kernel
theorem e75_19 {ls : mj_L} {st : List Value} {σ : mj_S} {τ : mj_T} {a0 a1 a2 a3 a4 a5 a6 : Option Value} {v : Nat} : mj_E 75 19 (a0 :: a1 :: a2 :: a3 :: a4 :: a5 :: a6 :: some (.ref v) :: ls) st σ τ = mj_E 75 21 (a0 :: a1 :: a2 :: a3 :: a4 :: a5 :: a6 :: some (.ref v) :: ls) (.ref v :: st) σ τ := mj_nx i75_19 rfl
theorem e75_19n {ls : mj_L} {st : List Value} {σ : mj_S} {τ : mj_T} {a0 a1 a2 a3 a4 a5 a6 : Option Value} : mj_E 75 19 (a0 :: a1 :: a2 :: a3 :: a4 :: a5 :: a6 :: some .null :: ls) st σ τ = mj_E 75 21 (a0 :: a1 :: a2 :: a3 :: a4 :: a5 :: a6 :: some .null :: ls) (.null :: st) σ τ := mj_nx i75_19 rfl
theorem i75_21 : mj_ins 75 21 = some (.ifnonnull 30, 24) := by decide +kernel
theorem e75_21 {ls : mj_L} {st : List Value} {σ : mj_S} {τ : mj_T} {v : Nat} : mj_E 75 21 ls (.ref v :: st) σ τ = mj_E 75 30 ls st σ τ := mj_nx i75_21 rfl
theorem e75_21n {ls : mj_L} {st : List Value} {σ : mj_S} {τ : mj_T} : mj_E 75 21 ls (.null :: st) σ τ = mj_E 75 24 ls st σ τ := mj_nx i75_21 rfl
theorem i75_24 : mj_ins 75 24 = some (.aload 0, 25) := by decide +kernel
theorem e75_24 {ls : mj_L} {st : List Value} {σ : mj_S} {τ : mj_T} {v : Nat} : mj_E 75 24 (some (.ref v) :: ls) st σ τ = mj_E 75 25 (some (.ref v) :: ls) (.ref v :: st) σ τ := mj_nx i75_24 rfl
theorem i75_25 : mj_ins 75 25 = some (.iconst (-1), 26) := by decide +kernel
theorem e75_25 {ls : mj_L} {st : List Value} {σ : mj_S} {τ : mj_T} : mj_E 75 25 ls st σ τ = mj_E 75 26 ls (.int ((-1)) :: st) σ τ := mj_nx i75_25 rfl
theorem i75_26 : mj_ins 75 26 = some (.invokevirtual 112, 29) := by decide +kernel
theorem e75_26 {ls : mj_L} {σ : mj_S} {τ : mj_T} {r : Nat} {x0 : Int32} : mj_E 75 26 ls [.int x0, .ref r] σ τ = if mj_rcv r 6 = true then mj_bd (mj_C 112 [.ref r, .int x0] σ τ) (mj_K 75 29 ls []) else none := mj_clV (as := [.int x0]) (r := []) i75_26 (by decide +kernel : mj_vk 75 112 1 0 2 false = true) (by decide +kernel)
theorem i75_29 : mj_ins 75 29 = some (.ireturn, 30) := by decide +kernel
theorem e75_29 {ls : mj_L} {σ : mj_S} {τ : mj_T} {v : Int32} : mj_E 75 29 ls [.int v] σ τ = some (some (.int v), σ, τ) := mj_irt i75_29 rfl
theorem i75_30 : mj_ins 75 30 = some (.aload 6, 32) := by decide +kernel
theorem e75_30 {ls : mj_L} {st : List Value} {σ : mj_S} {τ : mj_T} {a0 a1 a2 a3 a4 a5 : Option Value} {v : Nat} : mj_E 75 30 (a0 :: a1 :: a2 :: a3 :: a4 :: a5 :: some (.ref v) :: ls) st σ τ = mj_E 75 32 (a0 :: a1 :: a2 :: a3 :: a4 :: a5 :: some (.ref v) :: ls) (.ref v :: st) σ τ := mj_nx i75_30 rfl
theorem e75_30n {ls : mj_L} {st : List Value} {σ : mj_S} {τ : mj_T} {a0 a1 a2 a3 a4 a5 : Option Value} : mj_E 75 30 (a0 :: a1 :: a2 :: a3 :: a4 :: a5 :: some .null :: ls) st σ τ = mj_E 75 32 (a0 :: a1 :: a2 :: a3 :: a4 :: a5 :: some .null :: ls) (.null :: st) σ τ := mj_nx i75_30 rfl
theorem i75_32 : mj_ins 75 32 = some (.invokevirtual 62, 35) := by decide +kernel
theorem e75_32 {ls : mj_L} {σ : mj_S} {τ : mj_T} {r : Nat} : mj_E 75 32 ls [.ref r] σ τ = if mj_rcv r 4 = true then mj_bd (mj_C 62 [.ref r] σ τ) (mj_K 75 35 ls []) else none := mj_clV (as := []) (r := []) i75_32 (by decide +kernel : mj_vk 75 62 0 0 1 false = true) (by decide +kernel)
theorem i75_35 : mj_ins 75 35 = some (.ifCond .ne 46, 38) := by decide +kernel
theorem e75_35 {ls : mj_L} {st : List Value} {σ : mj_S} {τ : mj_T} {x : Int32} : mj_E 75 35 ls (.int x :: st) σ τ = if x = 0 then mj_E 75 38 ls st σ τ else mj_E 75 46 ls st σ τ := (mj_ifc i75_35).trans (mj_cdF rfl)
theorem i75_38 : mj_ins 75 38 = some (.aload 7, 40) := by decide +kernel
theorem e75_38 {ls : mj_L} {st : List Value} {σ : mj_S} {τ : mj_T} {a0 a1 a2 a3 a4 a5 a6 : Option Value} {v : Nat} : mj_E 75 38 (a0 :: a1 :: a2 :: a3 :: a4 :: a5 :: a6 :: some (.ref v) :: ls) st σ τ = mj_E 75 40 (a0 :: a1 :: a2 :: a3 :: a4 :: a5 :: a6 :: some (.ref v) :: ls) (.ref v :: st) σ τ := mj_nx i75_38 rfl
theorem e75_38n {ls : mj_L} {st : List Value} {σ : mj_S} {τ : mj_T} {a0 a1 a2 a3 a4 a5 a6 : Option Value} : mj_E 75 38 (a0 :: a1 :: a2 :: a3 :: a4 :: a5 :: a6 :: some .null :: ls) st σ τ = mj_E 75 40 (a0 :: a1 :: a2 :: a3 :: a4 :: a5 :: a6 :: some .null :: ls) (.null :: st) σ τ := mj_nx i75_38 rfl
theorem i75_40 : mj_ins 75 40 = some (.invokevirtual 62, 43) := by decide +kernel
theorem e75_40 {ls : mj_L} {σ : mj_S} {τ : mj_T} {r : Nat} : mj_E 75 40 ls [.ref r] σ τ = if mj_rcv r 4 = true then mj_bd (mj_C 62 [.ref r] σ τ) (mj_K 75 43 ls []) else none := mj_clV (as := []) (r := []) i75_40 (by decide +kernel : mj_vk 75 62 0 0 1 false = true) (by decide +kernel)
theorem i75_43 : mj_ins 75 43 = some (.ifCond .eq 53, 46) := by decide +kernel
theorem e75_43 {ls : mj_L} {st : List Value} {σ : mj_S} {τ : mj_T} {x : Int32} : mj_E 75 43 ls (.int x :: st) σ τ = if x = 0 then mj_E 75 53 ls st σ τ else mj_E 75 46 ls st σ τ := (mj_ifc i75_43).trans (mj_cdT rfl)
theorem i75_46 : mj_ins 75 46 = some (.aload 0, 47) := by decide +kernel
theorem e75_46 {ls : mj_L} {st : List Value} {σ : mj_S} {τ : mj_T} {v : Nat} : mj_E 75 46 (some (.ref v) :: ls) st σ τ = mj_E 75 47 (some (.ref v) :: ls) (.ref v :: st) σ τ := mj_nx i75_46 rfl
theorem i75_47 : mj_ins 75 47 = some (.iconst (-2), 49) := by decide +kernel
theorem e75_47 {ls : mj_L} {st : List Value} {σ : mj_S} {τ : mj_T} : mj_E 75 47 ls st σ τ = mj_E 75 49 ls (.int ((-2)) :: st) σ τ := mj_nx i75_47 rfl
theorem i75_49 : mj_ins 75 49 = some (.invokevirtual 112, 52) := by decide +kernel
theorem e75_49 {ls : mj_L} {σ : mj_S} {τ : mj_T} {r : Nat} {x0 : Int32} : mj_E 75 49 ls [.int x0, .ref r] σ τ = if mj_rcv r 6 = true then mj_bd (mj_C 112 [.ref r, .int x0] σ τ) (mj_K 75 52 ls []) else none := mj_clV (as := [.int x0]) (r := []) i75_49 (by decide +kernel : mj_vk 75 112 1 0 2 false = true) (by decide +kernel)
theorem i75_52 : mj_ins 75 52 = some (.ireturn, 53) := by decide +kernel
theorem e75_52 {ls : mj_L} {σ : mj_S} {τ : mj_T} {v : Int32} : mj_E 75 52 ls [.int v] σ τ = some (some (.int v), σ, τ) := mj_irt i75_52 rfl
theorem i75_53 : mj_ins 75 53 = some (.aload 6, 55) := by decide +kernel
theorem e75_53 {ls : mj_L} {st : List Value} {σ : mj_S} {τ : mj_T} {a0 a1 a2 a3 a4 a5 : Option Value} {v : Nat} : mj_E 75 53 (a0 :: a1 :: a2 :: a3 :: a4 :: a5 :: some (.ref v) :: ls) st σ τ = mj_E 75 55 (a0 :: a1 :: a2 :: a3 :: a4 :: a5 :: some (.ref v) :: ls) (.ref v :: st) σ τ := mj_nx i75_53 rfl
theorem e75_53n {ls : mj_L} {st : List Value} {σ : mj_S} {τ : mj_T} {a0 a1 a2 a3 a4 a5 : Option Value} : mj_E 75 53 (a0 :: a1 :: a2 :: a3 :: a4 :: a5 :: some .null :: ls) st σ τ = mj_E 75 55 (a0 :: a1 :: a2 :: a3 :: a4 :: a5 :: some .null :: ls) (.null :: st) σ τ := mj_nx i75_53 rfl
theorem i75_55 : mj_ins 75 55 = some (.invokevirtual 61, 58) := by decide +kernel
theorem e75_55 {ls : mj_L} {σ : mj_S} {τ : mj_T} {r : Nat} : mj_E 75 55 ls [.ref r] σ τ = if mj_rcv r 4 = true then mj_bd (mj_C 61 [.ref r] σ τ) (mj_K 75 58 ls []) else none := mj_clV (as := []) (r := []) i75_55 (by decide +kernel : mj_vk 75 61 0 0 1 false = true) (by decide +kernel)
theorem i75_58 : mj_ins 75 58 = some (.ifCond .eq 89, 61) := by decide +kernel
theorem e75_58 {ls : mj_L} {st : List Value} {σ : mj_S} {τ : mj_T} {x : Int32} : mj_E 75 58 ls (.int x :: st) σ τ = if x = 0 then mj_E 75 89 ls st σ τ else mj_E 75 61 ls st σ τ := (mj_ifc i75_58).trans (mj_cdT rfl)
theorem i75_61 : mj_ins 75 61 = some (.aload 7, 63) := by decide +kernel
theorem e75_61 {ls : mj_L} {st : List Value} {σ : mj_S} {τ : mj_T} {a0 a1 a2 a3 a4 a5 a6 : Option Value} {v : Nat} : mj_E 75 61 (a0 :: a1 :: a2 :: a3 :: a4 :: a5 :: a6 :: some (.ref v) :: ls) st σ τ = mj_E 75 63 (a0 :: a1 :: a2 :: a3 :: a4 :: a5 :: a6 :: some (.ref v) :: ls) (.ref v :: st) σ τ := mj_nx i75_61 rfl
theorem e75_61n {ls : mj_L} {st : List Value} {σ : mj_S} {τ : mj_T} {a0 a1 a2 a3 a4 a5 a6 : Option Value} : mj_E 75 61 (a0 :: a1 :: a2 :: a3 :: a4 :: a5 :: a6 :: some .null :: ls) st σ τ = mj_E 75 63 (a0 :: a1 :: a2 :: a3 :: a4 :: a5 :: a6 :: some .null :: ls) (.null :: st) σ τ := mj_nx i75_61 rfl
theorem i75_63 : mj_ins 75 63 = some (.invokevirtual 61, 66) := by decide +kernel
theorem e75_63 {ls : mj_L} {σ : mj_S} {τ : mj_T} {r : Nat} : mj_E 75 63 ls [.ref r] σ τ = if mj_rcv r 4 = true then mj_bd (mj_C 61 [.ref r] σ τ) (mj_K 75 66 ls []) else none := mj_clV (as := []) (r := []) i75_63 (by decide +kernel : mj_vk 75 61 0 0 1 false = true) (by decide +kernel)
theorem i75_66 : mj_ins 75 66 = some (.ifCond .eq 89, 69) := by decide +kernel
theorem e75_66 {ls : mj_L} {st : List Value} {σ : mj_S} {τ : mj_T} {x : Int32} : mj_E 75 66 ls (.int x :: st) σ τ = if x = 0 then mj_E 75 89 ls st σ τ else mj_E 75 69 ls st σ τ := (mj_ifc i75_66).trans (mj_cdT rfl)
theorem i75_69 : mj_ins 75 69 = some (.aload 6, 71) := by decide +kernel
theorem e75_69 {ls : mj_L} {st : List Value} {σ : mj_S} {τ : mj_T} {a0 a1 a2 a3 a4 a5 : Option Value} {v : Nat} : mj_E 75 69 (a0 :: a1 :: a2 :: a3 :: a4 :: a5 :: some (.ref v) :: ls) st σ τ = mj_E 75 71 (a0 :: a1 :: a2 :: a3 :: a4 :: a5 :: some (.ref v) :: ls) (.ref v :: st) σ τ := mj_nx i75_69 rfl
theorem e75_69n {ls : mj_L} {st : List Value} {σ : mj_S} {τ : mj_T} {a0 a1 a2 a3 a4 a5 : Option Value} : mj_E 75 69 (a0 :: a1 :: a2 :: a3 :: a4 :: a5 :: some .null :: ls) st σ τ = mj_E 75 71 (a0 :: a1 :: a2 :: a3 :: a4 :: a5 :: some .null :: ls) (.null :: st) σ τ := mj_nx i75_69 rfl
theorem i75_71 : mj_ins 75 71 = some (.getfield 400, 74) := by decide +kernel
theorem e75_71 {ls : mj_L} {st : List Value} {σ : mj_S} {τ : mj_T} {k : Nat} (h1 : 40 ≤ k) (h2 : k ≤ 47) : mj_E 75 71 ls (.ref k :: st) σ τ = mj_E 75 74 ls (.int (σ k 0) :: st) σ τ := (mj_gf i75_71).trans (congrArg (fun z => mj_ov z _) (fv4_0 h1 h2))
theorem i75_74 : mj_ins 75 74 = some (.aload 7, 76) := by decide +kernel
theorem e75_74 {ls : mj_L} {st : List Value} {σ : mj_S} {τ : mj_T} {a0 a1 a2 a3 a4 a5 a6 : Option Value} {v : Nat} : mj_E 75 74 (a0 :: a1 :: a2 :: a3 :: a4 :: a5 :: a6 :: some (.ref v) :: ls) st σ τ = mj_E 75 76 (a0 :: a1 :: a2 :: a3 :: a4 :: a5 :: a6 :: some (.ref v) :: ls) (.ref v :: st) σ τ := mj_nx i75_74 rfl
theorem e75_74n {ls : mj_L} {st : List Value} {σ : mj_S} {τ : mj_T} {a0 a1 a2 a3 a4 a5 a6 : Option Value} : mj_E 75 74 (a0 :: a1 :: a2 :: a3 :: a4 :: a5 :: a6 :: some .null :: ls) st σ τ = mj_E 75 76 (a0 :: a1 :: a2 :: a3 :: a4 :: a5 :: a6 :: some .null :: ls) (.null :: st) σ τ := mj_nx i75_74 rfl
theorem i75_76 : mj_ins 75 76 = some (.getfield 400, 79) := by decide +kernel
theorem e75_76 {ls : mj_L} {st : List Value} {σ : mj_S} {τ : mj_T} {k : Nat} (h1 : 40 ≤ k) (h2 : k ≤ 47) : mj_E 75 76 ls (.ref k :: st) σ τ = mj_E 75 79 ls (.int (σ k 0) :: st) σ τ := (mj_gf i75_76).trans (congrArg (fun z => mj_ov z _) (fv4_0 h1 h2))
theorem i75_79 : mj_ins 75 79 = some (.if_icmp .eq 89, 82) := by decide +kernel
theorem e75_79 {ls : mj_L} {st : List Value} {σ : mj_S} {τ : mj_T} {x y : Int32} : mj_E 75 79 ls (.int y :: .int x :: st) σ τ = if x = y then mj_E 75 89 ls st σ τ else mj_E 75 82 ls st σ τ := (mj_ifi i75_79).trans (mj_cdT rfl)
theorem i75_82 : mj_ins 75 82 = some (.aload 0, 83) := by decide +kernel
theorem e75_82 {ls : mj_L} {st : List Value} {σ : mj_S} {τ : mj_T} {v : Nat} : mj_E 75 82 (some (.ref v) :: ls) st σ τ = mj_E 75 83 (some (.ref v) :: ls) (.ref v :: st) σ τ := mj_nx i75_82 rfl
theorem i75_83 : mj_ins 75 83 = some (.iconst (-2), 85) := by decide +kernel
theorem e75_83 {ls : mj_L} {st : List Value} {σ : mj_S} {τ : mj_T} : mj_E 75 83 ls st σ τ = mj_E 75 85 ls (.int ((-2)) :: st) σ τ := mj_nx i75_83 rfl
theorem i75_85 : mj_ins 75 85 = some (.invokevirtual 112, 88) := by decide +kernel
theorem e75_85 {ls : mj_L} {σ : mj_S} {τ : mj_T} {r : Nat} {x0 : Int32} : mj_E 75 85 ls [.int x0, .ref r] σ τ = if mj_rcv r 6 = true then mj_bd (mj_C 112 [.ref r, .int x0] σ τ) (mj_K 75 88 ls []) else none := mj_clV (as := [.int x0]) (r := []) i75_85 (by decide +kernel : mj_vk 75 112 1 0 2 false = true) (by decide +kernel)
theorem i75_88 : mj_ins 75 88 = some (.ireturn, 89) := by decide +kernel
theorem e75_88 {ls : mj_L} {σ : mj_S} {τ : mj_T} {v : Int32} : mj_E 75 88 ls [.int v] σ τ = some (some (.int v), σ, τ) := mj_irt i75_88 rfl
theorem i75_89 : mj_ins 75 89 = some (.aload 6, 91) := by decide +kernel
theorem e75_89 {ls : mj_L} {st : List Value} {σ : mj_S} {τ : mj_T} {a0 a1 a2 a3 a4 a5 : Option Value} {v : Nat} : mj_E 75 89 (a0 :: a1 :: a2 :: a3 :: a4 :: a5 :: some (.ref v) :: ls) st σ τ = mj_E 75 91 (a0 :: a1 :: a2 :: a3 :: a4 :: a5 :: some (.ref v) :: ls) (.ref v :: st) σ τ := mj_nx i75_89 rfl
theorem e75_89n {ls : mj_L} {st : List Value} {σ : mj_S} {τ : mj_T} {a0 a1 a2 a3 a4 a5 : Option Value} : mj_E 75 89 (a0 :: a1 :: a2 :: a3 :: a4 :: a5 :: some .null :: ls) st σ τ = mj_E 75 91 (a0 :: a1 :: a2 :: a3 :: a4 :: a5 :: some .null :: ls) (.null :: st) σ τ := mj_nx i75_89 rfl
theorem i75_91 : mj_ins 75 91 = some (.invokevirtual 61, 94) := by decide +kernel
theorem e75_91 {ls : mj_L} {σ : mj_S} {τ : mj_T} {r : Nat} : mj_E 75 91 ls [.ref r] σ τ = if mj_rcv r 4 = true then mj_bd (mj_C 61 [.ref r] σ τ) (mj_K 75 94 ls []) else none := mj_clV (as := []) (r := []) i75_91 (by decide +kernel : mj_vk 75 61 0 0 1 false = true) (by decide +kernel)
theorem i75_94 : mj_ins 75 94 = some (.ifCond .eq 105, 97) := by decide +kernel
theorem e75_94 {ls : mj_L} {st : List Value} {σ : mj_S} {τ : mj_T} {x : Int32} : mj_E 75 94 ls (.int x :: st) σ τ = if x = 0 then mj_E 75 105 ls st σ τ else mj_E 75 97 ls st σ τ := (mj_ifc i75_94).trans (mj_cdT rfl)
theorem i75_97 : mj_ins 75 97 = some (.aload 7, 99) := by decide +kernel
theorem e75_97 {ls : mj_L} {st : List Value} {σ : mj_S} {τ : mj_T} {a0 a1 a2 a3 a4 a5 a6 : Option Value} {v : Nat} : mj_E 75 97 (a0 :: a1 :: a2 :: a3 :: a4 :: a5 :: a6 :: some (.ref v) :: ls) st σ τ = mj_E 75 99 (a0 :: a1 :: a2 :: a3 :: a4 :: a5 :: a6 :: some (.ref v) :: ls) (.ref v :: st) σ τ := mj_nx i75_97 rfl
theorem e75_97n {ls : mj_L} {st : List Value} {σ : mj_S} {τ : mj_T} {a0 a1 a2 a3 a4 a5 a6 : Option Value} : mj_E 75 97 (a0 :: a1 :: a2 :: a3 :: a4 :: a5 :: a6 :: some .null :: ls) st σ τ = mj_E 75 99 (a0 :: a1 :: a2 :: a3 :: a4 :: a5 :: a6 :: some .null :: ls) (.null :: st) σ τ := mj_nx i75_97 rfl
theorem i75_99 : mj_ins 75 99 = some (.invokevirtual 61, 102) := by decide +kernel
theorem e75_99 {ls : mj_L} {σ : mj_S} {τ : mj_T} {r : Nat} : mj_E 75 99 ls [.ref r] σ τ = if mj_rcv r 4 = true then mj_bd (mj_C 61 [.ref r] σ τ) (mj_K 75 102 ls []) else none := mj_clV (as := []) (r := []) i75_99 (by decide +kernel : mj_vk 75 61 0 0 1 false = true) (by decide +kernel)
theorem i75_102 : mj_ins 75 102 = some (.ifCond .ne 112, 105) := by decide +kernel
theorem e75_102 {ls : mj_L} {st : List Value} {σ : mj_S} {τ : mj_T} {x : Int32} : mj_E 75 102 ls (.int x :: st) σ τ = if x = 0 then mj_E 75 105 ls st σ τ else mj_E 75 112 ls st σ τ := (mj_ifc i75_102).trans (mj_cdF rfl)
theorem i75_105 : mj_ins 75 105 = some (.aload 0, 106) := by decide +kernel
theorem e75_105 {ls : mj_L} {st : List Value} {σ : mj_S} {τ : mj_T} {v : Nat} : mj_E 75 105 (some (.ref v) :: ls) st σ τ = mj_E 75 106 (some (.ref v) :: ls) (.ref v :: st) σ τ := mj_nx i75_105 rfl
theorem i75_106 : mj_ins 75 106 = some (.iconst (-3), 108) := by decide +kernel
theorem e75_106 {ls : mj_L} {st : List Value} {σ : mj_S} {τ : mj_T} : mj_E 75 106 ls st σ τ = mj_E 75 108 ls (.int ((-3)) :: st) σ τ := mj_nx i75_106 rfl
theorem i75_108 : mj_ins 75 108 = some (.invokevirtual 112, 111) := by decide +kernel
theorem e75_108 {ls : mj_L} {σ : mj_S} {τ : mj_T} {r : Nat} {x0 : Int32} : mj_E 75 108 ls [.int x0, .ref r] σ τ = if mj_rcv r 6 = true then mj_bd (mj_C 112 [.ref r, .int x0] σ τ) (mj_K 75 111 ls []) else none := mj_clV (as := [.int x0]) (r := []) i75_108 (by decide +kernel : mj_vk 75 112 1 0 2 false = true) (by decide +kernel)
theorem i75_111 : mj_ins 75 111 = some (.ireturn, 112) := by decide +kernel
theorem e75_111 {ls : mj_L} {σ : mj_S} {τ : mj_T} {v : Int32} : mj_E 75 111 ls [.int v] σ τ = some (some (.int v), σ, τ) := mj_irt i75_111 rfl
theorem i75_112 : mj_ins 75 112 = some (.iload 5, 114) := by decide +kernel
theorem e75_112 {ls : mj_L} {st : List Value} {σ : mj_S} {τ : mj_T} {a0 a1 a2 a3 a4 : Option Value} {v : Int32} : mj_E 75 112 (a0 :: a1 :: a2 :: a3 :: a4 :: some (.int v) :: ls) st σ τ = mj_E 75 114 (a0 :: a1 :: a2 :: a3 :: a4 :: some (.int v) :: ls) (.int v :: st) σ τ := mj_nx i75_112 rfl
theorem i75_114 : mj_ins 75 114 = some (.ifCond .ge 124, 117) := by decide +kernel
theorem e75_114 {ls : mj_L} {st : List Value} {σ : mj_S} {τ : mj_T} {x : Int32} : mj_E 75 114 ls (.int x :: st) σ τ = if 0 ≤ x then mj_E 75 124 ls st σ τ else mj_E 75 117 ls st σ τ := (mj_ifc i75_114).trans (mj_cdT rfl)
theorem i75_117 : mj_ins 75 117 = some (.aload 0, 118) := by decide +kernel
theorem e75_117 {ls : mj_L} {st : List Value} {σ : mj_S} {τ : mj_T} {v : Nat} : mj_E 75 117 (some (.ref v) :: ls) st σ τ = mj_E 75 118 (some (.ref v) :: ls) (.ref v :: st) σ τ := mj_nx i75_117 rfl
theorem i75_118 : mj_ins 75 118 = some (.iconst (-4), 120) := by decide +kernel
theorem e75_118 {ls : mj_L} {st : List Value} {σ : mj_S} {τ : mj_T} : mj_E 75 118 ls st σ τ = mj_E 75 120 ls (.int ((-4)) :: st) σ τ := mj_nx i75_118 rfl
theorem i75_120 : mj_ins 75 120 = some (.invokevirtual 112, 123) := by decide +kernel
theorem e75_120 {ls : mj_L} {σ : mj_S} {τ : mj_T} {r : Nat} {x0 : Int32} : mj_E 75 120 ls [.int x0, .ref r] σ τ = if mj_rcv r 6 = true then mj_bd (mj_C 112 [.ref r, .int x0] σ τ) (mj_K 75 123 ls []) else none := mj_clV (as := [.int x0]) (r := []) i75_120 (by decide +kernel : mj_vk 75 112 1 0 2 false = true) (by decide +kernel)
theorem i75_123 : mj_ins 75 123 = some (.ireturn, 124) := by decide +kernel
theorem e75_123 {ls : mj_L} {σ : mj_S} {τ : mj_T} {v : Int32} : mj_E 75 123 ls [.int v] σ τ = some (some (.int v), σ, τ) := mj_irt i75_123 rfl
theorem i75_124 : mj_ins 75 124 = some (.aload 6, 126) := by decide +kernel
theorem e75_124 {ls : mj_L} {st : List Value} {σ : mj_S} {τ : mj_T} {a0 a1 a2 a3 a4 a5 : Option Value} {v : Nat} : mj_E 75 124 (a0 :: a1 :: a2 :: a3 :: a4 :: a5 :: some (.ref v) :: ls) st σ τ = mj_E 75 126 (a0 :: a1 :: a2 :: a3 :: a4 :: a5 :: some (.ref v) :: ls) (.ref v :: st) σ τ := mj_nx i75_124 rfl
theorem e75_124n {ls : mj_L} {st : List Value} {σ : mj_S} {τ : mj_T} {a0 a1 a2 a3 a4 a5 : Option Value} : mj_E 75 124 (a0 :: a1 :: a2 :: a3 :: a4 :: a5 :: some .null :: ls) st σ τ = mj_E 75 126 (a0 :: a1 :: a2 :: a3 :: a4 :: a5 :: some .null :: ls) (.null :: st) σ τ := mj_nx i75_124 rfl
theorem i75_126 : mj_ins 75 126 = some (.iload 3, 127) := by decide +kernel
theorem e75_126 {ls : mj_L} {st : List Value} {σ : mj_S} {τ : mj_T} {a0 a1 a2 : Option Value} {v : Int32} : mj_E 75 126 (a0 :: a1 :: a2 :: some (.int v) :: ls) st σ τ = mj_E 75 127 (a0 :: a1 :: a2 :: some (.int v) :: ls) (.int v :: st) σ τ := mj_nx i75_126 rfl
theorem i75_127 : mj_ins 75 127 = some (.iload 5, 129) := by decide +kernel
theorem e75_127 {ls : mj_L} {st : List Value} {σ : mj_S} {τ : mj_T} {a0 a1 a2 a3 a4 : Option Value} {v : Int32} : mj_E 75 127 (a0 :: a1 :: a2 :: a3 :: a4 :: some (.int v) :: ls) st σ τ = mj_E 75 129 (a0 :: a1 :: a2 :: a3 :: a4 :: some (.int v) :: ls) (.int v :: st) σ τ := mj_nx i75_127 rfl
theorem i75_129 : mj_ins 75 129 = some (.invokevirtual 64, 132) := by decide +kernel
theorem e75_129 {ls : mj_L} {σ : mj_S} {τ : mj_T} {r : Nat} {x0 : Int32} {x1 : Int32} : mj_E 75 129 ls [.int x1, .int x0, .ref r] σ τ = if mj_rcv r 4 = true then mj_bd (mj_C 64 [.ref r, .int x0, .int x1] σ τ) (mj_K 75 132 ls []) else none := mj_clV (as := [.int x0, .int x1]) (r := []) i75_129 (by decide +kernel : mj_vk 75 64 2 0 3 false = true) (by decide +kernel)
theorem i75_132 : mj_ins 75 132 = some (.ifCond .eq 147, 135) := by decide +kernel
theorem e75_132 {ls : mj_L} {st : List Value} {σ : mj_S} {τ : mj_T} {x : Int32} : mj_E 75 132 ls (.int x :: st) σ τ = if x = 0 then mj_E 75 147 ls st σ τ else mj_E 75 135 ls st σ τ := (mj_ifc i75_132).trans (mj_cdT rfl)
theorem i75_135 : mj_ins 75 135 = some (.aload 7, 137) := by decide +kernel
theorem e75_135 {ls : mj_L} {st : List Value} {σ : mj_S} {τ : mj_T} {a0 a1 a2 a3 a4 a5 a6 : Option Value} {v : Nat} : mj_E 75 135 (a0 :: a1 :: a2 :: a3 :: a4 :: a5 :: a6 :: some (.ref v) :: ls) st σ τ = mj_E 75 137 (a0 :: a1 :: a2 :: a3 :: a4 :: a5 :: a6 :: some (.ref v) :: ls) (.ref v :: st) σ τ := mj_nx i75_135 rfl
theorem e75_135n {ls : mj_L} {st : List Value} {σ : mj_S} {τ : mj_T} {a0 a1 a2 a3 a4 a5 a6 : Option Value} : mj_E 75 135 (a0 :: a1 :: a2 :: a3 :: a4 :: a5 :: a6 :: some .null :: ls) st σ τ = mj_E 75 137 (a0 :: a1 :: a2 :: a3 :: a4 :: a5 :: a6 :: some .null :: ls) (.null :: st) σ τ := mj_nx i75_135 rfl
theorem i75_137 : mj_ins 75 137 = some (.iload 4, 139) := by decide +kernel
theorem e75_137 {ls : mj_L} {st : List Value} {σ : mj_S} {τ : mj_T} {a0 a1 a2 a3 : Option Value} {v : Int32} : mj_E 75 137 (a0 :: a1 :: a2 :: a3 :: some (.int v) :: ls) st σ τ = mj_E 75 139 (a0 :: a1 :: a2 :: a3 :: some (.int v) :: ls) (.int v :: st) σ τ := mj_nx i75_137 rfl
theorem i75_139 : mj_ins 75 139 = some (.iload 5, 141) := by decide +kernel
theorem e75_139 {ls : mj_L} {st : List Value} {σ : mj_S} {τ : mj_T} {a0 a1 a2 a3 a4 : Option Value} {v : Int32} : mj_E 75 139 (a0 :: a1 :: a2 :: a3 :: a4 :: some (.int v) :: ls) st σ τ = mj_E 75 141 (a0 :: a1 :: a2 :: a3 :: a4 :: some (.int v) :: ls) (.int v :: st) σ τ := mj_nx i75_139 rfl
theorem i75_141 : mj_ins 75 141 = some (.invokevirtual 64, 144) := by decide +kernel
theorem e75_141 {ls : mj_L} {σ : mj_S} {τ : mj_T} {r : Nat} {x0 : Int32} {x1 : Int32} : mj_E 75 141 ls [.int x1, .int x0, .ref r] σ τ = if mj_rcv r 4 = true then mj_bd (mj_C 64 [.ref r, .int x0, .int x1] σ τ) (mj_K 75 144 ls []) else none := mj_clV (as := [.int x0, .int x1]) (r := []) i75_141 (by decide +kernel : mj_vk 75 64 2 0 3 false = true) (by decide +kernel)
theorem i75_144 : mj_ins 75 144 = some (.ifCond .ne 154, 147) := by decide +kernel
theorem e75_144 {ls : mj_L} {st : List Value} {σ : mj_S} {τ : mj_T} {x : Int32} : mj_E 75 144 ls (.int x :: st) σ τ = if x = 0 then mj_E 75 147 ls st σ τ else mj_E 75 154 ls st σ τ := (mj_ifc i75_144).trans (mj_cdF rfl)
theorem i75_147 : mj_ins 75 147 = some (.aload 0, 148) := by decide +kernel
theorem e75_147 {ls : mj_L} {st : List Value} {σ : mj_S} {τ : mj_T} {v : Nat} : mj_E 75 147 (some (.ref v) :: ls) st σ τ = mj_E 75 148 (some (.ref v) :: ls) (.ref v :: st) σ τ := mj_nx i75_147 rfl
theorem i75_148 : mj_ins 75 148 = some (.iconst (-5), 150) := by decide +kernel
theorem e75_148 {ls : mj_L} {st : List Value} {σ : mj_S} {τ : mj_T} : mj_E 75 148 ls st σ τ = mj_E 75 150 ls (.int ((-5)) :: st) σ τ := mj_nx i75_148 rfl
theorem i75_150 : mj_ins 75 150 = some (.invokevirtual 112, 153) := by decide +kernel
theorem e75_150 {ls : mj_L} {σ : mj_S} {τ : mj_T} {r : Nat} {x0 : Int32} : mj_E 75 150 ls [.int x0, .ref r] σ τ = if mj_rcv r 6 = true then mj_bd (mj_C 112 [.ref r, .int x0] σ τ) (mj_K 75 153 ls []) else none := mj_clV (as := [.int x0]) (r := []) i75_150 (by decide +kernel : mj_vk 75 112 1 0 2 false = true) (by decide +kernel)
theorem i75_153 : mj_ins 75 153 = some (.ireturn, 154) := by decide +kernel
theorem e75_153 {ls : mj_L} {σ : mj_S} {τ : mj_T} {v : Int32} : mj_E 75 153 ls [.int v] σ τ = some (some (.int v), σ, τ) := mj_irt i75_153 rfl
theorem i75_154 : mj_ins 75 154 = some (.aload 6, 156) := by decide +kernel
theorem e75_154 {ls : mj_L} {st : List Value} {σ : mj_S} {τ : mj_T} {a0 a1 a2 a3 a4 a5 : Option Value} {v : Nat} : mj_E 75 154 (a0 :: a1 :: a2 :: a3 :: a4 :: a5 :: some (.ref v) :: ls) st σ τ = mj_E 75 156 (a0 :: a1 :: a2 :: a3 :: a4 :: a5 :: some (.ref v) :: ls) (.ref v :: st) σ τ := mj_nx i75_154 rfl
theorem e75_154n {ls : mj_L} {st : List Value} {σ : mj_S} {τ : mj_T} {a0 a1 a2 a3 a4 a5 : Option Value} : mj_E 75 154 (a0 :: a1 :: a2 :: a3 :: a4 :: a5 :: some .null :: ls) st σ τ = mj_E 75 156 (a0 :: a1 :: a2 :: a3 :: a4 :: a5 :: some .null :: ls) (.null :: st) σ τ := mj_nx i75_154 rfl
theorem i75_156 : mj_ins 75 156 = some (.getfield 403, 159) := by decide +kernel
theorem e75_156 {ls : mj_L} {st : List Value} {σ : mj_S} {τ : mj_T} {k : Nat} (h1 : 40 ≤ k) (h2 : k ≤ 47) : mj_E 75 156 ls (.ref k :: st) σ τ = mj_E 75 159 ls (.ref (k + 8) :: st) σ τ := (mj_gf i75_156).trans (congrArg (fun z => mj_ov z _) (fv4_3 h1 h2))
theorem i75_159 : mj_ins 75 159 = some (.iload 3, 160) := by decide +kernel
theorem e75_159 {ls : mj_L} {st : List Value} {σ : mj_S} {τ : mj_T} {a0 a1 a2 : Option Value} {v : Int32} : mj_E 75 159 (a0 :: a1 :: a2 :: some (.int v) :: ls) st σ τ = mj_E 75 160 (a0 :: a1 :: a2 :: some (.int v) :: ls) (.int v :: st) σ τ := mj_nx i75_159 rfl
theorem i75_160 : mj_ins 75 160 = some (.aload 7, 162) := by decide +kernel
theorem e75_160 {ls : mj_L} {st : List Value} {σ : mj_S} {τ : mj_T} {a0 a1 a2 a3 a4 a5 a6 : Option Value} {v : Nat} : mj_E 75 160 (a0 :: a1 :: a2 :: a3 :: a4 :: a5 :: a6 :: some (.ref v) :: ls) st σ τ = mj_E 75 162 (a0 :: a1 :: a2 :: a3 :: a4 :: a5 :: a6 :: some (.ref v) :: ls) (.ref v :: st) σ τ := mj_nx i75_160 rfl
theorem e75_160n {ls : mj_L} {st : List Value} {σ : mj_S} {τ : mj_T} {a0 a1 a2 a3 a4 a5 a6 : Option Value} : mj_E 75 160 (a0 :: a1 :: a2 :: a3 :: a4 :: a5 :: a6 :: some .null :: ls) st σ τ = mj_E 75 162 (a0 :: a1 :: a2 :: a3 :: a4 :: a5 :: a6 :: some .null :: ls) (.null :: st) σ τ := mj_nx i75_160 rfl
theorem i75_162 : mj_ins 75 162 = some (.getfield 403, 165) := by decide +kernel
theorem e75_162 {ls : mj_L} {st : List Value} {σ : mj_S} {τ : mj_T} {k : Nat} (h1 : 40 ≤ k) (h2 : k ≤ 47) : mj_E 75 162 ls (.ref k :: st) σ τ = mj_E 75 165 ls (.ref (k + 8) :: st) σ τ := (mj_gf i75_162).trans (congrArg (fun z => mj_ov z _) (fv4_3 h1 h2))
theorem i75_165 : mj_ins 75 165 = some (.iload 4, 167) := by decide +kernel
theorem e75_165 {ls : mj_L} {st : List Value} {σ : mj_S} {τ : mj_T} {a0 a1 a2 a3 : Option Value} {v : Int32} : mj_E 75 165 (a0 :: a1 :: a2 :: a3 :: some (.int v) :: ls) st σ τ = mj_E 75 167 (a0 :: a1 :: a2 :: a3 :: some (.int v) :: ls) (.int v :: st) σ τ := mj_nx i75_165 rfl
theorem i75_167 : mj_ins 75 167 = some (.iload 5, 169) := by decide +kernel
theorem e75_167 {ls : mj_L} {st : List Value} {σ : mj_S} {τ : mj_T} {a0 a1 a2 a3 a4 : Option Value} {v : Int32} : mj_E 75 167 (a0 :: a1 :: a2 :: a3 :: a4 :: some (.int v) :: ls) st σ τ = mj_E 75 169 (a0 :: a1 :: a2 :: a3 :: a4 :: some (.int v) :: ls) (.int v :: st) σ τ := mj_nx i75_167 rfl
theorem i75_169 : mj_ins 75 169 = some (.invokedynamic 4, 172) := by decide +kernel
theorem e75_169 {ls : mj_L} {σ : mj_S} {τ : mj_T} {n dp sp : Int32} {a b : Nat} (ha : mj_lw a = none) (h : mj_cpk sp dp n (mj_ll a) (mj_ll b) = true) : mj_E 75 169 ls [.int n, .int dp, .ref b, .int sp, .ref a] σ τ = mj_E 75 172 ls [] σ (mj_rp τ b (va_cpy (τ a) (τ b) sp.toNatClampNeg dp.toNatClampNeg n.toNatClampNeg)) := mj_cpl i75_169 (by decide) ha h
theorem i75_172 : mj_ins 75 172 = some (.iconst (1), 173) := by decide +kernel
theorem e75_172 {ls : mj_L} {st : List Value} {σ : mj_S} {τ : mj_T} : mj_E 75 172 ls st σ τ = mj_E 75 173 ls (.int (nI 1) :: st) σ τ := mj_nx i75_172 rfl
theorem i75_173 : mj_ins 75 173 = some (.ireturn, 174) := by decide +kernel
theorem e75_173 {ls : mj_L} {σ : mj_S} {τ : mj_T} {v : Int32} : mj_E 75 173 ls [.int v] σ τ = some (some (.int v), σ, τ) := mj_irt i75_173 rfl
theorem c76 {σ : mj_S} {τ : mj_T} {r : Nat} {x0 : Int32} {x1 : Int32} : mj_C 76 [.ref r, .int x0, .int x1] σ τ = mj_E 76 0 [some (.ref r), some (.int x0), some (.int x1), none] [] σ τ := rfl
theorem i76_0 : mj_ins 76 0 = some (.aload 0, 1) := by decide +kernel
theorem e76_0 {ls : mj_L} {st : List Value} {σ : mj_S} {τ : mj_T} {v : Nat} : mj_E 76 0 (some (.ref v) :: ls) st σ τ = mj_E 76 1 (some (.ref v) :: ls) (.ref v :: st) σ τ := mj_nx i76_0 rfl
theorem i76_1 : mj_ins 76 1 = some (.iload 1, 2) := by decide +kernel
theorem e76_1 {ls : mj_L} {st : List Value} {σ : mj_S} {τ : mj_T} {a0 : Option Value} {v : Int32} : mj_E 76 1 (a0 :: some (.int v) :: ls) st σ τ = mj_E 76 2 (a0 :: some (.int v) :: ls) (.int v :: st) σ τ := mj_nx i76_1 rfl
theorem i76_2 : mj_ins 76 2 = some (.invokevirtual 114, 5) := by decide +kernel
theorem e76_2 {ls : mj_L} {σ : mj_S} {τ : mj_T} {r : Nat} {x0 : Int32} : mj_E 76 2 ls [.int x0, .ref r] σ τ = if mj_rcv r 6 = true then mj_bd (mj_C 114 [.ref r, .int x0] σ τ) (mj_K 76 5 ls []) else none := mj_clV (as := [.int x0]) (r := []) i76_2 (by decide +kernel : mj_vk 76 114 1 0 2 false = true) (by decide +kernel)
theorem i76_5 : mj_ins 76 5 = some (.astore 3, 6) := by decide +kernel
theorem e76_5 {ls : mj_L} {st : List Value} {σ : mj_S} {τ : mj_T} {a0 a1 a2 a3 : Option Value} {v : Nat} : mj_E 76 5 (a0 :: a1 :: a2 :: a3 :: ls) (.ref v :: st) σ τ = mj_E 76 6 (a0 :: a1 :: a2 :: some (.ref v) :: ls) st σ τ := mj_nx i76_5 rfl
theorem e76_5n {ls : mj_L} {st : List Value} {σ : mj_S} {τ : mj_T} {a0 a1 a2 a3 : Option Value} : mj_E 76 5 (a0 :: a1 :: a2 :: a3 :: ls) (.null :: st) σ τ = mj_E 76 6 (a0 :: a1 :: a2 :: some .null :: ls) st σ τ := mj_nx i76_5 rfl
theorem i76_6 : mj_ins 76 6 = some (.aload 3, 7) := by decide +kernel
theorem e76_6 {ls : mj_L} {st : List Value} {σ : mj_S} {τ : mj_T} {a0 a1 a2 : Option Value} {v : Nat} : mj_E 76 6 (a0 :: a1 :: a2 :: some (.ref v) :: ls) st σ τ = mj_E 76 7 (a0 :: a1 :: a2 :: some (.ref v) :: ls) (.ref v :: st) σ τ := mj_nx i76_6 rfl
theorem e76_6n {ls : mj_L} {st : List Value} {σ : mj_S} {τ : mj_T} {a0 a1 a2 : Option Value} : mj_E 76 6 (a0 :: a1 :: a2 :: some .null :: ls) st σ τ = mj_E 76 7 (a0 :: a1 :: a2 :: some .null :: ls) (.null :: st) σ τ := mj_nx i76_6 rfl
theorem i76_7 : mj_ins 76 7 = some (.ifnull 18, 10) := by decide +kernel
theorem e76_7 {ls : mj_L} {st : List Value} {σ : mj_S} {τ : mj_T} {v : Nat} : mj_E 76 7 ls (.ref v :: st) σ τ = mj_E 76 10 ls st σ τ := mj_nx i76_7 rfl
theorem e76_7n {ls : mj_L} {st : List Value} {σ : mj_S} {τ : mj_T} : mj_E 76 7 ls (.null :: st) σ τ = mj_E 76 18 ls st σ τ := mj_nx i76_7 rfl
theorem i76_10 : mj_ins 76 10 = some (.aload 3, 11) := by decide +kernel
theorem e76_10 {ls : mj_L} {st : List Value} {σ : mj_S} {τ : mj_T} {a0 a1 a2 : Option Value} {v : Nat} : mj_E 76 10 (a0 :: a1 :: a2 :: some (.ref v) :: ls) st σ τ = mj_E 76 11 (a0 :: a1 :: a2 :: some (.ref v) :: ls) (.ref v :: st) σ τ := mj_nx i76_10 rfl
theorem e76_10n {ls : mj_L} {st : List Value} {σ : mj_S} {τ : mj_T} {a0 a1 a2 : Option Value} : mj_E 76 10 (a0 :: a1 :: a2 :: some .null :: ls) st σ τ = mj_E 76 11 (a0 :: a1 :: a2 :: some .null :: ls) (.null :: st) σ τ := mj_nx i76_10 rfl
theorem i76_11 : mj_ins 76 11 = some (.iload 2, 12) := by decide +kernel
theorem e76_11 {ls : mj_L} {st : List Value} {σ : mj_S} {τ : mj_T} {a0 a1 : Option Value} {v : Int32} : mj_E 76 11 (a0 :: a1 :: some (.int v) :: ls) st σ τ = mj_E 76 12 (a0 :: a1 :: some (.int v) :: ls) (.int v :: st) σ τ := mj_nx i76_11 rfl
theorem i76_12 : mj_ins 76 12 = some (.invokevirtual 63, 15) := by decide +kernel
theorem e76_12 {ls : mj_L} {σ : mj_S} {τ : mj_T} {r : Nat} {x0 : Int32} : mj_E 76 12 ls [.int x0, .ref r] σ τ = if mj_rcv r 4 = true then mj_bd (mj_C 63 [.ref r, .int x0] σ τ) (mj_K 76 15 ls []) else none := mj_clV (as := [.int x0]) (r := []) i76_12 (by decide +kernel : mj_vk 76 63 1 0 2 false = true) (by decide +kernel)
theorem i76_15 : mj_ins 76 15 = some (.ifCond .ne 20, 18) := by decide +kernel
theorem e76_15 {ls : mj_L} {st : List Value} {σ : mj_S} {τ : mj_T} {x : Int32} : mj_E 76 15 ls (.int x :: st) σ τ = if x = 0 then mj_E 76 18 ls st σ τ else mj_E 76 20 ls st σ τ := (mj_ifc i76_15).trans (mj_cdF rfl)
theorem i76_18 : mj_ins 76 18 = some (.lconst 0, 19) := by decide +kernel
theorem e76_18 {ls : mj_L} {st : List Value} {σ : mj_S} {τ : mj_T} : mj_E 76 18 ls st σ τ = mj_E 76 19 ls (.long 0 :: st) σ τ := mj_nx i76_18 rfl
theorem i76_19 : mj_ins 76 19 = some (.lreturn, 20) := by decide +kernel
theorem e76_19 {ls : mj_L} {σ : mj_S} {τ : mj_T} {v : Int64} : mj_E 76 19 ls [.long v] σ τ = some (some (.long v), σ, τ) := mj_lrt i76_19 rfl
theorem i76_20 : mj_ins 76 20 = some (.aload 3, 21) := by decide +kernel
theorem e76_20 {ls : mj_L} {st : List Value} {σ : mj_S} {τ : mj_T} {a0 a1 a2 : Option Value} {v : Nat} : mj_E 76 20 (a0 :: a1 :: a2 :: some (.ref v) :: ls) st σ τ = mj_E 76 21 (a0 :: a1 :: a2 :: some (.ref v) :: ls) (.ref v :: st) σ τ := mj_nx i76_20 rfl
theorem e76_20n {ls : mj_L} {st : List Value} {σ : mj_S} {τ : mj_T} {a0 a1 a2 : Option Value} : mj_E 76 20 (a0 :: a1 :: a2 :: some .null :: ls) st σ τ = mj_E 76 21 (a0 :: a1 :: a2 :: some .null :: ls) (.null :: st) σ τ := mj_nx i76_20 rfl
theorem i76_21 : mj_ins 76 21 = some (.getfield 403, 24) := by decide +kernel
theorem e76_21 {ls : mj_L} {st : List Value} {σ : mj_S} {τ : mj_T} {k : Nat} (h1 : 40 ≤ k) (h2 : k ≤ 47) : mj_E 76 21 ls (.ref k :: st) σ τ = mj_E 76 24 ls (.ref (k + 8) :: st) σ τ := (mj_gf i76_21).trans (congrArg (fun z => mj_ov z _) (fv4_3 h1 h2))
theorem i76_24 : mj_ins 76 24 = some (.iload 2, 25) := by decide +kernel
theorem e76_24 {ls : mj_L} {st : List Value} {σ : mj_S} {τ : mj_T} {a0 a1 : Option Value} {v : Int32} : mj_E 76 24 (a0 :: a1 :: some (.int v) :: ls) st σ τ = mj_E 76 25 (a0 :: a1 :: some (.int v) :: ls) (.int v :: st) σ τ := mj_nx i76_24 rfl
theorem i76_25 : mj_ins 76 25 = some (.laload, 26) := by decide +kernel
theorem e76_25 {ls : mj_L} {st : List Value} {σ : mj_S} {τ : mj_T} {x : Int32} {k : Nat} : mj_E 76 25 ls (.int x :: .ref k :: st) σ τ = if mj_ib (mj_ll k) x = true then mj_E 76 26 ls (.long (τ k x.toNatClampNeg) :: st) σ τ else none := mj_lald i76_25
theorem i76_26 : mj_ins 76 26 = some (.lreturn, 27) := by decide +kernel
theorem e76_26 {ls : mj_L} {σ : mj_S} {τ : mj_T} {v : Int64} : mj_E 76 26 ls [.long v] σ τ = some (some (.long v), σ, τ) := mj_lrt i76_26 rfl
theorem c77 {σ : mj_S} {τ : mj_T} {r : Nat} {x0 : Int32} {x1 : Int32} : mj_C 77 [.ref r, .int x0, .int x1] σ τ = mj_E 77 0 [some (.ref r), some (.int x0), some (.int x1), none] [] σ τ := rfl
theorem i77_0 : mj_ins 77 0 = some (.aload 0, 1) := by decide +kernel
theorem e77_0 {ls : mj_L} {st : List Value} {σ : mj_S} {τ : mj_T} {v : Nat} : mj_E 77 0 (some (.ref v) :: ls) st σ τ = mj_E 77 1 (some (.ref v) :: ls) (.ref v :: st) σ τ := mj_nx i77_0 rfl
theorem i77_1 : mj_ins 77 1 = some (.iload 1, 2) := by decide +kernel
theorem e77_1 {ls : mj_L} {st : List Value} {σ : mj_S} {τ : mj_T} {a0 : Option Value} {v : Int32} : mj_E 77 1 (a0 :: some (.int v) :: ls) st σ τ = mj_E 77 2 (a0 :: some (.int v) :: ls) (.int v :: st) σ τ := mj_nx i77_1 rfl
theorem i77_2 : mj_ins 77 2 = some (.invokevirtual 114, 5) := by decide +kernel
theorem e77_2 {ls : mj_L} {σ : mj_S} {τ : mj_T} {r : Nat} {x0 : Int32} : mj_E 77 2 ls [.int x0, .ref r] σ τ = if mj_rcv r 6 = true then mj_bd (mj_C 114 [.ref r, .int x0] σ τ) (mj_K 77 5 ls []) else none := mj_clV (as := [.int x0]) (r := []) i77_2 (by decide +kernel : mj_vk 77 114 1 0 2 false = true) (by decide +kernel)
theorem i77_5 : mj_ins 77 5 = some (.astore 3, 6) := by decide +kernel
theorem e77_5 {ls : mj_L} {st : List Value} {σ : mj_S} {τ : mj_T} {a0 a1 a2 a3 : Option Value} {v : Nat} : mj_E 77 5 (a0 :: a1 :: a2 :: a3 :: ls) (.ref v :: st) σ τ = mj_E 77 6 (a0 :: a1 :: a2 :: some (.ref v) :: ls) st σ τ := mj_nx i77_5 rfl
theorem e77_5n {ls : mj_L} {st : List Value} {σ : mj_S} {τ : mj_T} {a0 a1 a2 a3 : Option Value} : mj_E 77 5 (a0 :: a1 :: a2 :: a3 :: ls) (.null :: st) σ τ = mj_E 77 6 (a0 :: a1 :: a2 :: some .null :: ls) st σ τ := mj_nx i77_5 rfl
theorem i77_6 : mj_ins 77 6 = some (.aload 3, 7) := by decide +kernel
theorem e77_6 {ls : mj_L} {st : List Value} {σ : mj_S} {τ : mj_T} {a0 a1 a2 : Option Value} {v : Nat} : mj_E 77 6 (a0 :: a1 :: a2 :: some (.ref v) :: ls) st σ τ = mj_E 77 7 (a0 :: a1 :: a2 :: some (.ref v) :: ls) (.ref v :: st) σ τ := mj_nx i77_6 rfl
theorem e77_6n {ls : mj_L} {st : List Value} {σ : mj_S} {τ : mj_T} {a0 a1 a2 : Option Value} : mj_E 77 6 (a0 :: a1 :: a2 :: some .null :: ls) st σ τ = mj_E 77 7 (a0 :: a1 :: a2 :: some .null :: ls) (.null :: st) σ τ := mj_nx i77_6 rfl
theorem i77_7 : mj_ins 77 7 = some (.ifnull 26, 10) := by decide +kernel
theorem e77_7 {ls : mj_L} {st : List Value} {σ : mj_S} {τ : mj_T} {v : Nat} : mj_E 77 7 ls (.ref v :: st) σ τ = mj_E 77 10 ls st σ τ := mj_nx i77_7 rfl
theorem e77_7n {ls : mj_L} {st : List Value} {σ : mj_S} {τ : mj_T} : mj_E 77 7 ls (.null :: st) σ τ = mj_E 77 26 ls st σ τ := mj_nx i77_7 rfl
theorem i77_10 : mj_ins 77 10 = some (.iload 2, 11) := by decide +kernel
theorem e77_10 {ls : mj_L} {st : List Value} {σ : mj_S} {τ : mj_T} {a0 a1 : Option Value} {v : Int32} : mj_E 77 10 (a0 :: a1 :: some (.int v) :: ls) st σ τ = mj_E 77 11 (a0 :: a1 :: some (.int v) :: ls) (.int v :: st) σ τ := mj_nx i77_10 rfl
theorem i77_11 : mj_ins 77 11 = some (.iconst (-1), 12) := by decide +kernel
theorem e77_11 {ls : mj_L} {st : List Value} {σ : mj_S} {τ : mj_T} : mj_E 77 11 ls st σ τ = mj_E 77 12 ls (.int ((-1)) :: st) σ τ := mj_nx i77_11 rfl
theorem i77_12 : mj_ins 77 12 = some (.if_icmp .eq 32, 15) := by decide +kernel
theorem e77_12 {ls : mj_L} {st : List Value} {σ : mj_S} {τ : mj_T} {x y : Int32} : mj_E 77 12 ls (.int y :: .int x :: st) σ τ = if x = y then mj_E 77 32 ls st σ τ else mj_E 77 15 ls st σ τ := (mj_ifi i77_12).trans (mj_cdT rfl)
theorem i77_15 : mj_ins 77 15 = some (.aload 0, 16) := by decide +kernel
theorem e77_15 {ls : mj_L} {st : List Value} {σ : mj_S} {τ : mj_T} {v : Nat} : mj_E 77 15 (some (.ref v) :: ls) st σ τ = mj_E 77 16 (some (.ref v) :: ls) (.ref v :: st) σ τ := mj_nx i77_15 rfl
theorem i77_16 : mj_ins 77 16 = some (.getfield 600, 19) := by decide +kernel
theorem e77_16 {ls : mj_L} {st : List Value} {σ : mj_S} {τ : mj_T} : mj_E 77 16 ls (.ref 0 :: st) σ τ = mj_E 77 19 ls (.ref 1 :: st) σ τ := mj_nx i77_16 rfl
theorem i77_19 : mj_ins 77 19 = some (.iload 2, 20) := by decide +kernel
theorem e77_19 {ls : mj_L} {st : List Value} {σ : mj_S} {τ : mj_T} {a0 a1 : Option Value} {v : Int32} : mj_E 77 19 (a0 :: a1 :: some (.int v) :: ls) st σ τ = mj_E 77 20 (a0 :: a1 :: some (.int v) :: ls) (.int v :: st) σ τ := mj_nx i77_19 rfl
theorem i77_20 : mj_ins 77 20 = some (.invokevirtual 7, 23) := by decide +kernel
theorem e77_20 {ls : mj_L} {σ : mj_S} {τ : mj_T} {r : Nat} {x0 : Int32} : mj_E 77 20 ls [.int x0, .ref r] σ τ = if mj_rcv r 1 = true then mj_bd (mj_C 7 [.ref r, .int x0] σ τ) (mj_K 77 23 ls []) else none := mj_clV (as := [.int x0]) (r := []) i77_20 (by decide +kernel : mj_vk 77 7 1 0 2 false = true) (by decide +kernel)
theorem i77_23 : mj_ins 77 23 = some (.ifCond .ne 32, 26) := by decide +kernel
theorem e77_23 {ls : mj_L} {st : List Value} {σ : mj_S} {τ : mj_T} {x : Int32} : mj_E 77 23 ls (.int x :: st) σ τ = if x = 0 then mj_E 77 26 ls st σ τ else mj_E 77 32 ls st σ τ := (mj_ifc i77_23).trans (mj_cdF rfl)
theorem i77_26 : mj_ins 77 26 = some (.aload 0, 27) := by decide +kernel
theorem e77_26 {ls : mj_L} {st : List Value} {σ : mj_S} {τ : mj_T} {v : Nat} : mj_E 77 26 (some (.ref v) :: ls) st σ τ = mj_E 77 27 (some (.ref v) :: ls) (.ref v :: st) σ τ := mj_nx i77_26 rfl
theorem i77_27 : mj_ins 77 27 = some (.iconst (-1), 28) := by decide +kernel
theorem e77_27 {ls : mj_L} {st : List Value} {σ : mj_S} {τ : mj_T} : mj_E 77 27 ls st σ τ = mj_E 77 28 ls (.int ((-1)) :: st) σ τ := mj_nx i77_27 rfl
theorem i77_28 : mj_ins 77 28 = some (.invokevirtual 112, 31) := by decide +kernel
theorem e77_28 {ls : mj_L} {σ : mj_S} {τ : mj_T} {r : Nat} {x0 : Int32} : mj_E 77 28 ls [.int x0, .ref r] σ τ = if mj_rcv r 6 = true then mj_bd (mj_C 112 [.ref r, .int x0] σ τ) (mj_K 77 31 ls []) else none := mj_clV (as := [.int x0]) (r := []) i77_28 (by decide +kernel : mj_vk 77 112 1 0 2 false = true) (by decide +kernel)
theorem i77_31 : mj_ins 77 31 = some (.ireturn, 32) := by decide +kernel
theorem e77_31 {ls : mj_L} {σ : mj_S} {τ : mj_T} {v : Int32} : mj_E 77 31 ls [.int v] σ τ = some (some (.int v), σ, τ) := mj_irt i77_31 rfl
theorem i77_32 : mj_ins 77 32 = some (.aload 3, 33) := by decide +kernel
theorem e77_32 {ls : mj_L} {st : List Value} {σ : mj_S} {τ : mj_T} {a0 a1 a2 : Option Value} {v : Nat} : mj_E 77 32 (a0 :: a1 :: a2 :: some (.ref v) :: ls) st σ τ = mj_E 77 33 (a0 :: a1 :: a2 :: some (.ref v) :: ls) (.ref v :: st) σ τ := mj_nx i77_32 rfl
theorem e77_32n {ls : mj_L} {st : List Value} {σ : mj_S} {τ : mj_T} {a0 a1 a2 : Option Value} : mj_E 77 32 (a0 :: a1 :: a2 :: some .null :: ls) st σ τ = mj_E 77 33 (a0 :: a1 :: a2 :: some .null :: ls) (.null :: st) σ τ := mj_nx i77_32 rfl
theorem i77_33 : mj_ins 77 33 = some (.iload 2, 34) := by decide +kernel
theorem e77_33 {ls : mj_L} {st : List Value} {σ : mj_S} {τ : mj_T} {a0 a1 : Option Value} {v : Int32} : mj_E 77 33 (a0 :: a1 :: some (.int v) :: ls) st σ τ = mj_E 77 34 (a0 :: a1 :: some (.int v) :: ls) (.int v :: st) σ τ := mj_nx i77_33 rfl
theorem i77_34 : mj_ins 77 34 = some (.invokevirtual 60, 37) := by decide +kernel
theorem e77_34 {ls : mj_L} {σ : mj_S} {τ : mj_T} {r : Nat} {x0 : Int32} : mj_E 77 34 ls [.int x0, .ref r] σ τ = if mj_rcv r 4 = true then mj_bd (mj_C 60 [.ref r, .int x0] σ τ) (mj_K 77 37 ls []) else none := mj_clV (as := [.int x0]) (r := []) i77_34 (by decide +kernel : mj_vk 77 60 1 0 2 false = true) (by decide +kernel)
theorem i77_37 : mj_ins 77 37 = some (.iload 2, 38) := by decide +kernel
theorem e77_37 {ls : mj_L} {st : List Value} {σ : mj_S} {τ : mj_T} {a0 a1 : Option Value} {v : Int32} : mj_E 77 37 (a0 :: a1 :: some (.int v) :: ls) st σ τ = mj_E 77 38 (a0 :: a1 :: some (.int v) :: ls) (.int v :: st) σ τ := mj_nx i77_37 rfl
theorem i77_38 : mj_ins 77 38 = some (.iconst (-1), 39) := by decide +kernel
theorem e77_38 {ls : mj_L} {st : List Value} {σ : mj_S} {τ : mj_T} : mj_E 77 38 ls st σ τ = mj_E 77 39 ls (.int ((-1)) :: st) σ τ := mj_nx i77_38 rfl
theorem i77_39 : mj_ins 77 39 = some (.if_icmp .ne 46, 42) := by decide +kernel
theorem e77_39 {ls : mj_L} {st : List Value} {σ : mj_S} {τ : mj_T} {x y : Int32} : mj_E 77 39 ls (.int y :: .int x :: st) σ τ = if x = y then mj_E 77 42 ls st σ τ else mj_E 77 46 ls st σ τ := (mj_ifi i77_39).trans (mj_cdF rfl)
theorem i77_42 : mj_ins 77 42 = some (.iconst (0), 43) := by decide +kernel
theorem e77_42 {ls : mj_L} {st : List Value} {σ : mj_S} {τ : mj_T} : mj_E 77 42 ls st σ τ = mj_E 77 43 ls (.int (nI 0) :: st) σ τ := mj_nx i77_42 rfl
theorem i77_43 : mj_ins 77 43 = some (.goto 47, 46) := by decide +kernel
theorem e77_43 {ls : mj_L} {st : List Value} {σ : mj_S} {τ : mj_T} : mj_E 77 43 ls st σ τ = mj_E 77 47 ls st σ τ := mj_nx i77_43 rfl
theorem i77_46 : mj_ins 77 46 = some (.iconst (1), 47) := by decide +kernel
theorem e77_46 {ls : mj_L} {st : List Value} {σ : mj_S} {τ : mj_T} : mj_E 77 46 ls st σ τ = mj_E 77 47 ls (.int (nI 1) :: st) σ τ := mj_nx i77_46 rfl
theorem i77_47 : mj_ins 77 47 = some (.ireturn, 48) := by decide +kernel
theorem e77_47 {ls : mj_L} {σ : mj_S} {τ : mj_T} {v : Int32} : mj_E 77 47 ls [.int v] σ τ = some (some (.int v), σ, τ) := mj_irt i77_47 rfl
theorem c78 {σ : mj_S} {τ : mj_T} {r : Nat} {x0 : Int32} : mj_C 78 [.ref r, .int x0] σ τ = mj_E 78 0 [some (.ref r), some (.int x0), none] [] σ τ := rfl
theorem i78_0 : mj_ins 78 0 = some (.aload 0, 1) := by decide +kernel
theorem e78_0 {ls : mj_L} {st : List Value} {σ : mj_S} {τ : mj_T} {v : Nat} : mj_E 78 0 (some (.ref v) :: ls) st σ τ = mj_E 78 1 (some (.ref v) :: ls) (.ref v :: st) σ τ := mj_nx i78_0 rfl
theorem i78_1 : mj_ins 78 1 = some (.iload 1, 2) := by decide +kernel
theorem e78_1 {ls : mj_L} {st : List Value} {σ : mj_S} {τ : mj_T} {a0 : Option Value} {v : Int32} : mj_E 78 1 (a0 :: some (.int v) :: ls) st σ τ = mj_E 78 2 (a0 :: some (.int v) :: ls) (.int v :: st) σ τ := mj_nx i78_1 rfl
theorem i78_2 : mj_ins 78 2 = some (.invokevirtual 114, 5) := by decide +kernel
theorem e78_2 {ls : mj_L} {σ : mj_S} {τ : mj_T} {r : Nat} {x0 : Int32} : mj_E 78 2 ls [.int x0, .ref r] σ τ = if mj_rcv r 6 = true then mj_bd (mj_C 114 [.ref r, .int x0] σ τ) (mj_K 78 5 ls []) else none := mj_clV (as := [.int x0]) (r := []) i78_2 (by decide +kernel : mj_vk 78 114 1 0 2 false = true) (by decide +kernel)
theorem i78_5 : mj_ins 78 5 = some (.astore 2, 6) := by decide +kernel
theorem e78_5 {ls : mj_L} {st : List Value} {σ : mj_S} {τ : mj_T} {a0 a1 a2 : Option Value} {v : Nat} : mj_E 78 5 (a0 :: a1 :: a2 :: ls) (.ref v :: st) σ τ = mj_E 78 6 (a0 :: a1 :: some (.ref v) :: ls) st σ τ := mj_nx i78_5 rfl
theorem e78_5n {ls : mj_L} {st : List Value} {σ : mj_S} {τ : mj_T} {a0 a1 a2 : Option Value} : mj_E 78 5 (a0 :: a1 :: a2 :: ls) (.null :: st) σ τ = mj_E 78 6 (a0 :: a1 :: some .null :: ls) st σ τ := mj_nx i78_5 rfl
theorem i78_6 : mj_ins 78 6 = some (.aload 2, 7) := by decide +kernel
theorem e78_6 {ls : mj_L} {st : List Value} {σ : mj_S} {τ : mj_T} {a0 a1 : Option Value} {v : Nat} : mj_E 78 6 (a0 :: a1 :: some (.ref v) :: ls) st σ τ = mj_E 78 7 (a0 :: a1 :: some (.ref v) :: ls) (.ref v :: st) σ τ := mj_nx i78_6 rfl
theorem e78_6n {ls : mj_L} {st : List Value} {σ : mj_S} {τ : mj_T} {a0 a1 : Option Value} : mj_E 78 6 (a0 :: a1 :: some .null :: ls) st σ τ = mj_E 78 7 (a0 :: a1 :: some .null :: ls) (.null :: st) σ τ := mj_nx i78_6 rfl
theorem i78_7 : mj_ins 78 7 = some (.ifnonnull 12, 10) := by decide +kernel
theorem e78_7 {ls : mj_L} {st : List Value} {σ : mj_S} {τ : mj_T} {v : Nat} : mj_E 78 7 ls (.ref v :: st) σ τ = mj_E 78 12 ls st σ τ := mj_nx i78_7 rfl
theorem e78_7n {ls : mj_L} {st : List Value} {σ : mj_S} {τ : mj_T} : mj_E 78 7 ls (.null :: st) σ τ = mj_E 78 10 ls st σ τ := mj_nx i78_7 rfl
theorem i78_10 : mj_ins 78 10 = some (.iconst (-1), 11) := by decide +kernel
theorem e78_10 {ls : mj_L} {st : List Value} {σ : mj_S} {τ : mj_T} : mj_E 78 10 ls st σ τ = mj_E 78 11 ls (.int ((-1)) :: st) σ τ := mj_nx i78_10 rfl
theorem i78_11 : mj_ins 78 11 = some (.ireturn, 12) := by decide +kernel
theorem e78_11 {ls : mj_L} {σ : mj_S} {τ : mj_T} {v : Int32} : mj_E 78 11 ls [.int v] σ τ = some (some (.int v), σ, τ) := mj_irt i78_11 rfl
theorem i78_12 : mj_ins 78 12 = some (.aload 2, 13) := by decide +kernel
theorem e78_12 {ls : mj_L} {st : List Value} {σ : mj_S} {τ : mj_T} {a0 a1 : Option Value} {v : Nat} : mj_E 78 12 (a0 :: a1 :: some (.ref v) :: ls) st σ τ = mj_E 78 13 (a0 :: a1 :: some (.ref v) :: ls) (.ref v :: st) σ τ := mj_nx i78_12 rfl
theorem e78_12n {ls : mj_L} {st : List Value} {σ : mj_S} {τ : mj_T} {a0 a1 : Option Value} : mj_E 78 12 (a0 :: a1 :: some .null :: ls) st σ τ = mj_E 78 13 (a0 :: a1 :: some .null :: ls) (.null :: st) σ τ := mj_nx i78_12 rfl
theorem i78_13 : mj_ins 78 13 = some (.invokevirtual 61, 16) := by decide +kernel
theorem e78_13 {ls : mj_L} {σ : mj_S} {τ : mj_T} {r : Nat} : mj_E 78 13 ls [.ref r] σ τ = if mj_rcv r 4 = true then mj_bd (mj_C 61 [.ref r] σ τ) (mj_K 78 16 ls []) else none := mj_clV (as := []) (r := []) i78_13 (by decide +kernel : mj_vk 78 61 0 0 1 false = true) (by decide +kernel)
theorem i78_16 : mj_ins 78 16 = some (.ifCond .eq 29, 19) := by decide +kernel
theorem e78_16 {ls : mj_L} {st : List Value} {σ : mj_S} {τ : mj_T} {x : Int32} : mj_E 78 16 ls (.int x :: st) σ τ = if x = 0 then mj_E 78 29 ls st σ τ else mj_E 78 19 ls st σ τ := (mj_ifc i78_16).trans (mj_cdT rfl)
theorem i78_19 : mj_ins 78 19 = some (.iconst (100), 21) := by decide +kernel
theorem e78_19 {ls : mj_L} {st : List Value} {σ : mj_S} {τ : mj_T} : mj_E 78 19 ls st σ τ = mj_E 78 21 ls (.int (nI 100) :: st) σ τ := mj_nx i78_19 rfl
theorem i78_21 : mj_ins 78 21 = some (.aload 2, 22) := by decide +kernel
theorem e78_21 {ls : mj_L} {st : List Value} {σ : mj_S} {τ : mj_T} {a0 a1 : Option Value} {v : Nat} : mj_E 78 21 (a0 :: a1 :: some (.ref v) :: ls) st σ τ = mj_E 78 22 (a0 :: a1 :: some (.ref v) :: ls) (.ref v :: st) σ τ := mj_nx i78_21 rfl
theorem e78_21n {ls : mj_L} {st : List Value} {σ : mj_S} {τ : mj_T} {a0 a1 : Option Value} : mj_E 78 21 (a0 :: a1 :: some .null :: ls) st σ τ = mj_E 78 22 (a0 :: a1 :: some .null :: ls) (.null :: st) σ τ := mj_nx i78_21 rfl
theorem i78_22 : mj_ins 78 22 = some (.getfield 400, 25) := by decide +kernel
theorem e78_22 {ls : mj_L} {st : List Value} {σ : mj_S} {τ : mj_T} {k : Nat} (h1 : 40 ≤ k) (h2 : k ≤ 47) : mj_E 78 22 ls (.ref k :: st) σ τ = mj_E 78 25 ls (.int (σ k 0) :: st) σ τ := (mj_gf i78_22).trans (congrArg (fun z => mj_ov z _) (fv4_0 h1 h2))
theorem i78_25 : mj_ins 78 25 = some (.iadd, 26) := by decide +kernel
theorem e78_25 {ls : mj_L} {st : List Value} {σ : mj_S} {τ : mj_T} {x y : Int32} : mj_E 78 25 ls (.int y :: .int x :: st) σ τ = mj_E 78 26 ls (.int (x + y) :: st) σ τ := mj_nx i78_25 rfl
theorem i78_26 : mj_ins 78 26 = some (.goto 33, 29) := by decide +kernel
theorem e78_26 {ls : mj_L} {st : List Value} {σ : mj_S} {τ : mj_T} : mj_E 78 26 ls st σ τ = mj_E 78 33 ls st σ τ := mj_nx i78_26 rfl
theorem i78_29 : mj_ins 78 29 = some (.aload 2, 30) := by decide +kernel
theorem e78_29 {ls : mj_L} {st : List Value} {σ : mj_S} {τ : mj_T} {a0 a1 : Option Value} {v : Nat} : mj_E 78 29 (a0 :: a1 :: some (.ref v) :: ls) st σ τ = mj_E 78 30 (a0 :: a1 :: some (.ref v) :: ls) (.ref v :: st) σ τ := mj_nx i78_29 rfl
theorem e78_29n {ls : mj_L} {st : List Value} {σ : mj_S} {τ : mj_T} {a0 a1 : Option Value} : mj_E 78 29 (a0 :: a1 :: some .null :: ls) st σ τ = mj_E 78 30 (a0 :: a1 :: some .null :: ls) (.null :: st) σ τ := mj_nx i78_29 rfl
theorem i78_30 : mj_ins 78 30 = some (.getfield 401, 33) := by decide +kernel
theorem e78_30 {ls : mj_L} {st : List Value} {σ : mj_S} {τ : mj_T} {k : Nat} (h1 : 40 ≤ k) (h2 : k ≤ 47) : mj_E 78 30 ls (.ref k :: st) σ τ = mj_E 78 33 ls (.int (σ k 1) :: st) σ τ := (mj_gf i78_30).trans (congrArg (fun z => mj_ov z _) (fv4_1 h1 h2))
theorem i78_33 : mj_ins 78 33 = some (.ireturn, 34) := by decide +kernel
theorem e78_33 {ls : mj_L} {σ : mj_S} {τ : mj_T} {v : Int32} : mj_E 78 33 ls [.int v] σ τ = some (some (.int v), σ, τ) := mj_irt i78_33 rfl
theorem c79 {σ : mj_S} {τ : mj_T} {r : Nat} {x0 : Int32} {x1 : Int32} : mj_C 79 [.ref r, .int x0, .int x1] σ τ = mj_E 79 0 [some (.ref r), some (.int x0), some (.int x1), none, none] [] σ τ := rfl
theorem i79_0 : mj_ins 79 0 = some (.aload 0, 1) := by decide +kernel
theorem e79_0 {ls : mj_L} {st : List Value} {σ : mj_S} {τ : mj_T} {v : Nat} : mj_E 79 0 (some (.ref v) :: ls) st σ τ = mj_E 79 1 (some (.ref v) :: ls) (.ref v :: st) σ τ := mj_nx i79_0 rfl
theorem i79_1 : mj_ins 79 1 = some (.iload 1, 2) := by decide +kernel
theorem e79_1 {ls : mj_L} {st : List Value} {σ : mj_S} {τ : mj_T} {a0 : Option Value} {v : Int32} : mj_E 79 1 (a0 :: some (.int v) :: ls) st σ τ = mj_E 79 2 (a0 :: some (.int v) :: ls) (.int v :: st) σ τ := mj_nx i79_1 rfl
theorem i79_2 : mj_ins 79 2 = some (.invokevirtual 114, 5) := by decide +kernel
theorem e79_2 {ls : mj_L} {σ : mj_S} {τ : mj_T} {r : Nat} {x0 : Int32} : mj_E 79 2 ls [.int x0, .ref r] σ τ = if mj_rcv r 6 = true then mj_bd (mj_C 114 [.ref r, .int x0] σ τ) (mj_K 79 5 ls []) else none := mj_clV (as := [.int x0]) (r := []) i79_2 (by decide +kernel : mj_vk 79 114 1 0 2 false = true) (by decide +kernel)
theorem i79_5 : mj_ins 79 5 = some (.astore 3, 6) := by decide +kernel
theorem e79_5 {ls : mj_L} {st : List Value} {σ : mj_S} {τ : mj_T} {a0 a1 a2 a3 : Option Value} {v : Nat} : mj_E 79 5 (a0 :: a1 :: a2 :: a3 :: ls) (.ref v :: st) σ τ = mj_E 79 6 (a0 :: a1 :: a2 :: some (.ref v) :: ls) st σ τ := mj_nx i79_5 rfl
theorem e79_5n {ls : mj_L} {st : List Value} {σ : mj_S} {τ : mj_T} {a0 a1 a2 a3 : Option Value} : mj_E 79 5 (a0 :: a1 :: a2 :: a3 :: ls) (.null :: st) σ τ = mj_E 79 6 (a0 :: a1 :: a2 :: some .null :: ls) st σ τ := mj_nx i79_5 rfl
theorem i79_6 : mj_ins 79 6 = some (.aload 3, 7) := by decide +kernel
theorem e79_6 {ls : mj_L} {st : List Value} {σ : mj_S} {τ : mj_T} {a0 a1 a2 : Option Value} {v : Nat} : mj_E 79 6 (a0 :: a1 :: a2 :: some (.ref v) :: ls) st σ τ = mj_E 79 7 (a0 :: a1 :: a2 :: some (.ref v) :: ls) (.ref v :: st) σ τ := mj_nx i79_6 rfl
theorem e79_6n {ls : mj_L} {st : List Value} {σ : mj_S} {τ : mj_T} {a0 a1 a2 : Option Value} : mj_E 79 6 (a0 :: a1 :: a2 :: some .null :: ls) st σ τ = mj_E 79 7 (a0 :: a1 :: a2 :: some .null :: ls) (.null :: st) σ τ := mj_nx i79_6 rfl
theorem i79_7 : mj_ins 79 7 = some (.ifnull 17, 10) := by decide +kernel
theorem e79_7 {ls : mj_L} {st : List Value} {σ : mj_S} {τ : mj_T} {v : Nat} : mj_E 79 7 ls (.ref v :: st) σ τ = mj_E 79 10 ls st σ τ := mj_nx i79_7 rfl
theorem e79_7n {ls : mj_L} {st : List Value} {σ : mj_S} {τ : mj_T} : mj_E 79 7 ls (.null :: st) σ τ = mj_E 79 17 ls st σ τ := mj_nx i79_7 rfl
theorem i79_10 : mj_ins 79 10 = some (.iload 2, 11) := by decide +kernel
theorem e79_10 {ls : mj_L} {st : List Value} {σ : mj_S} {τ : mj_T} {a0 a1 : Option Value} {v : Int32} : mj_E 79 10 (a0 :: a1 :: some (.int v) :: ls) st σ τ = mj_E 79 11 (a0 :: a1 :: some (.int v) :: ls) (.int v :: st) σ τ := mj_nx i79_10 rfl
theorem i79_11 : mj_ins 79 11 = some (.invokestatic 3, 14) := by decide +kernel
theorem e79_11 {ls : mj_L} {σ : mj_S} {τ : mj_T} {x0 : Int32} : mj_E 79 11 ls [.int x0] σ τ = mj_bd (mj_C 3 [.int x0] σ τ) (mj_K 79 14 ls []) := mj_clS (as := [.int x0]) (r := []) i79_11 (by decide +kernel : mj_vk 79 3 1 0 1 false = true) rfl
theorem i79_14 : mj_ins 79 14 = some (.ifCond .ne 23, 17) := by decide +kernel
theorem e79_14 {ls : mj_L} {st : List Value} {σ : mj_S} {τ : mj_T} {x : Int32} : mj_E 79 14 ls (.int x :: st) σ τ = if x = 0 then mj_E 79 17 ls st σ τ else mj_E 79 23 ls st σ τ := (mj_ifc i79_14).trans (mj_cdF rfl)
theorem i79_17 : mj_ins 79 17 = some (.aload 0, 18) := by decide +kernel
theorem e79_17 {ls : mj_L} {st : List Value} {σ : mj_S} {τ : mj_T} {v : Nat} : mj_E 79 17 (some (.ref v) :: ls) st σ τ = mj_E 79 18 (some (.ref v) :: ls) (.ref v :: st) σ τ := mj_nx i79_17 rfl
theorem i79_18 : mj_ins 79 18 = some (.iconst (-1), 19) := by decide +kernel
theorem e79_18 {ls : mj_L} {st : List Value} {σ : mj_S} {τ : mj_T} : mj_E 79 18 ls st σ τ = mj_E 79 19 ls (.int ((-1)) :: st) σ τ := mj_nx i79_18 rfl
theorem i79_19 : mj_ins 79 19 = some (.invokevirtual 112, 22) := by decide +kernel
theorem e79_19 {ls : mj_L} {σ : mj_S} {τ : mj_T} {r : Nat} {x0 : Int32} : mj_E 79 19 ls [.int x0, .ref r] σ τ = if mj_rcv r 6 = true then mj_bd (mj_C 112 [.ref r, .int x0] σ τ) (mj_K 79 22 ls []) else none := mj_clV (as := [.int x0]) (r := []) i79_19 (by decide +kernel : mj_vk 79 112 1 0 2 false = true) (by decide +kernel)
theorem i79_22 : mj_ins 79 22 = some (.ireturn, 23) := by decide +kernel
theorem e79_22 {ls : mj_L} {σ : mj_S} {τ : mj_T} {v : Int32} : mj_E 79 22 ls [.int v] σ τ = some (some (.int v), σ, τ) := mj_irt i79_22 rfl
theorem i79_23 : mj_ins 79 23 = some (.aload 3, 24) := by decide +kernel
theorem e79_23 {ls : mj_L} {st : List Value} {σ : mj_S} {τ : mj_T} {a0 a1 a2 : Option Value} {v : Nat} : mj_E 79 23 (a0 :: a1 :: a2 :: some (.ref v) :: ls) st σ τ = mj_E 79 24 (a0 :: a1 :: a2 :: some (.ref v) :: ls) (.ref v :: st) σ τ := mj_nx i79_23 rfl
theorem e79_23n {ls : mj_L} {st : List Value} {σ : mj_S} {τ : mj_T} {a0 a1 a2 : Option Value} : mj_E 79 23 (a0 :: a1 :: a2 :: some .null :: ls) st σ τ = mj_E 79 24 (a0 :: a1 :: a2 :: some .null :: ls) (.null :: st) σ τ := mj_nx i79_23 rfl
theorem i79_24 : mj_ins 79 24 = some (.invokevirtual 61, 27) := by decide +kernel
theorem e79_24 {ls : mj_L} {σ : mj_S} {τ : mj_T} {r : Nat} : mj_E 79 24 ls [.ref r] σ τ = if mj_rcv r 4 = true then mj_bd (mj_C 61 [.ref r] σ τ) (mj_K 79 27 ls []) else none := mj_clV (as := []) (r := []) i79_24 (by decide +kernel : mj_vk 79 61 0 0 1 false = true) (by decide +kernel)
theorem i79_27 : mj_ins 79 27 = some (.ifCond .eq 37, 30) := by decide +kernel
theorem e79_27 {ls : mj_L} {st : List Value} {σ : mj_S} {τ : mj_T} {x : Int32} : mj_E 79 27 ls (.int x :: st) σ τ = if x = 0 then mj_E 79 37 ls st σ τ else mj_E 79 30 ls st σ τ := (mj_ifc i79_27).trans (mj_cdT rfl)
theorem i79_30 : mj_ins 79 30 = some (.aload 0, 31) := by decide +kernel
theorem e79_30 {ls : mj_L} {st : List Value} {σ : mj_S} {τ : mj_T} {v : Nat} : mj_E 79 30 (some (.ref v) :: ls) st σ τ = mj_E 79 31 (some (.ref v) :: ls) (.ref v :: st) σ τ := mj_nx i79_30 rfl
theorem i79_31 : mj_ins 79 31 = some (.iconst (-2), 33) := by decide +kernel
theorem e79_31 {ls : mj_L} {st : List Value} {σ : mj_S} {τ : mj_T} : mj_E 79 31 ls st σ τ = mj_E 79 33 ls (.int ((-2)) :: st) σ τ := mj_nx i79_31 rfl
theorem i79_33 : mj_ins 79 33 = some (.invokevirtual 112, 36) := by decide +kernel
theorem e79_33 {ls : mj_L} {σ : mj_S} {τ : mj_T} {r : Nat} {x0 : Int32} : mj_E 79 33 ls [.int x0, .ref r] σ τ = if mj_rcv r 6 = true then mj_bd (mj_C 112 [.ref r, .int x0] σ τ) (mj_K 79 36 ls []) else none := mj_clV (as := [.int x0]) (r := []) i79_33 (by decide +kernel : mj_vk 79 112 1 0 2 false = true) (by decide +kernel)
theorem i79_36 : mj_ins 79 36 = some (.ireturn, 37) := by decide +kernel
theorem e79_36 {ls : mj_L} {σ : mj_S} {τ : mj_T} {v : Int32} : mj_E 79 36 ls [.int v] σ τ = some (some (.int v), σ, τ) := mj_irt i79_36 rfl
theorem i79_37 : mj_ins 79 37 = some (.aload 3, 38) := by decide +kernel
theorem e79_37 {ls : mj_L} {st : List Value} {σ : mj_S} {τ : mj_T} {a0 a1 a2 : Option Value} {v : Nat} : mj_E 79 37 (a0 :: a1 :: a2 :: some (.ref v) :: ls) st σ τ = mj_E 79 38 (a0 :: a1 :: a2 :: some (.ref v) :: ls) (.ref v :: st) σ τ := mj_nx i79_37 rfl
theorem e79_37n {ls : mj_L} {st : List Value} {σ : mj_S} {τ : mj_T} {a0 a1 a2 : Option Value} : mj_E 79 37 (a0 :: a1 :: a2 :: some .null :: ls) st σ τ = mj_E 79 38 (a0 :: a1 :: a2 :: some .null :: ls) (.null :: st) σ τ := mj_nx i79_37 rfl
theorem i79_38 : mj_ins 79 38 = some (.getfield 401, 41) := by decide +kernel
theorem e79_38 {ls : mj_L} {st : List Value} {σ : mj_S} {τ : mj_T} {k : Nat} (h1 : 40 ≤ k) (h2 : k ≤ 47) : mj_E 79 38 ls (.ref k :: st) σ τ = mj_E 79 41 ls (.int (σ k 1) :: st) σ τ := (mj_gf i79_38).trans (congrArg (fun z => mj_ov z _) (fv4_1 h1 h2))
theorem i79_41 : mj_ins 79 41 = some (.istore 4, 43) := by decide +kernel
theorem e79_41 {ls : mj_L} {st : List Value} {σ : mj_S} {τ : mj_T} {a0 a1 a2 a3 a4 : Option Value} {v : Int32} : mj_E 79 41 (a0 :: a1 :: a2 :: a3 :: a4 :: ls) (.int v :: st) σ τ = mj_E 79 43 (a0 :: a1 :: a2 :: a3 :: some (.int v) :: ls) st σ τ := mj_nx i79_41 rfl
theorem i79_43 : mj_ins 79 43 = some (.aload 0, 44) := by decide +kernel
theorem e79_43 {ls : mj_L} {st : List Value} {σ : mj_S} {τ : mj_T} {v : Nat} : mj_E 79 43 (some (.ref v) :: ls) st σ τ = mj_E 79 44 (some (.ref v) :: ls) (.ref v :: st) σ τ := mj_nx i79_43 rfl
theorem i79_44 : mj_ins 79 44 = some (.getfield 600, 47) := by decide +kernel
theorem e79_44 {ls : mj_L} {st : List Value} {σ : mj_S} {τ : mj_T} : mj_E 79 44 ls (.ref 0 :: st) σ τ = mj_E 79 47 ls (.ref 1 :: st) σ τ := mj_nx i79_44 rfl
theorem i79_47 : mj_ins 79 47 = some (.iload 4, 49) := by decide +kernel
theorem e79_47 {ls : mj_L} {st : List Value} {σ : mj_S} {τ : mj_T} {a0 a1 a2 a3 : Option Value} {v : Int32} : mj_E 79 47 (a0 :: a1 :: a2 :: a3 :: some (.int v) :: ls) st σ τ = mj_E 79 49 (a0 :: a1 :: a2 :: a3 :: some (.int v) :: ls) (.int v :: st) σ τ := mj_nx i79_47 rfl
theorem i79_49 : mj_ins 79 49 = some (.invokevirtual 7, 52) := by decide +kernel
theorem e79_49 {ls : mj_L} {σ : mj_S} {τ : mj_T} {r : Nat} {x0 : Int32} : mj_E 79 49 ls [.int x0, .ref r] σ τ = if mj_rcv r 1 = true then mj_bd (mj_C 7 [.ref r, .int x0] σ τ) (mj_K 79 52 ls []) else none := mj_clV (as := [.int x0]) (r := []) i79_49 (by decide +kernel : mj_vk 79 7 1 0 2 false = true) (by decide +kernel)
theorem i79_52 : mj_ins 79 52 = some (.ifCond .ne 62, 55) := by decide +kernel
theorem e79_52 {ls : mj_L} {st : List Value} {σ : mj_S} {τ : mj_T} {x : Int32} : mj_E 79 52 ls (.int x :: st) σ τ = if x = 0 then mj_E 79 55 ls st σ τ else mj_E 79 62 ls st σ τ := (mj_ifc i79_52).trans (mj_cdF rfl)
theorem i79_55 : mj_ins 79 55 = some (.aload 0, 56) := by decide +kernel
theorem e79_55 {ls : mj_L} {st : List Value} {σ : mj_S} {τ : mj_T} {v : Nat} : mj_E 79 55 (some (.ref v) :: ls) st σ τ = mj_E 79 56 (some (.ref v) :: ls) (.ref v :: st) σ τ := mj_nx i79_55 rfl
theorem i79_56 : mj_ins 79 56 = some (.iconst (-3), 58) := by decide +kernel
theorem e79_56 {ls : mj_L} {st : List Value} {σ : mj_S} {τ : mj_T} : mj_E 79 56 ls st σ τ = mj_E 79 58 ls (.int ((-3)) :: st) σ τ := mj_nx i79_56 rfl
theorem i79_58 : mj_ins 79 58 = some (.invokevirtual 112, 61) := by decide +kernel
theorem e79_58 {ls : mj_L} {σ : mj_S} {τ : mj_T} {r : Nat} {x0 : Int32} : mj_E 79 58 ls [.int x0, .ref r] σ τ = if mj_rcv r 6 = true then mj_bd (mj_C 112 [.ref r, .int x0] σ τ) (mj_K 79 61 ls []) else none := mj_clV (as := [.int x0]) (r := []) i79_58 (by decide +kernel : mj_vk 79 112 1 0 2 false = true) (by decide +kernel)
theorem i79_61 : mj_ins 79 61 = some (.ireturn, 62) := by decide +kernel
theorem e79_61 {ls : mj_L} {σ : mj_S} {τ : mj_T} {v : Int32} : mj_E 79 61 ls [.int v] σ τ = some (some (.int v), σ, τ) := mj_irt i79_61 rfl
theorem i79_62 : mj_ins 79 62 = some (.aload 0, 63) := by decide +kernel
theorem e79_62 {ls : mj_L} {st : List Value} {σ : mj_S} {τ : mj_T} {v : Nat} : mj_E 79 62 (some (.ref v) :: ls) st σ τ = mj_E 79 63 (some (.ref v) :: ls) (.ref v :: st) σ τ := mj_nx i79_62 rfl
theorem i79_63 : mj_ins 79 63 = some (.getfield 600, 66) := by decide +kernel
theorem e79_63 {ls : mj_L} {st : List Value} {σ : mj_S} {τ : mj_T} : mj_E 79 63 ls (.ref 0 :: st) σ τ = mj_E 79 66 ls (.ref 1 :: st) σ τ := mj_nx i79_63 rfl
theorem i79_66 : mj_ins 79 66 = some (.getfield 105, 69) := by decide +kernel
theorem e79_66 {ls : mj_L} {st : List Value} {σ : mj_S} {τ : mj_T} {k : Nat} (h1 : 1 ≤ k) (h2 : k ≤ 3) : mj_E 79 66 ls (.ref k :: st) σ τ = mj_E 79 69 ls (.ref (10 * k + 0) :: st) σ τ := (mj_gf i79_66).trans (congrArg (fun z => mj_ov z _) (fv1_5 h1 h2))
theorem i79_69 : mj_ins 79 69 = some (.iload 4, 71) := by decide +kernel
theorem e79_69 {ls : mj_L} {st : List Value} {σ : mj_S} {τ : mj_T} {a0 a1 a2 a3 : Option Value} {v : Int32} : mj_E 79 69 (a0 :: a1 :: a2 :: a3 :: some (.int v) :: ls) st σ τ = mj_E 79 71 (a0 :: a1 :: a2 :: a3 :: some (.int v) :: ls) (.int v :: st) σ τ := mj_nx i79_69 rfl
theorem i79_71 : mj_ins 79 71 = some (.iaload, 72) := by decide +kernel
theorem e79_71 {ls : mj_L} {st : List Value} {σ : mj_S} {τ : mj_T} {x : Int32} {k : Nat} : mj_E 79 71 ls (.int x :: .ref k :: st) σ τ = if mj_ib (mj_li σ k) x = true then mj_E 79 72 ls (.int (σ k x.toNatClampNeg) :: st) σ τ else none := mj_ald i79_71
theorem i79_72 : mj_ins 79 72 = some (.iload 2, 73) := by decide +kernel
theorem e79_72 {ls : mj_L} {st : List Value} {σ : mj_S} {τ : mj_T} {a0 a1 : Option Value} {v : Int32} : mj_E 79 72 (a0 :: a1 :: some (.int v) :: ls) st σ τ = mj_E 79 73 (a0 :: a1 :: some (.int v) :: ls) (.int v :: st) σ τ := mj_nx i79_72 rfl
theorem i79_73 : mj_ins 79 73 = some (.invokestatic 5, 76) := by decide +kernel
theorem e79_73 {ls : mj_L} {σ : mj_S} {τ : mj_T} {x0 : Int32} {x1 : Int32} : mj_E 79 73 ls [.int x1, .int x0] σ τ = mj_bd (mj_C 5 [.int x0, .int x1] σ τ) (mj_K 79 76 ls []) := mj_clS (as := [.int x0, .int x1]) (r := []) i79_73 (by decide +kernel : mj_vk 79 5 2 0 2 false = true) rfl
theorem i79_76 : mj_ins 79 76 = some (.ifCond .ne 86, 79) := by decide +kernel
theorem e79_76 {ls : mj_L} {st : List Value} {σ : mj_S} {τ : mj_T} {x : Int32} : mj_E 79 76 ls (.int x :: st) σ τ = if x = 0 then mj_E 79 79 ls st σ τ else mj_E 79 86 ls st σ τ := (mj_ifc i79_76).trans (mj_cdF rfl)
theorem i79_79 : mj_ins 79 79 = some (.aload 0, 80) := by decide +kernel
theorem e79_79 {ls : mj_L} {st : List Value} {σ : mj_S} {τ : mj_T} {v : Nat} : mj_E 79 79 (some (.ref v) :: ls) st σ τ = mj_E 79 80 (some (.ref v) :: ls) (.ref v :: st) σ τ := mj_nx i79_79 rfl
theorem i79_80 : mj_ins 79 80 = some (.iconst (-2), 82) := by decide +kernel
theorem e79_80 {ls : mj_L} {st : List Value} {σ : mj_S} {τ : mj_T} : mj_E 79 80 ls st σ τ = mj_E 79 82 ls (.int ((-2)) :: st) σ τ := mj_nx i79_80 rfl
theorem i79_82 : mj_ins 79 82 = some (.invokevirtual 112, 85) := by decide +kernel
theorem e79_82 {ls : mj_L} {σ : mj_S} {τ : mj_T} {r : Nat} {x0 : Int32} : mj_E 79 82 ls [.int x0, .ref r] σ τ = if mj_rcv r 6 = true then mj_bd (mj_C 112 [.ref r, .int x0] σ τ) (mj_K 79 85 ls []) else none := mj_clV (as := [.int x0]) (r := []) i79_82 (by decide +kernel : mj_vk 79 112 1 0 2 false = true) (by decide +kernel)
theorem i79_85 : mj_ins 79 85 = some (.ireturn, 86) := by decide +kernel
theorem e79_85 {ls : mj_L} {σ : mj_S} {τ : mj_T} {v : Int32} : mj_E 79 85 ls [.int v] σ τ = some (some (.int v), σ, τ) := mj_irt i79_85 rfl
theorem i79_86 : mj_ins 79 86 = some (.iload 2, 87) := by decide +kernel
theorem e79_86 {ls : mj_L} {st : List Value} {σ : mj_S} {τ : mj_T} {a0 a1 : Option Value} {v : Int32} : mj_E 79 86 (a0 :: a1 :: some (.int v) :: ls) st σ τ = mj_E 79 87 (a0 :: a1 :: some (.int v) :: ls) (.int v :: st) σ τ := mj_nx i79_86 rfl
theorem i79_87 : mj_ins 79 87 = some (.ifCond .ne 101, 90) := by decide +kernel
theorem e79_87 {ls : mj_L} {st : List Value} {σ : mj_S} {τ : mj_T} {x : Int32} : mj_E 79 87 ls (.int x :: st) σ τ = if x = 0 then mj_E 79 90 ls st σ τ else mj_E 79 101 ls st σ τ := (mj_ifc i79_87).trans (mj_cdF rfl)
theorem i79_90 : mj_ins 79 90 = some (.aload 0, 91) := by decide +kernel
theorem e79_90 {ls : mj_L} {st : List Value} {σ : mj_S} {τ : mj_T} {v : Nat} : mj_E 79 90 (some (.ref v) :: ls) st σ τ = mj_E 79 91 (some (.ref v) :: ls) (.ref v :: st) σ τ := mj_nx i79_90 rfl
theorem i79_91 : mj_ins 79 91 = some (.getfield 600, 94) := by decide +kernel
theorem e79_91 {ls : mj_L} {st : List Value} {σ : mj_S} {τ : mj_T} : mj_E 79 91 ls (.ref 0 :: st) σ τ = mj_E 79 94 ls (.ref 1 :: st) σ τ := mj_nx i79_91 rfl
theorem i79_94 : mj_ins 79 94 = some (.getfield 107, 97) := by decide +kernel
theorem e79_94 {ls : mj_L} {st : List Value} {σ : mj_S} {τ : mj_T} {k : Nat} (h1 : 1 ≤ k) (h2 : k ≤ 3) : mj_E 79 94 ls (.ref k :: st) σ τ = mj_E 79 97 ls (.ref (10 * k + 2) :: st) σ τ := (mj_gf i79_94).trans (congrArg (fun z => mj_ov z _) (fv1_7 h1 h2))
theorem i79_97 : mj_ins 79 97 = some (.iload 4, 99) := by decide +kernel
theorem e79_97 {ls : mj_L} {st : List Value} {σ : mj_S} {τ : mj_T} {a0 a1 a2 a3 : Option Value} {v : Int32} : mj_E 79 97 (a0 :: a1 :: a2 :: a3 :: some (.int v) :: ls) st σ τ = mj_E 79 99 (a0 :: a1 :: a2 :: a3 :: some (.int v) :: ls) (.int v :: st) σ τ := mj_nx i79_97 rfl
theorem i79_99 : mj_ins 79 99 = some (.iaload, 100) := by decide +kernel
theorem e79_99 {ls : mj_L} {st : List Value} {σ : mj_S} {τ : mj_T} {x : Int32} {k : Nat} : mj_E 79 99 ls (.int x :: .ref k :: st) σ τ = if mj_ib (mj_li σ k) x = true then mj_E 79 100 ls (.int (σ k x.toNatClampNeg) :: st) σ τ else none := mj_ald i79_99
theorem i79_100 : mj_ins 79 100 = some (.ireturn, 101) := by decide +kernel
theorem e79_100 {ls : mj_L} {σ : mj_S} {τ : mj_T} {v : Int32} : mj_E 79 100 ls [.int v] σ τ = some (some (.int v), σ, τ) := mj_irt i79_100 rfl
theorem i79_101 : mj_ins 79 101 = some (.iload 2, 102) := by decide +kernel
theorem e79_101 {ls : mj_L} {st : List Value} {σ : mj_S} {τ : mj_T} {a0 a1 : Option Value} {v : Int32} : mj_E 79 101 (a0 :: a1 :: some (.int v) :: ls) st σ τ = mj_E 79 102 (a0 :: a1 :: some (.int v) :: ls) (.int v :: st) σ τ := mj_nx i79_101 rfl
theorem i79_102 : mj_ins 79 102 = some (.iconst (4), 103) := by decide +kernel
theorem e79_102 {ls : mj_L} {st : List Value} {σ : mj_S} {τ : mj_T} : mj_E 79 102 ls st σ τ = mj_E 79 103 ls (.int (nI 4) :: st) σ τ := mj_nx i79_102 rfl
theorem i79_103 : mj_ins 79 103 = some (.if_icmp .ne 116, 106) := by decide +kernel
theorem e79_103 {ls : mj_L} {st : List Value} {σ : mj_S} {τ : mj_T} {x y : Int32} : mj_E 79 103 ls (.int y :: .int x :: st) σ τ = if x = y then mj_E 79 106 ls st σ τ else mj_E 79 116 ls st σ τ := (mj_ifi i79_103).trans (mj_cdF rfl)
theorem i79_106 : mj_ins 79 106 = some (.aload 0, 107) := by decide +kernel
theorem e79_106 {ls : mj_L} {st : List Value} {σ : mj_S} {τ : mj_T} {v : Nat} : mj_E 79 106 (some (.ref v) :: ls) st σ τ = mj_E 79 107 (some (.ref v) :: ls) (.ref v :: st) σ τ := mj_nx i79_106 rfl
theorem i79_107 : mj_ins 79 107 = some (.getfield 600, 110) := by decide +kernel
theorem e79_107 {ls : mj_L} {st : List Value} {σ : mj_S} {τ : mj_T} : mj_E 79 107 ls (.ref 0 :: st) σ τ = mj_E 79 110 ls (.ref 1 :: st) σ τ := mj_nx i79_107 rfl
theorem i79_110 : mj_ins 79 110 = some (.iload 4, 112) := by decide +kernel
theorem e79_110 {ls : mj_L} {st : List Value} {σ : mj_S} {τ : mj_T} {a0 a1 a2 a3 : Option Value} {v : Int32} : mj_E 79 110 (a0 :: a1 :: a2 :: a3 :: some (.int v) :: ls) st σ τ = mj_E 79 112 (a0 :: a1 :: a2 :: a3 :: some (.int v) :: ls) (.int v :: st) σ τ := mj_nx i79_110 rfl
theorem i79_112 : mj_ins 79 112 = some (.invokevirtual 17, 115) := by decide +kernel
theorem e79_112 {ls : mj_L} {σ : mj_S} {τ : mj_T} {r : Nat} {x0 : Int32} : mj_E 79 112 ls [.int x0, .ref r] σ τ = if mj_rcv r 1 = true then mj_bd (mj_C 17 [.ref r, .int x0] σ τ) (mj_K 79 115 ls []) else none := mj_clV (as := [.int x0]) (r := []) i79_112 (by decide +kernel : mj_vk 79 17 1 0 2 false = true) (by decide +kernel)
theorem i79_115 : mj_ins 79 115 = some (.ireturn, 116) := by decide +kernel
theorem e79_115 {ls : mj_L} {σ : mj_S} {τ : mj_T} {v : Int32} : mj_E 79 115 ls [.int v] σ τ = some (some (.int v), σ, τ) := mj_irt i79_115 rfl
theorem i79_116 : mj_ins 79 116 = some (.iload 2, 117) := by decide +kernel
theorem e79_116 {ls : mj_L} {st : List Value} {σ : mj_S} {τ : mj_T} {a0 a1 : Option Value} {v : Int32} : mj_E 79 116 (a0 :: a1 :: some (.int v) :: ls) st σ τ = mj_E 79 117 (a0 :: a1 :: some (.int v) :: ls) (.int v :: st) σ τ := mj_nx i79_116 rfl
theorem i79_117 : mj_ins 79 117 = some (.iconst (1), 118) := by decide +kernel
theorem e79_117 {ls : mj_L} {st : List Value} {σ : mj_S} {τ : mj_T} : mj_E 79 117 ls st σ τ = mj_E 79 118 ls (.int (nI 1) :: st) σ τ := mj_nx i79_117 rfl
theorem i79_118 : mj_ins 79 118 = some (.invokestatic 5, 121) := by decide +kernel
theorem e79_118 {ls : mj_L} {σ : mj_S} {τ : mj_T} {x0 : Int32} {x1 : Int32} : mj_E 79 118 ls [.int x1, .int x0] σ τ = mj_bd (mj_C 5 [.int x0, .int x1] σ τ) (mj_K 79 121 ls []) := mj_clS (as := [.int x0, .int x1]) (r := []) i79_118 (by decide +kernel : mj_vk 79 5 2 0 2 false = true) rfl
theorem i79_121 : mj_ins 79 121 = some (.ifCond .eq 137, 124) := by decide +kernel
theorem e79_121 {ls : mj_L} {st : List Value} {σ : mj_S} {τ : mj_T} {x : Int32} : mj_E 79 121 ls (.int x :: st) σ τ = if x = 0 then mj_E 79 137 ls st σ τ else mj_E 79 124 ls st σ τ := (mj_ifc i79_121).trans (mj_cdT rfl)
theorem i79_124 : mj_ins 79 124 = some (.aload 0, 125) := by decide +kernel
theorem e79_124 {ls : mj_L} {st : List Value} {σ : mj_S} {τ : mj_T} {v : Nat} : mj_E 79 124 (some (.ref v) :: ls) st σ τ = mj_E 79 125 (some (.ref v) :: ls) (.ref v :: st) σ τ := mj_nx i79_124 rfl
theorem i79_125 : mj_ins 79 125 = some (.getfield 600, 128) := by decide +kernel
theorem e79_125 {ls : mj_L} {st : List Value} {σ : mj_S} {τ : mj_T} : mj_E 79 125 ls (.ref 0 :: st) σ τ = mj_E 79 128 ls (.ref 1 :: st) σ τ := mj_nx i79_125 rfl
theorem i79_128 : mj_ins 79 128 = some (.getfield 109, 131) := by decide +kernel
theorem e79_128 {ls : mj_L} {st : List Value} {σ : mj_S} {τ : mj_T} {k : Nat} (h1 : 1 ≤ k) (h2 : k ≤ 3) : mj_E 79 128 ls (.ref k :: st) σ τ = mj_E 79 131 ls (.ref (10 * k + 4) :: st) σ τ := (mj_gf i79_128).trans (congrArg (fun z => mj_ov z _) (fv1_9 h1 h2))
theorem i79_131 : mj_ins 79 131 = some (.iload 4, 133) := by decide +kernel
theorem e79_131 {ls : mj_L} {st : List Value} {σ : mj_S} {τ : mj_T} {a0 a1 a2 a3 : Option Value} {v : Int32} : mj_E 79 131 (a0 :: a1 :: a2 :: a3 :: some (.int v) :: ls) st σ τ = mj_E 79 133 (a0 :: a1 :: a2 :: a3 :: some (.int v) :: ls) (.int v :: st) σ τ := mj_nx i79_131 rfl
theorem i79_133 : mj_ins 79 133 = some (.iaload, 134) := by decide +kernel
theorem e79_133 {ls : mj_L} {st : List Value} {σ : mj_S} {τ : mj_T} {x : Int32} {k : Nat} : mj_E 79 133 ls (.int x :: .ref k :: st) σ τ = if mj_ib (mj_li σ k) x = true then mj_E 79 134 ls (.int (σ k x.toNatClampNeg) :: st) σ τ else none := mj_ald i79_133
theorem i79_134 : mj_ins 79 134 = some (.goto 147, 137) := by decide +kernel
theorem e79_134 {ls : mj_L} {st : List Value} {σ : mj_S} {τ : mj_T} : mj_E 79 134 ls st σ τ = mj_E 79 147 ls st σ τ := mj_nx i79_134 rfl
theorem i79_137 : mj_ins 79 137 = some (.aload 0, 138) := by decide +kernel
theorem e79_137 {ls : mj_L} {st : List Value} {σ : mj_S} {τ : mj_T} {v : Nat} : mj_E 79 137 (some (.ref v) :: ls) st σ τ = mj_E 79 138 (some (.ref v) :: ls) (.ref v :: st) σ τ := mj_nx i79_137 rfl
theorem i79_138 : mj_ins 79 138 = some (.getfield 600, 141) := by decide +kernel
theorem e79_138 {ls : mj_L} {st : List Value} {σ : mj_S} {τ : mj_T} : mj_E 79 138 ls (.ref 0 :: st) σ τ = mj_E 79 141 ls (.ref 1 :: st) σ τ := mj_nx i79_138 rfl
theorem i79_141 : mj_ins 79 141 = some (.getfield 106, 144) := by decide +kernel
theorem e79_141 {ls : mj_L} {st : List Value} {σ : mj_S} {τ : mj_T} {k : Nat} (h1 : 1 ≤ k) (h2 : k ≤ 3) : mj_E 79 141 ls (.ref k :: st) σ τ = mj_E 79 144 ls (.ref (10 * k + 1) :: st) σ τ := (mj_gf i79_141).trans (congrArg (fun z => mj_ov z _) (fv1_6 h1 h2))
theorem i79_144 : mj_ins 79 144 = some (.iload 4, 146) := by decide +kernel
theorem e79_144 {ls : mj_L} {st : List Value} {σ : mj_S} {τ : mj_T} {a0 a1 a2 a3 : Option Value} {v : Int32} : mj_E 79 144 (a0 :: a1 :: a2 :: a3 :: some (.int v) :: ls) st σ τ = mj_E 79 146 (a0 :: a1 :: a2 :: a3 :: some (.int v) :: ls) (.int v :: st) σ τ := mj_nx i79_144 rfl
theorem i79_146 : mj_ins 79 146 = some (.iaload, 147) := by decide +kernel
theorem e79_146 {ls : mj_L} {st : List Value} {σ : mj_S} {τ : mj_T} {x : Int32} {k : Nat} : mj_E 79 146 ls (.int x :: .ref k :: st) σ τ = if mj_ib (mj_li σ k) x = true then mj_E 79 147 ls (.int (σ k x.toNatClampNeg) :: st) σ τ else none := mj_ald i79_146
theorem i79_147 : mj_ins 79 147 = some (.ireturn, 148) := by decide +kernel
theorem e79_147 {ls : mj_L} {σ : mj_S} {τ : mj_T} {v : Int32} : mj_E 79 147 ls [.int v] σ τ = some (some (.int v), σ, τ) := mj_irt i79_147 rfl
theorem c80 {σ : mj_S} {τ : mj_T} {r : Nat} {x0 : Int32} {x1 : Int32} {x2 : Int32} {x3 : Int32} : mj_C 80 [.ref r, .int x0, .int x1, .int x2, .int x3] σ τ = mj_E 80 0 [some (.ref r), some (.int x0), some (.int x1), some (.int x2), some (.int x3)] [] σ τ := rfl
theorem i80_0 : mj_ins 80 0 = some (.iload 1, 1) := by decide +kernel
theorem e80_0 {ls : mj_L} {st : List Value} {σ : mj_S} {τ : mj_T} {a0 : Option Value} {v : Int32} : mj_E 80 0 (a0 :: some (.int v) :: ls) st σ τ = mj_E 80 1 (a0 :: some (.int v) :: ls) (.int v :: st) σ τ := mj_nx i80_0 rfl
theorem i80_1 : mj_ins 80 1 = some (.invokestatic 3, 4) := by decide +kernel
theorem e80_1 {ls : mj_L} {σ : mj_S} {τ : mj_T} {x0 : Int32} : mj_E 80 1 ls [.int x0] σ τ = mj_bd (mj_C 3 [.int x0] σ τ) (mj_K 80 4 ls []) := mj_clS (as := [.int x0]) (r := []) i80_1 (by decide +kernel : mj_vk 80 3 1 0 1 false = true) rfl
theorem i80_4 : mj_ins 80 4 = some (.ifCond .ne 13, 7) := by decide +kernel
theorem e80_4 {ls : mj_L} {st : List Value} {σ : mj_S} {τ : mj_T} {x : Int32} : mj_E 80 4 ls (.int x :: st) σ τ = if x = 0 then mj_E 80 7 ls st σ τ else mj_E 80 13 ls st σ τ := (mj_ifc i80_4).trans (mj_cdF rfl)
theorem i80_7 : mj_ins 80 7 = some (.aload 0, 8) := by decide +kernel
theorem e80_7 {ls : mj_L} {st : List Value} {σ : mj_S} {τ : mj_T} {v : Nat} : mj_E 80 7 (some (.ref v) :: ls) st σ τ = mj_E 80 8 (some (.ref v) :: ls) (.ref v :: st) σ τ := mj_nx i80_7 rfl
theorem i80_8 : mj_ins 80 8 = some (.iconst (-1), 9) := by decide +kernel
theorem e80_8 {ls : mj_L} {st : List Value} {σ : mj_S} {τ : mj_T} : mj_E 80 8 ls st σ τ = mj_E 80 9 ls (.int ((-1)) :: st) σ τ := mj_nx i80_8 rfl
theorem i80_9 : mj_ins 80 9 = some (.invokevirtual 112, 12) := by decide +kernel
theorem e80_9 {ls : mj_L} {σ : mj_S} {τ : mj_T} {r : Nat} {x0 : Int32} : mj_E 80 9 ls [.int x0, .ref r] σ τ = if mj_rcv r 6 = true then mj_bd (mj_C 112 [.ref r, .int x0] σ τ) (mj_K 80 12 ls []) else none := mj_clV (as := [.int x0]) (r := []) i80_9 (by decide +kernel : mj_vk 80 112 1 0 2 false = true) (by decide +kernel)
theorem i80_12 : mj_ins 80 12 = some (.ireturn, 13) := by decide +kernel
theorem e80_12 {ls : mj_L} {σ : mj_S} {τ : mj_T} {v : Int32} : mj_E 80 12 ls [.int v] σ τ = some (some (.int v), σ, τ) := mj_irt i80_12 rfl
theorem i80_13 : mj_ins 80 13 = some (.iload 2, 14) := by decide +kernel
theorem e80_13 {ls : mj_L} {st : List Value} {σ : mj_S} {τ : mj_T} {a0 a1 : Option Value} {v : Int32} : mj_E 80 13 (a0 :: a1 :: some (.int v) :: ls) st σ τ = mj_E 80 14 (a0 :: a1 :: some (.int v) :: ls) (.int v :: st) σ τ := mj_nx i80_13 rfl
theorem i80_14 : mj_ins 80 14 = some (.iconst (9), 16) := by decide +kernel
theorem e80_14 {ls : mj_L} {st : List Value} {σ : mj_S} {τ : mj_T} : mj_E 80 14 ls st σ τ = mj_E 80 16 ls (.int (nI 9) :: st) σ τ := mj_nx i80_14 rfl
theorem i80_16 : mj_ins 80 16 = some (.invokestatic 116, 19) := by decide +kernel
theorem e80_16 {ls : mj_L} {σ : mj_S} {τ : mj_T} {x0 : Int32} {x1 : Int32} : mj_E 80 16 ls [.int x1, .int x0] σ τ = mj_bd (mj_C 116 [.int x0, .int x1] σ τ) (mj_K 80 19 ls []) := mj_clS (as := [.int x0, .int x1]) (r := []) i80_16 (by decide +kernel : mj_vk 80 116 2 0 2 false = true) rfl
theorem i80_19 : mj_ins 80 19 = some (.ifCond .eq 41, 22) := by decide +kernel
theorem e80_19 {ls : mj_L} {st : List Value} {σ : mj_S} {τ : mj_T} {x : Int32} : mj_E 80 19 ls (.int x :: st) σ τ = if x = 0 then mj_E 80 41 ls st σ τ else mj_E 80 22 ls st σ τ := (mj_ifc i80_19).trans (mj_cdT rfl)
theorem i80_22 : mj_ins 80 22 = some (.iload 3, 23) := by decide +kernel
theorem e80_22 {ls : mj_L} {st : List Value} {σ : mj_S} {τ : mj_T} {a0 a1 a2 : Option Value} {v : Int32} : mj_E 80 22 (a0 :: a1 :: a2 :: some (.int v) :: ls) st σ τ = mj_E 80 23 (a0 :: a1 :: a2 :: some (.int v) :: ls) (.int v :: st) σ τ := mj_nx i80_22 rfl
theorem i80_23 : mj_ins 80 23 = some (.iconst (60), 25) := by decide +kernel
theorem e80_23 {ls : mj_L} {st : List Value} {σ : mj_S} {τ : mj_T} : mj_E 80 23 ls st σ τ = mj_E 80 25 ls (.int (nI 60) :: st) σ τ := mj_nx i80_23 rfl
theorem i80_25 : mj_ins 80 25 = some (.invokestatic 116, 28) := by decide +kernel
theorem e80_25 {ls : mj_L} {σ : mj_S} {τ : mj_T} {x0 : Int32} {x1 : Int32} : mj_E 80 25 ls [.int x1, .int x0] σ τ = mj_bd (mj_C 116 [.int x0, .int x1] σ τ) (mj_K 80 28 ls []) := mj_clS (as := [.int x0, .int x1]) (r := []) i80_25 (by decide +kernel : mj_vk 80 116 2 0 2 false = true) rfl
theorem i80_28 : mj_ins 80 28 = some (.ifCond .eq 41, 31) := by decide +kernel
theorem e80_28 {ls : mj_L} {st : List Value} {σ : mj_S} {τ : mj_T} {x : Int32} : mj_E 80 28 ls (.int x :: st) σ τ = if x = 0 then mj_E 80 41 ls st σ τ else mj_E 80 31 ls st σ τ := (mj_ifc i80_28).trans (mj_cdT rfl)
theorem i80_31 : mj_ins 80 31 = some (.iload 4, 33) := by decide +kernel
theorem e80_31 {ls : mj_L} {st : List Value} {σ : mj_S} {τ : mj_T} {a0 a1 a2 a3 : Option Value} {v : Int32} : mj_E 80 31 (a0 :: a1 :: a2 :: a3 :: some (.int v) :: ls) st σ τ = mj_E 80 33 (a0 :: a1 :: a2 :: a3 :: some (.int v) :: ls) (.int v :: st) σ τ := mj_nx i80_31 rfl
theorem i80_33 : mj_ins 80 33 = some (.iconst (9), 35) := by decide +kernel
theorem e80_33 {ls : mj_L} {st : List Value} {σ : mj_S} {τ : mj_T} : mj_E 80 33 ls st σ τ = mj_E 80 35 ls (.int (nI 9) :: st) σ τ := mj_nx i80_33 rfl
theorem i80_35 : mj_ins 80 35 = some (.invokestatic 116, 38) := by decide +kernel
theorem e80_35 {ls : mj_L} {σ : mj_S} {τ : mj_T} {x0 : Int32} {x1 : Int32} : mj_E 80 35 ls [.int x1, .int x0] σ τ = mj_bd (mj_C 116 [.int x0, .int x1] σ τ) (mj_K 80 38 ls []) := mj_clS (as := [.int x0, .int x1]) (r := []) i80_35 (by decide +kernel : mj_vk 80 116 2 0 2 false = true) rfl
theorem i80_38 : mj_ins 80 38 = some (.ifCond .ne 48, 41) := by decide +kernel
theorem e80_38 {ls : mj_L} {st : List Value} {σ : mj_S} {τ : mj_T} {x : Int32} : mj_E 80 38 ls (.int x :: st) σ τ = if x = 0 then mj_E 80 41 ls st σ τ else mj_E 80 48 ls st σ τ := (mj_ifc i80_38).trans (mj_cdF rfl)
theorem i80_41 : mj_ins 80 41 = some (.aload 0, 42) := by decide +kernel
theorem e80_41 {ls : mj_L} {st : List Value} {σ : mj_S} {τ : mj_T} {v : Nat} : mj_E 80 41 (some (.ref v) :: ls) st σ τ = mj_E 80 42 (some (.ref v) :: ls) (.ref v :: st) σ τ := mj_nx i80_41 rfl
theorem i80_42 : mj_ins 80 42 = some (.iconst (-6), 44) := by decide +kernel
theorem e80_42 {ls : mj_L} {st : List Value} {σ : mj_S} {τ : mj_T} : mj_E 80 42 ls st σ τ = mj_E 80 44 ls (.int ((-6)) :: st) σ τ := mj_nx i80_42 rfl
theorem i80_44 : mj_ins 80 44 = some (.invokevirtual 112, 47) := by decide +kernel
theorem e80_44 {ls : mj_L} {σ : mj_S} {τ : mj_T} {r : Nat} {x0 : Int32} : mj_E 80 44 ls [.int x0, .ref r] σ τ = if mj_rcv r 6 = true then mj_bd (mj_C 112 [.ref r, .int x0] σ τ) (mj_K 80 47 ls []) else none := mj_clV (as := [.int x0]) (r := []) i80_44 (by decide +kernel : mj_vk 80 112 1 0 2 false = true) (by decide +kernel)
theorem i80_47 : mj_ins 80 47 = some (.ireturn, 48) := by decide +kernel
theorem e80_47 {ls : mj_L} {σ : mj_S} {τ : mj_T} {v : Int32} : mj_E 80 47 ls [.int v] σ τ = some (some (.int v), σ, τ) := mj_irt i80_47 rfl
theorem i80_48 : mj_ins 80 48 = some (.aload 0, 49) := by decide +kernel
theorem e80_48 {ls : mj_L} {st : List Value} {σ : mj_S} {τ : mj_T} {v : Nat} : mj_E 80 48 (some (.ref v) :: ls) st σ τ = mj_E 80 49 (some (.ref v) :: ls) (.ref v :: st) σ τ := mj_nx i80_48 rfl
theorem i80_49 : mj_ins 80 49 = some (.getfield 600, 52) := by decide +kernel
theorem e80_49 {ls : mj_L} {st : List Value} {σ : mj_S} {τ : mj_T} : mj_E 80 49 ls (.ref 0 :: st) σ τ = mj_E 80 52 ls (.ref 1 :: st) σ τ := mj_nx i80_49 rfl
theorem i80_52 : mj_ins 80 52 = some (.invokevirtual 9, 55) := by decide +kernel
theorem e80_52 {ls : mj_L} {σ : mj_S} {τ : mj_T} {r : Nat} : mj_E 80 52 ls [.ref r] σ τ = if mj_rcv r 1 = true then mj_bd (mj_C 9 [.ref r] σ τ) (mj_K 80 55 ls []) else none := mj_clV (as := []) (r := []) i80_52 (by decide +kernel : mj_vk 80 9 0 0 1 false = true) (by decide +kernel)
theorem i80_55 : mj_ins 80 55 = some (.ifCond .ne 65, 58) := by decide +kernel
theorem e80_55 {ls : mj_L} {st : List Value} {σ : mj_S} {τ : mj_T} {x : Int32} : mj_E 80 55 ls (.int x :: st) σ τ = if x = 0 then mj_E 80 58 ls st σ τ else mj_E 80 65 ls st σ τ := (mj_ifc i80_55).trans (mj_cdF rfl)
theorem i80_58 : mj_ins 80 58 = some (.aload 0, 59) := by decide +kernel
theorem e80_58 {ls : mj_L} {st : List Value} {σ : mj_S} {τ : mj_T} {v : Nat} : mj_E 80 58 (some (.ref v) :: ls) st σ τ = mj_E 80 59 (some (.ref v) :: ls) (.ref v :: st) σ τ := mj_nx i80_58 rfl
theorem i80_59 : mj_ins 80 59 = some (.iconst (-7), 61) := by decide +kernel
theorem e80_59 {ls : mj_L} {st : List Value} {σ : mj_S} {τ : mj_T} : mj_E 80 59 ls st σ τ = mj_E 80 61 ls (.int ((-7)) :: st) σ τ := mj_nx i80_59 rfl
theorem i80_61 : mj_ins 80 61 = some (.invokevirtual 112, 64) := by decide +kernel
theorem e80_61 {ls : mj_L} {σ : mj_S} {τ : mj_T} {r : Nat} {x0 : Int32} : mj_E 80 61 ls [.int x0, .ref r] σ τ = if mj_rcv r 6 = true then mj_bd (mj_C 112 [.ref r, .int x0] σ τ) (mj_K 80 64 ls []) else none := mj_clV (as := [.int x0]) (r := []) i80_61 (by decide +kernel : mj_vk 80 112 1 0 2 false = true) (by decide +kernel)
theorem i80_64 : mj_ins 80 64 = some (.ireturn, 65) := by decide +kernel
theorem e80_64 {ls : mj_L} {σ : mj_S} {τ : mj_T} {v : Int32} : mj_E 80 64 ls [.int v] σ τ = some (some (.int v), σ, τ) := mj_irt i80_64 rfl
theorem i80_65 : mj_ins 80 65 = some (.aload 0, 66) := by decide +kernel
theorem e80_65 {ls : mj_L} {st : List Value} {σ : mj_S} {τ : mj_T} {v : Nat} : mj_E 80 65 (some (.ref v) :: ls) st σ τ = mj_E 80 66 (some (.ref v) :: ls) (.ref v :: st) σ τ := mj_nx i80_65 rfl
theorem i80_66 : mj_ins 80 66 = some (.getfield 600, 69) := by decide +kernel
theorem e80_66 {ls : mj_L} {st : List Value} {σ : mj_S} {τ : mj_T} : mj_E 80 66 ls (.ref 0 :: st) σ τ = mj_E 80 69 ls (.ref 1 :: st) σ τ := mj_nx i80_66 rfl
theorem i80_69 : mj_ins 80 69 = some (.iload 1, 70) := by decide +kernel
theorem e80_69 {ls : mj_L} {st : List Value} {σ : mj_S} {τ : mj_T} {a0 : Option Value} {v : Int32} : mj_E 80 69 (a0 :: some (.int v) :: ls) st σ τ = mj_E 80 70 (a0 :: some (.int v) :: ls) (.int v :: st) σ τ := mj_nx i80_69 rfl
theorem i80_70 : mj_ins 80 70 = some (.iload 2, 71) := by decide +kernel
theorem e80_70 {ls : mj_L} {st : List Value} {σ : mj_S} {τ : mj_T} {a0 a1 : Option Value} {v : Int32} : mj_E 80 70 (a0 :: a1 :: some (.int v) :: ls) st σ τ = mj_E 80 71 (a0 :: a1 :: some (.int v) :: ls) (.int v :: st) σ τ := mj_nx i80_70 rfl
theorem i80_71 : mj_ins 80 71 = some (.iload 3, 72) := by decide +kernel
theorem e80_71 {ls : mj_L} {st : List Value} {σ : mj_S} {τ : mj_T} {a0 a1 a2 : Option Value} {v : Int32} : mj_E 80 71 (a0 :: a1 :: a2 :: some (.int v) :: ls) st σ τ = mj_E 80 72 (a0 :: a1 :: a2 :: some (.int v) :: ls) (.int v :: st) σ τ := mj_nx i80_71 rfl
theorem i80_72 : mj_ins 80 72 = some (.iload 4, 74) := by decide +kernel
theorem e80_72 {ls : mj_L} {st : List Value} {σ : mj_S} {τ : mj_T} {a0 a1 a2 a3 : Option Value} {v : Int32} : mj_E 80 72 (a0 :: a1 :: a2 :: a3 :: some (.int v) :: ls) st σ τ = mj_E 80 74 (a0 :: a1 :: a2 :: a3 :: some (.int v) :: ls) (.int v :: st) σ τ := mj_nx i80_72 rfl
theorem i80_74 : mj_ins 80 74 = some (.invokevirtual 11, 77) := by decide +kernel
theorem e80_74 {ls : mj_L} {σ : mj_S} {τ : mj_T} {r : Nat} {x0 : Int32} {x1 : Int32} {x2 : Int32} {x3 : Int32} : mj_E 80 74 ls [.int x3, .int x2, .int x1, .int x0, .ref r] σ τ = if mj_rcv r 1 = true then mj_bd (mj_C 11 [.ref r, .int x0, .int x1, .int x2, .int x3] σ τ) (mj_K 80 77 ls []) else none := mj_clV (as := [.int x0, .int x1, .int x2, .int x3]) (r := []) i80_74 (by decide +kernel : mj_vk 80 11 4 0 5 false = true) (by decide +kernel)
theorem i80_77 : mj_ins 80 77 = some (.ireturn, 78) := by decide +kernel
theorem e80_77 {ls : mj_L} {σ : mj_S} {τ : mj_T} {v : Int32} : mj_E 80 77 ls [.int v] σ τ = some (some (.int v), σ, τ) := mj_irt i80_77 rfl
theorem c81 {σ : mj_S} {τ : mj_T} {r : Nat} {x0 : Int32} {x1 : Int32} {x2 : Int32} {x3 : Int32} {x4 : Int32} : mj_C 81 [.ref r, .int x0, .int x1, .int x2, .int x3, .int x4] σ τ = mj_E 81 0 [some (.ref r), some (.int x0), some (.int x1), some (.int x2), some (.int x3), some (.int x4)] [] σ τ := rfl
theorem i81_0 : mj_ins 81 0 = some (.aload 0, 1) := by decide +kernel
theorem e81_0 {ls : mj_L} {st : List Value} {σ : mj_S} {τ : mj_T} {v : Nat} : mj_E 81 0 (some (.ref v) :: ls) st σ τ = mj_E 81 1 (some (.ref v) :: ls) (.ref v :: st) σ τ := mj_nx i81_0 rfl
theorem i81_1 : mj_ins 81 1 = some (.getfield 600, 4) := by decide +kernel
theorem e81_1 {ls : mj_L} {st : List Value} {σ : mj_S} {τ : mj_T} : mj_E 81 1 ls (.ref 0 :: st) σ τ = mj_E 81 4 ls (.ref 1 :: st) σ τ := mj_nx i81_1 rfl
theorem i81_4 : mj_ins 81 4 = some (.iload 3, 5) := by decide +kernel
theorem e81_4 {ls : mj_L} {st : List Value} {σ : mj_S} {τ : mj_T} {a0 a1 a2 : Option Value} {v : Int32} : mj_E 81 4 (a0 :: a1 :: a2 :: some (.int v) :: ls) st σ τ = mj_E 81 5 (a0 :: a1 :: a2 :: some (.int v) :: ls) (.int v :: st) σ τ := mj_nx i81_4 rfl
theorem i81_5 : mj_ins 81 5 = some (.invokevirtual 7, 8) := by decide +kernel
theorem e81_5 {ls : mj_L} {σ : mj_S} {τ : mj_T} {r : Nat} {x0 : Int32} : mj_E 81 5 ls [.int x0, .ref r] σ τ = if mj_rcv r 1 = true then mj_bd (mj_C 7 [.ref r, .int x0] σ τ) (mj_K 81 8 ls []) else none := mj_clV (as := [.int x0]) (r := []) i81_5 (by decide +kernel : mj_vk 81 7 1 0 2 false = true) (by decide +kernel)
theorem i81_8 : mj_ins 81 8 = some (.ifCond .eq 35, 11) := by decide +kernel
theorem e81_8 {ls : mj_L} {st : List Value} {σ : mj_S} {τ : mj_T} {x : Int32} : mj_E 81 8 ls (.int x :: st) σ τ = if x = 0 then mj_E 81 35 ls st σ τ else mj_E 81 11 ls st σ τ := (mj_ifc i81_8).trans (mj_cdT rfl)
theorem i81_11 : mj_ins 81 11 = some (.aload 0, 12) := by decide +kernel
theorem e81_11 {ls : mj_L} {st : List Value} {σ : mj_S} {τ : mj_T} {v : Nat} : mj_E 81 11 (some (.ref v) :: ls) st σ τ = mj_E 81 12 (some (.ref v) :: ls) (.ref v :: st) σ τ := mj_nx i81_11 rfl
theorem i81_12 : mj_ins 81 12 = some (.getfield 600, 15) := by decide +kernel
theorem e81_12 {ls : mj_L} {st : List Value} {σ : mj_S} {τ : mj_T} : mj_E 81 12 ls (.ref 0 :: st) σ τ = mj_E 81 15 ls (.ref 1 :: st) σ τ := mj_nx i81_12 rfl
theorem i81_15 : mj_ins 81 15 = some (.iload 4, 17) := by decide +kernel
theorem e81_15 {ls : mj_L} {st : List Value} {σ : mj_S} {τ : mj_T} {a0 a1 a2 a3 : Option Value} {v : Int32} : mj_E 81 15 (a0 :: a1 :: a2 :: a3 :: some (.int v) :: ls) st σ τ = mj_E 81 17 (a0 :: a1 :: a2 :: a3 :: some (.int v) :: ls) (.int v :: st) σ τ := mj_nx i81_15 rfl
theorem i81_17 : mj_ins 81 17 = some (.invokevirtual 7, 20) := by decide +kernel
theorem e81_17 {ls : mj_L} {σ : mj_S} {τ : mj_T} {r : Nat} {x0 : Int32} : mj_E 81 17 ls [.int x0, .ref r] σ τ = if mj_rcv r 1 = true then mj_bd (mj_C 7 [.ref r, .int x0] σ τ) (mj_K 81 20 ls []) else none := mj_clV (as := [.int x0]) (r := []) i81_17 (by decide +kernel : mj_vk 81 7 1 0 2 false = true) (by decide +kernel)
theorem i81_20 : mj_ins 81 20 = some (.ifCond .eq 35, 23) := by decide +kernel
theorem e81_20 {ls : mj_L} {st : List Value} {σ : mj_S} {τ : mj_T} {x : Int32} : mj_E 81 20 ls (.int x :: st) σ τ = if x = 0 then mj_E 81 35 ls st σ τ else mj_E 81 23 ls st σ τ := (mj_ifc i81_20).trans (mj_cdT rfl)
theorem i81_23 : mj_ins 81 23 = some (.aload 0, 24) := by decide +kernel
theorem e81_23 {ls : mj_L} {st : List Value} {σ : mj_S} {τ : mj_T} {v : Nat} : mj_E 81 23 (some (.ref v) :: ls) st σ τ = mj_E 81 24 (some (.ref v) :: ls) (.ref v :: st) σ τ := mj_nx i81_23 rfl
theorem i81_24 : mj_ins 81 24 = some (.getfield 600, 27) := by decide +kernel
theorem e81_24 {ls : mj_L} {st : List Value} {σ : mj_S} {τ : mj_T} : mj_E 81 24 ls (.ref 0 :: st) σ τ = mj_E 81 27 ls (.ref 1 :: st) σ τ := mj_nx i81_24 rfl
theorem i81_27 : mj_ins 81 27 = some (.iload 5, 29) := by decide +kernel
theorem e81_27 {ls : mj_L} {st : List Value} {σ : mj_S} {τ : mj_T} {a0 a1 a2 a3 a4 : Option Value} {v : Int32} : mj_E 81 27 (a0 :: a1 :: a2 :: a3 :: a4 :: some (.int v) :: ls) st σ τ = mj_E 81 29 (a0 :: a1 :: a2 :: a3 :: a4 :: some (.int v) :: ls) (.int v :: st) σ τ := mj_nx i81_27 rfl
theorem i81_29 : mj_ins 81 29 = some (.invokevirtual 7, 32) := by decide +kernel
theorem e81_29 {ls : mj_L} {σ : mj_S} {τ : mj_T} {r : Nat} {x0 : Int32} : mj_E 81 29 ls [.int x0, .ref r] σ τ = if mj_rcv r 1 = true then mj_bd (mj_C 7 [.ref r, .int x0] σ τ) (mj_K 81 32 ls []) else none := mj_clV (as := [.int x0]) (r := []) i81_29 (by decide +kernel : mj_vk 81 7 1 0 2 false = true) (by decide +kernel)
theorem i81_32 : mj_ins 81 32 = some (.ifCond .ne 41, 35) := by decide +kernel
theorem e81_32 {ls : mj_L} {st : List Value} {σ : mj_S} {τ : mj_T} {x : Int32} : mj_E 81 32 ls (.int x :: st) σ τ = if x = 0 then mj_E 81 35 ls st σ τ else mj_E 81 41 ls st σ τ := (mj_ifc i81_32).trans (mj_cdF rfl)
theorem i81_35 : mj_ins 81 35 = some (.aload 0, 36) := by decide +kernel
theorem e81_35 {ls : mj_L} {st : List Value} {σ : mj_S} {τ : mj_T} {v : Nat} : mj_E 81 35 (some (.ref v) :: ls) st σ τ = mj_E 81 36 (some (.ref v) :: ls) (.ref v :: st) σ τ := mj_nx i81_35 rfl
theorem i81_36 : mj_ins 81 36 = some (.iconst (-1), 37) := by decide +kernel
theorem e81_36 {ls : mj_L} {st : List Value} {σ : mj_S} {τ : mj_T} : mj_E 81 36 ls st σ τ = mj_E 81 37 ls (.int ((-1)) :: st) σ τ := mj_nx i81_36 rfl
theorem i81_37 : mj_ins 81 37 = some (.invokevirtual 112, 40) := by decide +kernel
theorem e81_37 {ls : mj_L} {σ : mj_S} {τ : mj_T} {r : Nat} {x0 : Int32} : mj_E 81 37 ls [.int x0, .ref r] σ τ = if mj_rcv r 6 = true then mj_bd (mj_C 112 [.ref r, .int x0] σ τ) (mj_K 81 40 ls []) else none := mj_clV (as := [.int x0]) (r := []) i81_37 (by decide +kernel : mj_vk 81 112 1 0 2 false = true) (by decide +kernel)
theorem i81_40 : mj_ins 81 40 = some (.ireturn, 41) := by decide +kernel
theorem e81_40 {ls : mj_L} {σ : mj_S} {τ : mj_T} {v : Int32} : mj_E 81 40 ls [.int v] σ τ = some (some (.int v), σ, τ) := mj_irt i81_40 rfl
theorem i81_41 : mj_ins 81 41 = some (.iload 1, 42) := by decide +kernel
theorem e81_41 {ls : mj_L} {st : List Value} {σ : mj_S} {τ : mj_T} {a0 : Option Value} {v : Int32} : mj_E 81 41 (a0 :: some (.int v) :: ls) st σ τ = mj_E 81 42 (a0 :: some (.int v) :: ls) (.int v :: st) σ τ := mj_nx i81_41 rfl
theorem i81_42 : mj_ins 81 42 = some (.iconst (9), 44) := by decide +kernel
theorem e81_42 {ls : mj_L} {st : List Value} {σ : mj_S} {τ : mj_T} : mj_E 81 42 ls st σ τ = mj_E 81 44 ls (.int (nI 9) :: st) σ τ := mj_nx i81_42 rfl
theorem i81_44 : mj_ins 81 44 = some (.invokestatic 116, 47) := by decide +kernel
theorem e81_44 {ls : mj_L} {σ : mj_S} {τ : mj_T} {x0 : Int32} {x1 : Int32} : mj_E 81 44 ls [.int x1, .int x0] σ τ = mj_bd (mj_C 116 [.int x0, .int x1] σ τ) (mj_K 81 47 ls []) := mj_clS (as := [.int x0, .int x1]) (r := []) i81_44 (by decide +kernel : mj_vk 81 116 2 0 2 false = true) rfl
theorem i81_47 : mj_ins 81 47 = some (.ifCond .eq 78, 50) := by decide +kernel
theorem e81_47 {ls : mj_L} {st : List Value} {σ : mj_S} {τ : mj_T} {x : Int32} : mj_E 81 47 ls (.int x :: st) σ τ = if x = 0 then mj_E 81 78 ls st σ τ else mj_E 81 50 ls st σ τ := (mj_ifc i81_47).trans (mj_cdT rfl)
theorem i81_50 : mj_ins 81 50 = some (.iload 2, 51) := by decide +kernel
theorem e81_50 {ls : mj_L} {st : List Value} {σ : mj_S} {τ : mj_T} {a0 a1 : Option Value} {v : Int32} : mj_E 81 50 (a0 :: a1 :: some (.int v) :: ls) st σ τ = mj_E 81 51 (a0 :: a1 :: some (.int v) :: ls) (.int v :: st) σ τ := mj_nx i81_50 rfl
theorem i81_51 : mj_ins 81 51 = some (.iconst (9), 53) := by decide +kernel
theorem e81_51 {ls : mj_L} {st : List Value} {σ : mj_S} {τ : mj_T} : mj_E 81 51 ls st σ τ = mj_E 81 53 ls (.int (nI 9) :: st) σ τ := mj_nx i81_51 rfl
theorem i81_53 : mj_ins 81 53 = some (.invokestatic 116, 56) := by decide +kernel
theorem e81_53 {ls : mj_L} {σ : mj_S} {τ : mj_T} {x0 : Int32} {x1 : Int32} : mj_E 81 53 ls [.int x1, .int x0] σ τ = mj_bd (mj_C 116 [.int x0, .int x1] σ τ) (mj_K 81 56 ls []) := mj_clS (as := [.int x0, .int x1]) (r := []) i81_53 (by decide +kernel : mj_vk 81 116 2 0 2 false = true) rfl
theorem i81_56 : mj_ins 81 56 = some (.ifCond .eq 78, 59) := by decide +kernel
theorem e81_56 {ls : mj_L} {st : List Value} {σ : mj_S} {τ : mj_T} {x : Int32} : mj_E 81 56 ls (.int x :: st) σ τ = if x = 0 then mj_E 81 78 ls st σ τ else mj_E 81 59 ls st σ τ := (mj_ifc i81_56).trans (mj_cdT rfl)
theorem i81_59 : mj_ins 81 59 = some (.iload 3, 60) := by decide +kernel
theorem e81_59 {ls : mj_L} {st : List Value} {σ : mj_S} {τ : mj_T} {a0 a1 a2 : Option Value} {v : Int32} : mj_E 81 59 (a0 :: a1 :: a2 :: some (.int v) :: ls) st σ τ = mj_E 81 60 (a0 :: a1 :: a2 :: some (.int v) :: ls) (.int v :: st) σ τ := mj_nx i81_59 rfl
theorem i81_60 : mj_ins 81 60 = some (.iload 4, 62) := by decide +kernel
theorem e81_60 {ls : mj_L} {st : List Value} {σ : mj_S} {τ : mj_T} {a0 a1 a2 a3 : Option Value} {v : Int32} : mj_E 81 60 (a0 :: a1 :: a2 :: a3 :: some (.int v) :: ls) st σ τ = mj_E 81 62 (a0 :: a1 :: a2 :: a3 :: some (.int v) :: ls) (.int v :: st) σ τ := mj_nx i81_60 rfl
theorem i81_62 : mj_ins 81 62 = some (.if_icmp .eq 78, 65) := by decide +kernel
theorem e81_62 {ls : mj_L} {st : List Value} {σ : mj_S} {τ : mj_T} {x y : Int32} : mj_E 81 62 ls (.int y :: .int x :: st) σ τ = if x = y then mj_E 81 78 ls st σ τ else mj_E 81 65 ls st σ τ := (mj_ifi i81_62).trans (mj_cdT rfl)
theorem i81_65 : mj_ins 81 65 = some (.iload 3, 66) := by decide +kernel
theorem e81_65 {ls : mj_L} {st : List Value} {σ : mj_S} {τ : mj_T} {a0 a1 a2 : Option Value} {v : Int32} : mj_E 81 65 (a0 :: a1 :: a2 :: some (.int v) :: ls) st σ τ = mj_E 81 66 (a0 :: a1 :: a2 :: some (.int v) :: ls) (.int v :: st) σ τ := mj_nx i81_65 rfl
theorem i81_66 : mj_ins 81 66 = some (.iload 5, 68) := by decide +kernel
theorem e81_66 {ls : mj_L} {st : List Value} {σ : mj_S} {τ : mj_T} {a0 a1 a2 a3 a4 : Option Value} {v : Int32} : mj_E 81 66 (a0 :: a1 :: a2 :: a3 :: a4 :: some (.int v) :: ls) st σ τ = mj_E 81 68 (a0 :: a1 :: a2 :: a3 :: a4 :: some (.int v) :: ls) (.int v :: st) σ τ := mj_nx i81_66 rfl
theorem i81_68 : mj_ins 81 68 = some (.if_icmp .eq 78, 71) := by decide +kernel
theorem e81_68 {ls : mj_L} {st : List Value} {σ : mj_S} {τ : mj_T} {x y : Int32} : mj_E 81 68 ls (.int y :: .int x :: st) σ τ = if x = y then mj_E 81 78 ls st σ τ else mj_E 81 71 ls st σ τ := (mj_ifi i81_68).trans (mj_cdT rfl)
theorem i81_71 : mj_ins 81 71 = some (.iload 4, 73) := by decide +kernel
theorem e81_71 {ls : mj_L} {st : List Value} {σ : mj_S} {τ : mj_T} {a0 a1 a2 a3 : Option Value} {v : Int32} : mj_E 81 71 (a0 :: a1 :: a2 :: a3 :: some (.int v) :: ls) st σ τ = mj_E 81 73 (a0 :: a1 :: a2 :: a3 :: some (.int v) :: ls) (.int v :: st) σ τ := mj_nx i81_71 rfl
theorem i81_73 : mj_ins 81 73 = some (.iload 5, 75) := by decide +kernel
theorem e81_73 {ls : mj_L} {st : List Value} {σ : mj_S} {τ : mj_T} {a0 a1 a2 a3 a4 : Option Value} {v : Int32} : mj_E 81 73 (a0 :: a1 :: a2 :: a3 :: a4 :: some (.int v) :: ls) st σ τ = mj_E 81 75 (a0 :: a1 :: a2 :: a3 :: a4 :: some (.int v) :: ls) (.int v :: st) σ τ := mj_nx i81_73 rfl
theorem i81_75 : mj_ins 81 75 = some (.if_icmp .ne 85, 78) := by decide +kernel
theorem e81_75 {ls : mj_L} {st : List Value} {σ : mj_S} {τ : mj_T} {x y : Int32} : mj_E 81 75 ls (.int y :: .int x :: st) σ τ = if x = y then mj_E 81 78 ls st σ τ else mj_E 81 85 ls st σ τ := (mj_ifi i81_75).trans (mj_cdF rfl)
theorem i81_78 : mj_ins 81 78 = some (.aload 0, 79) := by decide +kernel
theorem e81_78 {ls : mj_L} {st : List Value} {σ : mj_S} {τ : mj_T} {v : Nat} : mj_E 81 78 (some (.ref v) :: ls) st σ τ = mj_E 81 79 (some (.ref v) :: ls) (.ref v :: st) σ τ := mj_nx i81_78 rfl
theorem i81_79 : mj_ins 81 79 = some (.iconst (-6), 81) := by decide +kernel
theorem e81_79 {ls : mj_L} {st : List Value} {σ : mj_S} {τ : mj_T} : mj_E 81 79 ls st σ τ = mj_E 81 81 ls (.int ((-6)) :: st) σ τ := mj_nx i81_79 rfl
theorem i81_81 : mj_ins 81 81 = some (.invokevirtual 112, 84) := by decide +kernel
theorem e81_81 {ls : mj_L} {σ : mj_S} {τ : mj_T} {r : Nat} {x0 : Int32} : mj_E 81 81 ls [.int x0, .ref r] σ τ = if mj_rcv r 6 = true then mj_bd (mj_C 112 [.ref r, .int x0] σ τ) (mj_K 81 84 ls []) else none := mj_clV (as := [.int x0]) (r := []) i81_81 (by decide +kernel : mj_vk 81 112 1 0 2 false = true) (by decide +kernel)
theorem i81_84 : mj_ins 81 84 = some (.ireturn, 85) := by decide +kernel
theorem e81_84 {ls : mj_L} {σ : mj_S} {τ : mj_T} {v : Int32} : mj_E 81 84 ls [.int v] σ τ = some (some (.int v), σ, τ) := mj_irt i81_84 rfl
theorem i81_85 : mj_ins 81 85 = some (.aload 0, 86) := by decide +kernel
theorem e81_85 {ls : mj_L} {st : List Value} {σ : mj_S} {τ : mj_T} {v : Nat} : mj_E 81 85 (some (.ref v) :: ls) st σ τ = mj_E 81 86 (some (.ref v) :: ls) (.ref v :: st) σ τ := mj_nx i81_85 rfl
theorem i81_86 : mj_ins 81 86 = some (.getfield 600, 89) := by decide +kernel
theorem e81_86 {ls : mj_L} {st : List Value} {σ : mj_S} {τ : mj_T} : mj_E 81 86 ls (.ref 0 :: st) σ τ = mj_E 81 89 ls (.ref 1 :: st) σ τ := mj_nx i81_86 rfl
theorem i81_89 : mj_ins 81 89 = some (.invokevirtual 10, 92) := by decide +kernel
theorem e81_89 {ls : mj_L} {σ : mj_S} {τ : mj_T} {r : Nat} : mj_E 81 89 ls [.ref r] σ τ = if mj_rcv r 1 = true then mj_bd (mj_C 10 [.ref r] σ τ) (mj_K 81 92 ls []) else none := mj_clV (as := []) (r := []) i81_89 (by decide +kernel : mj_vk 81 10 0 0 1 false = true) (by decide +kernel)
theorem i81_92 : mj_ins 81 92 = some (.ifCond .ne 102, 95) := by decide +kernel
theorem e81_92 {ls : mj_L} {st : List Value} {σ : mj_S} {τ : mj_T} {x : Int32} : mj_E 81 92 ls (.int x :: st) σ τ = if x = 0 then mj_E 81 95 ls st σ τ else mj_E 81 102 ls st σ τ := (mj_ifc i81_92).trans (mj_cdF rfl)
theorem i81_95 : mj_ins 81 95 = some (.aload 0, 96) := by decide +kernel
theorem e81_95 {ls : mj_L} {st : List Value} {σ : mj_S} {τ : mj_T} {v : Nat} : mj_E 81 95 (some (.ref v) :: ls) st σ τ = mj_E 81 96 (some (.ref v) :: ls) (.ref v :: st) σ τ := mj_nx i81_95 rfl
theorem i81_96 : mj_ins 81 96 = some (.iconst (-7), 98) := by decide +kernel
theorem e81_96 {ls : mj_L} {st : List Value} {σ : mj_S} {τ : mj_T} : mj_E 81 96 ls st σ τ = mj_E 81 98 ls (.int ((-7)) :: st) σ τ := mj_nx i81_96 rfl
theorem i81_98 : mj_ins 81 98 = some (.invokevirtual 112, 101) := by decide +kernel
theorem e81_98 {ls : mj_L} {σ : mj_S} {τ : mj_T} {r : Nat} {x0 : Int32} : mj_E 81 98 ls [.int x0, .ref r] σ τ = if mj_rcv r 6 = true then mj_bd (mj_C 112 [.ref r, .int x0] σ τ) (mj_K 81 101 ls []) else none := mj_clV (as := [.int x0]) (r := []) i81_98 (by decide +kernel : mj_vk 81 112 1 0 2 false = true) (by decide +kernel)
theorem i81_101 : mj_ins 81 101 = some (.ireturn, 102) := by decide +kernel
theorem e81_101 {ls : mj_L} {σ : mj_S} {τ : mj_T} {v : Int32} : mj_E 81 101 ls [.int v] σ τ = some (some (.int v), σ, τ) := mj_irt i81_101 rfl
theorem i81_102 : mj_ins 81 102 = some (.aload 0, 103) := by decide +kernel
theorem e81_102 {ls : mj_L} {st : List Value} {σ : mj_S} {τ : mj_T} {v : Nat} : mj_E 81 102 (some (.ref v) :: ls) st σ τ = mj_E 81 103 (some (.ref v) :: ls) (.ref v :: st) σ τ := mj_nx i81_102 rfl
theorem i81_103 : mj_ins 81 103 = some (.getfield 600, 106) := by decide +kernel
theorem e81_103 {ls : mj_L} {st : List Value} {σ : mj_S} {τ : mj_T} : mj_E 81 103 ls (.ref 0 :: st) σ τ = mj_E 81 106 ls (.ref 1 :: st) σ τ := mj_nx i81_103 rfl
theorem i81_106 : mj_ins 81 106 = some (.iload 1, 107) := by decide +kernel
theorem e81_106 {ls : mj_L} {st : List Value} {σ : mj_S} {τ : mj_T} {a0 : Option Value} {v : Int32} : mj_E 81 106 (a0 :: some (.int v) :: ls) st σ τ = mj_E 81 107 (a0 :: some (.int v) :: ls) (.int v :: st) σ τ := mj_nx i81_106 rfl
theorem i81_107 : mj_ins 81 107 = some (.iload 2, 108) := by decide +kernel
theorem e81_107 {ls : mj_L} {st : List Value} {σ : mj_S} {τ : mj_T} {a0 a1 : Option Value} {v : Int32} : mj_E 81 107 (a0 :: a1 :: some (.int v) :: ls) st σ τ = mj_E 81 108 (a0 :: a1 :: some (.int v) :: ls) (.int v :: st) σ τ := mj_nx i81_107 rfl
theorem i81_108 : mj_ins 81 108 = some (.iconst (1), 109) := by decide +kernel
theorem e81_108 {ls : mj_L} {st : List Value} {σ : mj_S} {τ : mj_T} : mj_E 81 108 ls st σ τ = mj_E 81 109 ls (.int (nI 1) :: st) σ τ := mj_nx i81_108 rfl
theorem i81_109 : mj_ins 81 109 = some (.iload 3, 110) := by decide +kernel
theorem e81_109 {ls : mj_L} {st : List Value} {σ : mj_S} {τ : mj_T} {a0 a1 a2 : Option Value} {v : Int32} : mj_E 81 109 (a0 :: a1 :: a2 :: some (.int v) :: ls) st σ τ = mj_E 81 110 (a0 :: a1 :: a2 :: some (.int v) :: ls) (.int v :: st) σ τ := mj_nx i81_109 rfl
theorem i81_110 : mj_ins 81 110 = some (.ishl, 111) := by decide +kernel
theorem e81_110 {ls : mj_L} {st : List Value} {σ : mj_S} {τ : mj_T} {x y : Int32} : mj_E 81 110 ls (.int y :: .int x :: st) σ τ = mj_E 81 111 ls (.int (x <<< (y &&& 31)) :: st) σ τ := mj_nx i81_110 rfl
theorem i81_111 : mj_ins 81 111 = some (.iconst (1), 112) := by decide +kernel
theorem e81_111 {ls : mj_L} {st : List Value} {σ : mj_S} {τ : mj_T} : mj_E 81 111 ls st σ τ = mj_E 81 112 ls (.int (nI 1) :: st) σ τ := mj_nx i81_111 rfl
theorem i81_112 : mj_ins 81 112 = some (.iload 4, 114) := by decide +kernel
theorem e81_112 {ls : mj_L} {st : List Value} {σ : mj_S} {τ : mj_T} {a0 a1 a2 a3 : Option Value} {v : Int32} : mj_E 81 112 (a0 :: a1 :: a2 :: a3 :: some (.int v) :: ls) st σ τ = mj_E 81 114 (a0 :: a1 :: a2 :: a3 :: some (.int v) :: ls) (.int v :: st) σ τ := mj_nx i81_112 rfl
theorem i81_114 : mj_ins 81 114 = some (.ishl, 115) := by decide +kernel
theorem e81_114 {ls : mj_L} {st : List Value} {σ : mj_S} {τ : mj_T} {x y : Int32} : mj_E 81 114 ls (.int y :: .int x :: st) σ τ = mj_E 81 115 ls (.int (x <<< (y &&& 31)) :: st) σ τ := mj_nx i81_114 rfl
theorem i81_115 : mj_ins 81 115 = some (.ior, 116) := by decide +kernel
theorem e81_115 {ls : mj_L} {st : List Value} {σ : mj_S} {τ : mj_T} {x y : Int32} : mj_E 81 115 ls (.int y :: .int x :: st) σ τ = mj_E 81 116 ls (.int (x ||| y) :: st) σ τ := mj_nx i81_115 rfl
theorem i81_116 : mj_ins 81 116 = some (.iconst (1), 117) := by decide +kernel
theorem e81_116 {ls : mj_L} {st : List Value} {σ : mj_S} {τ : mj_T} : mj_E 81 116 ls st σ τ = mj_E 81 117 ls (.int (nI 1) :: st) σ τ := mj_nx i81_116 rfl
theorem i81_117 : mj_ins 81 117 = some (.iload 5, 119) := by decide +kernel
theorem e81_117 {ls : mj_L} {st : List Value} {σ : mj_S} {τ : mj_T} {a0 a1 a2 a3 a4 : Option Value} {v : Int32} : mj_E 81 117 (a0 :: a1 :: a2 :: a3 :: a4 :: some (.int v) :: ls) st σ τ = mj_E 81 119 (a0 :: a1 :: a2 :: a3 :: a4 :: some (.int v) :: ls) (.int v :: st) σ τ := mj_nx i81_117 rfl
theorem i81_119 : mj_ins 81 119 = some (.ishl, 120) := by decide +kernel
theorem e81_119 {ls : mj_L} {st : List Value} {σ : mj_S} {τ : mj_T} {x y : Int32} : mj_E 81 119 ls (.int y :: .int x :: st) σ τ = mj_E 81 120 ls (.int (x <<< (y &&& 31)) :: st) σ τ := mj_nx i81_119 rfl
theorem i81_120 : mj_ins 81 120 = some (.ior, 121) := by decide +kernel
theorem e81_120 {ls : mj_L} {st : List Value} {σ : mj_S} {τ : mj_T} {x y : Int32} : mj_E 81 120 ls (.int y :: .int x :: st) σ τ = mj_E 81 121 ls (.int (x ||| y) :: st) σ τ := mj_nx i81_120 rfl
theorem i81_121 : mj_ins 81 121 = some (.invokevirtual 12, 124) := by decide +kernel
theorem e81_121 {ls : mj_L} {σ : mj_S} {τ : mj_T} {r : Nat} {x0 : Int32} {x1 : Int32} {x2 : Int32} : mj_E 81 121 ls [.int x2, .int x1, .int x0, .ref r] σ τ = if mj_rcv r 1 = true then mj_bd (mj_C 12 [.ref r, .int x0, .int x1, .int x2] σ τ) (mj_K 81 124 ls []) else none := mj_clV (as := [.int x0, .int x1, .int x2]) (r := []) i81_121 (by decide +kernel : mj_vk 81 12 3 0 4 false = true) (by decide +kernel)
theorem i81_124 : mj_ins 81 124 = some (.ireturn, 125) := by decide +kernel
theorem e81_124 {ls : mj_L} {σ : mj_S} {τ : mj_T} {v : Int32} : mj_E 81 124 ls [.int v] σ τ = some (some (.int v), σ, τ) := mj_irt i81_124 rfl
theorem c82 {σ : mj_S} {τ : mj_T} {r : Nat} {x0 : Int32} : mj_C 82 [.ref r, .int x0] σ τ = mj_E 82 0 [some (.ref r), some (.int x0), none] [] σ τ := rfl
theorem i82_0 : mj_ins 82 0 = some (.iload 1, 1) := by decide +kernel
theorem e82_0 {ls : mj_L} {st : List Value} {σ : mj_S} {τ : mj_T} {a0 : Option Value} {v : Int32} : mj_E 82 0 (a0 :: some (.int v) :: ls) st σ τ = mj_E 82 1 (a0 :: some (.int v) :: ls) (.int v :: st) σ τ := mj_nx i82_0 rfl
theorem i82_1 : mj_ins 82 1 = some (.iconst (9), 3) := by decide +kernel
theorem e82_1 {ls : mj_L} {st : List Value} {σ : mj_S} {τ : mj_T} : mj_E 82 1 ls st σ τ = mj_E 82 3 ls (.int (nI 9) :: st) σ τ := mj_nx i82_1 rfl
theorem i82_3 : mj_ins 82 3 = some (.invokestatic 116, 6) := by decide +kernel
theorem e82_3 {ls : mj_L} {σ : mj_S} {τ : mj_T} {x0 : Int32} {x1 : Int32} : mj_E 82 3 ls [.int x1, .int x0] σ τ = mj_bd (mj_C 116 [.int x0, .int x1] σ τ) (mj_K 82 6 ls []) := mj_clS (as := [.int x0, .int x1]) (r := []) i82_3 (by decide +kernel : mj_vk 82 116 2 0 2 false = true) rfl
theorem i82_6 : mj_ins 82 6 = some (.ifCond .ne 16, 9) := by decide +kernel
theorem e82_6 {ls : mj_L} {st : List Value} {σ : mj_S} {τ : mj_T} {x : Int32} : mj_E 82 6 ls (.int x :: st) σ τ = if x = 0 then mj_E 82 9 ls st σ τ else mj_E 82 16 ls st σ τ := (mj_ifc i82_6).trans (mj_cdF rfl)
theorem i82_9 : mj_ins 82 9 = some (.aload 0, 10) := by decide +kernel
theorem e82_9 {ls : mj_L} {st : List Value} {σ : mj_S} {τ : mj_T} {v : Nat} : mj_E 82 9 (some (.ref v) :: ls) st σ τ = mj_E 82 10 (some (.ref v) :: ls) (.ref v :: st) σ τ := mj_nx i82_9 rfl
theorem i82_10 : mj_ins 82 10 = some (.iconst (-6), 12) := by decide +kernel
theorem e82_10 {ls : mj_L} {st : List Value} {σ : mj_S} {τ : mj_T} : mj_E 82 10 ls st σ τ = mj_E 82 12 ls (.int ((-6)) :: st) σ τ := mj_nx i82_10 rfl
theorem i82_12 : mj_ins 82 12 = some (.invokevirtual 112, 15) := by decide +kernel
theorem e82_12 {ls : mj_L} {σ : mj_S} {τ : mj_T} {r : Nat} {x0 : Int32} : mj_E 82 12 ls [.int x0, .ref r] σ τ = if mj_rcv r 6 = true then mj_bd (mj_C 112 [.ref r, .int x0] σ τ) (mj_K 82 15 ls []) else none := mj_clV (as := [.int x0]) (r := []) i82_12 (by decide +kernel : mj_vk 82 112 1 0 2 false = true) (by decide +kernel)
theorem i82_15 : mj_ins 82 15 = some (.ireturn, 16) := by decide +kernel
theorem e82_15 {ls : mj_L} {σ : mj_S} {τ : mj_T} {v : Int32} : mj_E 82 15 ls [.int v] σ τ = some (some (.int v), σ, τ) := mj_irt i82_15 rfl
theorem i82_16 : mj_ins 82 16 = some (.aload 0, 17) := by decide +kernel
theorem e82_16 {ls : mj_L} {st : List Value} {σ : mj_S} {τ : mj_T} {v : Nat} : mj_E 82 16 (some (.ref v) :: ls) st σ τ = mj_E 82 17 (some (.ref v) :: ls) (.ref v :: st) σ τ := mj_nx i82_16 rfl
theorem i82_17 : mj_ins 82 17 = some (.getfield 600, 20) := by decide +kernel
theorem e82_17 {ls : mj_L} {st : List Value} {σ : mj_S} {τ : mj_T} : mj_E 82 17 ls (.ref 0 :: st) σ τ = mj_E 82 20 ls (.ref 1 :: st) σ τ := mj_nx i82_17 rfl
theorem i82_20 : mj_ins 82 20 = some (.getfield 102, 23) := by decide +kernel
theorem e82_20 {ls : mj_L} {st : List Value} {σ : mj_S} {τ : mj_T} {k : Nat} (h1 : 1 ≤ k) (h2 : k ≤ 3) : mj_E 82 20 ls (.ref k :: st) σ τ = mj_E 82 23 ls (.int (σ k 2) :: st) σ τ := (mj_gf i82_20).trans (congrArg (fun z => mj_ov z _) (fv1_2 h1 h2))
theorem i82_23 : mj_ins 82 23 = some (.istore 2, 24) := by decide +kernel
theorem e82_23 {ls : mj_L} {st : List Value} {σ : mj_S} {τ : mj_T} {a0 a1 a2 : Option Value} {v : Int32} : mj_E 82 23 (a0 :: a1 :: a2 :: ls) (.int v :: st) σ τ = mj_E 82 24 (a0 :: a1 :: some (.int v) :: ls) st σ τ := mj_nx i82_23 rfl
theorem i82_24 : mj_ins 82 24 = some (.aload 0, 25) := by decide +kernel
theorem e82_24 {ls : mj_L} {st : List Value} {σ : mj_S} {τ : mj_T} {v : Nat} : mj_E 82 24 (some (.ref v) :: ls) st σ τ = mj_E 82 25 (some (.ref v) :: ls) (.ref v :: st) σ τ := mj_nx i82_24 rfl
theorem i82_25 : mj_ins 82 25 = some (.getfield 600, 28) := by decide +kernel
theorem e82_25 {ls : mj_L} {st : List Value} {σ : mj_S} {τ : mj_T} : mj_E 82 25 ls (.ref 0 :: st) σ τ = mj_E 82 28 ls (.ref 1 :: st) σ τ := mj_nx i82_25 rfl
theorem i82_28 : mj_ins 82 28 = some (.iload 1, 29) := by decide +kernel
theorem e82_28 {ls : mj_L} {st : List Value} {σ : mj_S} {τ : mj_T} {a0 : Option Value} {v : Int32} : mj_E 82 28 (a0 :: some (.int v) :: ls) st σ τ = mj_E 82 29 (a0 :: some (.int v) :: ls) (.int v :: st) σ τ := mj_nx i82_28 rfl
theorem i82_29 : mj_ins 82 29 = some (.putfield 102, 32) := by decide +kernel
theorem e82_29 {ls : mj_L} {st : List Value} {σ : mj_S} {τ : mj_T} {k : Nat} (h1 : 1 ≤ k) (h2 : k ≤ 3) {v : Int32} : mj_E 82 29 ls (.int v :: .ref k :: st) σ τ = mj_E 82 32 ls st (mj_up σ k 2 v) τ := (mj_pf i82_29 rfl).trans (if_pos (fw1_2 h1 h2))
theorem i82_32 : mj_ins 82 32 = some (.iload 2, 33) := by decide +kernel
theorem e82_32 {ls : mj_L} {st : List Value} {σ : mj_S} {τ : mj_T} {a0 a1 : Option Value} {v : Int32} : mj_E 82 32 (a0 :: a1 :: some (.int v) :: ls) st σ τ = mj_E 82 33 (a0 :: a1 :: some (.int v) :: ls) (.int v :: st) σ τ := mj_nx i82_32 rfl
theorem i82_33 : mj_ins 82 33 = some (.ireturn, 34) := by decide +kernel
theorem e82_33 {ls : mj_L} {σ : mj_S} {τ : mj_T} {v : Int32} : mj_E 82 33 ls [.int v] σ τ = some (some (.int v), σ, τ) := mj_irt i82_33 rfl
theorem c83 {σ : mj_S} {τ : mj_T} {r : Nat} {x0 : Int32} {x1 : Int32} : mj_C 83 [.ref r, .int x0, .int x1] σ τ = mj_E 83 0 [some (.ref r), some (.int x0), some (.int x1), none] [] σ τ := rfl
theorem i83_0 : mj_ins 83 0 = some (.aload 0, 1) := by decide +kernel
theorem e83_0 {ls : mj_L} {st : List Value} {σ : mj_S} {τ : mj_T} {v : Nat} : mj_E 83 0 (some (.ref v) :: ls) st σ τ = mj_E 83 1 (some (.ref v) :: ls) (.ref v :: st) σ τ := mj_nx i83_0 rfl
theorem i83_1 : mj_ins 83 1 = some (.getfield 600, 4) := by decide +kernel
theorem e83_1 {ls : mj_L} {st : List Value} {σ : mj_S} {τ : mj_T} : mj_E 83 1 ls (.ref 0 :: st) σ τ = mj_E 83 4 ls (.ref 1 :: st) σ τ := mj_nx i83_1 rfl
theorem i83_4 : mj_ins 83 4 = some (.iload 1, 5) := by decide +kernel
theorem e83_4 {ls : mj_L} {st : List Value} {σ : mj_S} {τ : mj_T} {a0 : Option Value} {v : Int32} : mj_E 83 4 (a0 :: some (.int v) :: ls) st σ τ = mj_E 83 5 (a0 :: some (.int v) :: ls) (.int v :: st) σ τ := mj_nx i83_4 rfl
theorem i83_5 : mj_ins 83 5 = some (.invokevirtual 8, 8) := by decide +kernel
theorem e83_5 {ls : mj_L} {σ : mj_S} {τ : mj_T} {r : Nat} {x0 : Int32} : mj_E 83 5 ls [.int x0, .ref r] σ τ = if mj_rcv r 1 = true then mj_bd (mj_C 8 [.ref r, .int x0] σ τ) (mj_K 83 8 ls []) else none := mj_clV (as := [.int x0]) (r := []) i83_5 (by decide +kernel : mj_vk 83 8 1 0 2 false = true) (by decide +kernel)
theorem i83_8 : mj_ins 83 8 = some (.ifCond .ne 17, 11) := by decide +kernel
theorem e83_8 {ls : mj_L} {st : List Value} {σ : mj_S} {τ : mj_T} {x : Int32} : mj_E 83 8 ls (.int x :: st) σ τ = if x = 0 then mj_E 83 11 ls st σ τ else mj_E 83 17 ls st σ τ := (mj_ifc i83_8).trans (mj_cdF rfl)
theorem i83_11 : mj_ins 83 11 = some (.aload 0, 12) := by decide +kernel
theorem e83_11 {ls : mj_L} {st : List Value} {σ : mj_S} {τ : mj_T} {v : Nat} : mj_E 83 11 (some (.ref v) :: ls) st σ τ = mj_E 83 12 (some (.ref v) :: ls) (.ref v :: st) σ τ := mj_nx i83_11 rfl
theorem i83_12 : mj_ins 83 12 = some (.iconst (-1), 13) := by decide +kernel
theorem e83_12 {ls : mj_L} {st : List Value} {σ : mj_S} {τ : mj_T} : mj_E 83 12 ls st σ τ = mj_E 83 13 ls (.int ((-1)) :: st) σ τ := mj_nx i83_12 rfl
theorem i83_13 : mj_ins 83 13 = some (.invokevirtual 112, 16) := by decide +kernel
theorem e83_13 {ls : mj_L} {σ : mj_S} {τ : mj_T} {r : Nat} {x0 : Int32} : mj_E 83 13 ls [.int x0, .ref r] σ τ = if mj_rcv r 6 = true then mj_bd (mj_C 112 [.ref r, .int x0] σ τ) (mj_K 83 16 ls []) else none := mj_clV (as := [.int x0]) (r := []) i83_13 (by decide +kernel : mj_vk 83 112 1 0 2 false = true) (by decide +kernel)
theorem i83_16 : mj_ins 83 16 = some (.ireturn, 17) := by decide +kernel
theorem e83_16 {ls : mj_L} {σ : mj_S} {τ : mj_T} {v : Int32} : mj_E 83 16 ls [.int v] σ τ = some (some (.int v), σ, τ) := mj_irt i83_16 rfl
theorem i83_17 : mj_ins 83 17 = some (.iload 2, 18) := by decide +kernel
theorem e83_17 {ls : mj_L} {st : List Value} {σ : mj_S} {τ : mj_T} {a0 a1 : Option Value} {v : Int32} : mj_E 83 17 (a0 :: a1 :: some (.int v) :: ls) st σ τ = mj_E 83 18 (a0 :: a1 :: some (.int v) :: ls) (.int v :: st) σ τ := mj_nx i83_17 rfl
theorem i83_18 : mj_ins 83 18 = some (.iconst (30), 20) := by decide +kernel
theorem e83_18 {ls : mj_L} {st : List Value} {σ : mj_S} {τ : mj_T} : mj_E 83 18 ls st σ τ = mj_E 83 20 ls (.int (nI 30) :: st) σ τ := mj_nx i83_18 rfl
theorem i83_20 : mj_ins 83 20 = some (.invokestatic 116, 23) := by decide +kernel
theorem e83_20 {ls : mj_L} {σ : mj_S} {τ : mj_T} {x0 : Int32} {x1 : Int32} : mj_E 83 20 ls [.int x1, .int x0] σ τ = mj_bd (mj_C 116 [.int x0, .int x1] σ τ) (mj_K 83 23 ls []) := mj_clS (as := [.int x0, .int x1]) (r := []) i83_20 (by decide +kernel : mj_vk 83 116 2 0 2 false = true) rfl
theorem i83_23 : mj_ins 83 23 = some (.ifCond .ne 33, 26) := by decide +kernel
theorem e83_23 {ls : mj_L} {st : List Value} {σ : mj_S} {τ : mj_T} {x : Int32} : mj_E 83 23 ls (.int x :: st) σ τ = if x = 0 then mj_E 83 26 ls st σ τ else mj_E 83 33 ls st σ τ := (mj_ifc i83_23).trans (mj_cdF rfl)
theorem i83_26 : mj_ins 83 26 = some (.aload 0, 27) := by decide +kernel
theorem e83_26 {ls : mj_L} {st : List Value} {σ : mj_S} {τ : mj_T} {v : Nat} : mj_E 83 26 (some (.ref v) :: ls) st σ τ = mj_E 83 27 (some (.ref v) :: ls) (.ref v :: st) σ τ := mj_nx i83_26 rfl
theorem i83_27 : mj_ins 83 27 = some (.iconst (-6), 29) := by decide +kernel
theorem e83_27 {ls : mj_L} {st : List Value} {σ : mj_S} {τ : mj_T} : mj_E 83 27 ls st σ τ = mj_E 83 29 ls (.int ((-6)) :: st) σ τ := mj_nx i83_27 rfl
theorem i83_29 : mj_ins 83 29 = some (.invokevirtual 112, 32) := by decide +kernel
theorem e83_29 {ls : mj_L} {σ : mj_S} {τ : mj_T} {r : Nat} {x0 : Int32} : mj_E 83 29 ls [.int x0, .ref r] σ τ = if mj_rcv r 6 = true then mj_bd (mj_C 112 [.ref r, .int x0] σ τ) (mj_K 83 32 ls []) else none := mj_clV (as := [.int x0]) (r := []) i83_29 (by decide +kernel : mj_vk 83 112 1 0 2 false = true) (by decide +kernel)
theorem i83_32 : mj_ins 83 32 = some (.ireturn, 33) := by decide +kernel
theorem e83_32 {ls : mj_L} {σ : mj_S} {τ : mj_T} {v : Int32} : mj_E 83 32 ls [.int v] σ τ = some (some (.int v), σ, τ) := mj_irt i83_32 rfl
theorem i83_33 : mj_ins 83 33 = some (.aload 0, 34) := by decide +kernel
theorem e83_33 {ls : mj_L} {st : List Value} {σ : mj_S} {τ : mj_T} {v : Nat} : mj_E 83 33 (some (.ref v) :: ls) st σ τ = mj_E 83 34 (some (.ref v) :: ls) (.ref v :: st) σ τ := mj_nx i83_33 rfl
theorem i83_34 : mj_ins 83 34 = some (.getfield 600, 37) := by decide +kernel
theorem e83_34 {ls : mj_L} {st : List Value} {σ : mj_S} {τ : mj_T} : mj_E 83 34 ls (.ref 0 :: st) σ τ = mj_E 83 37 ls (.ref 1 :: st) σ τ := mj_nx i83_34 rfl
theorem i83_37 : mj_ins 83 37 = some (.getfield 112, 40) := by decide +kernel
theorem e83_37 {ls : mj_L} {st : List Value} {σ : mj_S} {τ : mj_T} {k : Nat} (h1 : 1 ≤ k) (h2 : k ≤ 3) : mj_E 83 37 ls (.ref k :: st) σ τ = mj_E 83 40 ls (.ref (10 * k + 7) :: st) σ τ := (mj_gf i83_37).trans (congrArg (fun z => mj_ov z _) (fv1_12 h1 h2))
theorem i83_40 : mj_ins 83 40 = some (.iload 1, 41) := by decide +kernel
theorem e83_40 {ls : mj_L} {st : List Value} {σ : mj_S} {τ : mj_T} {a0 : Option Value} {v : Int32} : mj_E 83 40 (a0 :: some (.int v) :: ls) st σ τ = mj_E 83 41 (a0 :: some (.int v) :: ls) (.int v :: st) σ τ := mj_nx i83_40 rfl
theorem i83_41 : mj_ins 83 41 = some (.iaload, 42) := by decide +kernel
theorem e83_41 {ls : mj_L} {st : List Value} {σ : mj_S} {τ : mj_T} {x : Int32} {k : Nat} : mj_E 83 41 ls (.int x :: .ref k :: st) σ τ = if mj_ib (mj_li σ k) x = true then mj_E 83 42 ls (.int (σ k x.toNatClampNeg) :: st) σ τ else none := mj_ald i83_41
theorem i83_42 : mj_ins 83 42 = some (.istore 3, 43) := by decide +kernel
theorem e83_42 {ls : mj_L} {st : List Value} {σ : mj_S} {τ : mj_T} {a0 a1 a2 a3 : Option Value} {v : Int32} : mj_E 83 42 (a0 :: a1 :: a2 :: a3 :: ls) (.int v :: st) σ τ = mj_E 83 43 (a0 :: a1 :: a2 :: some (.int v) :: ls) st σ τ := mj_nx i83_42 rfl
theorem i83_43 : mj_ins 83 43 = some (.aload 0, 44) := by decide +kernel
theorem e83_43 {ls : mj_L} {st : List Value} {σ : mj_S} {τ : mj_T} {v : Nat} : mj_E 83 43 (some (.ref v) :: ls) st σ τ = mj_E 83 44 (some (.ref v) :: ls) (.ref v :: st) σ τ := mj_nx i83_43 rfl
theorem i83_44 : mj_ins 83 44 = some (.getfield 600, 47) := by decide +kernel
theorem e83_44 {ls : mj_L} {st : List Value} {σ : mj_S} {τ : mj_T} : mj_E 83 44 ls (.ref 0 :: st) σ τ = mj_E 83 47 ls (.ref 1 :: st) σ τ := mj_nx i83_44 rfl
theorem i83_47 : mj_ins 83 47 = some (.getfield 112, 50) := by decide +kernel
theorem e83_47 {ls : mj_L} {st : List Value} {σ : mj_S} {τ : mj_T} {k : Nat} (h1 : 1 ≤ k) (h2 : k ≤ 3) : mj_E 83 47 ls (.ref k :: st) σ τ = mj_E 83 50 ls (.ref (10 * k + 7) :: st) σ τ := (mj_gf i83_47).trans (congrArg (fun z => mj_ov z _) (fv1_12 h1 h2))
theorem i83_50 : mj_ins 83 50 = some (.iload 1, 51) := by decide +kernel
theorem e83_50 {ls : mj_L} {st : List Value} {σ : mj_S} {τ : mj_T} {a0 : Option Value} {v : Int32} : mj_E 83 50 (a0 :: some (.int v) :: ls) st σ τ = mj_E 83 51 (a0 :: some (.int v) :: ls) (.int v :: st) σ τ := mj_nx i83_50 rfl
theorem i83_51 : mj_ins 83 51 = some (.iload 2, 52) := by decide +kernel
theorem e83_51 {ls : mj_L} {st : List Value} {σ : mj_S} {τ : mj_T} {a0 a1 : Option Value} {v : Int32} : mj_E 83 51 (a0 :: a1 :: some (.int v) :: ls) st σ τ = mj_E 83 52 (a0 :: a1 :: some (.int v) :: ls) (.int v :: st) σ τ := mj_nx i83_51 rfl
theorem i83_52 : mj_ins 83 52 = some (.iastore, 53) := by decide +kernel
theorem e83_52 {ls : mj_L} {st : List Value} {σ : mj_S} {τ : mj_T} {x v : Int32} {k : Nat} : mj_E 83 52 ls (.int v :: .int x :: .ref k :: st) σ τ = if mj_ib (mj_lw k) x = true then mj_E 83 53 ls st (mj_up σ k x.toNatClampNeg v) τ else none := mj_ast i83_52
theorem i83_53 : mj_ins 83 53 = some (.iload 3, 54) := by decide +kernel
theorem e83_53 {ls : mj_L} {st : List Value} {σ : mj_S} {τ : mj_T} {a0 a1 a2 : Option Value} {v : Int32} : mj_E 83 53 (a0 :: a1 :: a2 :: some (.int v) :: ls) st σ τ = mj_E 83 54 (a0 :: a1 :: a2 :: some (.int v) :: ls) (.int v :: st) σ τ := mj_nx i83_53 rfl
theorem i83_54 : mj_ins 83 54 = some (.ireturn, 55) := by decide +kernel
theorem e83_54 {ls : mj_L} {σ : mj_S} {τ : mj_T} {v : Int32} : mj_E 83 54 ls [.int v] σ τ = some (some (.int v), σ, τ) := mj_irt i83_54 rfl
theorem c84 {σ : mj_S} {τ : mj_T} {r : Nat} {x0 : Int32} {x1 : Int32} {x2 : Int32} : mj_C 84 [.ref r, .int x0, .int x1, .int x2] σ τ = mj_E 84 0 [some (.ref r), some (.int x0), some (.int x1), some (.int x2)] [] σ τ := rfl
theorem i84_0 : mj_ins 84 0 = some (.aload 0, 1) := by decide +kernel
theorem e84_0 {ls : mj_L} {st : List Value} {σ : mj_S} {τ : mj_T} {v : Nat} : mj_E 84 0 (some (.ref v) :: ls) st σ τ = mj_E 84 1 (some (.ref v) :: ls) (.ref v :: st) σ τ := mj_nx i84_0 rfl
theorem i84_1 : mj_ins 84 1 = some (.getfield 600, 4) := by decide +kernel
theorem e84_1 {ls : mj_L} {st : List Value} {σ : mj_S} {τ : mj_T} : mj_E 84 1 ls (.ref 0 :: st) σ τ = mj_E 84 4 ls (.ref 1 :: st) σ τ := mj_nx i84_1 rfl
theorem i84_4 : mj_ins 84 4 = some (.iload 1, 5) := by decide +kernel
theorem e84_4 {ls : mj_L} {st : List Value} {σ : mj_S} {τ : mj_T} {a0 : Option Value} {v : Int32} : mj_E 84 4 (a0 :: some (.int v) :: ls) st σ τ = mj_E 84 5 (a0 :: some (.int v) :: ls) (.int v :: st) σ τ := mj_nx i84_4 rfl
theorem i84_5 : mj_ins 84 5 = some (.invokevirtual 8, 8) := by decide +kernel
theorem e84_5 {ls : mj_L} {σ : mj_S} {τ : mj_T} {r : Nat} {x0 : Int32} : mj_E 84 5 ls [.int x0, .ref r] σ τ = if mj_rcv r 1 = true then mj_bd (mj_C 8 [.ref r, .int x0] σ τ) (mj_K 84 8 ls []) else none := mj_clV (as := [.int x0]) (r := []) i84_5 (by decide +kernel : mj_vk 84 8 1 0 2 false = true) (by decide +kernel)
theorem i84_8 : mj_ins 84 8 = some (.ifCond .eq 22, 11) := by decide +kernel
theorem e84_8 {ls : mj_L} {st : List Value} {σ : mj_S} {τ : mj_T} {x : Int32} : mj_E 84 8 ls (.int x :: st) σ τ = if x = 0 then mj_E 84 22 ls st σ τ else mj_E 84 11 ls st σ τ := (mj_ifc i84_8).trans (mj_cdT rfl)
theorem i84_11 : mj_ins 84 11 = some (.aload 0, 12) := by decide +kernel
theorem e84_11 {ls : mj_L} {st : List Value} {σ : mj_S} {τ : mj_T} {v : Nat} : mj_E 84 11 (some (.ref v) :: ls) st σ τ = mj_E 84 12 (some (.ref v) :: ls) (.ref v :: st) σ τ := mj_nx i84_11 rfl
theorem i84_12 : mj_ins 84 12 = some (.getfield 600, 15) := by decide +kernel
theorem e84_12 {ls : mj_L} {st : List Value} {σ : mj_S} {τ : mj_T} : mj_E 84 12 ls (.ref 0 :: st) σ τ = mj_E 84 15 ls (.ref 1 :: st) σ τ := mj_nx i84_12 rfl
theorem i84_15 : mj_ins 84 15 = some (.iload 2, 16) := by decide +kernel
theorem e84_15 {ls : mj_L} {st : List Value} {σ : mj_S} {τ : mj_T} {a0 a1 : Option Value} {v : Int32} : mj_E 84 15 (a0 :: a1 :: some (.int v) :: ls) st σ τ = mj_E 84 16 (a0 :: a1 :: some (.int v) :: ls) (.int v :: st) σ τ := mj_nx i84_15 rfl
theorem i84_16 : mj_ins 84 16 = some (.invokevirtual 7, 19) := by decide +kernel
theorem e84_16 {ls : mj_L} {σ : mj_S} {τ : mj_T} {r : Nat} {x0 : Int32} : mj_E 84 16 ls [.int x0, .ref r] σ τ = if mj_rcv r 1 = true then mj_bd (mj_C 7 [.ref r, .int x0] σ τ) (mj_K 84 19 ls []) else none := mj_clV (as := [.int x0]) (r := []) i84_16 (by decide +kernel : mj_vk 84 7 1 0 2 false = true) (by decide +kernel)
theorem i84_19 : mj_ins 84 19 = some (.ifCond .ne 28, 22) := by decide +kernel
theorem e84_19 {ls : mj_L} {st : List Value} {σ : mj_S} {τ : mj_T} {x : Int32} : mj_E 84 19 ls (.int x :: st) σ τ = if x = 0 then mj_E 84 22 ls st σ τ else mj_E 84 28 ls st σ τ := (mj_ifc i84_19).trans (mj_cdF rfl)
theorem i84_22 : mj_ins 84 22 = some (.aload 0, 23) := by decide +kernel
theorem e84_22 {ls : mj_L} {st : List Value} {σ : mj_S} {τ : mj_T} {v : Nat} : mj_E 84 22 (some (.ref v) :: ls) st σ τ = mj_E 84 23 (some (.ref v) :: ls) (.ref v :: st) σ τ := mj_nx i84_22 rfl
theorem i84_23 : mj_ins 84 23 = some (.iconst (-1), 24) := by decide +kernel
theorem e84_23 {ls : mj_L} {st : List Value} {σ : mj_S} {τ : mj_T} : mj_E 84 23 ls st σ τ = mj_E 84 24 ls (.int ((-1)) :: st) σ τ := mj_nx i84_23 rfl
theorem i84_24 : mj_ins 84 24 = some (.invokevirtual 112, 27) := by decide +kernel
theorem e84_24 {ls : mj_L} {σ : mj_S} {τ : mj_T} {r : Nat} {x0 : Int32} : mj_E 84 24 ls [.int x0, .ref r] σ τ = if mj_rcv r 6 = true then mj_bd (mj_C 112 [.ref r, .int x0] σ τ) (mj_K 84 27 ls []) else none := mj_clV (as := [.int x0]) (r := []) i84_24 (by decide +kernel : mj_vk 84 112 1 0 2 false = true) (by decide +kernel)
theorem i84_27 : mj_ins 84 27 = some (.ireturn, 28) := by decide +kernel
theorem e84_27 {ls : mj_L} {σ : mj_S} {τ : mj_T} {v : Int32} : mj_E 84 27 ls [.int v] σ τ = some (some (.int v), σ, τ) := mj_irt i84_27 rfl
theorem i84_28 : mj_ins 84 28 = some (.iload 3, 29) := by decide +kernel
theorem e84_28 {ls : mj_L} {st : List Value} {σ : mj_S} {τ : mj_T} {a0 a1 a2 : Option Value} {v : Int32} : mj_E 84 28 (a0 :: a1 :: a2 :: some (.int v) :: ls) st σ τ = mj_E 84 29 (a0 :: a1 :: a2 :: some (.int v) :: ls) (.int v :: st) σ τ := mj_nx i84_28 rfl
theorem i84_29 : mj_ins 84 29 = some (.iconst (20), 31) := by decide +kernel
theorem e84_29 {ls : mj_L} {st : List Value} {σ : mj_S} {τ : mj_T} : mj_E 84 29 ls st σ τ = mj_E 84 31 ls (.int (nI 20) :: st) σ τ := mj_nx i84_29 rfl
theorem i84_31 : mj_ins 84 31 = some (.invokestatic 116, 34) := by decide +kernel
theorem e84_31 {ls : mj_L} {σ : mj_S} {τ : mj_T} {x0 : Int32} {x1 : Int32} : mj_E 84 31 ls [.int x1, .int x0] σ τ = mj_bd (mj_C 116 [.int x0, .int x1] σ τ) (mj_K 84 34 ls []) := mj_clS (as := [.int x0, .int x1]) (r := []) i84_31 (by decide +kernel : mj_vk 84 116 2 0 2 false = true) rfl
theorem i84_34 : mj_ins 84 34 = some (.ifCond .eq 48, 37) := by decide +kernel
theorem e84_34 {ls : mj_L} {st : List Value} {σ : mj_S} {τ : mj_T} {x : Int32} : mj_E 84 34 ls (.int x :: st) σ τ = if x = 0 then mj_E 84 48 ls st σ τ else mj_E 84 37 ls st σ τ := (mj_ifc i84_34).trans (mj_cdT rfl)
theorem i84_37 : mj_ins 84 37 = some (.aload 0, 38) := by decide +kernel
theorem e84_37 {ls : mj_L} {st : List Value} {σ : mj_S} {τ : mj_T} {v : Nat} : mj_E 84 37 (some (.ref v) :: ls) st σ τ = mj_E 84 38 (some (.ref v) :: ls) (.ref v :: st) σ τ := mj_nx i84_37 rfl
theorem i84_38 : mj_ins 84 38 = some (.getfield 600, 41) := by decide +kernel
theorem e84_38 {ls : mj_L} {st : List Value} {σ : mj_S} {τ : mj_T} : mj_E 84 38 ls (.ref 0 :: st) σ τ = mj_E 84 41 ls (.ref 1 :: st) σ τ := mj_nx i84_38 rfl
theorem i84_41 : mj_ins 84 41 = some (.iload 2, 42) := by decide +kernel
theorem e84_41 {ls : mj_L} {st : List Value} {σ : mj_S} {τ : mj_T} {a0 a1 : Option Value} {v : Int32} : mj_E 84 41 (a0 :: a1 :: some (.int v) :: ls) st σ τ = mj_E 84 42 (a0 :: a1 :: some (.int v) :: ls) (.int v :: st) σ τ := mj_nx i84_41 rfl
theorem i84_42 : mj_ins 84 42 = some (.invokevirtual 13, 45) := by decide +kernel
theorem e84_42 {ls : mj_L} {σ : mj_S} {τ : mj_T} {r : Nat} {x0 : Int32} : mj_E 84 42 ls [.int x0, .ref r] σ τ = if mj_rcv r 1 = true then mj_bd (mj_C 13 [.ref r, .int x0] σ τ) (mj_K 84 45 ls []) else none := mj_clV (as := [.int x0]) (r := []) i84_42 (by decide +kernel : mj_vk 84 13 1 0 2 false = true) (by decide +kernel)
theorem i84_45 : mj_ins 84 45 = some (.ifCond .eq 55, 48) := by decide +kernel
theorem e84_45 {ls : mj_L} {st : List Value} {σ : mj_S} {τ : mj_T} {x : Int32} : mj_E 84 45 ls (.int x :: st) σ τ = if x = 0 then mj_E 84 55 ls st σ τ else mj_E 84 48 ls st σ τ := (mj_ifc i84_45).trans (mj_cdT rfl)
theorem i84_48 : mj_ins 84 48 = some (.aload 0, 49) := by decide +kernel
theorem e84_48 {ls : mj_L} {st : List Value} {σ : mj_S} {τ : mj_T} {v : Nat} : mj_E 84 48 (some (.ref v) :: ls) st σ τ = mj_E 84 49 (some (.ref v) :: ls) (.ref v :: st) σ τ := mj_nx i84_48 rfl
theorem i84_49 : mj_ins 84 49 = some (.iconst (-6), 51) := by decide +kernel
theorem e84_49 {ls : mj_L} {st : List Value} {σ : mj_S} {τ : mj_T} : mj_E 84 49 ls st σ τ = mj_E 84 51 ls (.int ((-6)) :: st) σ τ := mj_nx i84_49 rfl
theorem i84_51 : mj_ins 84 51 = some (.invokevirtual 112, 54) := by decide +kernel
theorem e84_51 {ls : mj_L} {σ : mj_S} {τ : mj_T} {r : Nat} {x0 : Int32} : mj_E 84 51 ls [.int x0, .ref r] σ τ = if mj_rcv r 6 = true then mj_bd (mj_C 112 [.ref r, .int x0] σ τ) (mj_K 84 54 ls []) else none := mj_clV (as := [.int x0]) (r := []) i84_51 (by decide +kernel : mj_vk 84 112 1 0 2 false = true) (by decide +kernel)
theorem i84_54 : mj_ins 84 54 = some (.ireturn, 55) := by decide +kernel
theorem e84_54 {ls : mj_L} {σ : mj_S} {τ : mj_T} {v : Int32} : mj_E 84 54 ls [.int v] σ τ = some (some (.int v), σ, τ) := mj_irt i84_54 rfl
theorem i84_55 : mj_ins 84 55 = some (.aload 0, 56) := by decide +kernel
theorem e84_55 {ls : mj_L} {st : List Value} {σ : mj_S} {τ : mj_T} {v : Nat} : mj_E 84 55 (some (.ref v) :: ls) st σ τ = mj_E 84 56 (some (.ref v) :: ls) (.ref v :: st) σ τ := mj_nx i84_55 rfl
theorem i84_56 : mj_ins 84 56 = some (.getfield 600, 59) := by decide +kernel
theorem e84_56 {ls : mj_L} {st : List Value} {σ : mj_S} {τ : mj_T} : mj_E 84 56 ls (.ref 0 :: st) σ τ = mj_E 84 59 ls (.ref 1 :: st) σ τ := mj_nx i84_56 rfl
theorem i84_59 : mj_ins 84 59 = some (.iload 1, 60) := by decide +kernel
theorem e84_59 {ls : mj_L} {st : List Value} {σ : mj_S} {τ : mj_T} {a0 : Option Value} {v : Int32} : mj_E 84 59 (a0 :: some (.int v) :: ls) st σ τ = mj_E 84 60 (a0 :: some (.int v) :: ls) (.int v :: st) σ τ := mj_nx i84_59 rfl
theorem i84_60 : mj_ins 84 60 = some (.iload 2, 61) := by decide +kernel
theorem e84_60 {ls : mj_L} {st : List Value} {σ : mj_S} {τ : mj_T} {a0 a1 : Option Value} {v : Int32} : mj_E 84 60 (a0 :: a1 :: some (.int v) :: ls) st σ τ = mj_E 84 61 (a0 :: a1 :: some (.int v) :: ls) (.int v :: st) σ τ := mj_nx i84_60 rfl
theorem i84_61 : mj_ins 84 61 = some (.iload 3, 62) := by decide +kernel
theorem e84_61 {ls : mj_L} {st : List Value} {σ : mj_S} {τ : mj_T} {a0 a1 a2 : Option Value} {v : Int32} : mj_E 84 61 (a0 :: a1 :: a2 :: some (.int v) :: ls) st σ τ = mj_E 84 62 (a0 :: a1 :: a2 :: some (.int v) :: ls) (.int v :: st) σ τ := mj_nx i84_61 rfl
theorem i84_62 : mj_ins 84 62 = some (.invokevirtual 20, 65) := by decide +kernel
theorem e84_62 {ls : mj_L} {σ : mj_S} {τ : mj_T} {r : Nat} {x0 : Int32} {x1 : Int32} {x2 : Int32} : mj_E 84 62 ls [.int x2, .int x1, .int x0, .ref r] σ τ = if mj_rcv r 1 = true then mj_bd (mj_C 20 [.ref r, .int x0, .int x1, .int x2] σ τ) (mj_K 84 65 ls []) else none := mj_clV (as := [.int x0, .int x1, .int x2]) (r := []) i84_62 (by decide +kernel : mj_vk 84 20 3 0 4 false = true) (by decide +kernel)
theorem i84_65 : mj_ins 84 65 = some (.aload 0, 66) := by decide +kernel
theorem e84_65 {ls : mj_L} {st : List Value} {σ : mj_S} {τ : mj_T} {v : Nat} : mj_E 84 65 (some (.ref v) :: ls) st σ τ = mj_E 84 66 (some (.ref v) :: ls) (.ref v :: st) σ τ := mj_nx i84_65 rfl
theorem i84_66 : mj_ins 84 66 = some (.getfield 600, 69) := by decide +kernel
theorem e84_66 {ls : mj_L} {st : List Value} {σ : mj_S} {τ : mj_T} : mj_E 84 66 ls (.ref 0 :: st) σ τ = mj_E 84 69 ls (.ref 1 :: st) σ τ := mj_nx i84_66 rfl
theorem i84_69 : mj_ins 84 69 = some (.iload 1, 70) := by decide +kernel
theorem e84_69 {ls : mj_L} {st : List Value} {σ : mj_S} {τ : mj_T} {a0 : Option Value} {v : Int32} : mj_E 84 69 (a0 :: some (.int v) :: ls) st σ τ = mj_E 84 70 (a0 :: some (.int v) :: ls) (.int v :: st) σ τ := mj_nx i84_69 rfl
theorem i84_70 : mj_ins 84 70 = some (.iload 2, 71) := by decide +kernel
theorem e84_70 {ls : mj_L} {st : List Value} {σ : mj_S} {τ : mj_T} {a0 a1 : Option Value} {v : Int32} : mj_E 84 70 (a0 :: a1 :: some (.int v) :: ls) st σ τ = mj_E 84 71 (a0 :: a1 :: some (.int v) :: ls) (.int v :: st) σ τ := mj_nx i84_70 rfl
theorem i84_71 : mj_ins 84 71 = some (.invokevirtual 18, 74) := by decide +kernel
theorem e84_71 {ls : mj_L} {σ : mj_S} {τ : mj_T} {r : Nat} {x0 : Int32} {x1 : Int32} : mj_E 84 71 ls [.int x1, .int x0, .ref r] σ τ = if mj_rcv r 1 = true then mj_bd (mj_C 18 [.ref r, .int x0, .int x1] σ τ) (mj_K 84 74 ls []) else none := mj_clV (as := [.int x0, .int x1]) (r := []) i84_71 (by decide +kernel : mj_vk 84 18 2 0 3 false = true) (by decide +kernel)
theorem i84_74 : mj_ins 84 74 = some (.ireturn, 75) := by decide +kernel
theorem e84_74 {ls : mj_L} {σ : mj_S} {τ : mj_T} {v : Int32} : mj_E 84 74 ls [.int v] σ τ = some (some (.int v), σ, τ) := mj_irt i84_74 rfl
theorem c85 {σ : mj_S} {τ : mj_T} {r : Nat} {x0 : Int32} {x1 : Int32} : mj_C 85 [.ref r, .int x0, .int x1] σ τ = mj_E 85 0 [some (.ref r), some (.int x0), some (.int x1)] [] σ τ := rfl
theorem i85_0 : mj_ins 85 0 = some (.aload 0, 1) := by decide +kernel
theorem e85_0 {ls : mj_L} {st : List Value} {σ : mj_S} {τ : mj_T} {v : Nat} : mj_E 85 0 (some (.ref v) :: ls) st σ τ = mj_E 85 1 (some (.ref v) :: ls) (.ref v :: st) σ τ := mj_nx i85_0 rfl
theorem i85_1 : mj_ins 85 1 = some (.getfield 600, 4) := by decide +kernel
theorem e85_1 {ls : mj_L} {st : List Value} {σ : mj_S} {τ : mj_T} : mj_E 85 1 ls (.ref 0 :: st) σ τ = mj_E 85 4 ls (.ref 1 :: st) σ τ := mj_nx i85_1 rfl
theorem i85_4 : mj_ins 85 4 = some (.iload 1, 5) := by decide +kernel
theorem e85_4 {ls : mj_L} {st : List Value} {σ : mj_S} {τ : mj_T} {a0 : Option Value} {v : Int32} : mj_E 85 4 (a0 :: some (.int v) :: ls) st σ τ = mj_E 85 5 (a0 :: some (.int v) :: ls) (.int v :: st) σ τ := mj_nx i85_4 rfl
theorem i85_5 : mj_ins 85 5 = some (.invokevirtual 7, 8) := by decide +kernel
theorem e85_5 {ls : mj_L} {σ : mj_S} {τ : mj_T} {r : Nat} {x0 : Int32} : mj_E 85 5 ls [.int x0, .ref r] σ τ = if mj_rcv r 1 = true then mj_bd (mj_C 7 [.ref r, .int x0] σ τ) (mj_K 85 8 ls []) else none := mj_clV (as := [.int x0]) (r := []) i85_5 (by decide +kernel : mj_vk 85 7 1 0 2 false = true) (by decide +kernel)
theorem i85_8 : mj_ins 85 8 = some (.ifCond .ne 18, 11) := by decide +kernel
theorem e85_8 {ls : mj_L} {st : List Value} {σ : mj_S} {τ : mj_T} {x : Int32} : mj_E 85 8 ls (.int x :: st) σ τ = if x = 0 then mj_E 85 11 ls st σ τ else mj_E 85 18 ls st σ τ := (mj_ifc i85_8).trans (mj_cdF rfl)
theorem i85_11 : mj_ins 85 11 = some (.aload 0, 12) := by decide +kernel
theorem e85_11 {ls : mj_L} {st : List Value} {σ : mj_S} {τ : mj_T} {v : Nat} : mj_E 85 11 (some (.ref v) :: ls) st σ τ = mj_E 85 12 (some (.ref v) :: ls) (.ref v :: st) σ τ := mj_nx i85_11 rfl
theorem i85_12 : mj_ins 85 12 = some (.iconst (-5), 14) := by decide +kernel
theorem e85_12 {ls : mj_L} {st : List Value} {σ : mj_S} {τ : mj_T} : mj_E 85 12 ls st σ τ = mj_E 85 14 ls (.int ((-5)) :: st) σ τ := mj_nx i85_12 rfl
theorem i85_14 : mj_ins 85 14 = some (.invokevirtual 112, 17) := by decide +kernel
theorem e85_14 {ls : mj_L} {σ : mj_S} {τ : mj_T} {r : Nat} {x0 : Int32} : mj_E 85 14 ls [.int x0, .ref r] σ τ = if mj_rcv r 6 = true then mj_bd (mj_C 112 [.ref r, .int x0] σ τ) (mj_K 85 17 ls []) else none := mj_clV (as := [.int x0]) (r := []) i85_14 (by decide +kernel : mj_vk 85 112 1 0 2 false = true) (by decide +kernel)
theorem i85_17 : mj_ins 85 17 = some (.ireturn, 18) := by decide +kernel
theorem e85_17 {ls : mj_L} {σ : mj_S} {τ : mj_T} {v : Int32} : mj_E 85 17 ls [.int v] σ τ = some (some (.int v), σ, τ) := mj_irt i85_17 rfl
theorem i85_18 : mj_ins 85 18 = some (.iload 2, 19) := by decide +kernel
theorem e85_18 {ls : mj_L} {st : List Value} {σ : mj_S} {τ : mj_T} {a0 a1 : Option Value} {v : Int32} : mj_E 85 18 (a0 :: a1 :: some (.int v) :: ls) st σ τ = mj_E 85 19 (a0 :: a1 :: some (.int v) :: ls) (.int v :: st) σ τ := mj_nx i85_18 rfl
theorem i85_19 : mj_ins 85 19 = some (.tableswitch 128 (0) (6) #[60, 70, 80, 90, 100, 110, 119], 19) := by decide +kernel
theorem e85_19 {ls : mj_L} {st : List Value} {σ : mj_S} {τ : mj_T} {x : Int32} : mj_E 85 19 ls (.int x :: st) σ τ = if x = nI 0 then mj_E 85 60 ls st σ τ else if x = nI 1 then mj_E 85 70 ls st σ τ else if x = nI 2 then mj_E 85 80 ls st σ τ else if x = nI 3 then mj_E 85 90 ls st σ τ else if x = nI 4 then mj_E 85 100 ls st σ τ else if x = nI 5 then mj_E 85 110 ls st σ τ else if x = nI 6 then mj_E 85 119 ls st σ τ else mj_E 85 128 ls st σ τ := mj_tsw i85_19 (by decide)
theorem i85_60 : mj_ins 85 60 = some (.aload 0, 61) := by decide +kernel
theorem e85_60 {ls : mj_L} {st : List Value} {σ : mj_S} {τ : mj_T} {v : Nat} : mj_E 85 60 (some (.ref v) :: ls) st σ τ = mj_E 85 61 (some (.ref v) :: ls) (.ref v :: st) σ τ := mj_nx i85_60 rfl
theorem i85_61 : mj_ins 85 61 = some (.getfield 600, 64) := by decide +kernel
theorem e85_61 {ls : mj_L} {st : List Value} {σ : mj_S} {τ : mj_T} : mj_E 85 61 ls (.ref 0 :: st) σ τ = mj_E 85 64 ls (.ref 1 :: st) σ τ := mj_nx i85_61 rfl
theorem i85_64 : mj_ins 85 64 = some (.getfield 105, 67) := by decide +kernel
theorem e85_64 {ls : mj_L} {st : List Value} {σ : mj_S} {τ : mj_T} {k : Nat} (h1 : 1 ≤ k) (h2 : k ≤ 3) : mj_E 85 64 ls (.ref k :: st) σ τ = mj_E 85 67 ls (.ref (10 * k + 0) :: st) σ τ := (mj_gf i85_64).trans (congrArg (fun z => mj_ov z _) (fv1_5 h1 h2))
theorem i85_67 : mj_ins 85 67 = some (.iload 1, 68) := by decide +kernel
theorem e85_67 {ls : mj_L} {st : List Value} {σ : mj_S} {τ : mj_T} {a0 : Option Value} {v : Int32} : mj_E 85 67 (a0 :: some (.int v) :: ls) st σ τ = mj_E 85 68 (a0 :: some (.int v) :: ls) (.int v :: st) σ τ := mj_nx i85_67 rfl
theorem i85_68 : mj_ins 85 68 = some (.iaload, 69) := by decide +kernel
theorem e85_68 {ls : mj_L} {st : List Value} {σ : mj_S} {τ : mj_T} {x : Int32} {k : Nat} : mj_E 85 68 ls (.int x :: .ref k :: st) σ τ = if mj_ib (mj_li σ k) x = true then mj_E 85 69 ls (.int (σ k x.toNatClampNeg) :: st) σ τ else none := mj_ald i85_68
theorem i85_69 : mj_ins 85 69 = some (.ireturn, 70) := by decide +kernel
theorem e85_69 {ls : mj_L} {σ : mj_S} {τ : mj_T} {v : Int32} : mj_E 85 69 ls [.int v] σ τ = some (some (.int v), σ, τ) := mj_irt i85_69 rfl
theorem i85_70 : mj_ins 85 70 = some (.aload 0, 71) := by decide +kernel
theorem e85_70 {ls : mj_L} {st : List Value} {σ : mj_S} {τ : mj_T} {v : Nat} : mj_E 85 70 (some (.ref v) :: ls) st σ τ = mj_E 85 71 (some (.ref v) :: ls) (.ref v :: st) σ τ := mj_nx i85_70 rfl
theorem i85_71 : mj_ins 85 71 = some (.getfield 600, 74) := by decide +kernel
theorem e85_71 {ls : mj_L} {st : List Value} {σ : mj_S} {τ : mj_T} : mj_E 85 71 ls (.ref 0 :: st) σ τ = mj_E 85 74 ls (.ref 1 :: st) σ τ := mj_nx i85_71 rfl
theorem i85_74 : mj_ins 85 74 = some (.getfield 106, 77) := by decide +kernel
theorem e85_74 {ls : mj_L} {st : List Value} {σ : mj_S} {τ : mj_T} {k : Nat} (h1 : 1 ≤ k) (h2 : k ≤ 3) : mj_E 85 74 ls (.ref k :: st) σ τ = mj_E 85 77 ls (.ref (10 * k + 1) :: st) σ τ := (mj_gf i85_74).trans (congrArg (fun z => mj_ov z _) (fv1_6 h1 h2))
theorem i85_77 : mj_ins 85 77 = some (.iload 1, 78) := by decide +kernel
theorem e85_77 {ls : mj_L} {st : List Value} {σ : mj_S} {τ : mj_T} {a0 : Option Value} {v : Int32} : mj_E 85 77 (a0 :: some (.int v) :: ls) st σ τ = mj_E 85 78 (a0 :: some (.int v) :: ls) (.int v :: st) σ τ := mj_nx i85_77 rfl
theorem i85_78 : mj_ins 85 78 = some (.iaload, 79) := by decide +kernel
theorem e85_78 {ls : mj_L} {st : List Value} {σ : mj_S} {τ : mj_T} {x : Int32} {k : Nat} : mj_E 85 78 ls (.int x :: .ref k :: st) σ τ = if mj_ib (mj_li σ k) x = true then mj_E 85 79 ls (.int (σ k x.toNatClampNeg) :: st) σ τ else none := mj_ald i85_78
theorem i85_79 : mj_ins 85 79 = some (.ireturn, 80) := by decide +kernel
theorem e85_79 {ls : mj_L} {σ : mj_S} {τ : mj_T} {v : Int32} : mj_E 85 79 ls [.int v] σ τ = some (some (.int v), σ, τ) := mj_irt i85_79 rfl
theorem i85_80 : mj_ins 85 80 = some (.aload 0, 81) := by decide +kernel
theorem e85_80 {ls : mj_L} {st : List Value} {σ : mj_S} {τ : mj_T} {v : Nat} : mj_E 85 80 (some (.ref v) :: ls) st σ τ = mj_E 85 81 (some (.ref v) :: ls) (.ref v :: st) σ τ := mj_nx i85_80 rfl
theorem i85_81 : mj_ins 85 81 = some (.getfield 600, 84) := by decide +kernel
theorem e85_81 {ls : mj_L} {st : List Value} {σ : mj_S} {τ : mj_T} : mj_E 85 81 ls (.ref 0 :: st) σ τ = mj_E 85 84 ls (.ref 1 :: st) σ τ := mj_nx i85_81 rfl
theorem i85_84 : mj_ins 85 84 = some (.getfield 107, 87) := by decide +kernel
theorem e85_84 {ls : mj_L} {st : List Value} {σ : mj_S} {τ : mj_T} {k : Nat} (h1 : 1 ≤ k) (h2 : k ≤ 3) : mj_E 85 84 ls (.ref k :: st) σ τ = mj_E 85 87 ls (.ref (10 * k + 2) :: st) σ τ := (mj_gf i85_84).trans (congrArg (fun z => mj_ov z _) (fv1_7 h1 h2))
theorem i85_87 : mj_ins 85 87 = some (.iload 1, 88) := by decide +kernel
theorem e85_87 {ls : mj_L} {st : List Value} {σ : mj_S} {τ : mj_T} {a0 : Option Value} {v : Int32} : mj_E 85 87 (a0 :: some (.int v) :: ls) st σ τ = mj_E 85 88 (a0 :: some (.int v) :: ls) (.int v :: st) σ τ := mj_nx i85_87 rfl
theorem i85_88 : mj_ins 85 88 = some (.iaload, 89) := by decide +kernel
theorem e85_88 {ls : mj_L} {st : List Value} {σ : mj_S} {τ : mj_T} {x : Int32} {k : Nat} : mj_E 85 88 ls (.int x :: .ref k :: st) σ τ = if mj_ib (mj_li σ k) x = true then mj_E 85 89 ls (.int (σ k x.toNatClampNeg) :: st) σ τ else none := mj_ald i85_88
theorem i85_89 : mj_ins 85 89 = some (.ireturn, 90) := by decide +kernel
theorem e85_89 {ls : mj_L} {σ : mj_S} {τ : mj_T} {v : Int32} : mj_E 85 89 ls [.int v] σ τ = some (some (.int v), σ, τ) := mj_irt i85_89 rfl
theorem i85_90 : mj_ins 85 90 = some (.aload 0, 91) := by decide +kernel
theorem e85_90 {ls : mj_L} {st : List Value} {σ : mj_S} {τ : mj_T} {v : Nat} : mj_E 85 90 (some (.ref v) :: ls) st σ τ = mj_E 85 91 (some (.ref v) :: ls) (.ref v :: st) σ τ := mj_nx i85_90 rfl
theorem i85_91 : mj_ins 85 91 = some (.getfield 600, 94) := by decide +kernel
theorem e85_91 {ls : mj_L} {st : List Value} {σ : mj_S} {τ : mj_T} : mj_E 85 91 ls (.ref 0 :: st) σ τ = mj_E 85 94 ls (.ref 1 :: st) σ τ := mj_nx i85_91 rfl
theorem i85_94 : mj_ins 85 94 = some (.getfield 108, 97) := by decide +kernel
theorem e85_94 {ls : mj_L} {st : List Value} {σ : mj_S} {τ : mj_T} {k : Nat} (h1 : 1 ≤ k) (h2 : k ≤ 3) : mj_E 85 94 ls (.ref k :: st) σ τ = mj_E 85 97 ls (.ref (10 * k + 3) :: st) σ τ := (mj_gf i85_94).trans (congrArg (fun z => mj_ov z _) (fv1_8 h1 h2))
theorem i85_97 : mj_ins 85 97 = some (.iload 1, 98) := by decide +kernel
theorem e85_97 {ls : mj_L} {st : List Value} {σ : mj_S} {τ : mj_T} {a0 : Option Value} {v : Int32} : mj_E 85 97 (a0 :: some (.int v) :: ls) st σ τ = mj_E 85 98 (a0 :: some (.int v) :: ls) (.int v :: st) σ τ := mj_nx i85_97 rfl
theorem i85_98 : mj_ins 85 98 = some (.iaload, 99) := by decide +kernel
theorem e85_98 {ls : mj_L} {st : List Value} {σ : mj_S} {τ : mj_T} {x : Int32} {k : Nat} : mj_E 85 98 ls (.int x :: .ref k :: st) σ τ = if mj_ib (mj_li σ k) x = true then mj_E 85 99 ls (.int (σ k x.toNatClampNeg) :: st) σ τ else none := mj_ald i85_98
theorem i85_99 : mj_ins 85 99 = some (.ireturn, 100) := by decide +kernel
theorem e85_99 {ls : mj_L} {σ : mj_S} {τ : mj_T} {v : Int32} : mj_E 85 99 ls [.int v] σ τ = some (some (.int v), σ, τ) := mj_irt i85_99 rfl
theorem i85_100 : mj_ins 85 100 = some (.aload 0, 101) := by decide +kernel
theorem e85_100 {ls : mj_L} {st : List Value} {σ : mj_S} {τ : mj_T} {v : Nat} : mj_E 85 100 (some (.ref v) :: ls) st σ τ = mj_E 85 101 (some (.ref v) :: ls) (.ref v :: st) σ τ := mj_nx i85_100 rfl
theorem i85_101 : mj_ins 85 101 = some (.getfield 600, 104) := by decide +kernel
theorem e85_101 {ls : mj_L} {st : List Value} {σ : mj_S} {τ : mj_T} : mj_E 85 101 ls (.ref 0 :: st) σ τ = mj_E 85 104 ls (.ref 1 :: st) σ τ := mj_nx i85_101 rfl
theorem i85_104 : mj_ins 85 104 = some (.getfield 109, 107) := by decide +kernel
theorem e85_104 {ls : mj_L} {st : List Value} {σ : mj_S} {τ : mj_T} {k : Nat} (h1 : 1 ≤ k) (h2 : k ≤ 3) : mj_E 85 104 ls (.ref k :: st) σ τ = mj_E 85 107 ls (.ref (10 * k + 4) :: st) σ τ := (mj_gf i85_104).trans (congrArg (fun z => mj_ov z _) (fv1_9 h1 h2))
theorem i85_107 : mj_ins 85 107 = some (.iload 1, 108) := by decide +kernel
theorem e85_107 {ls : mj_L} {st : List Value} {σ : mj_S} {τ : mj_T} {a0 : Option Value} {v : Int32} : mj_E 85 107 (a0 :: some (.int v) :: ls) st σ τ = mj_E 85 108 (a0 :: some (.int v) :: ls) (.int v :: st) σ τ := mj_nx i85_107 rfl
theorem i85_108 : mj_ins 85 108 = some (.iaload, 109) := by decide +kernel
theorem e85_108 {ls : mj_L} {st : List Value} {σ : mj_S} {τ : mj_T} {x : Int32} {k : Nat} : mj_E 85 108 ls (.int x :: .ref k :: st) σ τ = if mj_ib (mj_li σ k) x = true then mj_E 85 109 ls (.int (σ k x.toNatClampNeg) :: st) σ τ else none := mj_ald i85_108
theorem i85_109 : mj_ins 85 109 = some (.ireturn, 110) := by decide +kernel
theorem e85_109 {ls : mj_L} {σ : mj_S} {τ : mj_T} {v : Int32} : mj_E 85 109 ls [.int v] σ τ = some (some (.int v), σ, τ) := mj_irt i85_109 rfl
theorem i85_110 : mj_ins 85 110 = some (.aload 0, 111) := by decide +kernel
theorem e85_110 {ls : mj_L} {st : List Value} {σ : mj_S} {τ : mj_T} {v : Nat} : mj_E 85 110 (some (.ref v) :: ls) st σ τ = mj_E 85 111 (some (.ref v) :: ls) (.ref v :: st) σ τ := mj_nx i85_110 rfl
theorem i85_111 : mj_ins 85 111 = some (.getfield 600, 114) := by decide +kernel
theorem e85_111 {ls : mj_L} {st : List Value} {σ : mj_S} {τ : mj_T} : mj_E 85 111 ls (.ref 0 :: st) σ τ = mj_E 85 114 ls (.ref 1 :: st) σ τ := mj_nx i85_111 rfl
theorem i85_114 : mj_ins 85 114 = some (.iload 1, 115) := by decide +kernel
theorem e85_114 {ls : mj_L} {st : List Value} {σ : mj_S} {τ : mj_T} {a0 : Option Value} {v : Int32} : mj_E 85 114 (a0 :: some (.int v) :: ls) st σ τ = mj_E 85 115 (a0 :: some (.int v) :: ls) (.int v :: st) σ τ := mj_nx i85_114 rfl
theorem i85_115 : mj_ins 85 115 = some (.invokevirtual 17, 118) := by decide +kernel
theorem e85_115 {ls : mj_L} {σ : mj_S} {τ : mj_T} {r : Nat} {x0 : Int32} : mj_E 85 115 ls [.int x0, .ref r] σ τ = if mj_rcv r 1 = true then mj_bd (mj_C 17 [.ref r, .int x0] σ τ) (mj_K 85 118 ls []) else none := mj_clV (as := [.int x0]) (r := []) i85_115 (by decide +kernel : mj_vk 85 17 1 0 2 false = true) (by decide +kernel)
theorem i85_118 : mj_ins 85 118 = some (.ireturn, 119) := by decide +kernel
theorem e85_118 {ls : mj_L} {σ : mj_S} {τ : mj_T} {v : Int32} : mj_E 85 118 ls [.int v] σ τ = some (some (.int v), σ, τ) := mj_irt i85_118 rfl
theorem i85_119 : mj_ins 85 119 = some (.aload 0, 120) := by decide +kernel
theorem e85_119 {ls : mj_L} {st : List Value} {σ : mj_S} {τ : mj_T} {v : Nat} : mj_E 85 119 (some (.ref v) :: ls) st σ τ = mj_E 85 120 (some (.ref v) :: ls) (.ref v :: st) σ τ := mj_nx i85_119 rfl
theorem i85_120 : mj_ins 85 120 = some (.getfield 600, 123) := by decide +kernel
theorem e85_120 {ls : mj_L} {st : List Value} {σ : mj_S} {τ : mj_T} : mj_E 85 120 ls (.ref 0 :: st) σ τ = mj_E 85 123 ls (.ref 1 :: st) σ τ := mj_nx i85_120 rfl
theorem i85_123 : mj_ins 85 123 = some (.iload 1, 124) := by decide +kernel
theorem e85_123 {ls : mj_L} {st : List Value} {σ : mj_S} {τ : mj_T} {a0 : Option Value} {v : Int32} : mj_E 85 123 (a0 :: some (.int v) :: ls) st σ τ = mj_E 85 124 (a0 :: some (.int v) :: ls) (.int v :: st) σ τ := mj_nx i85_123 rfl
theorem i85_124 : mj_ins 85 124 = some (.invokevirtual 15, 127) := by decide +kernel
theorem e85_124 {ls : mj_L} {σ : mj_S} {τ : mj_T} {r : Nat} {x0 : Int32} : mj_E 85 124 ls [.int x0, .ref r] σ τ = if mj_rcv r 1 = true then mj_bd (mj_C 15 [.ref r, .int x0] σ τ) (mj_K 85 127 ls []) else none := mj_clV (as := [.int x0]) (r := []) i85_124 (by decide +kernel : mj_vk 85 15 1 0 2 false = true) (by decide +kernel)
theorem i85_127 : mj_ins 85 127 = some (.ireturn, 128) := by decide +kernel
theorem e85_127 {ls : mj_L} {σ : mj_S} {τ : mj_T} {v : Int32} : mj_E 85 127 ls [.int v] σ τ = some (some (.int v), σ, τ) := mj_irt i85_127 rfl
theorem i85_128 : mj_ins 85 128 = some (.aload 0, 129) := by decide +kernel
theorem e85_128 {ls : mj_L} {st : List Value} {σ : mj_S} {τ : mj_T} {v : Nat} : mj_E 85 128 (some (.ref v) :: ls) st σ τ = mj_E 85 129 (some (.ref v) :: ls) (.ref v :: st) σ τ := mj_nx i85_128 rfl
theorem i85_129 : mj_ins 85 129 = some (.iconst (-5), 131) := by decide +kernel
theorem e85_129 {ls : mj_L} {st : List Value} {σ : mj_S} {τ : mj_T} : mj_E 85 129 ls st σ τ = mj_E 85 131 ls (.int ((-5)) :: st) σ τ := mj_nx i85_129 rfl
theorem i85_131 : mj_ins 85 131 = some (.invokevirtual 112, 134) := by decide +kernel
theorem e85_131 {ls : mj_L} {σ : mj_S} {τ : mj_T} {r : Nat} {x0 : Int32} : mj_E 85 131 ls [.int x0, .ref r] σ τ = if mj_rcv r 6 = true then mj_bd (mj_C 112 [.ref r, .int x0] σ τ) (mj_K 85 134 ls []) else none := mj_clV (as := [.int x0]) (r := []) i85_131 (by decide +kernel : mj_vk 85 112 1 0 2 false = true) (by decide +kernel)
theorem i85_134 : mj_ins 85 134 = some (.ireturn, 135) := by decide +kernel
theorem e85_134 {ls : mj_L} {σ : mj_S} {τ : mj_T} {v : Int32} : mj_E 85 134 ls [.int v] σ τ = some (some (.int v), σ, τ) := mj_irt i85_134 rfl
theorem c86 {σ : mj_S} {τ : mj_T} {r : Nat} {x0 : Int32} {x1 : Int32} : mj_C 86 [.ref r, .int x0, .int x1] σ τ = mj_E 86 0 [some (.ref r), some (.int x0), some (.int x1)] [] σ τ := rfl
theorem i86_0 : mj_ins 86 0 = some (.aload 0, 1) := by decide +kernel
theorem e86_0 {ls : mj_L} {st : List Value} {σ : mj_S} {τ : mj_T} {v : Nat} : mj_E 86 0 (some (.ref v) :: ls) st σ τ = mj_E 86 1 (some (.ref v) :: ls) (.ref v :: st) σ τ := mj_nx i86_0 rfl
theorem i86_1 : mj_ins 86 1 = some (.getfield 600, 4) := by decide +kernel
theorem e86_1 {ls : mj_L} {st : List Value} {σ : mj_S} {τ : mj_T} : mj_E 86 1 ls (.ref 0 :: st) σ τ = mj_E 86 4 ls (.ref 1 :: st) σ τ := mj_nx i86_1 rfl
theorem i86_4 : mj_ins 86 4 = some (.iload 1, 5) := by decide +kernel
theorem e86_4 {ls : mj_L} {st : List Value} {σ : mj_S} {τ : mj_T} {a0 : Option Value} {v : Int32} : mj_E 86 4 (a0 :: some (.int v) :: ls) st σ τ = mj_E 86 5 (a0 :: some (.int v) :: ls) (.int v :: st) σ τ := mj_nx i86_4 rfl
theorem i86_5 : mj_ins 86 5 = some (.invokevirtual 8, 8) := by decide +kernel
theorem e86_5 {ls : mj_L} {σ : mj_S} {τ : mj_T} {r : Nat} {x0 : Int32} : mj_E 86 5 ls [.int x0, .ref r] σ τ = if mj_rcv r 1 = true then mj_bd (mj_C 8 [.ref r, .int x0] σ τ) (mj_K 86 8 ls []) else none := mj_clV (as := [.int x0]) (r := []) i86_5 (by decide +kernel : mj_vk 86 8 1 0 2 false = true) (by decide +kernel)
theorem i86_8 : mj_ins 86 8 = some (.ifCond .ne 18, 11) := by decide +kernel
theorem e86_8 {ls : mj_L} {st : List Value} {σ : mj_S} {τ : mj_T} {x : Int32} : mj_E 86 8 ls (.int x :: st) σ τ = if x = 0 then mj_E 86 11 ls st σ τ else mj_E 86 18 ls st σ τ := (mj_ifc i86_8).trans (mj_cdF rfl)
theorem i86_11 : mj_ins 86 11 = some (.aload 0, 12) := by decide +kernel
theorem e86_11 {ls : mj_L} {st : List Value} {σ : mj_S} {τ : mj_T} {v : Nat} : mj_E 86 11 (some (.ref v) :: ls) st σ τ = mj_E 86 12 (some (.ref v) :: ls) (.ref v :: st) σ τ := mj_nx i86_11 rfl
theorem i86_12 : mj_ins 86 12 = some (.iconst (-5), 14) := by decide +kernel
theorem e86_12 {ls : mj_L} {st : List Value} {σ : mj_S} {τ : mj_T} : mj_E 86 12 ls st σ τ = mj_E 86 14 ls (.int ((-5)) :: st) σ τ := mj_nx i86_12 rfl
theorem i86_14 : mj_ins 86 14 = some (.invokevirtual 112, 17) := by decide +kernel
theorem e86_14 {ls : mj_L} {σ : mj_S} {τ : mj_T} {r : Nat} {x0 : Int32} : mj_E 86 14 ls [.int x0, .ref r] σ τ = if mj_rcv r 6 = true then mj_bd (mj_C 112 [.ref r, .int x0] σ τ) (mj_K 86 17 ls []) else none := mj_clV (as := [.int x0]) (r := []) i86_14 (by decide +kernel : mj_vk 86 112 1 0 2 false = true) (by decide +kernel)
theorem i86_17 : mj_ins 86 17 = some (.ireturn, 18) := by decide +kernel
theorem e86_17 {ls : mj_L} {σ : mj_S} {τ : mj_T} {v : Int32} : mj_E 86 17 ls [.int v] σ τ = some (some (.int v), σ, τ) := mj_irt i86_17 rfl
theorem i86_18 : mj_ins 86 18 = some (.iload 2, 19) := by decide +kernel
theorem e86_18 {ls : mj_L} {st : List Value} {σ : mj_S} {τ : mj_T} {a0 a1 : Option Value} {v : Int32} : mj_E 86 18 (a0 :: a1 :: some (.int v) :: ls) st σ τ = mj_E 86 19 (a0 :: a1 :: some (.int v) :: ls) (.int v :: st) σ τ := mj_nx i86_18 rfl
theorem i86_19 : mj_ins 86 19 = some (.tableswitch 88 (0) (3) #[48, 58, 68, 78], 19) := by decide +kernel
theorem e86_19 {ls : mj_L} {st : List Value} {σ : mj_S} {τ : mj_T} {x : Int32} : mj_E 86 19 ls (.int x :: st) σ τ = if x = nI 0 then mj_E 86 48 ls st σ τ else if x = nI 1 then mj_E 86 58 ls st σ τ else if x = nI 2 then mj_E 86 68 ls st σ τ else if x = nI 3 then mj_E 86 78 ls st σ τ else mj_E 86 88 ls st σ τ := mj_tsw i86_19 (by decide)
theorem i86_48 : mj_ins 86 48 = some (.aload 0, 49) := by decide +kernel
theorem e86_48 {ls : mj_L} {st : List Value} {σ : mj_S} {τ : mj_T} {v : Nat} : mj_E 86 48 (some (.ref v) :: ls) st σ τ = mj_E 86 49 (some (.ref v) :: ls) (.ref v :: st) σ τ := mj_nx i86_48 rfl
theorem i86_49 : mj_ins 86 49 = some (.getfield 600, 52) := by decide +kernel
theorem e86_49 {ls : mj_L} {st : List Value} {σ : mj_S} {τ : mj_T} : mj_E 86 49 ls (.ref 0 :: st) σ τ = mj_E 86 52 ls (.ref 1 :: st) σ τ := mj_nx i86_49 rfl
theorem i86_52 : mj_ins 86 52 = some (.getfield 110, 55) := by decide +kernel
theorem e86_52 {ls : mj_L} {st : List Value} {σ : mj_S} {τ : mj_T} {k : Nat} (h1 : 1 ≤ k) (h2 : k ≤ 3) : mj_E 86 52 ls (.ref k :: st) σ τ = mj_E 86 55 ls (.ref (10 * k + 5) :: st) σ τ := (mj_gf i86_52).trans (congrArg (fun z => mj_ov z _) (fv1_10 h1 h2))
theorem i86_55 : mj_ins 86 55 = some (.iload 1, 56) := by decide +kernel
theorem e86_55 {ls : mj_L} {st : List Value} {σ : mj_S} {τ : mj_T} {a0 : Option Value} {v : Int32} : mj_E 86 55 (a0 :: some (.int v) :: ls) st σ τ = mj_E 86 56 (a0 :: some (.int v) :: ls) (.int v :: st) σ τ := mj_nx i86_55 rfl
theorem i86_56 : mj_ins 86 56 = some (.iaload, 57) := by decide +kernel
theorem e86_56 {ls : mj_L} {st : List Value} {σ : mj_S} {τ : mj_T} {x : Int32} {k : Nat} : mj_E 86 56 ls (.int x :: .ref k :: st) σ τ = if mj_ib (mj_li σ k) x = true then mj_E 86 57 ls (.int (σ k x.toNatClampNeg) :: st) σ τ else none := mj_ald i86_56
theorem i86_57 : mj_ins 86 57 = some (.ireturn, 58) := by decide +kernel
theorem e86_57 {ls : mj_L} {σ : mj_S} {τ : mj_T} {v : Int32} : mj_E 86 57 ls [.int v] σ τ = some (some (.int v), σ, τ) := mj_irt i86_57 rfl
theorem i86_58 : mj_ins 86 58 = some (.aload 0, 59) := by decide +kernel
theorem e86_58 {ls : mj_L} {st : List Value} {σ : mj_S} {τ : mj_T} {v : Nat} : mj_E 86 58 (some (.ref v) :: ls) st σ τ = mj_E 86 59 (some (.ref v) :: ls) (.ref v :: st) σ τ := mj_nx i86_58 rfl
theorem i86_59 : mj_ins 86 59 = some (.getfield 600, 62) := by decide +kernel
theorem e86_59 {ls : mj_L} {st : List Value} {σ : mj_S} {τ : mj_T} : mj_E 86 59 ls (.ref 0 :: st) σ τ = mj_E 86 62 ls (.ref 1 :: st) σ τ := mj_nx i86_59 rfl
theorem i86_62 : mj_ins 86 62 = some (.getfield 111, 65) := by decide +kernel
theorem e86_62 {ls : mj_L} {st : List Value} {σ : mj_S} {τ : mj_T} {k : Nat} (h1 : 1 ≤ k) (h2 : k ≤ 3) : mj_E 86 62 ls (.ref k :: st) σ τ = mj_E 86 65 ls (.ref (10 * k + 6) :: st) σ τ := (mj_gf i86_62).trans (congrArg (fun z => mj_ov z _) (fv1_11 h1 h2))
theorem i86_65 : mj_ins 86 65 = some (.iload 1, 66) := by decide +kernel
theorem e86_65 {ls : mj_L} {st : List Value} {σ : mj_S} {τ : mj_T} {a0 : Option Value} {v : Int32} : mj_E 86 65 (a0 :: some (.int v) :: ls) st σ τ = mj_E 86 66 (a0 :: some (.int v) :: ls) (.int v :: st) σ τ := mj_nx i86_65 rfl
theorem i86_66 : mj_ins 86 66 = some (.iaload, 67) := by decide +kernel
theorem e86_66 {ls : mj_L} {st : List Value} {σ : mj_S} {τ : mj_T} {x : Int32} {k : Nat} : mj_E 86 66 ls (.int x :: .ref k :: st) σ τ = if mj_ib (mj_li σ k) x = true then mj_E 86 67 ls (.int (σ k x.toNatClampNeg) :: st) σ τ else none := mj_ald i86_66
theorem i86_67 : mj_ins 86 67 = some (.ireturn, 68) := by decide +kernel
theorem e86_67 {ls : mj_L} {σ : mj_S} {τ : mj_T} {v : Int32} : mj_E 86 67 ls [.int v] σ τ = some (some (.int v), σ, τ) := mj_irt i86_67 rfl
theorem i86_68 : mj_ins 86 68 = some (.aload 0, 69) := by decide +kernel
theorem e86_68 {ls : mj_L} {st : List Value} {σ : mj_S} {τ : mj_T} {v : Nat} : mj_E 86 68 (some (.ref v) :: ls) st σ τ = mj_E 86 69 (some (.ref v) :: ls) (.ref v :: st) σ τ := mj_nx i86_68 rfl
theorem i86_69 : mj_ins 86 69 = some (.getfield 600, 72) := by decide +kernel
theorem e86_69 {ls : mj_L} {st : List Value} {σ : mj_S} {τ : mj_T} : mj_E 86 69 ls (.ref 0 :: st) σ τ = mj_E 86 72 ls (.ref 1 :: st) σ τ := mj_nx i86_69 rfl
theorem i86_72 : mj_ins 86 72 = some (.getfield 112, 75) := by decide +kernel
theorem e86_72 {ls : mj_L} {st : List Value} {σ : mj_S} {τ : mj_T} {k : Nat} (h1 : 1 ≤ k) (h2 : k ≤ 3) : mj_E 86 72 ls (.ref k :: st) σ τ = mj_E 86 75 ls (.ref (10 * k + 7) :: st) σ τ := (mj_gf i86_72).trans (congrArg (fun z => mj_ov z _) (fv1_12 h1 h2))
theorem i86_75 : mj_ins 86 75 = some (.iload 1, 76) := by decide +kernel
theorem e86_75 {ls : mj_L} {st : List Value} {σ : mj_S} {τ : mj_T} {a0 : Option Value} {v : Int32} : mj_E 86 75 (a0 :: some (.int v) :: ls) st σ τ = mj_E 86 76 (a0 :: some (.int v) :: ls) (.int v :: st) σ τ := mj_nx i86_75 rfl
theorem i86_76 : mj_ins 86 76 = some (.iaload, 77) := by decide +kernel
theorem e86_76 {ls : mj_L} {st : List Value} {σ : mj_S} {τ : mj_T} {x : Int32} {k : Nat} : mj_E 86 76 ls (.int x :: .ref k :: st) σ τ = if mj_ib (mj_li σ k) x = true then mj_E 86 77 ls (.int (σ k x.toNatClampNeg) :: st) σ τ else none := mj_ald i86_76
theorem i86_77 : mj_ins 86 77 = some (.ireturn, 78) := by decide +kernel
theorem e86_77 {ls : mj_L} {σ : mj_S} {τ : mj_T} {v : Int32} : mj_E 86 77 ls [.int v] σ τ = some (some (.int v), σ, τ) := mj_irt i86_77 rfl
theorem i86_78 : mj_ins 86 78 = some (.aload 0, 79) := by decide +kernel
theorem e86_78 {ls : mj_L} {st : List Value} {σ : mj_S} {τ : mj_T} {v : Nat} : mj_E 86 78 (some (.ref v) :: ls) st σ τ = mj_E 86 79 (some (.ref v) :: ls) (.ref v :: st) σ τ := mj_nx i86_78 rfl
theorem i86_79 : mj_ins 86 79 = some (.getfield 600, 82) := by decide +kernel
theorem e86_79 {ls : mj_L} {st : List Value} {σ : mj_S} {τ : mj_T} : mj_E 86 79 ls (.ref 0 :: st) σ τ = mj_E 86 82 ls (.ref 1 :: st) σ τ := mj_nx i86_79 rfl
theorem i86_82 : mj_ins 86 82 = some (.getfield 113, 85) := by decide +kernel
theorem e86_82 {ls : mj_L} {st : List Value} {σ : mj_S} {τ : mj_T} {k : Nat} (h1 : 1 ≤ k) (h2 : k ≤ 3) : mj_E 86 82 ls (.ref k :: st) σ τ = mj_E 86 85 ls (.ref (10 * k + 8) :: st) σ τ := (mj_gf i86_82).trans (congrArg (fun z => mj_ov z _) (fv1_13 h1 h2))
theorem i86_85 : mj_ins 86 85 = some (.iload 1, 86) := by decide +kernel
theorem e86_85 {ls : mj_L} {st : List Value} {σ : mj_S} {τ : mj_T} {a0 : Option Value} {v : Int32} : mj_E 86 85 (a0 :: some (.int v) :: ls) st σ τ = mj_E 86 86 (a0 :: some (.int v) :: ls) (.int v :: st) σ τ := mj_nx i86_85 rfl
theorem i86_86 : mj_ins 86 86 = some (.iaload, 87) := by decide +kernel
theorem e86_86 {ls : mj_L} {st : List Value} {σ : mj_S} {τ : mj_T} {x : Int32} {k : Nat} : mj_E 86 86 ls (.int x :: .ref k :: st) σ τ = if mj_ib (mj_li σ k) x = true then mj_E 86 87 ls (.int (σ k x.toNatClampNeg) :: st) σ τ else none := mj_ald i86_86
theorem i86_87 : mj_ins 86 87 = some (.ireturn, 88) := by decide +kernel
theorem e86_87 {ls : mj_L} {σ : mj_S} {τ : mj_T} {v : Int32} : mj_E 86 87 ls [.int v] σ τ = some (some (.int v), σ, τ) := mj_irt i86_87 rfl
theorem i86_88 : mj_ins 86 88 = some (.aload 0, 89) := by decide +kernel
theorem e86_88 {ls : mj_L} {st : List Value} {σ : mj_S} {τ : mj_T} {v : Nat} : mj_E 86 88 (some (.ref v) :: ls) st σ τ = mj_E 86 89 (some (.ref v) :: ls) (.ref v :: st) σ τ := mj_nx i86_88 rfl
theorem i86_89 : mj_ins 86 89 = some (.iconst (-5), 91) := by decide +kernel
theorem e86_89 {ls : mj_L} {st : List Value} {σ : mj_S} {τ : mj_T} : mj_E 86 89 ls st σ τ = mj_E 86 91 ls (.int ((-5)) :: st) σ τ := mj_nx i86_89 rfl
theorem i86_91 : mj_ins 86 91 = some (.invokevirtual 112, 94) := by decide +kernel
theorem e86_91 {ls : mj_L} {σ : mj_S} {τ : mj_T} {r : Nat} {x0 : Int32} : mj_E 86 91 ls [.int x0, .ref r] σ τ = if mj_rcv r 6 = true then mj_bd (mj_C 112 [.ref r, .int x0] σ τ) (mj_K 86 94 ls []) else none := mj_clV (as := [.int x0]) (r := []) i86_91 (by decide +kernel : mj_vk 86 112 1 0 2 false = true) (by decide +kernel)
theorem i86_94 : mj_ins 86 94 = some (.ireturn, 95) := by decide +kernel
theorem e86_94 {ls : mj_L} {σ : mj_S} {τ : mj_T} {v : Int32} : mj_E 86 94 ls [.int v] σ τ = some (some (.int v), σ, τ) := mj_irt i86_94 rfl
theorem c87 {σ : mj_S} {τ : mj_T} {r : Nat} {x0 : Int32} {x1 : Int32} {x2 : Int32} : mj_C 87 [.ref r, .int x0, .int x1, .int x2] σ τ = mj_E 87 0 [some (.ref r), some (.int x0), some (.int x1), some (.int x2)] [] σ τ := rfl
theorem i87_0 : mj_ins 87 0 = some (.aload 0, 1) := by decide +kernel
theorem e87_0 {ls : mj_L} {st : List Value} {σ : mj_S} {τ : mj_T} {v : Nat} : mj_E 87 0 (some (.ref v) :: ls) st σ τ = mj_E 87 1 (some (.ref v) :: ls) (.ref v :: st) σ τ := mj_nx i87_0 rfl
theorem i87_1 : mj_ins 87 1 = some (.getfield 600, 4) := by decide +kernel
theorem e87_1 {ls : mj_L} {st : List Value} {σ : mj_S} {τ : mj_T} : mj_E 87 1 ls (.ref 0 :: st) σ τ = mj_E 87 4 ls (.ref 1 :: st) σ τ := mj_nx i87_1 rfl
theorem i87_4 : mj_ins 87 4 = some (.iload 1, 5) := by decide +kernel
theorem e87_4 {ls : mj_L} {st : List Value} {σ : mj_S} {τ : mj_T} {a0 : Option Value} {v : Int32} : mj_E 87 4 (a0 :: some (.int v) :: ls) st σ τ = mj_E 87 5 (a0 :: some (.int v) :: ls) (.int v :: st) σ τ := mj_nx i87_4 rfl
theorem i87_5 : mj_ins 87 5 = some (.invokevirtual 8, 8) := by decide +kernel
theorem e87_5 {ls : mj_L} {σ : mj_S} {τ : mj_T} {r : Nat} {x0 : Int32} : mj_E 87 5 ls [.int x0, .ref r] σ τ = if mj_rcv r 1 = true then mj_bd (mj_C 8 [.ref r, .int x0] σ τ) (mj_K 87 8 ls []) else none := mj_clV (as := [.int x0]) (r := []) i87_5 (by decide +kernel : mj_vk 87 8 1 0 2 false = true) (by decide +kernel)
theorem i87_8 : mj_ins 87 8 = some (.ifCond .eq 22, 11) := by decide +kernel
theorem e87_8 {ls : mj_L} {st : List Value} {σ : mj_S} {τ : mj_T} {x : Int32} : mj_E 87 8 ls (.int x :: st) σ τ = if x = 0 then mj_E 87 22 ls st σ τ else mj_E 87 11 ls st σ τ := (mj_ifc i87_8).trans (mj_cdT rfl)
theorem i87_11 : mj_ins 87 11 = some (.aload 0, 12) := by decide +kernel
theorem e87_11 {ls : mj_L} {st : List Value} {σ : mj_S} {τ : mj_T} {v : Nat} : mj_E 87 11 (some (.ref v) :: ls) st σ τ = mj_E 87 12 (some (.ref v) :: ls) (.ref v :: st) σ τ := mj_nx i87_11 rfl
theorem i87_12 : mj_ins 87 12 = some (.getfield 600, 15) := by decide +kernel
theorem e87_12 {ls : mj_L} {st : List Value} {σ : mj_S} {τ : mj_T} : mj_E 87 12 ls (.ref 0 :: st) σ τ = mj_E 87 15 ls (.ref 1 :: st) σ τ := mj_nx i87_12 rfl
theorem i87_15 : mj_ins 87 15 = some (.iload 2, 16) := by decide +kernel
theorem e87_15 {ls : mj_L} {st : List Value} {σ : mj_S} {τ : mj_T} {a0 a1 : Option Value} {v : Int32} : mj_E 87 15 (a0 :: a1 :: some (.int v) :: ls) st σ τ = mj_E 87 16 (a0 :: a1 :: some (.int v) :: ls) (.int v :: st) σ τ := mj_nx i87_15 rfl
theorem i87_16 : mj_ins 87 16 = some (.invokevirtual 7, 19) := by decide +kernel
theorem e87_16 {ls : mj_L} {σ : mj_S} {τ : mj_T} {r : Nat} {x0 : Int32} : mj_E 87 16 ls [.int x0, .ref r] σ τ = if mj_rcv r 1 = true then mj_bd (mj_C 7 [.ref r, .int x0] σ τ) (mj_K 87 19 ls []) else none := mj_clV (as := [.int x0]) (r := []) i87_16 (by decide +kernel : mj_vk 87 7 1 0 2 false = true) (by decide +kernel)
theorem i87_19 : mj_ins 87 19 = some (.ifCond .ne 28, 22) := by decide +kernel
theorem e87_19 {ls : mj_L} {st : List Value} {σ : mj_S} {τ : mj_T} {x : Int32} : mj_E 87 19 ls (.int x :: st) σ τ = if x = 0 then mj_E 87 22 ls st σ τ else mj_E 87 28 ls st σ τ := (mj_ifc i87_19).trans (mj_cdF rfl)
theorem i87_22 : mj_ins 87 22 = some (.aload 0, 23) := by decide +kernel
theorem e87_22 {ls : mj_L} {st : List Value} {σ : mj_S} {τ : mj_T} {v : Nat} : mj_E 87 22 (some (.ref v) :: ls) st σ τ = mj_E 87 23 (some (.ref v) :: ls) (.ref v :: st) σ τ := mj_nx i87_22 rfl
theorem i87_23 : mj_ins 87 23 = some (.iconst (-1), 24) := by decide +kernel
theorem e87_23 {ls : mj_L} {st : List Value} {σ : mj_S} {τ : mj_T} : mj_E 87 23 ls st σ τ = mj_E 87 24 ls (.int ((-1)) :: st) σ τ := mj_nx i87_23 rfl
theorem i87_24 : mj_ins 87 24 = some (.invokevirtual 112, 27) := by decide +kernel
theorem e87_24 {ls : mj_L} {σ : mj_S} {τ : mj_T} {r : Nat} {x0 : Int32} : mj_E 87 24 ls [.int x0, .ref r] σ τ = if mj_rcv r 6 = true then mj_bd (mj_C 112 [.ref r, .int x0] σ τ) (mj_K 87 27 ls []) else none := mj_clV (as := [.int x0]) (r := []) i87_24 (by decide +kernel : mj_vk 87 112 1 0 2 false = true) (by decide +kernel)
theorem i87_27 : mj_ins 87 27 = some (.ireturn, 28) := by decide +kernel
theorem e87_27 {ls : mj_L} {σ : mj_S} {τ : mj_T} {v : Int32} : mj_E 87 27 ls [.int v] σ τ = some (some (.int v), σ, τ) := mj_irt i87_27 rfl
theorem i87_28 : mj_ins 87 28 = some (.iload 3, 29) := by decide +kernel
theorem e87_28 {ls : mj_L} {st : List Value} {σ : mj_S} {τ : mj_T} {a0 a1 a2 : Option Value} {v : Int32} : mj_E 87 28 (a0 :: a1 :: a2 :: some (.int v) :: ls) st σ τ = mj_E 87 29 (a0 :: a1 :: a2 :: some (.int v) :: ls) (.int v :: st) σ τ := mj_nx i87_28 rfl
theorem i87_29 : mj_ins 87 29 = some (.iconst (1), 30) := by decide +kernel
theorem e87_29 {ls : mj_L} {st : List Value} {σ : mj_S} {τ : mj_T} : mj_E 87 29 ls st σ τ = mj_E 87 30 ls (.int (nI 1) :: st) σ τ := mj_nx i87_29 rfl
theorem i87_30 : mj_ins 87 30 = some (.invokestatic 116, 33) := by decide +kernel
theorem e87_30 {ls : mj_L} {σ : mj_S} {τ : mj_T} {x0 : Int32} {x1 : Int32} : mj_E 87 30 ls [.int x1, .int x0] σ τ = mj_bd (mj_C 116 [.int x0, .int x1] σ τ) (mj_K 87 33 ls []) := mj_clS (as := [.int x0, .int x1]) (r := []) i87_30 (by decide +kernel : mj_vk 87 116 2 0 2 false = true) rfl
theorem i87_33 : mj_ins 87 33 = some (.ifCond .ne 43, 36) := by decide +kernel
theorem e87_33 {ls : mj_L} {st : List Value} {σ : mj_S} {τ : mj_T} {x : Int32} : mj_E 87 33 ls (.int x :: st) σ τ = if x = 0 then mj_E 87 36 ls st σ τ else mj_E 87 43 ls st σ τ := (mj_ifc i87_33).trans (mj_cdF rfl)
theorem i87_36 : mj_ins 87 36 = some (.aload 0, 37) := by decide +kernel
theorem e87_36 {ls : mj_L} {st : List Value} {σ : mj_S} {τ : mj_T} {v : Nat} : mj_E 87 36 (some (.ref v) :: ls) st σ τ = mj_E 87 37 (some (.ref v) :: ls) (.ref v :: st) σ τ := mj_nx i87_36 rfl
theorem i87_37 : mj_ins 87 37 = some (.iconst (-5), 39) := by decide +kernel
theorem e87_37 {ls : mj_L} {st : List Value} {σ : mj_S} {τ : mj_T} : mj_E 87 37 ls st σ τ = mj_E 87 39 ls (.int ((-5)) :: st) σ τ := mj_nx i87_37 rfl
theorem i87_39 : mj_ins 87 39 = some (.invokevirtual 112, 42) := by decide +kernel
theorem e87_39 {ls : mj_L} {σ : mj_S} {τ : mj_T} {r : Nat} {x0 : Int32} : mj_E 87 39 ls [.int x0, .ref r] σ τ = if mj_rcv r 6 = true then mj_bd (mj_C 112 [.ref r, .int x0] σ τ) (mj_K 87 42 ls []) else none := mj_clV (as := [.int x0]) (r := []) i87_39 (by decide +kernel : mj_vk 87 112 1 0 2 false = true) (by decide +kernel)
theorem i87_42 : mj_ins 87 42 = some (.ireturn, 43) := by decide +kernel
theorem e87_42 {ls : mj_L} {σ : mj_S} {τ : mj_T} {v : Int32} : mj_E 87 42 ls [.int v] σ τ = some (some (.int v), σ, τ) := mj_irt i87_42 rfl
theorem i87_43 : mj_ins 87 43 = some (.iload 3, 44) := by decide +kernel
theorem e87_43 {ls : mj_L} {st : List Value} {σ : mj_S} {τ : mj_T} {a0 a1 a2 : Option Value} {v : Int32} : mj_E 87 43 (a0 :: a1 :: a2 :: some (.int v) :: ls) st σ τ = mj_E 87 44 (a0 :: a1 :: a2 :: some (.int v) :: ls) (.int v :: st) σ τ := mj_nx i87_43 rfl
theorem i87_44 : mj_ins 87 44 = some (.ifCond .ne 59, 47) := by decide +kernel
theorem e87_44 {ls : mj_L} {st : List Value} {σ : mj_S} {τ : mj_T} {x : Int32} : mj_E 87 44 ls (.int x :: st) σ τ = if x = 0 then mj_E 87 47 ls st σ τ else mj_E 87 59 ls st σ τ := (mj_ifc i87_44).trans (mj_cdF rfl)
theorem i87_47 : mj_ins 87 47 = some (.aload 0, 48) := by decide +kernel
theorem e87_47 {ls : mj_L} {st : List Value} {σ : mj_S} {τ : mj_T} {v : Nat} : mj_E 87 47 (some (.ref v) :: ls) st σ τ = mj_E 87 48 (some (.ref v) :: ls) (.ref v :: st) σ τ := mj_nx i87_47 rfl
theorem i87_48 : mj_ins 87 48 = some (.getfield 600, 51) := by decide +kernel
theorem e87_48 {ls : mj_L} {st : List Value} {σ : mj_S} {τ : mj_T} : mj_E 87 48 ls (.ref 0 :: st) σ τ = mj_E 87 51 ls (.ref 1 :: st) σ τ := mj_nx i87_48 rfl
theorem i87_51 : mj_ins 87 51 = some (.iload 1, 52) := by decide +kernel
theorem e87_51 {ls : mj_L} {st : List Value} {σ : mj_S} {τ : mj_T} {a0 : Option Value} {v : Int32} : mj_E 87 51 (a0 :: some (.int v) :: ls) st σ τ = mj_E 87 52 (a0 :: some (.int v) :: ls) (.int v :: st) σ τ := mj_nx i87_51 rfl
theorem i87_52 : mj_ins 87 52 = some (.iload 2, 53) := by decide +kernel
theorem e87_52 {ls : mj_L} {st : List Value} {σ : mj_S} {τ : mj_T} {a0 a1 : Option Value} {v : Int32} : mj_E 87 52 (a0 :: a1 :: some (.int v) :: ls) st σ τ = mj_E 87 53 (a0 :: a1 :: some (.int v) :: ls) (.int v :: st) σ τ := mj_nx i87_52 rfl
theorem i87_53 : mj_ins 87 53 = some (.invokevirtual 18, 56) := by decide +kernel
theorem e87_53 {ls : mj_L} {σ : mj_S} {τ : mj_T} {r : Nat} {x0 : Int32} {x1 : Int32} : mj_E 87 53 ls [.int x1, .int x0, .ref r] σ τ = if mj_rcv r 1 = true then mj_bd (mj_C 18 [.ref r, .int x0, .int x1] σ τ) (mj_K 87 56 ls []) else none := mj_clV (as := [.int x0, .int x1]) (r := []) i87_53 (by decide +kernel : mj_vk 87 18 2 0 3 false = true) (by decide +kernel)
theorem i87_56 : mj_ins 87 56 = some (.goto 68, 59) := by decide +kernel
theorem e87_56 {ls : mj_L} {st : List Value} {σ : mj_S} {τ : mj_T} : mj_E 87 56 ls st σ τ = mj_E 87 68 ls st σ τ := mj_nx i87_56 rfl
theorem i87_59 : mj_ins 87 59 = some (.aload 0, 60) := by decide +kernel
theorem e87_59 {ls : mj_L} {st : List Value} {σ : mj_S} {τ : mj_T} {v : Nat} : mj_E 87 59 (some (.ref v) :: ls) st σ τ = mj_E 87 60 (some (.ref v) :: ls) (.ref v :: st) σ τ := mj_nx i87_59 rfl
theorem i87_60 : mj_ins 87 60 = some (.getfield 600, 63) := by decide +kernel
theorem e87_60 {ls : mj_L} {st : List Value} {σ : mj_S} {τ : mj_T} : mj_E 87 60 ls (.ref 0 :: st) σ τ = mj_E 87 63 ls (.ref 1 :: st) σ τ := mj_nx i87_60 rfl
theorem i87_63 : mj_ins 87 63 = some (.iload 1, 64) := by decide +kernel
theorem e87_63 {ls : mj_L} {st : List Value} {σ : mj_S} {τ : mj_T} {a0 : Option Value} {v : Int32} : mj_E 87 63 (a0 :: some (.int v) :: ls) st σ τ = mj_E 87 64 (a0 :: some (.int v) :: ls) (.int v :: st) σ τ := mj_nx i87_63 rfl
theorem i87_64 : mj_ins 87 64 = some (.iload 2, 65) := by decide +kernel
theorem e87_64 {ls : mj_L} {st : List Value} {σ : mj_S} {τ : mj_T} {a0 a1 : Option Value} {v : Int32} : mj_E 87 64 (a0 :: a1 :: some (.int v) :: ls) st σ τ = mj_E 87 65 (a0 :: a1 :: some (.int v) :: ls) (.int v :: st) σ τ := mj_nx i87_64 rfl
theorem i87_65 : mj_ins 87 65 = some (.invokevirtual 21, 68) := by decide +kernel
theorem e87_65 {ls : mj_L} {σ : mj_S} {τ : mj_T} {r : Nat} {x0 : Int32} {x1 : Int32} : mj_E 87 65 ls [.int x1, .int x0, .ref r] σ τ = if mj_rcv r 1 = true then mj_bd (mj_C 21 [.ref r, .int x0, .int x1] σ τ) (mj_K 87 68 ls []) else none := mj_clV (as := [.int x0, .int x1]) (r := []) i87_65 (by decide +kernel : mj_vk 87 21 2 0 3 false = true) (by decide +kernel)
theorem i87_68 : mj_ins 87 68 = some (.ireturn, 69) := by decide +kernel
theorem e87_68 {ls : mj_L} {σ : mj_S} {τ : mj_T} {v : Int32} : mj_E 87 68 ls [.int v] σ τ = some (some (.int v), σ, τ) := mj_irt i87_68 rfl
theorem c88 {σ : mj_S} {τ : mj_T} {r : Nat} {x0 : Int32} : mj_C 88 [.ref r, .int x0] σ τ = mj_E 88 0 [some (.ref r), some (.int x0), none, none, none] [] σ τ := rfl
theorem i88_0 : mj_ins 88 0 = some (.aload 0, 1) := by decide +kernel
theorem e88_0 {ls : mj_L} {st : List Value} {σ : mj_S} {τ : mj_T} {v : Nat} : mj_E 88 0 (some (.ref v) :: ls) st σ τ = mj_E 88 1 (some (.ref v) :: ls) (.ref v :: st) σ τ := mj_nx i88_0 rfl
theorem i88_1 : mj_ins 88 1 = some (.iload 1, 2) := by decide +kernel
theorem e88_1 {ls : mj_L} {st : List Value} {σ : mj_S} {τ : mj_T} {a0 : Option Value} {v : Int32} : mj_E 88 1 (a0 :: some (.int v) :: ls) st σ τ = mj_E 88 2 (a0 :: some (.int v) :: ls) (.int v :: st) σ τ := mj_nx i88_1 rfl
theorem i88_2 : mj_ins 88 2 = some (.invokevirtual 114, 5) := by decide +kernel
theorem e88_2 {ls : mj_L} {σ : mj_S} {τ : mj_T} {r : Nat} {x0 : Int32} : mj_E 88 2 ls [.int x0, .ref r] σ τ = if mj_rcv r 6 = true then mj_bd (mj_C 114 [.ref r, .int x0] σ τ) (mj_K 88 5 ls []) else none := mj_clV (as := [.int x0]) (r := []) i88_2 (by decide +kernel : mj_vk 88 114 1 0 2 false = true) (by decide +kernel)
theorem i88_5 : mj_ins 88 5 = some (.astore 2, 6) := by decide +kernel
theorem e88_5 {ls : mj_L} {st : List Value} {σ : mj_S} {τ : mj_T} {a0 a1 a2 : Option Value} {v : Nat} : mj_E 88 5 (a0 :: a1 :: a2 :: ls) (.ref v :: st) σ τ = mj_E 88 6 (a0 :: a1 :: some (.ref v) :: ls) st σ τ := mj_nx i88_5 rfl
theorem e88_5n {ls : mj_L} {st : List Value} {σ : mj_S} {τ : mj_T} {a0 a1 a2 : Option Value} : mj_E 88 5 (a0 :: a1 :: a2 :: ls) (.null :: st) σ τ = mj_E 88 6 (a0 :: a1 :: some .null :: ls) st σ τ := mj_nx i88_5 rfl
theorem i88_6 : mj_ins 88 6 = some (.aload 2, 7) := by decide +kernel
theorem e88_6 {ls : mj_L} {st : List Value} {σ : mj_S} {τ : mj_T} {a0 a1 : Option Value} {v : Nat} : mj_E 88 6 (a0 :: a1 :: some (.ref v) :: ls) st σ τ = mj_E 88 7 (a0 :: a1 :: some (.ref v) :: ls) (.ref v :: st) σ τ := mj_nx i88_6 rfl
theorem e88_6n {ls : mj_L} {st : List Value} {σ : mj_S} {τ : mj_T} {a0 a1 : Option Value} : mj_E 88 6 (a0 :: a1 :: some .null :: ls) st σ τ = mj_E 88 7 (a0 :: a1 :: some .null :: ls) (.null :: st) σ τ := mj_nx i88_6 rfl
theorem i88_7 : mj_ins 88 7 = some (.invokestatic 115, 10) := by decide +kernel
theorem e88_7 {ls : mj_L} {σ : mj_S} {τ : mj_T} {x0 : Nat} : mj_E 88 7 ls [.ref x0] σ τ = mj_bd (mj_C 115 [.ref x0] σ τ) (mj_K 88 10 ls []) := mj_clS (as := [.ref x0]) (r := []) i88_7 (by decide +kernel : mj_vk 88 115 1 0 1 false = true) rfl
theorem e88_7n {ls : mj_L} {σ : mj_S} {τ : mj_T} : mj_E 88 7 ls [.null] σ τ = mj_bd (mj_C 115 [.null] σ τ) (mj_K 88 10 ls []) := mj_clS (as := [.null]) (r := []) i88_7 (by decide +kernel : mj_vk 88 115 1 0 1 false = true) rfl
theorem i88_10 : mj_ins 88 10 = some (.istore 3, 11) := by decide +kernel
theorem e88_10 {ls : mj_L} {st : List Value} {σ : mj_S} {τ : mj_T} {a0 a1 a2 a3 : Option Value} {v : Int32} : mj_E 88 10 (a0 :: a1 :: a2 :: a3 :: ls) (.int v :: st) σ τ = mj_E 88 11 (a0 :: a1 :: a2 :: some (.int v) :: ls) st σ τ := mj_nx i88_10 rfl
theorem i88_11 : mj_ins 88 11 = some (.aload 2, 12) := by decide +kernel
theorem e88_11 {ls : mj_L} {st : List Value} {σ : mj_S} {τ : mj_T} {a0 a1 : Option Value} {v : Nat} : mj_E 88 11 (a0 :: a1 :: some (.ref v) :: ls) st σ τ = mj_E 88 12 (a0 :: a1 :: some (.ref v) :: ls) (.ref v :: st) σ τ := mj_nx i88_11 rfl
theorem e88_11n {ls : mj_L} {st : List Value} {σ : mj_S} {τ : mj_T} {a0 a1 : Option Value} : mj_E 88 11 (a0 :: a1 :: some .null :: ls) st σ τ = mj_E 88 12 (a0 :: a1 :: some .null :: ls) (.null :: st) σ τ := mj_nx i88_11 rfl
theorem i88_12 : mj_ins 88 12 = some (.ifnull 19, 15) := by decide +kernel
theorem e88_12 {ls : mj_L} {st : List Value} {σ : mj_S} {τ : mj_T} {v : Nat} : mj_E 88 12 ls (.ref v :: st) σ τ = mj_E 88 15 ls st σ τ := mj_nx i88_12 rfl
theorem e88_12n {ls : mj_L} {st : List Value} {σ : mj_S} {τ : mj_T} : mj_E 88 12 ls (.null :: st) σ τ = mj_E 88 19 ls st σ τ := mj_nx i88_12 rfl
theorem i88_15 : mj_ins 88 15 = some (.iload 3, 16) := by decide +kernel
theorem e88_15 {ls : mj_L} {st : List Value} {σ : mj_S} {τ : mj_T} {a0 a1 a2 : Option Value} {v : Int32} : mj_E 88 15 (a0 :: a1 :: a2 :: some (.int v) :: ls) st σ τ = mj_E 88 16 (a0 :: a1 :: a2 :: some (.int v) :: ls) (.int v :: st) σ τ := mj_nx i88_15 rfl
theorem i88_16 : mj_ins 88 16 = some (.ifCond .eq 25, 19) := by decide +kernel
theorem e88_16 {ls : mj_L} {st : List Value} {σ : mj_S} {τ : mj_T} {x : Int32} : mj_E 88 16 ls (.int x :: st) σ τ = if x = 0 then mj_E 88 25 ls st σ τ else mj_E 88 19 ls st σ τ := (mj_ifc i88_16).trans (mj_cdT rfl)
theorem i88_19 : mj_ins 88 19 = some (.aload 0, 20) := by decide +kernel
theorem e88_19 {ls : mj_L} {st : List Value} {σ : mj_S} {τ : mj_T} {v : Nat} : mj_E 88 19 (some (.ref v) :: ls) st σ τ = mj_E 88 20 (some (.ref v) :: ls) (.ref v :: st) σ τ := mj_nx i88_19 rfl
theorem i88_20 : mj_ins 88 20 = some (.iload 3, 21) := by decide +kernel
theorem e88_20 {ls : mj_L} {st : List Value} {σ : mj_S} {τ : mj_T} {a0 a1 a2 : Option Value} {v : Int32} : mj_E 88 20 (a0 :: a1 :: a2 :: some (.int v) :: ls) st σ τ = mj_E 88 21 (a0 :: a1 :: a2 :: some (.int v) :: ls) (.int v :: st) σ τ := mj_nx i88_20 rfl
theorem i88_21 : mj_ins 88 21 = some (.invokevirtual 112, 24) := by decide +kernel
theorem e88_21 {ls : mj_L} {σ : mj_S} {τ : mj_T} {r : Nat} {x0 : Int32} : mj_E 88 21 ls [.int x0, .ref r] σ τ = if mj_rcv r 6 = true then mj_bd (mj_C 112 [.ref r, .int x0] σ τ) (mj_K 88 24 ls []) else none := mj_clV (as := [.int x0]) (r := []) i88_21 (by decide +kernel : mj_vk 88 112 1 0 2 false = true) (by decide +kernel)
theorem i88_24 : mj_ins 88 24 = some (.ireturn, 25) := by decide +kernel
theorem e88_24 {ls : mj_L} {σ : mj_S} {τ : mj_T} {v : Int32} : mj_E 88 24 ls [.int v] σ τ = some (some (.int v), σ, τ) := mj_irt i88_24 rfl
theorem i88_25 : mj_ins 88 25 = some (.aload 0, 26) := by decide +kernel
theorem e88_25 {ls : mj_L} {st : List Value} {σ : mj_S} {τ : mj_T} {v : Nat} : mj_E 88 25 (some (.ref v) :: ls) st σ τ = mj_E 88 26 (some (.ref v) :: ls) (.ref v :: st) σ τ := mj_nx i88_25 rfl
theorem i88_26 : mj_ins 88 26 = some (.getfield 601, 29) := by decide +kernel
theorem e88_26 {ls : mj_L} {st : List Value} {σ : mj_S} {τ : mj_T} : mj_E 88 26 ls (.ref 0 :: st) σ τ = mj_E 88 29 ls (.ref 2 :: st) σ τ := mj_nx i88_26 rfl
theorem i88_29 : mj_ins 88 29 = some (.aload 0, 30) := by decide +kernel
theorem e88_29 {ls : mj_L} {st : List Value} {σ : mj_S} {τ : mj_T} {v : Nat} : mj_E 88 29 (some (.ref v) :: ls) st σ τ = mj_E 88 30 (some (.ref v) :: ls) (.ref v :: st) σ τ := mj_nx i88_29 rfl
theorem i88_30 : mj_ins 88 30 = some (.getfield 600, 33) := by decide +kernel
theorem e88_30 {ls : mj_L} {st : List Value} {σ : mj_S} {τ : mj_T} : mj_E 88 30 ls (.ref 0 :: st) σ τ = mj_E 88 33 ls (.ref 1 :: st) σ τ := mj_nx i88_30 rfl
theorem i88_33 : mj_ins 88 33 = some (.invokevirtual 6, 36) := by decide +kernel
theorem e88_33 {ls : mj_L} {σ : mj_S} {τ : mj_T} {r : Nat} {x0 : Nat} : mj_E 88 33 ls [.ref x0, .ref r] σ τ = if mj_rcv r 1 = true then mj_bd (mj_C 6 [.ref r, .ref x0] σ τ) (mj_K 88 36 ls []) else none := mj_clV (as := [.ref x0]) (r := []) i88_33 (by decide +kernel : mj_vk 88 6 1 0 2 false = true) (by decide +kernel)
theorem i88_36 : mj_ins 88 36 = some (.aload 0, 37) := by decide +kernel
theorem e88_36 {ls : mj_L} {st : List Value} {σ : mj_S} {τ : mj_T} {v : Nat} : mj_E 88 36 (some (.ref v) :: ls) st σ τ = mj_E 88 37 (some (.ref v) :: ls) (.ref v :: st) σ τ := mj_nx i88_36 rfl
theorem i88_37 : mj_ins 88 37 = some (.getfield 606, 40) := by decide +kernel
theorem e88_37 {ls : mj_L} {st : List Value} {σ : mj_S} {τ : mj_T} : mj_E 88 37 ls (.ref 0 :: st) σ τ = mj_E 88 40 ls (.ref 9 :: st) σ τ := mj_nx i88_37 rfl
theorem i88_40 : mj_ins 88 40 = some (.aload 0, 41) := by decide +kernel
theorem e88_40 {ls : mj_L} {st : List Value} {σ : mj_S} {τ : mj_T} {v : Nat} : mj_E 88 40 (some (.ref v) :: ls) st σ τ = mj_E 88 41 (some (.ref v) :: ls) (.ref v :: st) σ τ := mj_nx i88_40 rfl
theorem i88_41 : mj_ins 88 41 = some (.getfield 601, 44) := by decide +kernel
theorem e88_41 {ls : mj_L} {st : List Value} {σ : mj_S} {τ : mj_T} : mj_E 88 41 ls (.ref 0 :: st) σ τ = mj_E 88 44 ls (.ref 2 :: st) σ τ := mj_nx i88_41 rfl
theorem i88_44 : mj_ins 88 44 = some (.aload 2, 45) := by decide +kernel
theorem e88_44 {ls : mj_L} {st : List Value} {σ : mj_S} {τ : mj_T} {a0 a1 : Option Value} {v : Nat} : mj_E 88 44 (a0 :: a1 :: some (.ref v) :: ls) st σ τ = mj_E 88 45 (a0 :: a1 :: some (.ref v) :: ls) (.ref v :: st) σ τ := mj_nx i88_44 rfl
theorem e88_44n {ls : mj_L} {st : List Value} {σ : mj_S} {τ : mj_T} {a0 a1 : Option Value} : mj_E 88 44 (a0 :: a1 :: some .null :: ls) st σ τ = mj_E 88 45 (a0 :: a1 :: some .null :: ls) (.null :: st) σ τ := mj_nx i88_44 rfl
theorem i88_45 : mj_ins 88 45 = some (.invokevirtual 44, 48) := by decide +kernel
theorem e88_45 {ls : mj_L} {σ : mj_S} {τ : mj_T} {r : Nat} {x0 : Nat} {x1 : Nat} : mj_E 88 45 ls [.ref x1, .ref x0, .ref r] σ τ = if mj_rcv r 3 = true then mj_bd (mj_C 44 [.ref r, .ref x0, .ref x1] σ τ) (mj_K 88 48 ls []) else none := mj_clV (as := [.ref x0, .ref x1]) (r := []) i88_45 (by decide +kernel : mj_vk 88 44 2 0 3 false = true) (by decide +kernel)
theorem i88_48 : mj_ins 88 48 = some (.istore 4, 50) := by decide +kernel
theorem e88_48 {ls : mj_L} {st : List Value} {σ : mj_S} {τ : mj_T} {a0 a1 a2 a3 a4 : Option Value} {v : Int32} : mj_E 88 48 (a0 :: a1 :: a2 :: a3 :: a4 :: ls) (.int v :: st) σ τ = mj_E 88 50 (a0 :: a1 :: a2 :: a3 :: some (.int v) :: ls) st σ τ := mj_nx i88_48 rfl
theorem i88_50 : mj_ins 88 50 = some (.aload 0, 51) := by decide +kernel
theorem e88_50 {ls : mj_L} {st : List Value} {σ : mj_S} {τ : mj_T} {v : Nat} : mj_E 88 50 (some (.ref v) :: ls) st σ τ = mj_E 88 51 (some (.ref v) :: ls) (.ref v :: st) σ τ := mj_nx i88_50 rfl
theorem i88_51 : mj_ins 88 51 = some (.aload 0, 52) := by decide +kernel
theorem e88_51 {ls : mj_L} {st : List Value} {σ : mj_S} {τ : mj_T} {v : Nat} : mj_E 88 51 (some (.ref v) :: ls) st σ τ = mj_E 88 52 (some (.ref v) :: ls) (.ref v :: st) σ τ := mj_nx i88_51 rfl
theorem i88_52 : mj_ins 88 52 = some (.getfield 606, 55) := by decide +kernel
theorem e88_52 {ls : mj_L} {st : List Value} {σ : mj_S} {τ : mj_T} : mj_E 88 52 ls (.ref 0 :: st) σ τ = mj_E 88 55 ls (.ref 9 :: st) σ τ := mj_nx i88_52 rfl
theorem i88_55 : mj_ins 88 55 = some (.getfield 300, 58) := by decide +kernel
theorem e88_55 {ls : mj_L} {st : List Value} {σ : mj_S} {τ : mj_T} : mj_E 88 55 ls (.ref 9 :: st) σ τ = mj_E 88 58 ls (.int (σ 9 0) :: st) σ τ := mj_nx i88_55 rfl
theorem i88_58 : mj_ins 88 58 = some (.putfield 609, 61) := by decide +kernel
theorem e88_58 {ls : mj_L} {st : List Value} {σ : mj_S} {τ : mj_T} {v : Int32} : mj_E 88 58 ls (.int v :: .ref 0 :: st) σ τ = mj_E 88 61 ls st (mj_up σ 0 9 v) τ := mj_nx i88_58 rfl
theorem i88_61 : mj_ins 88 61 = some (.aload 0, 62) := by decide +kernel
theorem e88_61 {ls : mj_L} {st : List Value} {σ : mj_S} {τ : mj_T} {v : Nat} : mj_E 88 61 (some (.ref v) :: ls) st σ τ = mj_E 88 62 (some (.ref v) :: ls) (.ref v :: st) σ τ := mj_nx i88_61 rfl
theorem i88_62 : mj_ins 88 62 = some (.getfield 609, 65) := by decide +kernel
theorem e88_62 {ls : mj_L} {st : List Value} {σ : mj_S} {τ : mj_T} : mj_E 88 62 ls (.ref 0 :: st) σ τ = mj_E 88 65 ls (.int (σ 0 9) :: st) σ τ := mj_nx i88_62 rfl
theorem i88_65 : mj_ins 88 65 = some (.iconst (-1), 66) := by decide +kernel
theorem e88_65 {ls : mj_L} {st : List Value} {σ : mj_S} {τ : mj_T} : mj_E 88 65 ls st σ τ = mj_E 88 66 ls (.int ((-1)) :: st) σ τ := mj_nx i88_65 rfl
theorem i88_66 : mj_ins 88 66 = some (.if_icmp .eq 76, 69) := by decide +kernel
theorem e88_66 {ls : mj_L} {st : List Value} {σ : mj_S} {τ : mj_T} {x y : Int32} : mj_E 88 66 ls (.int y :: .int x :: st) σ τ = if x = y then mj_E 88 76 ls st σ τ else mj_E 88 69 ls st σ τ := (mj_ifi i88_66).trans (mj_cdT rfl)
theorem i88_69 : mj_ins 88 69 = some (.aload 0, 70) := by decide +kernel
theorem e88_69 {ls : mj_L} {st : List Value} {σ : mj_S} {τ : mj_T} {v : Nat} : mj_E 88 69 (some (.ref v) :: ls) st σ τ = mj_E 88 70 (some (.ref v) :: ls) (.ref v :: st) σ τ := mj_nx i88_69 rfl
theorem i88_70 : mj_ins 88 70 = some (.iconst (-6), 72) := by decide +kernel
theorem e88_70 {ls : mj_L} {st : List Value} {σ : mj_S} {τ : mj_T} : mj_E 88 70 ls st σ τ = mj_E 88 72 ls (.int ((-6)) :: st) σ τ := mj_nx i88_70 rfl
theorem i88_72 : mj_ins 88 72 = some (.invokevirtual 112, 75) := by decide +kernel
theorem e88_72 {ls : mj_L} {σ : mj_S} {τ : mj_T} {r : Nat} {x0 : Int32} : mj_E 88 72 ls [.int x0, .ref r] σ τ = if mj_rcv r 6 = true then mj_bd (mj_C 112 [.ref r, .int x0] σ τ) (mj_K 88 75 ls []) else none := mj_clV (as := [.int x0]) (r := []) i88_72 (by decide +kernel : mj_vk 88 112 1 0 2 false = true) (by decide +kernel)
theorem i88_75 : mj_ins 88 75 = some (.ireturn, 76) := by decide +kernel
theorem e88_75 {ls : mj_L} {σ : mj_S} {τ : mj_T} {v : Int32} : mj_E 88 75 ls [.int v] σ τ = some (some (.int v), σ, τ) := mj_irt i88_75 rfl
theorem i88_76 : mj_ins 88 76 = some (.aload 0, 77) := by decide +kernel
theorem e88_76 {ls : mj_L} {st : List Value} {σ : mj_S} {τ : mj_T} {v : Nat} : mj_E 88 76 (some (.ref v) :: ls) st σ τ = mj_E 88 77 (some (.ref v) :: ls) (.ref v :: st) σ τ := mj_nx i88_76 rfl
theorem i88_77 : mj_ins 88 77 = some (.getfield 600, 80) := by decide +kernel
theorem e88_77 {ls : mj_L} {st : List Value} {σ : mj_S} {τ : mj_T} : mj_E 88 77 ls (.ref 0 :: st) σ τ = mj_E 88 80 ls (.ref 1 :: st) σ τ := mj_nx i88_77 rfl
theorem i88_80 : mj_ins 88 80 = some (.aload 0, 81) := by decide +kernel
theorem e88_80 {ls : mj_L} {st : List Value} {σ : mj_S} {τ : mj_T} {v : Nat} : mj_E 88 80 (some (.ref v) :: ls) st σ τ = mj_E 88 81 (some (.ref v) :: ls) (.ref v :: st) σ τ := mj_nx i88_80 rfl
theorem i88_81 : mj_ins 88 81 = some (.getfield 601, 84) := by decide +kernel
theorem e88_81 {ls : mj_L} {st : List Value} {σ : mj_S} {τ : mj_T} : mj_E 88 81 ls (.ref 0 :: st) σ τ = mj_E 88 84 ls (.ref 2 :: st) σ τ := mj_nx i88_81 rfl
theorem i88_84 : mj_ins 88 84 = some (.invokevirtual 6, 87) := by decide +kernel
theorem e88_84 {ls : mj_L} {σ : mj_S} {τ : mj_T} {r : Nat} {x0 : Nat} : mj_E 88 84 ls [.ref x0, .ref r] σ τ = if mj_rcv r 1 = true then mj_bd (mj_C 6 [.ref r, .ref x0] σ τ) (mj_K 88 87 ls []) else none := mj_clV (as := [.ref x0]) (r := []) i88_84 (by decide +kernel : mj_vk 88 6 1 0 2 false = true) (by decide +kernel)
theorem i88_87 : mj_ins 88 87 = some (.iload 4, 89) := by decide +kernel
theorem e88_87 {ls : mj_L} {st : List Value} {σ : mj_S} {τ : mj_T} {a0 a1 a2 a3 : Option Value} {v : Int32} : mj_E 88 87 (a0 :: a1 :: a2 :: a3 :: some (.int v) :: ls) st σ τ = mj_E 88 89 (a0 :: a1 :: a2 :: a3 :: some (.int v) :: ls) (.int v :: st) σ τ := mj_nx i88_87 rfl
theorem i88_89 : mj_ins 88 89 = some (.ireturn, 90) := by decide +kernel
theorem e88_89 {ls : mj_L} {σ : mj_S} {τ : mj_T} {v : Int32} : mj_E 88 89 ls [.int v] σ τ = some (some (.int v), σ, τ) := mj_irt i88_89 rfl
theorem c89 {σ : mj_S} {τ : mj_T} {r : Nat} : mj_C 89 [.ref r] σ τ = mj_E 89 0 [some (.ref r)] [] σ τ := rfl
theorem i89_0 : mj_ins 89 0 = some (.aload 0, 1) := by decide +kernel
theorem e89_0 {ls : mj_L} {st : List Value} {σ : mj_S} {τ : mj_T} {v : Nat} : mj_E 89 0 (some (.ref v) :: ls) st σ τ = mj_E 89 1 (some (.ref v) :: ls) (.ref v :: st) σ τ := mj_nx i89_0 rfl
theorem i89_1 : mj_ins 89 1 = some (.getfield 609, 4) := by decide +kernel
theorem e89_1 {ls : mj_L} {st : List Value} {σ : mj_S} {τ : mj_T} : mj_E 89 1 ls (.ref 0 :: st) σ τ = mj_E 89 4 ls (.int (σ 0 9) :: st) σ τ := mj_nx i89_1 rfl
theorem i89_4 : mj_ins 89 4 = some (.ireturn, 5) := by decide +kernel
theorem e89_4 {ls : mj_L} {σ : mj_S} {τ : mj_T} {v : Int32} : mj_E 89 4 ls [.int v] σ τ = some (some (.int v), σ, τ) := mj_irt i89_4 rfl
theorem c90 {σ : mj_S} {τ : mj_T} {r : Nat} {x0 : Int32} {x1 : Int32} : mj_C 90 [.ref r, .int x0, .int x1] σ τ = mj_E 90 0 [some (.ref r), some (.int x0), some (.int x1)] [] σ τ := rfl
theorem i90_0 : mj_ins 90 0 = some (.aload 0, 1) := by decide +kernel
theorem e90_0 {ls : mj_L} {st : List Value} {σ : mj_S} {τ : mj_T} {v : Nat} : mj_E 90 0 (some (.ref v) :: ls) st σ τ = mj_E 90 1 (some (.ref v) :: ls) (.ref v :: st) σ τ := mj_nx i90_0 rfl
theorem i90_1 : mj_ins 90 1 = some (.getfield 600, 4) := by decide +kernel
theorem e90_1 {ls : mj_L} {st : List Value} {σ : mj_S} {τ : mj_T} : mj_E 90 1 ls (.ref 0 :: st) σ τ = mj_E 90 4 ls (.ref 1 :: st) σ τ := mj_nx i90_1 rfl
theorem i90_4 : mj_ins 90 4 = some (.iload 1, 5) := by decide +kernel
theorem e90_4 {ls : mj_L} {st : List Value} {σ : mj_S} {τ : mj_T} {a0 : Option Value} {v : Int32} : mj_E 90 4 (a0 :: some (.int v) :: ls) st σ τ = mj_E 90 5 (a0 :: some (.int v) :: ls) (.int v :: st) σ τ := mj_nx i90_4 rfl
theorem i90_5 : mj_ins 90 5 = some (.invokevirtual 8, 8) := by decide +kernel
theorem e90_5 {ls : mj_L} {σ : mj_S} {τ : mj_T} {r : Nat} {x0 : Int32} : mj_E 90 5 ls [.int x0, .ref r] σ τ = if mj_rcv r 1 = true then mj_bd (mj_C 8 [.ref r, .int x0] σ τ) (mj_K 90 8 ls []) else none := mj_clV (as := [.int x0]) (r := []) i90_5 (by decide +kernel : mj_vk 90 8 1 0 2 false = true) (by decide +kernel)
theorem i90_8 : mj_ins 90 8 = some (.ifCond .ne 17, 11) := by decide +kernel
theorem e90_8 {ls : mj_L} {st : List Value} {σ : mj_S} {τ : mj_T} {x : Int32} : mj_E 90 8 ls (.int x :: st) σ τ = if x = 0 then mj_E 90 11 ls st σ τ else mj_E 90 17 ls st σ τ := (mj_ifc i90_8).trans (mj_cdF rfl)
theorem i90_11 : mj_ins 90 11 = some (.aload 0, 12) := by decide +kernel
theorem e90_11 {ls : mj_L} {st : List Value} {σ : mj_S} {τ : mj_T} {v : Nat} : mj_E 90 11 (some (.ref v) :: ls) st σ τ = mj_E 90 12 (some (.ref v) :: ls) (.ref v :: st) σ τ := mj_nx i90_11 rfl
theorem i90_12 : mj_ins 90 12 = some (.iconst (-1), 13) := by decide +kernel
theorem e90_12 {ls : mj_L} {st : List Value} {σ : mj_S} {τ : mj_T} : mj_E 90 12 ls st σ τ = mj_E 90 13 ls (.int ((-1)) :: st) σ τ := mj_nx i90_12 rfl
theorem i90_13 : mj_ins 90 13 = some (.invokevirtual 113, 16) := by decide +kernel
theorem e90_13 {ls : mj_L} {σ : mj_S} {τ : mj_T} {r : Nat} {x0 : Int32} : mj_E 90 13 ls [.int x0, .ref r] σ τ = if mj_rcv r 6 = true then mj_bd (mj_C 113 [.ref r, .int x0] σ τ) (mj_K 90 16 ls []) else none := mj_clV (as := [.int x0]) (r := []) i90_13 (by decide +kernel : mj_vk 90 113 1 0 2 false = true) (by decide +kernel)
theorem i90_16 : mj_ins 90 16 = some (.ireturn, 17) := by decide +kernel
theorem e90_16 {ls : mj_L} {σ : mj_S} {τ : mj_T} {v : Int32} : mj_E 90 16 ls [.int v] σ τ = some (some (.int v), σ, τ) := mj_irt i90_16 rfl
theorem i90_17 : mj_ins 90 17 = some (.iload 2, 18) := by decide +kernel
theorem e90_17 {ls : mj_L} {st : List Value} {σ : mj_S} {τ : mj_T} {a0 a1 : Option Value} {v : Int32} : mj_E 90 17 (a0 :: a1 :: some (.int v) :: ls) st σ τ = mj_E 90 18 (a0 :: a1 :: some (.int v) :: ls) (.int v :: st) σ τ := mj_nx i90_17 rfl
theorem i90_18 : mj_ins 90 18 = some (.iconst (2), 19) := by decide +kernel
theorem e90_18 {ls : mj_L} {st : List Value} {σ : mj_S} {τ : mj_T} : mj_E 90 18 ls st σ τ = mj_E 90 19 ls (.int (nI 2) :: st) σ τ := mj_nx i90_18 rfl
theorem i90_19 : mj_ins 90 19 = some (.invokestatic 116, 22) := by decide +kernel
theorem e90_19 {ls : mj_L} {σ : mj_S} {τ : mj_T} {x0 : Int32} {x1 : Int32} : mj_E 90 19 ls [.int x1, .int x0] σ τ = mj_bd (mj_C 116 [.int x0, .int x1] σ τ) (mj_K 90 22 ls []) := mj_clS (as := [.int x0, .int x1]) (r := []) i90_19 (by decide +kernel : mj_vk 90 116 2 0 2 false = true) rfl
theorem i90_22 : mj_ins 90 22 = some (.ifCond .ne 32, 25) := by decide +kernel
theorem e90_22 {ls : mj_L} {st : List Value} {σ : mj_S} {τ : mj_T} {x : Int32} : mj_E 90 22 ls (.int x :: st) σ τ = if x = 0 then mj_E 90 25 ls st σ τ else mj_E 90 32 ls st σ τ := (mj_ifc i90_22).trans (mj_cdF rfl)
theorem i90_25 : mj_ins 90 25 = some (.aload 0, 26) := by decide +kernel
theorem e90_25 {ls : mj_L} {st : List Value} {σ : mj_S} {τ : mj_T} {v : Nat} : mj_E 90 25 (some (.ref v) :: ls) st σ τ = mj_E 90 26 (some (.ref v) :: ls) (.ref v :: st) σ τ := mj_nx i90_25 rfl
theorem i90_26 : mj_ins 90 26 = some (.iconst (-5), 28) := by decide +kernel
theorem e90_26 {ls : mj_L} {st : List Value} {σ : mj_S} {τ : mj_T} : mj_E 90 26 ls st σ τ = mj_E 90 28 ls (.int ((-5)) :: st) σ τ := mj_nx i90_26 rfl
theorem i90_28 : mj_ins 90 28 = some (.invokevirtual 113, 31) := by decide +kernel
theorem e90_28 {ls : mj_L} {σ : mj_S} {τ : mj_T} {r : Nat} {x0 : Int32} : mj_E 90 28 ls [.int x0, .ref r] σ τ = if mj_rcv r 6 = true then mj_bd (mj_C 113 [.ref r, .int x0] σ τ) (mj_K 90 31 ls []) else none := mj_clV (as := [.int x0]) (r := []) i90_28 (by decide +kernel : mj_vk 90 113 1 0 2 false = true) (by decide +kernel)
theorem i90_31 : mj_ins 90 31 = some (.ireturn, 32) := by decide +kernel
theorem e90_31 {ls : mj_L} {σ : mj_S} {τ : mj_T} {v : Int32} : mj_E 90 31 ls [.int v] σ τ = some (some (.int v), σ, τ) := mj_irt i90_31 rfl
theorem i90_32 : mj_ins 90 32 = some (.aload 0, 33) := by decide +kernel
theorem e90_32 {ls : mj_L} {st : List Value} {σ : mj_S} {τ : mj_T} {v : Nat} : mj_E 90 32 (some (.ref v) :: ls) st σ τ = mj_E 90 33 (some (.ref v) :: ls) (.ref v :: st) σ τ := mj_nx i90_32 rfl
theorem i90_33 : mj_ins 90 33 = some (.getfield 600, 36) := by decide +kernel
theorem e90_33 {ls : mj_L} {st : List Value} {σ : mj_S} {τ : mj_T} : mj_E 90 33 ls (.ref 0 :: st) σ τ = mj_E 90 36 ls (.ref 1 :: st) σ τ := mj_nx i90_33 rfl
theorem i90_36 : mj_ins 90 36 = some (.iload 1, 37) := by decide +kernel
theorem e90_36 {ls : mj_L} {st : List Value} {σ : mj_S} {τ : mj_T} {a0 : Option Value} {v : Int32} : mj_E 90 36 (a0 :: some (.int v) :: ls) st σ τ = mj_E 90 37 (a0 :: some (.int v) :: ls) (.int v :: st) σ τ := mj_nx i90_36 rfl
theorem i90_37 : mj_ins 90 37 = some (.invokevirtual 25, 40) := by decide +kernel
theorem e90_37 {ls : mj_L} {σ : mj_S} {τ : mj_T} {r : Nat} {x0 : Int32} : mj_E 90 37 ls [.int x0, .ref r] σ τ = if mj_rcv r 1 = true then mj_bd (mj_C 25 [.ref r, .int x0] σ τ) (mj_K 90 40 ls []) else none := mj_clV (as := [.int x0]) (r := []) i90_37 (by decide +kernel : mj_vk 90 25 1 0 2 false = true) (by decide +kernel)
theorem i90_40 : mj_ins 90 40 = some (.iload 2, 41) := by decide +kernel
theorem e90_40 {ls : mj_L} {st : List Value} {σ : mj_S} {τ : mj_T} {a0 a1 : Option Value} {v : Int32} : mj_E 90 40 (a0 :: a1 :: some (.int v) :: ls) st σ τ = mj_E 90 41 (a0 :: a1 :: some (.int v) :: ls) (.int v :: st) σ τ := mj_nx i90_40 rfl
theorem i90_41 : mj_ins 90 41 = some (.invokevirtual 2, 44) := by decide +kernel
theorem e90_41 {ls : mj_L} {σ : mj_S} {τ : mj_T} {r : Nat} {x0 : Int32} : mj_E 90 41 ls [.int x0, .ref r] σ τ = if mj_rcv r 0 = true then mj_bd (mj_C 2 [.ref r, .int x0] σ τ) (mj_K 90 44 ls []) else none := mj_clV (as := [.int x0]) (r := []) i90_41 (by decide +kernel : mj_vk 90 2 1 0 2 false = true) (by decide +kernel)
theorem i90_44 : mj_ins 90 44 = some (.ireturn, 45) := by decide +kernel
theorem e90_44 {ls : mj_L} {σ : mj_S} {τ : mj_T} {v : Int32} : mj_E 90 44 ls [.int v] σ τ = some (some (.int v), σ, τ) := mj_irt i90_44 rfl
theorem c91 {σ : mj_S} {τ : mj_T} {r : Nat} {x0 : Int32} {x1 : Int32} : mj_C 91 [.ref r, .int x0, .int x1] σ τ = mj_E 91 0 [some (.ref r), some (.int x0), some (.int x1)] [] σ τ := rfl
theorem i91_0 : mj_ins 91 0 = some (.aload 0, 1) := by decide +kernel
theorem e91_0 {ls : mj_L} {st : List Value} {σ : mj_S} {τ : mj_T} {v : Nat} : mj_E 91 0 (some (.ref v) :: ls) st σ τ = mj_E 91 1 (some (.ref v) :: ls) (.ref v :: st) σ τ := mj_nx i91_0 rfl
theorem i91_1 : mj_ins 91 1 = some (.getfield 600, 4) := by decide +kernel
theorem e91_1 {ls : mj_L} {st : List Value} {σ : mj_S} {τ : mj_T} : mj_E 91 1 ls (.ref 0 :: st) σ τ = mj_E 91 4 ls (.ref 1 :: st) σ τ := mj_nx i91_1 rfl
theorem i91_4 : mj_ins 91 4 = some (.iload 1, 5) := by decide +kernel
theorem e91_4 {ls : mj_L} {st : List Value} {σ : mj_S} {τ : mj_T} {a0 : Option Value} {v : Int32} : mj_E 91 4 (a0 :: some (.int v) :: ls) st σ τ = mj_E 91 5 (a0 :: some (.int v) :: ls) (.int v :: st) σ τ := mj_nx i91_4 rfl
theorem i91_5 : mj_ins 91 5 = some (.invokevirtual 7, 8) := by decide +kernel
theorem e91_5 {ls : mj_L} {σ : mj_S} {τ : mj_T} {r : Nat} {x0 : Int32} : mj_E 91 5 ls [.int x0, .ref r] σ τ = if mj_rcv r 1 = true then mj_bd (mj_C 7 [.ref r, .int x0] σ τ) (mj_K 91 8 ls []) else none := mj_clV (as := [.int x0]) (r := []) i91_5 (by decide +kernel : mj_vk 91 7 1 0 2 false = true) (by decide +kernel)
theorem i91_8 : mj_ins 91 8 = some (.ifCond .ne 17, 11) := by decide +kernel
theorem e91_8 {ls : mj_L} {st : List Value} {σ : mj_S} {τ : mj_T} {x : Int32} : mj_E 91 8 ls (.int x :: st) σ τ = if x = 0 then mj_E 91 11 ls st σ τ else mj_E 91 17 ls st σ τ := (mj_ifc i91_8).trans (mj_cdF rfl)
theorem i91_11 : mj_ins 91 11 = some (.aload 0, 12) := by decide +kernel
theorem e91_11 {ls : mj_L} {st : List Value} {σ : mj_S} {τ : mj_T} {v : Nat} : mj_E 91 11 (some (.ref v) :: ls) st σ τ = mj_E 91 12 (some (.ref v) :: ls) (.ref v :: st) σ τ := mj_nx i91_11 rfl
theorem i91_12 : mj_ins 91 12 = some (.iconst (-1), 13) := by decide +kernel
theorem e91_12 {ls : mj_L} {st : List Value} {σ : mj_S} {τ : mj_T} : mj_E 91 12 ls st σ τ = mj_E 91 13 ls (.int ((-1)) :: st) σ τ := mj_nx i91_12 rfl
theorem i91_13 : mj_ins 91 13 = some (.invokevirtual 112, 16) := by decide +kernel
theorem e91_13 {ls : mj_L} {σ : mj_S} {τ : mj_T} {r : Nat} {x0 : Int32} : mj_E 91 13 ls [.int x0, .ref r] σ τ = if mj_rcv r 6 = true then mj_bd (mj_C 112 [.ref r, .int x0] σ τ) (mj_K 91 16 ls []) else none := mj_clV (as := [.int x0]) (r := []) i91_13 (by decide +kernel : mj_vk 91 112 1 0 2 false = true) (by decide +kernel)
theorem i91_16 : mj_ins 91 16 = some (.ireturn, 17) := by decide +kernel
theorem e91_16 {ls : mj_L} {σ : mj_S} {τ : mj_T} {v : Int32} : mj_E 91 16 ls [.int v] σ τ = some (some (.int v), σ, τ) := mj_irt i91_16 rfl
theorem i91_17 : mj_ins 91 17 = some (.iload 2, 18) := by decide +kernel
theorem e91_17 {ls : mj_L} {st : List Value} {σ : mj_S} {τ : mj_T} {a0 a1 : Option Value} {v : Int32} : mj_E 91 17 (a0 :: a1 :: some (.int v) :: ls) st σ τ = mj_E 91 18 (a0 :: a1 :: some (.int v) :: ls) (.int v :: st) σ τ := mj_nx i91_17 rfl
theorem i91_18 : mj_ins 91 18 = some (.iconst (3), 19) := by decide +kernel
theorem e91_18 {ls : mj_L} {st : List Value} {σ : mj_S} {τ : mj_T} : mj_E 91 18 ls st σ τ = mj_E 91 19 ls (.int (nI 3) :: st) σ τ := mj_nx i91_18 rfl
theorem i91_19 : mj_ins 91 19 = some (.invokestatic 116, 22) := by decide +kernel
theorem e91_19 {ls : mj_L} {σ : mj_S} {τ : mj_T} {x0 : Int32} {x1 : Int32} : mj_E 91 19 ls [.int x1, .int x0] σ τ = mj_bd (mj_C 116 [.int x0, .int x1] σ τ) (mj_K 91 22 ls []) := mj_clS (as := [.int x0, .int x1]) (r := []) i91_19 (by decide +kernel : mj_vk 91 116 2 0 2 false = true) rfl
theorem i91_22 : mj_ins 91 22 = some (.ifCond .ne 32, 25) := by decide +kernel
theorem e91_22 {ls : mj_L} {st : List Value} {σ : mj_S} {τ : mj_T} {x : Int32} : mj_E 91 22 ls (.int x :: st) σ τ = if x = 0 then mj_E 91 25 ls st σ τ else mj_E 91 32 ls st σ τ := (mj_ifc i91_22).trans (mj_cdF rfl)
theorem i91_25 : mj_ins 91 25 = some (.aload 0, 26) := by decide +kernel
theorem e91_25 {ls : mj_L} {st : List Value} {σ : mj_S} {τ : mj_T} {v : Nat} : mj_E 91 25 (some (.ref v) :: ls) st σ τ = mj_E 91 26 (some (.ref v) :: ls) (.ref v :: st) σ τ := mj_nx i91_25 rfl
theorem i91_26 : mj_ins 91 26 = some (.iconst (-5), 28) := by decide +kernel
theorem e91_26 {ls : mj_L} {st : List Value} {σ : mj_S} {τ : mj_T} : mj_E 91 26 ls st σ τ = mj_E 91 28 ls (.int ((-5)) :: st) σ τ := mj_nx i91_26 rfl
theorem i91_28 : mj_ins 91 28 = some (.invokevirtual 112, 31) := by decide +kernel
theorem e91_28 {ls : mj_L} {σ : mj_S} {τ : mj_T} {r : Nat} {x0 : Int32} : mj_E 91 28 ls [.int x0, .ref r] σ τ = if mj_rcv r 6 = true then mj_bd (mj_C 112 [.ref r, .int x0] σ τ) (mj_K 91 31 ls []) else none := mj_clV (as := [.int x0]) (r := []) i91_28 (by decide +kernel : mj_vk 91 112 1 0 2 false = true) (by decide +kernel)
theorem i91_31 : mj_ins 91 31 = some (.ireturn, 32) := by decide +kernel
theorem e91_31 {ls : mj_L} {σ : mj_S} {τ : mj_T} {v : Int32} : mj_E 91 31 ls [.int v] σ τ = some (some (.int v), σ, τ) := mj_irt i91_31 rfl
theorem i91_32 : mj_ins 91 32 = some (.iload 2, 33) := by decide +kernel
theorem e91_32 {ls : mj_L} {st : List Value} {σ : mj_S} {τ : mj_T} {a0 a1 : Option Value} {v : Int32} : mj_E 91 32 (a0 :: a1 :: some (.int v) :: ls) st σ τ = mj_E 91 33 (a0 :: a1 :: some (.int v) :: ls) (.int v :: st) σ τ := mj_nx i91_32 rfl
theorem i91_33 : mj_ins 91 33 = some (.iconst (2), 34) := by decide +kernel
theorem e91_33 {ls : mj_L} {st : List Value} {σ : mj_S} {τ : mj_T} : mj_E 91 33 ls st σ τ = mj_E 91 34 ls (.int (nI 2) :: st) σ τ := mj_nx i91_33 rfl
theorem i91_34 : mj_ins 91 34 = some (.if_icmp .le 48, 37) := by decide +kernel
theorem e91_34 {ls : mj_L} {st : List Value} {σ : mj_S} {τ : mj_T} {x y : Int32} : mj_E 91 34 ls (.int y :: .int x :: st) σ τ = if x ≤ y then mj_E 91 48 ls st σ τ else mj_E 91 37 ls st σ τ := (mj_ifi i91_34).trans (mj_cdT rfl)
theorem i91_37 : mj_ins 91 37 = some (.aload 0, 38) := by decide +kernel
theorem e91_37 {ls : mj_L} {st : List Value} {σ : mj_S} {τ : mj_T} {v : Nat} : mj_E 91 37 (some (.ref v) :: ls) st σ τ = mj_E 91 38 (some (.ref v) :: ls) (.ref v :: st) σ τ := mj_nx i91_37 rfl
theorem i91_38 : mj_ins 91 38 = some (.getfield 600, 41) := by decide +kernel
theorem e91_38 {ls : mj_L} {st : List Value} {σ : mj_S} {τ : mj_T} : mj_E 91 38 ls (.ref 0 :: st) σ τ = mj_E 91 41 ls (.ref 1 :: st) σ τ := mj_nx i91_38 rfl
theorem i91_41 : mj_ins 91 41 = some (.iload 1, 42) := by decide +kernel
theorem e91_41 {ls : mj_L} {st : List Value} {σ : mj_S} {τ : mj_T} {a0 : Option Value} {v : Int32} : mj_E 91 41 (a0 :: some (.int v) :: ls) st σ τ = mj_E 91 42 (a0 :: some (.int v) :: ls) (.int v :: st) σ τ := mj_nx i91_41 rfl
theorem i91_42 : mj_ins 91 42 = some (.invokevirtual 26, 45) := by decide +kernel
theorem e91_42 {ls : mj_L} {σ : mj_S} {τ : mj_T} {r : Nat} {x0 : Int32} : mj_E 91 42 ls [.int x0, .ref r] σ τ = if mj_rcv r 1 = true then mj_bd (mj_C 26 [.ref r, .int x0] σ τ) (mj_K 91 45 ls []) else none := mj_clV (as := [.int x0]) (r := []) i91_42 (by decide +kernel : mj_vk 91 26 1 0 2 false = true) (by decide +kernel)
theorem i91_45 : mj_ins 91 45 = some (.goto 57, 48) := by decide +kernel
theorem e91_45 {ls : mj_L} {st : List Value} {σ : mj_S} {τ : mj_T} : mj_E 91 45 ls st σ τ = mj_E 91 57 ls st σ τ := mj_nx i91_45 rfl
theorem i91_48 : mj_ins 91 48 = some (.aload 0, 49) := by decide +kernel
theorem e91_48 {ls : mj_L} {st : List Value} {σ : mj_S} {τ : mj_T} {v : Nat} : mj_E 91 48 (some (.ref v) :: ls) st σ τ = mj_E 91 49 (some (.ref v) :: ls) (.ref v :: st) σ τ := mj_nx i91_48 rfl
theorem i91_49 : mj_ins 91 49 = some (.getfield 600, 52) := by decide +kernel
theorem e91_49 {ls : mj_L} {st : List Value} {σ : mj_S} {τ : mj_T} : mj_E 91 49 ls (.ref 0 :: st) σ τ = mj_E 91 52 ls (.ref 1 :: st) σ τ := mj_nx i91_49 rfl
theorem i91_52 : mj_ins 91 52 = some (.iload 1, 53) := by decide +kernel
theorem e91_52 {ls : mj_L} {st : List Value} {σ : mj_S} {τ : mj_T} {a0 : Option Value} {v : Int32} : mj_E 91 52 (a0 :: some (.int v) :: ls) st σ τ = mj_E 91 53 (a0 :: some (.int v) :: ls) (.int v :: st) σ τ := mj_nx i91_52 rfl
theorem i91_53 : mj_ins 91 53 = some (.iload 2, 54) := by decide +kernel
theorem e91_53 {ls : mj_L} {st : List Value} {σ : mj_S} {τ : mj_T} {a0 a1 : Option Value} {v : Int32} : mj_E 91 53 (a0 :: a1 :: some (.int v) :: ls) st σ τ = mj_E 91 54 (a0 :: a1 :: some (.int v) :: ls) (.int v :: st) σ τ := mj_nx i91_53 rfl
theorem i91_54 : mj_ins 91 54 = some (.invokevirtual 27, 57) := by decide +kernel
theorem e91_54 {ls : mj_L} {σ : mj_S} {τ : mj_T} {r : Nat} {x0 : Int32} {x1 : Int32} : mj_E 91 54 ls [.int x1, .int x0, .ref r] σ τ = if mj_rcv r 1 = true then mj_bd (mj_C 27 [.ref r, .int x0, .int x1] σ τ) (mj_K 91 57 ls []) else none := mj_clV (as := [.int x0, .int x1]) (r := []) i91_54 (by decide +kernel : mj_vk 91 27 2 0 3 false = true) (by decide +kernel)
theorem i91_57 : mj_ins 91 57 = some (.ireturn, 58) := by decide +kernel
theorem e91_57 {ls : mj_L} {σ : mj_S} {τ : mj_T} {v : Int32} : mj_E 91 57 ls [.int v] σ τ = some (some (.int v), σ, τ) := mj_irt i91_57 rfl
theorem c92 {σ : mj_S} {τ : mj_T} {r : Nat} {x0 : Int32} : mj_C 92 [.ref r, .int x0] σ τ = mj_E 92 0 [some (.ref r), some (.int x0)] [] σ τ := rfl
theorem i92_0 : mj_ins 92 0 = some (.iload 1, 1) := by decide +kernel
theorem e92_0 {ls : mj_L} {st : List Value} {σ : mj_S} {τ : mj_T} {a0 : Option Value} {v : Int32} : mj_E 92 0 (a0 :: some (.int v) :: ls) st σ τ = mj_E 92 1 (a0 :: some (.int v) :: ls) (.int v :: st) σ τ := mj_nx i92_0 rfl
theorem i92_1 : mj_ins 92 1 = some (.iconst (1), 2) := by decide +kernel
theorem e92_1 {ls : mj_L} {st : List Value} {σ : mj_S} {τ : mj_T} : mj_E 92 1 ls st σ τ = mj_E 92 2 ls (.int (nI 1) :: st) σ τ := mj_nx i92_1 rfl
theorem i92_2 : mj_ins 92 2 = some (.invokestatic 116, 5) := by decide +kernel
theorem e92_2 {ls : mj_L} {σ : mj_S} {τ : mj_T} {x0 : Int32} {x1 : Int32} : mj_E 92 2 ls [.int x1, .int x0] σ τ = mj_bd (mj_C 116 [.int x0, .int x1] σ τ) (mj_K 92 5 ls []) := mj_clS (as := [.int x0, .int x1]) (r := []) i92_2 (by decide +kernel : mj_vk 92 116 2 0 2 false = true) rfl
theorem i92_5 : mj_ins 92 5 = some (.ifCond .ne 15, 8) := by decide +kernel
theorem e92_5 {ls : mj_L} {st : List Value} {σ : mj_S} {τ : mj_T} {x : Int32} : mj_E 92 5 ls (.int x :: st) σ τ = if x = 0 then mj_E 92 8 ls st σ τ else mj_E 92 15 ls st σ τ := (mj_ifc i92_5).trans (mj_cdF rfl)
theorem i92_8 : mj_ins 92 8 = some (.aload 0, 9) := by decide +kernel
theorem e92_8 {ls : mj_L} {st : List Value} {σ : mj_S} {τ : mj_T} {v : Nat} : mj_E 92 8 (some (.ref v) :: ls) st σ τ = mj_E 92 9 (some (.ref v) :: ls) (.ref v :: st) σ τ := mj_nx i92_8 rfl
theorem i92_9 : mj_ins 92 9 = some (.iconst (-5), 11) := by decide +kernel
theorem e92_9 {ls : mj_L} {st : List Value} {σ : mj_S} {τ : mj_T} : mj_E 92 9 ls st σ τ = mj_E 92 11 ls (.int ((-5)) :: st) σ τ := mj_nx i92_9 rfl
theorem i92_11 : mj_ins 92 11 = some (.invokevirtual 113, 14) := by decide +kernel
theorem e92_11 {ls : mj_L} {σ : mj_S} {τ : mj_T} {r : Nat} {x0 : Int32} : mj_E 92 11 ls [.int x0, .ref r] σ τ = if mj_rcv r 6 = true then mj_bd (mj_C 113 [.ref r, .int x0] σ τ) (mj_K 92 14 ls []) else none := mj_clV (as := [.int x0]) (r := []) i92_11 (by decide +kernel : mj_vk 92 113 1 0 2 false = true) (by decide +kernel)
theorem i92_14 : mj_ins 92 14 = some (.ireturn, 15) := by decide +kernel
theorem e92_14 {ls : mj_L} {σ : mj_S} {τ : mj_T} {v : Int32} : mj_E 92 14 ls [.int v] σ τ = some (some (.int v), σ, τ) := mj_irt i92_14 rfl
theorem i92_15 : mj_ins 92 15 = some (.iload 1, 16) := by decide +kernel
theorem e92_15 {ls : mj_L} {st : List Value} {σ : mj_S} {τ : mj_T} {a0 : Option Value} {v : Int32} : mj_E 92 15 (a0 :: some (.int v) :: ls) st σ τ = mj_E 92 16 (a0 :: some (.int v) :: ls) (.int v :: st) σ τ := mj_nx i92_15 rfl
theorem i92_16 : mj_ins 92 16 = some (.ifCond .ne 29, 19) := by decide +kernel
theorem e92_16 {ls : mj_L} {st : List Value} {σ : mj_S} {τ : mj_T} {x : Int32} : mj_E 92 16 ls (.int x :: st) σ τ = if x = 0 then mj_E 92 19 ls st σ τ else mj_E 92 29 ls st σ τ := (mj_ifc i92_16).trans (mj_cdF rfl)
theorem i92_19 : mj_ins 92 19 = some (.aload 0, 20) := by decide +kernel
theorem e92_19 {ls : mj_L} {st : List Value} {σ : mj_S} {τ : mj_T} {v : Nat} : mj_E 92 19 (some (.ref v) :: ls) st σ τ = mj_E 92 20 (some (.ref v) :: ls) (.ref v :: st) σ τ := mj_nx i92_19 rfl
theorem i92_20 : mj_ins 92 20 = some (.getfield 600, 23) := by decide +kernel
theorem e92_20 {ls : mj_L} {st : List Value} {σ : mj_S} {τ : mj_T} : mj_E 92 20 ls (.ref 0 :: st) σ τ = mj_E 92 23 ls (.ref 1 :: st) σ τ := mj_nx i92_20 rfl
theorem i92_23 : mj_ins 92 23 = some (.invokevirtual 28, 26) := by decide +kernel
theorem e92_23 {ls : mj_L} {σ : mj_S} {τ : mj_T} {r : Nat} : mj_E 92 23 ls [.ref r] σ τ = if mj_rcv r 1 = true then mj_bd (mj_C 28 [.ref r] σ τ) (mj_K 92 26 ls []) else none := mj_clV (as := []) (r := []) i92_23 (by decide +kernel : mj_vk 92 28 0 0 1 false = true) (by decide +kernel)
theorem i92_26 : mj_ins 92 26 = some (.goto 36, 29) := by decide +kernel
theorem e92_26 {ls : mj_L} {st : List Value} {σ : mj_S} {τ : mj_T} : mj_E 92 26 ls st σ τ = mj_E 92 36 ls st σ τ := mj_nx i92_26 rfl
theorem i92_29 : mj_ins 92 29 = some (.aload 0, 30) := by decide +kernel
theorem e92_29 {ls : mj_L} {st : List Value} {σ : mj_S} {τ : mj_T} {v : Nat} : mj_E 92 29 (some (.ref v) :: ls) st σ τ = mj_E 92 30 (some (.ref v) :: ls) (.ref v :: st) σ τ := mj_nx i92_29 rfl
theorem i92_30 : mj_ins 92 30 = some (.getfield 600, 33) := by decide +kernel
theorem e92_30 {ls : mj_L} {st : List Value} {σ : mj_S} {τ : mj_T} : mj_E 92 30 ls (.ref 0 :: st) σ τ = mj_E 92 33 ls (.ref 1 :: st) σ τ := mj_nx i92_30 rfl
theorem i92_33 : mj_ins 92 33 = some (.invokevirtual 29, 36) := by decide +kernel
theorem e92_33 {ls : mj_L} {σ : mj_S} {τ : mj_T} {r : Nat} : mj_E 92 33 ls [.ref r] σ τ = if mj_rcv r 1 = true then mj_bd (mj_C 29 [.ref r] σ τ) (mj_K 92 36 ls []) else none := mj_clV (as := []) (r := []) i92_33 (by decide +kernel : mj_vk 92 29 0 0 1 false = true) (by decide +kernel)
theorem i92_36 : mj_ins 92 36 = some (.ireturn, 37) := by decide +kernel
theorem e92_36 {ls : mj_L} {σ : mj_S} {τ : mj_T} {v : Int32} : mj_E 92 36 ls [.int v] σ τ = some (some (.int v), σ, τ) := mj_irt i92_36 rfl
theorem c93 {σ : mj_S} {τ : mj_T} {r : Nat} {x0 : Int32} : mj_C 93 [.ref r, .int x0] σ τ = mj_E 93 0 [some (.ref r), some (.int x0)] [] σ τ := rfl
theorem i93_0 : mj_ins 93 0 = some (.aload 0, 1) := by decide +kernel
theorem e93_0 {ls : mj_L} {st : List Value} {σ : mj_S} {τ : mj_T} {v : Nat} : mj_E 93 0 (some (.ref v) :: ls) st σ τ = mj_E 93 1 (some (.ref v) :: ls) (.ref v :: st) σ τ := mj_nx i93_0 rfl
theorem i93_1 : mj_ins 93 1 = some (.getfield 600, 4) := by decide +kernel
theorem e93_1 {ls : mj_L} {st : List Value} {σ : mj_S} {τ : mj_T} : mj_E 93 1 ls (.ref 0 :: st) σ τ = mj_E 93 4 ls (.ref 1 :: st) σ τ := mj_nx i93_1 rfl
theorem i93_4 : mj_ins 93 4 = some (.iload 1, 5) := by decide +kernel
theorem e93_4 {ls : mj_L} {st : List Value} {σ : mj_S} {τ : mj_T} {a0 : Option Value} {v : Int32} : mj_E 93 4 (a0 :: some (.int v) :: ls) st σ τ = mj_E 93 5 (a0 :: some (.int v) :: ls) (.int v :: st) σ τ := mj_nx i93_4 rfl
theorem i93_5 : mj_ins 93 5 = some (.invokevirtual 8, 8) := by decide +kernel
theorem e93_5 {ls : mj_L} {σ : mj_S} {τ : mj_T} {r : Nat} {x0 : Int32} : mj_E 93 5 ls [.int x0, .ref r] σ τ = if mj_rcv r 1 = true then mj_bd (mj_C 8 [.ref r, .int x0] σ τ) (mj_K 93 8 ls []) else none := mj_clV (as := [.int x0]) (r := []) i93_5 (by decide +kernel : mj_vk 93 8 1 0 2 false = true) (by decide +kernel)
theorem i93_8 : mj_ins 93 8 = some (.ifCond .ne 17, 11) := by decide +kernel
theorem e93_8 {ls : mj_L} {st : List Value} {σ : mj_S} {τ : mj_T} {x : Int32} : mj_E 93 8 ls (.int x :: st) σ τ = if x = 0 then mj_E 93 11 ls st σ τ else mj_E 93 17 ls st σ τ := (mj_ifc i93_8).trans (mj_cdF rfl)
theorem i93_11 : mj_ins 93 11 = some (.aload 0, 12) := by decide +kernel
theorem e93_11 {ls : mj_L} {st : List Value} {σ : mj_S} {τ : mj_T} {v : Nat} : mj_E 93 11 (some (.ref v) :: ls) st σ τ = mj_E 93 12 (some (.ref v) :: ls) (.ref v :: st) σ τ := mj_nx i93_11 rfl
theorem i93_12 : mj_ins 93 12 = some (.iconst (-1), 13) := by decide +kernel
theorem e93_12 {ls : mj_L} {st : List Value} {σ : mj_S} {τ : mj_T} : mj_E 93 12 ls st σ τ = mj_E 93 13 ls (.int ((-1)) :: st) σ τ := mj_nx i93_12 rfl
theorem i93_13 : mj_ins 93 13 = some (.invokevirtual 113, 16) := by decide +kernel
theorem e93_13 {ls : mj_L} {σ : mj_S} {τ : mj_T} {r : Nat} {x0 : Int32} : mj_E 93 13 ls [.int x0, .ref r] σ τ = if mj_rcv r 6 = true then mj_bd (mj_C 113 [.ref r, .int x0] σ τ) (mj_K 93 16 ls []) else none := mj_clV (as := [.int x0]) (r := []) i93_13 (by decide +kernel : mj_vk 93 113 1 0 2 false = true) (by decide +kernel)
theorem i93_16 : mj_ins 93 16 = some (.ireturn, 17) := by decide +kernel
theorem e93_16 {ls : mj_L} {σ : mj_S} {τ : mj_T} {v : Int32} : mj_E 93 16 ls [.int v] σ τ = some (some (.int v), σ, τ) := mj_irt i93_16 rfl
theorem i93_17 : mj_ins 93 17 = some (.aload 0, 18) := by decide +kernel
theorem e93_17 {ls : mj_L} {st : List Value} {σ : mj_S} {τ : mj_T} {v : Nat} : mj_E 93 17 (some (.ref v) :: ls) st σ τ = mj_E 93 18 (some (.ref v) :: ls) (.ref v :: st) σ τ := mj_nx i93_17 rfl
theorem i93_18 : mj_ins 93 18 = some (.getfield 605, 21) := by decide +kernel
theorem e93_18 {ls : mj_L} {st : List Value} {σ : mj_S} {τ : mj_T} : mj_E 93 18 ls (.ref 0 :: st) σ τ = mj_E 93 21 ls (.ref 8 :: st) σ τ := mj_nx i93_18 rfl
theorem i93_21 : mj_ins 93 21 = some (.aload 0, 22) := by decide +kernel
theorem e93_21 {ls : mj_L} {st : List Value} {σ : mj_S} {τ : mj_T} {v : Nat} : mj_E 93 21 (some (.ref v) :: ls) st σ τ = mj_E 93 22 (some (.ref v) :: ls) (.ref v :: st) σ τ := mj_nx i93_21 rfl
theorem i93_22 : mj_ins 93 22 = some (.getfield 600, 25) := by decide +kernel
theorem e93_22 {ls : mj_L} {st : List Value} {σ : mj_S} {τ : mj_T} : mj_E 93 22 ls (.ref 0 :: st) σ τ = mj_E 93 25 ls (.ref 1 :: st) σ τ := mj_nx i93_22 rfl
theorem i93_25 : mj_ins 93 25 = some (.invokevirtual 38, 28) := by decide +kernel
theorem e93_25 {ls : mj_L} {σ : mj_S} {τ : mj_T} {r : Nat} {x0 : Nat} : mj_E 93 25 ls [.ref x0, .ref r] σ τ = if mj_rcv r 2 = true then mj_bd (mj_C 38 [.ref r, .ref x0] σ τ) (mj_K 93 28 ls []) else none := mj_clV (as := [.ref x0]) (r := []) i93_25 (by decide +kernel : mj_vk 93 38 1 0 2 false = true) (by decide +kernel)
theorem i93_28 : mj_ins 93 28 = some (.aload 0, 29) := by decide +kernel
theorem e93_28 {ls : mj_L} {st : List Value} {σ : mj_S} {τ : mj_T} {v : Nat} : mj_E 93 28 (some (.ref v) :: ls) st σ τ = mj_E 93 29 (some (.ref v) :: ls) (.ref v :: st) σ τ := mj_nx i93_28 rfl
theorem i93_29 : mj_ins 93 29 = some (.getfield 605, 32) := by decide +kernel
theorem e93_29 {ls : mj_L} {st : List Value} {σ : mj_S} {τ : mj_T} : mj_E 93 29 ls (.ref 0 :: st) σ τ = mj_E 93 32 ls (.ref 8 :: st) σ τ := mj_nx i93_29 rfl
theorem i93_32 : mj_ins 93 32 = some (.getfield 200, 35) := by decide +kernel
theorem e93_32 {ls : mj_L} {st : List Value} {σ : mj_S} {τ : mj_T} : mj_E 93 32 ls (.ref 8 :: st) σ τ = mj_E 93 35 ls (.ref 56 :: st) σ τ := mj_nx i93_32 rfl
theorem i93_35 : mj_ins 93 35 = some (.iload 1, 36) := by decide +kernel
theorem e93_35 {ls : mj_L} {st : List Value} {σ : mj_S} {τ : mj_T} {a0 : Option Value} {v : Int32} : mj_E 93 35 (a0 :: some (.int v) :: ls) st σ τ = mj_E 93 36 (a0 :: some (.int v) :: ls) (.int v :: st) σ τ := mj_nx i93_35 rfl
theorem i93_36 : mj_ins 93 36 = some (.iaload, 37) := by decide +kernel
theorem e93_36 {ls : mj_L} {st : List Value} {σ : mj_S} {τ : mj_T} {x : Int32} {k : Nat} : mj_E 93 36 ls (.int x :: .ref k :: st) σ τ = if mj_ib (mj_li σ k) x = true then mj_E 93 37 ls (.int (σ k x.toNatClampNeg) :: st) σ τ else none := mj_ald i93_36
theorem i93_37 : mj_ins 93 37 = some (.ireturn, 38) := by decide +kernel
theorem e93_37 {ls : mj_L} {σ : mj_S} {τ : mj_T} {v : Int32} : mj_E 93 37 ls [.int v] σ τ = some (some (.int v), σ, τ) := mj_irt i93_37 rfl
theorem c94 {σ : mj_S} {τ : mj_T} {r : Nat} {x0 : Int32} {x1 : Int32} {x2 : Int32} : mj_C 94 [.ref r, .int x0, .int x1, .int x2] σ τ = mj_E 94 0 [some (.ref r), some (.int x0), some (.int x1), some (.int x2), none, none, none, none] [] σ τ := rfl
theorem i94_0 : mj_ins 94 0 = some (.aload 0, 1) := by decide +kernel
theorem e94_0 {ls : mj_L} {st : List Value} {σ : mj_S} {τ : mj_T} {v : Nat} : mj_E 94 0 (some (.ref v) :: ls) st σ τ = mj_E 94 1 (some (.ref v) :: ls) (.ref v :: st) σ τ := mj_nx i94_0 rfl
theorem i94_1 : mj_ins 94 1 = some (.getfield 600, 4) := by decide +kernel
theorem e94_1 {ls : mj_L} {st : List Value} {σ : mj_S} {τ : mj_T} : mj_E 94 1 ls (.ref 0 :: st) σ τ = mj_E 94 4 ls (.ref 1 :: st) σ τ := mj_nx i94_1 rfl
theorem i94_4 : mj_ins 94 4 = some (.iload 1, 5) := by decide +kernel
theorem e94_4 {ls : mj_L} {st : List Value} {σ : mj_S} {τ : mj_T} {a0 : Option Value} {v : Int32} : mj_E 94 4 (a0 :: some (.int v) :: ls) st σ τ = mj_E 94 5 (a0 :: some (.int v) :: ls) (.int v :: st) σ τ := mj_nx i94_4 rfl
theorem i94_5 : mj_ins 94 5 = some (.invokevirtual 7, 8) := by decide +kernel
theorem e94_5 {ls : mj_L} {σ : mj_S} {τ : mj_T} {r : Nat} {x0 : Int32} : mj_E 94 5 ls [.int x0, .ref r] σ τ = if mj_rcv r 1 = true then mj_bd (mj_C 7 [.ref r, .int x0] σ τ) (mj_K 94 8 ls []) else none := mj_clV (as := [.int x0]) (r := []) i94_5 (by decide +kernel : mj_vk 94 7 1 0 2 false = true) (by decide +kernel)
theorem i94_8 : mj_ins 94 8 = some (.ifCond .eq 22, 11) := by decide +kernel
theorem e94_8 {ls : mj_L} {st : List Value} {σ : mj_S} {τ : mj_T} {x : Int32} : mj_E 94 8 ls (.int x :: st) σ τ = if x = 0 then mj_E 94 22 ls st σ τ else mj_E 94 11 ls st σ τ := (mj_ifc i94_8).trans (mj_cdT rfl)
theorem i94_11 : mj_ins 94 11 = some (.aload 0, 12) := by decide +kernel
theorem e94_11 {ls : mj_L} {st : List Value} {σ : mj_S} {τ : mj_T} {v : Nat} : mj_E 94 11 (some (.ref v) :: ls) st σ τ = mj_E 94 12 (some (.ref v) :: ls) (.ref v :: st) σ τ := mj_nx i94_11 rfl
theorem i94_12 : mj_ins 94 12 = some (.getfield 600, 15) := by decide +kernel
theorem e94_12 {ls : mj_L} {st : List Value} {σ : mj_S} {τ : mj_T} : mj_E 94 12 ls (.ref 0 :: st) σ τ = mj_E 94 15 ls (.ref 1 :: st) σ τ := mj_nx i94_12 rfl
theorem i94_15 : mj_ins 94 15 = some (.iload 2, 16) := by decide +kernel
theorem e94_15 {ls : mj_L} {st : List Value} {σ : mj_S} {τ : mj_T} {a0 a1 : Option Value} {v : Int32} : mj_E 94 15 (a0 :: a1 :: some (.int v) :: ls) st σ τ = mj_E 94 16 (a0 :: a1 :: some (.int v) :: ls) (.int v :: st) σ τ := mj_nx i94_15 rfl
theorem i94_16 : mj_ins 94 16 = some (.invokevirtual 8, 19) := by decide +kernel
theorem e94_16 {ls : mj_L} {σ : mj_S} {τ : mj_T} {r : Nat} {x0 : Int32} : mj_E 94 16 ls [.int x0, .ref r] σ τ = if mj_rcv r 1 = true then mj_bd (mj_C 8 [.ref r, .int x0] σ τ) (mj_K 94 19 ls []) else none := mj_clV (as := [.int x0]) (r := []) i94_16 (by decide +kernel : mj_vk 94 8 1 0 2 false = true) (by decide +kernel)
theorem i94_19 : mj_ins 94 19 = some (.ifCond .ne 28, 22) := by decide +kernel
theorem e94_19 {ls : mj_L} {st : List Value} {σ : mj_S} {τ : mj_T} {x : Int32} : mj_E 94 19 ls (.int x :: st) σ τ = if x = 0 then mj_E 94 22 ls st σ τ else mj_E 94 28 ls st σ τ := (mj_ifc i94_19).trans (mj_cdF rfl)
theorem i94_22 : mj_ins 94 22 = some (.aload 0, 23) := by decide +kernel
theorem e94_22 {ls : mj_L} {st : List Value} {σ : mj_S} {τ : mj_T} {v : Nat} : mj_E 94 22 (some (.ref v) :: ls) st σ τ = mj_E 94 23 (some (.ref v) :: ls) (.ref v :: st) σ τ := mj_nx i94_22 rfl
theorem i94_23 : mj_ins 94 23 = some (.iconst (-1), 24) := by decide +kernel
theorem e94_23 {ls : mj_L} {st : List Value} {σ : mj_S} {τ : mj_T} : mj_E 94 23 ls st σ τ = mj_E 94 24 ls (.int ((-1)) :: st) σ τ := mj_nx i94_23 rfl
theorem i94_24 : mj_ins 94 24 = some (.invokevirtual 113, 27) := by decide +kernel
theorem e94_24 {ls : mj_L} {σ : mj_S} {τ : mj_T} {r : Nat} {x0 : Int32} : mj_E 94 24 ls [.int x0, .ref r] σ τ = if mj_rcv r 6 = true then mj_bd (mj_C 113 [.ref r, .int x0] σ τ) (mj_K 94 27 ls []) else none := mj_clV (as := [.int x0]) (r := []) i94_24 (by decide +kernel : mj_vk 94 113 1 0 2 false = true) (by decide +kernel)
theorem i94_27 : mj_ins 94 27 = some (.ireturn, 28) := by decide +kernel
theorem e94_27 {ls : mj_L} {σ : mj_S} {τ : mj_T} {v : Int32} : mj_E 94 27 ls [.int v] σ τ = some (some (.int v), σ, τ) := mj_irt i94_27 rfl
theorem i94_28 : mj_ins 94 28 = some (.iload 3, 29) := by decide +kernel
theorem e94_28 {ls : mj_L} {st : List Value} {σ : mj_S} {τ : mj_T} {a0 a1 a2 : Option Value} {v : Int32} : mj_E 94 28 (a0 :: a1 :: a2 :: some (.int v) :: ls) st σ τ = mj_E 94 29 (a0 :: a1 :: a2 :: some (.int v) :: ls) (.int v :: st) σ τ := mj_nx i94_28 rfl
theorem i94_29 : mj_ins 94 29 = some (.iconst (1), 30) := by decide +kernel
theorem e94_29 {ls : mj_L} {st : List Value} {σ : mj_S} {τ : mj_T} : mj_E 94 29 ls st σ τ = mj_E 94 30 ls (.int (nI 1) :: st) σ τ := mj_nx i94_29 rfl
theorem i94_30 : mj_ins 94 30 = some (.invokestatic 116, 33) := by decide +kernel
theorem e94_30 {ls : mj_L} {σ : mj_S} {τ : mj_T} {x0 : Int32} {x1 : Int32} : mj_E 94 30 ls [.int x1, .int x0] σ τ = mj_bd (mj_C 116 [.int x0, .int x1] σ τ) (mj_K 94 33 ls []) := mj_clS (as := [.int x0, .int x1]) (r := []) i94_30 (by decide +kernel : mj_vk 94 116 2 0 2 false = true) rfl
theorem i94_33 : mj_ins 94 33 = some (.ifCond .ne 43, 36) := by decide +kernel
theorem e94_33 {ls : mj_L} {st : List Value} {σ : mj_S} {τ : mj_T} {x : Int32} : mj_E 94 33 ls (.int x :: st) σ τ = if x = 0 then mj_E 94 36 ls st σ τ else mj_E 94 43 ls st σ τ := (mj_ifc i94_33).trans (mj_cdF rfl)
theorem i94_36 : mj_ins 94 36 = some (.aload 0, 37) := by decide +kernel
theorem e94_36 {ls : mj_L} {st : List Value} {σ : mj_S} {τ : mj_T} {v : Nat} : mj_E 94 36 (some (.ref v) :: ls) st σ τ = mj_E 94 37 (some (.ref v) :: ls) (.ref v :: st) σ τ := mj_nx i94_36 rfl
theorem i94_37 : mj_ins 94 37 = some (.iconst (-5), 39) := by decide +kernel
theorem e94_37 {ls : mj_L} {st : List Value} {σ : mj_S} {τ : mj_T} : mj_E 94 37 ls st σ τ = mj_E 94 39 ls (.int ((-5)) :: st) σ τ := mj_nx i94_37 rfl
theorem i94_39 : mj_ins 94 39 = some (.invokevirtual 113, 42) := by decide +kernel
theorem e94_39 {ls : mj_L} {σ : mj_S} {τ : mj_T} {r : Nat} {x0 : Int32} : mj_E 94 39 ls [.int x0, .ref r] σ τ = if mj_rcv r 6 = true then mj_bd (mj_C 113 [.ref r, .int x0] σ τ) (mj_K 94 42 ls []) else none := mj_clV (as := [.int x0]) (r := []) i94_39 (by decide +kernel : mj_vk 94 113 1 0 2 false = true) (by decide +kernel)
theorem i94_42 : mj_ins 94 42 = some (.ireturn, 43) := by decide +kernel
theorem e94_42 {ls : mj_L} {σ : mj_S} {τ : mj_T} {v : Int32} : mj_E 94 42 ls [.int v] σ τ = some (some (.int v), σ, τ) := mj_irt i94_42 rfl
theorem i94_43 : mj_ins 94 43 = some (.aload 0, 44) := by decide +kernel
theorem e94_43 {ls : mj_L} {st : List Value} {σ : mj_S} {τ : mj_T} {v : Nat} : mj_E 94 43 (some (.ref v) :: ls) st σ τ = mj_E 94 44 (some (.ref v) :: ls) (.ref v :: st) σ τ := mj_nx i94_43 rfl
theorem i94_44 : mj_ins 94 44 = some (.getfield 600, 47) := by decide +kernel
theorem e94_44 {ls : mj_L} {st : List Value} {σ : mj_S} {τ : mj_T} : mj_E 94 44 ls (.ref 0 :: st) σ τ = mj_E 94 47 ls (.ref 1 :: st) σ τ := mj_nx i94_44 rfl
theorem i94_47 : mj_ins 94 47 = some (.iload 2, 48) := by decide +kernel
theorem e94_47 {ls : mj_L} {st : List Value} {σ : mj_S} {τ : mj_T} {a0 a1 : Option Value} {v : Int32} : mj_E 94 47 (a0 :: a1 :: some (.int v) :: ls) st σ τ = mj_E 94 48 (a0 :: a1 :: some (.int v) :: ls) (.int v :: st) σ τ := mj_nx i94_47 rfl
theorem i94_48 : mj_ins 94 48 = some (.iload 1, 49) := by decide +kernel
theorem e94_48 {ls : mj_L} {st : List Value} {σ : mj_S} {τ : mj_T} {a0 : Option Value} {v : Int32} : mj_E 94 48 (a0 :: some (.int v) :: ls) st σ τ = mj_E 94 49 (a0 :: some (.int v) :: ls) (.int v :: st) σ τ := mj_nx i94_48 rfl
theorem i94_49 : mj_ins 94 49 = some (.invokevirtual 14, 52) := by decide +kernel
theorem e94_49 {ls : mj_L} {σ : mj_S} {τ : mj_T} {r : Nat} {x0 : Int32} {x1 : Int32} : mj_E 94 49 ls [.int x1, .int x0, .ref r] σ τ = if mj_rcv r 1 = true then mj_bd (mj_C 14 [.ref r, .int x0, .int x1] σ τ) (mj_K 94 52 ls []) else none := mj_clV (as := [.int x0, .int x1]) (r := []) i94_49 (by decide +kernel : mj_vk 94 14 2 0 3 false = true) (by decide +kernel)
theorem i94_52 : mj_ins 94 52 = some (.istore 4, 54) := by decide +kernel
theorem e94_52 {ls : mj_L} {st : List Value} {σ : mj_S} {τ : mj_T} {a0 a1 a2 a3 a4 : Option Value} {v : Int32} : mj_E 94 52 (a0 :: a1 :: a2 :: a3 :: a4 :: ls) (.int v :: st) σ τ = mj_E 94 54 (a0 :: a1 :: a2 :: a3 :: some (.int v) :: ls) st σ τ := mj_nx i94_52 rfl
theorem i94_54 : mj_ins 94 54 = some (.aload 0, 55) := by decide +kernel
theorem e94_54 {ls : mj_L} {st : List Value} {σ : mj_S} {τ : mj_T} {v : Nat} : mj_E 94 54 (some (.ref v) :: ls) st σ τ = mj_E 94 55 (some (.ref v) :: ls) (.ref v :: st) σ τ := mj_nx i94_54 rfl
theorem i94_55 : mj_ins 94 55 = some (.getfield 600, 58) := by decide +kernel
theorem e94_55 {ls : mj_L} {st : List Value} {σ : mj_S} {τ : mj_T} : mj_E 94 55 ls (.ref 0 :: st) σ τ = mj_E 94 58 ls (.ref 1 :: st) σ τ := mj_nx i94_55 rfl
theorem i94_58 : mj_ins 94 58 = some (.iload 1, 59) := by decide +kernel
theorem e94_58 {ls : mj_L} {st : List Value} {σ : mj_S} {τ : mj_T} {a0 : Option Value} {v : Int32} : mj_E 94 58 (a0 :: some (.int v) :: ls) st σ τ = mj_E 94 59 (a0 :: some (.int v) :: ls) (.int v :: st) σ τ := mj_nx i94_58 rfl
theorem i94_59 : mj_ins 94 59 = some (.invokevirtual 13, 62) := by decide +kernel
theorem e94_59 {ls : mj_L} {σ : mj_S} {τ : mj_T} {r : Nat} {x0 : Int32} : mj_E 94 59 ls [.int x0, .ref r] σ τ = if mj_rcv r 1 = true then mj_bd (mj_C 13 [.ref r, .int x0] σ τ) (mj_K 94 62 ls []) else none := mj_clV (as := [.int x0]) (r := []) i94_59 (by decide +kernel : mj_vk 94 13 1 0 2 false = true) (by decide +kernel)
theorem i94_62 : mj_ins 94 62 = some (.ifCond .ne 75, 65) := by decide +kernel
theorem e94_62 {ls : mj_L} {st : List Value} {σ : mj_S} {τ : mj_T} {x : Int32} : mj_E 94 62 ls (.int x :: st) σ τ = if x = 0 then mj_E 94 65 ls st σ τ else mj_E 94 75 ls st σ τ := (mj_ifc i94_62).trans (mj_cdF rfl)
theorem i94_65 : mj_ins 94 65 = some (.iload 3, 66) := by decide +kernel
theorem e94_65 {ls : mj_L} {st : List Value} {σ : mj_S} {τ : mj_T} {a0 a1 a2 : Option Value} {v : Int32} : mj_E 94 65 (a0 :: a1 :: a2 :: some (.int v) :: ls) st σ τ = mj_E 94 66 (a0 :: a1 :: a2 :: some (.int v) :: ls) (.int v :: st) σ τ := mj_nx i94_65 rfl
theorem i94_66 : mj_ins 94 66 = some (.iconst (1), 67) := by decide +kernel
theorem e94_66 {ls : mj_L} {st : List Value} {σ : mj_S} {τ : mj_T} : mj_E 94 66 ls st σ τ = mj_E 94 67 ls (.int (nI 1) :: st) σ τ := mj_nx i94_66 rfl
theorem i94_67 : mj_ins 94 67 = some (.if_icmp .ne 82, 70) := by decide +kernel
theorem e94_67 {ls : mj_L} {st : List Value} {σ : mj_S} {τ : mj_T} {x y : Int32} : mj_E 94 67 ls (.int y :: .int x :: st) σ τ = if x = y then mj_E 94 70 ls st σ τ else mj_E 94 82 ls st σ τ := (mj_ifi i94_67).trans (mj_cdF rfl)
theorem i94_70 : mj_ins 94 70 = some (.iload 4, 72) := by decide +kernel
theorem e94_70 {ls : mj_L} {st : List Value} {σ : mj_S} {τ : mj_T} {a0 a1 a2 a3 : Option Value} {v : Int32} : mj_E 94 70 (a0 :: a1 :: a2 :: a3 :: some (.int v) :: ls) st σ τ = mj_E 94 72 (a0 :: a1 :: a2 :: a3 :: some (.int v) :: ls) (.int v :: st) σ τ := mj_nx i94_70 rfl
theorem i94_72 : mj_ins 94 72 = some (.ifCond .ne 82, 75) := by decide +kernel
theorem e94_72 {ls : mj_L} {st : List Value} {σ : mj_S} {τ : mj_T} {x : Int32} : mj_E 94 72 ls (.int x :: st) σ τ = if x = 0 then mj_E 94 75 ls st σ τ else mj_E 94 82 ls st σ τ := (mj_ifc i94_72).trans (mj_cdF rfl)
theorem i94_75 : mj_ins 94 75 = some (.aload 0, 76) := by decide +kernel
theorem e94_75 {ls : mj_L} {st : List Value} {σ : mj_S} {τ : mj_T} {v : Nat} : mj_E 94 75 (some (.ref v) :: ls) st σ τ = mj_E 94 76 (some (.ref v) :: ls) (.ref v :: st) σ τ := mj_nx i94_75 rfl
theorem i94_76 : mj_ins 94 76 = some (.iconst (-6), 78) := by decide +kernel
theorem e94_76 {ls : mj_L} {st : List Value} {σ : mj_S} {τ : mj_T} : mj_E 94 76 ls st σ τ = mj_E 94 78 ls (.int ((-6)) :: st) σ τ := mj_nx i94_76 rfl
theorem i94_78 : mj_ins 94 78 = some (.invokevirtual 113, 81) := by decide +kernel
theorem e94_78 {ls : mj_L} {σ : mj_S} {τ : mj_T} {r : Nat} {x0 : Int32} : mj_E 94 78 ls [.int x0, .ref r] σ τ = if mj_rcv r 6 = true then mj_bd (mj_C 113 [.ref r, .int x0] σ τ) (mj_K 94 81 ls []) else none := mj_clV (as := [.int x0]) (r := []) i94_78 (by decide +kernel : mj_vk 94 113 1 0 2 false = true) (by decide +kernel)
theorem i94_81 : mj_ins 94 81 = some (.ireturn, 82) := by decide +kernel
theorem e94_81 {ls : mj_L} {σ : mj_S} {τ : mj_T} {v : Int32} : mj_E 94 81 ls [.int v] σ τ = some (some (.int v), σ, τ) := mj_irt i94_81 rfl
theorem i94_82 : mj_ins 94 82 = some (.aload 0, 83) := by decide +kernel
theorem e94_82 {ls : mj_L} {st : List Value} {σ : mj_S} {τ : mj_T} {v : Nat} : mj_E 94 82 (some (.ref v) :: ls) st σ τ = mj_E 94 83 (some (.ref v) :: ls) (.ref v :: st) σ τ := mj_nx i94_82 rfl
theorem i94_83 : mj_ins 94 83 = some (.getfield 601, 86) := by decide +kernel
theorem e94_83 {ls : mj_L} {st : List Value} {σ : mj_S} {τ : mj_T} : mj_E 94 83 ls (.ref 0 :: st) σ τ = mj_E 94 86 ls (.ref 2 :: st) σ τ := mj_nx i94_83 rfl
theorem i94_86 : mj_ins 94 86 = some (.aload 0, 87) := by decide +kernel
theorem e94_86 {ls : mj_L} {st : List Value} {σ : mj_S} {τ : mj_T} {v : Nat} : mj_E 94 86 (some (.ref v) :: ls) st σ τ = mj_E 94 87 (some (.ref v) :: ls) (.ref v :: st) σ τ := mj_nx i94_86 rfl
theorem i94_87 : mj_ins 94 87 = some (.getfield 600, 90) := by decide +kernel
theorem e94_87 {ls : mj_L} {st : List Value} {σ : mj_S} {τ : mj_T} : mj_E 94 87 ls (.ref 0 :: st) σ τ = mj_E 94 90 ls (.ref 1 :: st) σ τ := mj_nx i94_87 rfl
theorem i94_90 : mj_ins 94 90 = some (.invokevirtual 6, 93) := by decide +kernel
theorem e94_90 {ls : mj_L} {σ : mj_S} {τ : mj_T} {r : Nat} {x0 : Nat} : mj_E 94 90 ls [.ref x0, .ref r] σ τ = if mj_rcv r 1 = true then mj_bd (mj_C 6 [.ref r, .ref x0] σ τ) (mj_K 94 93 ls []) else none := mj_clV (as := [.ref x0]) (r := []) i94_90 (by decide +kernel : mj_vk 94 6 1 0 2 false = true) (by decide +kernel)
theorem i94_93 : mj_ins 94 93 = some (.iconst (0), 94) := by decide +kernel
theorem e94_93 {ls : mj_L} {st : List Value} {σ : mj_S} {τ : mj_T} : mj_E 94 93 ls st σ τ = mj_E 94 94 ls (.int (nI 0) :: st) σ τ := mj_nx i94_93 rfl
theorem i94_94 : mj_ins 94 94 = some (.istore 5, 96) := by decide +kernel
theorem e94_94 {ls : mj_L} {st : List Value} {σ : mj_S} {τ : mj_T} {a0 a1 a2 a3 a4 a5 : Option Value} {v : Int32} : mj_E 94 94 (a0 :: a1 :: a2 :: a3 :: a4 :: a5 :: ls) (.int v :: st) σ τ = mj_E 94 96 (a0 :: a1 :: a2 :: a3 :: a4 :: some (.int v) :: ls) st σ τ := mj_nx i94_94 rfl
theorem i94_96 : mj_ins 94 96 = some (.iload 5, 98) := by decide +kernel
theorem e94_96 {ls : mj_L} {st : List Value} {σ : mj_S} {τ : mj_T} {a0 a1 a2 a3 a4 : Option Value} {v : Int32} : mj_E 94 96 (a0 :: a1 :: a2 :: a3 :: a4 :: some (.int v) :: ls) st σ τ = mj_E 94 98 (a0 :: a1 :: a2 :: a3 :: a4 :: some (.int v) :: ls) (.int v :: st) σ τ := mj_nx i94_96 rfl
theorem i94_98 : mj_ins 94 98 = some (.iconst (20), 100) := by decide +kernel
theorem e94_98 {ls : mj_L} {st : List Value} {σ : mj_S} {τ : mj_T} : mj_E 94 98 ls st σ τ = mj_E 94 100 ls (.int (nI 20) :: st) σ τ := mj_nx i94_98 rfl
theorem i94_100 : mj_ins 94 100 = some (.if_icmp .gt 197, 103) := by decide +kernel
theorem e94_100 {ls : mj_L} {st : List Value} {σ : mj_S} {τ : mj_T} {x y : Int32} : mj_E 94 100 ls (.int y :: .int x :: st) σ τ = if y < x then mj_E 94 197 ls st σ τ else mj_E 94 103 ls st σ τ := (mj_ifi i94_100).trans (mj_cdT rfl)
theorem i94_103 : mj_ins 94 103 = some (.aload 0, 104) := by decide +kernel
theorem e94_103 {ls : mj_L} {st : List Value} {σ : mj_S} {τ : mj_T} {v : Nat} : mj_E 94 103 (some (.ref v) :: ls) st σ τ = mj_E 94 104 (some (.ref v) :: ls) (.ref v :: st) σ τ := mj_nx i94_103 rfl
theorem i94_104 : mj_ins 94 104 = some (.getfield 601, 107) := by decide +kernel
theorem e94_104 {ls : mj_L} {st : List Value} {σ : mj_S} {τ : mj_T} : mj_E 94 104 ls (.ref 0 :: st) σ τ = mj_E 94 107 ls (.ref 2 :: st) σ τ := mj_nx i94_104 rfl
theorem i94_107 : mj_ins 94 107 = some (.iload 2, 108) := by decide +kernel
theorem e94_107 {ls : mj_L} {st : List Value} {σ : mj_S} {τ : mj_T} {a0 a1 : Option Value} {v : Int32} : mj_E 94 107 (a0 :: a1 :: some (.int v) :: ls) st σ τ = mj_E 94 108 (a0 :: a1 :: some (.int v) :: ls) (.int v :: st) σ τ := mj_nx i94_107 rfl
theorem i94_108 : mj_ins 94 108 = some (.invokevirtual 25, 111) := by decide +kernel
theorem e94_108 {ls : mj_L} {σ : mj_S} {τ : mj_T} {r : Nat} {x0 : Int32} : mj_E 94 108 ls [.int x0, .ref r] σ τ = if mj_rcv r 1 = true then mj_bd (mj_C 25 [.ref r, .int x0] σ τ) (mj_K 94 111 ls []) else none := mj_clV (as := [.int x0]) (r := []) i94_108 (by decide +kernel : mj_vk 94 25 1 0 2 false = true) (by decide +kernel)
theorem i94_111 : mj_ins 94 111 = some (.astore 6, 113) := by decide +kernel
theorem e94_111 {ls : mj_L} {st : List Value} {σ : mj_S} {τ : mj_T} {a0 a1 a2 a3 a4 a5 a6 : Option Value} {v : Nat} : mj_E 94 111 (a0 :: a1 :: a2 :: a3 :: a4 :: a5 :: a6 :: ls) (.ref v :: st) σ τ = mj_E 94 113 (a0 :: a1 :: a2 :: a3 :: a4 :: a5 :: some (.ref v) :: ls) st σ τ := mj_nx i94_111 rfl
theorem i94_113 : mj_ins 94 113 = some (.iload 3, 114) := by decide +kernel
theorem e94_113 {ls : mj_L} {st : List Value} {σ : mj_S} {τ : mj_T} {a0 a1 a2 : Option Value} {v : Int32} : mj_E 94 113 (a0 :: a1 :: a2 :: some (.int v) :: ls) st σ τ = mj_E 94 114 (a0 :: a1 :: a2 :: some (.int v) :: ls) (.int v :: st) σ τ := mj_nx i94_113 rfl
theorem i94_114 : mj_ins 94 114 = some (.iconst (1), 115) := by decide +kernel
theorem e94_114 {ls : mj_L} {st : List Value} {σ : mj_S} {τ : mj_T} : mj_E 94 114 ls st σ τ = mj_E 94 115 ls (.int (nI 1) :: st) σ τ := mj_nx i94_114 rfl
theorem i94_115 : mj_ins 94 115 = some (.if_icmp .ne 135, 118) := by decide +kernel
theorem e94_115 {ls : mj_L} {st : List Value} {σ : mj_S} {τ : mj_T} {x y : Int32} : mj_E 94 115 ls (.int y :: .int x :: st) σ τ = if x = y then mj_E 94 118 ls st σ τ else mj_E 94 135 ls st σ τ := (mj_ifi i94_115).trans (mj_cdF rfl)
theorem i94_118 : mj_ins 94 118 = some (.aload 6, 120) := by decide +kernel
theorem e94_118 {ls : mj_L} {st : List Value} {σ : mj_S} {τ : mj_T} {a0 a1 a2 a3 a4 a5 : Option Value} {v : Nat} : mj_E 94 118 (a0 :: a1 :: a2 :: a3 :: a4 :: a5 :: some (.ref v) :: ls) st σ τ = mj_E 94 120 (a0 :: a1 :: a2 :: a3 :: a4 :: a5 :: some (.ref v) :: ls) (.ref v :: st) σ τ := mj_nx i94_118 rfl
theorem i94_120 : mj_ins 94 120 = some (.getfield 0, 123) := by decide +kernel
theorem e94_120 {ls : mj_L} {st : List Value} {σ : mj_S} {τ : mj_T} {k : Nat} (h1 : 4 ≤ k) (h2 : k ≤ 6) : mj_E 94 120 ls (.ref k :: st) σ τ = mj_E 94 123 ls (.int (σ k 0) :: st) σ τ := (mj_gf i94_120).trans (congrArg (fun z => mj_ov z _) (fv0_0 h1 h2))
theorem i94_123 : mj_ins 94 123 = some (.iload 1, 124) := by decide +kernel
theorem e94_123 {ls : mj_L} {st : List Value} {σ : mj_S} {τ : mj_T} {a0 : Option Value} {v : Int32} : mj_E 94 123 (a0 :: some (.int v) :: ls) st σ τ = mj_E 94 124 (a0 :: some (.int v) :: ls) (.int v :: st) σ τ := mj_nx i94_123 rfl
theorem i94_124 : mj_ins 94 124 = some (.if_icmp .eq 131, 127) := by decide +kernel
theorem e94_124 {ls : mj_L} {st : List Value} {σ : mj_S} {τ : mj_T} {x y : Int32} : mj_E 94 124 ls (.int y :: .int x :: st) σ τ = if x = y then mj_E 94 131 ls st σ τ else mj_E 94 127 ls st σ τ := (mj_ifi i94_124).trans (mj_cdT rfl)
theorem i94_127 : mj_ins 94 127 = some (.iconst (1), 128) := by decide +kernel
theorem e94_127 {ls : mj_L} {st : List Value} {σ : mj_S} {τ : mj_T} : mj_E 94 127 ls st σ τ = mj_E 94 128 ls (.int (nI 1) :: st) σ τ := mj_nx i94_127 rfl
theorem i94_128 : mj_ins 94 128 = some (.goto 171, 131) := by decide +kernel
theorem e94_128 {ls : mj_L} {st : List Value} {σ : mj_S} {τ : mj_T} : mj_E 94 128 ls st σ τ = mj_E 94 171 ls st σ τ := mj_nx i94_128 rfl
theorem i94_131 : mj_ins 94 131 = some (.iconst (0), 132) := by decide +kernel
theorem e94_131 {ls : mj_L} {st : List Value} {σ : mj_S} {τ : mj_T} : mj_E 94 131 ls st σ τ = mj_E 94 132 ls (.int (nI 0) :: st) σ τ := mj_nx i94_131 rfl
theorem i94_132 : mj_ins 94 132 = some (.goto 171, 135) := by decide +kernel
theorem e94_132 {ls : mj_L} {st : List Value} {σ : mj_S} {τ : mj_T} : mj_E 94 132 ls st σ τ = mj_E 94 171 ls st σ τ := mj_nx i94_132 rfl
theorem i94_135 : mj_ins 94 135 = some (.iload 4, 137) := by decide +kernel
theorem e94_135 {ls : mj_L} {st : List Value} {σ : mj_S} {τ : mj_T} {a0 a1 a2 a3 : Option Value} {v : Int32} : mj_E 94 135 (a0 :: a1 :: a2 :: a3 :: some (.int v) :: ls) st σ τ = mj_E 94 137 (a0 :: a1 :: a2 :: a3 :: some (.int v) :: ls) (.int v :: st) σ τ := mj_nx i94_135 rfl
theorem i94_137 : mj_ins 94 137 = some (.ifCond .eq 157, 140) := by decide +kernel
theorem e94_137 {ls : mj_L} {st : List Value} {σ : mj_S} {τ : mj_T} {x : Int32} : mj_E 94 137 ls (.int x :: st) σ τ = if x = 0 then mj_E 94 157 ls st σ τ else mj_E 94 140 ls st σ τ := (mj_ifc i94_137).trans (mj_cdT rfl)
theorem i94_140 : mj_ins 94 140 = some (.aload 6, 142) := by decide +kernel
theorem e94_140 {ls : mj_L} {st : List Value} {σ : mj_S} {τ : mj_T} {a0 a1 a2 a3 a4 a5 : Option Value} {v : Nat} : mj_E 94 140 (a0 :: a1 :: a2 :: a3 :: a4 :: a5 :: some (.ref v) :: ls) st σ τ = mj_E 94 142 (a0 :: a1 :: a2 :: a3 :: a4 :: a5 :: some (.ref v) :: ls) (.ref v :: st) σ τ := mj_nx i94_140 rfl
theorem i94_142 : mj_ins 94 142 = some (.getfield 1, 145) := by decide +kernel
theorem e94_142 {ls : mj_L} {st : List Value} {σ : mj_S} {τ : mj_T} {k : Nat} (h1 : 4 ≤ k) (h2 : k ≤ 6) : mj_E 94 142 ls (.ref k :: st) σ τ = mj_E 94 145 ls (.int (σ k 1) :: st) σ τ := (mj_gf i94_142).trans (congrArg (fun z => mj_ov z _) (fv0_1 h1 h2))
theorem i94_145 : mj_ins 94 145 = some (.iload 1, 146) := by decide +kernel
theorem e94_145 {ls : mj_L} {st : List Value} {σ : mj_S} {τ : mj_T} {a0 : Option Value} {v : Int32} : mj_E 94 145 (a0 :: some (.int v) :: ls) st σ τ = mj_E 94 146 (a0 :: some (.int v) :: ls) (.int v :: st) σ τ := mj_nx i94_145 rfl
theorem i94_146 : mj_ins 94 146 = some (.if_icmp .ne 153, 149) := by decide +kernel
theorem e94_146 {ls : mj_L} {st : List Value} {σ : mj_S} {τ : mj_T} {x y : Int32} : mj_E 94 146 ls (.int y :: .int x :: st) σ τ = if x = y then mj_E 94 149 ls st σ τ else mj_E 94 153 ls st σ τ := (mj_ifi i94_146).trans (mj_cdF rfl)
theorem i94_149 : mj_ins 94 149 = some (.iconst (1), 150) := by decide +kernel
theorem e94_149 {ls : mj_L} {st : List Value} {σ : mj_S} {τ : mj_T} : mj_E 94 149 ls st σ τ = mj_E 94 150 ls (.int (nI 1) :: st) σ τ := mj_nx i94_149 rfl
theorem i94_150 : mj_ins 94 150 = some (.goto 171, 153) := by decide +kernel
theorem e94_150 {ls : mj_L} {st : List Value} {σ : mj_S} {τ : mj_T} : mj_E 94 150 ls st σ τ = mj_E 94 171 ls st σ τ := mj_nx i94_150 rfl
theorem i94_153 : mj_ins 94 153 = some (.iconst (0), 154) := by decide +kernel
theorem e94_153 {ls : mj_L} {st : List Value} {σ : mj_S} {τ : mj_T} : mj_E 94 153 ls st σ τ = mj_E 94 154 ls (.int (nI 0) :: st) σ τ := mj_nx i94_153 rfl
theorem i94_154 : mj_ins 94 154 = some (.goto 171, 157) := by decide +kernel
theorem e94_154 {ls : mj_L} {st : List Value} {σ : mj_S} {τ : mj_T} : mj_E 94 154 ls st σ τ = mj_E 94 171 ls st σ τ := mj_nx i94_154 rfl
theorem i94_157 : mj_ins 94 157 = some (.aload 6, 159) := by decide +kernel
theorem e94_157 {ls : mj_L} {st : List Value} {σ : mj_S} {τ : mj_T} {a0 a1 a2 a3 a4 a5 : Option Value} {v : Nat} : mj_E 94 157 (a0 :: a1 :: a2 :: a3 :: a4 :: a5 :: some (.ref v) :: ls) st σ τ = mj_E 94 159 (a0 :: a1 :: a2 :: a3 :: a4 :: a5 :: some (.ref v) :: ls) (.ref v :: st) σ τ := mj_nx i94_157 rfl
theorem i94_159 : mj_ins 94 159 = some (.getfield 2, 162) := by decide +kernel
theorem e94_159 {ls : mj_L} {st : List Value} {σ : mj_S} {τ : mj_T} {k : Nat} (h1 : 4 ≤ k) (h2 : k ≤ 6) : mj_E 94 159 ls (.ref k :: st) σ τ = mj_E 94 162 ls (.int (σ k 2) :: st) σ τ := (mj_gf i94_159).trans (congrArg (fun z => mj_ov z _) (fv0_2 h1 h2))
theorem i94_162 : mj_ins 94 162 = some (.iload 1, 163) := by decide +kernel
theorem e94_162 {ls : mj_L} {st : List Value} {σ : mj_S} {τ : mj_T} {a0 : Option Value} {v : Int32} : mj_E 94 162 (a0 :: some (.int v) :: ls) st σ τ = mj_E 94 163 (a0 :: some (.int v) :: ls) (.int v :: st) σ τ := mj_nx i94_162 rfl
theorem i94_163 : mj_ins 94 163 = some (.if_icmp .ne 170, 166) := by decide +kernel
theorem e94_163 {ls : mj_L} {st : List Value} {σ : mj_S} {τ : mj_T} {x y : Int32} : mj_E 94 163 ls (.int y :: .int x :: st) σ τ = if x = y then mj_E 94 166 ls st σ τ else mj_E 94 170 ls st σ τ := (mj_ifi i94_163).trans (mj_cdF rfl)
theorem i94_166 : mj_ins 94 166 = some (.iconst (1), 167) := by decide +kernel
theorem e94_166 {ls : mj_L} {st : List Value} {σ : mj_S} {τ : mj_T} : mj_E 94 166 ls st σ τ = mj_E 94 167 ls (.int (nI 1) :: st) σ τ := mj_nx i94_166 rfl
theorem i94_167 : mj_ins 94 167 = some (.goto 171, 170) := by decide +kernel
theorem e94_167 {ls : mj_L} {st : List Value} {σ : mj_S} {τ : mj_T} : mj_E 94 167 ls st σ τ = mj_E 94 171 ls st σ τ := mj_nx i94_167 rfl
theorem i94_170 : mj_ins 94 170 = some (.iconst (0), 171) := by decide +kernel
theorem e94_170 {ls : mj_L} {st : List Value} {σ : mj_S} {τ : mj_T} : mj_E 94 170 ls st σ τ = mj_E 94 171 ls (.int (nI 0) :: st) σ τ := mj_nx i94_170 rfl
theorem i94_171 : mj_ins 94 171 = some (.istore 7, 173) := by decide +kernel
theorem e94_171 {ls : mj_L} {st : List Value} {σ : mj_S} {τ : mj_T} {a0 a1 a2 a3 a4 a5 a6 a7 : Option Value} {v : Int32} : mj_E 94 171 (a0 :: a1 :: a2 :: a3 :: a4 :: a5 :: a6 :: a7 :: ls) (.int v :: st) σ τ = mj_E 94 173 (a0 :: a1 :: a2 :: a3 :: a4 :: a5 :: a6 :: some (.int v) :: ls) st σ τ := mj_nx i94_171 rfl
theorem i94_173 : mj_ins 94 173 = some (.iload 7, 175) := by decide +kernel
theorem e94_173 {ls : mj_L} {st : List Value} {σ : mj_S} {τ : mj_T} {a0 a1 a2 a3 a4 a5 a6 : Option Value} {v : Int32} : mj_E 94 173 (a0 :: a1 :: a2 :: a3 :: a4 :: a5 :: a6 :: some (.int v) :: ls) st σ τ = mj_E 94 175 (a0 :: a1 :: a2 :: a3 :: a4 :: a5 :: a6 :: some (.int v) :: ls) (.int v :: st) σ τ := mj_nx i94_173 rfl
theorem i94_175 : mj_ins 94 175 = some (.ifCond .eq 181, 178) := by decide +kernel
theorem e94_175 {ls : mj_L} {st : List Value} {σ : mj_S} {τ : mj_T} {x : Int32} : mj_E 94 175 ls (.int x :: st) σ τ = if x = 0 then mj_E 94 181 ls st σ τ else mj_E 94 178 ls st σ τ := (mj_ifc i94_175).trans (mj_cdT rfl)
theorem i94_178 : mj_ins 94 178 = some (.iload 5, 180) := by decide +kernel
theorem e94_178 {ls : mj_L} {st : List Value} {σ : mj_S} {τ : mj_T} {a0 a1 a2 a3 a4 : Option Value} {v : Int32} : mj_E 94 178 (a0 :: a1 :: a2 :: a3 :: a4 :: some (.int v) :: ls) st σ τ = mj_E 94 180 (a0 :: a1 :: a2 :: a3 :: a4 :: some (.int v) :: ls) (.int v :: st) σ τ := mj_nx i94_178 rfl
theorem i94_180 : mj_ins 94 180 = some (.ireturn, 181) := by decide +kernel
theorem e94_180 {ls : mj_L} {σ : mj_S} {τ : mj_T} {v : Int32} : mj_E 94 180 ls [.int v] σ τ = some (some (.int v), σ, τ) := mj_irt i94_180 rfl
theorem i94_181 : mj_ins 94 181 = some (.aload 0, 182) := by decide +kernel
theorem e94_181 {ls : mj_L} {st : List Value} {σ : mj_S} {τ : mj_T} {v : Nat} : mj_E 94 181 (some (.ref v) :: ls) st σ τ = mj_E 94 182 (some (.ref v) :: ls) (.ref v :: st) σ τ := mj_nx i94_181 rfl
theorem i94_182 : mj_ins 94 182 = some (.getfield 601, 185) := by decide +kernel
theorem e94_182 {ls : mj_L} {st : List Value} {σ : mj_S} {τ : mj_T} : mj_E 94 182 ls (.ref 0 :: st) σ τ = mj_E 94 185 ls (.ref 2 :: st) σ τ := mj_nx i94_182 rfl
theorem i94_185 : mj_ins 94 185 = some (.iload 2, 186) := by decide +kernel
theorem e94_185 {ls : mj_L} {st : List Value} {σ : mj_S} {τ : mj_T} {a0 a1 : Option Value} {v : Int32} : mj_E 94 185 (a0 :: a1 :: some (.int v) :: ls) st σ τ = mj_E 94 186 (a0 :: a1 :: some (.int v) :: ls) (.int v :: st) σ τ := mj_nx i94_185 rfl
theorem i94_186 : mj_ins 94 186 = some (.iload 1, 187) := by decide +kernel
theorem e94_186 {ls : mj_L} {st : List Value} {σ : mj_S} {τ : mj_T} {a0 : Option Value} {v : Int32} : mj_E 94 186 (a0 :: some (.int v) :: ls) st σ τ = mj_E 94 187 (a0 :: some (.int v) :: ls) (.int v :: st) σ τ := mj_nx i94_186 rfl
theorem i94_187 : mj_ins 94 187 = some (.iconst (1), 188) := by decide +kernel
theorem e94_187 {ls : mj_L} {st : List Value} {σ : mj_S} {τ : mj_T} : mj_E 94 187 ls st σ τ = mj_E 94 188 ls (.int (nI 1) :: st) σ τ := mj_nx i94_187 rfl
theorem i94_188 : mj_ins 94 188 = some (.invokevirtual 20, 191) := by decide +kernel
theorem e94_188 {ls : mj_L} {σ : mj_S} {τ : mj_T} {r : Nat} {x0 : Int32} {x1 : Int32} {x2 : Int32} : mj_E 94 188 ls [.int x2, .int x1, .int x0, .ref r] σ τ = if mj_rcv r 1 = true then mj_bd (mj_C 20 [.ref r, .int x0, .int x1, .int x2] σ τ) (mj_K 94 191 ls []) else none := mj_clV (as := [.int x0, .int x1, .int x2]) (r := []) i94_188 (by decide +kernel : mj_vk 94 20 3 0 4 false = true) (by decide +kernel)
theorem i94_191 : mj_ins 94 191 = some (.iinc 5 (1), 194) := by decide +kernel
theorem e94_191 {ls : mj_L} {st : List Value} {σ : mj_S} {τ : mj_T} {a0 a1 a2 a3 a4 : Option Value} {v : Int32} : mj_E 94 191 (a0 :: a1 :: a2 :: a3 :: a4 :: some (.int v) :: ls) st σ τ = mj_E 94 194 (a0 :: a1 :: a2 :: a3 :: a4 :: some (.int (v + nI 1)) :: ls) st σ τ := mj_nx i94_191 rfl
theorem i94_194 : mj_ins 94 194 = some (.goto 96, 197) := by decide +kernel
theorem e94_194 {ls : mj_L} {st : List Value} {σ : mj_S} {τ : mj_T} : mj_E 94 194 ls st σ τ = mj_E 94 96 ls st σ τ := mj_nx i94_194 rfl
theorem i94_197 : mj_ins 94 197 = some (.iconst (-1), 198) := by decide +kernel
theorem e94_197 {ls : mj_L} {st : List Value} {σ : mj_S} {τ : mj_T} : mj_E 94 197 ls st σ τ = mj_E 94 198 ls (.int ((-1)) :: st) σ τ := mj_nx i94_197 rfl
theorem i94_198 : mj_ins 94 198 = some (.ireturn, 199) := by decide +kernel
theorem e94_198 {ls : mj_L} {σ : mj_S} {τ : mj_T} {v : Int32} : mj_E 94 198 ls [.int v] σ τ = some (some (.int v), σ, τ) := mj_irt i94_198 rfl
theorem c95 {σ : mj_S} {τ : mj_T} {r : Nat} {x0 : Int32} {x1 : Int32} {x2 : Int32} {x3 : Int32} : mj_C 95 [.ref r, .int x0, .int x1, .int x2, .int x3] σ τ = mj_E 95 0 [some (.ref r), some (.int x0), some (.int x1), some (.int x2), some (.int x3), none, none, none] [] σ τ := rfl
theorem i95_0 : mj_ins 95 0 = some (.aload 0, 1) := by decide +kernel
theorem e95_0 {ls : mj_L} {st : List Value} {σ : mj_S} {τ : mj_T} {v : Nat} : mj_E 95 0 (some (.ref v) :: ls) st σ τ = mj_E 95 1 (some (.ref v) :: ls) (.ref v :: st) σ τ := mj_nx i95_0 rfl
theorem i95_1 : mj_ins 95 1 = some (.getfield 600, 4) := by decide +kernel
theorem e95_1 {ls : mj_L} {st : List Value} {σ : mj_S} {τ : mj_T} : mj_E 95 1 ls (.ref 0 :: st) σ τ = mj_E 95 4 ls (.ref 1 :: st) σ τ := mj_nx i95_1 rfl
theorem i95_4 : mj_ins 95 4 = some (.iload 1, 5) := by decide +kernel
theorem e95_4 {ls : mj_L} {st : List Value} {σ : mj_S} {τ : mj_T} {a0 : Option Value} {v : Int32} : mj_E 95 4 (a0 :: some (.int v) :: ls) st σ τ = mj_E 95 5 (a0 :: some (.int v) :: ls) (.int v :: st) σ τ := mj_nx i95_4 rfl
theorem i95_5 : mj_ins 95 5 = some (.invokevirtual 7, 8) := by decide +kernel
theorem e95_5 {ls : mj_L} {σ : mj_S} {τ : mj_T} {r : Nat} {x0 : Int32} : mj_E 95 5 ls [.int x0, .ref r] σ τ = if mj_rcv r 1 = true then mj_bd (mj_C 7 [.ref r, .int x0] σ τ) (mj_K 95 8 ls []) else none := mj_clV (as := [.int x0]) (r := []) i95_5 (by decide +kernel : mj_vk 95 7 1 0 2 false = true) (by decide +kernel)
theorem i95_8 : mj_ins 95 8 = some (.ifCond .eq 38, 11) := by decide +kernel
theorem e95_8 {ls : mj_L} {st : List Value} {σ : mj_S} {τ : mj_T} {x : Int32} : mj_E 95 8 ls (.int x :: st) σ τ = if x = 0 then mj_E 95 38 ls st σ τ else mj_E 95 11 ls st σ τ := (mj_ifc i95_8).trans (mj_cdT rfl)
theorem i95_11 : mj_ins 95 11 = some (.aload 0, 12) := by decide +kernel
theorem e95_11 {ls : mj_L} {st : List Value} {σ : mj_S} {τ : mj_T} {v : Nat} : mj_E 95 11 (some (.ref v) :: ls) st σ τ = mj_E 95 12 (some (.ref v) :: ls) (.ref v :: st) σ τ := mj_nx i95_11 rfl
theorem i95_12 : mj_ins 95 12 = some (.getfield 600, 15) := by decide +kernel
theorem e95_12 {ls : mj_L} {st : List Value} {σ : mj_S} {τ : mj_T} : mj_E 95 12 ls (.ref 0 :: st) σ τ = mj_E 95 15 ls (.ref 1 :: st) σ τ := mj_nx i95_12 rfl
theorem i95_15 : mj_ins 95 15 = some (.iload 2, 16) := by decide +kernel
theorem e95_15 {ls : mj_L} {st : List Value} {σ : mj_S} {τ : mj_T} {a0 a1 : Option Value} {v : Int32} : mj_E 95 15 (a0 :: a1 :: some (.int v) :: ls) st σ τ = mj_E 95 16 (a0 :: a1 :: some (.int v) :: ls) (.int v :: st) σ τ := mj_nx i95_15 rfl
theorem i95_16 : mj_ins 95 16 = some (.invokevirtual 7, 19) := by decide +kernel
theorem e95_16 {ls : mj_L} {σ : mj_S} {τ : mj_T} {r : Nat} {x0 : Int32} : mj_E 95 16 ls [.int x0, .ref r] σ τ = if mj_rcv r 1 = true then mj_bd (mj_C 7 [.ref r, .int x0] σ τ) (mj_K 95 19 ls []) else none := mj_clV (as := [.int x0]) (r := []) i95_16 (by decide +kernel : mj_vk 95 7 1 0 2 false = true) (by decide +kernel)
theorem i95_19 : mj_ins 95 19 = some (.ifCond .eq 38, 22) := by decide +kernel
theorem e95_19 {ls : mj_L} {st : List Value} {σ : mj_S} {τ : mj_T} {x : Int32} : mj_E 95 19 ls (.int x :: st) σ τ = if x = 0 then mj_E 95 38 ls st σ τ else mj_E 95 22 ls st σ τ := (mj_ifc i95_19).trans (mj_cdT rfl)
theorem i95_22 : mj_ins 95 22 = some (.aload 0, 23) := by decide +kernel
theorem e95_22 {ls : mj_L} {st : List Value} {σ : mj_S} {τ : mj_T} {v : Nat} : mj_E 95 22 (some (.ref v) :: ls) st σ τ = mj_E 95 23 (some (.ref v) :: ls) (.ref v :: st) σ τ := mj_nx i95_22 rfl
theorem i95_23 : mj_ins 95 23 = some (.getfield 600, 26) := by decide +kernel
theorem e95_23 {ls : mj_L} {st : List Value} {σ : mj_S} {τ : mj_T} : mj_E 95 23 ls (.ref 0 :: st) σ τ = mj_E 95 26 ls (.ref 1 :: st) σ τ := mj_nx i95_23 rfl
theorem i95_26 : mj_ins 95 26 = some (.iload 3, 27) := by decide +kernel
theorem e95_26 {ls : mj_L} {st : List Value} {σ : mj_S} {τ : mj_T} {a0 a1 a2 : Option Value} {v : Int32} : mj_E 95 26 (a0 :: a1 :: a2 :: some (.int v) :: ls) st σ τ = mj_E 95 27 (a0 :: a1 :: a2 :: some (.int v) :: ls) (.int v :: st) σ τ := mj_nx i95_26 rfl
theorem i95_27 : mj_ins 95 27 = some (.invokevirtual 8, 30) := by decide +kernel
theorem e95_27 {ls : mj_L} {σ : mj_S} {τ : mj_T} {r : Nat} {x0 : Int32} : mj_E 95 27 ls [.int x0, .ref r] σ τ = if mj_rcv r 1 = true then mj_bd (mj_C 8 [.ref r, .int x0] σ τ) (mj_K 95 30 ls []) else none := mj_clV (as := [.int x0]) (r := []) i95_27 (by decide +kernel : mj_vk 95 8 1 0 2 false = true) (by decide +kernel)
theorem i95_30 : mj_ins 95 30 = some (.ifCond .eq 38, 33) := by decide +kernel
theorem e95_30 {ls : mj_L} {st : List Value} {σ : mj_S} {τ : mj_T} {x : Int32} : mj_E 95 30 ls (.int x :: st) σ τ = if x = 0 then mj_E 95 38 ls st σ τ else mj_E 95 33 ls st σ τ := (mj_ifc i95_30).trans (mj_cdT rfl)
theorem i95_33 : mj_ins 95 33 = some (.iload 1, 34) := by decide +kernel
theorem e95_33 {ls : mj_L} {st : List Value} {σ : mj_S} {τ : mj_T} {a0 : Option Value} {v : Int32} : mj_E 95 33 (a0 :: some (.int v) :: ls) st σ τ = mj_E 95 34 (a0 :: some (.int v) :: ls) (.int v :: st) σ τ := mj_nx i95_33 rfl
theorem i95_34 : mj_ins 95 34 = some (.iload 2, 35) := by decide +kernel
theorem e95_34 {ls : mj_L} {st : List Value} {σ : mj_S} {τ : mj_T} {a0 a1 : Option Value} {v : Int32} : mj_E 95 34 (a0 :: a1 :: some (.int v) :: ls) st σ τ = mj_E 95 35 (a0 :: a1 :: some (.int v) :: ls) (.int v :: st) σ τ := mj_nx i95_34 rfl
theorem i95_35 : mj_ins 95 35 = some (.if_icmp .ne 44, 38) := by decide +kernel
theorem e95_35 {ls : mj_L} {st : List Value} {σ : mj_S} {τ : mj_T} {x y : Int32} : mj_E 95 35 ls (.int y :: .int x :: st) σ τ = if x = y then mj_E 95 38 ls st σ τ else mj_E 95 44 ls st σ τ := (mj_ifi i95_35).trans (mj_cdF rfl)
theorem i95_38 : mj_ins 95 38 = some (.aload 0, 39) := by decide +kernel
theorem e95_38 {ls : mj_L} {st : List Value} {σ : mj_S} {τ : mj_T} {v : Nat} : mj_E 95 38 (some (.ref v) :: ls) st σ τ = mj_E 95 39 (some (.ref v) :: ls) (.ref v :: st) σ τ := mj_nx i95_38 rfl
theorem i95_39 : mj_ins 95 39 = some (.iconst (-1), 40) := by decide +kernel
theorem e95_39 {ls : mj_L} {st : List Value} {σ : mj_S} {τ : mj_T} : mj_E 95 39 ls st σ τ = mj_E 95 40 ls (.int ((-1)) :: st) σ τ := mj_nx i95_39 rfl
theorem i95_40 : mj_ins 95 40 = some (.invokevirtual 112, 43) := by decide +kernel
theorem e95_40 {ls : mj_L} {σ : mj_S} {τ : mj_T} {r : Nat} {x0 : Int32} : mj_E 95 40 ls [.int x0, .ref r] σ τ = if mj_rcv r 6 = true then mj_bd (mj_C 112 [.ref r, .int x0] σ τ) (mj_K 95 43 ls []) else none := mj_clV (as := [.int x0]) (r := []) i95_40 (by decide +kernel : mj_vk 95 112 1 0 2 false = true) (by decide +kernel)
theorem i95_43 : mj_ins 95 43 = some (.ireturn, 44) := by decide +kernel
theorem e95_43 {ls : mj_L} {σ : mj_S} {τ : mj_T} {v : Int32} : mj_E 95 43 ls [.int v] σ τ = some (some (.int v), σ, τ) := mj_irt i95_43 rfl
theorem i95_44 : mj_ins 95 44 = some (.iload 4, 46) := by decide +kernel
theorem e95_44 {ls : mj_L} {st : List Value} {σ : mj_S} {τ : mj_T} {a0 a1 a2 a3 : Option Value} {v : Int32} : mj_E 95 44 (a0 :: a1 :: a2 :: a3 :: some (.int v) :: ls) st σ τ = mj_E 95 46 (a0 :: a1 :: a2 :: a3 :: some (.int v) :: ls) (.int v :: st) σ τ := mj_nx i95_44 rfl
theorem i95_46 : mj_ins 95 46 = some (.iconst (1), 47) := by decide +kernel
theorem e95_46 {ls : mj_L} {st : List Value} {σ : mj_S} {τ : mj_T} : mj_E 95 46 ls st σ τ = mj_E 95 47 ls (.int (nI 1) :: st) σ τ := mj_nx i95_46 rfl
theorem i95_47 : mj_ins 95 47 = some (.invokestatic 116, 50) := by decide +kernel
theorem e95_47 {ls : mj_L} {σ : mj_S} {τ : mj_T} {x0 : Int32} {x1 : Int32} : mj_E 95 47 ls [.int x1, .int x0] σ τ = mj_bd (mj_C 116 [.int x0, .int x1] σ τ) (mj_K 95 50 ls []) := mj_clS (as := [.int x0, .int x1]) (r := []) i95_47 (by decide +kernel : mj_vk 95 116 2 0 2 false = true) rfl
theorem i95_50 : mj_ins 95 50 = some (.ifCond .ne 60, 53) := by decide +kernel
theorem e95_50 {ls : mj_L} {st : List Value} {σ : mj_S} {τ : mj_T} {x : Int32} : mj_E 95 50 ls (.int x :: st) σ τ = if x = 0 then mj_E 95 53 ls st σ τ else mj_E 95 60 ls st σ τ := (mj_ifc i95_50).trans (mj_cdF rfl)
theorem i95_53 : mj_ins 95 53 = some (.aload 0, 54) := by decide +kernel
theorem e95_53 {ls : mj_L} {st : List Value} {σ : mj_S} {τ : mj_T} {v : Nat} : mj_E 95 53 (some (.ref v) :: ls) st σ τ = mj_E 95 54 (some (.ref v) :: ls) (.ref v :: st) σ τ := mj_nx i95_53 rfl
theorem i95_54 : mj_ins 95 54 = some (.iconst (-5), 56) := by decide +kernel
theorem e95_54 {ls : mj_L} {st : List Value} {σ : mj_S} {τ : mj_T} : mj_E 95 54 ls st σ τ = mj_E 95 56 ls (.int ((-5)) :: st) σ τ := mj_nx i95_54 rfl
theorem i95_56 : mj_ins 95 56 = some (.invokevirtual 112, 59) := by decide +kernel
theorem e95_56 {ls : mj_L} {σ : mj_S} {τ : mj_T} {r : Nat} {x0 : Int32} : mj_E 95 56 ls [.int x0, .ref r] σ τ = if mj_rcv r 6 = true then mj_bd (mj_C 112 [.ref r, .int x0] σ τ) (mj_K 95 59 ls []) else none := mj_clV (as := [.int x0]) (r := []) i95_56 (by decide +kernel : mj_vk 95 112 1 0 2 false = true) (by decide +kernel)
theorem i95_59 : mj_ins 95 59 = some (.ireturn, 60) := by decide +kernel
theorem e95_59 {ls : mj_L} {σ : mj_S} {τ : mj_T} {v : Int32} : mj_E 95 59 ls [.int v] σ τ = some (some (.int v), σ, τ) := mj_irt i95_59 rfl
theorem i95_60 : mj_ins 95 60 = some (.aload 0, 61) := by decide +kernel
theorem e95_60 {ls : mj_L} {st : List Value} {σ : mj_S} {τ : mj_T} {v : Nat} : mj_E 95 60 (some (.ref v) :: ls) st σ τ = mj_E 95 61 (some (.ref v) :: ls) (.ref v :: st) σ τ := mj_nx i95_60 rfl
theorem i95_61 : mj_ins 95 61 = some (.getfield 600, 64) := by decide +kernel
theorem e95_61 {ls : mj_L} {st : List Value} {σ : mj_S} {τ : mj_T} : mj_E 95 61 ls (.ref 0 :: st) σ τ = mj_E 95 64 ls (.ref 1 :: st) σ τ := mj_nx i95_61 rfl
theorem i95_64 : mj_ins 95 64 = some (.iload 3, 65) := by decide +kernel
theorem e95_64 {ls : mj_L} {st : List Value} {σ : mj_S} {τ : mj_T} {a0 a1 a2 : Option Value} {v : Int32} : mj_E 95 64 (a0 :: a1 :: a2 :: some (.int v) :: ls) st σ τ = mj_E 95 65 (a0 :: a1 :: a2 :: some (.int v) :: ls) (.int v :: st) σ τ := mj_nx i95_64 rfl
theorem i95_65 : mj_ins 95 65 = some (.iload 1, 66) := by decide +kernel
theorem e95_65 {ls : mj_L} {st : List Value} {σ : mj_S} {τ : mj_T} {a0 : Option Value} {v : Int32} : mj_E 95 65 (a0 :: some (.int v) :: ls) st σ τ = mj_E 95 66 (a0 :: some (.int v) :: ls) (.int v :: st) σ τ := mj_nx i95_65 rfl
theorem i95_66 : mj_ins 95 66 = some (.invokevirtual 14, 69) := by decide +kernel
theorem e95_66 {ls : mj_L} {σ : mj_S} {τ : mj_T} {r : Nat} {x0 : Int32} {x1 : Int32} : mj_E 95 66 ls [.int x1, .int x0, .ref r] σ τ = if mj_rcv r 1 = true then mj_bd (mj_C 14 [.ref r, .int x0, .int x1] σ τ) (mj_K 95 69 ls []) else none := mj_clV (as := [.int x0, .int x1]) (r := []) i95_66 (by decide +kernel : mj_vk 95 14 2 0 3 false = true) (by decide +kernel)
theorem i95_69 : mj_ins 95 69 = some (.ifCond .ne 106, 72) := by decide +kernel
theorem e95_69 {ls : mj_L} {st : List Value} {σ : mj_S} {τ : mj_T} {x : Int32} : mj_E 95 69 ls (.int x :: st) σ τ = if x = 0 then mj_E 95 72 ls st σ τ else mj_E 95 106 ls st σ τ := (mj_ifc i95_69).trans (mj_cdF rfl)
theorem i95_72 : mj_ins 95 72 = some (.aload 0, 73) := by decide +kernel
theorem e95_72 {ls : mj_L} {st : List Value} {σ : mj_S} {τ : mj_T} {v : Nat} : mj_E 95 72 (some (.ref v) :: ls) st σ τ = mj_E 95 73 (some (.ref v) :: ls) (.ref v :: st) σ τ := mj_nx i95_72 rfl
theorem i95_73 : mj_ins 95 73 = some (.getfield 600, 76) := by decide +kernel
theorem e95_73 {ls : mj_L} {st : List Value} {σ : mj_S} {τ : mj_T} : mj_E 95 73 ls (.ref 0 :: st) σ τ = mj_E 95 76 ls (.ref 1 :: st) σ τ := mj_nx i95_73 rfl
theorem i95_76 : mj_ins 95 76 = some (.iload 3, 77) := by decide +kernel
theorem e95_76 {ls : mj_L} {st : List Value} {σ : mj_S} {τ : mj_T} {a0 a1 a2 : Option Value} {v : Int32} : mj_E 95 76 (a0 :: a1 :: a2 :: some (.int v) :: ls) st σ τ = mj_E 95 77 (a0 :: a1 :: a2 :: some (.int v) :: ls) (.int v :: st) σ τ := mj_nx i95_76 rfl
theorem i95_77 : mj_ins 95 77 = some (.iload 2, 78) := by decide +kernel
theorem e95_77 {ls : mj_L} {st : List Value} {σ : mj_S} {τ : mj_T} {a0 a1 : Option Value} {v : Int32} : mj_E 95 77 (a0 :: a1 :: some (.int v) :: ls) st σ τ = mj_E 95 78 (a0 :: a1 :: some (.int v) :: ls) (.int v :: st) σ τ := mj_nx i95_77 rfl
theorem i95_78 : mj_ins 95 78 = some (.invokevirtual 14, 81) := by decide +kernel
theorem e95_78 {ls : mj_L} {σ : mj_S} {τ : mj_T} {r : Nat} {x0 : Int32} {x1 : Int32} : mj_E 95 78 ls [.int x1, .int x0, .ref r] σ τ = if mj_rcv r 1 = true then mj_bd (mj_C 14 [.ref r, .int x0, .int x1] σ τ) (mj_K 95 81 ls []) else none := mj_clV (as := [.int x0, .int x1]) (r := []) i95_78 (by decide +kernel : mj_vk 95 14 2 0 3 false = true) (by decide +kernel)
theorem i95_81 : mj_ins 95 81 = some (.ifCond .ne 106, 84) := by decide +kernel
theorem e95_81 {ls : mj_L} {st : List Value} {σ : mj_S} {τ : mj_T} {x : Int32} : mj_E 95 81 ls (.int x :: st) σ τ = if x = 0 then mj_E 95 84 ls st σ τ else mj_E 95 106 ls st σ τ := (mj_ifc i95_81).trans (mj_cdF rfl)
theorem i95_84 : mj_ins 95 84 = some (.aload 0, 85) := by decide +kernel
theorem e95_84 {ls : mj_L} {st : List Value} {σ : mj_S} {τ : mj_T} {v : Nat} : mj_E 95 84 (some (.ref v) :: ls) st σ τ = mj_E 95 85 (some (.ref v) :: ls) (.ref v :: st) σ τ := mj_nx i95_84 rfl
theorem i95_85 : mj_ins 95 85 = some (.getfield 600, 88) := by decide +kernel
theorem e95_85 {ls : mj_L} {st : List Value} {σ : mj_S} {τ : mj_T} : mj_E 95 85 ls (.ref 0 :: st) σ τ = mj_E 95 88 ls (.ref 1 :: st) σ τ := mj_nx i95_85 rfl
theorem i95_88 : mj_ins 95 88 = some (.iload 1, 89) := by decide +kernel
theorem e95_88 {ls : mj_L} {st : List Value} {σ : mj_S} {τ : mj_T} {a0 : Option Value} {v : Int32} : mj_E 95 88 (a0 :: some (.int v) :: ls) st σ τ = mj_E 95 89 (a0 :: some (.int v) :: ls) (.int v :: st) σ τ := mj_nx i95_88 rfl
theorem i95_89 : mj_ins 95 89 = some (.invokevirtual 13, 92) := by decide +kernel
theorem e95_89 {ls : mj_L} {σ : mj_S} {τ : mj_T} {r : Nat} {x0 : Int32} : mj_E 95 89 ls [.int x0, .ref r] σ τ = if mj_rcv r 1 = true then mj_bd (mj_C 13 [.ref r, .int x0] σ τ) (mj_K 95 92 ls []) else none := mj_clV (as := [.int x0]) (r := []) i95_89 (by decide +kernel : mj_vk 95 13 1 0 2 false = true) (by decide +kernel)
theorem i95_92 : mj_ins 95 92 = some (.ifCond .ne 106, 95) := by decide +kernel
theorem e95_92 {ls : mj_L} {st : List Value} {σ : mj_S} {τ : mj_T} {x : Int32} : mj_E 95 92 ls (.int x :: st) σ τ = if x = 0 then mj_E 95 95 ls st σ τ else mj_E 95 106 ls st σ τ := (mj_ifc i95_92).trans (mj_cdF rfl)
theorem i95_95 : mj_ins 95 95 = some (.aload 0, 96) := by decide +kernel
theorem e95_95 {ls : mj_L} {st : List Value} {σ : mj_S} {τ : mj_T} {v : Nat} : mj_E 95 95 (some (.ref v) :: ls) st σ τ = mj_E 95 96 (some (.ref v) :: ls) (.ref v :: st) σ τ := mj_nx i95_95 rfl
theorem i95_96 : mj_ins 95 96 = some (.getfield 600, 99) := by decide +kernel
theorem e95_96 {ls : mj_L} {st : List Value} {σ : mj_S} {τ : mj_T} : mj_E 95 96 ls (.ref 0 :: st) σ τ = mj_E 95 99 ls (.ref 1 :: st) σ τ := mj_nx i95_96 rfl
theorem i95_99 : mj_ins 95 99 = some (.iload 2, 100) := by decide +kernel
theorem e95_99 {ls : mj_L} {st : List Value} {σ : mj_S} {τ : mj_T} {a0 a1 : Option Value} {v : Int32} : mj_E 95 99 (a0 :: a1 :: some (.int v) :: ls) st σ τ = mj_E 95 100 (a0 :: a1 :: some (.int v) :: ls) (.int v :: st) σ τ := mj_nx i95_99 rfl
theorem i95_100 : mj_ins 95 100 = some (.invokevirtual 13, 103) := by decide +kernel
theorem e95_100 {ls : mj_L} {σ : mj_S} {τ : mj_T} {r : Nat} {x0 : Int32} : mj_E 95 100 ls [.int x0, .ref r] σ τ = if mj_rcv r 1 = true then mj_bd (mj_C 13 [.ref r, .int x0] σ τ) (mj_K 95 103 ls []) else none := mj_clV (as := [.int x0]) (r := []) i95_100 (by decide +kernel : mj_vk 95 13 1 0 2 false = true) (by decide +kernel)
theorem i95_103 : mj_ins 95 103 = some (.ifCond .eq 113, 106) := by decide +kernel
theorem e95_103 {ls : mj_L} {st : List Value} {σ : mj_S} {τ : mj_T} {x : Int32} : mj_E 95 103 ls (.int x :: st) σ τ = if x = 0 then mj_E 95 113 ls st σ τ else mj_E 95 106 ls st σ τ := (mj_ifc i95_103).trans (mj_cdT rfl)
theorem i95_106 : mj_ins 95 106 = some (.aload 0, 107) := by decide +kernel
theorem e95_106 {ls : mj_L} {st : List Value} {σ : mj_S} {τ : mj_T} {v : Nat} : mj_E 95 106 (some (.ref v) :: ls) st σ τ = mj_E 95 107 (some (.ref v) :: ls) (.ref v :: st) σ τ := mj_nx i95_106 rfl
theorem i95_107 : mj_ins 95 107 = some (.iconst (-6), 109) := by decide +kernel
theorem e95_107 {ls : mj_L} {st : List Value} {σ : mj_S} {τ : mj_T} : mj_E 95 107 ls st σ τ = mj_E 95 109 ls (.int ((-6)) :: st) σ τ := mj_nx i95_107 rfl
theorem i95_109 : mj_ins 95 109 = some (.invokevirtual 112, 112) := by decide +kernel
theorem e95_109 {ls : mj_L} {σ : mj_S} {τ : mj_T} {r : Nat} {x0 : Int32} : mj_E 95 109 ls [.int x0, .ref r] σ τ = if mj_rcv r 6 = true then mj_bd (mj_C 112 [.ref r, .int x0] σ τ) (mj_K 95 112 ls []) else none := mj_clV (as := [.int x0]) (r := []) i95_109 (by decide +kernel : mj_vk 95 112 1 0 2 false = true) (by decide +kernel)
theorem i95_112 : mj_ins 95 112 = some (.ireturn, 113) := by decide +kernel
theorem e95_112 {ls : mj_L} {σ : mj_S} {τ : mj_T} {v : Int32} : mj_E 95 112 ls [.int v] σ τ = some (some (.int v), σ, τ) := mj_irt i95_112 rfl
theorem i95_113 : mj_ins 95 113 = some (.aload 0, 114) := by decide +kernel
theorem e95_113 {ls : mj_L} {st : List Value} {σ : mj_S} {τ : mj_T} {v : Nat} : mj_E 95 113 (some (.ref v) :: ls) st σ τ = mj_E 95 114 (some (.ref v) :: ls) (.ref v :: st) σ τ := mj_nx i95_113 rfl
theorem i95_114 : mj_ins 95 114 = some (.getfield 600, 117) := by decide +kernel
theorem e95_114 {ls : mj_L} {st : List Value} {σ : mj_S} {τ : mj_T} : mj_E 95 114 ls (.ref 0 :: st) σ τ = mj_E 95 117 ls (.ref 1 :: st) σ τ := mj_nx i95_114 rfl
theorem i95_117 : mj_ins 95 117 = some (.iload 1, 118) := by decide +kernel
theorem e95_117 {ls : mj_L} {st : List Value} {σ : mj_S} {τ : mj_T} {a0 : Option Value} {v : Int32} : mj_E 95 117 (a0 :: some (.int v) :: ls) st σ τ = mj_E 95 118 (a0 :: some (.int v) :: ls) (.int v :: st) σ τ := mj_nx i95_117 rfl
theorem i95_118 : mj_ins 95 118 = some (.invokevirtual 16, 121) := by decide +kernel
theorem e95_118 {ls : mj_L} {σ : mj_S} {τ : mj_T} {r : Nat} {x0 : Int32} : mj_E 95 118 ls [.int x0, .ref r] σ τ = if mj_rcv r 1 = true then mj_bd (mj_C 16 [.ref r, .int x0] σ τ) (mj_K 95 121 ls []) else none := mj_clV (as := [.int x0]) (r := []) i95_118 (by decide +kernel : mj_vk 95 16 1 0 2 false = true) (by decide +kernel)
theorem i95_121 : mj_ins 95 121 = some (.istore 5, 123) := by decide +kernel
theorem e95_121 {ls : mj_L} {st : List Value} {σ : mj_S} {τ : mj_T} {a0 a1 a2 a3 a4 a5 : Option Value} {v : Int32} : mj_E 95 121 (a0 :: a1 :: a2 :: a3 :: a4 :: a5 :: ls) (.int v :: st) σ τ = mj_E 95 123 (a0 :: a1 :: a2 :: a3 :: a4 :: some (.int v) :: ls) st σ τ := mj_nx i95_121 rfl
theorem i95_123 : mj_ins 95 123 = some (.aload 0, 124) := by decide +kernel
theorem e95_123 {ls : mj_L} {st : List Value} {σ : mj_S} {τ : mj_T} {v : Nat} : mj_E 95 123 (some (.ref v) :: ls) st σ τ = mj_E 95 124 (some (.ref v) :: ls) (.ref v :: st) σ τ := mj_nx i95_123 rfl
theorem i95_124 : mj_ins 95 124 = some (.getfield 600, 127) := by decide +kernel
theorem e95_124 {ls : mj_L} {st : List Value} {σ : mj_S} {τ : mj_T} : mj_E 95 124 ls (.ref 0 :: st) σ τ = mj_E 95 127 ls (.ref 1 :: st) σ τ := mj_nx i95_124 rfl
theorem i95_127 : mj_ins 95 127 = some (.iload 3, 128) := by decide +kernel
theorem e95_127 {ls : mj_L} {st : List Value} {σ : mj_S} {τ : mj_T} {a0 a1 a2 : Option Value} {v : Int32} : mj_E 95 127 (a0 :: a1 :: a2 :: some (.int v) :: ls) st σ τ = mj_E 95 128 (a0 :: a1 :: a2 :: some (.int v) :: ls) (.int v :: st) σ τ := mj_nx i95_127 rfl
theorem i95_128 : mj_ins 95 128 = some (.iload 1, 129) := by decide +kernel
theorem e95_128 {ls : mj_L} {st : List Value} {σ : mj_S} {τ : mj_T} {a0 : Option Value} {v : Int32} : mj_E 95 128 (a0 :: some (.int v) :: ls) st σ τ = mj_E 95 129 (a0 :: some (.int v) :: ls) (.int v :: st) σ τ := mj_nx i95_128 rfl
theorem i95_129 : mj_ins 95 129 = some (.iload 5, 131) := by decide +kernel
theorem e95_129 {ls : mj_L} {st : List Value} {σ : mj_S} {τ : mj_T} {a0 a1 a2 a3 a4 : Option Value} {v : Int32} : mj_E 95 129 (a0 :: a1 :: a2 :: a3 :: a4 :: some (.int v) :: ls) st σ τ = mj_E 95 131 (a0 :: a1 :: a2 :: a3 :: a4 :: some (.int v) :: ls) (.int v :: st) σ τ := mj_nx i95_129 rfl
theorem i95_131 : mj_ins 95 131 = some (.iload 2, 132) := by decide +kernel
theorem e95_131 {ls : mj_L} {st : List Value} {σ : mj_S} {τ : mj_T} {a0 a1 : Option Value} {v : Int32} : mj_E 95 131 (a0 :: a1 :: some (.int v) :: ls) st σ τ = mj_E 95 132 (a0 :: a1 :: some (.int v) :: ls) (.int v :: st) σ τ := mj_nx i95_131 rfl
theorem i95_132 : mj_ins 95 132 = some (.invokevirtual 24, 135) := by decide +kernel
theorem e95_132 {ls : mj_L} {σ : mj_S} {τ : mj_T} {r : Nat} {x0 : Int32} {x1 : Int32} {x2 : Int32} {x3 : Int32} : mj_E 95 132 ls [.int x3, .int x2, .int x1, .int x0, .ref r] σ τ = if mj_rcv r 1 = true then mj_bd (mj_C 24 [.ref r, .int x0, .int x1, .int x2, .int x3] σ τ) (mj_K 95 135 ls []) else none := mj_clV (as := [.int x0, .int x1, .int x2, .int x3]) (r := []) i95_132 (by decide +kernel : mj_vk 95 24 4 0 5 false = true) (by decide +kernel)
theorem i95_135 : mj_ins 95 135 = some (.istore 6, 137) := by decide +kernel
theorem e95_135 {ls : mj_L} {st : List Value} {σ : mj_S} {τ : mj_T} {a0 a1 a2 a3 a4 a5 a6 : Option Value} {v : Int32} : mj_E 95 135 (a0 :: a1 :: a2 :: a3 :: a4 :: a5 :: a6 :: ls) (.int v :: st) σ τ = mj_E 95 137 (a0 :: a1 :: a2 :: a3 :: a4 :: a5 :: some (.int v) :: ls) st σ τ := mj_nx i95_135 rfl
theorem i95_137 : mj_ins 95 137 = some (.iload 6, 139) := by decide +kernel
theorem e95_137 {ls : mj_L} {st : List Value} {σ : mj_S} {τ : mj_T} {a0 a1 a2 a3 a4 a5 : Option Value} {v : Int32} : mj_E 95 137 (a0 :: a1 :: a2 :: a3 :: a4 :: a5 :: some (.int v) :: ls) st σ τ = mj_E 95 139 (a0 :: a1 :: a2 :: a3 :: a4 :: a5 :: some (.int v) :: ls) (.int v :: st) σ τ := mj_nx i95_137 rfl
theorem i95_139 : mj_ins 95 139 = some (.ifCond .eq 146, 142) := by decide +kernel
theorem e95_139 {ls : mj_L} {st : List Value} {σ : mj_S} {τ : mj_T} {x : Int32} : mj_E 95 139 ls (.int x :: st) σ τ = if x = 0 then mj_E 95 146 ls st σ τ else mj_E 95 142 ls st σ τ := (mj_ifc i95_139).trans (mj_cdT rfl)
theorem i95_142 : mj_ins 95 142 = some (.iload 1, 143) := by decide +kernel
theorem e95_142 {ls : mj_L} {st : List Value} {σ : mj_S} {τ : mj_T} {a0 : Option Value} {v : Int32} : mj_E 95 142 (a0 :: some (.int v) :: ls) st σ τ = mj_E 95 143 (a0 :: some (.int v) :: ls) (.int v :: st) σ τ := mj_nx i95_142 rfl
theorem i95_143 : mj_ins 95 143 = some (.goto 147, 146) := by decide +kernel
theorem e95_143 {ls : mj_L} {st : List Value} {σ : mj_S} {τ : mj_T} : mj_E 95 143 ls st σ τ = mj_E 95 147 ls st σ τ := mj_nx i95_143 rfl
theorem i95_146 : mj_ins 95 146 = some (.iload 2, 147) := by decide +kernel
theorem e95_146 {ls : mj_L} {st : List Value} {σ : mj_S} {τ : mj_T} {a0 a1 : Option Value} {v : Int32} : mj_E 95 146 (a0 :: a1 :: some (.int v) :: ls) st σ τ = mj_E 95 147 (a0 :: a1 :: some (.int v) :: ls) (.int v :: st) σ τ := mj_nx i95_146 rfl
theorem i95_147 : mj_ins 95 147 = some (.istore 7, 149) := by decide +kernel
theorem e95_147 {ls : mj_L} {st : List Value} {σ : mj_S} {τ : mj_T} {a0 a1 a2 a3 a4 a5 a6 a7 : Option Value} {v : Int32} : mj_E 95 147 (a0 :: a1 :: a2 :: a3 :: a4 :: a5 :: a6 :: a7 :: ls) (.int v :: st) σ τ = mj_E 95 149 (a0 :: a1 :: a2 :: a3 :: a4 :: a5 :: a6 :: some (.int v) :: ls) st σ τ := mj_nx i95_147 rfl
theorem i95_149 : mj_ins 95 149 = some (.iload 4, 151) := by decide +kernel
theorem e95_149 {ls : mj_L} {st : List Value} {σ : mj_S} {τ : mj_T} {a0 a1 a2 a3 : Option Value} {v : Int32} : mj_E 95 149 (a0 :: a1 :: a2 :: a3 :: some (.int v) :: ls) st σ τ = mj_E 95 151 (a0 :: a1 :: a2 :: a3 :: some (.int v) :: ls) (.int v :: st) σ τ := mj_nx i95_149 rfl
theorem i95_151 : mj_ins 95 151 = some (.ifCond .ne 157, 154) := by decide +kernel
theorem e95_151 {ls : mj_L} {st : List Value} {σ : mj_S} {τ : mj_T} {x : Int32} : mj_E 95 151 ls (.int x :: st) σ τ = if x = 0 then mj_E 95 154 ls st σ τ else mj_E 95 157 ls st σ τ := (mj_ifc i95_151).trans (mj_cdF rfl)
theorem i95_154 : mj_ins 95 154 = some (.iload 7, 156) := by decide +kernel
theorem e95_154 {ls : mj_L} {st : List Value} {σ : mj_S} {τ : mj_T} {a0 a1 a2 a3 a4 a5 a6 : Option Value} {v : Int32} : mj_E 95 154 (a0 :: a1 :: a2 :: a3 :: a4 :: a5 :: a6 :: some (.int v) :: ls) st σ τ = mj_E 95 156 (a0 :: a1 :: a2 :: a3 :: a4 :: a5 :: a6 :: some (.int v) :: ls) (.int v :: st) σ τ := mj_nx i95_154 rfl
theorem i95_156 : mj_ins 95 156 = some (.ireturn, 157) := by decide +kernel
theorem e95_156 {ls : mj_L} {σ : mj_S} {τ : mj_T} {v : Int32} : mj_E 95 156 ls [.int v] σ τ = some (some (.int v), σ, τ) := mj_irt i95_156 rfl
theorem i95_157 : mj_ins 95 157 = some (.aload 0, 158) := by decide +kernel
theorem e95_157 {ls : mj_L} {st : List Value} {σ : mj_S} {τ : mj_T} {v : Nat} : mj_E 95 157 (some (.ref v) :: ls) st σ τ = mj_E 95 158 (some (.ref v) :: ls) (.ref v :: st) σ τ := mj_nx i95_157 rfl
theorem i95_158 : mj_ins 95 158 = some (.iload 3, 159) := by decide +kernel
theorem e95_158 {ls : mj_L} {st : List Value} {σ : mj_S} {τ : mj_T} {a0 a1 a2 : Option Value} {v : Int32} : mj_E 95 158 (a0 :: a1 :: a2 :: some (.int v) :: ls) st σ τ = mj_E 95 159 (a0 :: a1 :: a2 :: some (.int v) :: ls) (.int v :: st) σ τ := mj_nx i95_158 rfl
theorem i95_159 : mj_ins 95 159 = some (.iload 7, 161) := by decide +kernel
theorem e95_159 {ls : mj_L} {st : List Value} {σ : mj_S} {τ : mj_T} {a0 a1 a2 a3 a4 a5 a6 : Option Value} {v : Int32} : mj_E 95 159 (a0 :: a1 :: a2 :: a3 :: a4 :: a5 :: a6 :: some (.int v) :: ls) st σ τ = mj_E 95 161 (a0 :: a1 :: a2 :: a3 :: a4 :: a5 :: a6 :: some (.int v) :: ls) (.int v :: st) σ τ := mj_nx i95_159 rfl
theorem i95_161 : mj_ins 95 161 = some (.iload 6, 163) := by decide +kernel
theorem e95_161 {ls : mj_L} {st : List Value} {σ : mj_S} {τ : mj_T} {a0 a1 a2 a3 a4 a5 : Option Value} {v : Int32} : mj_E 95 161 (a0 :: a1 :: a2 :: a3 :: a4 :: a5 :: some (.int v) :: ls) st σ τ = mj_E 95 163 (a0 :: a1 :: a2 :: a3 :: a4 :: a5 :: some (.int v) :: ls) (.int v :: st) σ τ := mj_nx i95_161 rfl
theorem i95_163 : mj_ins 95 163 = some (.ifCond .eq 170, 166) := by decide +kernel
theorem e95_163 {ls : mj_L} {st : List Value} {σ : mj_S} {τ : mj_T} {x : Int32} : mj_E 95 163 ls (.int x :: st) σ τ = if x = 0 then mj_E 95 170 ls st σ τ else mj_E 95 166 ls st σ τ := (mj_ifc i95_163).trans (mj_cdT rfl)
theorem i95_166 : mj_ins 95 166 = some (.iload 2, 167) := by decide +kernel
theorem e95_166 {ls : mj_L} {st : List Value} {σ : mj_S} {τ : mj_T} {a0 a1 : Option Value} {v : Int32} : mj_E 95 166 (a0 :: a1 :: some (.int v) :: ls) st σ τ = mj_E 95 167 (a0 :: a1 :: some (.int v) :: ls) (.int v :: st) σ τ := mj_nx i95_166 rfl
theorem i95_167 : mj_ins 95 167 = some (.goto 171, 170) := by decide +kernel
theorem e95_167 {ls : mj_L} {st : List Value} {σ : mj_S} {τ : mj_T} : mj_E 95 167 ls st σ τ = mj_E 95 171 ls st σ τ := mj_nx i95_167 rfl
theorem i95_170 : mj_ins 95 170 = some (.iload 1, 171) := by decide +kernel
theorem e95_170 {ls : mj_L} {st : List Value} {σ : mj_S} {τ : mj_T} {a0 : Option Value} {v : Int32} : mj_E 95 170 (a0 :: some (.int v) :: ls) st σ τ = mj_E 95 171 (a0 :: some (.int v) :: ls) (.int v :: st) σ τ := mj_nx i95_170 rfl
theorem i95_171 : mj_ins 95 171 = some (.invokevirtual 96, 174) := by decide +kernel
theorem e95_171 {ls : mj_L} {σ : mj_S} {τ : mj_T} {r : Nat} {x0 : Int32} {x1 : Int32} {x2 : Int32} : mj_E 95 171 ls [.int x2, .int x1, .int x0, .ref r] σ τ = if mj_rcv r 6 = true then mj_bd (mj_C 96 [.ref r, .int x0, .int x1, .int x2] σ τ) (mj_K 95 174 ls []) else none := mj_clV (as := [.int x0, .int x1, .int x2]) (r := []) i95_171 (by decide +kernel : mj_vk 95 96 3 0 4 false = true) (by decide +kernel)
theorem i95_174 : mj_ins 95 174 = some (.ireturn, 175) := by decide +kernel
theorem e95_174 {ls : mj_L} {σ : mj_S} {τ : mj_T} {v : Int32} : mj_E 95 174 ls [.int v] σ τ = some (some (.int v), σ, τ) := mj_irt i95_174 rfl
theorem c96 {σ : mj_S} {τ : mj_T} {r : Nat} {x0 : Int32} {x1 : Int32} {x2 : Int32} : mj_C 96 [.ref r, .int x0, .int x1, .int x2] σ τ = mj_E 96 0 [some (.ref r), some (.int x0), some (.int x1), some (.int x2), none, none] [] σ τ := rfl
theorem i96_0 : mj_ins 96 0 = some (.aload 0, 1) := by decide +kernel
theorem e96_0 {ls : mj_L} {st : List Value} {σ : mj_S} {τ : mj_T} {v : Nat} : mj_E 96 0 (some (.ref v) :: ls) st σ τ = mj_E 96 1 (some (.ref v) :: ls) (.ref v :: st) σ τ := mj_nx i96_0 rfl
theorem i96_1 : mj_ins 96 1 = some (.getfield 600, 4) := by decide +kernel
theorem e96_1 {ls : mj_L} {st : List Value} {σ : mj_S} {τ : mj_T} : mj_E 96 1 ls (.ref 0 :: st) σ τ = mj_E 96 4 ls (.ref 1 :: st) σ τ := mj_nx i96_1 rfl
theorem i96_4 : mj_ins 96 4 = some (.iload 2, 5) := by decide +kernel
theorem e96_4 {ls : mj_L} {st : List Value} {σ : mj_S} {τ : mj_T} {a0 a1 : Option Value} {v : Int32} : mj_E 96 4 (a0 :: a1 :: some (.int v) :: ls) st σ τ = mj_E 96 5 (a0 :: a1 :: some (.int v) :: ls) (.int v :: st) σ τ := mj_nx i96_4 rfl
theorem i96_5 : mj_ins 96 5 = some (.invokevirtual 16, 8) := by decide +kernel
theorem e96_5 {ls : mj_L} {σ : mj_S} {τ : mj_T} {r : Nat} {x0 : Int32} : mj_E 96 5 ls [.int x0, .ref r] σ τ = if mj_rcv r 1 = true then mj_bd (mj_C 16 [.ref r, .int x0] σ τ) (mj_K 96 8 ls []) else none := mj_clV (as := [.int x0]) (r := []) i96_5 (by decide +kernel : mj_vk 96 16 1 0 2 false = true) (by decide +kernel)
theorem i96_8 : mj_ins 96 8 = some (.istore 4, 10) := by decide +kernel
theorem e96_8 {ls : mj_L} {st : List Value} {σ : mj_S} {τ : mj_T} {a0 a1 a2 a3 a4 : Option Value} {v : Int32} : mj_E 96 8 (a0 :: a1 :: a2 :: a3 :: a4 :: ls) (.int v :: st) σ τ = mj_E 96 10 (a0 :: a1 :: a2 :: a3 :: some (.int v) :: ls) st σ τ := mj_nx i96_8 rfl
theorem i96_10 : mj_ins 96 10 = some (.iconst (0), 11) := by decide +kernel
theorem e96_10 {ls : mj_L} {st : List Value} {σ : mj_S} {τ : mj_T} : mj_E 96 10 ls st σ τ = mj_E 96 11 ls (.int (nI 0) :: st) σ τ := mj_nx i96_10 rfl
theorem i96_11 : mj_ins 96 11 = some (.istore 5, 13) := by decide +kernel
theorem e96_11 {ls : mj_L} {st : List Value} {σ : mj_S} {τ : mj_T} {a0 a1 a2 a3 a4 a5 : Option Value} {v : Int32} : mj_E 96 11 (a0 :: a1 :: a2 :: a3 :: a4 :: a5 :: ls) (.int v :: st) σ τ = mj_E 96 13 (a0 :: a1 :: a2 :: a3 :: a4 :: some (.int v) :: ls) st σ τ := mj_nx i96_11 rfl
theorem i96_13 : mj_ins 96 13 = some (.iload 5, 15) := by decide +kernel
theorem e96_13 {ls : mj_L} {st : List Value} {σ : mj_S} {τ : mj_T} {a0 a1 a2 a3 a4 : Option Value} {v : Int32} : mj_E 96 13 (a0 :: a1 :: a2 :: a3 :: a4 :: some (.int v) :: ls) st σ τ = mj_E 96 15 (a0 :: a1 :: a2 :: a3 :: a4 :: some (.int v) :: ls) (.int v :: st) σ τ := mj_nx i96_13 rfl
theorem i96_15 : mj_ins 96 15 = some (.iload 4, 17) := by decide +kernel
theorem e96_15 {ls : mj_L} {st : List Value} {σ : mj_S} {τ : mj_T} {a0 a1 a2 a3 : Option Value} {v : Int32} : mj_E 96 15 (a0 :: a1 :: a2 :: a3 :: some (.int v) :: ls) st σ τ = mj_E 96 17 (a0 :: a1 :: a2 :: a3 :: some (.int v) :: ls) (.int v :: st) σ τ := mj_nx i96_15 rfl
theorem i96_17 : mj_ins 96 17 = some (.if_icmp .ge 44, 20) := by decide +kernel
theorem e96_17 {ls : mj_L} {st : List Value} {σ : mj_S} {τ : mj_T} {x y : Int32} : mj_E 96 17 ls (.int y :: .int x :: st) σ τ = if y ≤ x then mj_E 96 44 ls st σ τ else mj_E 96 20 ls st σ τ := (mj_ifi i96_17).trans (mj_cdT rfl)
theorem i96_20 : mj_ins 96 20 = some (.aload 0, 21) := by decide +kernel
theorem e96_20 {ls : mj_L} {st : List Value} {σ : mj_S} {τ : mj_T} {v : Nat} : mj_E 96 20 (some (.ref v) :: ls) st σ τ = mj_E 96 21 (some (.ref v) :: ls) (.ref v :: st) σ τ := mj_nx i96_20 rfl
theorem i96_21 : mj_ins 96 21 = some (.getfield 600, 24) := by decide +kernel
theorem e96_21 {ls : mj_L} {st : List Value} {σ : mj_S} {τ : mj_T} : mj_E 96 21 ls (.ref 0 :: st) σ τ = mj_E 96 24 ls (.ref 1 :: st) σ τ := mj_nx i96_21 rfl
theorem i96_24 : mj_ins 96 24 = some (.iload 1, 25) := by decide +kernel
theorem e96_24 {ls : mj_L} {st : List Value} {σ : mj_S} {τ : mj_T} {a0 : Option Value} {v : Int32} : mj_E 96 24 (a0 :: some (.int v) :: ls) st σ τ = mj_E 96 25 (a0 :: some (.int v) :: ls) (.int v :: st) σ τ := mj_nx i96_24 rfl
theorem i96_25 : mj_ins 96 25 = some (.iload 2, 26) := by decide +kernel
theorem e96_25 {ls : mj_L} {st : List Value} {σ : mj_S} {τ : mj_T} {a0 a1 : Option Value} {v : Int32} : mj_E 96 25 (a0 :: a1 :: some (.int v) :: ls) st σ τ = mj_E 96 26 (a0 :: a1 :: some (.int v) :: ls) (.int v :: st) σ τ := mj_nx i96_25 rfl
theorem i96_26 : mj_ins 96 26 = some (.iload 5, 28) := by decide +kernel
theorem e96_26 {ls : mj_L} {st : List Value} {σ : mj_S} {τ : mj_T} {a0 a1 a2 a3 a4 : Option Value} {v : Int32} : mj_E 96 26 (a0 :: a1 :: a2 :: a3 :: a4 :: some (.int v) :: ls) st σ τ = mj_E 96 28 (a0 :: a1 :: a2 :: a3 :: a4 :: some (.int v) :: ls) (.int v :: st) σ τ := mj_nx i96_26 rfl
theorem i96_28 : mj_ins 96 28 = some (.iload 3, 29) := by decide +kernel
theorem e96_28 {ls : mj_L} {st : List Value} {σ : mj_S} {τ : mj_T} {a0 a1 a2 : Option Value} {v : Int32} : mj_E 96 28 (a0 :: a1 :: a2 :: some (.int v) :: ls) st σ τ = mj_E 96 29 (a0 :: a1 :: a2 :: some (.int v) :: ls) (.int v :: st) σ τ := mj_nx i96_28 rfl
theorem i96_29 : mj_ins 96 29 = some (.invokevirtual 24, 32) := by decide +kernel
theorem e96_29 {ls : mj_L} {σ : mj_S} {τ : mj_T} {r : Nat} {x0 : Int32} {x1 : Int32} {x2 : Int32} {x3 : Int32} : mj_E 96 29 ls [.int x3, .int x2, .int x1, .int x0, .ref r] σ τ = if mj_rcv r 1 = true then mj_bd (mj_C 24 [.ref r, .int x0, .int x1, .int x2, .int x3] σ τ) (mj_K 96 32 ls []) else none := mj_clV (as := [.int x0, .int x1, .int x2, .int x3]) (r := []) i96_29 (by decide +kernel : mj_vk 96 24 4 0 5 false = true) (by decide +kernel)
theorem i96_32 : mj_ins 96 32 = some (.ifCond .eq 38, 35) := by decide +kernel
theorem e96_32 {ls : mj_L} {st : List Value} {σ : mj_S} {τ : mj_T} {x : Int32} : mj_E 96 32 ls (.int x :: st) σ τ = if x = 0 then mj_E 96 38 ls st σ τ else mj_E 96 35 ls st σ τ := (mj_ifc i96_32).trans (mj_cdT rfl)
theorem i96_35 : mj_ins 96 35 = some (.iload 5, 37) := by decide +kernel
theorem e96_35 {ls : mj_L} {st : List Value} {σ : mj_S} {τ : mj_T} {a0 a1 a2 a3 a4 : Option Value} {v : Int32} : mj_E 96 35 (a0 :: a1 :: a2 :: a3 :: a4 :: some (.int v) :: ls) st σ τ = mj_E 96 37 (a0 :: a1 :: a2 :: a3 :: a4 :: some (.int v) :: ls) (.int v :: st) σ τ := mj_nx i96_35 rfl
theorem i96_37 : mj_ins 96 37 = some (.ireturn, 38) := by decide +kernel
theorem e96_37 {ls : mj_L} {σ : mj_S} {τ : mj_T} {v : Int32} : mj_E 96 37 ls [.int v] σ τ = some (some (.int v), σ, τ) := mj_irt i96_37 rfl
theorem i96_38 : mj_ins 96 38 = some (.iinc 5 (1), 41) := by decide +kernel
theorem e96_38 {ls : mj_L} {st : List Value} {σ : mj_S} {τ : mj_T} {a0 a1 a2 a3 a4 : Option Value} {v : Int32} : mj_E 96 38 (a0 :: a1 :: a2 :: a3 :: a4 :: some (.int v) :: ls) st σ τ = mj_E 96 41 (a0 :: a1 :: a2 :: a3 :: a4 :: some (.int (v + nI 1)) :: ls) st σ τ := mj_nx i96_38 rfl
theorem i96_41 : mj_ins 96 41 = some (.goto 13, 44) := by decide +kernel
theorem e96_41 {ls : mj_L} {st : List Value} {σ : mj_S} {τ : mj_T} : mj_E 96 41 ls st σ τ = mj_E 96 13 ls st σ τ := mj_nx i96_41 rfl
theorem i96_44 : mj_ins 96 44 = some (.iload 4, 46) := by decide +kernel
theorem e96_44 {ls : mj_L} {st : List Value} {σ : mj_S} {τ : mj_T} {a0 a1 a2 a3 : Option Value} {v : Int32} : mj_E 96 44 (a0 :: a1 :: a2 :: a3 :: some (.int v) :: ls) st σ τ = mj_E 96 46 (a0 :: a1 :: a2 :: a3 :: some (.int v) :: ls) (.int v :: st) σ τ := mj_nx i96_44 rfl
theorem i96_46 : mj_ins 96 46 = some (.ireturn, 47) := by decide +kernel
theorem e96_46 {ls : mj_L} {σ : mj_S} {τ : mj_T} {v : Int32} : mj_E 96 46 ls [.int v] σ τ = some (some (.int v), σ, τ) := mj_irt i96_46 rfl
theorem c97 {σ : mj_S} {τ : mj_T} {r : Nat} {x0 : Int32} {x1 : Int32} {x2 : Int32} {x3 : Int32} : mj_C 97 [.ref r, .int x0, .int x1, .int x2, .int x3] σ τ = mj_E 97 0 [some (.ref r), some (.int x0), some (.int x1), some (.int x2), some (.int x3), none, none, none] [] σ τ := rfl
theorem i97_0 : mj_ins 97 0 = some (.aload 0, 1) := by decide +kernel
theorem e97_0 {ls : mj_L} {st : List Value} {σ : mj_S} {τ : mj_T} {v : Nat} : mj_E 97 0 (some (.ref v) :: ls) st σ τ = mj_E 97 1 (some (.ref v) :: ls) (.ref v :: st) σ τ := mj_nx i97_0 rfl
theorem i97_1 : mj_ins 97 1 = some (.getfield 600, 4) := by decide +kernel
theorem e97_1 {ls : mj_L} {st : List Value} {σ : mj_S} {τ : mj_T} : mj_E 97 1 ls (.ref 0 :: st) σ τ = mj_E 97 4 ls (.ref 1 :: st) σ τ := mj_nx i97_1 rfl
theorem i97_4 : mj_ins 97 4 = some (.iload 1, 5) := by decide +kernel
theorem e97_4 {ls : mj_L} {st : List Value} {σ : mj_S} {τ : mj_T} {a0 : Option Value} {v : Int32} : mj_E 97 4 (a0 :: some (.int v) :: ls) st σ τ = mj_E 97 5 (a0 :: some (.int v) :: ls) (.int v :: st) σ τ := mj_nx i97_4 rfl
theorem i97_5 : mj_ins 97 5 = some (.invokevirtual 8, 8) := by decide +kernel
theorem e97_5 {ls : mj_L} {σ : mj_S} {τ : mj_T} {r : Nat} {x0 : Int32} : mj_E 97 5 ls [.int x0, .ref r] σ τ = if mj_rcv r 1 = true then mj_bd (mj_C 8 [.ref r, .int x0] σ τ) (mj_K 97 8 ls []) else none := mj_clV (as := [.int x0]) (r := []) i97_5 (by decide +kernel : mj_vk 97 8 1 0 2 false = true) (by decide +kernel)
theorem i97_8 : mj_ins 97 8 = some (.ifCond .eq 56, 11) := by decide +kernel
theorem e97_8 {ls : mj_L} {st : List Value} {σ : mj_S} {τ : mj_T} {x : Int32} : mj_E 97 8 ls (.int x :: st) σ τ = if x = 0 then mj_E 97 56 ls st σ τ else mj_E 97 11 ls st σ τ := (mj_ifc i97_8).trans (mj_cdT rfl)
theorem i97_11 : mj_ins 97 11 = some (.aload 0, 12) := by decide +kernel
theorem e97_11 {ls : mj_L} {st : List Value} {σ : mj_S} {τ : mj_T} {v : Nat} : mj_E 97 11 (some (.ref v) :: ls) st σ τ = mj_E 97 12 (some (.ref v) :: ls) (.ref v :: st) σ τ := mj_nx i97_11 rfl
theorem i97_12 : mj_ins 97 12 = some (.getfield 600, 15) := by decide +kernel
theorem e97_12 {ls : mj_L} {st : List Value} {σ : mj_S} {τ : mj_T} : mj_E 97 12 ls (.ref 0 :: st) σ τ = mj_E 97 15 ls (.ref 1 :: st) σ τ := mj_nx i97_12 rfl
theorem i97_15 : mj_ins 97 15 = some (.iload 3, 16) := by decide +kernel
theorem e97_15 {ls : mj_L} {st : List Value} {σ : mj_S} {τ : mj_T} {a0 a1 a2 : Option Value} {v : Int32} : mj_E 97 15 (a0 :: a1 :: a2 :: some (.int v) :: ls) st σ τ = mj_E 97 16 (a0 :: a1 :: a2 :: some (.int v) :: ls) (.int v :: st) σ τ := mj_nx i97_15 rfl
theorem i97_16 : mj_ins 97 16 = some (.invokevirtual 7, 19) := by decide +kernel
theorem e97_16 {ls : mj_L} {σ : mj_S} {τ : mj_T} {r : Nat} {x0 : Int32} : mj_E 97 16 ls [.int x0, .ref r] σ τ = if mj_rcv r 1 = true then mj_bd (mj_C 7 [.ref r, .int x0] σ τ) (mj_K 97 19 ls []) else none := mj_clV (as := [.int x0]) (r := []) i97_16 (by decide +kernel : mj_vk 97 7 1 0 2 false = true) (by decide +kernel)
theorem i97_19 : mj_ins 97 19 = some (.ifCond .eq 56, 22) := by decide +kernel
theorem e97_19 {ls : mj_L} {st : List Value} {σ : mj_S} {τ : mj_T} {x : Int32} : mj_E 97 19 ls (.int x :: st) σ τ = if x = 0 then mj_E 97 56 ls st σ τ else mj_E 97 22 ls st σ τ := (mj_ifc i97_19).trans (mj_cdT rfl)
theorem i97_22 : mj_ins 97 22 = some (.iload 2, 23) := by decide +kernel
theorem e97_22 {ls : mj_L} {st : List Value} {σ : mj_S} {τ : mj_T} {a0 a1 : Option Value} {v : Int32} : mj_E 97 22 (a0 :: a1 :: some (.int v) :: ls) st σ τ = mj_E 97 23 (a0 :: a1 :: some (.int v) :: ls) (.int v :: st) σ τ := mj_nx i97_22 rfl
theorem i97_23 : mj_ins 97 23 = some (.iconst (-1), 24) := by decide +kernel
theorem e97_23 {ls : mj_L} {st : List Value} {σ : mj_S} {τ : mj_T} : mj_E 97 23 ls st σ τ = mj_E 97 24 ls (.int ((-1)) :: st) σ τ := mj_nx i97_23 rfl
theorem i97_24 : mj_ins 97 24 = some (.if_icmp .eq 38, 27) := by decide +kernel
theorem e97_24 {ls : mj_L} {st : List Value} {σ : mj_S} {τ : mj_T} {x y : Int32} : mj_E 97 24 ls (.int y :: .int x :: st) σ τ = if x = y then mj_E 97 38 ls st σ τ else mj_E 97 27 ls st σ τ := (mj_ifi i97_24).trans (mj_cdT rfl)
theorem i97_27 : mj_ins 97 27 = some (.aload 0, 28) := by decide +kernel
theorem e97_27 {ls : mj_L} {st : List Value} {σ : mj_S} {τ : mj_T} {v : Nat} : mj_E 97 27 (some (.ref v) :: ls) st σ τ = mj_E 97 28 (some (.ref v) :: ls) (.ref v :: st) σ τ := mj_nx i97_27 rfl
theorem i97_28 : mj_ins 97 28 = some (.getfield 600, 31) := by decide +kernel
theorem e97_28 {ls : mj_L} {st : List Value} {σ : mj_S} {τ : mj_T} : mj_E 97 28 ls (.ref 0 :: st) σ τ = mj_E 97 31 ls (.ref 1 :: st) σ τ := mj_nx i97_28 rfl
theorem i97_31 : mj_ins 97 31 = some (.iload 2, 32) := by decide +kernel
theorem e97_31 {ls : mj_L} {st : List Value} {σ : mj_S} {τ : mj_T} {a0 a1 : Option Value} {v : Int32} : mj_E 97 31 (a0 :: a1 :: some (.int v) :: ls) st σ τ = mj_E 97 32 (a0 :: a1 :: some (.int v) :: ls) (.int v :: st) σ τ := mj_nx i97_31 rfl
theorem i97_32 : mj_ins 97 32 = some (.invokevirtual 7, 35) := by decide +kernel
theorem e97_32 {ls : mj_L} {σ : mj_S} {τ : mj_T} {r : Nat} {x0 : Int32} : mj_E 97 32 ls [.int x0, .ref r] σ τ = if mj_rcv r 1 = true then mj_bd (mj_C 7 [.ref r, .int x0] σ τ) (mj_K 97 35 ls []) else none := mj_clV (as := [.int x0]) (r := []) i97_32 (by decide +kernel : mj_vk 97 7 1 0 2 false = true) (by decide +kernel)
theorem i97_35 : mj_ins 97 35 = some (.ifCond .eq 56, 38) := by decide +kernel
theorem e97_35 {ls : mj_L} {st : List Value} {σ : mj_S} {τ : mj_T} {x : Int32} : mj_E 97 35 ls (.int x :: st) σ τ = if x = 0 then mj_E 97 56 ls st σ τ else mj_E 97 38 ls st σ τ := (mj_ifc i97_35).trans (mj_cdT rfl)
theorem i97_38 : mj_ins 97 38 = some (.iload 4, 40) := by decide +kernel
theorem e97_38 {ls : mj_L} {st : List Value} {σ : mj_S} {τ : mj_T} {a0 a1 a2 a3 : Option Value} {v : Int32} : mj_E 97 38 (a0 :: a1 :: a2 :: a3 :: some (.int v) :: ls) st σ τ = mj_E 97 40 (a0 :: a1 :: a2 :: a3 :: some (.int v) :: ls) (.int v :: st) σ τ := mj_nx i97_38 rfl
theorem i97_40 : mj_ins 97 40 = some (.iconst (-1), 41) := by decide +kernel
theorem e97_40 {ls : mj_L} {st : List Value} {σ : mj_S} {τ : mj_T} : mj_E 97 40 ls st σ τ = mj_E 97 41 ls (.int ((-1)) :: st) σ τ := mj_nx i97_40 rfl
theorem i97_41 : mj_ins 97 41 = some (.if_icmp .eq 62, 44) := by decide +kernel
theorem e97_41 {ls : mj_L} {st : List Value} {σ : mj_S} {τ : mj_T} {x y : Int32} : mj_E 97 41 ls (.int y :: .int x :: st) σ τ = if x = y then mj_E 97 62 ls st σ τ else mj_E 97 44 ls st σ τ := (mj_ifi i97_41).trans (mj_cdT rfl)
theorem i97_44 : mj_ins 97 44 = some (.aload 0, 45) := by decide +kernel
theorem e97_44 {ls : mj_L} {st : List Value} {σ : mj_S} {τ : mj_T} {v : Nat} : mj_E 97 44 (some (.ref v) :: ls) st σ τ = mj_E 97 45 (some (.ref v) :: ls) (.ref v :: st) σ τ := mj_nx i97_44 rfl
theorem i97_45 : mj_ins 97 45 = some (.getfield 600, 48) := by decide +kernel
theorem e97_45 {ls : mj_L} {st : List Value} {σ : mj_S} {τ : mj_T} : mj_E 97 45 ls (.ref 0 :: st) σ τ = mj_E 97 48 ls (.ref 1 :: st) σ τ := mj_nx i97_45 rfl
theorem i97_48 : mj_ins 97 48 = some (.iload 4, 50) := by decide +kernel
theorem e97_48 {ls : mj_L} {st : List Value} {σ : mj_S} {τ : mj_T} {a0 a1 a2 a3 : Option Value} {v : Int32} : mj_E 97 48 (a0 :: a1 :: a2 :: a3 :: some (.int v) :: ls) st σ τ = mj_E 97 50 (a0 :: a1 :: a2 :: a3 :: some (.int v) :: ls) (.int v :: st) σ τ := mj_nx i97_48 rfl
theorem i97_50 : mj_ins 97 50 = some (.invokevirtual 7, 53) := by decide +kernel
theorem e97_50 {ls : mj_L} {σ : mj_S} {τ : mj_T} {r : Nat} {x0 : Int32} : mj_E 97 50 ls [.int x0, .ref r] σ τ = if mj_rcv r 1 = true then mj_bd (mj_C 7 [.ref r, .int x0] σ τ) (mj_K 97 53 ls []) else none := mj_clV (as := [.int x0]) (r := []) i97_50 (by decide +kernel : mj_vk 97 7 1 0 2 false = true) (by decide +kernel)
theorem i97_53 : mj_ins 97 53 = some (.ifCond .ne 62, 56) := by decide +kernel
theorem e97_53 {ls : mj_L} {st : List Value} {σ : mj_S} {τ : mj_T} {x : Int32} : mj_E 97 53 ls (.int x :: st) σ τ = if x = 0 then mj_E 97 56 ls st σ τ else mj_E 97 62 ls st σ τ := (mj_ifc i97_53).trans (mj_cdF rfl)
theorem i97_56 : mj_ins 97 56 = some (.aload 0, 57) := by decide +kernel
theorem e97_56 {ls : mj_L} {st : List Value} {σ : mj_S} {τ : mj_T} {v : Nat} : mj_E 97 56 (some (.ref v) :: ls) st σ τ = mj_E 97 57 (some (.ref v) :: ls) (.ref v :: st) σ τ := mj_nx i97_56 rfl
theorem i97_57 : mj_ins 97 57 = some (.iconst (-1), 58) := by decide +kernel
theorem e97_57 {ls : mj_L} {st : List Value} {σ : mj_S} {τ : mj_T} : mj_E 97 57 ls st σ τ = mj_E 97 58 ls (.int ((-1)) :: st) σ τ := mj_nx i97_57 rfl
theorem i97_58 : mj_ins 97 58 = some (.invokevirtual 112, 61) := by decide +kernel
theorem e97_58 {ls : mj_L} {σ : mj_S} {τ : mj_T} {r : Nat} {x0 : Int32} : mj_E 97 58 ls [.int x0, .ref r] σ τ = if mj_rcv r 6 = true then mj_bd (mj_C 112 [.ref r, .int x0] σ τ) (mj_K 97 61 ls []) else none := mj_clV (as := [.int x0]) (r := []) i97_58 (by decide +kernel : mj_vk 97 112 1 0 2 false = true) (by decide +kernel)
theorem i97_61 : mj_ins 97 61 = some (.ireturn, 62) := by decide +kernel
theorem e97_61 {ls : mj_L} {σ : mj_S} {τ : mj_T} {v : Int32} : mj_E 97 61 ls [.int v] σ τ = some (some (.int v), σ, τ) := mj_irt i97_61 rfl
theorem i97_62 : mj_ins 97 62 = some (.aload 0, 63) := by decide +kernel
theorem e97_62 {ls : mj_L} {st : List Value} {σ : mj_S} {τ : mj_T} {v : Nat} : mj_E 97 62 (some (.ref v) :: ls) st σ τ = mj_E 97 63 (some (.ref v) :: ls) (.ref v :: st) σ τ := mj_nx i97_62 rfl
theorem i97_63 : mj_ins 97 63 = some (.getfield 601, 66) := by decide +kernel
theorem e97_63 {ls : mj_L} {st : List Value} {σ : mj_S} {τ : mj_T} : mj_E 97 63 ls (.ref 0 :: st) σ τ = mj_E 97 66 ls (.ref 2 :: st) σ τ := mj_nx i97_63 rfl
theorem i97_66 : mj_ins 97 66 = some (.aload 0, 67) := by decide +kernel
theorem e97_66 {ls : mj_L} {st : List Value} {σ : mj_S} {τ : mj_T} {v : Nat} : mj_E 97 66 (some (.ref v) :: ls) st σ τ = mj_E 97 67 (some (.ref v) :: ls) (.ref v :: st) σ τ := mj_nx i97_66 rfl
theorem i97_67 : mj_ins 97 67 = some (.getfield 600, 70) := by decide +kernel
theorem e97_67 {ls : mj_L} {st : List Value} {σ : mj_S} {τ : mj_T} : mj_E 97 67 ls (.ref 0 :: st) σ τ = mj_E 97 70 ls (.ref 1 :: st) σ τ := mj_nx i97_67 rfl
theorem i97_70 : mj_ins 97 70 = some (.invokevirtual 6, 73) := by decide +kernel
theorem e97_70 {ls : mj_L} {σ : mj_S} {τ : mj_T} {r : Nat} {x0 : Nat} : mj_E 97 70 ls [.ref x0, .ref r] σ τ = if mj_rcv r 1 = true then mj_bd (mj_C 6 [.ref r, .ref x0] σ τ) (mj_K 97 73 ls []) else none := mj_clV (as := [.ref x0]) (r := []) i97_70 (by decide +kernel : mj_vk 97 6 1 0 2 false = true) (by decide +kernel)
theorem i97_73 : mj_ins 97 73 = some (.iconst (0), 74) := by decide +kernel
theorem e97_73 {ls : mj_L} {st : List Value} {σ : mj_S} {τ : mj_T} : mj_E 97 73 ls st σ τ = mj_E 97 74 ls (.int (nI 0) :: st) σ τ := mj_nx i97_73 rfl
theorem i97_74 : mj_ins 97 74 = some (.istore 5, 76) := by decide +kernel
theorem e97_74 {ls : mj_L} {st : List Value} {σ : mj_S} {τ : mj_T} {a0 a1 a2 a3 a4 a5 : Option Value} {v : Int32} : mj_E 97 74 (a0 :: a1 :: a2 :: a3 :: a4 :: a5 :: ls) (.int v :: st) σ τ = mj_E 97 76 (a0 :: a1 :: a2 :: a3 :: a4 :: some (.int v) :: ls) st σ τ := mj_nx i97_74 rfl
theorem i97_76 : mj_ins 97 76 = some (.iconst (0), 77) := by decide +kernel
theorem e97_76 {ls : mj_L} {st : List Value} {σ : mj_S} {τ : mj_T} : mj_E 97 76 ls st σ τ = mj_E 97 77 ls (.int (nI 0) :: st) σ τ := mj_nx i97_76 rfl
theorem i97_77 : mj_ins 97 77 = some (.istore 6, 79) := by decide +kernel
theorem e97_77 {ls : mj_L} {st : List Value} {σ : mj_S} {τ : mj_T} {a0 a1 a2 a3 a4 a5 a6 : Option Value} {v : Int32} : mj_E 97 77 (a0 :: a1 :: a2 :: a3 :: a4 :: a5 :: a6 :: ls) (.int v :: st) σ τ = mj_E 97 79 (a0 :: a1 :: a2 :: a3 :: a4 :: a5 :: some (.int v) :: ls) st σ τ := mj_nx i97_77 rfl
theorem i97_79 : mj_ins 97 79 = some (.iload 6, 81) := by decide +kernel
theorem e97_79 {ls : mj_L} {st : List Value} {σ : mj_S} {τ : mj_T} {a0 a1 a2 a3 a4 a5 : Option Value} {v : Int32} : mj_E 97 79 (a0 :: a1 :: a2 :: a3 :: a4 :: a5 :: some (.int v) :: ls) st σ τ = mj_E 97 81 (a0 :: a1 :: a2 :: a3 :: a4 :: a5 :: some (.int v) :: ls) (.int v :: st) σ τ := mj_nx i97_79 rfl
theorem i97_81 : mj_ins 97 81 = some (.iconst (9), 83) := by decide +kernel
theorem e97_81 {ls : mj_L} {st : List Value} {σ : mj_S} {τ : mj_T} : mj_E 97 81 ls st σ τ = mj_E 97 83 ls (.int (nI 9) :: st) σ τ := mj_nx i97_81 rfl
theorem i97_83 : mj_ins 97 83 = some (.if_icmp .gt 150, 86) := by decide +kernel
theorem e97_83 {ls : mj_L} {st : List Value} {σ : mj_S} {τ : mj_T} {x y : Int32} : mj_E 97 83 ls (.int y :: .int x :: st) σ τ = if y < x then mj_E 97 150 ls st σ τ else mj_E 97 86 ls st σ τ := (mj_ifi i97_83).trans (mj_cdT rfl)
theorem i97_86 : mj_ins 97 86 = some (.aload 0, 87) := by decide +kernel
theorem e97_86 {ls : mj_L} {st : List Value} {σ : mj_S} {τ : mj_T} {v : Nat} : mj_E 97 86 (some (.ref v) :: ls) st σ τ = mj_E 97 87 (some (.ref v) :: ls) (.ref v :: st) σ τ := mj_nx i97_86 rfl
theorem i97_87 : mj_ins 97 87 = some (.getfield 601, 90) := by decide +kernel
theorem e97_87 {ls : mj_L} {st : List Value} {σ : mj_S} {τ : mj_T} : mj_E 97 87 ls (.ref 0 :: st) σ τ = mj_E 97 90 ls (.ref 2 :: st) σ τ := mj_nx i97_87 rfl
theorem i97_90 : mj_ins 97 90 = some (.getfield 110, 93) := by decide +kernel
theorem e97_90 {ls : mj_L} {st : List Value} {σ : mj_S} {τ : mj_T} {k : Nat} (h1 : 1 ≤ k) (h2 : k ≤ 3) : mj_E 97 90 ls (.ref k :: st) σ τ = mj_E 97 93 ls (.ref (10 * k + 5) :: st) σ τ := (mj_gf i97_90).trans (congrArg (fun z => mj_ov z _) (fv1_10 h1 h2))
theorem i97_93 : mj_ins 97 93 = some (.iload 1, 94) := by decide +kernel
theorem e97_93 {ls : mj_L} {st : List Value} {σ : mj_S} {τ : mj_T} {a0 : Option Value} {v : Int32} : mj_E 97 93 (a0 :: some (.int v) :: ls) st σ τ = mj_E 97 94 (a0 :: some (.int v) :: ls) (.int v :: st) σ τ := mj_nx i97_93 rfl
theorem i97_94 : mj_ins 97 94 = some (.iload 6, 96) := by decide +kernel
theorem e97_94 {ls : mj_L} {st : List Value} {σ : mj_S} {τ : mj_T} {a0 a1 a2 a3 a4 a5 : Option Value} {v : Int32} : mj_E 97 94 (a0 :: a1 :: a2 :: a3 :: a4 :: a5 :: some (.int v) :: ls) st σ τ = mj_E 97 96 (a0 :: a1 :: a2 :: a3 :: a4 :: a5 :: some (.int v) :: ls) (.int v :: st) σ τ := mj_nx i97_94 rfl
theorem i97_96 : mj_ins 97 96 = some (.iastore, 97) := by decide +kernel
theorem e97_96 {ls : mj_L} {st : List Value} {σ : mj_S} {τ : mj_T} {x v : Int32} {k : Nat} : mj_E 97 96 ls (.int v :: .int x :: .ref k :: st) σ τ = if mj_ib (mj_lw k) x = true then mj_E 97 97 ls st (mj_up σ k x.toNatClampNeg v) τ else none := mj_ast i97_96
theorem i97_97 : mj_ins 97 97 = some (.aload 0, 98) := by decide +kernel
theorem e97_97 {ls : mj_L} {st : List Value} {σ : mj_S} {τ : mj_T} {v : Nat} : mj_E 97 97 (some (.ref v) :: ls) st σ τ = mj_E 97 98 (some (.ref v) :: ls) (.ref v :: st) σ τ := mj_nx i97_97 rfl
theorem i97_98 : mj_ins 97 98 = some (.getfield 601, 101) := by decide +kernel
theorem e97_98 {ls : mj_L} {st : List Value} {σ : mj_S} {τ : mj_T} : mj_E 97 98 ls (.ref 0 :: st) σ τ = mj_E 97 101 ls (.ref 2 :: st) σ τ := mj_nx i97_98 rfl
theorem i97_101 : mj_ins 97 101 = some (.iload 1, 102) := by decide +kernel
theorem e97_101 {ls : mj_L} {st : List Value} {σ : mj_S} {τ : mj_T} {a0 : Option Value} {v : Int32} : mj_E 97 101 (a0 :: some (.int v) :: ls) st σ τ = mj_E 97 102 (a0 :: some (.int v) :: ls) (.int v :: st) σ τ := mj_nx i97_101 rfl
theorem i97_102 : mj_ins 97 102 = some (.invokevirtual 25, 105) := by decide +kernel
theorem e97_102 {ls : mj_L} {σ : mj_S} {τ : mj_T} {r : Nat} {x0 : Int32} : mj_E 97 102 ls [.int x0, .ref r] σ τ = if mj_rcv r 1 = true then mj_bd (mj_C 25 [.ref r, .int x0] σ τ) (mj_K 97 105 ls []) else none := mj_clV (as := [.int x0]) (r := []) i97_102 (by decide +kernel : mj_vk 97 25 1 0 2 false = true) (by decide +kernel)
theorem i97_105 : mj_ins 97 105 = some (.astore 7, 107) := by decide +kernel
theorem e97_105 {ls : mj_L} {st : List Value} {σ : mj_S} {τ : mj_T} {a0 a1 a2 a3 a4 a5 a6 a7 : Option Value} {v : Nat} : mj_E 97 105 (a0 :: a1 :: a2 :: a3 :: a4 :: a5 :: a6 :: a7 :: ls) (.ref v :: st) σ τ = mj_E 97 107 (a0 :: a1 :: a2 :: a3 :: a4 :: a5 :: a6 :: some (.ref v) :: ls) st σ τ := mj_nx i97_105 rfl
theorem i97_107 : mj_ins 97 107 = some (.aload 7, 109) := by decide +kernel
theorem e97_107 {ls : mj_L} {st : List Value} {σ : mj_S} {τ : mj_T} {a0 a1 a2 a3 a4 a5 a6 : Option Value} {v : Nat} : mj_E 97 107 (a0 :: a1 :: a2 :: a3 :: a4 :: a5 :: a6 :: some (.ref v) :: ls) st σ τ = mj_E 97 109 (a0 :: a1 :: a2 :: a3 :: a4 :: a5 :: a6 :: some (.ref v) :: ls) (.ref v :: st) σ τ := mj_nx i97_107 rfl
theorem i97_109 : mj_ins 97 109 = some (.getfield 0, 112) := by decide +kernel
theorem e97_109 {ls : mj_L} {st : List Value} {σ : mj_S} {τ : mj_T} {k : Nat} (h1 : 4 ≤ k) (h2 : k ≤ 6) : mj_E 97 109 ls (.ref k :: st) σ τ = mj_E 97 112 ls (.int (σ k 0) :: st) σ τ := (mj_gf i97_109).trans (congrArg (fun z => mj_ov z _) (fv0_0 h1 h2))
theorem i97_112 : mj_ins 97 112 = some (.iload 2, 113) := by decide +kernel
theorem e97_112 {ls : mj_L} {st : List Value} {σ : mj_S} {τ : mj_T} {a0 a1 : Option Value} {v : Int32} : mj_E 97 112 (a0 :: a1 :: some (.int v) :: ls) st σ τ = mj_E 97 113 (a0 :: a1 :: some (.int v) :: ls) (.int v :: st) σ τ := mj_nx i97_112 rfl
theorem i97_113 : mj_ins 97 113 = some (.if_icmp .ne 144, 116) := by decide +kernel
theorem e97_113 {ls : mj_L} {st : List Value} {σ : mj_S} {τ : mj_T} {x y : Int32} : mj_E 97 113 ls (.int y :: .int x :: st) σ τ = if x = y then mj_E 97 116 ls st σ τ else mj_E 97 144 ls st σ τ := (mj_ifi i97_113).trans (mj_cdF rfl)
theorem i97_116 : mj_ins 97 116 = some (.aload 7, 118) := by decide +kernel
theorem e97_116 {ls : mj_L} {st : List Value} {σ : mj_S} {τ : mj_T} {a0 a1 a2 a3 a4 a5 a6 : Option Value} {v : Nat} : mj_E 97 116 (a0 :: a1 :: a2 :: a3 :: a4 :: a5 :: a6 :: some (.ref v) :: ls) st σ τ = mj_E 97 118 (a0 :: a1 :: a2 :: a3 :: a4 :: a5 :: a6 :: some (.ref v) :: ls) (.ref v :: st) σ τ := mj_nx i97_116 rfl
theorem i97_118 : mj_ins 97 118 = some (.getfield 1, 121) := by decide +kernel
theorem e97_118 {ls : mj_L} {st : List Value} {σ : mj_S} {τ : mj_T} {k : Nat} (h1 : 4 ≤ k) (h2 : k ≤ 6) : mj_E 97 118 ls (.ref k :: st) σ τ = mj_E 97 121 ls (.int (σ k 1) :: st) σ τ := (mj_gf i97_118).trans (congrArg (fun z => mj_ov z _) (fv0_1 h1 h2))
theorem i97_121 : mj_ins 97 121 = some (.iload 3, 122) := by decide +kernel
theorem e97_121 {ls : mj_L} {st : List Value} {σ : mj_S} {τ : mj_T} {a0 a1 a2 : Option Value} {v : Int32} : mj_E 97 121 (a0 :: a1 :: a2 :: some (.int v) :: ls) st σ τ = mj_E 97 122 (a0 :: a1 :: a2 :: some (.int v) :: ls) (.int v :: st) σ τ := mj_nx i97_121 rfl
theorem i97_122 : mj_ins 97 122 = some (.if_icmp .ne 144, 125) := by decide +kernel
theorem e97_122 {ls : mj_L} {st : List Value} {σ : mj_S} {τ : mj_T} {x y : Int32} : mj_E 97 122 ls (.int y :: .int x :: st) σ τ = if x = y then mj_E 97 125 ls st σ τ else mj_E 97 144 ls st σ τ := (mj_ifi i97_122).trans (mj_cdF rfl)
theorem i97_125 : mj_ins 97 125 = some (.aload 7, 127) := by decide +kernel
theorem e97_125 {ls : mj_L} {st : List Value} {σ : mj_S} {τ : mj_T} {a0 a1 a2 a3 a4 a5 a6 : Option Value} {v : Nat} : mj_E 97 125 (a0 :: a1 :: a2 :: a3 :: a4 :: a5 :: a6 :: some (.ref v) :: ls) st σ τ = mj_E 97 127 (a0 :: a1 :: a2 :: a3 :: a4 :: a5 :: a6 :: some (.ref v) :: ls) (.ref v :: st) σ τ := mj_nx i97_125 rfl
theorem i97_127 : mj_ins 97 127 = some (.getfield 2, 130) := by decide +kernel
theorem e97_127 {ls : mj_L} {st : List Value} {σ : mj_S} {τ : mj_T} {k : Nat} (h1 : 4 ≤ k) (h2 : k ≤ 6) : mj_E 97 127 ls (.ref k :: st) σ τ = mj_E 97 130 ls (.int (σ k 2) :: st) σ τ := (mj_gf i97_127).trans (congrArg (fun z => mj_ov z _) (fv0_2 h1 h2))
theorem i97_130 : mj_ins 97 130 = some (.iload 4, 132) := by decide +kernel
theorem e97_130 {ls : mj_L} {st : List Value} {σ : mj_S} {τ : mj_T} {a0 a1 a2 a3 : Option Value} {v : Int32} : mj_E 97 130 (a0 :: a1 :: a2 :: a3 :: some (.int v) :: ls) st σ τ = mj_E 97 132 (a0 :: a1 :: a2 :: a3 :: some (.int v) :: ls) (.int v :: st) σ τ := mj_nx i97_130 rfl
theorem i97_132 : mj_ins 97 132 = some (.if_icmp .ne 144, 135) := by decide +kernel
theorem e97_132 {ls : mj_L} {st : List Value} {σ : mj_S} {τ : mj_T} {x y : Int32} : mj_E 97 132 ls (.int y :: .int x :: st) σ τ = if x = y then mj_E 97 135 ls st σ τ else mj_E 97 144 ls st σ τ := (mj_ifi i97_132).trans (mj_cdF rfl)
theorem i97_135 : mj_ins 97 135 = some (.iload 5, 137) := by decide +kernel
theorem e97_135 {ls : mj_L} {st : List Value} {σ : mj_S} {τ : mj_T} {a0 a1 a2 a3 a4 : Option Value} {v : Int32} : mj_E 97 135 (a0 :: a1 :: a2 :: a3 :: a4 :: some (.int v) :: ls) st σ τ = mj_E 97 137 (a0 :: a1 :: a2 :: a3 :: a4 :: some (.int v) :: ls) (.int v :: st) σ τ := mj_nx i97_135 rfl
theorem i97_137 : mj_ins 97 137 = some (.iconst (1), 138) := by decide +kernel
theorem e97_137 {ls : mj_L} {st : List Value} {σ : mj_S} {τ : mj_T} : mj_E 97 137 ls st σ τ = mj_E 97 138 ls (.int (nI 1) :: st) σ τ := mj_nx i97_137 rfl
theorem i97_138 : mj_ins 97 138 = some (.iload 6, 140) := by decide +kernel
theorem e97_138 {ls : mj_L} {st : List Value} {σ : mj_S} {τ : mj_T} {a0 a1 a2 a3 a4 a5 : Option Value} {v : Int32} : mj_E 97 138 (a0 :: a1 :: a2 :: a3 :: a4 :: a5 :: some (.int v) :: ls) st σ τ = mj_E 97 140 (a0 :: a1 :: a2 :: a3 :: a4 :: a5 :: some (.int v) :: ls) (.int v :: st) σ τ := mj_nx i97_138 rfl
theorem i97_140 : mj_ins 97 140 = some (.ishl, 141) := by decide +kernel
theorem e97_140 {ls : mj_L} {st : List Value} {σ : mj_S} {τ : mj_T} {x y : Int32} : mj_E 97 140 ls (.int y :: .int x :: st) σ τ = mj_E 97 141 ls (.int (x <<< (y &&& 31)) :: st) σ τ := mj_nx i97_140 rfl
theorem i97_141 : mj_ins 97 141 = some (.ior, 142) := by decide +kernel
theorem e97_141 {ls : mj_L} {st : List Value} {σ : mj_S} {τ : mj_T} {x y : Int32} : mj_E 97 141 ls (.int y :: .int x :: st) σ τ = mj_E 97 142 ls (.int (x ||| y) :: st) σ τ := mj_nx i97_141 rfl
theorem i97_142 : mj_ins 97 142 = some (.istore 5, 144) := by decide +kernel
theorem e97_142 {ls : mj_L} {st : List Value} {σ : mj_S} {τ : mj_T} {a0 a1 a2 a3 a4 a5 : Option Value} {v : Int32} : mj_E 97 142 (a0 :: a1 :: a2 :: a3 :: a4 :: a5 :: ls) (.int v :: st) σ τ = mj_E 97 144 (a0 :: a1 :: a2 :: a3 :: a4 :: some (.int v) :: ls) st σ τ := mj_nx i97_142 rfl
theorem i97_144 : mj_ins 97 144 = some (.iinc 6 (1), 147) := by decide +kernel
theorem e97_144 {ls : mj_L} {st : List Value} {σ : mj_S} {τ : mj_T} {a0 a1 a2 a3 a4 a5 : Option Value} {v : Int32} : mj_E 97 144 (a0 :: a1 :: a2 :: a3 :: a4 :: a5 :: some (.int v) :: ls) st σ τ = mj_E 97 147 (a0 :: a1 :: a2 :: a3 :: a4 :: a5 :: some (.int (v + nI 1)) :: ls) st σ τ := mj_nx i97_144 rfl
theorem i97_147 : mj_ins 97 147 = some (.goto 79, 150) := by decide +kernel
theorem e97_147 {ls : mj_L} {st : List Value} {σ : mj_S} {τ : mj_T} : mj_E 97 147 ls st σ τ = mj_E 97 79 ls st σ τ := mj_nx i97_147 rfl
theorem i97_150 : mj_ins 97 150 = some (.iload 5, 152) := by decide +kernel
theorem e97_150 {ls : mj_L} {st : List Value} {σ : mj_S} {τ : mj_T} {a0 a1 a2 a3 a4 : Option Value} {v : Int32} : mj_E 97 150 (a0 :: a1 :: a2 :: a3 :: a4 :: some (.int v) :: ls) st σ τ = mj_E 97 152 (a0 :: a1 :: a2 :: a3 :: a4 :: some (.int v) :: ls) (.int v :: st) σ τ := mj_nx i97_150 rfl
theorem i97_152 : mj_ins 97 152 = some (.ireturn, 153) := by decide +kernel
theorem e97_152 {ls : mj_L} {σ : mj_S} {τ : mj_T} {v : Int32} : mj_E 97 152 ls [.int v] σ τ = some (some (.int v), σ, τ) := mj_irt i97_152 rfl
theorem c98 {σ : mj_S} {τ : mj_T} {r : Nat} {x0 : Int32} : mj_C 98 [.ref r, .int x0] σ τ = mj_E 98 0 [some (.ref r), some (.int x0), none, none, none, none] [] σ τ := rfl
theorem i98_0 : mj_ins 98 0 = some (.iload 1, 1) := by decide +kernel
theorem e98_0 {ls : mj_L} {st : List Value} {σ : mj_S} {τ : mj_T} {a0 : Option Value} {v : Int32} : mj_E 98 0 (a0 :: some (.int v) :: ls) st σ τ = mj_E 98 1 (a0 :: some (.int v) :: ls) (.int v :: st) σ τ := mj_nx i98_0 rfl
theorem i98_1 : mj_ins 98 1 = some (.iconst (1), 2) := by decide +kernel
theorem e98_1 {ls : mj_L} {st : List Value} {σ : mj_S} {τ : mj_T} : mj_E 98 1 ls st σ τ = mj_E 98 2 ls (.int (nI 1) :: st) σ τ := mj_nx i98_1 rfl
theorem i98_2 : mj_ins 98 2 = some (.invokestatic 116, 5) := by decide +kernel
theorem e98_2 {ls : mj_L} {σ : mj_S} {τ : mj_T} {x0 : Int32} {x1 : Int32} : mj_E 98 2 ls [.int x1, .int x0] σ τ = mj_bd (mj_C 116 [.int x0, .int x1] σ τ) (mj_K 98 5 ls []) := mj_clS (as := [.int x0, .int x1]) (r := []) i98_2 (by decide +kernel : mj_vk 98 116 2 0 2 false = true) rfl
theorem i98_5 : mj_ins 98 5 = some (.ifCond .ne 15, 8) := by decide +kernel
theorem e98_5 {ls : mj_L} {st : List Value} {σ : mj_S} {τ : mj_T} {x : Int32} : mj_E 98 5 ls (.int x :: st) σ τ = if x = 0 then mj_E 98 8 ls st σ τ else mj_E 98 15 ls st σ τ := (mj_ifc i98_5).trans (mj_cdF rfl)
theorem i98_8 : mj_ins 98 8 = some (.aload 0, 9) := by decide +kernel
theorem e98_8 {ls : mj_L} {st : List Value} {σ : mj_S} {τ : mj_T} {v : Nat} : mj_E 98 8 (some (.ref v) :: ls) st σ τ = mj_E 98 9 (some (.ref v) :: ls) (.ref v :: st) σ τ := mj_nx i98_8 rfl
theorem i98_9 : mj_ins 98 9 = some (.iconst (-5), 11) := by decide +kernel
theorem e98_9 {ls : mj_L} {st : List Value} {σ : mj_S} {τ : mj_T} : mj_E 98 9 ls st σ τ = mj_E 98 11 ls (.int ((-5)) :: st) σ τ := mj_nx i98_9 rfl
theorem i98_11 : mj_ins 98 11 = some (.invokevirtual 113, 14) := by decide +kernel
theorem e98_11 {ls : mj_L} {σ : mj_S} {τ : mj_T} {r : Nat} {x0 : Int32} : mj_E 98 11 ls [.int x0, .ref r] σ τ = if mj_rcv r 6 = true then mj_bd (mj_C 113 [.ref r, .int x0] σ τ) (mj_K 98 14 ls []) else none := mj_clV (as := [.int x0]) (r := []) i98_11 (by decide +kernel : mj_vk 98 113 1 0 2 false = true) (by decide +kernel)
theorem i98_14 : mj_ins 98 14 = some (.ireturn, 15) := by decide +kernel
theorem e98_14 {ls : mj_L} {σ : mj_S} {τ : mj_T} {v : Int32} : mj_E 98 14 ls [.int v] σ τ = some (some (.int v), σ, τ) := mj_irt i98_14 rfl
theorem i98_15 : mj_ins 98 15 = some (.iconst (0), 16) := by decide +kernel
theorem e98_15 {ls : mj_L} {st : List Value} {σ : mj_S} {τ : mj_T} : mj_E 98 15 ls st σ τ = mj_E 98 16 ls (.int (nI 0) :: st) σ τ := mj_nx i98_15 rfl
theorem i98_16 : mj_ins 98 16 = some (.istore 2, 17) := by decide +kernel
theorem e98_16 {ls : mj_L} {st : List Value} {σ : mj_S} {τ : mj_T} {a0 a1 a2 : Option Value} {v : Int32} : mj_E 98 16 (a0 :: a1 :: a2 :: ls) (.int v :: st) σ τ = mj_E 98 17 (a0 :: a1 :: some (.int v) :: ls) st σ τ := mj_nx i98_16 rfl
theorem i98_17 : mj_ins 98 17 = some (.iconst (-1), 18) := by decide +kernel
theorem e98_17 {ls : mj_L} {st : List Value} {σ : mj_S} {τ : mj_T} : mj_E 98 17 ls st σ τ = mj_E 98 18 ls (.int ((-1)) :: st) σ τ := mj_nx i98_17 rfl
theorem i98_18 : mj_ins 98 18 = some (.istore 3, 19) := by decide +kernel
theorem e98_18 {ls : mj_L} {st : List Value} {σ : mj_S} {τ : mj_T} {a0 a1 a2 a3 : Option Value} {v : Int32} : mj_E 98 18 (a0 :: a1 :: a2 :: a3 :: ls) (.int v :: st) σ τ = mj_E 98 19 (a0 :: a1 :: a2 :: some (.int v) :: ls) st σ τ := mj_nx i98_18 rfl
theorem i98_19 : mj_ins 98 19 = some (.iconst (0), 20) := by decide +kernel
theorem e98_19 {ls : mj_L} {st : List Value} {σ : mj_S} {τ : mj_T} : mj_E 98 19 ls st σ τ = mj_E 98 20 ls (.int (nI 0) :: st) σ τ := mj_nx i98_19 rfl
theorem i98_20 : mj_ins 98 20 = some (.istore 4, 22) := by decide +kernel
theorem e98_20 {ls : mj_L} {st : List Value} {σ : mj_S} {τ : mj_T} {a0 a1 a2 a3 a4 : Option Value} {v : Int32} : mj_E 98 20 (a0 :: a1 :: a2 :: a3 :: a4 :: ls) (.int v :: st) σ τ = mj_E 98 22 (a0 :: a1 :: a2 :: a3 :: some (.int v) :: ls) st σ τ := mj_nx i98_20 rfl
theorem i98_22 : mj_ins 98 22 = some (.iload 4, 24) := by decide +kernel
theorem e98_22 {ls : mj_L} {st : List Value} {σ : mj_S} {τ : mj_T} {a0 a1 a2 a3 : Option Value} {v : Int32} : mj_E 98 22 (a0 :: a1 :: a2 :: a3 :: some (.int v) :: ls) st σ τ = mj_E 98 24 (a0 :: a1 :: a2 :: a3 :: some (.int v) :: ls) (.int v :: st) σ τ := mj_nx i98_22 rfl
theorem i98_24 : mj_ins 98 24 = some (.aload 0, 25) := by decide +kernel
theorem e98_24 {ls : mj_L} {st : List Value} {σ : mj_S} {τ : mj_T} {v : Nat} : mj_E 98 24 (some (.ref v) :: ls) st σ τ = mj_E 98 25 (some (.ref v) :: ls) (.ref v :: st) σ τ := mj_nx i98_24 rfl
theorem i98_25 : mj_ins 98 25 = some (.getfield 600, 28) := by decide +kernel
theorem e98_25 {ls : mj_L} {st : List Value} {σ : mj_S} {τ : mj_T} : mj_E 98 25 ls (.ref 0 :: st) σ τ = mj_E 98 28 ls (.ref 1 :: st) σ τ := mj_nx i98_25 rfl
theorem i98_28 : mj_ins 98 28 = some (.getfield 101, 31) := by decide +kernel
theorem e98_28 {ls : mj_L} {st : List Value} {σ : mj_S} {τ : mj_T} {k : Nat} (h1 : 1 ≤ k) (h2 : k ≤ 3) : mj_E 98 28 ls (.ref k :: st) σ τ = mj_E 98 31 ls (.int (σ k 1) :: st) σ τ := (mj_gf i98_28).trans (congrArg (fun z => mj_ov z _) (fv1_1 h1 h2))
theorem i98_31 : mj_ins 98 31 = some (.if_icmp .ge 99, 34) := by decide +kernel
theorem e98_31 {ls : mj_L} {st : List Value} {σ : mj_S} {τ : mj_T} {x y : Int32} : mj_E 98 31 ls (.int y :: .int x :: st) σ τ = if y ≤ x then mj_E 98 99 ls st σ τ else mj_E 98 34 ls st σ τ := (mj_ifi i98_31).trans (mj_cdT rfl)
theorem i98_34 : mj_ins 98 34 = some (.iload 4, 36) := by decide +kernel
theorem e98_34 {ls : mj_L} {st : List Value} {σ : mj_S} {τ : mj_T} {a0 a1 a2 a3 : Option Value} {v : Int32} : mj_E 98 34 (a0 :: a1 :: a2 :: a3 :: some (.int v) :: ls) st σ τ = mj_E 98 36 (a0 :: a1 :: a2 :: a3 :: some (.int v) :: ls) (.int v :: st) σ τ := mj_nx i98_34 rfl
theorem i98_36 : mj_ins 98 36 = some (.iconst (1), 37) := by decide +kernel
theorem e98_36 {ls : mj_L} {st : List Value} {σ : mj_S} {τ : mj_T} : mj_E 98 36 ls st σ τ = mj_E 98 37 ls (.int (nI 1) :: st) σ τ := mj_nx i98_36 rfl
theorem i98_37 : mj_ins 98 37 = some (.iadd, 38) := by decide +kernel
theorem e98_37 {ls : mj_L} {st : List Value} {σ : mj_S} {τ : mj_T} {x y : Int32} : mj_E 98 37 ls (.int y :: .int x :: st) σ τ = mj_E 98 38 ls (.int (x + y) :: st) σ τ := mj_nx i98_37 rfl
theorem i98_38 : mj_ins 98 38 = some (.istore 5, 40) := by decide +kernel
theorem e98_38 {ls : mj_L} {st : List Value} {σ : mj_S} {τ : mj_T} {a0 a1 a2 a3 a4 a5 : Option Value} {v : Int32} : mj_E 98 38 (a0 :: a1 :: a2 :: a3 :: a4 :: a5 :: ls) (.int v :: st) σ τ = mj_E 98 40 (a0 :: a1 :: a2 :: a3 :: a4 :: some (.int v) :: ls) st σ τ := mj_nx i98_38 rfl
theorem i98_40 : mj_ins 98 40 = some (.iload 5, 42) := by decide +kernel
theorem e98_40 {ls : mj_L} {st : List Value} {σ : mj_S} {τ : mj_T} {a0 a1 a2 a3 a4 : Option Value} {v : Int32} : mj_E 98 40 (a0 :: a1 :: a2 :: a3 :: a4 :: some (.int v) :: ls) st σ τ = mj_E 98 42 (a0 :: a1 :: a2 :: a3 :: a4 :: some (.int v) :: ls) (.int v :: st) σ τ := mj_nx i98_40 rfl
theorem i98_42 : mj_ins 98 42 = some (.aload 0, 43) := by decide +kernel
theorem e98_42 {ls : mj_L} {st : List Value} {σ : mj_S} {τ : mj_T} {v : Nat} : mj_E 98 42 (some (.ref v) :: ls) st σ τ = mj_E 98 43 (some (.ref v) :: ls) (.ref v :: st) σ τ := mj_nx i98_42 rfl
theorem i98_43 : mj_ins 98 43 = some (.getfield 600, 46) := by decide +kernel
theorem e98_43 {ls : mj_L} {st : List Value} {σ : mj_S} {τ : mj_T} : mj_E 98 43 ls (.ref 0 :: st) σ τ = mj_E 98 46 ls (.ref 1 :: st) σ τ := mj_nx i98_43 rfl
theorem i98_46 : mj_ins 98 46 = some (.getfield 101, 49) := by decide +kernel
theorem e98_46 {ls : mj_L} {st : List Value} {σ : mj_S} {τ : mj_T} {k : Nat} (h1 : 1 ≤ k) (h2 : k ≤ 3) : mj_E 98 46 ls (.ref k :: st) σ τ = mj_E 98 49 ls (.int (σ k 1) :: st) σ τ := (mj_gf i98_46).trans (congrArg (fun z => mj_ov z _) (fv1_1 h1 h2))
theorem i98_49 : mj_ins 98 49 = some (.if_icmp .ge 93, 52) := by decide +kernel
theorem e98_49 {ls : mj_L} {st : List Value} {σ : mj_S} {τ : mj_T} {x y : Int32} : mj_E 98 49 ls (.int y :: .int x :: st) σ τ = if y ≤ x then mj_E 98 93 ls st σ τ else mj_E 98 52 ls st σ τ := (mj_ifi i98_49).trans (mj_cdT rfl)
theorem i98_52 : mj_ins 98 52 = some (.aload 0, 53) := by decide +kernel
theorem e98_52 {ls : mj_L} {st : List Value} {σ : mj_S} {τ : mj_T} {v : Nat} : mj_E 98 52 (some (.ref v) :: ls) st σ τ = mj_E 98 53 (some (.ref v) :: ls) (.ref v :: st) σ τ := mj_nx i98_52 rfl
theorem i98_53 : mj_ins 98 53 = some (.getfield 600, 56) := by decide +kernel
theorem e98_53 {ls : mj_L} {st : List Value} {σ : mj_S} {τ : mj_T} : mj_E 98 53 ls (.ref 0 :: st) σ τ = mj_E 98 56 ls (.ref 1 :: st) σ τ := mj_nx i98_53 rfl
theorem i98_56 : mj_ins 98 56 = some (.iload 4, 58) := by decide +kernel
theorem e98_56 {ls : mj_L} {st : List Value} {σ : mj_S} {τ : mj_T} {a0 a1 a2 a3 : Option Value} {v : Int32} : mj_E 98 56 (a0 :: a1 :: a2 :: a3 :: some (.int v) :: ls) st σ τ = mj_E 98 58 (a0 :: a1 :: a2 :: a3 :: some (.int v) :: ls) (.int v :: st) σ τ := mj_nx i98_56 rfl
theorem i98_58 : mj_ins 98 58 = some (.iload 5, 60) := by decide +kernel
theorem e98_58 {ls : mj_L} {st : List Value} {σ : mj_S} {τ : mj_T} {a0 a1 a2 a3 a4 : Option Value} {v : Int32} : mj_E 98 58 (a0 :: a1 :: a2 :: a3 :: a4 :: some (.int v) :: ls) st σ τ = mj_E 98 60 (a0 :: a1 :: a2 :: a3 :: a4 :: some (.int v) :: ls) (.int v :: st) σ τ := mj_nx i98_58 rfl
theorem i98_60 : mj_ins 98 60 = some (.invokevirtual 30, 63) := by decide +kernel
theorem e98_60 {ls : mj_L} {σ : mj_S} {τ : mj_T} {r : Nat} {x0 : Int32} {x1 : Int32} : mj_E 98 60 ls [.int x1, .int x0, .ref r] σ τ = if mj_rcv r 1 = true then mj_bd (mj_C 30 [.ref r, .int x0, .int x1] σ τ) (mj_K 98 63 ls []) else none := mj_clV (as := [.int x0, .int x1]) (r := []) i98_60 (by decide +kernel : mj_vk 98 30 2 0 3 false = true) (by decide +kernel)
theorem i98_63 : mj_ins 98 63 = some (.ifCond .eq 87, 66) := by decide +kernel
theorem e98_63 {ls : mj_L} {st : List Value} {σ : mj_S} {τ : mj_T} {x : Int32} : mj_E 98 63 ls (.int x :: st) σ τ = if x = 0 then mj_E 98 87 ls st σ τ else mj_E 98 66 ls st σ τ := (mj_ifc i98_63).trans (mj_cdT rfl)
theorem i98_66 : mj_ins 98 66 = some (.iinc 2 (1), 69) := by decide +kernel
theorem e98_66 {ls : mj_L} {st : List Value} {σ : mj_S} {τ : mj_T} {a0 a1 : Option Value} {v : Int32} : mj_E 98 66 (a0 :: a1 :: some (.int v) :: ls) st σ τ = mj_E 98 69 (a0 :: a1 :: some (.int (v + nI 1)) :: ls) st σ τ := mj_nx i98_66 rfl
theorem i98_69 : mj_ins 98 69 = some (.iload 3, 70) := by decide +kernel
theorem e98_69 {ls : mj_L} {st : List Value} {σ : mj_S} {τ : mj_T} {a0 a1 a2 : Option Value} {v : Int32} : mj_E 98 69 (a0 :: a1 :: a2 :: some (.int v) :: ls) st σ τ = mj_E 98 70 (a0 :: a1 :: a2 :: some (.int v) :: ls) (.int v :: st) σ τ := mj_nx i98_69 rfl
theorem i98_70 : mj_ins 98 70 = some (.iconst (-1), 71) := by decide +kernel
theorem e98_70 {ls : mj_L} {st : List Value} {σ : mj_S} {τ : mj_T} : mj_E 98 70 ls st σ τ = mj_E 98 71 ls (.int ((-1)) :: st) σ τ := mj_nx i98_70 rfl
theorem i98_71 : mj_ins 98 71 = some (.if_icmp .ne 85, 74) := by decide +kernel
theorem e98_71 {ls : mj_L} {st : List Value} {σ : mj_S} {τ : mj_T} {x y : Int32} : mj_E 98 71 ls (.int y :: .int x :: st) σ τ = if x = y then mj_E 98 74 ls st σ τ else mj_E 98 85 ls st σ τ := (mj_ifi i98_71).trans (mj_cdF rfl)
theorem i98_74 : mj_ins 98 74 = some (.iconst (10), 76) := by decide +kernel
theorem e98_74 {ls : mj_L} {st : List Value} {σ : mj_S} {τ : mj_T} : mj_E 98 74 ls st σ τ = mj_E 98 76 ls (.int (nI 10) :: st) σ τ := mj_nx i98_74 rfl
theorem i98_76 : mj_ins 98 76 = some (.iload 4, 78) := by decide +kernel
theorem e98_76 {ls : mj_L} {st : List Value} {σ : mj_S} {τ : mj_T} {a0 a1 a2 a3 : Option Value} {v : Int32} : mj_E 98 76 (a0 :: a1 :: a2 :: a3 :: some (.int v) :: ls) st σ τ = mj_E 98 78 (a0 :: a1 :: a2 :: a3 :: some (.int v) :: ls) (.int v :: st) σ τ := mj_nx i98_76 rfl
theorem i98_78 : mj_ins 98 78 = some (.imul, 79) := by decide +kernel
theorem e98_78 {ls : mj_L} {st : List Value} {σ : mj_S} {τ : mj_T} {x y : Int32} : mj_E 98 78 ls (.int y :: .int x :: st) σ τ = mj_E 98 79 ls (.int (x * y) :: st) σ τ := mj_nx i98_78 rfl
theorem i98_79 : mj_ins 98 79 = some (.iload 5, 81) := by decide +kernel
theorem e98_79 {ls : mj_L} {st : List Value} {σ : mj_S} {τ : mj_T} {a0 a1 a2 a3 a4 : Option Value} {v : Int32} : mj_E 98 79 (a0 :: a1 :: a2 :: a3 :: a4 :: some (.int v) :: ls) st σ τ = mj_E 98 81 (a0 :: a1 :: a2 :: a3 :: a4 :: some (.int v) :: ls) (.int v :: st) σ τ := mj_nx i98_79 rfl
theorem i98_81 : mj_ins 98 81 = some (.iadd, 82) := by decide +kernel
theorem e98_81 {ls : mj_L} {st : List Value} {σ : mj_S} {τ : mj_T} {x y : Int32} : mj_E 98 81 ls (.int y :: .int x :: st) σ τ = mj_E 98 82 ls (.int (x + y) :: st) σ τ := mj_nx i98_81 rfl
theorem i98_82 : mj_ins 98 82 = some (.goto 86, 85) := by decide +kernel
theorem e98_82 {ls : mj_L} {st : List Value} {σ : mj_S} {τ : mj_T} : mj_E 98 82 ls st σ τ = mj_E 98 86 ls st σ τ := mj_nx i98_82 rfl
theorem i98_85 : mj_ins 98 85 = some (.iload 3, 86) := by decide +kernel
theorem e98_85 {ls : mj_L} {st : List Value} {σ : mj_S} {τ : mj_T} {a0 a1 a2 : Option Value} {v : Int32} : mj_E 98 85 (a0 :: a1 :: a2 :: some (.int v) :: ls) st σ τ = mj_E 98 86 (a0 :: a1 :: a2 :: some (.int v) :: ls) (.int v :: st) σ τ := mj_nx i98_85 rfl
theorem i98_86 : mj_ins 98 86 = some (.istore 3, 87) := by decide +kernel
theorem e98_86 {ls : mj_L} {st : List Value} {σ : mj_S} {τ : mj_T} {a0 a1 a2 a3 : Option Value} {v : Int32} : mj_E 98 86 (a0 :: a1 :: a2 :: a3 :: ls) (.int v :: st) σ τ = mj_E 98 87 (a0 :: a1 :: a2 :: some (.int v) :: ls) st σ τ := mj_nx i98_86 rfl
theorem i98_87 : mj_ins 98 87 = some (.iinc 5 (1), 90) := by decide +kernel
theorem e98_87 {ls : mj_L} {st : List Value} {σ : mj_S} {τ : mj_T} {a0 a1 a2 a3 a4 : Option Value} {v : Int32} : mj_E 98 87 (a0 :: a1 :: a2 :: a3 :: a4 :: some (.int v) :: ls) st σ τ = mj_E 98 90 (a0 :: a1 :: a2 :: a3 :: a4 :: some (.int (v + nI 1)) :: ls) st σ τ := mj_nx i98_87 rfl
theorem i98_90 : mj_ins 98 90 = some (.goto 40, 93) := by decide +kernel
theorem e98_90 {ls : mj_L} {st : List Value} {σ : mj_S} {τ : mj_T} : mj_E 98 90 ls st σ τ = mj_E 98 40 ls st σ τ := mj_nx i98_90 rfl
theorem i98_93 : mj_ins 98 93 = some (.iinc 4 (1), 96) := by decide +kernel
theorem e98_93 {ls : mj_L} {st : List Value} {σ : mj_S} {τ : mj_T} {a0 a1 a2 a3 : Option Value} {v : Int32} : mj_E 98 93 (a0 :: a1 :: a2 :: a3 :: some (.int v) :: ls) st σ τ = mj_E 98 96 (a0 :: a1 :: a2 :: a3 :: some (.int (v + nI 1)) :: ls) st σ τ := mj_nx i98_93 rfl
theorem i98_96 : mj_ins 98 96 = some (.goto 22, 99) := by decide +kernel
theorem e98_96 {ls : mj_L} {st : List Value} {σ : mj_S} {τ : mj_T} : mj_E 98 96 ls st σ τ = mj_E 98 22 ls st σ τ := mj_nx i98_96 rfl
theorem i98_99 : mj_ins 98 99 = some (.iload 1, 100) := by decide +kernel
theorem e98_99 {ls : mj_L} {st : List Value} {σ : mj_S} {τ : mj_T} {a0 : Option Value} {v : Int32} : mj_E 98 99 (a0 :: some (.int v) :: ls) st σ τ = mj_E 98 100 (a0 :: some (.int v) :: ls) (.int v :: st) σ τ := mj_nx i98_99 rfl
theorem i98_100 : mj_ins 98 100 = some (.ifCond .ne 107, 103) := by decide +kernel
theorem e98_100 {ls : mj_L} {st : List Value} {σ : mj_S} {τ : mj_T} {x : Int32} : mj_E 98 100 ls (.int x :: st) σ τ = if x = 0 then mj_E 98 103 ls st σ τ else mj_E 98 107 ls st σ τ := (mj_ifc i98_100).trans (mj_cdF rfl)
theorem i98_103 : mj_ins 98 103 = some (.iload 2, 104) := by decide +kernel
theorem e98_103 {ls : mj_L} {st : List Value} {σ : mj_S} {τ : mj_T} {a0 a1 : Option Value} {v : Int32} : mj_E 98 103 (a0 :: a1 :: some (.int v) :: ls) st σ τ = mj_E 98 104 (a0 :: a1 :: some (.int v) :: ls) (.int v :: st) σ τ := mj_nx i98_103 rfl
theorem i98_104 : mj_ins 98 104 = some (.goto 108, 107) := by decide +kernel
theorem e98_104 {ls : mj_L} {st : List Value} {σ : mj_S} {τ : mj_T} : mj_E 98 104 ls st σ τ = mj_E 98 108 ls st σ τ := mj_nx i98_104 rfl
theorem i98_107 : mj_ins 98 107 = some (.iload 3, 108) := by decide +kernel
theorem e98_107 {ls : mj_L} {st : List Value} {σ : mj_S} {τ : mj_T} {a0 a1 a2 : Option Value} {v : Int32} : mj_E 98 107 (a0 :: a1 :: a2 :: some (.int v) :: ls) st σ τ = mj_E 98 108 (a0 :: a1 :: a2 :: some (.int v) :: ls) (.int v :: st) σ τ := mj_nx i98_107 rfl
theorem i98_108 : mj_ins 98 108 = some (.ireturn, 109) := by decide +kernel
theorem e98_108 {ls : mj_L} {σ : mj_S} {τ : mj_T} {v : Int32} : mj_E 98 108 ls [.int v] σ τ = some (some (.int v), σ, τ) := mj_irt i98_108 rfl
theorem c99 {σ : mj_S} {τ : mj_T} {r : Nat} {x0 : Int32} {x1 : Int32} {x2 : Int32} : mj_C 99 [.ref r, .int x0, .int x1, .int x2] σ τ = mj_E 99 0 [some (.ref r), some (.int x0), some (.int x1), some (.int x2), none] [] σ τ := rfl
theorem i99_0 : mj_ins 99 0 = some (.aload 0, 1) := by decide +kernel
theorem e99_0 {ls : mj_L} {st : List Value} {σ : mj_S} {τ : mj_T} {v : Nat} : mj_E 99 0 (some (.ref v) :: ls) st σ τ = mj_E 99 1 (some (.ref v) :: ls) (.ref v :: st) σ τ := mj_nx i99_0 rfl
theorem i99_1 : mj_ins 99 1 = some (.getfield 600, 4) := by decide +kernel
theorem e99_1 {ls : mj_L} {st : List Value} {σ : mj_S} {τ : mj_T} : mj_E 99 1 ls (.ref 0 :: st) σ τ = mj_E 99 4 ls (.ref 1 :: st) σ τ := mj_nx i99_1 rfl
theorem i99_4 : mj_ins 99 4 = some (.iload 1, 5) := by decide +kernel
theorem e99_4 {ls : mj_L} {st : List Value} {σ : mj_S} {τ : mj_T} {a0 : Option Value} {v : Int32} : mj_E 99 4 (a0 :: some (.int v) :: ls) st σ τ = mj_E 99 5 (a0 :: some (.int v) :: ls) (.int v :: st) σ τ := mj_nx i99_4 rfl
theorem i99_5 : mj_ins 99 5 = some (.invokevirtual 7, 8) := by decide +kernel
theorem e99_5 {ls : mj_L} {σ : mj_S} {τ : mj_T} {r : Nat} {x0 : Int32} : mj_E 99 5 ls [.int x0, .ref r] σ τ = if mj_rcv r 1 = true then mj_bd (mj_C 7 [.ref r, .int x0] σ τ) (mj_K 99 8 ls []) else none := mj_clV (as := [.int x0]) (r := []) i99_5 (by decide +kernel : mj_vk 99 7 1 0 2 false = true) (by decide +kernel)
theorem i99_8 : mj_ins 99 8 = some (.ifCond .ne 17, 11) := by decide +kernel
theorem e99_8 {ls : mj_L} {st : List Value} {σ : mj_S} {τ : mj_T} {x : Int32} : mj_E 99 8 ls (.int x :: st) σ τ = if x = 0 then mj_E 99 11 ls st σ τ else mj_E 99 17 ls st σ τ := (mj_ifc i99_8).trans (mj_cdF rfl)
theorem i99_11 : mj_ins 99 11 = some (.aload 0, 12) := by decide +kernel
theorem e99_11 {ls : mj_L} {st : List Value} {σ : mj_S} {τ : mj_T} {v : Nat} : mj_E 99 11 (some (.ref v) :: ls) st σ τ = mj_E 99 12 (some (.ref v) :: ls) (.ref v :: st) σ τ := mj_nx i99_11 rfl
theorem i99_12 : mj_ins 99 12 = some (.iconst (-1), 13) := by decide +kernel
theorem e99_12 {ls : mj_L} {st : List Value} {σ : mj_S} {τ : mj_T} : mj_E 99 12 ls st σ τ = mj_E 99 13 ls (.int ((-1)) :: st) σ τ := mj_nx i99_12 rfl
theorem i99_13 : mj_ins 99 13 = some (.invokevirtual 112, 16) := by decide +kernel
theorem e99_13 {ls : mj_L} {σ : mj_S} {τ : mj_T} {r : Nat} {x0 : Int32} : mj_E 99 13 ls [.int x0, .ref r] σ τ = if mj_rcv r 6 = true then mj_bd (mj_C 112 [.ref r, .int x0] σ τ) (mj_K 99 16 ls []) else none := mj_clV (as := [.int x0]) (r := []) i99_13 (by decide +kernel : mj_vk 99 112 1 0 2 false = true) (by decide +kernel)
theorem i99_16 : mj_ins 99 16 = some (.ireturn, 17) := by decide +kernel
theorem e99_16 {ls : mj_L} {σ : mj_S} {τ : mj_T} {v : Int32} : mj_E 99 16 ls [.int v] σ τ = some (some (.int v), σ, τ) := mj_irt i99_16 rfl
theorem i99_17 : mj_ins 99 17 = some (.iload 3, 18) := by decide +kernel
theorem e99_17 {ls : mj_L} {st : List Value} {σ : mj_S} {τ : mj_T} {a0 a1 a2 : Option Value} {v : Int32} : mj_E 99 17 (a0 :: a1 :: a2 :: some (.int v) :: ls) st σ τ = mj_E 99 18 (a0 :: a1 :: a2 :: some (.int v) :: ls) (.int v :: st) σ τ := mj_nx i99_17 rfl
theorem i99_18 : mj_ins 99 18 = some (.iconst (1), 19) := by decide +kernel
theorem e99_18 {ls : mj_L} {st : List Value} {σ : mj_S} {τ : mj_T} : mj_E 99 18 ls st σ τ = mj_E 99 19 ls (.int (nI 1) :: st) σ τ := mj_nx i99_18 rfl
theorem i99_19 : mj_ins 99 19 = some (.invokestatic 116, 22) := by decide +kernel
theorem e99_19 {ls : mj_L} {σ : mj_S} {τ : mj_T} {x0 : Int32} {x1 : Int32} : mj_E 99 19 ls [.int x1, .int x0] σ τ = mj_bd (mj_C 116 [.int x0, .int x1] σ τ) (mj_K 99 22 ls []) := mj_clS (as := [.int x0, .int x1]) (r := []) i99_19 (by decide +kernel : mj_vk 99 116 2 0 2 false = true) rfl
theorem i99_22 : mj_ins 99 22 = some (.ifCond .ne 32, 25) := by decide +kernel
theorem e99_22 {ls : mj_L} {st : List Value} {σ : mj_S} {τ : mj_T} {x : Int32} : mj_E 99 22 ls (.int x :: st) σ τ = if x = 0 then mj_E 99 25 ls st σ τ else mj_E 99 32 ls st σ τ := (mj_ifc i99_22).trans (mj_cdF rfl)
theorem i99_25 : mj_ins 99 25 = some (.aload 0, 26) := by decide +kernel
theorem e99_25 {ls : mj_L} {st : List Value} {σ : mj_S} {τ : mj_T} {v : Nat} : mj_E 99 25 (some (.ref v) :: ls) st σ τ = mj_E 99 26 (some (.ref v) :: ls) (.ref v :: st) σ τ := mj_nx i99_25 rfl
theorem i99_26 : mj_ins 99 26 = some (.iconst (-5), 28) := by decide +kernel
theorem e99_26 {ls : mj_L} {st : List Value} {σ : mj_S} {τ : mj_T} : mj_E 99 26 ls st σ τ = mj_E 99 28 ls (.int ((-5)) :: st) σ τ := mj_nx i99_26 rfl
theorem i99_28 : mj_ins 99 28 = some (.invokevirtual 112, 31) := by decide +kernel
theorem e99_28 {ls : mj_L} {σ : mj_S} {τ : mj_T} {r : Nat} {x0 : Int32} : mj_E 99 28 ls [.int x0, .ref r] σ τ = if mj_rcv r 6 = true then mj_bd (mj_C 112 [.ref r, .int x0] σ τ) (mj_K 99 31 ls []) else none := mj_clV (as := [.int x0]) (r := []) i99_28 (by decide +kernel : mj_vk 99 112 1 0 2 false = true) (by decide +kernel)
theorem i99_31 : mj_ins 99 31 = some (.ireturn, 32) := by decide +kernel
theorem e99_31 {ls : mj_L} {σ : mj_S} {τ : mj_T} {v : Int32} : mj_E 99 31 ls [.int v] σ τ = some (some (.int v), σ, τ) := mj_irt i99_31 rfl
theorem i99_32 : mj_ins 99 32 = some (.iload 2, 33) := by decide +kernel
theorem e99_32 {ls : mj_L} {st : List Value} {σ : mj_S} {τ : mj_T} {a0 a1 : Option Value} {v : Int32} : mj_E 99 32 (a0 :: a1 :: some (.int v) :: ls) st σ τ = mj_E 99 33 (a0 :: a1 :: some (.int v) :: ls) (.int v :: st) σ τ := mj_nx i99_32 rfl
theorem i99_33 : mj_ins 99 33 = some (.iconst (20), 35) := by decide +kernel
theorem e99_33 {ls : mj_L} {st : List Value} {σ : mj_S} {τ : mj_T} : mj_E 99 33 ls st σ τ = mj_E 99 35 ls (.int (nI 20) :: st) σ τ := mj_nx i99_33 rfl
theorem i99_35 : mj_ins 99 35 = some (.invokestatic 116, 38) := by decide +kernel
theorem e99_35 {ls : mj_L} {σ : mj_S} {τ : mj_T} {x0 : Int32} {x1 : Int32} : mj_E 99 35 ls [.int x1, .int x0] σ τ = mj_bd (mj_C 116 [.int x0, .int x1] σ τ) (mj_K 99 38 ls []) := mj_clS (as := [.int x0, .int x1]) (r := []) i99_35 (by decide +kernel : mj_vk 99 116 2 0 2 false = true) rfl
theorem i99_38 : mj_ins 99 38 = some (.ifCond .ne 48, 41) := by decide +kernel
theorem e99_38 {ls : mj_L} {st : List Value} {σ : mj_S} {τ : mj_T} {x : Int32} : mj_E 99 38 ls (.int x :: st) σ τ = if x = 0 then mj_E 99 41 ls st σ τ else mj_E 99 48 ls st σ τ := (mj_ifc i99_38).trans (mj_cdF rfl)
theorem i99_41 : mj_ins 99 41 = some (.aload 0, 42) := by decide +kernel
theorem e99_41 {ls : mj_L} {st : List Value} {σ : mj_S} {τ : mj_T} {v : Nat} : mj_E 99 41 (some (.ref v) :: ls) st σ τ = mj_E 99 42 (some (.ref v) :: ls) (.ref v :: st) σ τ := mj_nx i99_41 rfl
theorem i99_42 : mj_ins 99 42 = some (.iconst (-6), 44) := by decide +kernel
theorem e99_42 {ls : mj_L} {st : List Value} {σ : mj_S} {τ : mj_T} : mj_E 99 42 ls st σ τ = mj_E 99 44 ls (.int ((-6)) :: st) σ τ := mj_nx i99_42 rfl
theorem i99_44 : mj_ins 99 44 = some (.invokevirtual 112, 47) := by decide +kernel
theorem e99_44 {ls : mj_L} {σ : mj_S} {τ : mj_T} {r : Nat} {x0 : Int32} : mj_E 99 44 ls [.int x0, .ref r] σ τ = if mj_rcv r 6 = true then mj_bd (mj_C 112 [.ref r, .int x0] σ τ) (mj_K 99 47 ls []) else none := mj_clV (as := [.int x0]) (r := []) i99_44 (by decide +kernel : mj_vk 99 112 1 0 2 false = true) (by decide +kernel)
theorem i99_47 : mj_ins 99 47 = some (.ireturn, 48) := by decide +kernel
theorem e99_47 {ls : mj_L} {σ : mj_S} {τ : mj_T} {v : Int32} : mj_E 99 47 ls [.int v] σ τ = some (some (.int v), σ, τ) := mj_irt i99_47 rfl
theorem i99_48 : mj_ins 99 48 = some (.aload 0, 49) := by decide +kernel
theorem e99_48 {ls : mj_L} {st : List Value} {σ : mj_S} {τ : mj_T} {v : Nat} : mj_E 99 48 (some (.ref v) :: ls) st σ τ = mj_E 99 49 (some (.ref v) :: ls) (.ref v :: st) σ τ := mj_nx i99_48 rfl
theorem i99_49 : mj_ins 99 49 = some (.getfield 601, 52) := by decide +kernel
theorem e99_49 {ls : mj_L} {st : List Value} {σ : mj_S} {τ : mj_T} : mj_E 99 49 ls (.ref 0 :: st) σ τ = mj_E 99 52 ls (.ref 2 :: st) σ τ := mj_nx i99_49 rfl
theorem i99_52 : mj_ins 99 52 = some (.aload 0, 53) := by decide +kernel
theorem e99_52 {ls : mj_L} {st : List Value} {σ : mj_S} {τ : mj_T} {v : Nat} : mj_E 99 52 (some (.ref v) :: ls) st σ τ = mj_E 99 53 (some (.ref v) :: ls) (.ref v :: st) σ τ := mj_nx i99_52 rfl
theorem i99_53 : mj_ins 99 53 = some (.getfield 600, 56) := by decide +kernel
theorem e99_53 {ls : mj_L} {st : List Value} {σ : mj_S} {τ : mj_T} : mj_E 99 53 ls (.ref 0 :: st) σ τ = mj_E 99 56 ls (.ref 1 :: st) σ τ := mj_nx i99_53 rfl
theorem i99_56 : mj_ins 99 56 = some (.invokevirtual 6, 59) := by decide +kernel
theorem e99_56 {ls : mj_L} {σ : mj_S} {τ : mj_T} {r : Nat} {x0 : Nat} : mj_E 99 56 ls [.ref x0, .ref r] σ τ = if mj_rcv r 1 = true then mj_bd (mj_C 6 [.ref r, .ref x0] σ τ) (mj_K 99 59 ls []) else none := mj_clV (as := [.ref x0]) (r := []) i99_56 (by decide +kernel : mj_vk 99 6 1 0 2 false = true) (by decide +kernel)
theorem i99_59 : mj_ins 99 59 = some (.iconst (0), 60) := by decide +kernel
theorem e99_59 {ls : mj_L} {st : List Value} {σ : mj_S} {τ : mj_T} : mj_E 99 59 ls st σ τ = mj_E 99 60 ls (.int (nI 0) :: st) σ τ := mj_nx i99_59 rfl
theorem i99_60 : mj_ins 99 60 = some (.istore 4, 62) := by decide +kernel
theorem e99_60 {ls : mj_L} {st : List Value} {σ : mj_S} {τ : mj_T} {a0 a1 a2 a3 a4 : Option Value} {v : Int32} : mj_E 99 60 (a0 :: a1 :: a2 :: a3 :: a4 :: ls) (.int v :: st) σ τ = mj_E 99 62 (a0 :: a1 :: a2 :: a3 :: some (.int v) :: ls) st σ τ := mj_nx i99_60 rfl
theorem i99_62 : mj_ins 99 62 = some (.iload 4, 64) := by decide +kernel
theorem e99_62 {ls : mj_L} {st : List Value} {σ : mj_S} {τ : mj_T} {a0 a1 a2 a3 : Option Value} {v : Int32} : mj_E 99 62 (a0 :: a1 :: a2 :: a3 :: some (.int v) :: ls) st σ τ = mj_E 99 64 (a0 :: a1 :: a2 :: a3 :: some (.int v) :: ls) (.int v :: st) σ τ := mj_nx i99_62 rfl
theorem i99_64 : mj_ins 99 64 = some (.iload 2, 65) := by decide +kernel
theorem e99_64 {ls : mj_L} {st : List Value} {σ : mj_S} {τ : mj_T} {a0 a1 : Option Value} {v : Int32} : mj_E 99 64 (a0 :: a1 :: some (.int v) :: ls) st σ τ = mj_E 99 65 (a0 :: a1 :: some (.int v) :: ls) (.int v :: st) σ τ := mj_nx i99_64 rfl
theorem i99_65 : mj_ins 99 65 = some (.if_icmp .ge 81, 68) := by decide +kernel
theorem e99_65 {ls : mj_L} {st : List Value} {σ : mj_S} {τ : mj_T} {x y : Int32} : mj_E 99 65 ls (.int y :: .int x :: st) σ τ = if y ≤ x then mj_E 99 81 ls st σ τ else mj_E 99 68 ls st σ τ := (mj_ifi i99_65).trans (mj_cdT rfl)
theorem i99_68 : mj_ins 99 68 = some (.aload 0, 69) := by decide +kernel
theorem e99_68 {ls : mj_L} {st : List Value} {σ : mj_S} {τ : mj_T} {v : Nat} : mj_E 99 68 (some (.ref v) :: ls) st σ τ = mj_E 99 69 (some (.ref v) :: ls) (.ref v :: st) σ τ := mj_nx i99_68 rfl
theorem i99_69 : mj_ins 99 69 = some (.getfield 601, 72) := by decide +kernel
theorem e99_69 {ls : mj_L} {st : List Value} {σ : mj_S} {τ : mj_T} : mj_E 99 69 ls (.ref 0 :: st) σ τ = mj_E 99 72 ls (.ref 2 :: st) σ τ := mj_nx i99_69 rfl
theorem i99_72 : mj_ins 99 72 = some (.invokevirtual 32, 75) := by decide +kernel
theorem e99_72 {ls : mj_L} {σ : mj_S} {τ : mj_T} {r : Nat} : mj_E 99 72 ls [.ref r] σ τ = if mj_rcv r 1 = true then mj_bd (mj_C 32 [.ref r] σ τ) (mj_K 99 75 ls []) else none := mj_clV (as := []) (r := []) i99_72 (by decide +kernel : mj_vk 99 32 0 0 1 false = true) (by decide +kernel)
theorem i99_75 : mj_ins 99 75 = some (.iinc 4 (1), 78) := by decide +kernel
theorem e99_75 {ls : mj_L} {st : List Value} {σ : mj_S} {τ : mj_T} {a0 a1 a2 a3 : Option Value} {v : Int32} : mj_E 99 75 (a0 :: a1 :: a2 :: a3 :: some (.int v) :: ls) st σ τ = mj_E 99 78 (a0 :: a1 :: a2 :: a3 :: some (.int (v + nI 1)) :: ls) st σ τ := mj_nx i99_75 rfl
theorem i99_78 : mj_ins 99 78 = some (.goto 62, 81) := by decide +kernel
theorem e99_78 {ls : mj_L} {st : List Value} {σ : mj_S} {τ : mj_T} : mj_E 99 78 ls st σ τ = mj_E 99 62 ls st σ τ := mj_nx i99_78 rfl
theorem i99_81 : mj_ins 99 81 = some (.iload 3, 82) := by decide +kernel
theorem e99_81 {ls : mj_L} {st : List Value} {σ : mj_S} {τ : mj_T} {a0 a1 a2 : Option Value} {v : Int32} : mj_E 99 81 (a0 :: a1 :: a2 :: some (.int v) :: ls) st σ τ = mj_E 99 82 (a0 :: a1 :: a2 :: some (.int v) :: ls) (.int v :: st) σ τ := mj_nx i99_81 rfl
theorem i99_82 : mj_ins 99 82 = some (.ifCond .ne 96, 85) := by decide +kernel
theorem e99_82 {ls : mj_L} {st : List Value} {σ : mj_S} {τ : mj_T} {x : Int32} : mj_E 99 82 ls (.int x :: st) σ τ = if x = 0 then mj_E 99 85 ls st σ τ else mj_E 99 96 ls st σ τ := (mj_ifc i99_82).trans (mj_cdF rfl)
theorem i99_85 : mj_ins 99 85 = some (.aload 0, 86) := by decide +kernel
theorem e99_85 {ls : mj_L} {st : List Value} {σ : mj_S} {τ : mj_T} {v : Nat} : mj_E 99 85 (some (.ref v) :: ls) st σ τ = mj_E 99 86 (some (.ref v) :: ls) (.ref v :: st) σ τ := mj_nx i99_85 rfl
theorem i99_86 : mj_ins 99 86 = some (.getfield 601, 89) := by decide +kernel
theorem e99_86 {ls : mj_L} {st : List Value} {σ : mj_S} {τ : mj_T} : mj_E 99 86 ls (.ref 0 :: st) σ τ = mj_E 99 89 ls (.ref 2 :: st) σ τ := mj_nx i99_86 rfl
theorem i99_89 : mj_ins 99 89 = some (.iload 1, 90) := by decide +kernel
theorem e99_89 {ls : mj_L} {st : List Value} {σ : mj_S} {τ : mj_T} {a0 : Option Value} {v : Int32} : mj_E 99 89 (a0 :: some (.int v) :: ls) st σ τ = mj_E 99 90 (a0 :: some (.int v) :: ls) (.int v :: st) σ τ := mj_nx i99_89 rfl
theorem i99_90 : mj_ins 99 90 = some (.invokevirtual 17, 93) := by decide +kernel
theorem e99_90 {ls : mj_L} {σ : mj_S} {τ : mj_T} {r : Nat} {x0 : Int32} : mj_E 99 90 ls [.int x0, .ref r] σ τ = if mj_rcv r 1 = true then mj_bd (mj_C 17 [.ref r, .int x0] σ τ) (mj_K 99 93 ls []) else none := mj_clV (as := [.int x0]) (r := []) i99_90 (by decide +kernel : mj_vk 99 17 1 0 2 false = true) (by decide +kernel)
theorem i99_93 : mj_ins 99 93 = some (.goto 105, 96) := by decide +kernel
theorem e99_93 {ls : mj_L} {st : List Value} {σ : mj_S} {τ : mj_T} : mj_E 99 93 ls st σ τ = mj_E 99 105 ls st σ τ := mj_nx i99_93 rfl
theorem i99_96 : mj_ins 99 96 = some (.aload 0, 97) := by decide +kernel
theorem e99_96 {ls : mj_L} {st : List Value} {σ : mj_S} {τ : mj_T} {v : Nat} : mj_E 99 96 (some (.ref v) :: ls) st σ τ = mj_E 99 97 (some (.ref v) :: ls) (.ref v :: st) σ τ := mj_nx i99_96 rfl
theorem i99_97 : mj_ins 99 97 = some (.getfield 601, 100) := by decide +kernel
theorem e99_97 {ls : mj_L} {st : List Value} {σ : mj_S} {τ : mj_T} : mj_E 99 97 ls (.ref 0 :: st) σ τ = mj_E 99 100 ls (.ref 2 :: st) σ τ := mj_nx i99_97 rfl
theorem i99_100 : mj_ins 99 100 = some (.getfield 109, 103) := by decide +kernel
theorem e99_100 {ls : mj_L} {st : List Value} {σ : mj_S} {τ : mj_T} {k : Nat} (h1 : 1 ≤ k) (h2 : k ≤ 3) : mj_E 99 100 ls (.ref k :: st) σ τ = mj_E 99 103 ls (.ref (10 * k + 4) :: st) σ τ := (mj_gf i99_100).trans (congrArg (fun z => mj_ov z _) (fv1_9 h1 h2))
theorem i99_103 : mj_ins 99 103 = some (.iload 1, 104) := by decide +kernel
theorem e99_103 {ls : mj_L} {st : List Value} {σ : mj_S} {τ : mj_T} {a0 : Option Value} {v : Int32} : mj_E 99 103 (a0 :: some (.int v) :: ls) st σ τ = mj_E 99 104 (a0 :: some (.int v) :: ls) (.int v :: st) σ τ := mj_nx i99_103 rfl
theorem i99_104 : mj_ins 99 104 = some (.iaload, 105) := by decide +kernel
theorem e99_104 {ls : mj_L} {st : List Value} {σ : mj_S} {τ : mj_T} {x : Int32} {k : Nat} : mj_E 99 104 ls (.int x :: .ref k :: st) σ τ = if mj_ib (mj_li σ k) x = true then mj_E 99 105 ls (.int (σ k x.toNatClampNeg) :: st) σ τ else none := mj_ald i99_104
theorem i99_105 : mj_ins 99 105 = some (.ireturn, 106) := by decide +kernel
theorem e99_105 {ls : mj_L} {σ : mj_S} {τ : mj_T} {v : Int32} : mj_E 99 105 ls [.int v] σ τ = some (some (.int v), σ, τ) := mj_irt i99_105 rfl
theorem c100 {σ : mj_S} {τ : mj_T} {r : Nat} {x0 : Int32} {x1 : Int32} : mj_C 100 [.ref r, .int x0, .int x1] σ τ = mj_E 100 0 [some (.ref r), some (.int x0), some (.int x1), none, none, none, none] [] σ τ := rfl
theorem i100_0 : mj_ins 100 0 = some (.aload 0, 1) := by decide +kernel
theorem e100_0 {ls : mj_L} {st : List Value} {σ : mj_S} {τ : mj_T} {v : Nat} : mj_E 100 0 (some (.ref v) :: ls) st σ τ = mj_E 100 1 (some (.ref v) :: ls) (.ref v :: st) σ τ := mj_nx i100_0 rfl
theorem i100_1 : mj_ins 100 1 = some (.iload 1, 2) := by decide +kernel
theorem e100_1 {ls : mj_L} {st : List Value} {σ : mj_S} {τ : mj_T} {a0 : Option Value} {v : Int32} : mj_E 100 1 (a0 :: some (.int v) :: ls) st σ τ = mj_E 100 2 (a0 :: some (.int v) :: ls) (.int v :: st) σ τ := mj_nx i100_1 rfl
theorem i100_2 : mj_ins 100 2 = some (.invokevirtual 114, 5) := by decide +kernel
theorem e100_2 {ls : mj_L} {σ : mj_S} {τ : mj_T} {r : Nat} {x0 : Int32} : mj_E 100 2 ls [.int x0, .ref r] σ τ = if mj_rcv r 6 = true then mj_bd (mj_C 114 [.ref r, .int x0] σ τ) (mj_K 100 5 ls []) else none := mj_clV (as := [.int x0]) (r := []) i100_2 (by decide +kernel : mj_vk 100 114 1 0 2 false = true) (by decide +kernel)
theorem i100_5 : mj_ins 100 5 = some (.astore 3, 6) := by decide +kernel
theorem e100_5 {ls : mj_L} {st : List Value} {σ : mj_S} {τ : mj_T} {a0 a1 a2 a3 : Option Value} {v : Nat} : mj_E 100 5 (a0 :: a1 :: a2 :: a3 :: ls) (.ref v :: st) σ τ = mj_E 100 6 (a0 :: a1 :: a2 :: some (.ref v) :: ls) st σ τ := mj_nx i100_5 rfl
theorem e100_5n {ls : mj_L} {st : List Value} {σ : mj_S} {τ : mj_T} {a0 a1 a2 a3 : Option Value} : mj_E 100 5 (a0 :: a1 :: a2 :: a3 :: ls) (.null :: st) σ τ = mj_E 100 6 (a0 :: a1 :: a2 :: some .null :: ls) st σ τ := mj_nx i100_5 rfl
theorem i100_6 : mj_ins 100 6 = some (.aload 3, 7) := by decide +kernel
theorem e100_6 {ls : mj_L} {st : List Value} {σ : mj_S} {τ : mj_T} {a0 a1 a2 : Option Value} {v : Nat} : mj_E 100 6 (a0 :: a1 :: a2 :: some (.ref v) :: ls) st σ τ = mj_E 100 7 (a0 :: a1 :: a2 :: some (.ref v) :: ls) (.ref v :: st) σ τ := mj_nx i100_6 rfl
theorem e100_6n {ls : mj_L} {st : List Value} {σ : mj_S} {τ : mj_T} {a0 a1 a2 : Option Value} : mj_E 100 6 (a0 :: a1 :: a2 :: some .null :: ls) st σ τ = mj_E 100 7 (a0 :: a1 :: a2 :: some .null :: ls) (.null :: st) σ τ := mj_nx i100_6 rfl
theorem i100_7 : mj_ins 100 7 = some (.ifnull 21, 10) := by decide +kernel
theorem e100_7 {ls : mj_L} {st : List Value} {σ : mj_S} {τ : mj_T} {v : Nat} : mj_E 100 7 ls (.ref v :: st) σ τ = mj_E 100 10 ls st σ τ := mj_nx i100_7 rfl
theorem e100_7n {ls : mj_L} {st : List Value} {σ : mj_S} {τ : mj_T} : mj_E 100 7 ls (.null :: st) σ τ = mj_E 100 21 ls st σ τ := mj_nx i100_7 rfl
theorem i100_10 : mj_ins 100 10 = some (.aload 0, 11) := by decide +kernel
theorem e100_10 {ls : mj_L} {st : List Value} {σ : mj_S} {τ : mj_T} {v : Nat} : mj_E 100 10 (some (.ref v) :: ls) st σ τ = mj_E 100 11 (some (.ref v) :: ls) (.ref v :: st) σ τ := mj_nx i100_10 rfl
theorem i100_11 : mj_ins 100 11 = some (.getfield 600, 14) := by decide +kernel
theorem e100_11 {ls : mj_L} {st : List Value} {σ : mj_S} {τ : mj_T} : mj_E 100 11 ls (.ref 0 :: st) σ τ = mj_E 100 14 ls (.ref 1 :: st) σ τ := mj_nx i100_11 rfl
theorem i100_14 : mj_ins 100 14 = some (.iload 2, 15) := by decide +kernel
theorem e100_14 {ls : mj_L} {st : List Value} {σ : mj_S} {τ : mj_T} {a0 a1 : Option Value} {v : Int32} : mj_E 100 14 (a0 :: a1 :: some (.int v) :: ls) st σ τ = mj_E 100 15 (a0 :: a1 :: some (.int v) :: ls) (.int v :: st) σ τ := mj_nx i100_14 rfl
theorem i100_15 : mj_ins 100 15 = some (.invokevirtual 8, 18) := by decide +kernel
theorem e100_15 {ls : mj_L} {σ : mj_S} {τ : mj_T} {r : Nat} {x0 : Int32} : mj_E 100 15 ls [.int x0, .ref r] σ τ = if mj_rcv r 1 = true then mj_bd (mj_C 8 [.ref r, .int x0] σ τ) (mj_K 100 18 ls []) else none := mj_clV (as := [.int x0]) (r := []) i100_15 (by decide +kernel : mj_vk 100 8 1 0 2 false = true) (by decide +kernel)
theorem i100_18 : mj_ins 100 18 = some (.ifCond .ne 27, 21) := by decide +kernel
theorem e100_18 {ls : mj_L} {st : List Value} {σ : mj_S} {τ : mj_T} {x : Int32} : mj_E 100 18 ls (.int x :: st) σ τ = if x = 0 then mj_E 100 21 ls st σ τ else mj_E 100 27 ls st σ τ := (mj_ifc i100_18).trans (mj_cdF rfl)
theorem i100_21 : mj_ins 100 21 = some (.aload 0, 22) := by decide +kernel
theorem e100_21 {ls : mj_L} {st : List Value} {σ : mj_S} {τ : mj_T} {v : Nat} : mj_E 100 21 (some (.ref v) :: ls) st σ τ = mj_E 100 22 (some (.ref v) :: ls) (.ref v :: st) σ τ := mj_nx i100_21 rfl
theorem i100_22 : mj_ins 100 22 = some (.iconst (-1), 23) := by decide +kernel
theorem e100_22 {ls : mj_L} {st : List Value} {σ : mj_S} {τ : mj_T} : mj_E 100 22 ls st σ τ = mj_E 100 23 ls (.int ((-1)) :: st) σ τ := mj_nx i100_22 rfl
theorem i100_23 : mj_ins 100 23 = some (.invokevirtual 113, 26) := by decide +kernel
theorem e100_23 {ls : mj_L} {σ : mj_S} {τ : mj_T} {r : Nat} {x0 : Int32} : mj_E 100 23 ls [.int x0, .ref r] σ τ = if mj_rcv r 6 = true then mj_bd (mj_C 113 [.ref r, .int x0] σ τ) (mj_K 100 26 ls []) else none := mj_clV (as := [.int x0]) (r := []) i100_23 (by decide +kernel : mj_vk 100 113 1 0 2 false = true) (by decide +kernel)
theorem i100_26 : mj_ins 100 26 = some (.ireturn, 27) := by decide +kernel
theorem e100_26 {ls : mj_L} {σ : mj_S} {τ : mj_T} {v : Int32} : mj_E 100 26 ls [.int v] σ τ = some (some (.int v), σ, τ) := mj_irt i100_26 rfl
theorem i100_27 : mj_ins 100 27 = some (.aload 3, 28) := by decide +kernel
theorem e100_27 {ls : mj_L} {st : List Value} {σ : mj_S} {τ : mj_T} {a0 a1 a2 : Option Value} {v : Nat} : mj_E 100 27 (a0 :: a1 :: a2 :: some (.ref v) :: ls) st σ τ = mj_E 100 28 (a0 :: a1 :: a2 :: some (.ref v) :: ls) (.ref v :: st) σ τ := mj_nx i100_27 rfl
theorem e100_27n {ls : mj_L} {st : List Value} {σ : mj_S} {τ : mj_T} {a0 a1 a2 : Option Value} : mj_E 100 27 (a0 :: a1 :: a2 :: some .null :: ls) st σ τ = mj_E 100 28 (a0 :: a1 :: a2 :: some .null :: ls) (.null :: st) σ τ := mj_nx i100_27 rfl
theorem i100_28 : mj_ins 100 28 = some (.invokestatic 115, 31) := by decide +kernel
theorem e100_28 {ls : mj_L} {σ : mj_S} {τ : mj_T} {x0 : Nat} : mj_E 100 28 ls [.ref x0] σ τ = mj_bd (mj_C 115 [.ref x0] σ τ) (mj_K 100 31 ls []) := mj_clS (as := [.ref x0]) (r := []) i100_28 (by decide +kernel : mj_vk 100 115 1 0 1 false = true) rfl
theorem e100_28n {ls : mj_L} {σ : mj_S} {τ : mj_T} : mj_E 100 28 ls [.null] σ τ = mj_bd (mj_C 115 [.null] σ τ) (mj_K 100 31 ls []) := mj_clS (as := [.null]) (r := []) i100_28 (by decide +kernel : mj_vk 100 115 1 0 1 false = true) rfl
theorem i100_31 : mj_ins 100 31 = some (.istore 4, 33) := by decide +kernel
theorem e100_31 {ls : mj_L} {st : List Value} {σ : mj_S} {τ : mj_T} {a0 a1 a2 a3 a4 : Option Value} {v : Int32} : mj_E 100 31 (a0 :: a1 :: a2 :: a3 :: a4 :: ls) (.int v :: st) σ τ = mj_E 100 33 (a0 :: a1 :: a2 :: a3 :: some (.int v) :: ls) st σ τ := mj_nx i100_31 rfl
theorem i100_33 : mj_ins 100 33 = some (.iload 4, 35) := by decide +kernel
theorem e100_33 {ls : mj_L} {st : List Value} {σ : mj_S} {τ : mj_T} {a0 a1 a2 a3 : Option Value} {v : Int32} : mj_E 100 33 (a0 :: a1 :: a2 :: a3 :: some (.int v) :: ls) st σ τ = mj_E 100 35 (a0 :: a1 :: a2 :: a3 :: some (.int v) :: ls) (.int v :: st) σ τ := mj_nx i100_33 rfl
theorem i100_35 : mj_ins 100 35 = some (.ifCond .eq 45, 38) := by decide +kernel
theorem e100_35 {ls : mj_L} {st : List Value} {σ : mj_S} {τ : mj_T} {x : Int32} : mj_E 100 35 ls (.int x :: st) σ τ = if x = 0 then mj_E 100 45 ls st σ τ else mj_E 100 38 ls st σ τ := (mj_ifc i100_35).trans (mj_cdT rfl)
theorem i100_38 : mj_ins 100 38 = some (.aload 0, 39) := by decide +kernel
theorem e100_38 {ls : mj_L} {st : List Value} {σ : mj_S} {τ : mj_T} {v : Nat} : mj_E 100 38 (some (.ref v) :: ls) st σ τ = mj_E 100 39 (some (.ref v) :: ls) (.ref v :: st) σ τ := mj_nx i100_38 rfl
theorem i100_39 : mj_ins 100 39 = some (.iload 4, 41) := by decide +kernel
theorem e100_39 {ls : mj_L} {st : List Value} {σ : mj_S} {τ : mj_T} {a0 a1 a2 a3 : Option Value} {v : Int32} : mj_E 100 39 (a0 :: a1 :: a2 :: a3 :: some (.int v) :: ls) st σ τ = mj_E 100 41 (a0 :: a1 :: a2 :: a3 :: some (.int v) :: ls) (.int v :: st) σ τ := mj_nx i100_39 rfl
theorem i100_41 : mj_ins 100 41 = some (.invokevirtual 113, 44) := by decide +kernel
theorem e100_41 {ls : mj_L} {σ : mj_S} {τ : mj_T} {r : Nat} {x0 : Int32} : mj_E 100 41 ls [.int x0, .ref r] σ τ = if mj_rcv r 6 = true then mj_bd (mj_C 113 [.ref r, .int x0] σ τ) (mj_K 100 44 ls []) else none := mj_clV (as := [.int x0]) (r := []) i100_41 (by decide +kernel : mj_vk 100 113 1 0 2 false = true) (by decide +kernel)
theorem i100_44 : mj_ins 100 44 = some (.ireturn, 45) := by decide +kernel
theorem e100_44 {ls : mj_L} {σ : mj_S} {τ : mj_T} {v : Int32} : mj_E 100 44 ls [.int v] σ τ = some (some (.int v), σ, τ) := mj_irt i100_44 rfl
theorem i100_45 : mj_ins 100 45 = some (.aload 3, 46) := by decide +kernel
theorem e100_45 {ls : mj_L} {st : List Value} {σ : mj_S} {τ : mj_T} {a0 a1 a2 : Option Value} {v : Nat} : mj_E 100 45 (a0 :: a1 :: a2 :: some (.ref v) :: ls) st σ τ = mj_E 100 46 (a0 :: a1 :: a2 :: some (.ref v) :: ls) (.ref v :: st) σ τ := mj_nx i100_45 rfl
theorem e100_45n {ls : mj_L} {st : List Value} {σ : mj_S} {τ : mj_T} {a0 a1 a2 : Option Value} : mj_E 100 45 (a0 :: a1 :: a2 :: some .null :: ls) st σ τ = mj_E 100 46 (a0 :: a1 :: a2 :: some .null :: ls) (.null :: st) σ τ := mj_nx i100_45 rfl
theorem i100_46 : mj_ins 100 46 = some (.iconst (0), 47) := by decide +kernel
theorem e100_46 {ls : mj_L} {st : List Value} {σ : mj_S} {τ : mj_T} : mj_E 100 46 ls st σ τ = mj_E 100 47 ls (.int (nI 0) :: st) σ τ := mj_nx i100_46 rfl
theorem i100_47 : mj_ins 100 47 = some (.iconst (3), 48) := by decide +kernel
theorem e100_47 {ls : mj_L} {st : List Value} {σ : mj_S} {τ : mj_T} : mj_E 100 47 ls st σ τ = mj_E 100 48 ls (.int (nI 3) :: st) σ τ := mj_nx i100_47 rfl
theorem i100_48 : mj_ins 100 48 = some (.invokevirtual 64, 51) := by decide +kernel
theorem e100_48 {ls : mj_L} {σ : mj_S} {τ : mj_T} {r : Nat} {x0 : Int32} {x1 : Int32} : mj_E 100 48 ls [.int x1, .int x0, .ref r] σ τ = if mj_rcv r 4 = true then mj_bd (mj_C 64 [.ref r, .int x0, .int x1] σ τ) (mj_K 100 51 ls []) else none := mj_clV (as := [.int x0, .int x1]) (r := []) i100_48 (by decide +kernel : mj_vk 100 64 2 0 3 false = true) (by decide +kernel)
theorem i100_51 : mj_ins 100 51 = some (.ifCond .ne 61, 54) := by decide +kernel
theorem e100_51 {ls : mj_L} {st : List Value} {σ : mj_S} {τ : mj_T} {x : Int32} : mj_E 100 51 ls (.int x :: st) σ τ = if x = 0 then mj_E 100 54 ls st σ τ else mj_E 100 61 ls st σ τ := (mj_ifc i100_51).trans (mj_cdF rfl)
theorem i100_54 : mj_ins 100 54 = some (.aload 0, 55) := by decide +kernel
theorem e100_54 {ls : mj_L} {st : List Value} {σ : mj_S} {τ : mj_T} {v : Nat} : mj_E 100 54 (some (.ref v) :: ls) st σ τ = mj_E 100 55 (some (.ref v) :: ls) (.ref v :: st) σ τ := mj_nx i100_54 rfl
theorem i100_55 : mj_ins 100 55 = some (.iconst (-5), 57) := by decide +kernel
theorem e100_55 {ls : mj_L} {st : List Value} {σ : mj_S} {τ : mj_T} : mj_E 100 55 ls st σ τ = mj_E 100 57 ls (.int ((-5)) :: st) σ τ := mj_nx i100_55 rfl
theorem i100_57 : mj_ins 100 57 = some (.invokevirtual 113, 60) := by decide +kernel
theorem e100_57 {ls : mj_L} {σ : mj_S} {τ : mj_T} {r : Nat} {x0 : Int32} : mj_E 100 57 ls [.int x0, .ref r] σ τ = if mj_rcv r 6 = true then mj_bd (mj_C 113 [.ref r, .int x0] σ τ) (mj_K 100 60 ls []) else none := mj_clV (as := [.int x0]) (r := []) i100_57 (by decide +kernel : mj_vk 100 113 1 0 2 false = true) (by decide +kernel)
theorem i100_60 : mj_ins 100 60 = some (.ireturn, 61) := by decide +kernel
theorem e100_60 {ls : mj_L} {σ : mj_S} {τ : mj_T} {v : Int32} : mj_E 100 60 ls [.int v] σ τ = some (some (.int v), σ, τ) := mj_irt i100_60 rfl
theorem i100_61 : mj_ins 100 61 = some (.aload 0, 62) := by decide +kernel
theorem e100_61 {ls : mj_L} {st : List Value} {σ : mj_S} {τ : mj_T} {v : Nat} : mj_E 100 61 (some (.ref v) :: ls) st σ τ = mj_E 100 62 (some (.ref v) :: ls) (.ref v :: st) σ τ := mj_nx i100_61 rfl
theorem i100_62 : mj_ins 100 62 = some (.getfield 600, 65) := by decide +kernel
theorem e100_62 {ls : mj_L} {st : List Value} {σ : mj_S} {τ : mj_T} : mj_E 100 62 ls (.ref 0 :: st) σ τ = mj_E 100 65 ls (.ref 1 :: st) σ τ := mj_nx i100_62 rfl
theorem i100_65 : mj_ins 100 65 = some (.iload 2, 66) := by decide +kernel
theorem e100_65 {ls : mj_L} {st : List Value} {σ : mj_S} {τ : mj_T} {a0 a1 : Option Value} {v : Int32} : mj_E 100 65 (a0 :: a1 :: some (.int v) :: ls) st σ τ = mj_E 100 66 (a0 :: a1 :: some (.int v) :: ls) (.int v :: st) σ τ := mj_nx i100_65 rfl
theorem i100_66 : mj_ins 100 66 = some (.invokevirtual 25, 69) := by decide +kernel
theorem e100_66 {ls : mj_L} {σ : mj_S} {τ : mj_T} {r : Nat} {x0 : Int32} : mj_E 100 66 ls [.int x0, .ref r] σ τ = if mj_rcv r 1 = true then mj_bd (mj_C 25 [.ref r, .int x0] σ τ) (mj_K 100 69 ls []) else none := mj_clV (as := [.int x0]) (r := []) i100_66 (by decide +kernel : mj_vk 100 25 1 0 2 false = true) (by decide +kernel)
theorem i100_69 : mj_ins 100 69 = some (.astore 5, 71) := by decide +kernel
theorem e100_69 {ls : mj_L} {st : List Value} {σ : mj_S} {τ : mj_T} {a0 a1 a2 a3 a4 a5 : Option Value} {v : Nat} : mj_E 100 69 (a0 :: a1 :: a2 :: a3 :: a4 :: a5 :: ls) (.ref v :: st) σ τ = mj_E 100 71 (a0 :: a1 :: a2 :: a3 :: a4 :: some (.ref v) :: ls) st σ τ := mj_nx i100_69 rfl
theorem e100_69n {ls : mj_L} {st : List Value} {σ : mj_S} {τ : mj_T} {a0 a1 a2 a3 a4 a5 : Option Value} : mj_E 100 69 (a0 :: a1 :: a2 :: a3 :: a4 :: a5 :: ls) (.null :: st) σ τ = mj_E 100 71 (a0 :: a1 :: a2 :: a3 :: a4 :: some .null :: ls) st σ τ := mj_nx i100_69 rfl
theorem i100_71 : mj_ins 100 71 = some (.iconst (0), 72) := by decide +kernel
theorem e100_71 {ls : mj_L} {st : List Value} {σ : mj_S} {τ : mj_T} : mj_E 100 71 ls st σ τ = mj_E 100 72 ls (.int (nI 0) :: st) σ τ := mj_nx i100_71 rfl
theorem i100_72 : mj_ins 100 72 = some (.istore 6, 74) := by decide +kernel
theorem e100_72 {ls : mj_L} {st : List Value} {σ : mj_S} {τ : mj_T} {a0 a1 a2 a3 a4 a5 a6 : Option Value} {v : Int32} : mj_E 100 72 (a0 :: a1 :: a2 :: a3 :: a4 :: a5 :: a6 :: ls) (.int v :: st) σ τ = mj_E 100 74 (a0 :: a1 :: a2 :: a3 :: a4 :: a5 :: some (.int v) :: ls) st σ τ := mj_nx i100_72 rfl
theorem i100_74 : mj_ins 100 74 = some (.iload 6, 76) := by decide +kernel
theorem e100_74 {ls : mj_L} {st : List Value} {σ : mj_S} {τ : mj_T} {a0 a1 a2 a3 a4 a5 : Option Value} {v : Int32} : mj_E 100 74 (a0 :: a1 :: a2 :: a3 :: a4 :: a5 :: some (.int v) :: ls) st σ τ = mj_E 100 76 (a0 :: a1 :: a2 :: a3 :: a4 :: a5 :: some (.int v) :: ls) (.int v :: st) σ τ := mj_nx i100_74 rfl
theorem i100_76 : mj_ins 100 76 = some (.iconst (2), 77) := by decide +kernel
theorem e100_76 {ls : mj_L} {st : List Value} {σ : mj_S} {τ : mj_T} : mj_E 100 76 ls st σ τ = mj_E 100 77 ls (.int (nI 2) :: st) σ τ := mj_nx i100_76 rfl
theorem i100_77 : mj_ins 100 77 = some (.if_icmp .gt 105, 80) := by decide +kernel
theorem e100_77 {ls : mj_L} {st : List Value} {σ : mj_S} {τ : mj_T} {x y : Int32} : mj_E 100 77 ls (.int y :: .int x :: st) σ τ = if y < x then mj_E 100 105 ls st σ τ else mj_E 100 80 ls st σ τ := (mj_ifi i100_77).trans (mj_cdT rfl)
theorem i100_80 : mj_ins 100 80 = some (.aload 3, 81) := by decide +kernel
theorem e100_80 {ls : mj_L} {st : List Value} {σ : mj_S} {τ : mj_T} {a0 a1 a2 : Option Value} {v : Nat} : mj_E 100 80 (a0 :: a1 :: a2 :: some (.ref v) :: ls) st σ τ = mj_E 100 81 (a0 :: a1 :: a2 :: some (.ref v) :: ls) (.ref v :: st) σ τ := mj_nx i100_80 rfl
theorem e100_80n {ls : mj_L} {st : List Value} {σ : mj_S} {τ : mj_T} {a0 a1 a2 : Option Value} : mj_E 100 80 (a0 :: a1 :: a2 :: some .null :: ls) st σ τ = mj_E 100 81 (a0 :: a1 :: a2 :: some .null :: ls) (.null :: st) σ τ := mj_nx i100_80 rfl
theorem i100_81 : mj_ins 100 81 = some (.iload 6, 83) := by decide +kernel
theorem e100_81 {ls : mj_L} {st : List Value} {σ : mj_S} {τ : mj_T} {a0 a1 a2 a3 a4 a5 : Option Value} {v : Int32} : mj_E 100 81 (a0 :: a1 :: a2 :: a3 :: a4 :: a5 :: some (.int v) :: ls) st σ τ = mj_E 100 83 (a0 :: a1 :: a2 :: a3 :: a4 :: a5 :: some (.int v) :: ls) (.int v :: st) σ τ := mj_nx i100_81 rfl
theorem i100_83 : mj_ins 100 83 = some (.invokevirtual 66, 86) := by decide +kernel
theorem e100_83 {ls : mj_L} {σ : mj_S} {τ : mj_T} {r : Nat} {x0 : Int32} : mj_E 100 83 ls [.int x0, .ref r] σ τ = if mj_rcv r 4 = true then mj_bd (mj_C 66 [.ref r, .int x0] σ τ) (mj_K 100 86 ls []) else none := mj_clV (as := [.int x0]) (r := []) i100_83 (by decide +kernel : mj_vk 100 66 1 0 2 false = true) (by decide +kernel)
theorem i100_86 : mj_ins 100 86 = some (.aload 5, 88) := by decide +kernel
theorem e100_86 {ls : mj_L} {st : List Value} {σ : mj_S} {τ : mj_T} {a0 a1 a2 a3 a4 : Option Value} {v : Nat} : mj_E 100 86 (a0 :: a1 :: a2 :: a3 :: a4 :: some (.ref v) :: ls) st σ τ = mj_E 100 88 (a0 :: a1 :: a2 :: a3 :: a4 :: some (.ref v) :: ls) (.ref v :: st) σ τ := mj_nx i100_86 rfl
theorem e100_86n {ls : mj_L} {st : List Value} {σ : mj_S} {τ : mj_T} {a0 a1 a2 a3 a4 : Option Value} : mj_E 100 86 (a0 :: a1 :: a2 :: a3 :: a4 :: some .null :: ls) st σ τ = mj_E 100 88 (a0 :: a1 :: a2 :: a3 :: a4 :: some .null :: ls) (.null :: st) σ τ := mj_nx i100_86 rfl
theorem i100_88 : mj_ins 100 88 = some (.iload 6, 90) := by decide +kernel
theorem e100_88 {ls : mj_L} {st : List Value} {σ : mj_S} {τ : mj_T} {a0 a1 a2 a3 a4 a5 : Option Value} {v : Int32} : mj_E 100 88 (a0 :: a1 :: a2 :: a3 :: a4 :: a5 :: some (.int v) :: ls) st σ τ = mj_E 100 90 (a0 :: a1 :: a2 :: a3 :: a4 :: a5 :: some (.int v) :: ls) (.int v :: st) σ τ := mj_nx i100_88 rfl
theorem i100_90 : mj_ins 100 90 = some (.invokevirtual 2, 93) := by decide +kernel
theorem e100_90 {ls : mj_L} {σ : mj_S} {τ : mj_T} {r : Nat} {x0 : Int32} {w0 : Value} : mj_E 100 90 ls [.int x0, .ref r, w0] σ τ = if mj_rcv r 0 = true then mj_bd (mj_C 2 [.ref r, .int x0] σ τ) (mj_K 100 93 ls [w0]) else none := mj_clV (as := [.int x0]) (r := [w0]) i100_90 (by decide +kernel : mj_vk 100 2 1 1 2 false = true) (by decide +kernel)
theorem i100_93 : mj_ins 100 93 = some (.if_icmp .eq 99, 96) := by decide +kernel
theorem e100_93 {ls : mj_L} {st : List Value} {σ : mj_S} {τ : mj_T} {x y : Int32} : mj_E 100 93 ls (.int y :: .int x :: st) σ τ = if x = y then mj_E 100 99 ls st σ τ else mj_E 100 96 ls st σ τ := (mj_ifi i100_93).trans (mj_cdT rfl)
theorem i100_96 : mj_ins 100 96 = some (.iload 6, 98) := by decide +kernel
theorem e100_96 {ls : mj_L} {st : List Value} {σ : mj_S} {τ : mj_T} {a0 a1 a2 a3 a4 a5 : Option Value} {v : Int32} : mj_E 100 96 (a0 :: a1 :: a2 :: a3 :: a4 :: a5 :: some (.int v) :: ls) st σ τ = mj_E 100 98 (a0 :: a1 :: a2 :: a3 :: a4 :: a5 :: some (.int v) :: ls) (.int v :: st) σ τ := mj_nx i100_96 rfl
theorem i100_98 : mj_ins 100 98 = some (.ireturn, 99) := by decide +kernel
theorem e100_98 {ls : mj_L} {σ : mj_S} {τ : mj_T} {v : Int32} : mj_E 100 98 ls [.int v] σ τ = some (some (.int v), σ, τ) := mj_irt i100_98 rfl
theorem i100_99 : mj_ins 100 99 = some (.iinc 6 (1), 102) := by decide +kernel
theorem e100_99 {ls : mj_L} {st : List Value} {σ : mj_S} {τ : mj_T} {a0 a1 a2 a3 a4 a5 : Option Value} {v : Int32} : mj_E 100 99 (a0 :: a1 :: a2 :: a3 :: a4 :: a5 :: some (.int v) :: ls) st σ τ = mj_E 100 102 (a0 :: a1 :: a2 :: a3 :: a4 :: a5 :: some (.int (v + nI 1)) :: ls) st σ τ := mj_nx i100_99 rfl
theorem i100_102 : mj_ins 100 102 = some (.goto 74, 105) := by decide +kernel
theorem e100_102 {ls : mj_L} {st : List Value} {σ : mj_S} {τ : mj_T} : mj_E 100 102 ls st σ τ = mj_E 100 74 ls st σ τ := mj_nx i100_102 rfl
theorem i100_105 : mj_ins 100 105 = some (.iconst (-1), 106) := by decide +kernel
theorem e100_105 {ls : mj_L} {st : List Value} {σ : mj_S} {τ : mj_T} : mj_E 100 105 ls st σ τ = mj_E 100 106 ls (.int ((-1)) :: st) σ τ := mj_nx i100_105 rfl
theorem i100_106 : mj_ins 100 106 = some (.ireturn, 107) := by decide +kernel
theorem e100_106 {ls : mj_L} {σ : mj_S} {τ : mj_T} {v : Int32} : mj_E 100 106 ls [.int v] σ τ = some (some (.int v), σ, τ) := mj_irt i100_106 rfl
theorem c101 {σ : mj_S} {τ : mj_T} {r : Nat} {x0 : Int32} : mj_C 101 [.ref r, .int x0] σ τ = mj_E 101 0 [some (.ref r), some (.int x0), none] [] σ τ := rfl
theorem i101_0 : mj_ins 101 0 = some (.aload 0, 1) := by decide +kernel
theorem e101_0 {ls : mj_L} {st : List Value} {σ : mj_S} {τ : mj_T} {v : Nat} : mj_E 101 0 (some (.ref v) :: ls) st σ τ = mj_E 101 1 (some (.ref v) :: ls) (.ref v :: st) σ τ := mj_nx i101_0 rfl
theorem i101_1 : mj_ins 101 1 = some (.getfield 600, 4) := by decide +kernel
theorem e101_1 {ls : mj_L} {st : List Value} {σ : mj_S} {τ : mj_T} : mj_E 101 1 ls (.ref 0 :: st) σ τ = mj_E 101 4 ls (.ref 1 :: st) σ τ := mj_nx i101_1 rfl
theorem i101_4 : mj_ins 101 4 = some (.iload 1, 5) := by decide +kernel
theorem e101_4 {ls : mj_L} {st : List Value} {σ : mj_S} {τ : mj_T} {a0 : Option Value} {v : Int32} : mj_E 101 4 (a0 :: some (.int v) :: ls) st σ τ = mj_E 101 5 (a0 :: some (.int v) :: ls) (.int v :: st) σ τ := mj_nx i101_4 rfl
theorem i101_5 : mj_ins 101 5 = some (.invokevirtual 8, 8) := by decide +kernel
theorem e101_5 {ls : mj_L} {σ : mj_S} {τ : mj_T} {r : Nat} {x0 : Int32} : mj_E 101 5 ls [.int x0, .ref r] σ τ = if mj_rcv r 1 = true then mj_bd (mj_C 8 [.ref r, .int x0] σ τ) (mj_K 101 8 ls []) else none := mj_clV (as := [.int x0]) (r := []) i101_5 (by decide +kernel : mj_vk 101 8 1 0 2 false = true) (by decide +kernel)
theorem i101_8 : mj_ins 101 8 = some (.ifCond .ne 17, 11) := by decide +kernel
theorem e101_8 {ls : mj_L} {st : List Value} {σ : mj_S} {τ : mj_T} {x : Int32} : mj_E 101 8 ls (.int x :: st) σ τ = if x = 0 then mj_E 101 11 ls st σ τ else mj_E 101 17 ls st σ τ := (mj_ifc i101_8).trans (mj_cdF rfl)
theorem i101_11 : mj_ins 101 11 = some (.aload 0, 12) := by decide +kernel
theorem e101_11 {ls : mj_L} {st : List Value} {σ : mj_S} {τ : mj_T} {v : Nat} : mj_E 101 11 (some (.ref v) :: ls) st σ τ = mj_E 101 12 (some (.ref v) :: ls) (.ref v :: st) σ τ := mj_nx i101_11 rfl
theorem i101_12 : mj_ins 101 12 = some (.iconst (-1), 13) := by decide +kernel
theorem e101_12 {ls : mj_L} {st : List Value} {σ : mj_S} {τ : mj_T} : mj_E 101 12 ls st σ τ = mj_E 101 13 ls (.int ((-1)) :: st) σ τ := mj_nx i101_12 rfl
theorem i101_13 : mj_ins 101 13 = some (.invokevirtual 113, 16) := by decide +kernel
theorem e101_13 {ls : mj_L} {σ : mj_S} {τ : mj_T} {r : Nat} {x0 : Int32} : mj_E 101 13 ls [.int x0, .ref r] σ τ = if mj_rcv r 6 = true then mj_bd (mj_C 113 [.ref r, .int x0] σ τ) (mj_K 101 16 ls []) else none := mj_clV (as := [.int x0]) (r := []) i101_13 (by decide +kernel : mj_vk 101 113 1 0 2 false = true) (by decide +kernel)
theorem i101_16 : mj_ins 101 16 = some (.ireturn, 17) := by decide +kernel
theorem e101_16 {ls : mj_L} {σ : mj_S} {τ : mj_T} {v : Int32} : mj_E 101 16 ls [.int v] σ τ = some (some (.int v), σ, τ) := mj_irt i101_16 rfl
theorem i101_17 : mj_ins 101 17 = some (.iconst (9), 19) := by decide +kernel
theorem e101_17 {ls : mj_L} {st : List Value} {σ : mj_S} {τ : mj_T} : mj_E 101 17 ls st σ τ = mj_E 101 19 ls (.int (nI 9) :: st) σ τ := mj_nx i101_17 rfl
theorem i101_19 : mj_ins 101 19 = some (.aload 0, 20) := by decide +kernel
theorem e101_19 {ls : mj_L} {st : List Value} {σ : mj_S} {τ : mj_T} {v : Nat} : mj_E 101 19 (some (.ref v) :: ls) st σ τ = mj_E 101 20 (some (.ref v) :: ls) (.ref v :: st) σ τ := mj_nx i101_19 rfl
theorem i101_20 : mj_ins 101 20 = some (.getfield 600, 23) := by decide +kernel
theorem e101_20 {ls : mj_L} {st : List Value} {σ : mj_S} {τ : mj_T} : mj_E 101 20 ls (.ref 0 :: st) σ τ = mj_E 101 23 ls (.ref 1 :: st) σ τ := mj_nx i101_20 rfl
theorem i101_23 : mj_ins 101 23 = some (.getfield 112, 26) := by decide +kernel
theorem e101_23 {ls : mj_L} {st : List Value} {σ : mj_S} {τ : mj_T} {k : Nat} (h1 : 1 ≤ k) (h2 : k ≤ 3) : mj_E 101 23 ls (.ref k :: st) σ τ = mj_E 101 26 ls (.ref (10 * k + 7) :: st) σ τ := (mj_gf i101_23).trans (congrArg (fun z => mj_ov z _) (fv1_12 h1 h2))
theorem i101_26 : mj_ins 101 26 = some (.iload 1, 27) := by decide +kernel
theorem e101_26 {ls : mj_L} {st : List Value} {σ : mj_S} {τ : mj_T} {a0 : Option Value} {v : Int32} : mj_E 101 26 (a0 :: some (.int v) :: ls) st σ τ = mj_E 101 27 (a0 :: some (.int v) :: ls) (.int v :: st) σ τ := mj_nx i101_26 rfl
theorem i101_27 : mj_ins 101 27 = some (.iaload, 28) := by decide +kernel
theorem e101_27 {ls : mj_L} {st : List Value} {σ : mj_S} {τ : mj_T} {x : Int32} {k : Nat} : mj_E 101 27 ls (.int x :: .ref k :: st) σ τ = if mj_ib (mj_li σ k) x = true then mj_E 101 28 ls (.int (σ k x.toNatClampNeg) :: st) σ τ else none := mj_ald i101_27
theorem i101_28 : mj_ins 101 28 = some (.isub, 29) := by decide +kernel
theorem e101_28 {ls : mj_L} {st : List Value} {σ : mj_S} {τ : mj_T} {x y : Int32} : mj_E 101 28 ls (.int y :: .int x :: st) σ τ = mj_E 101 29 ls (.int (x - y) :: st) σ τ := mj_nx i101_28 rfl
theorem i101_29 : mj_ins 101 29 = some (.istore 2, 30) := by decide +kernel
theorem e101_29 {ls : mj_L} {st : List Value} {σ : mj_S} {τ : mj_T} {a0 a1 a2 : Option Value} {v : Int32} : mj_E 101 29 (a0 :: a1 :: a2 :: ls) (.int v :: st) σ τ = mj_E 101 30 (a0 :: a1 :: some (.int v) :: ls) st σ τ := mj_nx i101_29 rfl
theorem i101_30 : mj_ins 101 30 = some (.iload 2, 31) := by decide +kernel
theorem e101_30 {ls : mj_L} {st : List Value} {σ : mj_S} {τ : mj_T} {a0 a1 : Option Value} {v : Int32} : mj_E 101 30 (a0 :: a1 :: some (.int v) :: ls) st σ τ = mj_E 101 31 (a0 :: a1 :: some (.int v) :: ls) (.int v :: st) σ τ := mj_nx i101_30 rfl
theorem i101_31 : mj_ins 101 31 = some (.ifCond .le 38, 34) := by decide +kernel
theorem e101_31 {ls : mj_L} {st : List Value} {σ : mj_S} {τ : mj_T} {x : Int32} : mj_E 101 31 ls (.int x :: st) σ τ = if x ≤ 0 then mj_E 101 38 ls st σ τ else mj_E 101 34 ls st σ τ := (mj_ifc i101_31).trans (mj_cdT rfl)
theorem i101_34 : mj_ins 101 34 = some (.iload 2, 35) := by decide +kernel
theorem e101_34 {ls : mj_L} {st : List Value} {σ : mj_S} {τ : mj_T} {a0 a1 : Option Value} {v : Int32} : mj_E 101 34 (a0 :: a1 :: some (.int v) :: ls) st σ τ = mj_E 101 35 (a0 :: a1 :: some (.int v) :: ls) (.int v :: st) σ τ := mj_nx i101_34 rfl
theorem i101_35 : mj_ins 101 35 = some (.goto 39, 38) := by decide +kernel
theorem e101_35 {ls : mj_L} {st : List Value} {σ : mj_S} {τ : mj_T} : mj_E 101 35 ls st σ τ = mj_E 101 39 ls st σ τ := mj_nx i101_35 rfl
theorem i101_38 : mj_ins 101 38 = some (.iconst (-1), 39) := by decide +kernel
theorem e101_38 {ls : mj_L} {st : List Value} {σ : mj_S} {τ : mj_T} : mj_E 101 38 ls st σ τ = mj_E 101 39 ls (.int ((-1)) :: st) σ τ := mj_nx i101_38 rfl
theorem i101_39 : mj_ins 101 39 = some (.ireturn, 40) := by decide +kernel
theorem e101_39 {ls : mj_L} {σ : mj_S} {τ : mj_T} {v : Int32} : mj_E 101 39 ls [.int v] σ τ = some (some (.int v), σ, τ) := mj_irt i101_39 rfl
theorem c102 {σ : mj_S} {τ : mj_T} {r : Nat} {x0 : Int32} : mj_C 102 [.ref r, .int x0] σ τ = mj_E 102 0 [some (.ref r), some (.int x0), none] [] σ τ := rfl
theorem i102_0 : mj_ins 102 0 = some (.aload 0, 1) := by decide +kernel
theorem e102_0 {ls : mj_L} {st : List Value} {σ : mj_S} {τ : mj_T} {v : Nat} : mj_E 102 0 (some (.ref v) :: ls) st σ τ = mj_E 102 1 (some (.ref v) :: ls) (.ref v :: st) σ τ := mj_nx i102_0 rfl
theorem i102_1 : mj_ins 102 1 = some (.getfield 600, 4) := by decide +kernel
theorem e102_1 {ls : mj_L} {st : List Value} {σ : mj_S} {τ : mj_T} : mj_E 102 1 ls (.ref 0 :: st) σ τ = mj_E 102 4 ls (.ref 1 :: st) σ τ := mj_nx i102_1 rfl
theorem i102_4 : mj_ins 102 4 = some (.iload 1, 5) := by decide +kernel
theorem e102_4 {ls : mj_L} {st : List Value} {σ : mj_S} {τ : mj_T} {a0 : Option Value} {v : Int32} : mj_E 102 4 (a0 :: some (.int v) :: ls) st σ τ = mj_E 102 5 (a0 :: some (.int v) :: ls) (.int v :: st) σ τ := mj_nx i102_4 rfl
theorem i102_5 : mj_ins 102 5 = some (.invokevirtual 8, 8) := by decide +kernel
theorem e102_5 {ls : mj_L} {σ : mj_S} {τ : mj_T} {r : Nat} {x0 : Int32} : mj_E 102 5 ls [.int x0, .ref r] σ τ = if mj_rcv r 1 = true then mj_bd (mj_C 8 [.ref r, .int x0] σ τ) (mj_K 102 8 ls []) else none := mj_clV (as := [.int x0]) (r := []) i102_5 (by decide +kernel : mj_vk 102 8 1 0 2 false = true) (by decide +kernel)
theorem i102_8 : mj_ins 102 8 = some (.ifCond .ne 17, 11) := by decide +kernel
theorem e102_8 {ls : mj_L} {st : List Value} {σ : mj_S} {τ : mj_T} {x : Int32} : mj_E 102 8 ls (.int x :: st) σ τ = if x = 0 then mj_E 102 11 ls st σ τ else mj_E 102 17 ls st σ τ := (mj_ifc i102_8).trans (mj_cdF rfl)
theorem i102_11 : mj_ins 102 11 = some (.aload 0, 12) := by decide +kernel
theorem e102_11 {ls : mj_L} {st : List Value} {σ : mj_S} {τ : mj_T} {v : Nat} : mj_E 102 11 (some (.ref v) :: ls) st σ τ = mj_E 102 12 (some (.ref v) :: ls) (.ref v :: st) σ τ := mj_nx i102_11 rfl
theorem i102_12 : mj_ins 102 12 = some (.iconst (-1), 13) := by decide +kernel
theorem e102_12 {ls : mj_L} {st : List Value} {σ : mj_S} {τ : mj_T} : mj_E 102 12 ls st σ τ = mj_E 102 13 ls (.int ((-1)) :: st) σ τ := mj_nx i102_12 rfl
theorem i102_13 : mj_ins 102 13 = some (.invokevirtual 112, 16) := by decide +kernel
theorem e102_13 {ls : mj_L} {σ : mj_S} {τ : mj_T} {r : Nat} {x0 : Int32} : mj_E 102 13 ls [.int x0, .ref r] σ τ = if mj_rcv r 6 = true then mj_bd (mj_C 112 [.ref r, .int x0] σ τ) (mj_K 102 16 ls []) else none := mj_clV (as := [.int x0]) (r := []) i102_13 (by decide +kernel : mj_vk 102 112 1 0 2 false = true) (by decide +kernel)
theorem i102_16 : mj_ins 102 16 = some (.ireturn, 17) := by decide +kernel
theorem e102_16 {ls : mj_L} {σ : mj_S} {τ : mj_T} {v : Int32} : mj_E 102 16 ls [.int v] σ τ = some (some (.int v), σ, τ) := mj_irt i102_16 rfl
theorem i102_17 : mj_ins 102 17 = some (.aload 0, 18) := by decide +kernel
theorem e102_17 {ls : mj_L} {st : List Value} {σ : mj_S} {τ : mj_T} {v : Nat} : mj_E 102 17 (some (.ref v) :: ls) st σ τ = mj_E 102 18 (some (.ref v) :: ls) (.ref v :: st) σ τ := mj_nx i102_17 rfl
theorem i102_18 : mj_ins 102 18 = some (.getfield 600, 21) := by decide +kernel
theorem e102_18 {ls : mj_L} {st : List Value} {σ : mj_S} {τ : mj_T} : mj_E 102 18 ls (.ref 0 :: st) σ τ = mj_E 102 21 ls (.ref 1 :: st) σ τ := mj_nx i102_18 rfl
theorem i102_21 : mj_ins 102 21 = some (.iload 1, 22) := by decide +kernel
theorem e102_21 {ls : mj_L} {st : List Value} {σ : mj_S} {τ : mj_T} {a0 : Option Value} {v : Int32} : mj_E 102 21 (a0 :: some (.int v) :: ls) st σ τ = mj_E 102 22 (a0 :: some (.int v) :: ls) (.int v :: st) σ τ := mj_nx i102_21 rfl
theorem i102_22 : mj_ins 102 22 = some (.invokevirtual 31, 25) := by decide +kernel
theorem e102_22 {ls : mj_L} {σ : mj_S} {τ : mj_T} {r : Nat} {x0 : Int32} : mj_E 102 22 ls [.int x0, .ref r] σ τ = if mj_rcv r 1 = true then mj_bd (mj_C 31 [.ref r, .int x0] σ τ) (mj_K 102 25 ls []) else none := mj_clV (as := [.int x0]) (r := []) i102_22 (by decide +kernel : mj_vk 102 31 1 0 2 false = true) (by decide +kernel)
theorem i102_25 : mj_ins 102 25 = some (.istore 2, 26) := by decide +kernel
theorem e102_25 {ls : mj_L} {st : List Value} {σ : mj_S} {τ : mj_T} {a0 a1 a2 : Option Value} {v : Int32} : mj_E 102 25 (a0 :: a1 :: a2 :: ls) (.int v :: st) σ τ = mj_E 102 26 (a0 :: a1 :: some (.int v) :: ls) st σ τ := mj_nx i102_25 rfl
theorem i102_26 : mj_ins 102 26 = some (.iload 2, 27) := by decide +kernel
theorem e102_26 {ls : mj_L} {st : List Value} {σ : mj_S} {τ : mj_T} {a0 a1 : Option Value} {v : Int32} : mj_E 102 26 (a0 :: a1 :: some (.int v) :: ls) st σ τ = mj_E 102 27 (a0 :: a1 :: some (.int v) :: ls) (.int v :: st) σ τ := mj_nx i102_26 rfl
theorem i102_27 : mj_ins 102 27 = some (.iconst (-1), 28) := by decide +kernel
theorem e102_27 {ls : mj_L} {st : List Value} {σ : mj_S} {τ : mj_T} : mj_E 102 27 ls st σ τ = mj_E 102 28 ls (.int ((-1)) :: st) σ τ := mj_nx i102_27 rfl
theorem i102_28 : mj_ins 102 28 = some (.if_icmp .ne 40, 31) := by decide +kernel
theorem e102_28 {ls : mj_L} {st : List Value} {σ : mj_S} {τ : mj_T} {x y : Int32} : mj_E 102 28 ls (.int y :: .int x :: st) σ τ = if x = y then mj_E 102 31 ls st σ τ else mj_E 102 40 ls st σ τ := (mj_ifi i102_28).trans (mj_cdF rfl)
theorem i102_31 : mj_ins 102 31 = some (.aload 0, 32) := by decide +kernel
theorem e102_31 {ls : mj_L} {st : List Value} {σ : mj_S} {τ : mj_T} {v : Nat} : mj_E 102 31 (some (.ref v) :: ls) st σ τ = mj_E 102 32 (some (.ref v) :: ls) (.ref v :: st) σ τ := mj_nx i102_31 rfl
theorem i102_32 : mj_ins 102 32 = some (.iconst (-6), 34) := by decide +kernel
theorem e102_32 {ls : mj_L} {st : List Value} {σ : mj_S} {τ : mj_T} : mj_E 102 32 ls st σ τ = mj_E 102 34 ls (.int ((-6)) :: st) σ τ := mj_nx i102_32 rfl
theorem i102_34 : mj_ins 102 34 = some (.invokevirtual 112, 37) := by decide +kernel
theorem e102_34 {ls : mj_L} {σ : mj_S} {τ : mj_T} {r : Nat} {x0 : Int32} : mj_E 102 34 ls [.int x0, .ref r] σ τ = if mj_rcv r 6 = true then mj_bd (mj_C 112 [.ref r, .int x0] σ τ) (mj_K 102 37 ls []) else none := mj_clV (as := [.int x0]) (r := []) i102_34 (by decide +kernel : mj_vk 102 112 1 0 2 false = true) (by decide +kernel)
theorem i102_37 : mj_ins 102 37 = some (.goto 41, 40) := by decide +kernel
theorem e102_37 {ls : mj_L} {st : List Value} {σ : mj_S} {τ : mj_T} : mj_E 102 37 ls st σ τ = mj_E 102 41 ls st σ τ := mj_nx i102_37 rfl
theorem i102_40 : mj_ins 102 40 = some (.iload 2, 41) := by decide +kernel
theorem e102_40 {ls : mj_L} {st : List Value} {σ : mj_S} {τ : mj_T} {a0 a1 : Option Value} {v : Int32} : mj_E 102 40 (a0 :: a1 :: some (.int v) :: ls) st σ τ = mj_E 102 41 (a0 :: a1 :: some (.int v) :: ls) (.int v :: st) σ τ := mj_nx i102_40 rfl
theorem i102_41 : mj_ins 102 41 = some (.ireturn, 42) := by decide +kernel
theorem e102_41 {ls : mj_L} {σ : mj_S} {τ : mj_T} {v : Int32} : mj_E 102 41 ls [.int v] σ τ = some (some (.int v), σ, τ) := mj_irt i102_41 rfl
theorem c103 {σ : mj_S} {τ : mj_T} {r : Nat} {x0 : Int32} : mj_C 103 [.ref r, .int x0] σ τ = mj_E 103 0 [some (.ref r), some (.int x0), none] [] σ τ := rfl
theorem i103_0 : mj_ins 103 0 = some (.iload 1, 1) := by decide +kernel
theorem e103_0 {ls : mj_L} {st : List Value} {σ : mj_S} {τ : mj_T} {a0 : Option Value} {v : Int32} : mj_E 103 0 (a0 :: some (.int v) :: ls) st σ τ = mj_E 103 1 (a0 :: some (.int v) :: ls) (.int v :: st) σ τ := mj_nx i103_0 rfl
theorem i103_1 : mj_ins 103 1 = some (.iconst (1), 2) := by decide +kernel
theorem e103_1 {ls : mj_L} {st : List Value} {σ : mj_S} {τ : mj_T} : mj_E 103 1 ls st σ τ = mj_E 103 2 ls (.int (nI 1) :: st) σ τ := mj_nx i103_1 rfl
theorem i103_2 : mj_ins 103 2 = some (.if_icmp .lt 11, 5) := by decide +kernel
theorem e103_2 {ls : mj_L} {st : List Value} {σ : mj_S} {τ : mj_T} {x y : Int32} : mj_E 103 2 ls (.int y :: .int x :: st) σ τ = if x < y then mj_E 103 11 ls st σ τ else mj_E 103 5 ls st σ τ := (mj_ifi i103_2).trans (mj_cdT rfl)
theorem i103_5 : mj_ins 103 5 = some (.iload 1, 6) := by decide +kernel
theorem e103_5 {ls : mj_L} {st : List Value} {σ : mj_S} {τ : mj_T} {a0 : Option Value} {v : Int32} : mj_E 103 5 (a0 :: some (.int v) :: ls) st σ τ = mj_E 103 6 (a0 :: some (.int v) :: ls) (.int v :: st) σ τ := mj_nx i103_5 rfl
theorem i103_6 : mj_ins 103 6 = some (.iconst (40), 8) := by decide +kernel
theorem e103_6 {ls : mj_L} {st : List Value} {σ : mj_S} {τ : mj_T} : mj_E 103 6 ls st σ τ = mj_E 103 8 ls (.int (nI 40) :: st) σ τ := mj_nx i103_6 rfl
theorem i103_8 : mj_ins 103 8 = some (.if_icmp .le 18, 11) := by decide +kernel
theorem e103_8 {ls : mj_L} {st : List Value} {σ : mj_S} {τ : mj_T} {x y : Int32} : mj_E 103 8 ls (.int y :: .int x :: st) σ τ = if x ≤ y then mj_E 103 18 ls st σ τ else mj_E 103 11 ls st σ τ := (mj_ifi i103_8).trans (mj_cdT rfl)
theorem i103_11 : mj_ins 103 11 = some (.aload 0, 12) := by decide +kernel
theorem e103_11 {ls : mj_L} {st : List Value} {σ : mj_S} {τ : mj_T} {v : Nat} : mj_E 103 11 (some (.ref v) :: ls) st σ τ = mj_E 103 12 (some (.ref v) :: ls) (.ref v :: st) σ τ := mj_nx i103_11 rfl
theorem i103_12 : mj_ins 103 12 = some (.iconst (-6), 14) := by decide +kernel
theorem e103_12 {ls : mj_L} {st : List Value} {σ : mj_S} {τ : mj_T} : mj_E 103 12 ls st σ τ = mj_E 103 14 ls (.int ((-6)) :: st) σ τ := mj_nx i103_12 rfl
theorem i103_14 : mj_ins 103 14 = some (.invokevirtual 112, 17) := by decide +kernel
theorem e103_14 {ls : mj_L} {σ : mj_S} {τ : mj_T} {r : Nat} {x0 : Int32} : mj_E 103 14 ls [.int x0, .ref r] σ τ = if mj_rcv r 6 = true then mj_bd (mj_C 112 [.ref r, .int x0] σ τ) (mj_K 103 17 ls []) else none := mj_clV (as := [.int x0]) (r := []) i103_14 (by decide +kernel : mj_vk 103 112 1 0 2 false = true) (by decide +kernel)
theorem i103_17 : mj_ins 103 17 = some (.ireturn, 18) := by decide +kernel
theorem e103_17 {ls : mj_L} {σ : mj_S} {τ : mj_T} {v : Int32} : mj_E 103 17 ls [.int v] σ τ = some (some (.int v), σ, τ) := mj_irt i103_17 rfl
theorem i103_18 : mj_ins 103 18 = some (.iconst (0), 19) := by decide +kernel
theorem e103_18 {ls : mj_L} {st : List Value} {σ : mj_S} {τ : mj_T} : mj_E 103 18 ls st σ τ = mj_E 103 19 ls (.int (nI 0) :: st) σ τ := mj_nx i103_18 rfl
theorem i103_19 : mj_ins 103 19 = some (.istore 2, 20) := by decide +kernel
theorem e103_19 {ls : mj_L} {st : List Value} {σ : mj_S} {τ : mj_T} {a0 a1 a2 : Option Value} {v : Int32} : mj_E 103 19 (a0 :: a1 :: a2 :: ls) (.int v :: st) σ τ = mj_E 103 20 (a0 :: a1 :: some (.int v) :: ls) st σ τ := mj_nx i103_19 rfl
theorem i103_20 : mj_ins 103 20 = some (.iload 2, 21) := by decide +kernel
theorem e103_20 {ls : mj_L} {st : List Value} {σ : mj_S} {τ : mj_T} {a0 a1 : Option Value} {v : Int32} : mj_E 103 20 (a0 :: a1 :: some (.int v) :: ls) st σ τ = mj_E 103 21 (a0 :: a1 :: some (.int v) :: ls) (.int v :: st) σ τ := mj_nx i103_20 rfl
theorem i103_21 : mj_ins 103 21 = some (.iload 1, 22) := by decide +kernel
theorem e103_21 {ls : mj_L} {st : List Value} {σ : mj_S} {τ : mj_T} {a0 : Option Value} {v : Int32} : mj_E 103 21 (a0 :: some (.int v) :: ls) st σ τ = mj_E 103 22 (a0 :: some (.int v) :: ls) (.int v :: st) σ τ := mj_nx i103_21 rfl
theorem i103_22 : mj_ins 103 22 = some (.if_icmp .ge 38, 25) := by decide +kernel
theorem e103_22 {ls : mj_L} {st : List Value} {σ : mj_S} {τ : mj_T} {x y : Int32} : mj_E 103 22 ls (.int y :: .int x :: st) σ τ = if y ≤ x then mj_E 103 38 ls st σ τ else mj_E 103 25 ls st σ τ := (mj_ifi i103_22).trans (mj_cdT rfl)
theorem i103_25 : mj_ins 103 25 = some (.aload 0, 26) := by decide +kernel
theorem e103_25 {ls : mj_L} {st : List Value} {σ : mj_S} {τ : mj_T} {v : Nat} : mj_E 103 25 (some (.ref v) :: ls) st σ τ = mj_E 103 26 (some (.ref v) :: ls) (.ref v :: st) σ τ := mj_nx i103_25 rfl
theorem i103_26 : mj_ins 103 26 = some (.getfield 600, 29) := by decide +kernel
theorem e103_26 {ls : mj_L} {st : List Value} {σ : mj_S} {τ : mj_T} : mj_E 103 26 ls (.ref 0 :: st) σ τ = mj_E 103 29 ls (.ref 1 :: st) σ τ := mj_nx i103_26 rfl
theorem i103_29 : mj_ins 103 29 = some (.invokevirtual 32, 32) := by decide +kernel
theorem e103_29 {ls : mj_L} {σ : mj_S} {τ : mj_T} {r : Nat} : mj_E 103 29 ls [.ref r] σ τ = if mj_rcv r 1 = true then mj_bd (mj_C 32 [.ref r] σ τ) (mj_K 103 32 ls []) else none := mj_clV (as := []) (r := []) i103_29 (by decide +kernel : mj_vk 103 32 0 0 1 false = true) (by decide +kernel)
theorem i103_32 : mj_ins 103 32 = some (.iinc 2 (1), 35) := by decide +kernel
theorem e103_32 {ls : mj_L} {st : List Value} {σ : mj_S} {τ : mj_T} {a0 a1 : Option Value} {v : Int32} : mj_E 103 32 (a0 :: a1 :: some (.int v) :: ls) st σ τ = mj_E 103 35 (a0 :: a1 :: some (.int (v + nI 1)) :: ls) st σ τ := mj_nx i103_32 rfl
theorem i103_35 : mj_ins 103 35 = some (.goto 20, 38) := by decide +kernel
theorem e103_35 {ls : mj_L} {st : List Value} {σ : mj_S} {τ : mj_T} : mj_E 103 35 ls st σ τ = mj_E 103 20 ls st σ τ := mj_nx i103_35 rfl
theorem i103_38 : mj_ins 103 38 = some (.aload 0, 39) := by decide +kernel
theorem e103_38 {ls : mj_L} {st : List Value} {σ : mj_S} {τ : mj_T} {v : Nat} : mj_E 103 38 (some (.ref v) :: ls) st σ τ = mj_E 103 39 (some (.ref v) :: ls) (.ref v :: st) σ τ := mj_nx i103_38 rfl
theorem i103_39 : mj_ins 103 39 = some (.getfield 600, 42) := by decide +kernel
theorem e103_39 {ls : mj_L} {st : List Value} {σ : mj_S} {τ : mj_T} : mj_E 103 39 ls (.ref 0 :: st) σ τ = mj_E 103 42 ls (.ref 1 :: st) σ τ := mj_nx i103_39 rfl
theorem i103_42 : mj_ins 103 42 = some (.getfield 103, 45) := by decide +kernel
theorem e103_42 {ls : mj_L} {st : List Value} {σ : mj_S} {τ : mj_T} {k : Nat} (h1 : 1 ≤ k) (h2 : k ≤ 3) : mj_E 103 42 ls (.ref k :: st) σ τ = mj_E 103 45 ls (.int (σ k 3) :: st) σ τ := (mj_gf i103_42).trans (congrArg (fun z => mj_ov z _) (fv1_3 h1 h2))
theorem i103_45 : mj_ins 103 45 = some (.ireturn, 46) := by decide +kernel
theorem e103_45 {ls : mj_L} {σ : mj_S} {τ : mj_T} {v : Int32} : mj_E 103 45 ls [.int v] σ τ = some (some (.int v), σ, τ) := mj_irt i103_45 rfl
theorem c104 {σ : mj_S} {τ : mj_T} {r : Nat} {x0 : Int32} : mj_C 104 [.ref r, .int x0] σ τ = mj_E 104 0 [some (.ref r), some (.int x0), none] [] σ τ := rfl
theorem i104_0 : mj_ins 104 0 = some (.aload 0, 1) := by decide +kernel
theorem e104_0 {ls : mj_L} {st : List Value} {σ : mj_S} {τ : mj_T} {v : Nat} : mj_E 104 0 (some (.ref v) :: ls) st σ τ = mj_E 104 1 (some (.ref v) :: ls) (.ref v :: st) σ τ := mj_nx i104_0 rfl
theorem i104_1 : mj_ins 104 1 = some (.getfield 600, 4) := by decide +kernel
theorem e104_1 {ls : mj_L} {st : List Value} {σ : mj_S} {τ : mj_T} : mj_E 104 1 ls (.ref 0 :: st) σ τ = mj_E 104 4 ls (.ref 1 :: st) σ τ := mj_nx i104_1 rfl
theorem i104_4 : mj_ins 104 4 = some (.getfield 100, 7) := by decide +kernel
theorem e104_4 {ls : mj_L} {st : List Value} {σ : mj_S} {τ : mj_T} {k : Nat} (h1 : 1 ≤ k) (h2 : k ≤ 3) : mj_E 104 4 ls (.ref k :: st) σ τ = mj_E 104 7 ls (.int (σ k 0) :: st) σ τ := (mj_gf i104_4).trans (congrArg (fun z => mj_ov z _) (fv1_0 h1 h2))
theorem i104_7 : mj_ins 104 7 = some (.ifCond .eq 20, 10) := by decide +kernel
theorem e104_7 {ls : mj_L} {st : List Value} {σ : mj_S} {τ : mj_T} {x : Int32} : mj_E 104 7 ls (.int x :: st) σ τ = if x = 0 then mj_E 104 20 ls st σ τ else mj_E 104 10 ls st σ τ := (mj_ifc i104_7).trans (mj_cdT rfl)
theorem i104_10 : mj_ins 104 10 = some (.aload 0, 11) := by decide +kernel
theorem e104_10 {ls : mj_L} {st : List Value} {σ : mj_S} {τ : mj_T} {v : Nat} : mj_E 104 10 (some (.ref v) :: ls) st σ τ = mj_E 104 11 (some (.ref v) :: ls) (.ref v :: st) σ τ := mj_nx i104_10 rfl
theorem i104_11 : mj_ins 104 11 = some (.getfield 600, 14) := by decide +kernel
theorem e104_11 {ls : mj_L} {st : List Value} {σ : mj_S} {τ : mj_T} : mj_E 104 11 ls (.ref 0 :: st) σ τ = mj_E 104 14 ls (.ref 1 :: st) σ τ := mj_nx i104_11 rfl
theorem i104_14 : mj_ins 104 14 = some (.getfield 101, 17) := by decide +kernel
theorem e104_14 {ls : mj_L} {st : List Value} {σ : mj_S} {τ : mj_T} {k : Nat} (h1 : 1 ≤ k) (h2 : k ≤ 3) : mj_E 104 14 ls (.ref k :: st) σ τ = mj_E 104 17 ls (.int (σ k 1) :: st) σ τ := (mj_gf i104_14).trans (congrArg (fun z => mj_ov z _) (fv1_1 h1 h2))
theorem i104_17 : mj_ins 104 17 = some (.ifCond .ne 27, 20) := by decide +kernel
theorem e104_17 {ls : mj_L} {st : List Value} {σ : mj_S} {τ : mj_T} {x : Int32} : mj_E 104 17 ls (.int x :: st) σ τ = if x = 0 then mj_E 104 20 ls st σ τ else mj_E 104 27 ls st σ τ := (mj_ifc i104_17).trans (mj_cdF rfl)
theorem i104_20 : mj_ins 104 20 = some (.aload 0, 21) := by decide +kernel
theorem e104_20 {ls : mj_L} {st : List Value} {σ : mj_S} {τ : mj_T} {v : Nat} : mj_E 104 20 (some (.ref v) :: ls) st σ τ = mj_E 104 21 (some (.ref v) :: ls) (.ref v :: st) σ τ := mj_nx i104_20 rfl
theorem i104_21 : mj_ins 104 21 = some (.iconst (-5), 23) := by decide +kernel
theorem e104_21 {ls : mj_L} {st : List Value} {σ : mj_S} {τ : mj_T} : mj_E 104 21 ls st σ τ = mj_E 104 23 ls (.int ((-5)) :: st) σ τ := mj_nx i104_21 rfl
theorem i104_23 : mj_ins 104 23 = some (.invokevirtual 112, 26) := by decide +kernel
theorem e104_23 {ls : mj_L} {σ : mj_S} {τ : mj_T} {r : Nat} {x0 : Int32} : mj_E 104 23 ls [.int x0, .ref r] σ τ = if mj_rcv r 6 = true then mj_bd (mj_C 112 [.ref r, .int x0] σ τ) (mj_K 104 26 ls []) else none := mj_clV (as := [.int x0]) (r := []) i104_23 (by decide +kernel : mj_vk 104 112 1 0 2 false = true) (by decide +kernel)
theorem i104_26 : mj_ins 104 26 = some (.ireturn, 27) := by decide +kernel
theorem e104_26 {ls : mj_L} {σ : mj_S} {τ : mj_T} {v : Int32} : mj_E 104 26 ls [.int v] σ τ = some (some (.int v), σ, τ) := mj_irt i104_26 rfl
theorem i104_27 : mj_ins 104 27 = some (.iload 1, 28) := by decide +kernel
theorem e104_27 {ls : mj_L} {st : List Value} {σ : mj_S} {τ : mj_T} {a0 : Option Value} {v : Int32} : mj_E 104 27 (a0 :: some (.int v) :: ls) st σ τ = mj_E 104 28 (a0 :: some (.int v) :: ls) (.int v :: st) σ τ := mj_nx i104_27 rfl
theorem i104_28 : mj_ins 104 28 = some (.iconst (1), 29) := by decide +kernel
theorem e104_28 {ls : mj_L} {st : List Value} {σ : mj_S} {τ : mj_T} : mj_E 104 28 ls st σ τ = mj_E 104 29 ls (.int (nI 1) :: st) σ τ := mj_nx i104_28 rfl
theorem i104_29 : mj_ins 104 29 = some (.if_icmp .lt 38, 32) := by decide +kernel
theorem e104_29 {ls : mj_L} {st : List Value} {σ : mj_S} {τ : mj_T} {x y : Int32} : mj_E 104 29 ls (.int y :: .int x :: st) σ τ = if x < y then mj_E 104 38 ls st σ τ else mj_E 104 32 ls st σ τ := (mj_ifi i104_29).trans (mj_cdT rfl)
theorem i104_32 : mj_ins 104 32 = some (.iload 1, 33) := by decide +kernel
theorem e104_32 {ls : mj_L} {st : List Value} {σ : mj_S} {τ : mj_T} {a0 : Option Value} {v : Int32} : mj_E 104 32 (a0 :: some (.int v) :: ls) st σ τ = mj_E 104 33 (a0 :: some (.int v) :: ls) (.int v :: st) σ τ := mj_nx i104_32 rfl
theorem i104_33 : mj_ins 104 33 = some (.iconst (40), 35) := by decide +kernel
theorem e104_33 {ls : mj_L} {st : List Value} {σ : mj_S} {τ : mj_T} : mj_E 104 33 ls st σ τ = mj_E 104 35 ls (.int (nI 40) :: st) σ τ := mj_nx i104_33 rfl
theorem i104_35 : mj_ins 104 35 = some (.if_icmp .le 45, 38) := by decide +kernel
theorem e104_35 {ls : mj_L} {st : List Value} {σ : mj_S} {τ : mj_T} {x y : Int32} : mj_E 104 35 ls (.int y :: .int x :: st) σ τ = if x ≤ y then mj_E 104 45 ls st σ τ else mj_E 104 38 ls st σ τ := (mj_ifi i104_35).trans (mj_cdT rfl)
theorem i104_38 : mj_ins 104 38 = some (.aload 0, 39) := by decide +kernel
theorem e104_38 {ls : mj_L} {st : List Value} {σ : mj_S} {τ : mj_T} {v : Nat} : mj_E 104 38 (some (.ref v) :: ls) st σ τ = mj_E 104 39 (some (.ref v) :: ls) (.ref v :: st) σ τ := mj_nx i104_38 rfl
theorem i104_39 : mj_ins 104 39 = some (.iconst (-6), 41) := by decide +kernel
theorem e104_39 {ls : mj_L} {st : List Value} {σ : mj_S} {τ : mj_T} : mj_E 104 39 ls st σ τ = mj_E 104 41 ls (.int ((-6)) :: st) σ τ := mj_nx i104_39 rfl
theorem i104_41 : mj_ins 104 41 = some (.invokevirtual 112, 44) := by decide +kernel
theorem e104_41 {ls : mj_L} {σ : mj_S} {τ : mj_T} {r : Nat} {x0 : Int32} : mj_E 104 41 ls [.int x0, .ref r] σ τ = if mj_rcv r 6 = true then mj_bd (mj_C 112 [.ref r, .int x0] σ τ) (mj_K 104 44 ls []) else none := mj_clV (as := [.int x0]) (r := []) i104_41 (by decide +kernel : mj_vk 104 112 1 0 2 false = true) (by decide +kernel)
theorem i104_44 : mj_ins 104 44 = some (.ireturn, 45) := by decide +kernel
theorem e104_44 {ls : mj_L} {σ : mj_S} {τ : mj_T} {v : Int32} : mj_E 104 44 ls [.int v] σ τ = some (some (.int v), σ, τ) := mj_irt i104_44 rfl
theorem i104_45 : mj_ins 104 45 = some (.iconst (0), 46) := by decide +kernel
theorem e104_45 {ls : mj_L} {st : List Value} {σ : mj_S} {τ : mj_T} : mj_E 104 45 ls st σ τ = mj_E 104 46 ls (.int (nI 0) :: st) σ τ := mj_nx i104_45 rfl
theorem i104_46 : mj_ins 104 46 = some (.istore 2, 47) := by decide +kernel
theorem e104_46 {ls : mj_L} {st : List Value} {σ : mj_S} {τ : mj_T} {a0 a1 a2 : Option Value} {v : Int32} : mj_E 104 46 (a0 :: a1 :: a2 :: ls) (.int v :: st) σ τ = mj_E 104 47 (a0 :: a1 :: some (.int v) :: ls) st σ τ := mj_nx i104_46 rfl
theorem i104_47 : mj_ins 104 47 = some (.iload 2, 48) := by decide +kernel
theorem e104_47 {ls : mj_L} {st : List Value} {σ : mj_S} {τ : mj_T} {a0 a1 : Option Value} {v : Int32} : mj_E 104 47 (a0 :: a1 :: some (.int v) :: ls) st σ τ = mj_E 104 48 (a0 :: a1 :: some (.int v) :: ls) (.int v :: st) σ τ := mj_nx i104_47 rfl
theorem i104_48 : mj_ins 104 48 = some (.iload 1, 49) := by decide +kernel
theorem e104_48 {ls : mj_L} {st : List Value} {σ : mj_S} {τ : mj_T} {a0 : Option Value} {v : Int32} : mj_E 104 48 (a0 :: some (.int v) :: ls) st σ τ = mj_E 104 49 (a0 :: some (.int v) :: ls) (.int v :: st) σ τ := mj_nx i104_48 rfl
theorem i104_49 : mj_ins 104 49 = some (.if_icmp .ge 72, 52) := by decide +kernel
theorem e104_49 {ls : mj_L} {st : List Value} {σ : mj_S} {τ : mj_T} {x y : Int32} : mj_E 104 49 ls (.int y :: .int x :: st) σ τ = if y ≤ x then mj_E 104 72 ls st σ τ else mj_E 104 52 ls st σ τ := (mj_ifi i104_49).trans (mj_cdT rfl)
theorem i104_52 : mj_ins 104 52 = some (.aload 0, 53) := by decide +kernel
theorem e104_52 {ls : mj_L} {st : List Value} {σ : mj_S} {τ : mj_T} {v : Nat} : mj_E 104 52 (some (.ref v) :: ls) st σ τ = mj_E 104 53 (some (.ref v) :: ls) (.ref v :: st) σ τ := mj_nx i104_52 rfl
theorem i104_53 : mj_ins 104 53 = some (.getfield 600, 56) := by decide +kernel
theorem e104_53 {ls : mj_L} {st : List Value} {σ : mj_S} {τ : mj_T} : mj_E 104 53 ls (.ref 0 :: st) σ τ = mj_E 104 56 ls (.ref 1 :: st) σ τ := mj_nx i104_53 rfl
theorem i104_56 : mj_ins 104 56 = some (.invokevirtual 34, 59) := by decide +kernel
theorem e104_56 {ls : mj_L} {σ : mj_S} {τ : mj_T} {r : Nat} : mj_E 104 56 ls [.ref r] σ τ = if mj_rcv r 1 = true then mj_bd (mj_C 34 [.ref r] σ τ) (mj_K 104 59 ls []) else none := mj_clV (as := []) (r := []) i104_56 (by decide +kernel : mj_vk 104 34 0 0 1 false = true) (by decide +kernel)
theorem i104_59 : mj_ins 104 59 = some (.aload 0, 60) := by decide +kernel
theorem e104_59 {ls : mj_L} {st : List Value} {σ : mj_S} {τ : mj_T} {v : Nat} : mj_E 104 59 (some (.ref v) :: ls) st σ τ = mj_E 104 60 (some (.ref v) :: ls) (.ref v :: st) σ τ := mj_nx i104_59 rfl
theorem i104_60 : mj_ins 104 60 = some (.getfield 600, 63) := by decide +kernel
theorem e104_60 {ls : mj_L} {st : List Value} {σ : mj_S} {τ : mj_T} : mj_E 104 60 ls (.ref 0 :: st) σ τ = mj_E 104 63 ls (.ref 1 :: st) σ τ := mj_nx i104_60 rfl
theorem i104_63 : mj_ins 104 63 = some (.invokevirtual 32, 66) := by decide +kernel
theorem e104_63 {ls : mj_L} {σ : mj_S} {τ : mj_T} {r : Nat} : mj_E 104 63 ls [.ref r] σ τ = if mj_rcv r 1 = true then mj_bd (mj_C 32 [.ref r] σ τ) (mj_K 104 66 ls []) else none := mj_clV (as := []) (r := []) i104_63 (by decide +kernel : mj_vk 104 32 0 0 1 false = true) (by decide +kernel)
theorem i104_66 : mj_ins 104 66 = some (.iinc 2 (1), 69) := by decide +kernel
theorem e104_66 {ls : mj_L} {st : List Value} {σ : mj_S} {τ : mj_T} {a0 a1 : Option Value} {v : Int32} : mj_E 104 66 (a0 :: a1 :: some (.int v) :: ls) st σ τ = mj_E 104 69 (a0 :: a1 :: some (.int (v + nI 1)) :: ls) st σ τ := mj_nx i104_66 rfl
theorem i104_69 : mj_ins 104 69 = some (.goto 47, 72) := by decide +kernel
theorem e104_69 {ls : mj_L} {st : List Value} {σ : mj_S} {τ : mj_T} : mj_E 104 69 ls st σ τ = mj_E 104 47 ls st σ τ := mj_nx i104_69 rfl
theorem i104_72 : mj_ins 104 72 = some (.aload 0, 73) := by decide +kernel
theorem e104_72 {ls : mj_L} {st : List Value} {σ : mj_S} {τ : mj_T} {v : Nat} : mj_E 104 72 (some (.ref v) :: ls) st σ τ = mj_E 104 73 (some (.ref v) :: ls) (.ref v :: st) σ τ := mj_nx i104_72 rfl
theorem i104_73 : mj_ins 104 73 = some (.getfield 600, 76) := by decide +kernel
theorem e104_73 {ls : mj_L} {st : List Value} {σ : mj_S} {τ : mj_T} : mj_E 104 73 ls (.ref 0 :: st) σ τ = mj_E 104 76 ls (.ref 1 :: st) σ τ := mj_nx i104_73 rfl
theorem i104_76 : mj_ins 104 76 = some (.invokevirtual 36, 79) := by decide +kernel
theorem e104_76 {ls : mj_L} {σ : mj_S} {τ : mj_T} {r : Nat} : mj_E 104 76 ls [.ref r] σ τ = if mj_rcv r 1 = true then mj_bd (mj_C 36 [.ref r] σ τ) (mj_K 104 79 ls []) else none := mj_clV (as := []) (r := []) i104_76 (by decide +kernel : mj_vk 104 36 0 0 1 false = true) (by decide +kernel)
theorem i104_79 : mj_ins 104 79 = some (.ireturn, 80) := by decide +kernel
theorem e104_79 {ls : mj_L} {σ : mj_S} {τ : mj_T} {v : Int32} : mj_E 104 79 ls [.int v] σ τ = some (some (.int v), σ, τ) := mj_irt i104_79 rfl
theorem c105 {σ : mj_S} {τ : mj_T} {r : Nat} {x0 : Int32} : mj_C 105 [.ref r, .int x0] σ τ = mj_E 105 0 [some (.ref r), some (.int x0), none] [] σ τ := rfl
theorem i105_0 : mj_ins 105 0 = some (.aload 0, 1) := by decide +kernel
theorem e105_0 {ls : mj_L} {st : List Value} {σ : mj_S} {τ : mj_T} {v : Nat} : mj_E 105 0 (some (.ref v) :: ls) st σ τ = mj_E 105 1 (some (.ref v) :: ls) (.ref v :: st) σ τ := mj_nx i105_0 rfl
theorem i105_1 : mj_ins 105 1 = some (.getfield 600, 4) := by decide +kernel
theorem e105_1 {ls : mj_L} {st : List Value} {σ : mj_S} {τ : mj_T} : mj_E 105 1 ls (.ref 0 :: st) σ τ = mj_E 105 4 ls (.ref 1 :: st) σ τ := mj_nx i105_1 rfl
theorem i105_4 : mj_ins 105 4 = some (.getfield 104, 7) := by decide +kernel
theorem e105_4 {ls : mj_L} {st : List Value} {σ : mj_S} {τ : mj_T} {k : Nat} (h1 : 1 ≤ k) (h2 : k ≤ 3) : mj_E 105 4 ls (.ref k :: st) σ τ = mj_E 105 7 ls (.int (σ k 4) :: st) σ τ := (mj_gf i105_4).trans (congrArg (fun z => mj_ov z _) (fv1_4 h1 h2))
theorem i105_7 : mj_ins 105 7 = some (.istore 2, 8) := by decide +kernel
theorem e105_7 {ls : mj_L} {st : List Value} {σ : mj_S} {τ : mj_T} {a0 a1 a2 : Option Value} {v : Int32} : mj_E 105 7 (a0 :: a1 :: a2 :: ls) (.int v :: st) σ τ = mj_E 105 8 (a0 :: a1 :: some (.int v) :: ls) st σ τ := mj_nx i105_7 rfl
theorem i105_8 : mj_ins 105 8 = some (.aload 0, 9) := by decide +kernel
theorem e105_8 {ls : mj_L} {st : List Value} {σ : mj_S} {τ : mj_T} {v : Nat} : mj_E 105 8 (some (.ref v) :: ls) st σ τ = mj_E 105 9 (some (.ref v) :: ls) (.ref v :: st) σ τ := mj_nx i105_8 rfl
theorem i105_9 : mj_ins 105 9 = some (.getfield 600, 12) := by decide +kernel
theorem e105_9 {ls : mj_L} {st : List Value} {σ : mj_S} {τ : mj_T} : mj_E 105 9 ls (.ref 0 :: st) σ τ = mj_E 105 12 ls (.ref 1 :: st) σ τ := mj_nx i105_9 rfl
theorem i105_12 : mj_ins 105 12 = some (.iload 1, 13) := by decide +kernel
theorem e105_12 {ls : mj_L} {st : List Value} {σ : mj_S} {τ : mj_T} {a0 : Option Value} {v : Int32} : mj_E 105 12 (a0 :: some (.int v) :: ls) st σ τ = mj_E 105 13 (a0 :: some (.int v) :: ls) (.int v :: st) σ τ := mj_nx i105_12 rfl
theorem i105_13 : mj_ins 105 13 = some (.putfield 104, 16) := by decide +kernel
theorem e105_13 {ls : mj_L} {st : List Value} {σ : mj_S} {τ : mj_T} {k : Nat} (h1 : 1 ≤ k) (h2 : k ≤ 3) {v : Int32} : mj_E 105 13 ls (.int v :: .ref k :: st) σ τ = mj_E 105 16 ls st (mj_up σ k 4 v) τ := (mj_pf i105_13 rfl).trans (if_pos (fw1_4 h1 h2))
theorem i105_16 : mj_ins 105 16 = some (.iload 2, 17) := by decide +kernel
theorem e105_16 {ls : mj_L} {st : List Value} {σ : mj_S} {τ : mj_T} {a0 a1 : Option Value} {v : Int32} : mj_E 105 16 (a0 :: a1 :: some (.int v) :: ls) st σ τ = mj_E 105 17 (a0 :: a1 :: some (.int v) :: ls) (.int v :: st) σ τ := mj_nx i105_16 rfl
theorem i105_17 : mj_ins 105 17 = some (.ireturn, 18) := by decide +kernel
theorem e105_17 {ls : mj_L} {σ : mj_S} {τ : mj_T} {v : Int32} : mj_E 105 17 ls [.int v] σ τ = some (some (.int v), σ, τ) := mj_irt i105_17 rfl
theorem c106 {σ : mj_S} {τ : mj_T} {r : Nat} {x0 : Int32} {x1 : Int32} {x2 : Int32} : mj_C 106 [.ref r, .int x0, .int x1, .int x2] σ τ = mj_E 106 0 [some (.ref r), some (.int x0), some (.int x1), some (.int x2)] [] σ τ := rfl
theorem i106_0 : mj_ins 106 0 = some (.aload 0, 1) := by decide +kernel
theorem e106_0 {ls : mj_L} {st : List Value} {σ : mj_S} {τ : mj_T} {v : Nat} : mj_E 106 0 (some (.ref v) :: ls) st σ τ = mj_E 106 1 (some (.ref v) :: ls) (.ref v :: st) σ τ := mj_nx i106_0 rfl
theorem i106_1 : mj_ins 106 1 = some (.getfield 607, 4) := by decide +kernel
theorem e106_1 {ls : mj_L} {st : List Value} {σ : mj_S} {τ : mj_T} : mj_E 106 1 ls (.ref 0 :: st) σ τ = mj_E 106 4 ls (.ref 59 :: st) σ τ := mj_nx i106_1 rfl
theorem i106_4 : mj_ins 106 4 = some (.invokevirtual 67, 7) := by decide +kernel
theorem e106_4 {ls : mj_L} {σ : mj_S} {τ : mj_T} {r : Nat} : mj_E 106 4 ls [.ref r] σ τ = if mj_rcv r 5 = true then mj_bd (mj_C 67 [.ref r] σ τ) (mj_K 106 7 ls []) else none := mj_clV (as := []) (r := []) i106_4 (by decide +kernel : mj_vk 106 67 0 0 1 false = true) (by decide +kernel)
theorem i106_7 : mj_ins 106 7 = some (.aload 0, 8) := by decide +kernel
theorem e106_7 {ls : mj_L} {st : List Value} {σ : mj_S} {τ : mj_T} {v : Nat} : mj_E 106 7 (some (.ref v) :: ls) st σ τ = mj_E 106 8 (some (.ref v) :: ls) (.ref v :: st) σ τ := mj_nx i106_7 rfl
theorem i106_8 : mj_ins 106 8 = some (.getfield 600, 11) := by decide +kernel
theorem e106_8 {ls : mj_L} {st : List Value} {σ : mj_S} {τ : mj_T} : mj_E 106 8 ls (.ref 0 :: st) σ τ = mj_E 106 11 ls (.ref 1 :: st) σ τ := mj_nx i106_8 rfl
theorem i106_11 : mj_ins 106 11 = some (.iload 1, 12) := by decide +kernel
theorem e106_11 {ls : mj_L} {st : List Value} {σ : mj_S} {τ : mj_T} {a0 : Option Value} {v : Int32} : mj_E 106 11 (a0 :: some (.int v) :: ls) st σ τ = mj_E 106 12 (a0 :: some (.int v) :: ls) (.int v :: st) σ τ := mj_nx i106_11 rfl
theorem i106_12 : mj_ins 106 12 = some (.invokevirtual 7, 15) := by decide +kernel
theorem e106_12 {ls : mj_L} {σ : mj_S} {τ : mj_T} {r : Nat} {x0 : Int32} : mj_E 106 12 ls [.int x0, .ref r] σ τ = if mj_rcv r 1 = true then mj_bd (mj_C 7 [.ref r, .int x0] σ τ) (mj_K 106 15 ls []) else none := mj_clV (as := [.int x0]) (r := []) i106_12 (by decide +kernel : mj_vk 106 7 1 0 2 false = true) (by decide +kernel)
theorem i106_15 : mj_ins 106 15 = some (.ifCond .eq 26, 18) := by decide +kernel
theorem e106_15 {ls : mj_L} {st : List Value} {σ : mj_S} {τ : mj_T} {x : Int32} : mj_E 106 15 ls (.int x :: st) σ τ = if x = 0 then mj_E 106 26 ls st σ τ else mj_E 106 18 ls st σ τ := (mj_ifc i106_15).trans (mj_cdT rfl)
theorem i106_18 : mj_ins 106 18 = some (.iload 2, 19) := by decide +kernel
theorem e106_18 {ls : mj_L} {st : List Value} {σ : mj_S} {τ : mj_T} {a0 a1 : Option Value} {v : Int32} : mj_E 106 18 (a0 :: a1 :: some (.int v) :: ls) st σ τ = mj_E 106 19 (a0 :: a1 :: some (.int v) :: ls) (.int v :: st) σ τ := mj_nx i106_18 rfl
theorem i106_19 : mj_ins 106 19 = some (.iconst (2), 20) := by decide +kernel
theorem e106_19 {ls : mj_L} {st : List Value} {σ : mj_S} {τ : mj_T} : mj_E 106 19 ls st σ τ = mj_E 106 20 ls (.int (nI 2) :: st) σ τ := mj_nx i106_19 rfl
theorem i106_20 : mj_ins 106 20 = some (.invokestatic 116, 23) := by decide +kernel
theorem e106_20 {ls : mj_L} {σ : mj_S} {τ : mj_T} {x0 : Int32} {x1 : Int32} : mj_E 106 20 ls [.int x1, .int x0] σ τ = mj_bd (mj_C 116 [.int x0, .int x1] σ τ) (mj_K 106 23 ls []) := mj_clS (as := [.int x0, .int x1]) (r := []) i106_20 (by decide +kernel : mj_vk 106 116 2 0 2 false = true) rfl
theorem i106_23 : mj_ins 106 23 = some (.ifCond .ne 28, 26) := by decide +kernel
theorem e106_23 {ls : mj_L} {st : List Value} {σ : mj_S} {τ : mj_T} {x : Int32} : mj_E 106 23 ls (.int x :: st) σ τ = if x = 0 then mj_E 106 26 ls st σ τ else mj_E 106 28 ls st σ τ := (mj_ifc i106_23).trans (mj_cdF rfl)
theorem i106_26 : mj_ins 106 26 = some (.iconst (0), 27) := by decide +kernel
theorem e106_26 {ls : mj_L} {st : List Value} {σ : mj_S} {τ : mj_T} : mj_E 106 26 ls st σ τ = mj_E 106 27 ls (.int (nI 0) :: st) σ τ := mj_nx i106_26 rfl
theorem i106_27 : mj_ins 106 27 = some (.ireturn, 28) := by decide +kernel
theorem e106_27 {ls : mj_L} {σ : mj_S} {τ : mj_T} {v : Int32} : mj_E 106 27 ls [.int v] σ τ = some (some (.int v), σ, τ) := mj_irt i106_27 rfl
theorem i106_28 : mj_ins 106 28 = some (.aload 0, 29) := by decide +kernel
theorem e106_28 {ls : mj_L} {st : List Value} {σ : mj_S} {τ : mj_T} {v : Nat} : mj_E 106 28 (some (.ref v) :: ls) st σ τ = mj_E 106 29 (some (.ref v) :: ls) (.ref v :: st) σ τ := mj_nx i106_28 rfl
theorem i106_29 : mj_ins 106 29 = some (.getfield 607, 32) := by decide +kernel
theorem e106_29 {ls : mj_L} {st : List Value} {σ : mj_S} {τ : mj_T} : mj_E 106 29 ls (.ref 0 :: st) σ τ = mj_E 106 32 ls (.ref 59 :: st) σ τ := mj_nx i106_29 rfl
theorem i106_32 : mj_ins 106 32 = some (.aload 0, 33) := by decide +kernel
theorem e106_32 {ls : mj_L} {st : List Value} {σ : mj_S} {τ : mj_T} {v : Nat} : mj_E 106 32 (some (.ref v) :: ls) st σ τ = mj_E 106 33 (some (.ref v) :: ls) (.ref v :: st) σ τ := mj_nx i106_32 rfl
theorem i106_33 : mj_ins 106 33 = some (.getfield 600, 36) := by decide +kernel
theorem e106_33 {ls : mj_L} {st : List Value} {σ : mj_S} {τ : mj_T} : mj_E 106 33 ls (.ref 0 :: st) σ τ = mj_E 106 36 ls (.ref 1 :: st) σ τ := mj_nx i106_33 rfl
theorem i106_36 : mj_ins 106 36 = some (.iload 1, 37) := by decide +kernel
theorem e106_36 {ls : mj_L} {st : List Value} {σ : mj_S} {τ : mj_T} {a0 : Option Value} {v : Int32} : mj_E 106 36 (a0 :: some (.int v) :: ls) st σ τ = mj_E 106 37 (a0 :: some (.int v) :: ls) (.int v :: st) σ τ := mj_nx i106_36 rfl
theorem i106_37 : mj_ins 106 37 = some (.iload 2, 38) := by decide +kernel
theorem e106_37 {ls : mj_L} {st : List Value} {σ : mj_S} {τ : mj_T} {a0 a1 : Option Value} {v : Int32} : mj_E 106 37 (a0 :: a1 :: some (.int v) :: ls) st σ τ = mj_E 106 38 (a0 :: a1 :: some (.int v) :: ls) (.int v :: st) σ τ := mj_nx i106_37 rfl
theorem i106_38 : mj_ins 106 38 = some (.iload 3, 39) := by decide +kernel
theorem e106_38 {ls : mj_L} {st : List Value} {σ : mj_S} {τ : mj_T} {a0 a1 a2 : Option Value} {v : Int32} : mj_E 106 38 (a0 :: a1 :: a2 :: some (.int v) :: ls) st σ τ = mj_E 106 39 (a0 :: a1 :: a2 :: some (.int v) :: ls) (.int v :: st) σ τ := mj_nx i106_38 rfl
theorem i106_39 : mj_ins 106 39 = some (.invokevirtual 69, 42) := by decide +kernel
theorem e106_39 {ls : mj_L} {σ : mj_S} {τ : mj_T} {r : Nat} {x0 : Nat} {x1 : Int32} {x2 : Int32} {x3 : Int32} : mj_E 106 39 ls [.int x3, .int x2, .int x1, .ref x0, .ref r] σ τ = if mj_rcv r 5 = true then mj_bd (mj_C 69 [.ref r, .ref x0, .int x1, .int x2, .int x3] σ τ) (mj_K 106 42 ls []) else none := mj_clV (as := [.ref x0, .int x1, .int x2, .int x3]) (r := []) i106_39 (by decide +kernel : mj_vk 106 69 4 0 5 false = true) (by decide +kernel)
theorem i106_42 : mj_ins 106 42 = some (.ireturn, 43) := by decide +kernel
theorem e106_42 {ls : mj_L} {σ : mj_S} {τ : mj_T} {v : Int32} : mj_E 106 42 ls [.int v] σ τ = some (some (.int v), σ, τ) := mj_irt i106_42 rfl
theorem c107 {σ : mj_S} {τ : mj_T} {r : Nat} {x0 : Int32} : mj_C 107 [.ref r, .int x0] σ τ = mj_E 107 0 [some (.ref r), some (.int x0)] [] σ τ := rfl
theorem i107_0 : mj_ins 107 0 = some (.aload 0, 1) := by decide +kernel
theorem e107_0 {ls : mj_L} {st : List Value} {σ : mj_S} {τ : mj_T} {v : Nat} : mj_E 107 0 (some (.ref v) :: ls) st σ τ = mj_E 107 1 (some (.ref v) :: ls) (.ref v :: st) σ τ := mj_nx i107_0 rfl
theorem i107_1 : mj_ins 107 1 = some (.getfield 607, 4) := by decide +kernel
theorem e107_1 {ls : mj_L} {st : List Value} {σ : mj_S} {τ : mj_T} : mj_E 107 1 ls (.ref 0 :: st) σ τ = mj_E 107 4 ls (.ref 59 :: st) σ τ := mj_nx i107_1 rfl
theorem i107_4 : mj_ins 107 4 = some (.iload 1, 5) := by decide +kernel
theorem e107_4 {ls : mj_L} {st : List Value} {σ : mj_S} {τ : mj_T} {a0 : Option Value} {v : Int32} : mj_E 107 4 (a0 :: some (.int v) :: ls) st σ τ = mj_E 107 5 (a0 :: some (.int v) :: ls) (.int v :: st) σ τ := mj_nx i107_4 rfl
theorem i107_5 : mj_ins 107 5 = some (.invokevirtual 68, 8) := by decide +kernel
theorem e107_5 {ls : mj_L} {σ : mj_S} {τ : mj_T} {r : Nat} {x0 : Int32} : mj_E 107 5 ls [.int x0, .ref r] σ τ = if mj_rcv r 5 = true then mj_bd (mj_C 68 [.ref r, .int x0] σ τ) (mj_K 107 8 ls []) else none := mj_clV (as := [.int x0]) (r := []) i107_5 (by decide +kernel : mj_vk 107 68 1 0 2 false = true) (by decide +kernel)
theorem i107_8 : mj_ins 107 8 = some (.ireturn, 9) := by decide +kernel
theorem e107_8 {ls : mj_L} {σ : mj_S} {τ : mj_T} {v : Int32} : mj_E 107 8 ls [.int v] σ τ = some (some (.int v), σ, τ) := mj_irt i107_8 rfl
theorem c108 {σ : mj_S} {τ : mj_T} {r : Nat} : mj_C 108 [.ref r] σ τ = mj_E 108 0 [some (.ref r)] [] σ τ := rfl
theorem i108_0 : mj_ins 108 0 = some (.aload 0, 1) := by decide +kernel
theorem e108_0 {ls : mj_L} {st : List Value} {σ : mj_S} {τ : mj_T} {v : Nat} : mj_E 108 0 (some (.ref v) :: ls) st σ τ = mj_E 108 1 (some (.ref v) :: ls) (.ref v :: st) σ τ := mj_nx i108_0 rfl
theorem i108_1 : mj_ins 108 1 = some (.getfield 602, 4) := by decide +kernel
theorem e108_1 {ls : mj_L} {st : List Value} {σ : mj_S} {τ : mj_T} : mj_E 108 1 ls (.ref 0 :: st) σ τ = mj_E 108 4 ls (.ref 3 :: st) σ τ := mj_nx i108_1 rfl
theorem i108_4 : mj_ins 108 4 = some (.aload 0, 5) := by decide +kernel
theorem e108_4 {ls : mj_L} {st : List Value} {σ : mj_S} {τ : mj_T} {v : Nat} : mj_E 108 4 (some (.ref v) :: ls) st σ τ = mj_E 108 5 (some (.ref v) :: ls) (.ref v :: st) σ τ := mj_nx i108_4 rfl
theorem i108_5 : mj_ins 108 5 = some (.getfield 600, 8) := by decide +kernel
theorem e108_5 {ls : mj_L} {st : List Value} {σ : mj_S} {τ : mj_T} : mj_E 108 5 ls (.ref 0 :: st) σ τ = mj_E 108 8 ls (.ref 1 :: st) σ τ := mj_nx i108_5 rfl
theorem i108_8 : mj_ins 108 8 = some (.invokevirtual 6, 11) := by decide +kernel
theorem e108_8 {ls : mj_L} {σ : mj_S} {τ : mj_T} {r : Nat} {x0 : Nat} : mj_E 108 8 ls [.ref x0, .ref r] σ τ = if mj_rcv r 1 = true then mj_bd (mj_C 6 [.ref r, .ref x0] σ τ) (mj_K 108 11 ls []) else none := mj_clV (as := [.ref x0]) (r := []) i108_8 (by decide +kernel : mj_vk 108 6 1 0 2 false = true) (by decide +kernel)
theorem i108_11 : mj_ins 108 11 = some (.aload 0, 12) := by decide +kernel
theorem e108_11 {ls : mj_L} {st : List Value} {σ : mj_S} {τ : mj_T} {v : Nat} : mj_E 108 11 (some (.ref v) :: ls) st σ τ = mj_E 108 12 (some (.ref v) :: ls) (.ref v :: st) σ τ := mj_nx i108_11 rfl
theorem i108_12 : mj_ins 108 12 = some (.iconst (1), 13) := by decide +kernel
theorem e108_12 {ls : mj_L} {st : List Value} {σ : mj_S} {τ : mj_T} : mj_E 108 12 ls st σ τ = mj_E 108 13 ls (.int (nI 1) :: st) σ τ := mj_nx i108_12 rfl
theorem i108_13 : mj_ins 108 13 = some (.putfield 603, 16) := by decide +kernel
theorem e108_13 {ls : mj_L} {st : List Value} {σ : mj_S} {τ : mj_T} : mj_E 108 13 ls (.int (nI 1) :: .ref 0 :: st) σ τ = mj_E 108 16 ls st (mj_up σ 0 3 (nI 1)) τ := mj_nx i108_13 rfl
theorem i108_16 : mj_ins 108 16 = some (.aload 0, 17) := by decide +kernel
theorem e108_16 {ls : mj_L} {st : List Value} {σ : mj_S} {τ : mj_T} {v : Nat} : mj_E 108 16 (some (.ref v) :: ls) st σ τ = mj_E 108 17 (some (.ref v) :: ls) (.ref v :: st) σ τ := mj_nx i108_16 rfl
theorem i108_17 : mj_ins 108 17 = some (.getfield 600, 20) := by decide +kernel
theorem e108_17 {ls : mj_L} {st : List Value} {σ : mj_S} {τ : mj_T} : mj_E 108 17 ls (.ref 0 :: st) σ τ = mj_E 108 20 ls (.ref 1 :: st) σ τ := mj_nx i108_17 rfl
theorem i108_20 : mj_ins 108 20 = some (.getfield 100, 23) := by decide +kernel
theorem e108_20 {ls : mj_L} {st : List Value} {σ : mj_S} {τ : mj_T} {k : Nat} (h1 : 1 ≤ k) (h2 : k ≤ 3) : mj_E 108 20 ls (.ref k :: st) σ τ = mj_E 108 23 ls (.int (σ k 0) :: st) σ τ := (mj_gf i108_20).trans (congrArg (fun z => mj_ov z _) (fv1_0 h1 h2))
theorem i108_23 : mj_ins 108 23 = some (.ireturn, 24) := by decide +kernel
theorem e108_23 {ls : mj_L} {σ : mj_S} {τ : mj_T} {v : Int32} : mj_E 108 23 ls [.int v] σ τ = some (some (.int v), σ, τ) := mj_irt i108_23 rfl
theorem c109 {σ : mj_S} {τ : mj_T} {r : Nat} : mj_C 109 [.ref r] σ τ = mj_E 109 0 [some (.ref r), none, none] [] σ τ := rfl
theorem i109_0 : mj_ins 109 0 = some (.aload 0, 1) := by decide +kernel
theorem e109_0 {ls : mj_L} {st : List Value} {σ : mj_S} {τ : mj_T} {v : Nat} : mj_E 109 0 (some (.ref v) :: ls) st σ τ = mj_E 109 1 (some (.ref v) :: ls) (.ref v :: st) σ τ := mj_nx i109_0 rfl
theorem i109_1 : mj_ins 109 1 = some (.getfield 603, 4) := by decide +kernel
theorem e109_1 {ls : mj_L} {st : List Value} {σ : mj_S} {τ : mj_T} : mj_E 109 1 ls (.ref 0 :: st) σ τ = mj_E 109 4 ls (.int (σ 0 3) :: st) σ τ := mj_nx i109_1 rfl
theorem i109_4 : mj_ins 109 4 = some (.ifCond .ne 14, 7) := by decide +kernel
theorem e109_4 {ls : mj_L} {st : List Value} {σ : mj_S} {τ : mj_T} {x : Int32} : mj_E 109 4 ls (.int x :: st) σ τ = if x = 0 then mj_E 109 7 ls st σ τ else mj_E 109 14 ls st σ τ := (mj_ifc i109_4).trans (mj_cdF rfl)
theorem i109_7 : mj_ins 109 7 = some (.aload 0, 8) := by decide +kernel
theorem e109_7 {ls : mj_L} {st : List Value} {σ : mj_S} {τ : mj_T} {v : Nat} : mj_E 109 7 (some (.ref v) :: ls) st σ τ = mj_E 109 8 (some (.ref v) :: ls) (.ref v :: st) σ τ := mj_nx i109_7 rfl
theorem i109_8 : mj_ins 109 8 = some (.iconst (-6), 10) := by decide +kernel
theorem e109_8 {ls : mj_L} {st : List Value} {σ : mj_S} {τ : mj_T} : mj_E 109 8 ls st σ τ = mj_E 109 10 ls (.int ((-6)) :: st) σ τ := mj_nx i109_8 rfl
theorem i109_10 : mj_ins 109 10 = some (.invokevirtual 112, 13) := by decide +kernel
theorem e109_10 {ls : mj_L} {σ : mj_S} {τ : mj_T} {r : Nat} {x0 : Int32} : mj_E 109 10 ls [.int x0, .ref r] σ τ = if mj_rcv r 6 = true then mj_bd (mj_C 112 [.ref r, .int x0] σ τ) (mj_K 109 13 ls []) else none := mj_clV (as := [.int x0]) (r := []) i109_10 (by decide +kernel : mj_vk 109 112 1 0 2 false = true) (by decide +kernel)
theorem i109_13 : mj_ins 109 13 = some (.ireturn, 14) := by decide +kernel
theorem e109_13 {ls : mj_L} {σ : mj_S} {τ : mj_T} {v : Int32} : mj_E 109 13 ls [.int v] σ τ = some (some (.int v), σ, τ) := mj_irt i109_13 rfl
theorem i109_14 : mj_ins 109 14 = some (.aload 0, 15) := by decide +kernel
theorem e109_14 {ls : mj_L} {st : List Value} {σ : mj_S} {τ : mj_T} {v : Nat} : mj_E 109 14 (some (.ref v) :: ls) st σ τ = mj_E 109 15 (some (.ref v) :: ls) (.ref v :: st) σ τ := mj_nx i109_14 rfl
theorem i109_15 : mj_ins 109 15 = some (.getfield 600, 18) := by decide +kernel
theorem e109_15 {ls : mj_L} {st : List Value} {σ : mj_S} {τ : mj_T} : mj_E 109 15 ls (.ref 0 :: st) σ τ = mj_E 109 18 ls (.ref 1 :: st) σ τ := mj_nx i109_15 rfl
theorem i109_18 : mj_ins 109 18 = some (.aload 0, 19) := by decide +kernel
theorem e109_18 {ls : mj_L} {st : List Value} {σ : mj_S} {τ : mj_T} {v : Nat} : mj_E 109 18 (some (.ref v) :: ls) st σ τ = mj_E 109 19 (some (.ref v) :: ls) (.ref v :: st) σ τ := mj_nx i109_18 rfl
theorem i109_19 : mj_ins 109 19 = some (.getfield 602, 22) := by decide +kernel
theorem e109_19 {ls : mj_L} {st : List Value} {σ : mj_S} {τ : mj_T} : mj_E 109 19 ls (.ref 0 :: st) σ τ = mj_E 109 22 ls (.ref 3 :: st) σ τ := mj_nx i109_19 rfl
theorem i109_22 : mj_ins 109 22 = some (.invokevirtual 6, 25) := by decide +kernel
theorem e109_22 {ls : mj_L} {σ : mj_S} {τ : mj_T} {r : Nat} {x0 : Nat} : mj_E 109 22 ls [.ref x0, .ref r] σ τ = if mj_rcv r 1 = true then mj_bd (mj_C 6 [.ref r, .ref x0] σ τ) (mj_K 109 25 ls []) else none := mj_clV (as := [.ref x0]) (r := []) i109_22 (by decide +kernel : mj_vk 109 6 1 0 2 false = true) (by decide +kernel)
theorem i109_25 : mj_ins 109 25 = some (.iconst (0), 26) := by decide +kernel
theorem e109_25 {ls : mj_L} {st : List Value} {σ : mj_S} {τ : mj_T} : mj_E 109 25 ls st σ τ = mj_E 109 26 ls (.int (nI 0) :: st) σ τ := mj_nx i109_25 rfl
theorem i109_26 : mj_ins 109 26 = some (.istore 1, 27) := by decide +kernel
theorem e109_26 {ls : mj_L} {st : List Value} {σ : mj_S} {τ : mj_T} {a0 a1 : Option Value} {v : Int32} : mj_E 109 26 (a0 :: a1 :: ls) (.int v :: st) σ τ = mj_E 109 27 (a0 :: some (.int v) :: ls) st σ τ := mj_nx i109_26 rfl
theorem i109_27 : mj_ins 109 27 = some (.iload 1, 28) := by decide +kernel
theorem e109_27 {ls : mj_L} {st : List Value} {σ : mj_S} {τ : mj_T} {a0 : Option Value} {v : Int32} : mj_E 109 27 (a0 :: some (.int v) :: ls) st σ τ = mj_E 109 28 (a0 :: some (.int v) :: ls) (.int v :: st) σ τ := mj_nx i109_27 rfl
theorem i109_28 : mj_ins 109 28 = some (.iconst (8), 30) := by decide +kernel
theorem e109_28 {ls : mj_L} {st : List Value} {σ : mj_S} {τ : mj_T} : mj_E 109 28 ls st σ τ = mj_E 109 30 ls (.int (nI 8) :: st) σ τ := mj_nx i109_28 rfl
theorem i109_30 : mj_ins 109 30 = some (.if_icmp .ge 72, 33) := by decide +kernel
theorem e109_30 {ls : mj_L} {st : List Value} {σ : mj_S} {τ : mj_T} {x y : Int32} : mj_E 109 30 ls (.int y :: .int x :: st) σ τ = if y ≤ x then mj_E 109 72 ls st σ τ else mj_E 109 33 ls st σ τ := (mj_ifi i109_30).trans (mj_cdT rfl)
theorem i109_33 : mj_ins 109 33 = some (.aload 0, 34) := by decide +kernel
theorem e109_33 {ls : mj_L} {st : List Value} {σ : mj_S} {τ : mj_T} {v : Nat} : mj_E 109 33 (some (.ref v) :: ls) st σ τ = mj_E 109 34 (some (.ref v) :: ls) (.ref v :: st) σ τ := mj_nx i109_33 rfl
theorem i109_34 : mj_ins 109 34 = some (.getfield 604, 37) := by decide +kernel
theorem e109_34 {ls : mj_L} {st : List Value} {σ : mj_S} {τ : mj_T} : mj_E 109 34 ls (.ref 0 :: st) σ τ = mj_E 109 37 ls (.ref 7 :: st) σ τ := mj_nx i109_34 rfl
theorem i109_37 : mj_ins 109 37 = some (.iload 1, 38) := by decide +kernel
theorem e109_37 {ls : mj_L} {st : List Value} {σ : mj_S} {τ : mj_T} {a0 : Option Value} {v : Int32} : mj_E 109 37 (a0 :: some (.int v) :: ls) st σ τ = mj_E 109 38 (a0 :: some (.int v) :: ls) (.int v :: st) σ τ := mj_nx i109_37 rfl
theorem i109_38 : mj_ins 109 38 = some (.aaload, 39) := by decide +kernel
theorem e109_38 {ls : mj_L} {st : List Value} {σ : mj_S} {τ : mj_T} {x : Int32} : mj_E 109 38 ls (.int x :: .ref 7 :: st) σ τ = if mj_ib (some 8) x = true then mj_E 109 39 ls (.ref (40 + x.toNatClampNeg) :: st) σ τ else none := mj_aald i109_38
theorem i109_39 : mj_ins 109 39 = some (.astore 2, 40) := by decide +kernel
theorem e109_39 {ls : mj_L} {st : List Value} {σ : mj_S} {τ : mj_T} {a0 a1 a2 : Option Value} {v : Nat} : mj_E 109 39 (a0 :: a1 :: a2 :: ls) (.ref v :: st) σ τ = mj_E 109 40 (a0 :: a1 :: some (.ref v) :: ls) st σ τ := mj_nx i109_39 rfl
theorem e109_39n {ls : mj_L} {st : List Value} {σ : mj_S} {τ : mj_T} {a0 a1 a2 : Option Value} : mj_E 109 39 (a0 :: a1 :: a2 :: ls) (.null :: st) σ τ = mj_E 109 40 (a0 :: a1 :: some .null :: ls) st σ τ := mj_nx i109_39 rfl
theorem i109_40 : mj_ins 109 40 = some (.aload 2, 41) := by decide +kernel
theorem e109_40 {ls : mj_L} {st : List Value} {σ : mj_S} {τ : mj_T} {a0 a1 : Option Value} {v : Nat} : mj_E 109 40 (a0 :: a1 :: some (.ref v) :: ls) st σ τ = mj_E 109 41 (a0 :: a1 :: some (.ref v) :: ls) (.ref v :: st) σ τ := mj_nx i109_40 rfl
theorem e109_40n {ls : mj_L} {st : List Value} {σ : mj_S} {τ : mj_T} {a0 a1 : Option Value} : mj_E 109 40 (a0 :: a1 :: some .null :: ls) st σ τ = mj_E 109 41 (a0 :: a1 :: some .null :: ls) (.null :: st) σ τ := mj_nx i109_40 rfl
theorem i109_41 : mj_ins 109 41 = some (.invokevirtual 62, 44) := by decide +kernel
theorem e109_41 {ls : mj_L} {σ : mj_S} {τ : mj_T} {r : Nat} : mj_E 109 41 ls [.ref r] σ τ = if mj_rcv r 4 = true then mj_bd (mj_C 62 [.ref r] σ τ) (mj_K 109 44 ls []) else none := mj_clV (as := []) (r := []) i109_41 (by decide +kernel : mj_vk 109 62 0 0 1 false = true) (by decide +kernel)
theorem i109_44 : mj_ins 109 44 = some (.ifCond .eq 66, 47) := by decide +kernel
theorem e109_44 {ls : mj_L} {st : List Value} {σ : mj_S} {τ : mj_T} {x : Int32} : mj_E 109 44 ls (.int x :: st) σ τ = if x = 0 then mj_E 109 66 ls st σ τ else mj_E 109 47 ls st σ τ := (mj_ifc i109_44).trans (mj_cdT rfl)
theorem i109_47 : mj_ins 109 47 = some (.aload 0, 48) := by decide +kernel
theorem e109_47 {ls : mj_L} {st : List Value} {σ : mj_S} {τ : mj_T} {v : Nat} : mj_E 109 47 (some (.ref v) :: ls) st σ τ = mj_E 109 48 (some (.ref v) :: ls) (.ref v :: st) σ τ := mj_nx i109_47 rfl
theorem i109_48 : mj_ins 109 48 = some (.getfield 600, 51) := by decide +kernel
theorem e109_48 {ls : mj_L} {st : List Value} {σ : mj_S} {τ : mj_T} : mj_E 109 48 ls (.ref 0 :: st) σ τ = mj_E 109 51 ls (.ref 1 :: st) σ τ := mj_nx i109_48 rfl
theorem i109_51 : mj_ins 109 51 = some (.aload 2, 52) := by decide +kernel
theorem e109_51 {ls : mj_L} {st : List Value} {σ : mj_S} {τ : mj_T} {a0 a1 : Option Value} {v : Nat} : mj_E 109 51 (a0 :: a1 :: some (.ref v) :: ls) st σ τ = mj_E 109 52 (a0 :: a1 :: some (.ref v) :: ls) (.ref v :: st) σ τ := mj_nx i109_51 rfl
theorem e109_51n {ls : mj_L} {st : List Value} {σ : mj_S} {τ : mj_T} {a0 a1 : Option Value} : mj_E 109 51 (a0 :: a1 :: some .null :: ls) st σ τ = mj_E 109 52 (a0 :: a1 :: some .null :: ls) (.null :: st) σ τ := mj_nx i109_51 rfl
theorem i109_52 : mj_ins 109 52 = some (.getfield 401, 55) := by decide +kernel
theorem e109_52 {ls : mj_L} {st : List Value} {σ : mj_S} {τ : mj_T} {k : Nat} (h1 : 40 ≤ k) (h2 : k ≤ 47) : mj_E 109 52 ls (.ref k :: st) σ τ = mj_E 109 55 ls (.int (σ k 1) :: st) σ τ := (mj_gf i109_52).trans (congrArg (fun z => mj_ov z _) (fv4_1 h1 h2))
theorem i109_55 : mj_ins 109 55 = some (.invokevirtual 7, 58) := by decide +kernel
theorem e109_55 {ls : mj_L} {σ : mj_S} {τ : mj_T} {r : Nat} {x0 : Int32} : mj_E 109 55 ls [.int x0, .ref r] σ τ = if mj_rcv r 1 = true then mj_bd (mj_C 7 [.ref r, .int x0] σ τ) (mj_K 109 58 ls []) else none := mj_clV (as := [.int x0]) (r := []) i109_55 (by decide +kernel : mj_vk 109 7 1 0 2 false = true) (by decide +kernel)
theorem i109_58 : mj_ins 109 58 = some (.ifCond .ne 66, 61) := by decide +kernel
theorem e109_58 {ls : mj_L} {st : List Value} {σ : mj_S} {τ : mj_T} {x : Int32} : mj_E 109 58 ls (.int x :: st) σ τ = if x = 0 then mj_E 109 61 ls st σ τ else mj_E 109 66 ls st σ τ := (mj_ifc i109_58).trans (mj_cdF rfl)
theorem i109_61 : mj_ins 109 61 = some (.aload 2, 62) := by decide +kernel
theorem e109_61 {ls : mj_L} {st : List Value} {σ : mj_S} {τ : mj_T} {a0 a1 : Option Value} {v : Nat} : mj_E 109 61 (a0 :: a1 :: some (.ref v) :: ls) st σ τ = mj_E 109 62 (a0 :: a1 :: some (.ref v) :: ls) (.ref v :: st) σ τ := mj_nx i109_61 rfl
theorem e109_61n {ls : mj_L} {st : List Value} {σ : mj_S} {τ : mj_T} {a0 a1 : Option Value} : mj_E 109 61 (a0 :: a1 :: some .null :: ls) st σ τ = mj_E 109 62 (a0 :: a1 :: some .null :: ls) (.null :: st) σ τ := mj_nx i109_61 rfl
theorem i109_62 : mj_ins 109 62 = some (.iconst (-1), 63) := by decide +kernel
theorem e109_62 {ls : mj_L} {st : List Value} {σ : mj_S} {τ : mj_T} : mj_E 109 62 ls st σ τ = mj_E 109 63 ls (.int ((-1)) :: st) σ τ := mj_nx i109_62 rfl
theorem i109_63 : mj_ins 109 63 = some (.invokevirtual 60, 66) := by decide +kernel
theorem e109_63 {ls : mj_L} {σ : mj_S} {τ : mj_T} {r : Nat} {x0 : Int32} : mj_E 109 63 ls [.int x0, .ref r] σ τ = if mj_rcv r 4 = true then mj_bd (mj_C 60 [.ref r, .int x0] σ τ) (mj_K 109 66 ls []) else none := mj_clV (as := [.int x0]) (r := []) i109_63 (by decide +kernel : mj_vk 109 60 1 0 2 false = true) (by decide +kernel)
theorem i109_66 : mj_ins 109 66 = some (.iinc 1 (1), 69) := by decide +kernel
theorem e109_66 {ls : mj_L} {st : List Value} {σ : mj_S} {τ : mj_T} {a0 : Option Value} {v : Int32} : mj_E 109 66 (a0 :: some (.int v) :: ls) st σ τ = mj_E 109 69 (a0 :: some (.int (v + nI 1)) :: ls) st σ τ := mj_nx i109_66 rfl
theorem i109_69 : mj_ins 109 69 = some (.goto 27, 72) := by decide +kernel
theorem e109_69 {ls : mj_L} {st : List Value} {σ : mj_S} {τ : mj_T} : mj_E 109 69 ls st σ τ = mj_E 109 27 ls st σ τ := mj_nx i109_69 rfl
theorem i109_72 : mj_ins 109 72 = some (.aload 0, 73) := by decide +kernel
theorem e109_72 {ls : mj_L} {st : List Value} {σ : mj_S} {τ : mj_T} {v : Nat} : mj_E 109 72 (some (.ref v) :: ls) st σ τ = mj_E 109 73 (some (.ref v) :: ls) (.ref v :: st) σ τ := mj_nx i109_72 rfl
theorem i109_73 : mj_ins 109 73 = some (.getfield 600, 76) := by decide +kernel
theorem e109_73 {ls : mj_L} {st : List Value} {σ : mj_S} {τ : mj_T} : mj_E 109 73 ls (.ref 0 :: st) σ τ = mj_E 109 76 ls (.ref 1 :: st) σ τ := mj_nx i109_73 rfl
theorem i109_76 : mj_ins 109 76 = some (.getfield 100, 79) := by decide +kernel
theorem e109_76 {ls : mj_L} {st : List Value} {σ : mj_S} {τ : mj_T} {k : Nat} (h1 : 1 ≤ k) (h2 : k ≤ 3) : mj_E 109 76 ls (.ref k :: st) σ τ = mj_E 109 79 ls (.int (σ k 0) :: st) σ τ := (mj_gf i109_76).trans (congrArg (fun z => mj_ov z _) (fv1_0 h1 h2))
theorem i109_79 : mj_ins 109 79 = some (.ireturn, 80) := by decide +kernel
theorem e109_79 {ls : mj_L} {σ : mj_S} {τ : mj_T} {v : Int32} : mj_E 109 79 ls [.int v] σ τ = some (some (.int v), σ, τ) := mj_irt i109_79 rfl
theorem c110 {σ : mj_S} {τ : mj_T} {r : Nat} {x0 : Int32} : mj_C 110 [.ref r, .int x0] σ τ = mj_E 110 0 [some (.ref r), some (.int x0)] [] σ τ := rfl
theorem i110_0 : mj_ins 110 0 = some (.iload 1, 1) := by decide +kernel
theorem e110_0 {ls : mj_L} {st : List Value} {σ : mj_S} {τ : mj_T} {a0 : Option Value} {v : Int32} : mj_E 110 0 (a0 :: some (.int v) :: ls) st σ τ = mj_E 110 1 (a0 :: some (.int v) :: ls) (.int v :: st) σ τ := mj_nx i110_0 rfl
theorem i110_1 : mj_ins 110 1 = some (.tableswitch 112 (0) (7) #[48, 56, 64, 72, 80, 88, 96, 104], 1) := by decide +kernel
theorem e110_1 {ls : mj_L} {st : List Value} {σ : mj_S} {τ : mj_T} {x : Int32} : mj_E 110 1 ls (.int x :: st) σ τ = if x = nI 0 then mj_E 110 48 ls st σ τ else if x = nI 1 then mj_E 110 56 ls st σ τ else if x = nI 2 then mj_E 110 64 ls st σ τ else if x = nI 3 then mj_E 110 72 ls st σ τ else if x = nI 4 then mj_E 110 80 ls st σ τ else if x = nI 5 then mj_E 110 88 ls st σ τ else if x = nI 6 then mj_E 110 96 ls st σ τ else if x = nI 7 then mj_E 110 104 ls st σ τ else mj_E 110 112 ls st σ τ := mj_tsw i110_1 (by decide)
theorem i110_48 : mj_ins 110 48 = some (.aload 0, 49) := by decide +kernel
theorem e110_48 {ls : mj_L} {st : List Value} {σ : mj_S} {τ : mj_T} {v : Nat} : mj_E 110 48 (some (.ref v) :: ls) st σ τ = mj_E 110 49 (some (.ref v) :: ls) (.ref v :: st) σ τ := mj_nx i110_48 rfl
theorem i110_49 : mj_ins 110 49 = some (.getfield 600, 52) := by decide +kernel
theorem e110_49 {ls : mj_L} {st : List Value} {σ : mj_S} {τ : mj_T} : mj_E 110 49 ls (.ref 0 :: st) σ τ = mj_E 110 52 ls (.ref 1 :: st) σ τ := mj_nx i110_49 rfl
theorem i110_52 : mj_ins 110 52 = some (.getfield 100, 55) := by decide +kernel
theorem e110_52 {ls : mj_L} {st : List Value} {σ : mj_S} {τ : mj_T} {k : Nat} (h1 : 1 ≤ k) (h2 : k ≤ 3) : mj_E 110 52 ls (.ref k :: st) σ τ = mj_E 110 55 ls (.int (σ k 0) :: st) σ τ := (mj_gf i110_52).trans (congrArg (fun z => mj_ov z _) (fv1_0 h1 h2))
theorem i110_55 : mj_ins 110 55 = some (.ireturn, 56) := by decide +kernel
theorem e110_55 {ls : mj_L} {σ : mj_S} {τ : mj_T} {v : Int32} : mj_E 110 55 ls [.int v] σ τ = some (some (.int v), σ, τ) := mj_irt i110_55 rfl
theorem i110_56 : mj_ins 110 56 = some (.aload 0, 57) := by decide +kernel
theorem e110_56 {ls : mj_L} {st : List Value} {σ : mj_S} {τ : mj_T} {v : Nat} : mj_E 110 56 (some (.ref v) :: ls) st σ τ = mj_E 110 57 (some (.ref v) :: ls) (.ref v :: st) σ τ := mj_nx i110_56 rfl
theorem i110_57 : mj_ins 110 57 = some (.getfield 600, 60) := by decide +kernel
theorem e110_57 {ls : mj_L} {st : List Value} {σ : mj_S} {τ : mj_T} : mj_E 110 57 ls (.ref 0 :: st) σ τ = mj_E 110 60 ls (.ref 1 :: st) σ τ := mj_nx i110_57 rfl
theorem i110_60 : mj_ins 110 60 = some (.getfield 101, 63) := by decide +kernel
theorem e110_60 {ls : mj_L} {st : List Value} {σ : mj_S} {τ : mj_T} {k : Nat} (h1 : 1 ≤ k) (h2 : k ≤ 3) : mj_E 110 60 ls (.ref k :: st) σ τ = mj_E 110 63 ls (.int (σ k 1) :: st) σ τ := (mj_gf i110_60).trans (congrArg (fun z => mj_ov z _) (fv1_1 h1 h2))
theorem i110_63 : mj_ins 110 63 = some (.ireturn, 64) := by decide +kernel
theorem e110_63 {ls : mj_L} {σ : mj_S} {τ : mj_T} {v : Int32} : mj_E 110 63 ls [.int v] σ τ = some (some (.int v), σ, τ) := mj_irt i110_63 rfl
theorem i110_64 : mj_ins 110 64 = some (.aload 0, 65) := by decide +kernel
theorem e110_64 {ls : mj_L} {st : List Value} {σ : mj_S} {τ : mj_T} {v : Nat} : mj_E 110 64 (some (.ref v) :: ls) st σ τ = mj_E 110 65 (some (.ref v) :: ls) (.ref v :: st) σ τ := mj_nx i110_64 rfl
theorem i110_65 : mj_ins 110 65 = some (.getfield 600, 68) := by decide +kernel
theorem e110_65 {ls : mj_L} {st : List Value} {σ : mj_S} {τ : mj_T} : mj_E 110 65 ls (.ref 0 :: st) σ τ = mj_E 110 68 ls (.ref 1 :: st) σ τ := mj_nx i110_65 rfl
theorem i110_68 : mj_ins 110 68 = some (.getfield 102, 71) := by decide +kernel
theorem e110_68 {ls : mj_L} {st : List Value} {σ : mj_S} {τ : mj_T} {k : Nat} (h1 : 1 ≤ k) (h2 : k ≤ 3) : mj_E 110 68 ls (.ref k :: st) σ τ = mj_E 110 71 ls (.int (σ k 2) :: st) σ τ := (mj_gf i110_68).trans (congrArg (fun z => mj_ov z _) (fv1_2 h1 h2))
theorem i110_71 : mj_ins 110 71 = some (.ireturn, 72) := by decide +kernel
theorem e110_71 {ls : mj_L} {σ : mj_S} {τ : mj_T} {v : Int32} : mj_E 110 71 ls [.int v] σ τ = some (some (.int v), σ, τ) := mj_irt i110_71 rfl
theorem i110_72 : mj_ins 110 72 = some (.aload 0, 73) := by decide +kernel
theorem e110_72 {ls : mj_L} {st : List Value} {σ : mj_S} {τ : mj_T} {v : Nat} : mj_E 110 72 (some (.ref v) :: ls) st σ τ = mj_E 110 73 (some (.ref v) :: ls) (.ref v :: st) σ τ := mj_nx i110_72 rfl
theorem i110_73 : mj_ins 110 73 = some (.getfield 600, 76) := by decide +kernel
theorem e110_73 {ls : mj_L} {st : List Value} {σ : mj_S} {τ : mj_T} : mj_E 110 73 ls (.ref 0 :: st) σ τ = mj_E 110 76 ls (.ref 1 :: st) σ τ := mj_nx i110_73 rfl
theorem i110_76 : mj_ins 110 76 = some (.getfield 103, 79) := by decide +kernel
theorem e110_76 {ls : mj_L} {st : List Value} {σ : mj_S} {τ : mj_T} {k : Nat} (h1 : 1 ≤ k) (h2 : k ≤ 3) : mj_E 110 76 ls (.ref k :: st) σ τ = mj_E 110 79 ls (.int (σ k 3) :: st) σ τ := (mj_gf i110_76).trans (congrArg (fun z => mj_ov z _) (fv1_3 h1 h2))
theorem i110_79 : mj_ins 110 79 = some (.ireturn, 80) := by decide +kernel
theorem e110_79 {ls : mj_L} {σ : mj_S} {τ : mj_T} {v : Int32} : mj_E 110 79 ls [.int v] σ τ = some (some (.int v), σ, τ) := mj_irt i110_79 rfl
theorem i110_80 : mj_ins 110 80 = some (.aload 0, 81) := by decide +kernel
theorem e110_80 {ls : mj_L} {st : List Value} {σ : mj_S} {τ : mj_T} {v : Nat} : mj_E 110 80 (some (.ref v) :: ls) st σ τ = mj_E 110 81 (some (.ref v) :: ls) (.ref v :: st) σ τ := mj_nx i110_80 rfl
theorem i110_81 : mj_ins 110 81 = some (.getfield 600, 84) := by decide +kernel
theorem e110_81 {ls : mj_L} {st : List Value} {σ : mj_S} {τ : mj_T} : mj_E 110 81 ls (.ref 0 :: st) σ τ = mj_E 110 84 ls (.ref 1 :: st) σ τ := mj_nx i110_81 rfl
theorem i110_84 : mj_ins 110 84 = some (.invokevirtual 36, 87) := by decide +kernel
theorem e110_84 {ls : mj_L} {σ : mj_S} {τ : mj_T} {r : Nat} : mj_E 110 84 ls [.ref r] σ τ = if mj_rcv r 1 = true then mj_bd (mj_C 36 [.ref r] σ τ) (mj_K 110 87 ls []) else none := mj_clV (as := []) (r := []) i110_84 (by decide +kernel : mj_vk 110 36 0 0 1 false = true) (by decide +kernel)
theorem i110_87 : mj_ins 110 87 = some (.ireturn, 88) := by decide +kernel
theorem e110_87 {ls : mj_L} {σ : mj_S} {τ : mj_T} {v : Int32} : mj_E 110 87 ls [.int v] σ τ = some (some (.int v), σ, τ) := mj_irt i110_87 rfl
theorem i110_88 : mj_ins 110 88 = some (.aload 0, 89) := by decide +kernel
theorem e110_88 {ls : mj_L} {st : List Value} {σ : mj_S} {τ : mj_T} {v : Nat} : mj_E 110 88 (some (.ref v) :: ls) st σ τ = mj_E 110 89 (some (.ref v) :: ls) (.ref v :: st) σ τ := mj_nx i110_88 rfl
theorem i110_89 : mj_ins 110 89 = some (.getfield 600, 92) := by decide +kernel
theorem e110_89 {ls : mj_L} {st : List Value} {σ : mj_S} {τ : mj_T} : mj_E 110 89 ls (.ref 0 :: st) σ τ = mj_E 110 92 ls (.ref 1 :: st) σ τ := mj_nx i110_89 rfl
theorem i110_92 : mj_ins 110 92 = some (.invokevirtual 37, 95) := by decide +kernel
theorem e110_92 {ls : mj_L} {σ : mj_S} {τ : mj_T} {r : Nat} : mj_E 110 92 ls [.ref r] σ τ = if mj_rcv r 1 = true then mj_bd (mj_C 37 [.ref r] σ τ) (mj_K 110 95 ls []) else none := mj_clV (as := []) (r := []) i110_92 (by decide +kernel : mj_vk 110 37 0 0 1 false = true) (by decide +kernel)
theorem i110_95 : mj_ins 110 95 = some (.ireturn, 96) := by decide +kernel
theorem e110_95 {ls : mj_L} {σ : mj_S} {τ : mj_T} {v : Int32} : mj_E 110 95 ls [.int v] σ τ = some (some (.int v), σ, τ) := mj_irt i110_95 rfl
theorem i110_96 : mj_ins 110 96 = some (.aload 0, 97) := by decide +kernel
theorem e110_96 {ls : mj_L} {st : List Value} {σ : mj_S} {τ : mj_T} {v : Nat} : mj_E 110 96 (some (.ref v) :: ls) st σ τ = mj_E 110 97 (some (.ref v) :: ls) (.ref v :: st) σ τ := mj_nx i110_96 rfl
theorem i110_97 : mj_ins 110 97 = some (.getfield 600, 100) := by decide +kernel
theorem e110_97 {ls : mj_L} {st : List Value} {σ : mj_S} {τ : mj_T} : mj_E 110 97 ls (.ref 0 :: st) σ τ = mj_E 110 100 ls (.ref 1 :: st) σ τ := mj_nx i110_97 rfl
theorem i110_100 : mj_ins 110 100 = some (.getfield 104, 103) := by decide +kernel
theorem e110_100 {ls : mj_L} {st : List Value} {σ : mj_S} {τ : mj_T} {k : Nat} (h1 : 1 ≤ k) (h2 : k ≤ 3) : mj_E 110 100 ls (.ref k :: st) σ τ = mj_E 110 103 ls (.int (σ k 4) :: st) σ τ := (mj_gf i110_100).trans (congrArg (fun z => mj_ov z _) (fv1_4 h1 h2))
theorem i110_103 : mj_ins 110 103 = some (.ireturn, 104) := by decide +kernel
theorem e110_103 {ls : mj_L} {σ : mj_S} {τ : mj_T} {v : Int32} : mj_E 110 103 ls [.int v] σ τ = some (some (.int v), σ, τ) := mj_irt i110_103 rfl
theorem i110_104 : mj_ins 110 104 = some (.aload 0, 105) := by decide +kernel
theorem e110_104 {ls : mj_L} {st : List Value} {σ : mj_S} {τ : mj_T} {v : Nat} : mj_E 110 104 (some (.ref v) :: ls) st σ τ = mj_E 110 105 (some (.ref v) :: ls) (.ref v :: st) σ τ := mj_nx i110_104 rfl
theorem i110_105 : mj_ins 110 105 = some (.getfield 607, 108) := by decide +kernel
theorem e110_105 {ls : mj_L} {st : List Value} {σ : mj_S} {τ : mj_T} : mj_E 110 105 ls (.ref 0 :: st) σ τ = mj_E 110 108 ls (.ref 59 :: st) σ τ := mj_nx i110_105 rfl
theorem i110_108 : mj_ins 110 108 = some (.getfield 500, 111) := by decide +kernel
theorem e110_108 {ls : mj_L} {st : List Value} {σ : mj_S} {τ : mj_T} : mj_E 110 108 ls (.ref 59 :: st) σ τ = mj_E 110 111 ls (.int (σ 59 0) :: st) σ τ := mj_nx i110_108 rfl
theorem i110_111 : mj_ins 110 111 = some (.ireturn, 112) := by decide +kernel
theorem e110_111 {ls : mj_L} {σ : mj_S} {τ : mj_T} {v : Int32} : mj_E 110 111 ls [.int v] σ τ = some (some (.int v), σ, τ) := mj_irt i110_111 rfl
theorem i110_112 : mj_ins 110 112 = some (.aload 0, 113) := by decide +kernel
theorem e110_112 {ls : mj_L} {st : List Value} {σ : mj_S} {τ : mj_T} {v : Nat} : mj_E 110 112 (some (.ref v) :: ls) st σ τ = mj_E 110 113 (some (.ref v) :: ls) (.ref v :: st) σ τ := mj_nx i110_112 rfl
theorem i110_113 : mj_ins 110 113 = some (.iload 1, 114) := by decide +kernel
theorem e110_113 {ls : mj_L} {st : List Value} {σ : mj_S} {τ : mj_T} {a0 : Option Value} {v : Int32} : mj_E 110 113 (a0 :: some (.int v) :: ls) st σ τ = mj_E 110 114 (a0 :: some (.int v) :: ls) (.int v :: st) σ τ := mj_nx i110_113 rfl
theorem i110_114 : mj_ins 110 114 = some (.invokevirtual 111, 117) := by decide +kernel
theorem e110_114 {ls : mj_L} {σ : mj_S} {τ : mj_T} {r : Nat} {x0 : Int32} : mj_E 110 114 ls [.int x0, .ref r] σ τ = if mj_rcv r 6 = true then mj_bd (mj_C 111 [.ref r, .int x0] σ τ) (mj_K 110 117 ls []) else none := mj_clV (as := [.int x0]) (r := []) i110_114 (by decide +kernel : mj_vk 110 111 1 0 2 false = true) (by decide +kernel)
theorem i110_117 : mj_ins 110 117 = some (.ireturn, 118) := by decide +kernel
theorem e110_117 {ls : mj_L} {σ : mj_S} {τ : mj_T} {v : Int32} : mj_E 110 117 ls [.int v] σ τ = some (some (.int v), σ, τ) := mj_irt i110_117 rfl
theorem c111 {σ : mj_S} {τ : mj_T} {r : Nat} {x0 : Int32} : mj_C 111 [.ref r, .int x0] σ τ = mj_E 111 0 [some (.ref r), some (.int x0)] [] σ τ := rfl
theorem i111_0 : mj_ins 111 0 = some (.iload 1, 1) := by decide +kernel
theorem e111_0 {ls : mj_L} {st : List Value} {σ : mj_S} {τ : mj_T} {a0 : Option Value} {v : Int32} : mj_E 111 0 (a0 :: some (.int v) :: ls) st σ τ = mj_E 111 1 (a0 :: some (.int v) :: ls) (.int v :: st) σ τ := mj_nx i111_0 rfl
theorem i111_1 : mj_ins 111 1 = some (.iconst (10), 3) := by decide +kernel
theorem e111_1 {ls : mj_L} {st : List Value} {σ : mj_S} {τ : mj_T} : mj_E 111 1 ls st σ τ = mj_E 111 3 ls (.int (nI 10) :: st) σ τ := mj_nx i111_1 rfl
theorem i111_3 : mj_ins 111 3 = some (.if_icmp .le 12, 6) := by decide +kernel
theorem e111_3 {ls : mj_L} {st : List Value} {σ : mj_S} {τ : mj_T} {x y : Int32} : mj_E 111 3 ls (.int y :: .int x :: st) σ τ = if x ≤ y then mj_E 111 12 ls st σ τ else mj_E 111 6 ls st σ τ := (mj_ifi i111_3).trans (mj_cdT rfl)
theorem i111_6 : mj_ins 111 6 = some (.iload 1, 7) := by decide +kernel
theorem e111_6 {ls : mj_L} {st : List Value} {σ : mj_S} {τ : mj_T} {a0 : Option Value} {v : Int32} : mj_E 111 6 (a0 :: some (.int v) :: ls) st σ τ = mj_E 111 7 (a0 :: some (.int v) :: ls) (.int v :: st) σ τ := mj_nx i111_6 rfl
theorem i111_7 : mj_ins 111 7 = some (.iconst (17), 9) := by decide +kernel
theorem e111_7 {ls : mj_L} {st : List Value} {σ : mj_S} {τ : mj_T} : mj_E 111 7 ls st σ τ = mj_E 111 9 ls (.int (nI 17) :: st) σ τ := mj_nx i111_7 rfl
theorem i111_9 : mj_ins 111 9 = some (.if_icmp .le 14, 12) := by decide +kernel
theorem e111_9 {ls : mj_L} {st : List Value} {σ : mj_S} {τ : mj_T} {x y : Int32} : mj_E 111 9 ls (.int y :: .int x :: st) σ τ = if x ≤ y then mj_E 111 14 ls st σ τ else mj_E 111 12 ls st σ τ := (mj_ifi i111_9).trans (mj_cdT rfl)
theorem i111_12 : mj_ins 111 12 = some (.iconst (-1), 13) := by decide +kernel
theorem e111_12 {ls : mj_L} {st : List Value} {σ : mj_S} {τ : mj_T} : mj_E 111 12 ls st σ τ = mj_E 111 13 ls (.int ((-1)) :: st) σ τ := mj_nx i111_12 rfl
theorem i111_13 : mj_ins 111 13 = some (.ireturn, 14) := by decide +kernel
theorem e111_13 {ls : mj_L} {σ : mj_S} {τ : mj_T} {v : Int32} : mj_E 111 13 ls [.int v] σ τ = some (some (.int v), σ, τ) := mj_irt i111_13 rfl
theorem i111_14 : mj_ins 111 14 = some (.aload 0, 15) := by decide +kernel
theorem e111_14 {ls : mj_L} {st : List Value} {σ : mj_S} {τ : mj_T} {v : Nat} : mj_E 111 14 (some (.ref v) :: ls) st σ τ = mj_E 111 15 (some (.ref v) :: ls) (.ref v :: st) σ τ := mj_nx i111_14 rfl
theorem i111_15 : mj_ins 111 15 = some (.getfield 608, 18) := by decide +kernel
theorem e111_15 {ls : mj_L} {st : List Value} {σ : mj_S} {τ : mj_T} : mj_E 111 15 ls (.ref 0 :: st) σ τ = mj_E 111 18 ls (.ref 61 :: st) σ τ := mj_nx i111_15 rfl
theorem i111_18 : mj_ins 111 18 = some (.iload 1, 19) := by decide +kernel
theorem e111_18 {ls : mj_L} {st : List Value} {σ : mj_S} {τ : mj_T} {a0 : Option Value} {v : Int32} : mj_E 111 18 (a0 :: some (.int v) :: ls) st σ τ = mj_E 111 19 (a0 :: some (.int v) :: ls) (.int v :: st) σ τ := mj_nx i111_18 rfl
theorem i111_19 : mj_ins 111 19 = some (.iconst (10), 21) := by decide +kernel
theorem e111_19 {ls : mj_L} {st : List Value} {σ : mj_S} {τ : mj_T} : mj_E 111 19 ls st σ τ = mj_E 111 21 ls (.int (nI 10) :: st) σ τ := mj_nx i111_19 rfl
theorem i111_21 : mj_ins 111 21 = some (.isub, 22) := by decide +kernel
theorem e111_21 {ls : mj_L} {st : List Value} {σ : mj_S} {τ : mj_T} {x y : Int32} : mj_E 111 21 ls (.int y :: .int x :: st) σ τ = mj_E 111 22 ls (.int (x - y) :: st) σ τ := mj_nx i111_21 rfl
theorem i111_22 : mj_ins 111 22 = some (.iaload, 23) := by decide +kernel
theorem e111_22 {ls : mj_L} {st : List Value} {σ : mj_S} {τ : mj_T} {x : Int32} {k : Nat} : mj_E 111 22 ls (.int x :: .ref k :: st) σ τ = if mj_ib (mj_li σ k) x = true then mj_E 111 23 ls (.int (σ k x.toNatClampNeg) :: st) σ τ else none := mj_ald i111_22
theorem i111_23 : mj_ins 111 23 = some (.ireturn, 24) := by decide +kernel
theorem e111_23 {ls : mj_L} {σ : mj_S} {τ : mj_T} {v : Int32} : mj_E 111 23 ls [.int v] σ τ = some (some (.int v), σ, τ) := mj_irt i111_23 rfl
theorem c112 {σ : mj_S} {τ : mj_T} {r : Nat} {x0 : Int32} : mj_C 112 [.ref r, .int x0] σ τ = mj_E 112 0 [some (.ref r), some (.int x0)] [] σ τ := rfl
theorem i112_0 : mj_ins 112 0 = some (.iload 1, 1) := by decide +kernel
theorem e112_0 {ls : mj_L} {st : List Value} {σ : mj_S} {τ : mj_T} {a0 : Option Value} {v : Int32} : mj_E 112 0 (a0 :: some (.int v) :: ls) st σ τ = mj_E 112 1 (a0 :: some (.int v) :: ls) (.int v :: st) σ τ := mj_nx i112_0 rfl
theorem i112_1 : mj_ins 112 1 = some (.iconst (-1), 2) := by decide +kernel
theorem e112_1 {ls : mj_L} {st : List Value} {σ : mj_S} {τ : mj_T} : mj_E 112 1 ls st σ τ = mj_E 112 2 ls (.int ((-1)) :: st) σ τ := mj_nx i112_1 rfl
theorem i112_2 : mj_ins 112 2 = some (.if_icmp .gt 22, 5) := by decide +kernel
theorem e112_2 {ls : mj_L} {st : List Value} {σ : mj_S} {τ : mj_T} {x y : Int32} : mj_E 112 2 ls (.int y :: .int x :: st) σ τ = if y < x then mj_E 112 22 ls st σ τ else mj_E 112 5 ls st σ τ := (mj_ifi i112_2).trans (mj_cdT rfl)
theorem i112_5 : mj_ins 112 5 = some (.iload 1, 6) := by decide +kernel
theorem e112_5 {ls : mj_L} {st : List Value} {σ : mj_S} {τ : mj_T} {a0 : Option Value} {v : Int32} : mj_E 112 5 (a0 :: some (.int v) :: ls) st σ τ = mj_E 112 6 (a0 :: some (.int v) :: ls) (.int v :: st) σ τ := mj_nx i112_5 rfl
theorem i112_6 : mj_ins 112 6 = some (.iconst (-7), 8) := by decide +kernel
theorem e112_6 {ls : mj_L} {st : List Value} {σ : mj_S} {τ : mj_T} : mj_E 112 6 ls st σ τ = mj_E 112 8 ls (.int ((-7)) :: st) σ τ := mj_nx i112_6 rfl
theorem i112_8 : mj_ins 112 8 = some (.if_icmp .lt 22, 11) := by decide +kernel
theorem e112_8 {ls : mj_L} {st : List Value} {σ : mj_S} {τ : mj_T} {x y : Int32} : mj_E 112 8 ls (.int y :: .int x :: st) σ τ = if x < y then mj_E 112 22 ls st σ τ else mj_E 112 11 ls st σ τ := (mj_ifi i112_8).trans (mj_cdT rfl)
theorem i112_11 : mj_ins 112 11 = some (.aload 0, 12) := by decide +kernel
theorem e112_11 {ls : mj_L} {st : List Value} {σ : mj_S} {τ : mj_T} {v : Nat} : mj_E 112 11 (some (.ref v) :: ls) st σ τ = mj_E 112 12 (some (.ref v) :: ls) (.ref v :: st) σ τ := mj_nx i112_11 rfl
theorem i112_12 : mj_ins 112 12 = some (.getfield 608, 15) := by decide +kernel
theorem e112_12 {ls : mj_L} {st : List Value} {σ : mj_S} {τ : mj_T} : mj_E 112 12 ls (.ref 0 :: st) σ τ = mj_E 112 15 ls (.ref 61 :: st) σ τ := mj_nx i112_12 rfl
theorem i112_15 : mj_ins 112 15 = some (.iload 1, 16) := by decide +kernel
theorem e112_15 {ls : mj_L} {st : List Value} {σ : mj_S} {τ : mj_T} {a0 : Option Value} {v : Int32} : mj_E 112 15 (a0 :: some (.int v) :: ls) st σ τ = mj_E 112 16 (a0 :: some (.int v) :: ls) (.int v :: st) σ τ := mj_nx i112_15 rfl
theorem i112_16 : mj_ins 112 16 = some (.ineg, 17) := by decide +kernel
theorem e112_16 {ls : mj_L} {st : List Value} {σ : mj_S} {τ : mj_T} {x : Int32} : mj_E 112 16 ls (.int x :: st) σ τ = mj_E 112 17 ls (.int (-x) :: st) σ τ := mj_nx i112_16 rfl
theorem i112_17 : mj_ins 112 17 = some (.dup2, 18) := by decide +kernel
theorem e112_17 {ls : mj_L} {st : List Value} {σ : mj_S} {τ : mj_T} {y : Int32} {x : Nat} : mj_E 112 17 ls (.int y :: .ref x :: st) σ τ = mj_E 112 18 ls (.int y :: .ref x :: .int y :: .ref x :: st) σ τ := mj_nx i112_17 rfl
theorem i112_18 : mj_ins 112 18 = some (.iaload, 19) := by decide +kernel
theorem e112_18 {ls : mj_L} {st : List Value} {σ : mj_S} {τ : mj_T} {x : Int32} {k : Nat} : mj_E 112 18 ls (.int x :: .ref k :: st) σ τ = if mj_ib (mj_li σ k) x = true then mj_E 112 19 ls (.int (σ k x.toNatClampNeg) :: st) σ τ else none := mj_ald i112_18
theorem i112_19 : mj_ins 112 19 = some (.iconst (1), 20) := by decide +kernel
theorem e112_19 {ls : mj_L} {st : List Value} {σ : mj_S} {τ : mj_T} : mj_E 112 19 ls st σ τ = mj_E 112 20 ls (.int (nI 1) :: st) σ τ := mj_nx i112_19 rfl
theorem i112_20 : mj_ins 112 20 = some (.iadd, 21) := by decide +kernel
theorem e112_20 {ls : mj_L} {st : List Value} {σ : mj_S} {τ : mj_T} {x y : Int32} : mj_E 112 20 ls (.int y :: .int x :: st) σ τ = mj_E 112 21 ls (.int (x + y) :: st) σ τ := mj_nx i112_20 rfl
theorem i112_21 : mj_ins 112 21 = some (.iastore, 22) := by decide +kernel
theorem e112_21 {ls : mj_L} {st : List Value} {σ : mj_S} {τ : mj_T} {x v : Int32} {k : Nat} : mj_E 112 21 ls (.int v :: .int x :: .ref k :: st) σ τ = if mj_ib (mj_lw k) x = true then mj_E 112 22 ls st (mj_up σ k x.toNatClampNeg v) τ else none := mj_ast i112_21
theorem i112_22 : mj_ins 112 22 = some (.iload 1, 23) := by decide +kernel
theorem e112_22 {ls : mj_L} {st : List Value} {σ : mj_S} {τ : mj_T} {a0 : Option Value} {v : Int32} : mj_E 112 22 (a0 :: some (.int v) :: ls) st σ τ = mj_E 112 23 (a0 :: some (.int v) :: ls) (.int v :: st) σ τ := mj_nx i112_22 rfl
theorem i112_23 : mj_ins 112 23 = some (.ireturn, 24) := by decide +kernel
theorem e112_23 {ls : mj_L} {σ : mj_S} {τ : mj_T} {v : Int32} : mj_E 112 23 ls [.int v] σ τ = some (some (.int v), σ, τ) := mj_irt i112_23 rfl
theorem c113 {σ : mj_S} {τ : mj_T} {r : Nat} {x0 : Int32} : mj_C 113 [.ref r, .int x0] σ τ = mj_E 113 0 [some (.ref r), some (.int x0)] [] σ τ := rfl
theorem i113_0 : mj_ins 113 0 = some (.aload 0, 1) := by decide +kernel
theorem e113_0 {ls : mj_L} {st : List Value} {σ : mj_S} {τ : mj_T} {v : Nat} : mj_E 113 0 (some (.ref v) :: ls) st σ τ = mj_E 113 1 (some (.ref v) :: ls) (.ref v :: st) σ τ := mj_nx i113_0 rfl
theorem i113_1 : mj_ins 113 1 = some (.iload 1, 2) := by decide +kernel
theorem e113_1 {ls : mj_L} {st : List Value} {σ : mj_S} {τ : mj_T} {a0 : Option Value} {v : Int32} : mj_E 113 1 (a0 :: some (.int v) :: ls) st σ τ = mj_E 113 2 (a0 :: some (.int v) :: ls) (.int v :: st) σ τ := mj_nx i113_1 rfl
theorem i113_2 : mj_ins 113 2 = some (.invokevirtual 112, 5) := by decide +kernel
theorem e113_2 {ls : mj_L} {σ : mj_S} {τ : mj_T} {r : Nat} {x0 : Int32} : mj_E 113 2 ls [.int x0, .ref r] σ τ = if mj_rcv r 6 = true then mj_bd (mj_C 112 [.ref r, .int x0] σ τ) (mj_K 113 5 ls []) else none := mj_clV (as := [.int x0]) (r := []) i113_2 (by decide +kernel : mj_vk 113 112 1 0 2 false = true) (by decide +kernel)
theorem i113_5 : mj_ins 113 5 = some (.iconst (10), 7) := by decide +kernel
theorem e113_5 {ls : mj_L} {st : List Value} {σ : mj_S} {τ : mj_T} : mj_E 113 5 ls st σ τ = mj_E 113 7 ls (.int (nI 10) :: st) σ τ := mj_nx i113_5 rfl
theorem i113_7 : mj_ins 113 7 = some (.isub, 8) := by decide +kernel
theorem e113_7 {ls : mj_L} {st : List Value} {σ : mj_S} {τ : mj_T} {x y : Int32} : mj_E 113 7 ls (.int y :: .int x :: st) σ τ = mj_E 113 8 ls (.int (x - y) :: st) σ τ := mj_nx i113_7 rfl
theorem i113_8 : mj_ins 113 8 = some (.ireturn, 9) := by decide +kernel
theorem e113_8 {ls : mj_L} {σ : mj_S} {τ : mj_T} {v : Int32} : mj_E 113 8 ls [.int v] σ τ = some (some (.int v), σ, τ) := mj_irt i113_8 rfl
theorem c114 {σ : mj_S} {τ : mj_T} {r : Nat} {x0 : Int32} : mj_C 114 [.ref r, .int x0] σ τ = mj_E 114 0 [some (.ref r), some (.int x0)] [] σ τ := rfl
theorem i114_0 : mj_ins 114 0 = some (.iload 1, 1) := by decide +kernel
theorem e114_0 {ls : mj_L} {st : List Value} {σ : mj_S} {τ : mj_T} {a0 : Option Value} {v : Int32} : mj_E 114 0 (a0 :: some (.int v) :: ls) st σ τ = mj_E 114 1 (a0 :: some (.int v) :: ls) (.int v :: st) σ τ := mj_nx i114_0 rfl
theorem i114_1 : mj_ins 114 1 = some (.ifCond .lt 19, 4) := by decide +kernel
theorem e114_1 {ls : mj_L} {st : List Value} {σ : mj_S} {τ : mj_T} {x : Int32} : mj_E 114 1 ls (.int x :: st) σ τ = if x < 0 then mj_E 114 19 ls st σ τ else mj_E 114 4 ls st σ τ := (mj_ifc i114_1).trans (mj_cdT rfl)
theorem i114_4 : mj_ins 114 4 = some (.iload 1, 5) := by decide +kernel
theorem e114_4 {ls : mj_L} {st : List Value} {σ : mj_S} {τ : mj_T} {a0 : Option Value} {v : Int32} : mj_E 114 4 (a0 :: some (.int v) :: ls) st σ τ = mj_E 114 5 (a0 :: some (.int v) :: ls) (.int v :: st) σ τ := mj_nx i114_4 rfl
theorem i114_5 : mj_ins 114 5 = some (.iconst (8), 7) := by decide +kernel
theorem e114_5 {ls : mj_L} {st : List Value} {σ : mj_S} {τ : mj_T} : mj_E 114 5 ls st σ τ = mj_E 114 7 ls (.int (nI 8) :: st) σ τ := mj_nx i114_5 rfl
theorem i114_7 : mj_ins 114 7 = some (.if_icmp .ge 19, 10) := by decide +kernel
theorem e114_7 {ls : mj_L} {st : List Value} {σ : mj_S} {τ : mj_T} {x y : Int32} : mj_E 114 7 ls (.int y :: .int x :: st) σ τ = if y ≤ x then mj_E 114 19 ls st σ τ else mj_E 114 10 ls st σ τ := (mj_ifi i114_7).trans (mj_cdT rfl)
theorem i114_10 : mj_ins 114 10 = some (.aload 0, 11) := by decide +kernel
theorem e114_10 {ls : mj_L} {st : List Value} {σ : mj_S} {τ : mj_T} {v : Nat} : mj_E 114 10 (some (.ref v) :: ls) st σ τ = mj_E 114 11 (some (.ref v) :: ls) (.ref v :: st) σ τ := mj_nx i114_10 rfl
theorem i114_11 : mj_ins 114 11 = some (.getfield 604, 14) := by decide +kernel
theorem e114_11 {ls : mj_L} {st : List Value} {σ : mj_S} {τ : mj_T} : mj_E 114 11 ls (.ref 0 :: st) σ τ = mj_E 114 14 ls (.ref 7 :: st) σ τ := mj_nx i114_11 rfl
theorem i114_14 : mj_ins 114 14 = some (.iload 1, 15) := by decide +kernel
theorem e114_14 {ls : mj_L} {st : List Value} {σ : mj_S} {τ : mj_T} {a0 : Option Value} {v : Int32} : mj_E 114 14 (a0 :: some (.int v) :: ls) st σ τ = mj_E 114 15 (a0 :: some (.int v) :: ls) (.int v :: st) σ τ := mj_nx i114_14 rfl
theorem i114_15 : mj_ins 114 15 = some (.aaload, 16) := by decide +kernel
theorem e114_15 {ls : mj_L} {st : List Value} {σ : mj_S} {τ : mj_T} {x : Int32} : mj_E 114 15 ls (.int x :: .ref 7 :: st) σ τ = if mj_ib (some 8) x = true then mj_E 114 16 ls (.ref (40 + x.toNatClampNeg) :: st) σ τ else none := mj_aald i114_15
theorem i114_16 : mj_ins 114 16 = some (.goto 20, 19) := by decide +kernel
theorem e114_16 {ls : mj_L} {st : List Value} {σ : mj_S} {τ : mj_T} : mj_E 114 16 ls st σ τ = mj_E 114 20 ls st σ τ := mj_nx i114_16 rfl
theorem i114_19 : mj_ins 114 19 = some (.aconst_null, 20) := by decide +kernel
theorem e114_19 {ls : mj_L} {st : List Value} {σ : mj_S} {τ : mj_T} : mj_E 114 19 ls st σ τ = mj_E 114 20 ls (.null :: st) σ τ := mj_nx i114_19 rfl
theorem i114_20 : mj_ins 114 20 = some (.areturn, 21) := by decide +kernel
theorem e114_20 {ls : mj_L} {σ : mj_S} {τ : mj_T} {v : Nat} : mj_E 114 20 ls [.ref v] σ τ = some (some (.ref v), σ, τ) := mj_art i114_20 rfl rfl
theorem e114_20n {ls : mj_L} {σ : mj_S} {τ : mj_T} : mj_E 114 20 ls [.null] σ τ = some (some .null, σ, τ) := mj_nrt i114_20 rfl rfl
theorem c115 {σ : mj_S} {τ : mj_T} {x0 : Nat} : mj_C 115 [.ref x0] σ τ = mj_E 115 0 [some (.ref x0)] [] σ τ := rfl
theorem c115n {σ : mj_S} {τ : mj_T} : mj_C 115 [.null] σ τ = mj_E 115 0 [some .null] [] σ τ := rfl
theorem i115_0 : mj_ins 115 0 = some (.aload 0, 1) := by decide +kernel
theorem e115_0 {ls : mj_L} {st : List Value} {σ : mj_S} {τ : mj_T} {v : Nat} : mj_E 115 0 (some (.ref v) :: ls) st σ τ = mj_E 115 1 (some (.ref v) :: ls) (.ref v :: st) σ τ := mj_nx i115_0 rfl
theorem i115_1 : mj_ins 115 1 = some (.ifnonnull 6, 4) := by decide +kernel
theorem e115_1 {ls : mj_L} {st : List Value} {σ : mj_S} {τ : mj_T} {v : Nat} : mj_E 115 1 ls (.ref v :: st) σ τ = mj_E 115 6 ls st σ τ := mj_nx i115_1 rfl
theorem e115_1n {ls : mj_L} {st : List Value} {σ : mj_S} {τ : mj_T} : mj_E 115 1 ls (.null :: st) σ τ = mj_E 115 4 ls st σ τ := mj_nx i115_1 rfl
theorem i115_4 : mj_ins 115 4 = some (.iconst (-1), 5) := by decide +kernel
theorem e115_4 {ls : mj_L} {st : List Value} {σ : mj_S} {τ : mj_T} : mj_E 115 4 ls st σ τ = mj_E 115 5 ls (.int ((-1)) :: st) σ τ := mj_nx i115_4 rfl
theorem i115_5 : mj_ins 115 5 = some (.ireturn, 6) := by decide +kernel
theorem e115_5 {ls : mj_L} {σ : mj_S} {τ : mj_T} {v : Int32} : mj_E 115 5 ls [.int v] σ τ = some (some (.int v), σ, τ) := mj_irt i115_5 rfl
theorem i115_6 : mj_ins 115 6 = some (.aload 0, 7) := by decide +kernel
theorem e115_6 {ls : mj_L} {st : List Value} {σ : mj_S} {τ : mj_T} {v : Nat} : mj_E 115 6 (some (.ref v) :: ls) st σ τ = mj_E 115 7 (some (.ref v) :: ls) (.ref v :: st) σ τ := mj_nx i115_6 rfl
theorem i115_7 : mj_ins 115 7 = some (.invokevirtual 62, 10) := by decide +kernel
theorem e115_7 {ls : mj_L} {σ : mj_S} {τ : mj_T} {r : Nat} : mj_E 115 7 ls [.ref r] σ τ = if mj_rcv r 4 = true then mj_bd (mj_C 62 [.ref r] σ τ) (mj_K 115 10 ls []) else none := mj_clV (as := []) (r := []) i115_7 (by decide +kernel : mj_vk 115 62 0 0 1 false = true) (by decide +kernel)
theorem i115_10 : mj_ins 115 10 = some (.ifCond .eq 16, 13) := by decide +kernel
theorem e115_10 {ls : mj_L} {st : List Value} {σ : mj_S} {τ : mj_T} {x : Int32} : mj_E 115 10 ls (.int x :: st) σ τ = if x = 0 then mj_E 115 16 ls st σ τ else mj_E 115 13 ls st σ τ := (mj_ifc i115_10).trans (mj_cdT rfl)
theorem i115_13 : mj_ins 115 13 = some (.iconst (-2), 15) := by decide +kernel
theorem e115_13 {ls : mj_L} {st : List Value} {σ : mj_S} {τ : mj_T} : mj_E 115 13 ls st σ τ = mj_E 115 15 ls (.int ((-2)) :: st) σ τ := mj_nx i115_13 rfl
theorem i115_15 : mj_ins 115 15 = some (.ireturn, 16) := by decide +kernel
theorem e115_15 {ls : mj_L} {σ : mj_S} {τ : mj_T} {v : Int32} : mj_E 115 15 ls [.int v] σ τ = some (some (.int v), σ, τ) := mj_irt i115_15 rfl
theorem i115_16 : mj_ins 115 16 = some (.aload 0, 17) := by decide +kernel
theorem e115_16 {ls : mj_L} {st : List Value} {σ : mj_S} {τ : mj_T} {v : Nat} : mj_E 115 16 (some (.ref v) :: ls) st σ τ = mj_E 115 17 (some (.ref v) :: ls) (.ref v :: st) σ τ := mj_nx i115_16 rfl
theorem i115_17 : mj_ins 115 17 = some (.invokevirtual 61, 20) := by decide +kernel
theorem e115_17 {ls : mj_L} {σ : mj_S} {τ : mj_T} {r : Nat} : mj_E 115 17 ls [.ref r] σ τ = if mj_rcv r 4 = true then mj_bd (mj_C 61 [.ref r] σ τ) (mj_K 115 20 ls []) else none := mj_clV (as := []) (r := []) i115_17 (by decide +kernel : mj_vk 115 61 0 0 1 false = true) (by decide +kernel)
theorem i115_20 : mj_ins 115 20 = some (.ifCond .eq 27, 23) := by decide +kernel
theorem e115_20 {ls : mj_L} {st : List Value} {σ : mj_S} {τ : mj_T} {x : Int32} : mj_E 115 20 ls (.int x :: st) σ τ = if x = 0 then mj_E 115 27 ls st σ τ else mj_E 115 23 ls st σ τ := (mj_ifc i115_20).trans (mj_cdT rfl)
theorem i115_23 : mj_ins 115 23 = some (.iconst (0), 24) := by decide +kernel
theorem e115_23 {ls : mj_L} {st : List Value} {σ : mj_S} {τ : mj_T} : mj_E 115 23 ls st σ τ = mj_E 115 24 ls (.int (nI 0) :: st) σ τ := mj_nx i115_23 rfl
theorem i115_24 : mj_ins 115 24 = some (.goto 29, 27) := by decide +kernel
theorem e115_24 {ls : mj_L} {st : List Value} {σ : mj_S} {τ : mj_T} : mj_E 115 24 ls st σ τ = mj_E 115 29 ls st σ τ := mj_nx i115_24 rfl
theorem i115_27 : mj_ins 115 27 = some (.iconst (-3), 29) := by decide +kernel
theorem e115_27 {ls : mj_L} {st : List Value} {σ : mj_S} {τ : mj_T} : mj_E 115 27 ls st σ τ = mj_E 115 29 ls (.int ((-3)) :: st) σ τ := mj_nx i115_27 rfl
theorem i115_29 : mj_ins 115 29 = some (.ireturn, 30) := by decide +kernel
theorem e115_29 {ls : mj_L} {σ : mj_S} {τ : mj_T} {v : Int32} : mj_E 115 29 ls [.int v] σ τ = some (some (.int v), σ, τ) := mj_irt i115_29 rfl
theorem c116 {σ : mj_S} {τ : mj_T} {x0 : Int32} {x1 : Int32} : mj_C 116 [.int x0, .int x1] σ τ = mj_E 116 0 [some (.int x0), some (.int x1)] [] σ τ := rfl
theorem i116_0 : mj_ins 116 0 = some (.iload 0, 1) := by decide +kernel
theorem e116_0 {ls : mj_L} {st : List Value} {σ : mj_S} {τ : mj_T} {v : Int32} : mj_E 116 0 (some (.int v) :: ls) st σ τ = mj_E 116 1 (some (.int v) :: ls) (.int v :: st) σ τ := mj_nx i116_0 rfl
theorem i116_1 : mj_ins 116 1 = some (.ifCond .lt 13, 4) := by decide +kernel
theorem e116_1 {ls : mj_L} {st : List Value} {σ : mj_S} {τ : mj_T} {x : Int32} : mj_E 116 1 ls (.int x :: st) σ τ = if x < 0 then mj_E 116 13 ls st σ τ else mj_E 116 4 ls st σ τ := (mj_ifc i116_1).trans (mj_cdT rfl)
theorem i116_4 : mj_ins 116 4 = some (.iload 0, 5) := by decide +kernel
theorem e116_4 {ls : mj_L} {st : List Value} {σ : mj_S} {τ : mj_T} {v : Int32} : mj_E 116 4 (some (.int v) :: ls) st σ τ = mj_E 116 5 (some (.int v) :: ls) (.int v :: st) σ τ := mj_nx i116_4 rfl
theorem i116_5 : mj_ins 116 5 = some (.iload 1, 6) := by decide +kernel
theorem e116_5 {ls : mj_L} {st : List Value} {σ : mj_S} {τ : mj_T} {a0 : Option Value} {v : Int32} : mj_E 116 5 (a0 :: some (.int v) :: ls) st σ τ = mj_E 116 6 (a0 :: some (.int v) :: ls) (.int v :: st) σ τ := mj_nx i116_5 rfl
theorem i116_6 : mj_ins 116 6 = some (.if_icmp .gt 13, 9) := by decide +kernel
theorem e116_6 {ls : mj_L} {st : List Value} {σ : mj_S} {τ : mj_T} {x y : Int32} : mj_E 116 6 ls (.int y :: .int x :: st) σ τ = if y < x then mj_E 116 13 ls st σ τ else mj_E 116 9 ls st σ τ := (mj_ifi i116_6).trans (mj_cdT rfl)
theorem i116_9 : mj_ins 116 9 = some (.iconst (1), 10) := by decide +kernel
theorem e116_9 {ls : mj_L} {st : List Value} {σ : mj_S} {τ : mj_T} : mj_E 116 9 ls st σ τ = mj_E 116 10 ls (.int (nI 1) :: st) σ τ := mj_nx i116_9 rfl
theorem i116_10 : mj_ins 116 10 = some (.goto 14, 13) := by decide +kernel
theorem e116_10 {ls : mj_L} {st : List Value} {σ : mj_S} {τ : mj_T} : mj_E 116 10 ls st σ τ = mj_E 116 14 ls st σ τ := mj_nx i116_10 rfl
theorem i116_13 : mj_ins 116 13 = some (.iconst (0), 14) := by decide +kernel
theorem e116_13 {ls : mj_L} {st : List Value} {σ : mj_S} {τ : mj_T} : mj_E 116 13 ls st σ τ = mj_E 116 14 ls (.int (nI 0) :: st) σ τ := mj_nx i116_13 rfl
theorem i116_14 : mj_ins 116 14 = some (.ireturn, 15) := by decide +kernel
theorem e116_14 {ls : mj_L} {σ : mj_S} {τ : mj_T} {v : Int32} : mj_E 116 14 ls [.int v] σ τ = if mj_ok (some .boolean) v = true then some (some (.int v), σ, τ) else none := mj_zrt i116_14 rfl
