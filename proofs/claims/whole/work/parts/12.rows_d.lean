/-! the equations of the instructions (laid by wip/whole/rows.py) -/
theorem c44 {σ : mj_S} {τ : mj_T} {r : Nat} {x0 : Nat} {x1 : Nat} : mj_C 44 [.ref r, .ref x0, .ref x1] σ τ = mj_E 44 0 [some (.ref r), some (.ref x0), some (.ref x1), none, none] [] σ τ := rfl
theorem i44_0 : mj_ins 44 0 = some (.aload 0, 1) := by decide +kernel
theorem e44_0 {ls : mj_L} {st : List Value} {σ : mj_S} {τ : mj_T} {v : Nat} : mj_E 44 0 (some (.ref v) :: ls) st σ τ = mj_E 44 1 (some (.ref v) :: ls) (.ref v :: st) σ τ := mj_nx i44_0 rfl
theorem i44_1 : mj_ins 44 1 = some (.iconst (-1), 2) := by decide +kernel
theorem e44_1 {ls : mj_L} {st : List Value} {σ : mj_S} {τ : mj_T} : mj_E 44 1 ls st σ τ = mj_E 44 2 ls (.int ((-1)) :: st) σ τ := mj_nx i44_1 rfl
theorem i44_2 : mj_ins 44 2 = some (.putfield 300, 5) := by decide +kernel
theorem e44_2 {ls : mj_L} {st : List Value} {σ : mj_S} {τ : mj_T} {v : Int32} : mj_E 44 2 ls (.int v :: .ref 9 :: st) σ τ = mj_E 44 5 ls st (mj_up σ 9 0 v) τ := mj_nx i44_2 rfl
theorem i44_5 : mj_ins 44 5 = some (.aload 0, 6) := by decide +kernel
theorem e44_5 {ls : mj_L} {st : List Value} {σ : mj_S} {τ : mj_T} {v : Nat} : mj_E 44 5 (some (.ref v) :: ls) st σ τ = mj_E 44 6 (some (.ref v) :: ls) (.ref v :: st) σ τ := mj_nx i44_5 rfl
theorem i44_6 : mj_ins 44 6 = some (.iconst (0), 7) := by decide +kernel
theorem e44_6 {ls : mj_L} {st : List Value} {σ : mj_S} {τ : mj_T} : mj_E 44 6 ls st σ τ = mj_E 44 7 ls (.int (nI 0) :: st) σ τ := mj_nx i44_6 rfl
theorem i44_7 : mj_ins 44 7 = some (.putfield 302, 10) := by decide +kernel
theorem e44_7 {ls : mj_L} {st : List Value} {σ : mj_S} {τ : mj_T} {v : Int32} : mj_E 44 7 ls (.int v :: .ref 9 :: st) σ τ = mj_E 44 10 ls st (mj_up σ 9 2 v) τ := mj_nx i44_7 rfl
theorem i44_10 : mj_ins 44 10 = some (.iconst (0), 11) := by decide +kernel
theorem e44_10 {ls : mj_L} {st : List Value} {σ : mj_S} {τ : mj_T} : mj_E 44 10 ls st σ τ = mj_E 44 11 ls (.int (nI 0) :: st) σ τ := mj_nx i44_10 rfl
theorem i44_11 : mj_ins 44 11 = some (.istore 3, 12) := by decide +kernel
theorem e44_11 {ls : mj_L} {st : List Value} {σ : mj_S} {τ : mj_T} {a0 a1 a2 a3 : Option Value} {v : Int32} : mj_E 44 11 (a0 :: a1 :: a2 :: a3 :: ls) (.int v :: st) σ τ = mj_E 44 12 (a0 :: a1 :: a2 :: some (.int v) :: ls) st σ τ := mj_nx i44_11 rfl
theorem i44_12 : mj_ins 44 12 = some (.iconst (1), 13) := by decide +kernel
theorem e44_12 {ls : mj_L} {st : List Value} {σ : mj_S} {τ : mj_T} : mj_E 44 12 ls st σ τ = mj_E 44 13 ls (.int (nI 1) :: st) σ τ := mj_nx i44_12 rfl
theorem i44_13 : mj_ins 44 13 = some (.istore 4, 15) := by decide +kernel
theorem e44_13 {ls : mj_L} {st : List Value} {σ : mj_S} {τ : mj_T} {a0 a1 a2 a3 a4 : Option Value} {v : Int32} : mj_E 44 13 (a0 :: a1 :: a2 :: a3 :: a4 :: ls) (.int v :: st) σ τ = mj_E 44 15 (a0 :: a1 :: a2 :: a3 :: some (.int v) :: ls) st σ τ := mj_nx i44_13 rfl
theorem i44_15 : mj_ins 44 15 = some (.iload 4, 17) := by decide +kernel
theorem e44_15 {ls : mj_L} {st : List Value} {σ : mj_S} {τ : mj_T} {a0 a1 a2 a3 : Option Value} {v : Int32} : mj_E 44 15 (a0 :: a1 :: a2 :: a3 :: some (.int v) :: ls) st σ τ = mj_E 44 17 (a0 :: a1 :: a2 :: a3 :: some (.int v) :: ls) (.int v :: st) σ τ := mj_nx i44_15 rfl
theorem i44_17 : mj_ins 44 17 = some (.ifCond .eq 70, 20) := by decide +kernel
theorem e44_17 {ls : mj_L} {st : List Value} {σ : mj_S} {τ : mj_T} {x : Int32} : mj_E 44 17 ls (.int x :: st) σ τ = if x = 0 then mj_E 44 70 ls st σ τ else mj_E 44 20 ls st σ τ := (mj_ifc i44_17).trans (mj_cdT rfl)
theorem i44_20 : mj_ins 44 20 = some (.iload 3, 21) := by decide +kernel
theorem e44_20 {ls : mj_L} {st : List Value} {σ : mj_S} {τ : mj_T} {a0 a1 a2 : Option Value} {v : Int32} : mj_E 44 20 (a0 :: a1 :: a2 :: some (.int v) :: ls) st σ τ = mj_E 44 21 (a0 :: a1 :: a2 :: some (.int v) :: ls) (.int v :: st) σ τ := mj_nx i44_20 rfl
theorem i44_21 : mj_ins 44 21 = some (.iconst (160), 24) := by decide +kernel
theorem e44_21 {ls : mj_L} {st : List Value} {σ : mj_S} {τ : mj_T} : mj_E 44 21 ls st σ τ = mj_E 44 24 ls (.int (nI 160) :: st) σ τ := mj_nx i44_21 rfl
theorem i44_24 : mj_ins 44 24 = some (.if_icmp .ge 70, 27) := by decide +kernel
theorem e44_24 {ls : mj_L} {st : List Value} {σ : mj_S} {τ : mj_T} {x y : Int32} : mj_E 44 24 ls (.int y :: .int x :: st) σ τ = if y ≤ x then mj_E 44 70 ls st σ τ else mj_E 44 27 ls st σ τ := (mj_ifi i44_24).trans (mj_cdT rfl)
theorem i44_27 : mj_ins 44 27 = some (.aload 0, 28) := by decide +kernel
theorem e44_27 {ls : mj_L} {st : List Value} {σ : mj_S} {τ : mj_T} {v : Nat} : mj_E 44 27 (some (.ref v) :: ls) st σ τ = mj_E 44 28 (some (.ref v) :: ls) (.ref v :: st) σ τ := mj_nx i44_27 rfl
theorem i44_28 : mj_ins 44 28 = some (.aload 1, 29) := by decide +kernel
theorem e44_28 {ls : mj_L} {st : List Value} {σ : mj_S} {τ : mj_T} {a0 : Option Value} {v : Nat} : mj_E 44 28 (a0 :: some (.ref v) :: ls) st σ τ = mj_E 44 29 (a0 :: some (.ref v) :: ls) (.ref v :: st) σ τ := mj_nx i44_28 rfl
theorem i44_29 : mj_ins 44 29 = some (.aload 2, 30) := by decide +kernel
theorem e44_29 {ls : mj_L} {st : List Value} {σ : mj_S} {τ : mj_T} {a0 a1 : Option Value} {v : Nat} : mj_E 44 29 (a0 :: a1 :: some (.ref v) :: ls) st σ τ = mj_E 44 30 (a0 :: a1 :: some (.ref v) :: ls) (.ref v :: st) σ τ := mj_nx i44_29 rfl
theorem i44_30 : mj_ins 44 30 = some (.invokevirtual 45, 33) := by decide +kernel
theorem e44_30 {ls : mj_L} {σ : mj_S} {τ : mj_T} {r : Nat} {x0 : Nat} {x1 : Nat} : mj_E 44 30 ls [.ref x1, .ref x0, .ref r] σ τ = if mj_rcv r 3 = true then mj_bd (mj_C 45 [.ref r, .ref x0, .ref x1] σ τ) (mj_K 44 33 ls []) else none := mj_clV (as := [.ref x0, .ref x1]) (r := []) i44_30 (by decide +kernel : mj_vk 44 45 2 0 3 false = true) (by decide +kernel)
theorem i44_33 : mj_ins 44 33 = some (.ifCond .eq 61, 36) := by decide +kernel
theorem e44_33 {ls : mj_L} {st : List Value} {σ : mj_S} {τ : mj_T} {x : Int32} : mj_E 44 33 ls (.int x :: st) σ τ = if x = 0 then mj_E 44 61 ls st σ τ else mj_E 44 36 ls st σ τ := (mj_ifc i44_33).trans (mj_cdT rfl)
theorem i44_36 : mj_ins 44 36 = some (.aload 0, 37) := by decide +kernel
theorem e44_36 {ls : mj_L} {st : List Value} {σ : mj_S} {τ : mj_T} {v : Nat} : mj_E 44 36 (some (.ref v) :: ls) st σ τ = mj_E 44 37 (some (.ref v) :: ls) (.ref v :: st) σ τ := mj_nx i44_36 rfl
theorem i44_37 : mj_ins 44 37 = some (.getfield 302, 40) := by decide +kernel
theorem e44_37 {ls : mj_L} {st : List Value} {σ : mj_S} {τ : mj_T} : mj_E 44 37 ls (.ref 9 :: st) σ τ = mj_E 44 40 ls (.int (σ 9 2) :: st) σ τ := mj_nx i44_37 rfl
theorem i44_40 : mj_ins 44 40 = some (.aload 2, 41) := by decide +kernel
theorem e44_40 {ls : mj_L} {st : List Value} {σ : mj_S} {τ : mj_T} {a0 a1 : Option Value} {v : Nat} : mj_E 44 40 (a0 :: a1 :: some (.ref v) :: ls) st σ τ = mj_E 44 41 (a0 :: a1 :: some (.ref v) :: ls) (.ref v :: st) σ τ := mj_nx i44_40 rfl
theorem i44_41 : mj_ins 44 41 = some (.getfield 402, 44) := by decide +kernel
theorem e44_41 {ls : mj_L} {st : List Value} {σ : mj_S} {τ : mj_T} {k : Nat} (h1 : 40 ≤ k) (h2 : k ≤ 47) : mj_E 44 41 ls (.ref k :: st) σ τ = mj_E 44 44 ls (.int (σ k 2) :: st) σ τ := (mj_gf i44_41).trans (congrArg (fun z => mj_ov z _) (fv4_2 h1 h2))
theorem i44_44 : mj_ins 44 44 = some (.if_icmp .ge 61, 47) := by decide +kernel
theorem e44_44 {ls : mj_L} {st : List Value} {σ : mj_S} {τ : mj_T} {x y : Int32} : mj_E 44 44 ls (.int y :: .int x :: st) σ τ = if y ≤ x then mj_E 44 61 ls st σ τ else mj_E 44 47 ls st σ τ := (mj_ifi i44_44).trans (mj_cdT rfl)
theorem i44_47 : mj_ins 44 47 = some (.aload 0, 48) := by decide +kernel
theorem e44_47 {ls : mj_L} {st : List Value} {σ : mj_S} {τ : mj_T} {v : Nat} : mj_E 44 47 (some (.ref v) :: ls) st σ τ = mj_E 44 48 (some (.ref v) :: ls) (.ref v :: st) σ τ := mj_nx i44_47 rfl
theorem i44_48 : mj_ins 44 48 = some (.aload 2, 49) := by decide +kernel
theorem e44_48 {ls : mj_L} {st : List Value} {σ : mj_S} {τ : mj_T} {a0 a1 : Option Value} {v : Nat} : mj_E 44 48 (a0 :: a1 :: some (.ref v) :: ls) st σ τ = mj_E 44 49 (a0 :: a1 :: some (.ref v) :: ls) (.ref v :: st) σ τ := mj_nx i44_48 rfl
theorem i44_49 : mj_ins 44 49 = some (.iconst (59), 51) := by decide +kernel
theorem e44_49 {ls : mj_L} {st : List Value} {σ : mj_S} {τ : mj_T} : mj_E 44 49 ls st σ τ = mj_E 44 51 ls (.int (nI 59) :: st) σ τ := mj_nx i44_49 rfl
theorem i44_51 : mj_ins 44 51 = some (.invokevirtual 47, 54) := by decide +kernel
theorem e44_51 {ls : mj_L} {σ : mj_S} {τ : mj_T} {r : Nat} {x0 : Nat} {x1 : Int32} : mj_E 44 51 ls [.int x1, .ref x0, .ref r] σ τ = if mj_rcv r 3 = true then mj_bd (mj_C 47 [.ref r, .ref x0, .int x1] σ τ) (mj_K 44 54 ls []) else none := mj_clV (as := [.ref x0, .int x1]) (r := []) i44_51 (by decide +kernel : mj_vk 44 47 2 0 3 false = true) (by decide +kernel)
theorem i44_54 : mj_ins 44 54 = some (.ifCond .eq 61, 57) := by decide +kernel
theorem e44_54 {ls : mj_L} {st : List Value} {σ : mj_S} {τ : mj_T} {x : Int32} : mj_E 44 54 ls (.int x :: st) σ τ = if x = 0 then mj_E 44 61 ls st σ τ else mj_E 44 57 ls st σ τ := (mj_ifc i44_54).trans (mj_cdT rfl)
theorem i44_57 : mj_ins 44 57 = some (.iconst (1), 58) := by decide +kernel
theorem e44_57 {ls : mj_L} {st : List Value} {σ : mj_S} {τ : mj_T} : mj_E 44 57 ls st σ τ = mj_E 44 58 ls (.int (nI 1) :: st) σ τ := mj_nx i44_57 rfl
theorem i44_58 : mj_ins 44 58 = some (.goto 62, 61) := by decide +kernel
theorem e44_58 {ls : mj_L} {st : List Value} {σ : mj_S} {τ : mj_T} : mj_E 44 58 ls st σ τ = mj_E 44 62 ls st σ τ := mj_nx i44_58 rfl
theorem i44_61 : mj_ins 44 61 = some (.iconst (0), 62) := by decide +kernel
theorem e44_61 {ls : mj_L} {st : List Value} {σ : mj_S} {τ : mj_T} : mj_E 44 61 ls st σ τ = mj_E 44 62 ls (.int (nI 0) :: st) σ τ := mj_nx i44_61 rfl
theorem i44_62 : mj_ins 44 62 = some (.istore 4, 64) := by decide +kernel
theorem e44_62 {ls : mj_L} {st : List Value} {σ : mj_S} {τ : mj_T} {a0 a1 a2 a3 a4 : Option Value} {v : Int32} : mj_E 44 62 (a0 :: a1 :: a2 :: a3 :: a4 :: ls) (.int v :: st) σ τ = mj_E 44 64 (a0 :: a1 :: a2 :: a3 :: some (.int v) :: ls) st σ τ := mj_nx i44_62 rfl
theorem i44_64 : mj_ins 44 64 = some (.iinc 3 (1), 67) := by decide +kernel
theorem e44_64 {ls : mj_L} {st : List Value} {σ : mj_S} {τ : mj_T} {a0 a1 a2 : Option Value} {v : Int32} : mj_E 44 64 (a0 :: a1 :: a2 :: some (.int v) :: ls) st σ τ = mj_E 44 67 (a0 :: a1 :: a2 :: some (.int (v + nI 1)) :: ls) st σ τ := mj_nx i44_64 rfl
theorem i44_67 : mj_ins 44 67 = some (.goto 15, 70) := by decide +kernel
theorem e44_67 {ls : mj_L} {st : List Value} {σ : mj_S} {τ : mj_T} : mj_E 44 67 ls st σ τ = mj_E 44 15 ls st σ τ := mj_nx i44_67 rfl
theorem i44_70 : mj_ins 44 70 = some (.iload 3, 71) := by decide +kernel
theorem e44_70 {ls : mj_L} {st : List Value} {σ : mj_S} {τ : mj_T} {a0 a1 a2 : Option Value} {v : Int32} : mj_E 44 70 (a0 :: a1 :: a2 :: some (.int v) :: ls) st σ τ = mj_E 44 71 (a0 :: a1 :: a2 :: some (.int v) :: ls) (.int v :: st) σ τ := mj_nx i44_70 rfl
theorem i44_71 : mj_ins 44 71 = some (.ireturn, 72) := by decide +kernel
theorem e44_71 {ls : mj_L} {σ : mj_S} {τ : mj_T} {v : Int32} : mj_E 44 71 ls [.int v] σ τ = some (some (.int v), σ, τ) := mj_irt i44_71 rfl
theorem c45 {σ : mj_S} {τ : mj_T} {r : Nat} {x0 : Nat} {x1 : Nat} : mj_C 45 [.ref r, .ref x0, .ref x1] σ τ = mj_E 45 0 [some (.ref r), some (.ref x0), some (.ref x1), none, none, none] [] σ τ := rfl
theorem i45_0 : mj_ins 45 0 = some (.aload 0, 1) := by decide +kernel
theorem e45_0 {ls : mj_L} {st : List Value} {σ : mj_S} {τ : mj_T} {v : Nat} : mj_E 45 0 (some (.ref v) :: ls) st σ τ = mj_E 45 1 (some (.ref v) :: ls) (.ref v :: st) σ τ := mj_nx i45_0 rfl
theorem i45_1 : mj_ins 45 1 = some (.getfield 302, 4) := by decide +kernel
theorem e45_1 {ls : mj_L} {st : List Value} {σ : mj_S} {τ : mj_T} : mj_E 45 1 ls (.ref 9 :: st) σ τ = mj_E 45 4 ls (.int (σ 9 2) :: st) σ τ := mj_nx i45_1 rfl
theorem i45_4 : mj_ins 45 4 = some (.istore 3, 5) := by decide +kernel
theorem e45_4 {ls : mj_L} {st : List Value} {σ : mj_S} {τ : mj_T} {a0 a1 a2 a3 : Option Value} {v : Int32} : mj_E 45 4 (a0 :: a1 :: a2 :: a3 :: ls) (.int v :: st) σ τ = mj_E 45 5 (a0 :: a1 :: a2 :: some (.int v) :: ls) st σ τ := mj_nx i45_4 rfl
theorem i45_5 : mj_ins 45 5 = some (.aload 0, 6) := by decide +kernel
theorem e45_5 {ls : mj_L} {st : List Value} {σ : mj_S} {τ : mj_T} {v : Nat} : mj_E 45 5 (some (.ref v) :: ls) st σ τ = mj_E 45 6 (some (.ref v) :: ls) (.ref v :: st) σ τ := mj_nx i45_5 rfl
theorem i45_6 : mj_ins 45 6 = some (.aload 2, 7) := by decide +kernel
theorem e45_6 {ls : mj_L} {st : List Value} {σ : mj_S} {τ : mj_T} {a0 a1 : Option Value} {v : Nat} : mj_E 45 6 (a0 :: a1 :: some (.ref v) :: ls) st σ τ = mj_E 45 7 (a0 :: a1 :: some (.ref v) :: ls) (.ref v :: st) σ τ := mj_nx i45_6 rfl
theorem i45_7 : mj_ins 45 7 = some (.invokevirtual 48, 10) := by decide +kernel
theorem e45_7 {ls : mj_L} {σ : mj_S} {τ : mj_T} {r : Nat} {x0 : Nat} : mj_E 45 7 ls [.ref x0, .ref r] σ τ = if mj_rcv r 3 = true then mj_bd (mj_C 48 [.ref r, .ref x0] σ τ) (mj_K 45 10 ls []) else none := mj_clV (as := [.ref x0]) (r := []) i45_7 (by decide +kernel : mj_vk 45 48 1 0 2 false = true) (by decide +kernel)
theorem i45_10 : mj_ins 45 10 = some (.istore 4, 12) := by decide +kernel
theorem e45_10 {ls : mj_L} {st : List Value} {σ : mj_S} {τ : mj_T} {a0 a1 a2 a3 a4 : Option Value} {v : Int32} : mj_E 45 10 (a0 :: a1 :: a2 :: a3 :: a4 :: ls) (.int v :: st) σ τ = mj_E 45 12 (a0 :: a1 :: a2 :: a3 :: some (.int v) :: ls) st σ τ := mj_nx i45_10 rfl
theorem i45_12 : mj_ins 45 12 = some (.iload 4, 14) := by decide +kernel
theorem e45_12 {ls : mj_L} {st : List Value} {σ : mj_S} {τ : mj_T} {a0 a1 a2 a3 : Option Value} {v : Int32} : mj_E 45 12 (a0 :: a1 :: a2 :: a3 :: some (.int v) :: ls) st σ τ = mj_E 45 14 (a0 :: a1 :: a2 :: a3 :: some (.int v) :: ls) (.int v :: st) σ τ := mj_nx i45_12 rfl
theorem i45_14 : mj_ins 45 14 = some (.iconst (-1), 15) := by decide +kernel
theorem e45_14 {ls : mj_L} {st : List Value} {σ : mj_S} {τ : mj_T} : mj_E 45 14 ls st σ τ = mj_E 45 15 ls (.int ((-1)) :: st) σ τ := mj_nx i45_14 rfl
theorem i45_15 : mj_ins 45 15 = some (.if_icmp .ne 20, 18) := by decide +kernel
theorem e45_15 {ls : mj_L} {st : List Value} {σ : mj_S} {τ : mj_T} {x y : Int32} : mj_E 45 15 ls (.int y :: .int x :: st) σ τ = if x = y then mj_E 45 18 ls st σ τ else mj_E 45 20 ls st σ τ := (mj_ifi i45_15).trans (mj_cdF rfl)
theorem i45_18 : mj_ins 45 18 = some (.iconst (0), 19) := by decide +kernel
theorem e45_18 {ls : mj_L} {st : List Value} {σ : mj_S} {τ : mj_T} : mj_E 45 18 ls st σ τ = mj_E 45 19 ls (.int (nI 0) :: st) σ τ := mj_nx i45_18 rfl
theorem i45_19 : mj_ins 45 19 = some (.ireturn, 20) := by decide +kernel
theorem e45_19 {ls : mj_L} {σ : mj_S} {τ : mj_T} {v : Int32} : mj_E 45 19 ls [.int v] σ τ = if mj_ok (some .boolean) v = true then some (some (.int v), σ, τ) else none := mj_zrt i45_19 rfl
theorem i45_20 : mj_ins 45 20 = some (.aload 1, 21) := by decide +kernel
theorem e45_20 {ls : mj_L} {st : List Value} {σ : mj_S} {τ : mj_T} {a0 : Option Value} {v : Nat} : mj_E 45 20 (a0 :: some (.ref v) :: ls) st σ τ = mj_E 45 21 (a0 :: some (.ref v) :: ls) (.ref v :: st) σ τ := mj_nx i45_20 rfl
theorem i45_21 : mj_ins 45 21 = some (.iload 4, 23) := by decide +kernel
theorem e45_21 {ls : mj_L} {st : List Value} {σ : mj_S} {τ : mj_T} {a0 a1 a2 a3 : Option Value} {v : Int32} : mj_E 45 21 (a0 :: a1 :: a2 :: a3 :: some (.int v) :: ls) st σ τ = mj_E 45 23 (a0 :: a1 :: a2 :: a3 :: some (.int v) :: ls) (.int v :: st) σ τ := mj_nx i45_21 rfl
theorem i45_23 : mj_ins 45 23 = some (.invokestatic 51, 26) := by decide +kernel
theorem e45_23 {ls : mj_L} {σ : mj_S} {τ : mj_T} {x0 : Nat} {x1 : Int32} : mj_E 45 23 ls [.int x1, .ref x0] σ τ = mj_bd (mj_C 51 [.ref x0, .int x1] σ τ) (mj_K 45 26 ls []) := mj_clS (as := [.ref x0, .int x1]) (r := []) i45_23 (by decide +kernel : mj_vk 45 51 2 0 2 false = true) rfl
theorem i45_26 : mj_ins 45 26 = some (.ifCond .ne 35, 29) := by decide +kernel
theorem e45_26 {ls : mj_L} {st : List Value} {σ : mj_S} {τ : mj_T} {x : Int32} : mj_E 45 26 ls (.int x :: st) σ τ = if x = 0 then mj_E 45 29 ls st σ τ else mj_E 45 35 ls st σ τ := (mj_ifc i45_26).trans (mj_cdF rfl)
theorem i45_29 : mj_ins 45 29 = some (.aload 0, 30) := by decide +kernel
theorem e45_29 {ls : mj_L} {st : List Value} {σ : mj_S} {τ : mj_T} {v : Nat} : mj_E 45 29 (some (.ref v) :: ls) st σ τ = mj_E 45 30 (some (.ref v) :: ls) (.ref v :: st) σ τ := mj_nx i45_29 rfl
theorem i45_30 : mj_ins 45 30 = some (.iload 3, 31) := by decide +kernel
theorem e45_30 {ls : mj_L} {st : List Value} {σ : mj_S} {τ : mj_T} {a0 a1 a2 : Option Value} {v : Int32} : mj_E 45 30 (a0 :: a1 :: a2 :: some (.int v) :: ls) st σ τ = mj_E 45 31 (a0 :: a1 :: a2 :: some (.int v) :: ls) (.int v :: st) σ τ := mj_nx i45_30 rfl
theorem i45_31 : mj_ins 45 31 = some (.invokevirtual 46, 34) := by decide +kernel
theorem e45_31 {ls : mj_L} {σ : mj_S} {τ : mj_T} {r : Nat} {x0 : Int32} : mj_E 45 31 ls [.int x0, .ref r] σ τ = if mj_rcv r 3 = true then mj_bd (mj_C 46 [.ref r, .int x0] σ τ) (mj_K 45 34 ls []) else none := mj_clV (as := [.int x0]) (r := []) i45_31 (by decide +kernel : mj_vk 45 46 1 0 2 false = true) (by decide +kernel)
theorem i45_34 : mj_ins 45 34 = some (.ireturn, 35) := by decide +kernel
theorem e45_34 {ls : mj_L} {σ : mj_S} {τ : mj_T} {v : Int32} : mj_E 45 34 ls [.int v] σ τ = if mj_ok (some .boolean) v = true then some (some (.int v), σ, τ) else none := mj_zrt i45_34 rfl
theorem i45_35 : mj_ins 45 35 = some (.iconst (0), 36) := by decide +kernel
theorem e45_35 {ls : mj_L} {st : List Value} {σ : mj_S} {τ : mj_T} : mj_E 45 35 ls st σ τ = mj_E 45 36 ls (.int (nI 0) :: st) σ τ := mj_nx i45_35 rfl
theorem i45_36 : mj_ins 45 36 = some (.istore 5, 38) := by decide +kernel
theorem e45_36 {ls : mj_L} {st : List Value} {σ : mj_S} {τ : mj_T} {a0 a1 a2 a3 a4 a5 : Option Value} {v : Int32} : mj_E 45 36 (a0 :: a1 :: a2 :: a3 :: a4 :: a5 :: ls) (.int v :: st) σ τ = mj_E 45 38 (a0 :: a1 :: a2 :: a3 :: a4 :: some (.int v) :: ls) st σ τ := mj_nx i45_36 rfl
theorem i45_38 : mj_ins 45 38 = some (.iload 5, 40) := by decide +kernel
theorem e45_38 {ls : mj_L} {st : List Value} {σ : mj_S} {τ : mj_T} {a0 a1 a2 a3 a4 : Option Value} {v : Int32} : mj_E 45 38 (a0 :: a1 :: a2 :: a3 :: a4 :: some (.int v) :: ls) st σ τ = mj_E 45 40 (a0 :: a1 :: a2 :: a3 :: a4 :: some (.int v) :: ls) (.int v :: st) σ τ := mj_nx i45_38 rfl
theorem i45_40 : mj_ins 45 40 = some (.getstatic 92, 43) := by decide +kernel
theorem e45_40 {ls : mj_L} {st : List Value} {σ : mj_S} {τ : mj_T} : mj_E 45 40 ls st σ τ = mj_E 45 43 ls (.ref 92 :: st) σ τ := mj_nx i45_40 rfl
theorem i45_43 : mj_ins 45 43 = some (.iload 4, 45) := by decide +kernel
theorem e45_43 {ls : mj_L} {st : List Value} {σ : mj_S} {τ : mj_T} {a0 a1 a2 a3 : Option Value} {v : Int32} : mj_E 45 43 (a0 :: a1 :: a2 :: a3 :: some (.int v) :: ls) st σ τ = mj_E 45 45 (a0 :: a1 :: a2 :: a3 :: some (.int v) :: ls) (.int v :: st) σ τ := mj_nx i45_43 rfl
theorem i45_45 : mj_ins 45 45 = some (.iaload, 46) := by decide +kernel
theorem e45_45 {ls : mj_L} {st : List Value} {σ : mj_S} {τ : mj_T} {x : Int32} {k : Nat} : mj_E 45 45 ls (.int x :: .ref k :: st) σ τ = if mj_ib (mj_li σ k) x = true then mj_E 45 46 ls (.int (σ k x.toNatClampNeg) :: st) σ τ else none := mj_ald i45_45
theorem i45_46 : mj_ins 45 46 = some (.if_icmp .ge 70, 49) := by decide +kernel
theorem e45_46 {ls : mj_L} {st : List Value} {σ : mj_S} {τ : mj_T} {x y : Int32} : mj_E 45 46 ls (.int y :: .int x :: st) σ τ = if y ≤ x then mj_E 45 70 ls st σ τ else mj_E 45 49 ls st σ τ := (mj_ifi i45_46).trans (mj_cdT rfl)
theorem i45_49 : mj_ins 45 49 = some (.aload 0, 50) := by decide +kernel
theorem e45_49 {ls : mj_L} {st : List Value} {σ : mj_S} {τ : mj_T} {v : Nat} : mj_E 45 49 (some (.ref v) :: ls) st σ τ = mj_E 45 50 (some (.ref v) :: ls) (.ref v :: st) σ τ := mj_nx i45_49 rfl
theorem i45_50 : mj_ins 45 50 = some (.aload 1, 51) := by decide +kernel
theorem e45_50 {ls : mj_L} {st : List Value} {σ : mj_S} {τ : mj_T} {a0 : Option Value} {v : Nat} : mj_E 45 50 (a0 :: some (.ref v) :: ls) st σ τ = mj_E 45 51 (a0 :: some (.ref v) :: ls) (.ref v :: st) σ τ := mj_nx i45_50 rfl
theorem i45_51 : mj_ins 45 51 = some (.aload 2, 52) := by decide +kernel
theorem e45_51 {ls : mj_L} {st : List Value} {σ : mj_S} {τ : mj_T} {a0 a1 : Option Value} {v : Nat} : mj_E 45 51 (a0 :: a1 :: some (.ref v) :: ls) st σ τ = mj_E 45 52 (a0 :: a1 :: some (.ref v) :: ls) (.ref v :: st) σ τ := mj_nx i45_51 rfl
theorem i45_52 : mj_ins 45 52 = some (.iload 4, 54) := by decide +kernel
theorem e45_52 {ls : mj_L} {st : List Value} {σ : mj_S} {τ : mj_T} {a0 a1 a2 a3 : Option Value} {v : Int32} : mj_E 45 52 (a0 :: a1 :: a2 :: a3 :: some (.int v) :: ls) st σ τ = mj_E 45 54 (a0 :: a1 :: a2 :: a3 :: some (.int v) :: ls) (.int v :: st) σ τ := mj_nx i45_52 rfl
theorem i45_54 : mj_ins 45 54 = some (.iload 5, 56) := by decide +kernel
theorem e45_54 {ls : mj_L} {st : List Value} {σ : mj_S} {τ : mj_T} {a0 a1 a2 a3 a4 : Option Value} {v : Int32} : mj_E 45 54 (a0 :: a1 :: a2 :: a3 :: a4 :: some (.int v) :: ls) st σ τ = mj_E 45 56 (a0 :: a1 :: a2 :: a3 :: a4 :: some (.int v) :: ls) (.int v :: st) σ τ := mj_nx i45_54 rfl
theorem i45_56 : mj_ins 45 56 = some (.invokevirtual 52, 59) := by decide +kernel
theorem e45_56 {ls : mj_L} {σ : mj_S} {τ : mj_T} {r : Nat} {x0 : Nat} {x1 : Nat} {x2 : Int32} {x3 : Int32} : mj_E 45 56 ls [.int x3, .int x2, .ref x1, .ref x0, .ref r] σ τ = if mj_rcv r 3 = true then mj_bd (mj_C 52 [.ref r, .ref x0, .ref x1, .int x2, .int x3] σ τ) (mj_K 45 59 ls []) else none := mj_clV (as := [.ref x0, .ref x1, .int x2, .int x3]) (r := []) i45_56 (by decide +kernel : mj_vk 45 52 4 0 5 false = true) (by decide +kernel)
theorem i45_59 : mj_ins 45 59 = some (.ifCond .ne 64, 62) := by decide +kernel
theorem e45_59 {ls : mj_L} {st : List Value} {σ : mj_S} {τ : mj_T} {x : Int32} : mj_E 45 59 ls (.int x :: st) σ τ = if x = 0 then mj_E 45 62 ls st σ τ else mj_E 45 64 ls st σ τ := (mj_ifc i45_59).trans (mj_cdF rfl)
theorem i45_62 : mj_ins 45 62 = some (.iconst (0), 63) := by decide +kernel
theorem e45_62 {ls : mj_L} {st : List Value} {σ : mj_S} {τ : mj_T} : mj_E 45 62 ls st σ τ = mj_E 45 63 ls (.int (nI 0) :: st) σ τ := mj_nx i45_62 rfl
theorem i45_63 : mj_ins 45 63 = some (.ireturn, 64) := by decide +kernel
theorem e45_63 {ls : mj_L} {σ : mj_S} {τ : mj_T} {v : Int32} : mj_E 45 63 ls [.int v] σ τ = if mj_ok (some .boolean) v = true then some (some (.int v), σ, τ) else none := mj_zrt i45_63 rfl
theorem i45_64 : mj_ins 45 64 = some (.iinc 5 (1), 67) := by decide +kernel
theorem e45_64 {ls : mj_L} {st : List Value} {σ : mj_S} {τ : mj_T} {a0 a1 a2 a3 a4 : Option Value} {v : Int32} : mj_E 45 64 (a0 :: a1 :: a2 :: a3 :: a4 :: some (.int v) :: ls) st σ τ = mj_E 45 67 (a0 :: a1 :: a2 :: a3 :: a4 :: some (.int (v + nI 1)) :: ls) st σ τ := mj_nx i45_64 rfl
theorem i45_67 : mj_ins 45 67 = some (.goto 38, 70) := by decide +kernel
theorem e45_67 {ls : mj_L} {st : List Value} {σ : mj_S} {τ : mj_T} : mj_E 45 67 ls st σ τ = mj_E 45 38 ls st σ τ := mj_nx i45_67 rfl
theorem i45_70 : mj_ins 45 70 = some (.aload 0, 71) := by decide +kernel
theorem e45_70 {ls : mj_L} {st : List Value} {σ : mj_S} {τ : mj_T} {v : Nat} : mj_E 45 70 (some (.ref v) :: ls) st σ τ = mj_E 45 71 (some (.ref v) :: ls) (.ref v :: st) σ τ := mj_nx i45_70 rfl
theorem i45_71 : mj_ins 45 71 = some (.aload 1, 72) := by decide +kernel
theorem e45_71 {ls : mj_L} {st : List Value} {σ : mj_S} {τ : mj_T} {a0 : Option Value} {v : Nat} : mj_E 45 71 (a0 :: some (.ref v) :: ls) st σ τ = mj_E 45 72 (a0 :: some (.ref v) :: ls) (.ref v :: st) σ τ := mj_nx i45_71 rfl
theorem i45_72 : mj_ins 45 72 = some (.iload 4, 74) := by decide +kernel
theorem e45_72 {ls : mj_L} {st : List Value} {σ : mj_S} {τ : mj_T} {a0 a1 a2 a3 : Option Value} {v : Int32} : mj_E 45 72 (a0 :: a1 :: a2 :: a3 :: some (.int v) :: ls) st σ τ = mj_E 45 74 (a0 :: a1 :: a2 :: a3 :: some (.int v) :: ls) (.int v :: st) σ τ := mj_nx i45_72 rfl
theorem i45_74 : mj_ins 45 74 = some (.invokevirtual 58, 77) := by decide +kernel
theorem e45_74 {ls : mj_L} {σ : mj_S} {τ : mj_T} {r : Nat} {x0 : Nat} {x1 : Int32} : mj_E 45 74 ls [.int x1, .ref x0, .ref r] σ τ = if mj_rcv r 3 = true then mj_bd (mj_C 58 [.ref r, .ref x0, .int x1] σ τ) (mj_K 45 77 ls []) else none := mj_clV (as := [.ref x0, .int x1]) (r := []) i45_74 (by decide +kernel : mj_vk 45 58 2 0 3 false = true) (by decide +kernel)
theorem i45_77 : mj_ins 45 77 = some (.iconst (1), 78) := by decide +kernel
theorem e45_77 {ls : mj_L} {st : List Value} {σ : mj_S} {τ : mj_T} : mj_E 45 77 ls st σ τ = mj_E 45 78 ls (.int (nI 1) :: st) σ τ := mj_nx i45_77 rfl
theorem i45_78 : mj_ins 45 78 = some (.ireturn, 79) := by decide +kernel
theorem e45_78 {ls : mj_L} {σ : mj_S} {τ : mj_T} {v : Int32} : mj_E 45 78 ls [.int v] σ τ = if mj_ok (some .boolean) v = true then some (some (.int v), σ, τ) else none := mj_zrt i45_78 rfl
theorem c46 {σ : mj_S} {τ : mj_T} {r : Nat} {x0 : Int32} : mj_C 46 [.ref r, .int x0] σ τ = mj_E 46 0 [some (.ref r), some (.int x0)] [] σ τ := rfl
theorem i46_0 : mj_ins 46 0 = some (.aload 0, 1) := by decide +kernel
theorem e46_0 {ls : mj_L} {st : List Value} {σ : mj_S} {τ : mj_T} {v : Nat} : mj_E 46 0 (some (.ref v) :: ls) st σ τ = mj_E 46 1 (some (.ref v) :: ls) (.ref v :: st) σ τ := mj_nx i46_0 rfl
theorem i46_1 : mj_ins 46 1 = some (.iload 1, 2) := by decide +kernel
theorem e46_1 {ls : mj_L} {st : List Value} {σ : mj_S} {τ : mj_T} {a0 : Option Value} {v : Int32} : mj_E 46 1 (a0 :: some (.int v) :: ls) st σ τ = mj_E 46 2 (a0 :: some (.int v) :: ls) (.int v :: st) σ τ := mj_nx i46_1 rfl
theorem i46_2 : mj_ins 46 2 = some (.putfield 300, 5) := by decide +kernel
theorem e46_2 {ls : mj_L} {st : List Value} {σ : mj_S} {τ : mj_T} {v : Int32} : mj_E 46 2 ls (.int v :: .ref 9 :: st) σ τ = mj_E 46 5 ls st (mj_up σ 9 0 v) τ := mj_nx i46_2 rfl
theorem i46_5 : mj_ins 46 5 = some (.iconst (0), 6) := by decide +kernel
theorem e46_5 {ls : mj_L} {st : List Value} {σ : mj_S} {τ : mj_T} : mj_E 46 5 ls st σ τ = mj_E 46 6 ls (.int (nI 0) :: st) σ τ := mj_nx i46_5 rfl
theorem i46_6 : mj_ins 46 6 = some (.ireturn, 7) := by decide +kernel
theorem e46_6 {ls : mj_L} {σ : mj_S} {τ : mj_T} {v : Int32} : mj_E 46 6 ls [.int v] σ τ = if mj_ok (some .boolean) v = true then some (some (.int v), σ, τ) else none := mj_zrt i46_6 rfl
theorem c47 {σ : mj_S} {τ : mj_T} {r : Nat} {x0 : Nat} {x1 : Int32} : mj_C 47 [.ref r, .ref x0, .int x1] σ τ = mj_E 47 0 [some (.ref r), some (.ref x0), some (.int x1)] [] σ τ := rfl
theorem i47_0 : mj_ins 47 0 = some (.aload 1, 1) := by decide +kernel
theorem e47_0 {ls : mj_L} {st : List Value} {σ : mj_S} {τ : mj_T} {a0 : Option Value} {v : Nat} : mj_E 47 0 (a0 :: some (.ref v) :: ls) st σ τ = mj_E 47 1 (a0 :: some (.ref v) :: ls) (.ref v :: st) σ τ := mj_nx i47_0 rfl
theorem i47_1 : mj_ins 47 1 = some (.aload 0, 2) := by decide +kernel
theorem e47_1 {ls : mj_L} {st : List Value} {σ : mj_S} {τ : mj_T} {v : Nat} : mj_E 47 1 (some (.ref v) :: ls) st σ τ = mj_E 47 2 (some (.ref v) :: ls) (.ref v :: st) σ τ := mj_nx i47_1 rfl
theorem i47_2 : mj_ins 47 2 = some (.getfield 302, 5) := by decide +kernel
theorem e47_2 {ls : mj_L} {st : List Value} {σ : mj_S} {τ : mj_T} : mj_E 47 2 ls (.ref 9 :: st) σ τ = mj_E 47 5 ls (.int (σ 9 2) :: st) σ τ := mj_nx i47_2 rfl
theorem i47_5 : mj_ins 47 5 = some (.invokevirtual 63, 8) := by decide +kernel
theorem e47_5 {ls : mj_L} {σ : mj_S} {τ : mj_T} {r : Nat} {x0 : Int32} : mj_E 47 5 ls [.int x0, .ref r] σ τ = if mj_rcv r 4 = true then mj_bd (mj_C 63 [.ref r, .int x0] σ τ) (mj_K 47 8 ls []) else none := mj_clV (as := [.int x0]) (r := []) i47_5 (by decide +kernel : mj_vk 47 63 1 0 2 false = true) (by decide +kernel)
theorem i47_8 : mj_ins 47 8 = some (.ifCond .eq 23, 11) := by decide +kernel
theorem e47_8 {ls : mj_L} {st : List Value} {σ : mj_S} {τ : mj_T} {x : Int32} : mj_E 47 8 ls (.int x :: st) σ τ = if x = 0 then mj_E 47 23 ls st σ τ else mj_E 47 11 ls st σ τ := (mj_ifc i47_8).trans (mj_cdT rfl)
theorem i47_11 : mj_ins 47 11 = some (.aload 1, 12) := by decide +kernel
theorem e47_11 {ls : mj_L} {st : List Value} {σ : mj_S} {τ : mj_T} {a0 : Option Value} {v : Nat} : mj_E 47 11 (a0 :: some (.ref v) :: ls) st σ τ = mj_E 47 12 (a0 :: some (.ref v) :: ls) (.ref v :: st) σ τ := mj_nx i47_11 rfl
theorem i47_12 : mj_ins 47 12 = some (.aload 0, 13) := by decide +kernel
theorem e47_12 {ls : mj_L} {st : List Value} {σ : mj_S} {τ : mj_T} {v : Nat} : mj_E 47 12 (some (.ref v) :: ls) st σ τ = mj_E 47 13 (some (.ref v) :: ls) (.ref v :: st) σ τ := mj_nx i47_12 rfl
theorem i47_13 : mj_ins 47 13 = some (.getfield 302, 16) := by decide +kernel
theorem e47_13 {ls : mj_L} {st : List Value} {σ : mj_S} {τ : mj_T} : mj_E 47 13 ls (.ref 9 :: st) σ τ = mj_E 47 16 ls (.int (σ 9 2) :: st) σ τ := mj_nx i47_13 rfl
theorem i47_16 : mj_ins 47 16 = some (.invokevirtual 66, 19) := by decide +kernel
theorem e47_16 {ls : mj_L} {σ : mj_S} {τ : mj_T} {r : Nat} {x0 : Int32} : mj_E 47 16 ls [.int x0, .ref r] σ τ = if mj_rcv r 4 = true then mj_bd (mj_C 66 [.ref r, .int x0] σ τ) (mj_K 47 19 ls []) else none := mj_clV (as := [.int x0]) (r := []) i47_16 (by decide +kernel : mj_vk 47 66 1 0 2 false = true) (by decide +kernel)
theorem i47_19 : mj_ins 47 19 = some (.iload 2, 20) := by decide +kernel
theorem e47_19 {ls : mj_L} {st : List Value} {σ : mj_S} {τ : mj_T} {a0 a1 : Option Value} {v : Int32} : mj_E 47 19 (a0 :: a1 :: some (.int v) :: ls) st σ τ = mj_E 47 20 (a0 :: a1 :: some (.int v) :: ls) (.int v :: st) σ τ := mj_nx i47_19 rfl
theorem i47_20 : mj_ins 47 20 = some (.if_icmp .eq 32, 23) := by decide +kernel
theorem e47_20 {ls : mj_L} {st : List Value} {σ : mj_S} {τ : mj_T} {x y : Int32} : mj_E 47 20 ls (.int y :: .int x :: st) σ τ = if x = y then mj_E 47 32 ls st σ τ else mj_E 47 23 ls st σ τ := (mj_ifi i47_20).trans (mj_cdT rfl)
theorem i47_23 : mj_ins 47 23 = some (.aload 0, 24) := by decide +kernel
theorem e47_23 {ls : mj_L} {st : List Value} {σ : mj_S} {τ : mj_T} {v : Nat} : mj_E 47 23 (some (.ref v) :: ls) st σ τ = mj_E 47 24 (some (.ref v) :: ls) (.ref v :: st) σ τ := mj_nx i47_23 rfl
theorem i47_24 : mj_ins 47 24 = some (.aload 0, 25) := by decide +kernel
theorem e47_24 {ls : mj_L} {st : List Value} {σ : mj_S} {τ : mj_T} {v : Nat} : mj_E 47 24 (some (.ref v) :: ls) st σ τ = mj_E 47 25 (some (.ref v) :: ls) (.ref v :: st) σ τ := mj_nx i47_24 rfl
theorem i47_25 : mj_ins 47 25 = some (.getfield 302, 28) := by decide +kernel
theorem e47_25 {ls : mj_L} {st : List Value} {σ : mj_S} {τ : mj_T} : mj_E 47 25 ls (.ref 9 :: st) σ τ = mj_E 47 28 ls (.int (σ 9 2) :: st) σ τ := mj_nx i47_25 rfl
theorem i47_28 : mj_ins 47 28 = some (.invokevirtual 46, 31) := by decide +kernel
theorem e47_28 {ls : mj_L} {σ : mj_S} {τ : mj_T} {r : Nat} {x0 : Int32} : mj_E 47 28 ls [.int x0, .ref r] σ τ = if mj_rcv r 3 = true then mj_bd (mj_C 46 [.ref r, .int x0] σ τ) (mj_K 47 31 ls []) else none := mj_clV (as := [.int x0]) (r := []) i47_28 (by decide +kernel : mj_vk 47 46 1 0 2 false = true) (by decide +kernel)
theorem i47_31 : mj_ins 47 31 = some (.ireturn, 32) := by decide +kernel
theorem e47_31 {ls : mj_L} {σ : mj_S} {τ : mj_T} {v : Int32} : mj_E 47 31 ls [.int v] σ τ = if mj_ok (some .boolean) v = true then some (some (.int v), σ, τ) else none := mj_zrt i47_31 rfl
theorem i47_32 : mj_ins 47 32 = some (.aload 0, 33) := by decide +kernel
theorem e47_32 {ls : mj_L} {st : List Value} {σ : mj_S} {τ : mj_T} {v : Nat} : mj_E 47 32 (some (.ref v) :: ls) st σ τ = mj_E 47 33 (some (.ref v) :: ls) (.ref v :: st) σ τ := mj_nx i47_32 rfl
theorem i47_33 : mj_ins 47 33 = some (.dup, 34) := by decide +kernel
theorem e47_33 {ls : mj_L} {st : List Value} {σ : mj_S} {τ : mj_T} {v : Nat} : mj_E 47 33 ls (.ref v :: st) σ τ = mj_E 47 34 ls (.ref v :: .ref v :: st) σ τ := mj_nx i47_33 rfl
theorem i47_34 : mj_ins 47 34 = some (.getfield 302, 37) := by decide +kernel
theorem e47_34 {ls : mj_L} {st : List Value} {σ : mj_S} {τ : mj_T} : mj_E 47 34 ls (.ref 9 :: st) σ τ = mj_E 47 37 ls (.int (σ 9 2) :: st) σ τ := mj_nx i47_34 rfl
theorem i47_37 : mj_ins 47 37 = some (.iconst (1), 38) := by decide +kernel
theorem e47_37 {ls : mj_L} {st : List Value} {σ : mj_S} {τ : mj_T} : mj_E 47 37 ls st σ τ = mj_E 47 38 ls (.int (nI 1) :: st) σ τ := mj_nx i47_37 rfl
theorem i47_38 : mj_ins 47 38 = some (.iadd, 39) := by decide +kernel
theorem e47_38 {ls : mj_L} {st : List Value} {σ : mj_S} {τ : mj_T} {x y : Int32} : mj_E 47 38 ls (.int y :: .int x :: st) σ τ = mj_E 47 39 ls (.int (x + y) :: st) σ τ := mj_nx i47_38 rfl
theorem i47_39 : mj_ins 47 39 = some (.putfield 302, 42) := by decide +kernel
theorem e47_39 {ls : mj_L} {st : List Value} {σ : mj_S} {τ : mj_T} {v : Int32} : mj_E 47 39 ls (.int v :: .ref 9 :: st) σ τ = mj_E 47 42 ls st (mj_up σ 9 2 v) τ := mj_nx i47_39 rfl
theorem i47_42 : mj_ins 47 42 = some (.iconst (1), 43) := by decide +kernel
theorem e47_42 {ls : mj_L} {st : List Value} {σ : mj_S} {τ : mj_T} : mj_E 47 42 ls st σ τ = mj_E 47 43 ls (.int (nI 1) :: st) σ τ := mj_nx i47_42 rfl
theorem i47_43 : mj_ins 47 43 = some (.ireturn, 44) := by decide +kernel
theorem e47_43 {ls : mj_L} {σ : mj_S} {τ : mj_T} {v : Int32} : mj_E 47 43 ls [.int v] σ τ = if mj_ok (some .boolean) v = true then some (some (.int v), σ, τ) else none := mj_zrt i47_43 rfl
theorem c48 {σ : mj_S} {τ : mj_T} {r : Nat} {x0 : Nat} : mj_C 48 [.ref r, .ref x0] σ τ = mj_E 48 0 [some (.ref r), some (.ref x0), none, none, none, none] [] σ τ := rfl
theorem i48_0 : mj_ins 48 0 = some (.iconst (0), 1) := by decide +kernel
theorem e48_0 {ls : mj_L} {st : List Value} {σ : mj_S} {τ : mj_T} : mj_E 48 0 ls st σ τ = mj_E 48 1 ls (.int (nI 0) :: st) σ τ := mj_nx i48_0 rfl
theorem i48_1 : mj_ins 48 1 = some (.istore 2, 2) := by decide +kernel
theorem e48_1 {ls : mj_L} {st : List Value} {σ : mj_S} {τ : mj_T} {a0 a1 a2 : Option Value} {v : Int32} : mj_E 48 1 (a0 :: a1 :: a2 :: ls) (.int v :: st) σ τ = mj_E 48 2 (a0 :: a1 :: some (.int v) :: ls) st σ τ := mj_nx i48_1 rfl
theorem i48_2 : mj_ins 48 2 = some (.iconst (0), 3) := by decide +kernel
theorem e48_2 {ls : mj_L} {st : List Value} {σ : mj_S} {τ : mj_T} : mj_E 48 2 ls st σ τ = mj_E 48 3 ls (.int (nI 0) :: st) σ τ := mj_nx i48_2 rfl
theorem i48_3 : mj_ins 48 3 = some (.istore 3, 4) := by decide +kernel
theorem e48_3 {ls : mj_L} {st : List Value} {σ : mj_S} {τ : mj_T} {a0 a1 a2 a3 : Option Value} {v : Int32} : mj_E 48 3 (a0 :: a1 :: a2 :: a3 :: ls) (.int v :: st) σ τ = mj_E 48 4 (a0 :: a1 :: a2 :: some (.int v) :: ls) st σ τ := mj_nx i48_3 rfl
theorem i48_4 : mj_ins 48 4 = some (.iload 3, 5) := by decide +kernel
theorem e48_4 {ls : mj_L} {st : List Value} {σ : mj_S} {τ : mj_T} {a0 a1 a2 : Option Value} {v : Int32} : mj_E 48 4 (a0 :: a1 :: a2 :: some (.int v) :: ls) st σ τ = mj_E 48 5 (a0 :: a1 :: a2 :: some (.int v) :: ls) (.int v :: st) σ τ := mj_nx i48_4 rfl
theorem i48_5 : mj_ins 48 5 = some (.iconst (4), 6) := by decide +kernel
theorem e48_5 {ls : mj_L} {st : List Value} {σ : mj_S} {τ : mj_T} : mj_E 48 5 ls st σ τ = mj_E 48 6 ls (.int (nI 4) :: st) σ τ := mj_nx i48_5 rfl
theorem i48_6 : mj_ins 48 6 = some (.if_icmp .gt 60, 9) := by decide +kernel
theorem e48_6 {ls : mj_L} {st : List Value} {σ : mj_S} {τ : mj_T} {x y : Int32} : mj_E 48 6 ls (.int y :: .int x :: st) σ τ = if y < x then mj_E 48 60 ls st σ τ else mj_E 48 9 ls st σ τ := (mj_ifi i48_6).trans (mj_cdT rfl)
theorem i48_9 : mj_ins 48 9 = some (.iload 3, 10) := by decide +kernel
theorem e48_9 {ls : mj_L} {st : List Value} {σ : mj_S} {τ : mj_T} {a0 a1 a2 : Option Value} {v : Int32} : mj_E 48 9 (a0 :: a1 :: a2 :: some (.int v) :: ls) st σ τ = mj_E 48 10 (a0 :: a1 :: a2 :: some (.int v) :: ls) (.int v :: st) σ τ := mj_nx i48_9 rfl
theorem i48_10 : mj_ins 48 10 = some (.invokestatic 50, 13) := by decide +kernel
theorem e48_10 {ls : mj_L} {σ : mj_S} {τ : mj_T} {x0 : Int32} : mj_E 48 10 ls [.int x0] σ τ = mj_bd (mj_C 50 [.int x0] σ τ) (mj_K 48 13 ls []) := mj_clS (as := [.int x0]) (r := []) i48_10 (by decide +kernel : mj_vk 48 50 1 0 1 false = true) rfl
theorem i48_13 : mj_ins 48 13 = some (.astore 4, 15) := by decide +kernel
theorem e48_13 {ls : mj_L} {st : List Value} {σ : mj_S} {τ : mj_T} {a0 a1 a2 a3 a4 : Option Value} {v : Nat} : mj_E 48 13 (a0 :: a1 :: a2 :: a3 :: a4 :: ls) (.ref v :: st) σ τ = mj_E 48 15 (a0 :: a1 :: a2 :: a3 :: some (.ref v) :: ls) st σ τ := mj_nx i48_13 rfl
theorem i48_15 : mj_ins 48 15 = some (.aload 0, 16) := by decide +kernel
theorem e48_15 {ls : mj_L} {st : List Value} {σ : mj_S} {τ : mj_T} {v : Nat} : mj_E 48 15 (some (.ref v) :: ls) st σ τ = mj_E 48 16 (some (.ref v) :: ls) (.ref v :: st) σ τ := mj_nx i48_15 rfl
theorem i48_16 : mj_ins 48 16 = some (.aload 1, 17) := by decide +kernel
theorem e48_16 {ls : mj_L} {st : List Value} {σ : mj_S} {τ : mj_T} {a0 : Option Value} {v : Nat} : mj_E 48 16 (a0 :: some (.ref v) :: ls) st σ τ = mj_E 48 17 (a0 :: some (.ref v) :: ls) (.ref v :: st) σ τ := mj_nx i48_16 rfl
theorem i48_17 : mj_ins 48 17 = some (.aload 4, 19) := by decide +kernel
theorem e48_17 {ls : mj_L} {st : List Value} {σ : mj_S} {τ : mj_T} {a0 a1 a2 a3 : Option Value} {v : Nat} : mj_E 48 17 (a0 :: a1 :: a2 :: a3 :: some (.ref v) :: ls) st σ τ = mj_E 48 19 (a0 :: a1 :: a2 :: a3 :: some (.ref v) :: ls) (.ref v :: st) σ τ := mj_nx i48_17 rfl
theorem i48_19 : mj_ins 48 19 = some (.invokevirtual 49, 22) := by decide +kernel
theorem e48_19 {ls : mj_L} {σ : mj_S} {τ : mj_T} {r : Nat} {x0 : Nat} {x1 : Nat} : mj_E 48 19 ls [.ref x1, .ref x0, .ref r] σ τ = if mj_rcv r 3 = true then mj_bd (mj_C 49 [.ref r, .ref x0, .ref x1] σ τ) (mj_K 48 22 ls []) else none := mj_clV (as := [.ref x0, .ref x1]) (r := []) i48_19 (by decide +kernel : mj_vk 48 49 2 0 3 false = true) (by decide +kernel)
theorem i48_22 : mj_ins 48 22 = some (.istore 5, 24) := by decide +kernel
theorem e48_22 {ls : mj_L} {st : List Value} {σ : mj_S} {τ : mj_T} {a0 a1 a2 a3 a4 a5 : Option Value} {v : Int32} : mj_E 48 22 (a0 :: a1 :: a2 :: a3 :: a4 :: a5 :: ls) (.int v :: st) σ τ = mj_E 48 24 (a0 :: a1 :: a2 :: a3 :: a4 :: some (.int v) :: ls) st σ τ := mj_nx i48_22 rfl
theorem i48_24 : mj_ins 48 24 = some (.iload 5, 26) := by decide +kernel
theorem e48_24 {ls : mj_L} {st : List Value} {σ : mj_S} {τ : mj_T} {a0 a1 a2 a3 a4 : Option Value} {v : Int32} : mj_E 48 24 (a0 :: a1 :: a2 :: a3 :: a4 :: some (.int v) :: ls) st σ τ = mj_E 48 26 (a0 :: a1 :: a2 :: a3 :: a4 :: some (.int v) :: ls) (.int v :: st) σ τ := mj_nx i48_24 rfl
theorem i48_26 : mj_ins 48 26 = some (.aload 4, 28) := by decide +kernel
theorem e48_26 {ls : mj_L} {st : List Value} {σ : mj_S} {τ : mj_T} {a0 a1 a2 a3 : Option Value} {v : Nat} : mj_E 48 26 (a0 :: a1 :: a2 :: a3 :: some (.ref v) :: ls) st σ τ = mj_E 48 28 (a0 :: a1 :: a2 :: a3 :: some (.ref v) :: ls) (.ref v :: st) σ τ := mj_nx i48_26 rfl
theorem i48_28 : mj_ins 48 28 = some (.invokevirtual 201, 31) := by decide +kernel
theorem e48_28 {ls : mj_L} {σ : mj_S} {τ : mj_T} {r : Nat} {w0 : Value} : mj_E 48 28 ls [.ref r, w0] σ τ = if mj_rcv r 20 = true then mj_bd (mj_C 201 [.ref r] σ τ) (mj_K 48 31 ls [w0]) else none := mj_clV (as := []) (r := [w0]) i48_28 (by decide +kernel : mj_vk 48 201 0 1 1 false = true) (by decide +kernel)
theorem i48_31 : mj_ins 48 31 = some (.if_icmp .ne 47, 34) := by decide +kernel
theorem e48_31 {ls : mj_L} {st : List Value} {σ : mj_S} {τ : mj_T} {x y : Int32} : mj_E 48 31 ls (.int y :: .int x :: st) σ τ = if x = y then mj_E 48 34 ls st σ τ else mj_E 48 47 ls st σ τ := (mj_ifi i48_31).trans (mj_cdF rfl)
theorem i48_34 : mj_ins 48 34 = some (.aload 0, 35) := by decide +kernel
theorem e48_34 {ls : mj_L} {st : List Value} {σ : mj_S} {τ : mj_T} {v : Nat} : mj_E 48 34 (some (.ref v) :: ls) st σ τ = mj_E 48 35 (some (.ref v) :: ls) (.ref v :: st) σ τ := mj_nx i48_34 rfl
theorem i48_35 : mj_ins 48 35 = some (.dup, 36) := by decide +kernel
theorem e48_35 {ls : mj_L} {st : List Value} {σ : mj_S} {τ : mj_T} {v : Nat} : mj_E 48 35 ls (.ref v :: st) σ τ = mj_E 48 36 ls (.ref v :: .ref v :: st) σ τ := mj_nx i48_35 rfl
theorem i48_36 : mj_ins 48 36 = some (.getfield 302, 39) := by decide +kernel
theorem e48_36 {ls : mj_L} {st : List Value} {σ : mj_S} {τ : mj_T} : mj_E 48 36 ls (.ref 9 :: st) σ τ = mj_E 48 39 ls (.int (σ 9 2) :: st) σ τ := mj_nx i48_36 rfl
theorem i48_39 : mj_ins 48 39 = some (.iload 5, 41) := by decide +kernel
theorem e48_39 {ls : mj_L} {st : List Value} {σ : mj_S} {τ : mj_T} {a0 a1 a2 a3 a4 : Option Value} {v : Int32} : mj_E 48 39 (a0 :: a1 :: a2 :: a3 :: a4 :: some (.int v) :: ls) st σ τ = mj_E 48 41 (a0 :: a1 :: a2 :: a3 :: a4 :: some (.int v) :: ls) (.int v :: st) σ τ := mj_nx i48_39 rfl
theorem i48_41 : mj_ins 48 41 = some (.iadd, 42) := by decide +kernel
theorem e48_41 {ls : mj_L} {st : List Value} {σ : mj_S} {τ : mj_T} {x y : Int32} : mj_E 48 41 ls (.int y :: .int x :: st) σ τ = mj_E 48 42 ls (.int (x + y) :: st) σ τ := mj_nx i48_41 rfl
theorem i48_42 : mj_ins 48 42 = some (.putfield 302, 45) := by decide +kernel
theorem e48_42 {ls : mj_L} {st : List Value} {σ : mj_S} {τ : mj_T} {v : Int32} : mj_E 48 42 ls (.int v :: .ref 9 :: st) σ τ = mj_E 48 45 ls st (mj_up σ 9 2 v) τ := mj_nx i48_42 rfl
theorem i48_45 : mj_ins 48 45 = some (.iload 3, 46) := by decide +kernel
theorem e48_45 {ls : mj_L} {st : List Value} {σ : mj_S} {τ : mj_T} {a0 a1 a2 : Option Value} {v : Int32} : mj_E 48 45 (a0 :: a1 :: a2 :: some (.int v) :: ls) st σ τ = mj_E 48 46 (a0 :: a1 :: a2 :: some (.int v) :: ls) (.int v :: st) σ τ := mj_nx i48_45 rfl
theorem i48_46 : mj_ins 48 46 = some (.ireturn, 47) := by decide +kernel
theorem e48_46 {ls : mj_L} {σ : mj_S} {τ : mj_T} {v : Int32} : mj_E 48 46 ls [.int v] σ τ = some (some (.int v), σ, τ) := mj_irt i48_46 rfl
theorem i48_47 : mj_ins 48 47 = some (.iload 2, 48) := by decide +kernel
theorem e48_47 {ls : mj_L} {st : List Value} {σ : mj_S} {τ : mj_T} {a0 a1 : Option Value} {v : Int32} : mj_E 48 47 (a0 :: a1 :: some (.int v) :: ls) st σ τ = mj_E 48 48 (a0 :: a1 :: some (.int v) :: ls) (.int v :: st) σ τ := mj_nx i48_47 rfl
theorem i48_48 : mj_ins 48 48 = some (.iload 5, 50) := by decide +kernel
theorem e48_48 {ls : mj_L} {st : List Value} {σ : mj_S} {τ : mj_T} {a0 a1 a2 a3 a4 : Option Value} {v : Int32} : mj_E 48 48 (a0 :: a1 :: a2 :: a3 :: a4 :: some (.int v) :: ls) st σ τ = mj_E 48 50 (a0 :: a1 :: a2 :: a3 :: a4 :: some (.int v) :: ls) (.int v :: st) σ τ := mj_nx i48_48 rfl
theorem i48_50 : mj_ins 48 50 = some (.invokedynamic 2, 53) := by decide +kernel
theorem e48_50 {ls : mj_L} {σ : mj_S} {τ : mj_T} {x y : Int32} : mj_E 48 50 ls (.int y :: .int x :: []) σ τ = mj_E 48 53 ls (.int (if x < y then y else x) :: []) σ τ := mj_nx i48_50 rfl
theorem i48_53 : mj_ins 48 53 = some (.istore 2, 54) := by decide +kernel
theorem e48_53 {ls : mj_L} {st : List Value} {σ : mj_S} {τ : mj_T} {a0 a1 a2 : Option Value} {v : Int32} : mj_E 48 53 (a0 :: a1 :: a2 :: ls) (.int v :: st) σ τ = mj_E 48 54 (a0 :: a1 :: some (.int v) :: ls) st σ τ := mj_nx i48_53 rfl
theorem i48_54 : mj_ins 48 54 = some (.iinc 3 (1), 57) := by decide +kernel
theorem e48_54 {ls : mj_L} {st : List Value} {σ : mj_S} {τ : mj_T} {a0 a1 a2 : Option Value} {v : Int32} : mj_E 48 54 (a0 :: a1 :: a2 :: some (.int v) :: ls) st σ τ = mj_E 48 57 (a0 :: a1 :: a2 :: some (.int (v + nI 1)) :: ls) st σ τ := mj_nx i48_54 rfl
theorem i48_57 : mj_ins 48 57 = some (.goto 4, 60) := by decide +kernel
theorem e48_57 {ls : mj_L} {st : List Value} {σ : mj_S} {τ : mj_T} : mj_E 48 57 ls st σ τ = mj_E 48 4 ls st σ τ := mj_nx i48_57 rfl
theorem i48_60 : mj_ins 48 60 = some (.aload 0, 61) := by decide +kernel
theorem e48_60 {ls : mj_L} {st : List Value} {σ : mj_S} {τ : mj_T} {v : Nat} : mj_E 48 60 (some (.ref v) :: ls) st σ τ = mj_E 48 61 (some (.ref v) :: ls) (.ref v :: st) σ τ := mj_nx i48_60 rfl
theorem i48_61 : mj_ins 48 61 = some (.aload 0, 62) := by decide +kernel
theorem e48_61 {ls : mj_L} {st : List Value} {σ : mj_S} {τ : mj_T} {v : Nat} : mj_E 48 61 (some (.ref v) :: ls) st σ τ = mj_E 48 62 (some (.ref v) :: ls) (.ref v :: st) σ τ := mj_nx i48_61 rfl
theorem i48_62 : mj_ins 48 62 = some (.getfield 302, 65) := by decide +kernel
theorem e48_62 {ls : mj_L} {st : List Value} {σ : mj_S} {τ : mj_T} : mj_E 48 62 ls (.ref 9 :: st) σ τ = mj_E 48 65 ls (.int (σ 9 2) :: st) σ τ := mj_nx i48_62 rfl
theorem i48_65 : mj_ins 48 65 = some (.iload 2, 66) := by decide +kernel
theorem e48_65 {ls : mj_L} {st : List Value} {σ : mj_S} {τ : mj_T} {a0 a1 : Option Value} {v : Int32} : mj_E 48 65 (a0 :: a1 :: some (.int v) :: ls) st σ τ = mj_E 48 66 (a0 :: a1 :: some (.int v) :: ls) (.int v :: st) σ τ := mj_nx i48_65 rfl
theorem i48_66 : mj_ins 48 66 = some (.iadd, 67) := by decide +kernel
theorem e48_66 {ls : mj_L} {st : List Value} {σ : mj_S} {τ : mj_T} {x y : Int32} : mj_E 48 66 ls (.int y :: .int x :: st) σ τ = mj_E 48 67 ls (.int (x + y) :: st) σ τ := mj_nx i48_66 rfl
theorem i48_67 : mj_ins 48 67 = some (.invokevirtual 46, 70) := by decide +kernel
theorem e48_67 {ls : mj_L} {σ : mj_S} {τ : mj_T} {r : Nat} {x0 : Int32} : mj_E 48 67 ls [.int x0, .ref r] σ τ = if mj_rcv r 3 = true then mj_bd (mj_C 46 [.ref r, .int x0] σ τ) (mj_K 48 70 ls []) else none := mj_clV (as := [.int x0]) (r := []) i48_67 (by decide +kernel : mj_vk 48 46 1 0 2 false = true) (by decide +kernel)
theorem i48_70 : mj_ins 48 70 = some (.pop, 71) := by decide +kernel
theorem e48_70 {ls : mj_L} {st : List Value} {σ : mj_S} {τ : mj_T} {v : Int32} : mj_E 48 70 ls (.int v :: st) σ τ = mj_E 48 71 ls st σ τ := mj_nx i48_70 rfl
theorem i48_71 : mj_ins 48 71 = some (.iconst (-1), 72) := by decide +kernel
theorem e48_71 {ls : mj_L} {st : List Value} {σ : mj_S} {τ : mj_T} : mj_E 48 71 ls st σ τ = mj_E 48 72 ls (.int ((-1)) :: st) σ τ := mj_nx i48_71 rfl
theorem i48_72 : mj_ins 48 72 = some (.ireturn, 73) := by decide +kernel
theorem e48_72 {ls : mj_L} {σ : mj_S} {τ : mj_T} {v : Int32} : mj_E 48 72 ls [.int v] σ τ = some (some (.int v), σ, τ) := mj_irt i48_72 rfl
theorem c49 {σ : mj_S} {τ : mj_T} {r : Nat} {x0 : Nat} {x1 : Nat} : mj_C 49 [.ref r, .ref x0, .ref x1] σ τ = mj_E 49 0 [some (.ref r), some (.ref x0), some (.ref x1), none] [] σ τ := rfl
theorem i49_0 : mj_ins 49 0 = some (.iconst (0), 1) := by decide +kernel
theorem e49_0 {ls : mj_L} {st : List Value} {σ : mj_S} {τ : mj_T} : mj_E 49 0 ls st σ τ = mj_E 49 1 ls (.int (nI 0) :: st) σ τ := mj_nx i49_0 rfl
theorem i49_1 : mj_ins 49 1 = some (.istore 3, 2) := by decide +kernel
theorem e49_1 {ls : mj_L} {st : List Value} {σ : mj_S} {τ : mj_T} {a0 a1 a2 a3 : Option Value} {v : Int32} : mj_E 49 1 (a0 :: a1 :: a2 :: a3 :: ls) (.int v :: st) σ τ = mj_E 49 2 (a0 :: a1 :: a2 :: some (.int v) :: ls) st σ τ := mj_nx i49_1 rfl
theorem i49_2 : mj_ins 49 2 = some (.iload 3, 3) := by decide +kernel
theorem e49_2 {ls : mj_L} {st : List Value} {σ : mj_S} {τ : mj_T} {a0 a1 a2 : Option Value} {v : Int32} : mj_E 49 2 (a0 :: a1 :: a2 :: some (.int v) :: ls) st σ τ = mj_E 49 3 (a0 :: a1 :: a2 :: some (.int v) :: ls) (.int v :: st) σ τ := mj_nx i49_2 rfl
theorem i49_3 : mj_ins 49 3 = some (.aload 2, 4) := by decide +kernel
theorem e49_3 {ls : mj_L} {st : List Value} {σ : mj_S} {τ : mj_T} {a0 a1 : Option Value} {v : Nat} : mj_E 49 3 (a0 :: a1 :: some (.ref v) :: ls) st σ τ = mj_E 49 4 (a0 :: a1 :: some (.ref v) :: ls) (.ref v :: st) σ τ := mj_nx i49_3 rfl
theorem i49_4 : mj_ins 49 4 = some (.invokevirtual 201, 7) := by decide +kernel
theorem e49_4 {ls : mj_L} {σ : mj_S} {τ : mj_T} {r : Nat} {w0 : Value} : mj_E 49 4 ls [.ref r, w0] σ τ = if mj_rcv r 20 = true then mj_bd (mj_C 201 [.ref r] σ τ) (mj_K 49 7 ls [w0]) else none := mj_clV (as := []) (r := [w0]) i49_4 (by decide +kernel : mj_vk 49 201 0 1 1 false = true) (by decide +kernel)
theorem i49_7 : mj_ins 49 7 = some (.if_icmp .ge 47, 10) := by decide +kernel
theorem e49_7 {ls : mj_L} {st : List Value} {σ : mj_S} {τ : mj_T} {x y : Int32} : mj_E 49 7 ls (.int y :: .int x :: st) σ τ = if y ≤ x then mj_E 49 47 ls st σ τ else mj_E 49 10 ls st σ τ := (mj_ifi i49_7).trans (mj_cdT rfl)
theorem i49_10 : mj_ins 49 10 = some (.aload 1, 11) := by decide +kernel
theorem e49_10 {ls : mj_L} {st : List Value} {σ : mj_S} {τ : mj_T} {a0 : Option Value} {v : Nat} : mj_E 49 10 (a0 :: some (.ref v) :: ls) st σ τ = mj_E 49 11 (a0 :: some (.ref v) :: ls) (.ref v :: st) σ τ := mj_nx i49_10 rfl
theorem i49_11 : mj_ins 49 11 = some (.aload 0, 12) := by decide +kernel
theorem e49_11 {ls : mj_L} {st : List Value} {σ : mj_S} {τ : mj_T} {v : Nat} : mj_E 49 11 (some (.ref v) :: ls) st σ τ = mj_E 49 12 (some (.ref v) :: ls) (.ref v :: st) σ τ := mj_nx i49_11 rfl
theorem i49_12 : mj_ins 49 12 = some (.getfield 302, 15) := by decide +kernel
theorem e49_12 {ls : mj_L} {st : List Value} {σ : mj_S} {τ : mj_T} : mj_E 49 12 ls (.ref 9 :: st) σ τ = mj_E 49 15 ls (.int (σ 9 2) :: st) σ τ := mj_nx i49_12 rfl
theorem i49_15 : mj_ins 49 15 = some (.iload 3, 16) := by decide +kernel
theorem e49_15 {ls : mj_L} {st : List Value} {σ : mj_S} {τ : mj_T} {a0 a1 a2 : Option Value} {v : Int32} : mj_E 49 15 (a0 :: a1 :: a2 :: some (.int v) :: ls) st σ τ = mj_E 49 16 (a0 :: a1 :: a2 :: some (.int v) :: ls) (.int v :: st) σ τ := mj_nx i49_15 rfl
theorem i49_16 : mj_ins 49 16 = some (.iadd, 17) := by decide +kernel
theorem e49_16 {ls : mj_L} {st : List Value} {σ : mj_S} {τ : mj_T} {x y : Int32} : mj_E 49 16 ls (.int y :: .int x :: st) σ τ = mj_E 49 17 ls (.int (x + y) :: st) σ τ := mj_nx i49_16 rfl
theorem i49_17 : mj_ins 49 17 = some (.invokevirtual 63, 20) := by decide +kernel
theorem e49_17 {ls : mj_L} {σ : mj_S} {τ : mj_T} {r : Nat} {x0 : Int32} : mj_E 49 17 ls [.int x0, .ref r] σ τ = if mj_rcv r 4 = true then mj_bd (mj_C 63 [.ref r, .int x0] σ τ) (mj_K 49 20 ls []) else none := mj_clV (as := [.int x0]) (r := []) i49_17 (by decide +kernel : mj_vk 49 63 1 0 2 false = true) (by decide +kernel)
theorem i49_20 : mj_ins 49 20 = some (.ifCond .eq 47, 23) := by decide +kernel
theorem e49_20 {ls : mj_L} {st : List Value} {σ : mj_S} {τ : mj_T} {x : Int32} : mj_E 49 20 ls (.int x :: st) σ τ = if x = 0 then mj_E 49 47 ls st σ τ else mj_E 49 23 ls st σ τ := (mj_ifc i49_20).trans (mj_cdT rfl)
theorem i49_23 : mj_ins 49 23 = some (.aload 1, 24) := by decide +kernel
theorem e49_23 {ls : mj_L} {st : List Value} {σ : mj_S} {τ : mj_T} {a0 : Option Value} {v : Nat} : mj_E 49 23 (a0 :: some (.ref v) :: ls) st σ τ = mj_E 49 24 (a0 :: some (.ref v) :: ls) (.ref v :: st) σ τ := mj_nx i49_23 rfl
theorem i49_24 : mj_ins 49 24 = some (.aload 0, 25) := by decide +kernel
theorem e49_24 {ls : mj_L} {st : List Value} {σ : mj_S} {τ : mj_T} {v : Nat} : mj_E 49 24 (some (.ref v) :: ls) st σ τ = mj_E 49 25 (some (.ref v) :: ls) (.ref v :: st) σ τ := mj_nx i49_24 rfl
theorem i49_25 : mj_ins 49 25 = some (.getfield 302, 28) := by decide +kernel
theorem e49_25 {ls : mj_L} {st : List Value} {σ : mj_S} {τ : mj_T} : mj_E 49 25 ls (.ref 9 :: st) σ τ = mj_E 49 28 ls (.int (σ 9 2) :: st) σ τ := mj_nx i49_25 rfl
theorem i49_28 : mj_ins 49 28 = some (.iload 3, 29) := by decide +kernel
theorem e49_28 {ls : mj_L} {st : List Value} {σ : mj_S} {τ : mj_T} {a0 a1 a2 : Option Value} {v : Int32} : mj_E 49 28 (a0 :: a1 :: a2 :: some (.int v) :: ls) st σ τ = mj_E 49 29 (a0 :: a1 :: a2 :: some (.int v) :: ls) (.int v :: st) σ τ := mj_nx i49_28 rfl
theorem i49_29 : mj_ins 49 29 = some (.iadd, 30) := by decide +kernel
theorem e49_29 {ls : mj_L} {st : List Value} {σ : mj_S} {τ : mj_T} {x y : Int32} : mj_E 49 29 ls (.int y :: .int x :: st) σ τ = mj_E 49 30 ls (.int (x + y) :: st) σ τ := mj_nx i49_29 rfl
theorem i49_30 : mj_ins 49 30 = some (.invokevirtual 66, 33) := by decide +kernel
theorem e49_30 {ls : mj_L} {σ : mj_S} {τ : mj_T} {r : Nat} {x0 : Int32} : mj_E 49 30 ls [.int x0, .ref r] σ τ = if mj_rcv r 4 = true then mj_bd (mj_C 66 [.ref r, .int x0] σ τ) (mj_K 49 33 ls []) else none := mj_clV (as := [.int x0]) (r := []) i49_30 (by decide +kernel : mj_vk 49 66 1 0 2 false = true) (by decide +kernel)
theorem i49_33 : mj_ins 49 33 = some (.aload 2, 34) := by decide +kernel
theorem e49_33 {ls : mj_L} {st : List Value} {σ : mj_S} {τ : mj_T} {a0 a1 : Option Value} {v : Nat} : mj_E 49 33 (a0 :: a1 :: some (.ref v) :: ls) st σ τ = mj_E 49 34 (a0 :: a1 :: some (.ref v) :: ls) (.ref v :: st) σ τ := mj_nx i49_33 rfl
theorem i49_34 : mj_ins 49 34 = some (.iload 3, 35) := by decide +kernel
theorem e49_34 {ls : mj_L} {st : List Value} {σ : mj_S} {τ : mj_T} {a0 a1 a2 : Option Value} {v : Int32} : mj_E 49 34 (a0 :: a1 :: a2 :: some (.int v) :: ls) st σ τ = mj_E 49 35 (a0 :: a1 :: a2 :: some (.int v) :: ls) (.int v :: st) σ τ := mj_nx i49_34 rfl
theorem i49_35 : mj_ins 49 35 = some (.invokevirtual 202, 38) := by decide +kernel
theorem e49_35 {ls : mj_L} {σ : mj_S} {τ : mj_T} {r : Nat} {x0 : Int32} {w0 : Value} : mj_E 49 35 ls [.int x0, .ref r, w0] σ τ = if mj_rcv r 20 = true then mj_bd (mj_C 202 [.ref r, .int x0] σ τ) (mj_K 49 38 ls [w0]) else none := mj_clV (as := [.int x0]) (r := [w0]) i49_35 (by decide +kernel : mj_vk 49 202 1 1 2 false = true) (by decide +kernel)
theorem i49_38 : mj_ins 49 38 = some (.if_icmp .ne 47, 41) := by decide +kernel
theorem e49_38 {ls : mj_L} {st : List Value} {σ : mj_S} {τ : mj_T} {x y : Int32} : mj_E 49 38 ls (.int y :: .int x :: st) σ τ = if x = y then mj_E 49 41 ls st σ τ else mj_E 49 47 ls st σ τ := (mj_ifi i49_38).trans (mj_cdF rfl)
theorem i49_41 : mj_ins 49 41 = some (.iinc 3 (1), 44) := by decide +kernel
theorem e49_41 {ls : mj_L} {st : List Value} {σ : mj_S} {τ : mj_T} {a0 a1 a2 : Option Value} {v : Int32} : mj_E 49 41 (a0 :: a1 :: a2 :: some (.int v) :: ls) st σ τ = mj_E 49 44 (a0 :: a1 :: a2 :: some (.int (v + nI 1)) :: ls) st σ τ := mj_nx i49_41 rfl
theorem i49_44 : mj_ins 49 44 = some (.goto 2, 47) := by decide +kernel
theorem e49_44 {ls : mj_L} {st : List Value} {σ : mj_S} {τ : mj_T} : mj_E 49 44 ls st σ τ = mj_E 49 2 ls st σ τ := mj_nx i49_44 rfl
theorem i49_47 : mj_ins 49 47 = some (.iload 3, 48) := by decide +kernel
theorem e49_47 {ls : mj_L} {st : List Value} {σ : mj_S} {τ : mj_T} {a0 a1 a2 : Option Value} {v : Int32} : mj_E 49 47 (a0 :: a1 :: a2 :: some (.int v) :: ls) st σ τ = mj_E 49 48 (a0 :: a1 :: a2 :: some (.int v) :: ls) (.int v :: st) σ τ := mj_nx i49_47 rfl
theorem i49_48 : mj_ins 49 48 = some (.ireturn, 49) := by decide +kernel
theorem e49_48 {ls : mj_L} {σ : mj_S} {τ : mj_T} {v : Int32} : mj_E 49 48 ls [.int v] σ τ = some (some (.int v), σ, τ) := mj_irt i49_48 rfl
theorem c50 {σ : mj_S} {τ : mj_T} {x0 : Int32} : mj_C 50 [.int x0] σ τ = mj_E 50 0 [some (.int x0)] [] σ τ := rfl
theorem i50_0 : mj_ins 50 0 = some (.iload 0, 1) := by decide +kernel
theorem e50_0 {ls : mj_L} {st : List Value} {σ : mj_S} {τ : mj_T} {v : Int32} : mj_E 50 0 (some (.int v) :: ls) st σ τ = mj_E 50 1 (some (.int v) :: ls) (.int v :: st) σ τ := mj_nx i50_0 rfl
theorem i50_1 : mj_ins 50 1 = some (.tableswitch 44 (0) (3) #[32, 35, 38, 41], 1) := by decide +kernel
theorem e50_1 {ls : mj_L} {st : List Value} {σ : mj_S} {τ : mj_T} {x : Int32} : mj_E 50 1 ls (.int x :: st) σ τ = if x = nI 0 then mj_E 50 32 ls st σ τ else if x = nI 1 then mj_E 50 35 ls st σ τ else if x = nI 2 then mj_E 50 38 ls st σ τ else if x = nI 3 then mj_E 50 41 ls st σ τ else mj_E 50 44 ls st σ τ := mj_tsw i50_1 (by decide)
theorem i50_32 : mj_ins 50 32 = some (.ldc 93, 34) := by decide +kernel
theorem e50_32 {ls : mj_L} {st : List Value} {σ : mj_S} {τ : mj_T} : mj_E 50 32 ls st σ τ = mj_E 50 34 ls (.ref 93 :: st) σ τ := mj_nx i50_32 rfl
theorem i50_34 : mj_ins 50 34 = some (.areturn, 35) := by decide +kernel
theorem e50_34 {ls : mj_L} {σ : mj_S} {τ : mj_T} {v : Nat} : mj_E 50 34 ls [.ref v] σ τ = some (some (.ref v), σ, τ) := mj_art i50_34 rfl rfl
theorem i50_35 : mj_ins 50 35 = some (.ldc 94, 37) := by decide +kernel
theorem e50_35 {ls : mj_L} {st : List Value} {σ : mj_S} {τ : mj_T} : mj_E 50 35 ls st σ τ = mj_E 50 37 ls (.ref 94 :: st) σ τ := mj_nx i50_35 rfl
theorem i50_37 : mj_ins 50 37 = some (.areturn, 38) := by decide +kernel
theorem e50_37 {ls : mj_L} {σ : mj_S} {τ : mj_T} {v : Nat} : mj_E 50 37 ls [.ref v] σ τ = some (some (.ref v), σ, τ) := mj_art i50_37 rfl rfl
theorem i50_38 : mj_ins 50 38 = some (.ldc 95, 40) := by decide +kernel
theorem e50_38 {ls : mj_L} {st : List Value} {σ : mj_S} {τ : mj_T} : mj_E 50 38 ls st σ τ = mj_E 50 40 ls (.ref 95 :: st) σ τ := mj_nx i50_38 rfl
theorem i50_40 : mj_ins 50 40 = some (.areturn, 41) := by decide +kernel
theorem e50_40 {ls : mj_L} {σ : mj_S} {τ : mj_T} {v : Nat} : mj_E 50 40 ls [.ref v] σ τ = some (some (.ref v), σ, τ) := mj_art i50_40 rfl rfl
theorem i50_41 : mj_ins 50 41 = some (.ldc 96, 43) := by decide +kernel
theorem e50_41 {ls : mj_L} {st : List Value} {σ : mj_S} {τ : mj_T} : mj_E 50 41 ls st σ τ = mj_E 50 43 ls (.ref 96 :: st) σ τ := mj_nx i50_41 rfl
theorem i50_43 : mj_ins 50 43 = some (.areturn, 44) := by decide +kernel
theorem e50_43 {ls : mj_L} {σ : mj_S} {τ : mj_T} {v : Nat} : mj_E 50 43 ls [.ref v] σ τ = some (some (.ref v), σ, τ) := mj_art i50_43 rfl rfl
theorem i50_44 : mj_ins 50 44 = some (.ldc 97, 46) := by decide +kernel
theorem e50_44 {ls : mj_L} {st : List Value} {σ : mj_S} {τ : mj_T} : mj_E 50 44 ls st σ τ = mj_E 50 46 ls (.ref 97 :: st) σ τ := mj_nx i50_44 rfl
theorem i50_46 : mj_ins 50 46 = some (.areturn, 47) := by decide +kernel
theorem e50_46 {ls : mj_L} {σ : mj_S} {τ : mj_T} {v : Nat} : mj_E 50 46 ls [.ref v] σ τ = some (some (.ref v), σ, τ) := mj_art i50_46 rfl rfl
theorem c51 {σ : mj_S} {τ : mj_T} {x0 : Nat} {x1 : Int32} : mj_C 51 [.ref x0, .int x1] σ τ = mj_E 51 0 [some (.ref x0), some (.int x1)] [] σ τ := rfl
theorem i51_0 : mj_ins 51 0 = some (.iload 1, 1) := by decide +kernel
theorem e51_0 {ls : mj_L} {st : List Value} {σ : mj_S} {τ : mj_T} {a0 : Option Value} {v : Int32} : mj_E 51 0 (a0 :: some (.int v) :: ls) st σ τ = mj_E 51 1 (a0 :: some (.int v) :: ls) (.int v :: st) σ τ := mj_nx i51_0 rfl
theorem i51_1 : mj_ins 51 1 = some (.ifCond .ne 9, 4) := by decide +kernel
theorem e51_1 {ls : mj_L} {st : List Value} {σ : mj_S} {τ : mj_T} {x : Int32} : mj_E 51 1 ls (.int x :: st) σ τ = if x = 0 then mj_E 51 4 ls st σ τ else mj_E 51 9 ls st σ τ := (mj_ifc i51_1).trans (mj_cdF rfl)
theorem i51_4 : mj_ins 51 4 = some (.aload 0, 5) := by decide +kernel
theorem e51_4 {ls : mj_L} {st : List Value} {σ : mj_S} {τ : mj_T} {v : Nat} : mj_E 51 4 (some (.ref v) :: ls) st σ τ = mj_E 51 5 (some (.ref v) :: ls) (.ref v :: st) σ τ := mj_nx i51_4 rfl
theorem i51_5 : mj_ins 51 5 = some (.invokevirtual 9, 8) := by decide +kernel
theorem e51_5 {ls : mj_L} {σ : mj_S} {τ : mj_T} {r : Nat} : mj_E 51 5 ls [.ref r] σ τ = if mj_rcv r 1 = true then mj_bd (mj_C 9 [.ref r] σ τ) (mj_K 51 8 ls []) else none := mj_clV (as := []) (r := []) i51_5 (by decide +kernel : mj_vk 51 9 0 0 1 false = true) (by decide +kernel)
theorem i51_8 : mj_ins 51 8 = some (.ireturn, 9) := by decide +kernel
theorem e51_8 {ls : mj_L} {σ : mj_S} {τ : mj_T} {v : Int32} : mj_E 51 8 ls [.int v] σ τ = if mj_ok (some .boolean) v = true then some (some (.int v), σ, τ) else none := mj_zrt i51_8 rfl
theorem i51_9 : mj_ins 51 9 = some (.iload 1, 10) := by decide +kernel
theorem e51_9 {ls : mj_L} {st : List Value} {σ : mj_S} {τ : mj_T} {a0 : Option Value} {v : Int32} : mj_E 51 9 (a0 :: some (.int v) :: ls) st σ τ = mj_E 51 10 (a0 :: some (.int v) :: ls) (.int v :: st) σ τ := mj_nx i51_9 rfl
theorem i51_10 : mj_ins 51 10 = some (.iconst (1), 11) := by decide +kernel
theorem e51_10 {ls : mj_L} {st : List Value} {σ : mj_S} {τ : mj_T} : mj_E 51 10 ls st σ τ = mj_E 51 11 ls (.int (nI 1) :: st) σ τ := mj_nx i51_10 rfl
theorem i51_11 : mj_ins 51 11 = some (.if_icmp .ne 21, 14) := by decide +kernel
theorem e51_11 {ls : mj_L} {st : List Value} {σ : mj_S} {τ : mj_T} {x y : Int32} : mj_E 51 11 ls (.int y :: .int x :: st) σ τ = if x = y then mj_E 51 14 ls st σ τ else mj_E 51 21 ls st σ τ := (mj_ifi i51_11).trans (mj_cdF rfl)
theorem i51_14 : mj_ins 51 14 = some (.aload 0, 15) := by decide +kernel
theorem e51_14 {ls : mj_L} {st : List Value} {σ : mj_S} {τ : mj_T} {v : Nat} : mj_E 51 14 (some (.ref v) :: ls) st σ τ = mj_E 51 15 (some (.ref v) :: ls) (.ref v :: st) σ τ := mj_nx i51_14 rfl
theorem i51_15 : mj_ins 51 15 = some (.invokevirtual 10, 18) := by decide +kernel
theorem e51_15 {ls : mj_L} {σ : mj_S} {τ : mj_T} {r : Nat} : mj_E 51 15 ls [.ref r] σ τ = if mj_rcv r 1 = true then mj_bd (mj_C 10 [.ref r] σ τ) (mj_K 51 18 ls []) else none := mj_clV (as := []) (r := []) i51_15 (by decide +kernel : mj_vk 51 10 0 0 1 false = true) (by decide +kernel)
theorem i51_18 : mj_ins 51 18 = some (.ifCond .eq 25, 21) := by decide +kernel
theorem e51_18 {ls : mj_L} {st : List Value} {σ : mj_S} {τ : mj_T} {x : Int32} : mj_E 51 18 ls (.int x :: st) σ τ = if x = 0 then mj_E 51 25 ls st σ τ else mj_E 51 21 ls st σ τ := (mj_ifc i51_18).trans (mj_cdT rfl)
theorem i51_21 : mj_ins 51 21 = some (.iconst (1), 22) := by decide +kernel
theorem e51_21 {ls : mj_L} {st : List Value} {σ : mj_S} {τ : mj_T} : mj_E 51 21 ls st σ τ = mj_E 51 22 ls (.int (nI 1) :: st) σ τ := mj_nx i51_21 rfl
theorem i51_22 : mj_ins 51 22 = some (.goto 26, 25) := by decide +kernel
theorem e51_22 {ls : mj_L} {st : List Value} {σ : mj_S} {τ : mj_T} : mj_E 51 22 ls st σ τ = mj_E 51 26 ls st σ τ := mj_nx i51_22 rfl
theorem i51_25 : mj_ins 51 25 = some (.iconst (0), 26) := by decide +kernel
theorem e51_25 {ls : mj_L} {st : List Value} {σ : mj_S} {τ : mj_T} : mj_E 51 25 ls st σ τ = mj_E 51 26 ls (.int (nI 0) :: st) σ τ := mj_nx i51_25 rfl
theorem i51_26 : mj_ins 51 26 = some (.ireturn, 27) := by decide +kernel
theorem e51_26 {ls : mj_L} {σ : mj_S} {τ : mj_T} {v : Int32} : mj_E 51 26 ls [.int v] σ τ = if mj_ok (some .boolean) v = true then some (some (.int v), σ, τ) else none := mj_zrt i51_26 rfl
theorem c52 {σ : mj_S} {τ : mj_T} {r : Nat} {x0 : Nat} {x1 : Nat} {x2 : Int32} {x3 : Int32} : mj_C 52 [.ref r, .ref x0, .ref x1, .int x2, .int x3] σ τ = mj_E 52 0 [some (.ref r), some (.ref x0), some (.ref x1), some (.int x2), some (.int x3), none, none] [] σ τ := rfl
theorem i52_0 : mj_ins 52 0 = some (.aload 0, 1) := by decide +kernel
theorem e52_0 {ls : mj_L} {st : List Value} {σ : mj_S} {τ : mj_T} {v : Nat} : mj_E 52 0 (some (.ref v) :: ls) st σ τ = mj_E 52 1 (some (.ref v) :: ls) (.ref v :: st) σ τ := mj_nx i52_0 rfl
theorem i52_1 : mj_ins 52 1 = some (.aload 2, 2) := by decide +kernel
theorem e52_1 {ls : mj_L} {st : List Value} {σ : mj_S} {τ : mj_T} {a0 a1 : Option Value} {v : Nat} : mj_E 52 1 (a0 :: a1 :: some (.ref v) :: ls) st σ τ = mj_E 52 2 (a0 :: a1 :: some (.ref v) :: ls) (.ref v :: st) σ τ := mj_nx i52_1 rfl
theorem i52_2 : mj_ins 52 2 = some (.iconst (32), 4) := by decide +kernel
theorem e52_2 {ls : mj_L} {st : List Value} {σ : mj_S} {τ : mj_T} : mj_E 52 2 ls st σ τ = mj_E 52 4 ls (.int (nI 32) :: st) σ τ := mj_nx i52_2 rfl
theorem i52_4 : mj_ins 52 4 = some (.invokevirtual 47, 7) := by decide +kernel
theorem e52_4 {ls : mj_L} {σ : mj_S} {τ : mj_T} {r : Nat} {x0 : Nat} {x1 : Int32} : mj_E 52 4 ls [.int x1, .ref x0, .ref r] σ τ = if mj_rcv r 3 = true then mj_bd (mj_C 47 [.ref r, .ref x0, .int x1] σ τ) (mj_K 52 7 ls []) else none := mj_clV (as := [.ref x0, .int x1]) (r := []) i52_4 (by decide +kernel : mj_vk 52 47 2 0 3 false = true) (by decide +kernel)
theorem i52_7 : mj_ins 52 7 = some (.ifCond .ne 12, 10) := by decide +kernel
theorem e52_7 {ls : mj_L} {st : List Value} {σ : mj_S} {τ : mj_T} {x : Int32} : mj_E 52 7 ls (.int x :: st) σ τ = if x = 0 then mj_E 52 10 ls st σ τ else mj_E 52 12 ls st σ τ := (mj_ifc i52_7).trans (mj_cdF rfl)
theorem i52_10 : mj_ins 52 10 = some (.iconst (0), 11) := by decide +kernel
theorem e52_10 {ls : mj_L} {st : List Value} {σ : mj_S} {τ : mj_T} : mj_E 52 10 ls st σ τ = mj_E 52 11 ls (.int (nI 0) :: st) σ τ := mj_nx i52_10 rfl
theorem i52_11 : mj_ins 52 11 = some (.ireturn, 12) := by decide +kernel
theorem e52_11 {ls : mj_L} {σ : mj_S} {τ : mj_T} {v : Int32} : mj_E 52 11 ls [.int v] σ τ = if mj_ok (some .boolean) v = true then some (some (.int v), σ, τ) else none := mj_zrt i52_11 rfl
theorem i52_12 : mj_ins 52 12 = some (.aload 0, 13) := by decide +kernel
theorem e52_12 {ls : mj_L} {st : List Value} {σ : mj_S} {τ : mj_T} {v : Nat} : mj_E 52 12 (some (.ref v) :: ls) st σ τ = mj_E 52 13 (some (.ref v) :: ls) (.ref v :: st) σ τ := mj_nx i52_12 rfl
theorem i52_13 : mj_ins 52 13 = some (.getfield 302, 16) := by decide +kernel
theorem e52_13 {ls : mj_L} {st : List Value} {σ : mj_S} {τ : mj_T} : mj_E 52 13 ls (.ref 9 :: st) σ τ = mj_E 52 16 ls (.int (σ 9 2) :: st) σ τ := mj_nx i52_13 rfl
theorem i52_16 : mj_ins 52 16 = some (.istore 5, 18) := by decide +kernel
theorem e52_16 {ls : mj_L} {st : List Value} {σ : mj_S} {τ : mj_T} {a0 a1 a2 a3 a4 a5 : Option Value} {v : Int32} : mj_E 52 16 (a0 :: a1 :: a2 :: a3 :: a4 :: a5 :: ls) (.int v :: st) σ τ = mj_E 52 18 (a0 :: a1 :: a2 :: a3 :: a4 :: some (.int v) :: ls) st σ τ := mj_nx i52_16 rfl
theorem i52_18 : mj_ins 52 18 = some (.aload 0, 19) := by decide +kernel
theorem e52_18 {ls : mj_L} {st : List Value} {σ : mj_S} {τ : mj_T} {v : Nat} : mj_E 52 18 (some (.ref v) :: ls) st σ τ = mj_E 52 19 (some (.ref v) :: ls) (.ref v :: st) σ τ := mj_nx i52_18 rfl
theorem i52_19 : mj_ins 52 19 = some (.aload 2, 20) := by decide +kernel
theorem e52_19 {ls : mj_L} {st : List Value} {σ : mj_S} {τ : mj_T} {a0 a1 : Option Value} {v : Nat} : mj_E 52 19 (a0 :: a1 :: some (.ref v) :: ls) st σ τ = mj_E 52 20 (a0 :: a1 :: some (.ref v) :: ls) (.ref v :: st) σ τ := mj_nx i52_19 rfl
theorem i52_20 : mj_ins 52 20 = some (.invokevirtual 53, 23) := by decide +kernel
theorem e52_20 {ls : mj_L} {σ : mj_S} {τ : mj_T} {r : Nat} {x0 : Nat} : mj_E 52 20 ls [.ref x0, .ref r] σ τ = if mj_rcv r 3 = true then mj_bd (mj_C 53 [.ref r, .ref x0] σ τ) (mj_K 52 23 ls []) else none := mj_clV (as := [.ref x0]) (r := []) i52_20 (by decide +kernel : mj_vk 52 53 1 0 2 false = true) (by decide +kernel)
theorem i52_23 : mj_ins 52 23 = some (.ifCond .ne 33, 26) := by decide +kernel
theorem e52_23 {ls : mj_L} {st : List Value} {σ : mj_S} {τ : mj_T} {x : Int32} : mj_E 52 23 ls (.int x :: st) σ τ = if x = 0 then mj_E 52 26 ls st σ τ else mj_E 52 33 ls st σ τ := (mj_ifc i52_23).trans (mj_cdF rfl)
theorem i52_26 : mj_ins 52 26 = some (.aload 0, 27) := by decide +kernel
theorem e52_26 {ls : mj_L} {st : List Value} {σ : mj_S} {τ : mj_T} {v : Nat} : mj_E 52 26 (some (.ref v) :: ls) st σ τ = mj_E 52 27 (some (.ref v) :: ls) (.ref v :: st) σ τ := mj_nx i52_26 rfl
theorem i52_27 : mj_ins 52 27 = some (.iload 5, 29) := by decide +kernel
theorem e52_27 {ls : mj_L} {st : List Value} {σ : mj_S} {τ : mj_T} {a0 a1 a2 a3 a4 : Option Value} {v : Int32} : mj_E 52 27 (a0 :: a1 :: a2 :: a3 :: a4 :: some (.int v) :: ls) st σ τ = mj_E 52 29 (a0 :: a1 :: a2 :: a3 :: a4 :: some (.int v) :: ls) (.int v :: st) σ τ := mj_nx i52_27 rfl
theorem i52_29 : mj_ins 52 29 = some (.invokevirtual 46, 32) := by decide +kernel
theorem e52_29 {ls : mj_L} {σ : mj_S} {τ : mj_T} {r : Nat} {x0 : Int32} : mj_E 52 29 ls [.int x0, .ref r] σ τ = if mj_rcv r 3 = true then mj_bd (mj_C 46 [.ref r, .int x0] σ τ) (mj_K 52 32 ls []) else none := mj_clV (as := [.int x0]) (r := []) i52_29 (by decide +kernel : mj_vk 52 46 1 0 2 false = true) (by decide +kernel)
theorem i52_32 : mj_ins 52 32 = some (.ireturn, 33) := by decide +kernel
theorem e52_32 {ls : mj_L} {σ : mj_S} {τ : mj_T} {v : Int32} : mj_E 52 32 ls [.int v] σ τ = if mj_ok (some .boolean) v = true then some (some (.int v), σ, τ) else none := mj_zrt i52_32 rfl
theorem i52_33 : mj_ins 52 33 = some (.aload 0, 34) := by decide +kernel
theorem e52_33 {ls : mj_L} {st : List Value} {σ : mj_S} {τ : mj_T} {v : Nat} : mj_E 52 33 (some (.ref v) :: ls) st σ τ = mj_E 52 34 (some (.ref v) :: ls) (.ref v :: st) σ τ := mj_nx i52_33 rfl
theorem i52_34 : mj_ins 52 34 = some (.aload 2, 35) := by decide +kernel
theorem e52_34 {ls : mj_L} {st : List Value} {σ : mj_S} {τ : mj_T} {a0 a1 : Option Value} {v : Nat} : mj_E 52 34 (a0 :: a1 :: some (.ref v) :: ls) st σ τ = mj_E 52 35 (a0 :: a1 :: some (.ref v) :: ls) (.ref v :: st) σ τ := mj_nx i52_34 rfl
theorem i52_35 : mj_ins 52 35 = some (.invokevirtual 54, 38) := by decide +kernel
theorem e52_35 {ls : mj_L} {σ : mj_S} {τ : mj_T} {r : Nat} {x0 : Nat} : mj_E 52 35 ls [.ref x0, .ref r] σ τ = if mj_rcv r 3 = true then mj_bd (mj_C 54 [.ref r, .ref x0] σ τ) (mj_K 52 38 ls []) else none := mj_clV (as := [.ref x0]) (r := []) i52_35 (by decide +kernel : mj_vk 52 54 1 0 2 false = true) (by decide +kernel)
theorem i52_38 : mj_ins 52 38 = some (.istore 6, 40) := by decide +kernel
theorem e52_38 {ls : mj_L} {st : List Value} {σ : mj_S} {τ : mj_T} {a0 a1 a2 a3 a4 a5 a6 : Option Value} {v : Int32} : mj_E 52 38 (a0 :: a1 :: a2 :: a3 :: a4 :: a5 :: a6 :: ls) (.int v :: st) σ τ = mj_E 52 40 (a0 :: a1 :: a2 :: a3 :: a4 :: a5 :: some (.int v) :: ls) st σ τ := mj_nx i52_38 rfl
theorem i52_40 : mj_ins 52 40 = some (.aload 0, 41) := by decide +kernel
theorem e52_40 {ls : mj_L} {st : List Value} {σ : mj_S} {τ : mj_T} {v : Nat} : mj_E 52 40 (some (.ref v) :: ls) st σ τ = mj_E 52 41 (some (.ref v) :: ls) (.ref v :: st) σ τ := mj_nx i52_40 rfl
theorem i52_41 : mj_ins 52 41 = some (.aload 2, 42) := by decide +kernel
theorem e52_41 {ls : mj_L} {st : List Value} {σ : mj_S} {τ : mj_T} {a0 a1 : Option Value} {v : Nat} : mj_E 52 41 (a0 :: a1 :: some (.ref v) :: ls) st σ τ = mj_E 52 42 (a0 :: a1 :: some (.ref v) :: ls) (.ref v :: st) σ τ := mj_nx i52_41 rfl
theorem i52_42 : mj_ins 52 42 = some (.invokevirtual 53, 45) := by decide +kernel
theorem e52_42 {ls : mj_L} {σ : mj_S} {τ : mj_T} {r : Nat} {x0 : Nat} : mj_E 52 42 ls [.ref x0, .ref r] σ τ = if mj_rcv r 3 = true then mj_bd (mj_C 53 [.ref r, .ref x0] σ τ) (mj_K 52 45 ls []) else none := mj_clV (as := [.ref x0]) (r := []) i52_42 (by decide +kernel : mj_vk 52 53 1 0 2 false = true) (by decide +kernel)
theorem i52_45 : mj_ins 52 45 = some (.ifCond .eq 61, 48) := by decide +kernel
theorem e52_45 {ls : mj_L} {st : List Value} {σ : mj_S} {τ : mj_T} {x : Int32} : mj_E 52 45 ls (.int x :: st) σ τ = if x = 0 then mj_E 52 61 ls st σ τ else mj_E 52 48 ls st σ τ := (mj_ifc i52_45).trans (mj_cdT rfl)
theorem i52_48 : mj_ins 52 48 = some (.iconst (10), 50) := by decide +kernel
theorem e52_48 {ls : mj_L} {st : List Value} {σ : mj_S} {τ : mj_T} : mj_E 52 48 ls st σ τ = mj_E 52 50 ls (.int (nI 10) :: st) σ τ := mj_nx i52_48 rfl
theorem i52_50 : mj_ins 52 50 = some (.iload 6, 52) := by decide +kernel
theorem e52_50 {ls : mj_L} {st : List Value} {σ : mj_S} {τ : mj_T} {a0 a1 a2 a3 a4 a5 : Option Value} {v : Int32} : mj_E 52 50 (a0 :: a1 :: a2 :: a3 :: a4 :: a5 :: some (.int v) :: ls) st σ τ = mj_E 52 52 (a0 :: a1 :: a2 :: a3 :: a4 :: a5 :: some (.int v) :: ls) (.int v :: st) σ τ := mj_nx i52_50 rfl
theorem i52_52 : mj_ins 52 52 = some (.imul, 53) := by decide +kernel
theorem e52_52 {ls : mj_L} {st : List Value} {σ : mj_S} {τ : mj_T} {x y : Int32} : mj_E 52 52 ls (.int y :: .int x :: st) σ τ = mj_E 52 53 ls (.int (x * y) :: st) σ τ := mj_nx i52_52 rfl
theorem i52_53 : mj_ins 52 53 = some (.aload 0, 54) := by decide +kernel
theorem e52_53 {ls : mj_L} {st : List Value} {σ : mj_S} {τ : mj_T} {v : Nat} : mj_E 52 53 (some (.ref v) :: ls) st σ τ = mj_E 52 54 (some (.ref v) :: ls) (.ref v :: st) σ τ := mj_nx i52_53 rfl
theorem i52_54 : mj_ins 52 54 = some (.aload 2, 55) := by decide +kernel
theorem e52_54 {ls : mj_L} {st : List Value} {σ : mj_S} {τ : mj_T} {a0 a1 : Option Value} {v : Nat} : mj_E 52 54 (a0 :: a1 :: some (.ref v) :: ls) st σ τ = mj_E 52 55 (a0 :: a1 :: some (.ref v) :: ls) (.ref v :: st) σ τ := mj_nx i52_54 rfl
theorem i52_55 : mj_ins 52 55 = some (.invokevirtual 54, 58) := by decide +kernel
theorem e52_55 {ls : mj_L} {σ : mj_S} {τ : mj_T} {r : Nat} {x0 : Nat} {w0 : Value} : mj_E 52 55 ls [.ref x0, .ref r, w0] σ τ = if mj_rcv r 3 = true then mj_bd (mj_C 54 [.ref r, .ref x0] σ τ) (mj_K 52 58 ls [w0]) else none := mj_clV (as := [.ref x0]) (r := [w0]) i52_55 (by decide +kernel : mj_vk 52 54 1 1 2 false = true) (by decide +kernel)
theorem i52_58 : mj_ins 52 58 = some (.iadd, 59) := by decide +kernel
theorem e52_58 {ls : mj_L} {st : List Value} {σ : mj_S} {τ : mj_T} {x y : Int32} : mj_E 52 58 ls (.int y :: .int x :: st) σ τ = mj_E 52 59 ls (.int (x + y) :: st) σ τ := mj_nx i52_58 rfl
theorem i52_59 : mj_ins 52 59 = some (.istore 6, 61) := by decide +kernel
theorem e52_59 {ls : mj_L} {st : List Value} {σ : mj_S} {τ : mj_T} {a0 a1 a2 a3 a4 a5 a6 : Option Value} {v : Int32} : mj_E 52 59 (a0 :: a1 :: a2 :: a3 :: a4 :: a5 :: a6 :: ls) (.int v :: st) σ τ = mj_E 52 61 (a0 :: a1 :: a2 :: a3 :: a4 :: a5 :: some (.int v) :: ls) st σ τ := mj_nx i52_59 rfl
theorem i52_61 : mj_ins 52 61 = some (.iload 6, 63) := by decide +kernel
theorem e52_61 {ls : mj_L} {st : List Value} {σ : mj_S} {τ : mj_T} {a0 a1 a2 a3 a4 a5 : Option Value} {v : Int32} : mj_E 52 61 (a0 :: a1 :: a2 :: a3 :: a4 :: a5 :: some (.int v) :: ls) st σ τ = mj_E 52 63 (a0 :: a1 :: a2 :: a3 :: a4 :: a5 :: some (.int v) :: ls) (.int v :: st) σ τ := mj_nx i52_61 rfl
theorem i52_63 : mj_ins 52 63 = some (.aload 1, 64) := by decide +kernel
theorem e52_63 {ls : mj_L} {st : List Value} {σ : mj_S} {τ : mj_T} {a0 : Option Value} {v : Nat} : mj_E 52 63 (a0 :: some (.ref v) :: ls) st σ τ = mj_E 52 64 (a0 :: some (.ref v) :: ls) (.ref v :: st) σ τ := mj_nx i52_63 rfl
theorem i52_64 : mj_ins 52 64 = some (.iload 3, 65) := by decide +kernel
theorem e52_64 {ls : mj_L} {st : List Value} {σ : mj_S} {τ : mj_T} {a0 a1 a2 : Option Value} {v : Int32} : mj_E 52 64 (a0 :: a1 :: a2 :: some (.int v) :: ls) st σ τ = mj_E 52 65 (a0 :: a1 :: a2 :: some (.int v) :: ls) (.int v :: st) σ τ := mj_nx i52_64 rfl
theorem i52_65 : mj_ins 52 65 = some (.iload 4, 67) := by decide +kernel
theorem e52_65 {ls : mj_L} {st : List Value} {σ : mj_S} {τ : mj_T} {a0 a1 a2 a3 : Option Value} {v : Int32} : mj_E 52 65 (a0 :: a1 :: a2 :: a3 :: some (.int v) :: ls) st σ τ = mj_E 52 67 (a0 :: a1 :: a2 :: a3 :: some (.int v) :: ls) (.int v :: st) σ τ := mj_nx i52_65 rfl
theorem i52_67 : mj_ins 52 67 = some (.invokestatic 55, 70) := by decide +kernel
theorem e52_67 {ls : mj_L} {σ : mj_S} {τ : mj_T} {x0 : Nat} {x1 : Int32} {x2 : Int32} {w0 : Value} : mj_E 52 67 ls [.int x2, .int x1, .ref x0, w0] σ τ = mj_bd (mj_C 55 [.ref x0, .int x1, .int x2] σ τ) (mj_K 52 70 ls [w0]) := mj_clS (as := [.ref x0, .int x1, .int x2]) (r := [w0]) i52_67 (by decide +kernel : mj_vk 52 55 3 1 3 false = true) rfl
theorem i52_70 : mj_ins 52 70 = some (.if_icmp .gt 86, 73) := by decide +kernel
theorem e52_70 {ls : mj_L} {st : List Value} {σ : mj_S} {τ : mj_T} {x y : Int32} : mj_E 52 70 ls (.int y :: .int x :: st) σ τ = if y < x then mj_E 52 86 ls st σ τ else mj_E 52 73 ls st σ τ := (mj_ifi i52_70).trans (mj_cdT rfl)
theorem i52_73 : mj_ins 52 73 = some (.aload 0, 74) := by decide +kernel
theorem e52_73 {ls : mj_L} {st : List Value} {σ : mj_S} {τ : mj_T} {v : Nat} : mj_E 52 73 (some (.ref v) :: ls) st σ τ = mj_E 52 74 (some (.ref v) :: ls) (.ref v :: st) σ τ := mj_nx i52_73 rfl
theorem i52_74 : mj_ins 52 74 = some (.aload 1, 75) := by decide +kernel
theorem e52_74 {ls : mj_L} {st : List Value} {σ : mj_S} {τ : mj_T} {a0 : Option Value} {v : Nat} : mj_E 52 74 (a0 :: some (.ref v) :: ls) st σ τ = mj_E 52 75 (a0 :: some (.ref v) :: ls) (.ref v :: st) σ τ := mj_nx i52_74 rfl
theorem i52_75 : mj_ins 52 75 = some (.iload 3, 76) := by decide +kernel
theorem e52_75 {ls : mj_L} {st : List Value} {σ : mj_S} {τ : mj_T} {a0 a1 a2 : Option Value} {v : Int32} : mj_E 52 75 (a0 :: a1 :: a2 :: some (.int v) :: ls) st σ τ = mj_E 52 76 (a0 :: a1 :: a2 :: some (.int v) :: ls) (.int v :: st) σ τ := mj_nx i52_75 rfl
theorem i52_76 : mj_ins 52 76 = some (.iload 4, 78) := by decide +kernel
theorem e52_76 {ls : mj_L} {st : List Value} {σ : mj_S} {τ : mj_T} {a0 a1 a2 a3 : Option Value} {v : Int32} : mj_E 52 76 (a0 :: a1 :: a2 :: a3 :: some (.int v) :: ls) st σ τ = mj_E 52 78 (a0 :: a1 :: a2 :: a3 :: some (.int v) :: ls) (.int v :: st) σ τ := mj_nx i52_76 rfl
theorem i52_78 : mj_ins 52 78 = some (.iload 6, 80) := by decide +kernel
theorem e52_78 {ls : mj_L} {st : List Value} {σ : mj_S} {τ : mj_T} {a0 a1 a2 a3 a4 a5 : Option Value} {v : Int32} : mj_E 52 78 (a0 :: a1 :: a2 :: a3 :: a4 :: a5 :: some (.int v) :: ls) st σ τ = mj_E 52 80 (a0 :: a1 :: a2 :: a3 :: a4 :: a5 :: some (.int v) :: ls) (.int v :: st) σ τ := mj_nx i52_78 rfl
theorem i52_80 : mj_ins 52 80 = some (.invokevirtual 57, 83) := by decide +kernel
theorem e52_80 {ls : mj_L} {σ : mj_S} {τ : mj_T} {r : Nat} {x0 : Nat} {x1 : Int32} {x2 : Int32} {x3 : Int32} : mj_E 52 80 ls [.int x3, .int x2, .int x1, .ref x0, .ref r] σ τ = if mj_rcv r 3 = true then mj_bd (mj_C 57 [.ref r, .ref x0, .int x1, .int x2, .int x3] σ τ) (mj_K 52 83 ls []) else none := mj_clV (as := [.ref x0, .int x1, .int x2, .int x3]) (r := []) i52_80 (by decide +kernel : mj_vk 52 57 4 0 5 false = true) (by decide +kernel)
theorem i52_83 : mj_ins 52 83 = some (.ifCond .eq 93, 86) := by decide +kernel
theorem e52_83 {ls : mj_L} {st : List Value} {σ : mj_S} {τ : mj_T} {x : Int32} : mj_E 52 83 ls (.int x :: st) σ τ = if x = 0 then mj_E 52 93 ls st σ τ else mj_E 52 86 ls st σ τ := (mj_ifc i52_83).trans (mj_cdT rfl)
theorem i52_86 : mj_ins 52 86 = some (.aload 0, 87) := by decide +kernel
theorem e52_86 {ls : mj_L} {st : List Value} {σ : mj_S} {τ : mj_T} {v : Nat} : mj_E 52 86 (some (.ref v) :: ls) st σ τ = mj_E 52 87 (some (.ref v) :: ls) (.ref v :: st) σ τ := mj_nx i52_86 rfl
theorem i52_87 : mj_ins 52 87 = some (.iload 5, 89) := by decide +kernel
theorem e52_87 {ls : mj_L} {st : List Value} {σ : mj_S} {τ : mj_T} {a0 a1 a2 a3 a4 : Option Value} {v : Int32} : mj_E 52 87 (a0 :: a1 :: a2 :: a3 :: a4 :: some (.int v) :: ls) st σ τ = mj_E 52 89 (a0 :: a1 :: a2 :: a3 :: a4 :: some (.int v) :: ls) (.int v :: st) σ τ := mj_nx i52_87 rfl
theorem i52_89 : mj_ins 52 89 = some (.invokevirtual 46, 92) := by decide +kernel
theorem e52_89 {ls : mj_L} {σ : mj_S} {τ : mj_T} {r : Nat} {x0 : Int32} : mj_E 52 89 ls [.int x0, .ref r] σ τ = if mj_rcv r 3 = true then mj_bd (mj_C 46 [.ref r, .int x0] σ τ) (mj_K 52 92 ls []) else none := mj_clV (as := [.int x0]) (r := []) i52_89 (by decide +kernel : mj_vk 52 46 1 0 2 false = true) (by decide +kernel)
theorem i52_92 : mj_ins 52 92 = some (.ireturn, 93) := by decide +kernel
theorem e52_92 {ls : mj_L} {σ : mj_S} {τ : mj_T} {v : Int32} : mj_E 52 92 ls [.int v] σ τ = if mj_ok (some .boolean) v = true then some (some (.int v), σ, τ) else none := mj_zrt i52_92 rfl
theorem i52_93 : mj_ins 52 93 = some (.aload 0, 94) := by decide +kernel
theorem e52_93 {ls : mj_L} {st : List Value} {σ : mj_S} {τ : mj_T} {v : Nat} : mj_E 52 93 (some (.ref v) :: ls) st σ τ = mj_E 52 94 (some (.ref v) :: ls) (.ref v :: st) σ τ := mj_nx i52_93 rfl
theorem i52_94 : mj_ins 52 94 = some (.getfield 301, 97) := by decide +kernel
theorem e52_94 {ls : mj_L} {st : List Value} {σ : mj_S} {τ : mj_T} : mj_E 52 94 ls (.ref 9 :: st) σ τ = mj_E 52 97 ls (.ref 58 :: st) σ τ := mj_nx i52_94 rfl
theorem i52_97 : mj_ins 52 97 = some (.iload 4, 99) := by decide +kernel
theorem e52_97 {ls : mj_L} {st : List Value} {σ : mj_S} {τ : mj_T} {a0 a1 a2 a3 : Option Value} {v : Int32} : mj_E 52 97 (a0 :: a1 :: a2 :: a3 :: some (.int v) :: ls) st σ τ = mj_E 52 99 (a0 :: a1 :: a2 :: a3 :: some (.int v) :: ls) (.int v :: st) σ τ := mj_nx i52_97 rfl
theorem i52_99 : mj_ins 52 99 = some (.iload 6, 101) := by decide +kernel
theorem e52_99 {ls : mj_L} {st : List Value} {σ : mj_S} {τ : mj_T} {a0 a1 a2 a3 a4 a5 : Option Value} {v : Int32} : mj_E 52 99 (a0 :: a1 :: a2 :: a3 :: a4 :: a5 :: some (.int v) :: ls) st σ τ = mj_E 52 101 (a0 :: a1 :: a2 :: a3 :: a4 :: a5 :: some (.int v) :: ls) (.int v :: st) σ τ := mj_nx i52_99 rfl
theorem i52_101 : mj_ins 52 101 = some (.iastore, 102) := by decide +kernel
theorem e52_101 {ls : mj_L} {st : List Value} {σ : mj_S} {τ : mj_T} {x v : Int32} {k : Nat} : mj_E 52 101 ls (.int v :: .int x :: .ref k :: st) σ τ = if mj_ib (mj_lw k) x = true then mj_E 52 102 ls st (mj_up σ k x.toNatClampNeg v) τ else none := mj_ast i52_101
theorem i52_102 : mj_ins 52 102 = some (.iconst (1), 103) := by decide +kernel
theorem e52_102 {ls : mj_L} {st : List Value} {σ : mj_S} {τ : mj_T} : mj_E 52 102 ls st σ τ = mj_E 52 103 ls (.int (nI 1) :: st) σ τ := mj_nx i52_102 rfl
theorem i52_103 : mj_ins 52 103 = some (.ireturn, 104) := by decide +kernel
theorem e52_103 {ls : mj_L} {σ : mj_S} {τ : mj_T} {v : Int32} : mj_E 52 103 ls [.int v] σ τ = if mj_ok (some .boolean) v = true then some (some (.int v), σ, τ) else none := mj_zrt i52_103 rfl
theorem c53 {σ : mj_S} {τ : mj_T} {r : Nat} {x0 : Nat} : mj_C 53 [.ref r, .ref x0] σ τ = mj_E 53 0 [some (.ref r), some (.ref x0)] [] σ τ := rfl
theorem i53_0 : mj_ins 53 0 = some (.aload 1, 1) := by decide +kernel
theorem e53_0 {ls : mj_L} {st : List Value} {σ : mj_S} {τ : mj_T} {a0 : Option Value} {v : Nat} : mj_E 53 0 (a0 :: some (.ref v) :: ls) st σ τ = mj_E 53 1 (a0 :: some (.ref v) :: ls) (.ref v :: st) σ τ := mj_nx i53_0 rfl
theorem i53_1 : mj_ins 53 1 = some (.aload 0, 2) := by decide +kernel
theorem e53_1 {ls : mj_L} {st : List Value} {σ : mj_S} {τ : mj_T} {v : Nat} : mj_E 53 1 (some (.ref v) :: ls) st σ τ = mj_E 53 2 (some (.ref v) :: ls) (.ref v :: st) σ τ := mj_nx i53_1 rfl
theorem i53_2 : mj_ins 53 2 = some (.getfield 302, 5) := by decide +kernel
theorem e53_2 {ls : mj_L} {st : List Value} {σ : mj_S} {τ : mj_T} : mj_E 53 2 ls (.ref 9 :: st) σ τ = mj_E 53 5 ls (.int (σ 9 2) :: st) σ τ := mj_nx i53_2 rfl
theorem i53_5 : mj_ins 53 5 = some (.invokevirtual 63, 8) := by decide +kernel
theorem e53_5 {ls : mj_L} {σ : mj_S} {τ : mj_T} {r : Nat} {x0 : Int32} : mj_E 53 5 ls [.int x0, .ref r] σ τ = if mj_rcv r 4 = true then mj_bd (mj_C 63 [.ref r, .int x0] σ τ) (mj_K 53 8 ls []) else none := mj_clV (as := [.int x0]) (r := []) i53_5 (by decide +kernel : mj_vk 53 63 1 0 2 false = true) (by decide +kernel)
theorem i53_8 : mj_ins 53 8 = some (.ifCond .eq 41, 11) := by decide +kernel
theorem e53_8 {ls : mj_L} {st : List Value} {σ : mj_S} {τ : mj_T} {x : Int32} : mj_E 53 8 ls (.int x :: st) σ τ = if x = 0 then mj_E 53 41 ls st σ τ else mj_E 53 11 ls st σ τ := (mj_ifc i53_8).trans (mj_cdT rfl)
theorem i53_11 : mj_ins 53 11 = some (.aload 1, 12) := by decide +kernel
theorem e53_11 {ls : mj_L} {st : List Value} {σ : mj_S} {τ : mj_T} {a0 : Option Value} {v : Nat} : mj_E 53 11 (a0 :: some (.ref v) :: ls) st σ τ = mj_E 53 12 (a0 :: some (.ref v) :: ls) (.ref v :: st) σ τ := mj_nx i53_11 rfl
theorem i53_12 : mj_ins 53 12 = some (.aload 0, 13) := by decide +kernel
theorem e53_12 {ls : mj_L} {st : List Value} {σ : mj_S} {τ : mj_T} {v : Nat} : mj_E 53 12 (some (.ref v) :: ls) st σ τ = mj_E 53 13 (some (.ref v) :: ls) (.ref v :: st) σ τ := mj_nx i53_12 rfl
theorem i53_13 : mj_ins 53 13 = some (.getfield 302, 16) := by decide +kernel
theorem e53_13 {ls : mj_L} {st : List Value} {σ : mj_S} {τ : mj_T} : mj_E 53 13 ls (.ref 9 :: st) σ τ = mj_E 53 16 ls (.int (σ 9 2) :: st) σ τ := mj_nx i53_13 rfl
theorem i53_16 : mj_ins 53 16 = some (.invokevirtual 66, 19) := by decide +kernel
theorem e53_16 {ls : mj_L} {σ : mj_S} {τ : mj_T} {r : Nat} {x0 : Int32} : mj_E 53 16 ls [.int x0, .ref r] σ τ = if mj_rcv r 4 = true then mj_bd (mj_C 66 [.ref r, .int x0] σ τ) (mj_K 53 19 ls []) else none := mj_clV (as := [.int x0]) (r := []) i53_16 (by decide +kernel : mj_vk 53 66 1 0 2 false = true) (by decide +kernel)
theorem i53_19 : mj_ins 53 19 = some (.iconst (48), 21) := by decide +kernel
theorem e53_19 {ls : mj_L} {st : List Value} {σ : mj_S} {τ : mj_T} : mj_E 53 19 ls st σ τ = mj_E 53 21 ls (.int (nI 48) :: st) σ τ := mj_nx i53_19 rfl
theorem i53_21 : mj_ins 53 21 = some (.if_icmp .lt 41, 24) := by decide +kernel
theorem e53_21 {ls : mj_L} {st : List Value} {σ : mj_S} {τ : mj_T} {x y : Int32} : mj_E 53 21 ls (.int y :: .int x :: st) σ τ = if x < y then mj_E 53 41 ls st σ τ else mj_E 53 24 ls st σ τ := (mj_ifi i53_21).trans (mj_cdT rfl)
theorem i53_24 : mj_ins 53 24 = some (.aload 1, 25) := by decide +kernel
theorem e53_24 {ls : mj_L} {st : List Value} {σ : mj_S} {τ : mj_T} {a0 : Option Value} {v : Nat} : mj_E 53 24 (a0 :: some (.ref v) :: ls) st σ τ = mj_E 53 25 (a0 :: some (.ref v) :: ls) (.ref v :: st) σ τ := mj_nx i53_24 rfl
theorem i53_25 : mj_ins 53 25 = some (.aload 0, 26) := by decide +kernel
theorem e53_25 {ls : mj_L} {st : List Value} {σ : mj_S} {τ : mj_T} {v : Nat} : mj_E 53 25 (some (.ref v) :: ls) st σ τ = mj_E 53 26 (some (.ref v) :: ls) (.ref v :: st) σ τ := mj_nx i53_25 rfl
theorem i53_26 : mj_ins 53 26 = some (.getfield 302, 29) := by decide +kernel
theorem e53_26 {ls : mj_L} {st : List Value} {σ : mj_S} {τ : mj_T} : mj_E 53 26 ls (.ref 9 :: st) σ τ = mj_E 53 29 ls (.int (σ 9 2) :: st) σ τ := mj_nx i53_26 rfl
theorem i53_29 : mj_ins 53 29 = some (.invokevirtual 66, 32) := by decide +kernel
theorem e53_29 {ls : mj_L} {σ : mj_S} {τ : mj_T} {r : Nat} {x0 : Int32} : mj_E 53 29 ls [.int x0, .ref r] σ τ = if mj_rcv r 4 = true then mj_bd (mj_C 66 [.ref r, .int x0] σ τ) (mj_K 53 32 ls []) else none := mj_clV (as := [.int x0]) (r := []) i53_29 (by decide +kernel : mj_vk 53 66 1 0 2 false = true) (by decide +kernel)
theorem i53_32 : mj_ins 53 32 = some (.iconst (57), 34) := by decide +kernel
theorem e53_32 {ls : mj_L} {st : List Value} {σ : mj_S} {τ : mj_T} : mj_E 53 32 ls st σ τ = mj_E 53 34 ls (.int (nI 57) :: st) σ τ := mj_nx i53_32 rfl
theorem i53_34 : mj_ins 53 34 = some (.if_icmp .gt 41, 37) := by decide +kernel
theorem e53_34 {ls : mj_L} {st : List Value} {σ : mj_S} {τ : mj_T} {x y : Int32} : mj_E 53 34 ls (.int y :: .int x :: st) σ τ = if y < x then mj_E 53 41 ls st σ τ else mj_E 53 37 ls st σ τ := (mj_ifi i53_34).trans (mj_cdT rfl)
theorem i53_37 : mj_ins 53 37 = some (.iconst (1), 38) := by decide +kernel
theorem e53_37 {ls : mj_L} {st : List Value} {σ : mj_S} {τ : mj_T} : mj_E 53 37 ls st σ τ = mj_E 53 38 ls (.int (nI 1) :: st) σ τ := mj_nx i53_37 rfl
theorem i53_38 : mj_ins 53 38 = some (.goto 42, 41) := by decide +kernel
theorem e53_38 {ls : mj_L} {st : List Value} {σ : mj_S} {τ : mj_T} : mj_E 53 38 ls st σ τ = mj_E 53 42 ls st σ τ := mj_nx i53_38 rfl
theorem i53_41 : mj_ins 53 41 = some (.iconst (0), 42) := by decide +kernel
theorem e53_41 {ls : mj_L} {st : List Value} {σ : mj_S} {τ : mj_T} : mj_E 53 41 ls st σ τ = mj_E 53 42 ls (.int (nI 0) :: st) σ τ := mj_nx i53_41 rfl
theorem i53_42 : mj_ins 53 42 = some (.ireturn, 43) := by decide +kernel
theorem e53_42 {ls : mj_L} {σ : mj_S} {τ : mj_T} {v : Int32} : mj_E 53 42 ls [.int v] σ τ = if mj_ok (some .boolean) v = true then some (some (.int v), σ, τ) else none := mj_zrt i53_42 rfl
theorem c54 {σ : mj_S} {τ : mj_T} {r : Nat} {x0 : Nat} : mj_C 54 [.ref r, .ref x0] σ τ = mj_E 54 0 [some (.ref r), some (.ref x0), none] [] σ τ := rfl
theorem i54_0 : mj_ins 54 0 = some (.aload 1, 1) := by decide +kernel
theorem e54_0 {ls : mj_L} {st : List Value} {σ : mj_S} {τ : mj_T} {a0 : Option Value} {v : Nat} : mj_E 54 0 (a0 :: some (.ref v) :: ls) st σ τ = mj_E 54 1 (a0 :: some (.ref v) :: ls) (.ref v :: st) σ τ := mj_nx i54_0 rfl
theorem i54_1 : mj_ins 54 1 = some (.aload 0, 2) := by decide +kernel
theorem e54_1 {ls : mj_L} {st : List Value} {σ : mj_S} {τ : mj_T} {v : Nat} : mj_E 54 1 (some (.ref v) :: ls) st σ τ = mj_E 54 2 (some (.ref v) :: ls) (.ref v :: st) σ τ := mj_nx i54_1 rfl
theorem i54_2 : mj_ins 54 2 = some (.getfield 302, 5) := by decide +kernel
theorem e54_2 {ls : mj_L} {st : List Value} {σ : mj_S} {τ : mj_T} : mj_E 54 2 ls (.ref 9 :: st) σ τ = mj_E 54 5 ls (.int (σ 9 2) :: st) σ τ := mj_nx i54_2 rfl
theorem i54_5 : mj_ins 54 5 = some (.invokevirtual 66, 8) := by decide +kernel
theorem e54_5 {ls : mj_L} {σ : mj_S} {τ : mj_T} {r : Nat} {x0 : Int32} : mj_E 54 5 ls [.int x0, .ref r] σ τ = if mj_rcv r 4 = true then mj_bd (mj_C 66 [.ref r, .int x0] σ τ) (mj_K 54 8 ls []) else none := mj_clV (as := [.int x0]) (r := []) i54_5 (by decide +kernel : mj_vk 54 66 1 0 2 false = true) (by decide +kernel)
theorem i54_8 : mj_ins 54 8 = some (.iconst (48), 10) := by decide +kernel
theorem e54_8 {ls : mj_L} {st : List Value} {σ : mj_S} {τ : mj_T} : mj_E 54 8 ls st σ τ = mj_E 54 10 ls (.int (nI 48) :: st) σ τ := mj_nx i54_8 rfl
theorem i54_10 : mj_ins 54 10 = some (.isub, 11) := by decide +kernel
theorem e54_10 {ls : mj_L} {st : List Value} {σ : mj_S} {τ : mj_T} {x y : Int32} : mj_E 54 10 ls (.int y :: .int x :: st) σ τ = mj_E 54 11 ls (.int (x - y) :: st) σ τ := mj_nx i54_10 rfl
theorem i54_11 : mj_ins 54 11 = some (.istore 2, 12) := by decide +kernel
theorem e54_11 {ls : mj_L} {st : List Value} {σ : mj_S} {τ : mj_T} {a0 a1 a2 : Option Value} {v : Int32} : mj_E 54 11 (a0 :: a1 :: a2 :: ls) (.int v :: st) σ τ = mj_E 54 12 (a0 :: a1 :: some (.int v) :: ls) st σ τ := mj_nx i54_11 rfl
theorem i54_12 : mj_ins 54 12 = some (.aload 0, 13) := by decide +kernel
theorem e54_12 {ls : mj_L} {st : List Value} {σ : mj_S} {τ : mj_T} {v : Nat} : mj_E 54 12 (some (.ref v) :: ls) st σ τ = mj_E 54 13 (some (.ref v) :: ls) (.ref v :: st) σ τ := mj_nx i54_12 rfl
theorem i54_13 : mj_ins 54 13 = some (.dup, 14) := by decide +kernel
theorem e54_13 {ls : mj_L} {st : List Value} {σ : mj_S} {τ : mj_T} {v : Nat} : mj_E 54 13 ls (.ref v :: st) σ τ = mj_E 54 14 ls (.ref v :: .ref v :: st) σ τ := mj_nx i54_13 rfl
theorem i54_14 : mj_ins 54 14 = some (.getfield 302, 17) := by decide +kernel
theorem e54_14 {ls : mj_L} {st : List Value} {σ : mj_S} {τ : mj_T} : mj_E 54 14 ls (.ref 9 :: st) σ τ = mj_E 54 17 ls (.int (σ 9 2) :: st) σ τ := mj_nx i54_14 rfl
theorem i54_17 : mj_ins 54 17 = some (.iconst (1), 18) := by decide +kernel
theorem e54_17 {ls : mj_L} {st : List Value} {σ : mj_S} {τ : mj_T} : mj_E 54 17 ls st σ τ = mj_E 54 18 ls (.int (nI 1) :: st) σ τ := mj_nx i54_17 rfl
theorem i54_18 : mj_ins 54 18 = some (.iadd, 19) := by decide +kernel
theorem e54_18 {ls : mj_L} {st : List Value} {σ : mj_S} {τ : mj_T} {x y : Int32} : mj_E 54 18 ls (.int y :: .int x :: st) σ τ = mj_E 54 19 ls (.int (x + y) :: st) σ τ := mj_nx i54_18 rfl
theorem i54_19 : mj_ins 54 19 = some (.putfield 302, 22) := by decide +kernel
theorem e54_19 {ls : mj_L} {st : List Value} {σ : mj_S} {τ : mj_T} {v : Int32} : mj_E 54 19 ls (.int v :: .ref 9 :: st) σ τ = mj_E 54 22 ls st (mj_up σ 9 2 v) τ := mj_nx i54_19 rfl
theorem i54_22 : mj_ins 54 22 = some (.iload 2, 23) := by decide +kernel
theorem e54_22 {ls : mj_L} {st : List Value} {σ : mj_S} {τ : mj_T} {a0 a1 : Option Value} {v : Int32} : mj_E 54 22 (a0 :: a1 :: some (.int v) :: ls) st σ τ = mj_E 54 23 (a0 :: a1 :: some (.int v) :: ls) (.int v :: st) σ τ := mj_nx i54_22 rfl
theorem i54_23 : mj_ins 54 23 = some (.ireturn, 24) := by decide +kernel
theorem e54_23 {ls : mj_L} {σ : mj_S} {τ : mj_T} {v : Int32} : mj_E 54 23 ls [.int v] σ τ = some (some (.int v), σ, τ) := mj_irt i54_23 rfl
theorem c55 {σ : mj_S} {τ : mj_T} {x0 : Nat} {x1 : Int32} {x2 : Int32} : mj_C 55 [.ref x0, .int x1, .int x2] σ τ = mj_E 55 0 [some (.ref x0), some (.int x1), some (.int x2)] [] σ τ := rfl
theorem i55_0 : mj_ins 55 0 = some (.iload 1, 1) := by decide +kernel
theorem e55_0 {ls : mj_L} {st : List Value} {σ : mj_S} {τ : mj_T} {a0 : Option Value} {v : Int32} : mj_E 55 0 (a0 :: some (.int v) :: ls) st σ τ = mj_E 55 1 (a0 :: some (.int v) :: ls) (.int v :: st) σ τ := mj_nx i55_0 rfl
theorem i55_1 : mj_ins 55 1 = some (.tableswitch 109 (0) (3) #[32, 37, 63, 93], 1) := by decide +kernel
theorem e55_1 {ls : mj_L} {st : List Value} {σ : mj_S} {τ : mj_T} {x : Int32} : mj_E 55 1 ls (.int x :: st) σ τ = if x = nI 0 then mj_E 55 32 ls st σ τ else if x = nI 1 then mj_E 55 37 ls st σ τ else if x = nI 2 then mj_E 55 63 ls st σ τ else if x = nI 3 then mj_E 55 93 ls st σ τ else mj_E 55 109 ls st σ τ := mj_tsw i55_1 (by decide)
theorem i55_32 : mj_ins 55 32 = some (.iload 2, 33) := by decide +kernel
theorem e55_32 {ls : mj_L} {st : List Value} {σ : mj_S} {τ : mj_T} {a0 a1 : Option Value} {v : Int32} : mj_E 55 32 (a0 :: a1 :: some (.int v) :: ls) st σ τ = mj_E 55 33 (a0 :: a1 :: some (.int v) :: ls) (.int v :: st) σ τ := mj_nx i55_32 rfl
theorem i55_33 : mj_ins 55 33 = some (.invokestatic 56, 36) := by decide +kernel
theorem e55_33 {ls : mj_L} {σ : mj_S} {τ : mj_T} {x0 : Int32} : mj_E 55 33 ls [.int x0] σ τ = mj_bd (mj_C 56 [.int x0] σ τ) (mj_K 55 36 ls []) := mj_clS (as := [.int x0]) (r := []) i55_33 (by decide +kernel : mj_vk 55 56 1 0 1 false = true) rfl
theorem i55_36 : mj_ins 55 36 = some (.ireturn, 37) := by decide +kernel
theorem e55_36 {ls : mj_L} {σ : mj_S} {τ : mj_T} {v : Int32} : mj_E 55 36 ls [.int v] σ τ = some (some (.int v), σ, τ) := mj_irt i55_36 rfl
theorem i55_37 : mj_ins 55 37 = some (.iload 2, 38) := by decide +kernel
theorem e55_37 {ls : mj_L} {st : List Value} {σ : mj_S} {τ : mj_T} {a0 a1 : Option Value} {v : Int32} : mj_E 55 37 (a0 :: a1 :: some (.int v) :: ls) st σ τ = mj_E 55 38 (a0 :: a1 :: some (.int v) :: ls) (.int v :: st) σ τ := mj_nx i55_37 rfl
theorem i55_38 : mj_ins 55 38 = some (.ifCond .ne 46, 41) := by decide +kernel
theorem e55_38 {ls : mj_L} {st : List Value} {σ : mj_S} {τ : mj_T} {x : Int32} : mj_E 55 38 ls (.int x :: st) σ τ = if x = 0 then mj_E 55 41 ls st σ τ else mj_E 55 46 ls st σ τ := (mj_ifc i55_38).trans (mj_cdF rfl)
theorem i55_41 : mj_ins 55 41 = some (.iconst (9), 43) := by decide +kernel
theorem e55_41 {ls : mj_L} {st : List Value} {σ : mj_S} {τ : mj_T} : mj_E 55 41 ls st σ τ = mj_E 55 43 ls (.int (nI 9) :: st) σ τ := mj_nx i55_41 rfl
theorem i55_43 : mj_ins 55 43 = some (.goto 62, 46) := by decide +kernel
theorem e55_43 {ls : mj_L} {st : List Value} {σ : mj_S} {τ : mj_T} : mj_E 55 43 ls st σ τ = mj_E 55 62 ls st σ τ := mj_nx i55_43 rfl
theorem i55_46 : mj_ins 55 46 = some (.iload 2, 47) := by decide +kernel
theorem e55_46 {ls : mj_L} {st : List Value} {σ : mj_S} {τ : mj_T} {a0 a1 : Option Value} {v : Int32} : mj_E 55 46 (a0 :: a1 :: some (.int v) :: ls) st σ τ = mj_E 55 47 (a0 :: a1 :: some (.int v) :: ls) (.int v :: st) σ τ := mj_nx i55_46 rfl
theorem i55_47 : mj_ins 55 47 = some (.iconst (1), 48) := by decide +kernel
theorem e55_47 {ls : mj_L} {st : List Value} {σ : mj_S} {τ : mj_T} : mj_E 55 47 ls st σ τ = mj_E 55 48 ls (.int (nI 1) :: st) σ τ := mj_nx i55_47 rfl
theorem i55_48 : mj_ins 55 48 = some (.if_icmp .ne 56, 51) := by decide +kernel
theorem e55_48 {ls : mj_L} {st : List Value} {σ : mj_S} {τ : mj_T} {x y : Int32} : mj_E 55 48 ls (.int y :: .int x :: st) σ τ = if x = y then mj_E 55 51 ls st σ τ else mj_E 55 56 ls st σ τ := (mj_ifi i55_48).trans (mj_cdF rfl)
theorem i55_51 : mj_ins 55 51 = some (.iconst (9), 53) := by decide +kernel
theorem e55_51 {ls : mj_L} {st : List Value} {σ : mj_S} {τ : mj_T} : mj_E 55 51 ls st σ τ = mj_E 55 53 ls (.int (nI 9) :: st) σ τ := mj_nx i55_51 rfl
theorem i55_53 : mj_ins 55 53 = some (.goto 62, 56) := by decide +kernel
theorem e55_53 {ls : mj_L} {st : List Value} {σ : mj_S} {τ : mj_T} : mj_E 55 53 ls st σ τ = mj_E 55 62 ls st σ τ := mj_nx i55_53 rfl
theorem i55_56 : mj_ins 55 56 = some (.aload 0, 57) := by decide +kernel
theorem e55_56 {ls : mj_L} {st : List Value} {σ : mj_S} {τ : mj_T} {v : Nat} : mj_E 55 56 (some (.ref v) :: ls) st σ τ = mj_E 55 57 (some (.ref v) :: ls) (.ref v :: st) σ τ := mj_nx i55_56 rfl
theorem i55_57 : mj_ins 55 57 = some (.getfield 100, 60) := by decide +kernel
theorem e55_57 {ls : mj_L} {st : List Value} {σ : mj_S} {τ : mj_T} {k : Nat} (h1 : 1 ≤ k) (h2 : k ≤ 3) : mj_E 55 57 ls (.ref k :: st) σ τ = mj_E 55 60 ls (.int (σ k 0) :: st) σ τ := (mj_gf i55_57).trans (congrArg (fun z => mj_ov z _) (fv1_0 h1 h2))
theorem i55_60 : mj_ins 55 60 = some (.iconst (1), 61) := by decide +kernel
theorem e55_60 {ls : mj_L} {st : List Value} {σ : mj_S} {τ : mj_T} : mj_E 55 60 ls st σ τ = mj_E 55 61 ls (.int (nI 1) :: st) σ τ := mj_nx i55_60 rfl
theorem i55_61 : mj_ins 55 61 = some (.isub, 62) := by decide +kernel
theorem e55_61 {ls : mj_L} {st : List Value} {σ : mj_S} {τ : mj_T} {x y : Int32} : mj_E 55 61 ls (.int y :: .int x :: st) σ τ = mj_E 55 62 ls (.int (x - y) :: st) σ τ := mj_nx i55_61 rfl
theorem i55_62 : mj_ins 55 62 = some (.ireturn, 63) := by decide +kernel
theorem e55_62 {ls : mj_L} {σ : mj_S} {τ : mj_T} {v : Int32} : mj_E 55 62 ls [.int v] σ τ = some (some (.int v), σ, τ) := mj_irt i55_62 rfl
theorem i55_63 : mj_ins 55 63 = some (.iload 2, 64) := by decide +kernel
theorem e55_63 {ls : mj_L} {st : List Value} {σ : mj_S} {τ : mj_T} {a0 a1 : Option Value} {v : Int32} : mj_E 55 63 (a0 :: a1 :: some (.int v) :: ls) st σ τ = mj_E 55 64 (a0 :: a1 :: some (.int v) :: ls) (.int v :: st) σ τ := mj_nx i55_63 rfl
theorem i55_64 : mj_ins 55 64 = some (.ifCond .ne 76, 67) := by decide +kernel
theorem e55_64 {ls : mj_L} {st : List Value} {σ : mj_S} {τ : mj_T} {x : Int32} : mj_E 55 64 ls (.int x :: st) σ τ = if x = 0 then mj_E 55 67 ls st σ τ else mj_E 55 76 ls st σ τ := (mj_ifc i55_64).trans (mj_cdF rfl)
theorem i55_67 : mj_ins 55 67 = some (.aload 0, 68) := by decide +kernel
theorem e55_67 {ls : mj_L} {st : List Value} {σ : mj_S} {τ : mj_T} {v : Nat} : mj_E 55 67 (some (.ref v) :: ls) st σ τ = mj_E 55 68 (some (.ref v) :: ls) (.ref v :: st) σ τ := mj_nx i55_67 rfl
theorem i55_68 : mj_ins 55 68 = some (.getfield 101, 71) := by decide +kernel
theorem e55_68 {ls : mj_L} {st : List Value} {σ : mj_S} {τ : mj_T} {k : Nat} (h1 : 1 ≤ k) (h2 : k ≤ 3) : mj_E 55 68 ls (.ref k :: st) σ τ = mj_E 55 71 ls (.int (σ k 1) :: st) σ τ := (mj_gf i55_68).trans (congrArg (fun z => mj_ov z _) (fv1_1 h1 h2))
theorem i55_71 : mj_ins 55 71 = some (.iconst (1), 72) := by decide +kernel
theorem e55_71 {ls : mj_L} {st : List Value} {σ : mj_S} {τ : mj_T} : mj_E 55 71 ls st σ τ = mj_E 55 72 ls (.int (nI 1) :: st) σ τ := mj_nx i55_71 rfl
theorem i55_72 : mj_ins 55 72 = some (.isub, 73) := by decide +kernel
theorem e55_72 {ls : mj_L} {st : List Value} {σ : mj_S} {τ : mj_T} {x y : Int32} : mj_E 55 72 ls (.int y :: .int x :: st) σ τ = mj_E 55 73 ls (.int (x - y) :: st) σ τ := mj_nx i55_72 rfl
theorem i55_73 : mj_ins 55 73 = some (.goto 92, 76) := by decide +kernel
theorem e55_73 {ls : mj_L} {st : List Value} {σ : mj_S} {τ : mj_T} : mj_E 55 73 ls st σ τ = mj_E 55 92 ls st σ τ := mj_nx i55_73 rfl
theorem i55_76 : mj_ins 55 76 = some (.iload 2, 77) := by decide +kernel
theorem e55_76 {ls : mj_L} {st : List Value} {σ : mj_S} {τ : mj_T} {a0 a1 : Option Value} {v : Int32} : mj_E 55 76 (a0 :: a1 :: some (.int v) :: ls) st σ τ = mj_E 55 77 (a0 :: a1 :: some (.int v) :: ls) (.int v :: st) σ τ := mj_nx i55_76 rfl
theorem i55_77 : mj_ins 55 77 = some (.iconst (1), 78) := by decide +kernel
theorem e55_77 {ls : mj_L} {st : List Value} {σ : mj_S} {τ : mj_T} : mj_E 55 77 ls st σ τ = mj_E 55 78 ls (.int (nI 1) :: st) σ τ := mj_nx i55_77 rfl
theorem i55_78 : mj_ins 55 78 = some (.if_icmp .ne 90, 81) := by decide +kernel
theorem e55_78 {ls : mj_L} {st : List Value} {σ : mj_S} {τ : mj_T} {x y : Int32} : mj_E 55 78 ls (.int y :: .int x :: st) σ τ = if x = y then mj_E 55 81 ls st σ τ else mj_E 55 90 ls st σ τ := (mj_ifi i55_78).trans (mj_cdF rfl)
theorem i55_81 : mj_ins 55 81 = some (.aload 0, 82) := by decide +kernel
theorem e55_81 {ls : mj_L} {st : List Value} {σ : mj_S} {τ : mj_T} {v : Nat} : mj_E 55 81 (some (.ref v) :: ls) st σ τ = mj_E 55 82 (some (.ref v) :: ls) (.ref v :: st) σ τ := mj_nx i55_81 rfl
theorem i55_82 : mj_ins 55 82 = some (.getfield 100, 85) := by decide +kernel
theorem e55_82 {ls : mj_L} {st : List Value} {σ : mj_S} {τ : mj_T} {k : Nat} (h1 : 1 ≤ k) (h2 : k ≤ 3) : mj_E 55 82 ls (.ref k :: st) σ τ = mj_E 55 85 ls (.int (σ k 0) :: st) σ τ := (mj_gf i55_82).trans (congrArg (fun z => mj_ov z _) (fv1_0 h1 h2))
theorem i55_85 : mj_ins 55 85 = some (.iconst (1), 86) := by decide +kernel
theorem e55_85 {ls : mj_L} {st : List Value} {σ : mj_S} {τ : mj_T} : mj_E 55 85 ls st σ τ = mj_E 55 86 ls (.int (nI 1) :: st) σ τ := mj_nx i55_85 rfl
theorem i55_86 : mj_ins 55 86 = some (.isub, 87) := by decide +kernel
theorem e55_86 {ls : mj_L} {st : List Value} {σ : mj_S} {τ : mj_T} {x y : Int32} : mj_E 55 86 ls (.int y :: .int x :: st) σ τ = mj_E 55 87 ls (.int (x - y) :: st) σ τ := mj_nx i55_86 rfl
theorem i55_87 : mj_ins 55 87 = some (.goto 92, 90) := by decide +kernel
theorem e55_87 {ls : mj_L} {st : List Value} {σ : mj_S} {τ : mj_T} : mj_E 55 87 ls st σ τ = mj_E 55 92 ls st σ τ := mj_nx i55_87 rfl
theorem i55_90 : mj_ins 55 90 = some (.iconst (20), 92) := by decide +kernel
theorem e55_90 {ls : mj_L} {st : List Value} {σ : mj_S} {τ : mj_T} : mj_E 55 90 ls st σ τ = mj_E 55 92 ls (.int (nI 20) :: st) σ τ := mj_nx i55_90 rfl
theorem i55_92 : mj_ins 55 92 = some (.ireturn, 93) := by decide +kernel
theorem e55_92 {ls : mj_L} {σ : mj_S} {τ : mj_T} {v : Int32} : mj_E 55 92 ls [.int v] σ τ = some (some (.int v), σ, τ) := mj_irt i55_92 rfl
theorem i55_93 : mj_ins 55 93 = some (.iload 2, 94) := by decide +kernel
theorem e55_93 {ls : mj_L} {st : List Value} {σ : mj_S} {τ : mj_T} {a0 a1 : Option Value} {v : Int32} : mj_E 55 93 (a0 :: a1 :: some (.int v) :: ls) st σ τ = mj_E 55 94 (a0 :: a1 :: some (.int v) :: ls) (.int v :: st) σ τ := mj_nx i55_93 rfl
theorem i55_94 : mj_ins 55 94 = some (.ifCond .ne 106, 97) := by decide +kernel
theorem e55_94 {ls : mj_L} {st : List Value} {σ : mj_S} {τ : mj_T} {x : Int32} : mj_E 55 94 ls (.int x :: st) σ τ = if x = 0 then mj_E 55 97 ls st σ τ else mj_E 55 106 ls st σ τ := (mj_ifc i55_94).trans (mj_cdF rfl)
theorem i55_97 : mj_ins 55 97 = some (.aload 0, 98) := by decide +kernel
theorem e55_97 {ls : mj_L} {st : List Value} {σ : mj_S} {τ : mj_T} {v : Nat} : mj_E 55 97 (some (.ref v) :: ls) st σ τ = mj_E 55 98 (some (.ref v) :: ls) (.ref v :: st) σ τ := mj_nx i55_97 rfl
theorem i55_98 : mj_ins 55 98 = some (.getfield 101, 101) := by decide +kernel
theorem e55_98 {ls : mj_L} {st : List Value} {σ : mj_S} {τ : mj_T} {k : Nat} (h1 : 1 ≤ k) (h2 : k ≤ 3) : mj_E 55 98 ls (.ref k :: st) σ τ = mj_E 55 101 ls (.int (σ k 1) :: st) σ τ := (mj_gf i55_98).trans (congrArg (fun z => mj_ov z _) (fv1_1 h1 h2))
theorem i55_101 : mj_ins 55 101 = some (.iconst (1), 102) := by decide +kernel
theorem e55_101 {ls : mj_L} {st : List Value} {σ : mj_S} {τ : mj_T} : mj_E 55 101 ls st σ τ = mj_E 55 102 ls (.int (nI 1) :: st) σ τ := mj_nx i55_101 rfl
theorem i55_102 : mj_ins 55 102 = some (.isub, 103) := by decide +kernel
theorem e55_102 {ls : mj_L} {st : List Value} {σ : mj_S} {τ : mj_T} {x y : Int32} : mj_E 55 102 ls (.int y :: .int x :: st) σ τ = mj_E 55 103 ls (.int (x - y) :: st) σ τ := mj_nx i55_102 rfl
theorem i55_103 : mj_ins 55 103 = some (.goto 108, 106) := by decide +kernel
theorem e55_103 {ls : mj_L} {st : List Value} {σ : mj_S} {τ : mj_T} : mj_E 55 103 ls st σ τ = mj_E 55 108 ls st σ τ := mj_nx i55_103 rfl
theorem i55_106 : mj_ins 55 106 = some (.iconst (30), 108) := by decide +kernel
theorem e55_106 {ls : mj_L} {st : List Value} {σ : mj_S} {τ : mj_T} : mj_E 55 106 ls st σ τ = mj_E 55 108 ls (.int (nI 30) :: st) σ τ := mj_nx i55_106 rfl
theorem i55_108 : mj_ins 55 108 = some (.ireturn, 109) := by decide +kernel
theorem e55_108 {ls : mj_L} {σ : mj_S} {τ : mj_T} {v : Int32} : mj_E 55 108 ls [.int v] σ τ = some (some (.int v), σ, τ) := mj_irt i55_108 rfl
theorem i55_109 : mj_ins 55 109 = some (.iconst (9), 111) := by decide +kernel
theorem e55_109 {ls : mj_L} {st : List Value} {σ : mj_S} {τ : mj_T} : mj_E 55 109 ls st σ τ = mj_E 55 111 ls (.int (nI 9) :: st) σ τ := mj_nx i55_109 rfl
theorem i55_111 : mj_ins 55 111 = some (.ireturn, 112) := by decide +kernel
theorem e55_111 {ls : mj_L} {σ : mj_S} {τ : mj_T} {v : Int32} : mj_E 55 111 ls [.int v] σ τ = some (some (.int v), σ, τ) := mj_irt i55_111 rfl
theorem c56 {σ : mj_S} {τ : mj_T} {x0 : Int32} : mj_C 56 [.int x0] σ τ = mj_E 56 0 [some (.int x0)] [] σ τ := rfl
theorem i56_0 : mj_ins 56 0 = some (.iload 0, 1) := by decide +kernel
theorem e56_0 {ls : mj_L} {st : List Value} {σ : mj_S} {τ : mj_T} {v : Int32} : mj_E 56 0 (some (.int v) :: ls) st σ τ = mj_E 56 1 (some (.int v) :: ls) (.int v :: st) σ τ := mj_nx i56_0 rfl
theorem i56_1 : mj_ins 56 1 = some (.tableswitch 37 (0) (2) #[28, 31, 34], 1) := by decide +kernel
theorem e56_1 {ls : mj_L} {st : List Value} {σ : mj_S} {τ : mj_T} {x : Int32} : mj_E 56 1 ls (.int x :: st) σ τ = if x = nI 0 then mj_E 56 28 ls st σ τ else if x = nI 1 then mj_E 56 31 ls st σ τ else if x = nI 2 then mj_E 56 34 ls st σ τ else mj_E 56 37 ls st σ τ := mj_tsw i56_1 (by decide)
theorem i56_28 : mj_ins 56 28 = some (.iconst (6), 30) := by decide +kernel
theorem e56_28 {ls : mj_L} {st : List Value} {σ : mj_S} {τ : mj_T} : mj_E 56 28 ls st σ τ = mj_E 56 30 ls (.int (nI 6) :: st) σ τ := mj_nx i56_28 rfl
theorem i56_30 : mj_ins 56 30 = some (.ireturn, 31) := by decide +kernel
theorem e56_30 {ls : mj_L} {σ : mj_S} {τ : mj_T} {v : Int32} : mj_E 56 30 ls [.int v] σ τ = some (some (.int v), σ, τ) := mj_irt i56_30 rfl
theorem i56_31 : mj_ins 56 31 = some (.iconst (9), 33) := by decide +kernel
theorem e56_31 {ls : mj_L} {st : List Value} {σ : mj_S} {τ : mj_T} : mj_E 56 31 ls st σ τ = mj_E 56 33 ls (.int (nI 9) :: st) σ τ := mj_nx i56_31 rfl
theorem i56_33 : mj_ins 56 33 = some (.ireturn, 34) := by decide +kernel
theorem e56_33 {ls : mj_L} {σ : mj_S} {τ : mj_T} {v : Int32} : mj_E 56 33 ls [.int v] σ τ = some (some (.int v), σ, τ) := mj_irt i56_33 rfl
theorem i56_34 : mj_ins 56 34 = some (.iconst (60), 36) := by decide +kernel
theorem e56_34 {ls : mj_L} {st : List Value} {σ : mj_S} {τ : mj_T} : mj_E 56 34 ls st σ τ = mj_E 56 36 ls (.int (nI 60) :: st) σ τ := mj_nx i56_34 rfl
theorem i56_36 : mj_ins 56 36 = some (.ireturn, 37) := by decide +kernel
theorem e56_36 {ls : mj_L} {σ : mj_S} {τ : mj_T} {v : Int32} : mj_E 56 36 ls [.int v] σ τ = some (some (.int v), σ, τ) := mj_irt i56_36 rfl
theorem i56_37 : mj_ins 56 37 = some (.iconst (9), 39) := by decide +kernel
theorem e56_37 {ls : mj_L} {st : List Value} {σ : mj_S} {τ : mj_T} : mj_E 56 37 ls st σ τ = mj_E 56 39 ls (.int (nI 9) :: st) σ τ := mj_nx i56_37 rfl
theorem i56_39 : mj_ins 56 39 = some (.ireturn, 40) := by decide +kernel
theorem e56_39 {ls : mj_L} {σ : mj_S} {τ : mj_T} {v : Int32} : mj_E 56 39 ls [.int v] σ τ = some (some (.int v), σ, τ) := mj_irt i56_39 rfl
theorem c57 {σ : mj_S} {τ : mj_T} {r : Nat} {x0 : Nat} {x1 : Int32} {x2 : Int32} {x3 : Int32} : mj_C 57 [.ref r, .ref x0, .int x1, .int x2, .int x3] σ τ = mj_E 57 0 [some (.ref r), some (.ref x0), some (.int x1), some (.int x2), some (.int x3)] [] σ τ := rfl
theorem i57_0 : mj_ins 57 0 = some (.iload 2, 1) := by decide +kernel
theorem e57_0 {ls : mj_L} {st : List Value} {σ : mj_S} {τ : mj_T} {a0 a1 : Option Value} {v : Int32} : mj_E 57 0 (a0 :: a1 :: some (.int v) :: ls) st σ τ = mj_E 57 1 (a0 :: a1 :: some (.int v) :: ls) (.int v :: st) σ τ := mj_nx i57_0 rfl
theorem i57_1 : mj_ins 57 1 = some (.iconst (2), 2) := by decide +kernel
theorem e57_1 {ls : mj_L} {st : List Value} {σ : mj_S} {τ : mj_T} : mj_E 57 1 ls st σ τ = mj_E 57 2 ls (.int (nI 2) :: st) σ τ := mj_nx i57_1 rfl
theorem i57_2 : mj_ins 57 2 = some (.if_icmp .ne 25, 5) := by decide +kernel
theorem e57_2 {ls : mj_L} {st : List Value} {σ : mj_S} {τ : mj_T} {x y : Int32} : mj_E 57 2 ls (.int y :: .int x :: st) σ τ = if x = y then mj_E 57 5 ls st σ τ else mj_E 57 25 ls st σ τ := (mj_ifi i57_2).trans (mj_cdF rfl)
theorem i57_5 : mj_ins 57 5 = some (.iload 3, 6) := by decide +kernel
theorem e57_5 {ls : mj_L} {st : List Value} {σ : mj_S} {τ : mj_T} {a0 a1 a2 : Option Value} {v : Int32} : mj_E 57 5 (a0 :: a1 :: a2 :: some (.int v) :: ls) st σ τ = mj_E 57 6 (a0 :: a1 :: a2 :: some (.int v) :: ls) (.int v :: st) σ τ := mj_nx i57_5 rfl
theorem i57_6 : mj_ins 57 6 = some (.iconst (1), 7) := by decide +kernel
theorem e57_6 {ls : mj_L} {st : List Value} {σ : mj_S} {τ : mj_T} : mj_E 57 6 ls st σ τ = mj_E 57 7 ls (.int (nI 1) :: st) σ τ := mj_nx i57_6 rfl
theorem i57_7 : mj_ins 57 7 = some (.if_icmp .ne 23, 10) := by decide +kernel
theorem e57_7 {ls : mj_L} {st : List Value} {σ : mj_S} {τ : mj_T} {x y : Int32} : mj_E 57 7 ls (.int y :: .int x :: st) σ τ = if x = y then mj_E 57 10 ls st σ τ else mj_E 57 23 ls st σ τ := (mj_ifi i57_7).trans (mj_cdF rfl)
theorem i57_10 : mj_ins 57 10 = some (.aload 1, 11) := by decide +kernel
theorem e57_10 {ls : mj_L} {st : List Value} {σ : mj_S} {τ : mj_T} {a0 : Option Value} {v : Nat} : mj_E 57 10 (a0 :: some (.ref v) :: ls) st σ τ = mj_E 57 11 (a0 :: some (.ref v) :: ls) (.ref v :: st) σ τ := mj_nx i57_10 rfl
theorem i57_11 : mj_ins 57 11 = some (.iload 4, 13) := by decide +kernel
theorem e57_11 {ls : mj_L} {st : List Value} {σ : mj_S} {τ : mj_T} {a0 a1 a2 a3 : Option Value} {v : Int32} : mj_E 57 11 (a0 :: a1 :: a2 :: a3 :: some (.int v) :: ls) st σ τ = mj_E 57 13 (a0 :: a1 :: a2 :: a3 :: some (.int v) :: ls) (.int v :: st) σ τ := mj_nx i57_11 rfl
theorem i57_13 : mj_ins 57 13 = some (.invokevirtual 13, 16) := by decide +kernel
theorem e57_13 {ls : mj_L} {σ : mj_S} {τ : mj_T} {r : Nat} {x0 : Int32} : mj_E 57 13 ls [.int x0, .ref r] σ τ = if mj_rcv r 1 = true then mj_bd (mj_C 13 [.ref r, .int x0] σ τ) (mj_K 57 16 ls []) else none := mj_clV (as := [.int x0]) (r := []) i57_13 (by decide +kernel : mj_vk 57 13 1 0 2 false = true) (by decide +kernel)
theorem i57_16 : mj_ins 57 16 = some (.ifCond .eq 23, 19) := by decide +kernel
theorem e57_16 {ls : mj_L} {st : List Value} {σ : mj_S} {τ : mj_T} {x : Int32} : mj_E 57 16 ls (.int x :: st) σ τ = if x = 0 then mj_E 57 23 ls st σ τ else mj_E 57 19 ls st σ τ := (mj_ifc i57_16).trans (mj_cdT rfl)
theorem i57_19 : mj_ins 57 19 = some (.iconst (1), 20) := by decide +kernel
theorem e57_19 {ls : mj_L} {st : List Value} {σ : mj_S} {τ : mj_T} : mj_E 57 19 ls st σ τ = mj_E 57 20 ls (.int (nI 1) :: st) σ τ := mj_nx i57_19 rfl
theorem i57_20 : mj_ins 57 20 = some (.goto 24, 23) := by decide +kernel
theorem e57_20 {ls : mj_L} {st : List Value} {σ : mj_S} {τ : mj_T} : mj_E 57 20 ls st σ τ = mj_E 57 24 ls st σ τ := mj_nx i57_20 rfl
theorem i57_23 : mj_ins 57 23 = some (.iconst (0), 24) := by decide +kernel
theorem e57_23 {ls : mj_L} {st : List Value} {σ : mj_S} {τ : mj_T} : mj_E 57 23 ls st σ τ = mj_E 57 24 ls (.int (nI 0) :: st) σ τ := mj_nx i57_23 rfl
theorem i57_24 : mj_ins 57 24 = some (.ireturn, 25) := by decide +kernel
theorem e57_24 {ls : mj_L} {σ : mj_S} {τ : mj_T} {v : Int32} : mj_E 57 24 ls [.int v] σ τ = if mj_ok (some .boolean) v = true then some (some (.int v), σ, τ) else none := mj_zrt i57_24 rfl
theorem i57_25 : mj_ins 57 25 = some (.iload 2, 26) := by decide +kernel
theorem e57_25 {ls : mj_L} {st : List Value} {σ : mj_S} {τ : mj_T} {a0 a1 : Option Value} {v : Int32} : mj_E 57 25 (a0 :: a1 :: some (.int v) :: ls) st σ τ = mj_E 57 26 (a0 :: a1 :: some (.int v) :: ls) (.int v :: st) σ τ := mj_nx i57_25 rfl
theorem i57_26 : mj_ins 57 26 = some (.iconst (1), 27) := by decide +kernel
theorem e57_26 {ls : mj_L} {st : List Value} {σ : mj_S} {τ : mj_T} : mj_E 57 26 ls st σ τ = mj_E 57 27 ls (.int (nI 1) :: st) σ τ := mj_nx i57_26 rfl
theorem i57_27 : mj_ins 57 27 = some (.if_icmp .ne 77, 30) := by decide +kernel
theorem e57_27 {ls : mj_L} {st : List Value} {σ : mj_S} {τ : mj_T} {x y : Int32} : mj_E 57 27 ls (.int y :: .int x :: st) σ τ = if x = y then mj_E 57 30 ls st σ τ else mj_E 57 77 ls st σ τ := (mj_ifi i57_27).trans (mj_cdF rfl)
theorem i57_30 : mj_ins 57 30 = some (.iload 3, 31) := by decide +kernel
theorem e57_30 {ls : mj_L} {st : List Value} {σ : mj_S} {τ : mj_T} {a0 a1 a2 : Option Value} {v : Int32} : mj_E 57 30 (a0 :: a1 :: a2 :: some (.int v) :: ls) st σ τ = mj_E 57 31 (a0 :: a1 :: a2 :: some (.int v) :: ls) (.int v :: st) σ τ := mj_nx i57_30 rfl
theorem i57_31 : mj_ins 57 31 = some (.iconst (3), 32) := by decide +kernel
theorem e57_31 {ls : mj_L} {st : List Value} {σ : mj_S} {τ : mj_T} : mj_E 57 31 ls st σ τ = mj_E 57 32 ls (.int (nI 3) :: st) σ τ := mj_nx i57_31 rfl
theorem i57_32 : mj_ins 57 32 = some (.if_icmp .ne 46, 35) := by decide +kernel
theorem e57_32 {ls : mj_L} {st : List Value} {σ : mj_S} {τ : mj_T} {x y : Int32} : mj_E 57 32 ls (.int y :: .int x :: st) σ τ = if x = y then mj_E 57 35 ls st σ τ else mj_E 57 46 ls st σ τ := (mj_ifi i57_32).trans (mj_cdF rfl)
theorem i57_35 : mj_ins 57 35 = some (.iload 4, 37) := by decide +kernel
theorem e57_35 {ls : mj_L} {st : List Value} {σ : mj_S} {τ : mj_T} {a0 a1 a2 a3 : Option Value} {v : Int32} : mj_E 57 35 (a0 :: a1 :: a2 :: a3 :: some (.int v) :: ls) st σ τ = mj_E 57 37 (a0 :: a1 :: a2 :: a3 :: some (.int v) :: ls) (.int v :: st) σ τ := mj_nx i57_35 rfl
theorem i57_37 : mj_ins 57 37 = some (.aload 0, 38) := by decide +kernel
theorem e57_37 {ls : mj_L} {st : List Value} {σ : mj_S} {τ : mj_T} {v : Nat} : mj_E 57 37 (some (.ref v) :: ls) st σ τ = mj_E 57 38 (some (.ref v) :: ls) (.ref v :: st) σ τ := mj_nx i57_37 rfl
theorem i57_38 : mj_ins 57 38 = some (.getfield 301, 41) := by decide +kernel
theorem e57_38 {ls : mj_L} {st : List Value} {σ : mj_S} {τ : mj_T} : mj_E 57 38 ls (.ref 9 :: st) σ τ = mj_E 57 41 ls (.ref 58 :: st) σ τ := mj_nx i57_38 rfl
theorem i57_41 : mj_ins 57 41 = some (.iconst (2), 42) := by decide +kernel
theorem e57_41 {ls : mj_L} {st : List Value} {σ : mj_S} {τ : mj_T} : mj_E 57 41 ls st σ τ = mj_E 57 42 ls (.int (nI 2) :: st) σ τ := mj_nx i57_41 rfl
theorem i57_42 : mj_ins 57 42 = some (.iaload, 43) := by decide +kernel
theorem e57_42 {ls : mj_L} {st : List Value} {σ : mj_S} {τ : mj_T} {x : Int32} {k : Nat} : mj_E 57 42 ls (.int x :: .ref k :: st) σ τ = if mj_ib (mj_li σ k) x = true then mj_E 57 43 ls (.int (σ k x.toNatClampNeg) :: st) σ τ else none := mj_ald i57_42
theorem i57_43 : mj_ins 57 43 = some (.if_icmp .eq 73, 46) := by decide +kernel
theorem e57_43 {ls : mj_L} {st : List Value} {σ : mj_S} {τ : mj_T} {x y : Int32} : mj_E 57 43 ls (.int y :: .int x :: st) σ τ = if x = y then mj_E 57 73 ls st σ τ else mj_E 57 46 ls st σ τ := (mj_ifi i57_43).trans (mj_cdT rfl)
theorem i57_46 : mj_ins 57 46 = some (.iload 3, 47) := by decide +kernel
theorem e57_46 {ls : mj_L} {st : List Value} {σ : mj_S} {τ : mj_T} {a0 a1 a2 : Option Value} {v : Int32} : mj_E 57 46 (a0 :: a1 :: a2 :: some (.int v) :: ls) st σ τ = mj_E 57 47 (a0 :: a1 :: a2 :: some (.int v) :: ls) (.int v :: st) σ τ := mj_nx i57_46 rfl
theorem i57_47 : mj_ins 57 47 = some (.iconst (4), 48) := by decide +kernel
theorem e57_47 {ls : mj_L} {st : List Value} {σ : mj_S} {τ : mj_T} : mj_E 57 47 ls st σ τ = mj_E 57 48 ls (.int (nI 4) :: st) σ τ := mj_nx i57_47 rfl
theorem i57_48 : mj_ins 57 48 = some (.if_icmp .ne 77, 51) := by decide +kernel
theorem e57_48 {ls : mj_L} {st : List Value} {σ : mj_S} {τ : mj_T} {x y : Int32} : mj_E 57 48 ls (.int y :: .int x :: st) σ τ = if x = y then mj_E 57 51 ls st σ τ else mj_E 57 77 ls st σ τ := (mj_ifi i57_48).trans (mj_cdF rfl)
theorem i57_51 : mj_ins 57 51 = some (.iload 4, 53) := by decide +kernel
theorem e57_51 {ls : mj_L} {st : List Value} {σ : mj_S} {τ : mj_T} {a0 a1 a2 a3 : Option Value} {v : Int32} : mj_E 57 51 (a0 :: a1 :: a2 :: a3 :: some (.int v) :: ls) st σ τ = mj_E 57 53 (a0 :: a1 :: a2 :: a3 :: some (.int v) :: ls) (.int v :: st) σ τ := mj_nx i57_51 rfl
theorem i57_53 : mj_ins 57 53 = some (.aload 0, 54) := by decide +kernel
theorem e57_53 {ls : mj_L} {st : List Value} {σ : mj_S} {τ : mj_T} {v : Nat} : mj_E 57 53 (some (.ref v) :: ls) st σ τ = mj_E 57 54 (some (.ref v) :: ls) (.ref v :: st) σ τ := mj_nx i57_53 rfl
theorem i57_54 : mj_ins 57 54 = some (.getfield 301, 57) := by decide +kernel
theorem e57_54 {ls : mj_L} {st : List Value} {σ : mj_S} {τ : mj_T} : mj_E 57 54 ls (.ref 9 :: st) σ τ = mj_E 57 57 ls (.ref 58 :: st) σ τ := mj_nx i57_54 rfl
theorem i57_57 : mj_ins 57 57 = some (.iconst (2), 58) := by decide +kernel
theorem e57_57 {ls : mj_L} {st : List Value} {σ : mj_S} {τ : mj_T} : mj_E 57 57 ls st σ τ = mj_E 57 58 ls (.int (nI 2) :: st) σ τ := mj_nx i57_57 rfl
theorem i57_58 : mj_ins 57 58 = some (.iaload, 59) := by decide +kernel
theorem e57_58 {ls : mj_L} {st : List Value} {σ : mj_S} {τ : mj_T} {x : Int32} {k : Nat} : mj_E 57 58 ls (.int x :: .ref k :: st) σ τ = if mj_ib (mj_li σ k) x = true then mj_E 57 59 ls (.int (σ k x.toNatClampNeg) :: st) σ τ else none := mj_ald i57_58
theorem i57_59 : mj_ins 57 59 = some (.if_icmp .eq 73, 62) := by decide +kernel
theorem e57_59 {ls : mj_L} {st : List Value} {σ : mj_S} {τ : mj_T} {x y : Int32} : mj_E 57 59 ls (.int y :: .int x :: st) σ τ = if x = y then mj_E 57 73 ls st σ τ else mj_E 57 62 ls st σ τ := (mj_ifi i57_59).trans (mj_cdT rfl)
theorem i57_62 : mj_ins 57 62 = some (.iload 4, 64) := by decide +kernel
theorem e57_62 {ls : mj_L} {st : List Value} {σ : mj_S} {τ : mj_T} {a0 a1 a2 a3 : Option Value} {v : Int32} : mj_E 57 62 (a0 :: a1 :: a2 :: a3 :: some (.int v) :: ls) st σ τ = mj_E 57 64 (a0 :: a1 :: a2 :: a3 :: some (.int v) :: ls) (.int v :: st) σ τ := mj_nx i57_62 rfl
theorem i57_64 : mj_ins 57 64 = some (.aload 0, 65) := by decide +kernel
theorem e57_64 {ls : mj_L} {st : List Value} {σ : mj_S} {τ : mj_T} {v : Nat} : mj_E 57 64 (some (.ref v) :: ls) st σ τ = mj_E 57 65 (some (.ref v) :: ls) (.ref v :: st) σ τ := mj_nx i57_64 rfl
theorem i57_65 : mj_ins 57 65 = some (.getfield 301, 68) := by decide +kernel
theorem e57_65 {ls : mj_L} {st : List Value} {σ : mj_S} {τ : mj_T} : mj_E 57 65 ls (.ref 9 :: st) σ τ = mj_E 57 68 ls (.ref 58 :: st) σ τ := mj_nx i57_65 rfl
theorem i57_68 : mj_ins 57 68 = some (.iconst (3), 69) := by decide +kernel
theorem e57_68 {ls : mj_L} {st : List Value} {σ : mj_S} {τ : mj_T} : mj_E 57 68 ls st σ τ = mj_E 57 69 ls (.int (nI 3) :: st) σ τ := mj_nx i57_68 rfl
theorem i57_69 : mj_ins 57 69 = some (.iaload, 70) := by decide +kernel
theorem e57_69 {ls : mj_L} {st : List Value} {σ : mj_S} {τ : mj_T} {x : Int32} {k : Nat} : mj_E 57 69 ls (.int x :: .ref k :: st) σ τ = if mj_ib (mj_li σ k) x = true then mj_E 57 70 ls (.int (σ k x.toNatClampNeg) :: st) σ τ else none := mj_ald i57_69
theorem i57_70 : mj_ins 57 70 = some (.if_icmp .ne 77, 73) := by decide +kernel
theorem e57_70 {ls : mj_L} {st : List Value} {σ : mj_S} {τ : mj_T} {x y : Int32} : mj_E 57 70 ls (.int y :: .int x :: st) σ τ = if x = y then mj_E 57 73 ls st σ τ else mj_E 57 77 ls st σ τ := (mj_ifi i57_70).trans (mj_cdF rfl)
theorem i57_73 : mj_ins 57 73 = some (.iconst (1), 74) := by decide +kernel
theorem e57_73 {ls : mj_L} {st : List Value} {σ : mj_S} {τ : mj_T} : mj_E 57 73 ls st σ τ = mj_E 57 74 ls (.int (nI 1) :: st) σ τ := mj_nx i57_73 rfl
theorem i57_74 : mj_ins 57 74 = some (.goto 78, 77) := by decide +kernel
theorem e57_74 {ls : mj_L} {st : List Value} {σ : mj_S} {τ : mj_T} : mj_E 57 74 ls st σ τ = mj_E 57 78 ls st σ τ := mj_nx i57_74 rfl
theorem i57_77 : mj_ins 57 77 = some (.iconst (0), 78) := by decide +kernel
theorem e57_77 {ls : mj_L} {st : List Value} {σ : mj_S} {τ : mj_T} : mj_E 57 77 ls st σ τ = mj_E 57 78 ls (.int (nI 0) :: st) σ τ := mj_nx i57_77 rfl
theorem i57_78 : mj_ins 57 78 = some (.ireturn, 79) := by decide +kernel
theorem e57_78 {ls : mj_L} {σ : mj_S} {τ : mj_T} {v : Int32} : mj_E 57 78 ls [.int v] σ τ = if mj_ok (some .boolean) v = true then some (some (.int v), σ, τ) else none := mj_zrt i57_78 rfl
theorem c58 {σ : mj_S} {τ : mj_T} {r : Nat} {x0 : Nat} {x1 : Int32} : mj_C 58 [.ref r, .ref x0, .int x1] σ τ = mj_E 58 0 [some (.ref r), some (.ref x0), some (.int x1)] [] σ τ := rfl
theorem i58_0 : mj_ins 58 0 = some (.iload 2, 1) := by decide +kernel
theorem e58_0 {ls : mj_L} {st : List Value} {σ : mj_S} {τ : mj_T} {a0 a1 : Option Value} {v : Int32} : mj_E 58 0 (a0 :: a1 :: some (.int v) :: ls) st σ τ = mj_E 58 1 (a0 :: a1 :: some (.int v) :: ls) (.int v :: st) σ τ := mj_nx i58_0 rfl
theorem i58_1 : mj_ins 58 1 = some (.tableswitch 155 (0) (3) #[32, 64, 110, 135], 1) := by decide +kernel
theorem e58_1 {ls : mj_L} {st : List Value} {σ : mj_S} {τ : mj_T} {x : Int32} : mj_E 58 1 ls (.int x :: st) σ τ = if x = nI 0 then mj_E 58 32 ls st σ τ else if x = nI 1 then mj_E 58 64 ls st σ τ else if x = nI 2 then mj_E 58 110 ls st σ τ else if x = nI 3 then mj_E 58 135 ls st σ τ else mj_E 58 155 ls st σ τ := mj_tsw i58_1 (by decide)
theorem i58_32 : mj_ins 58 32 = some (.aload 1, 33) := by decide +kernel
theorem e58_32 {ls : mj_L} {st : List Value} {σ : mj_S} {τ : mj_T} {a0 : Option Value} {v : Nat} : mj_E 58 32 (a0 :: some (.ref v) :: ls) st σ τ = mj_E 58 33 (a0 :: some (.ref v) :: ls) (.ref v :: st) σ τ := mj_nx i58_32 rfl
theorem i58_33 : mj_ins 58 33 = some (.aload 0, 34) := by decide +kernel
theorem e58_33 {ls : mj_L} {st : List Value} {σ : mj_S} {τ : mj_T} {v : Nat} : mj_E 58 33 (some (.ref v) :: ls) st σ τ = mj_E 58 34 (some (.ref v) :: ls) (.ref v :: st) σ τ := mj_nx i58_33 rfl
theorem i58_34 : mj_ins 58 34 = some (.getfield 301, 37) := by decide +kernel
theorem e58_34 {ls : mj_L} {st : List Value} {σ : mj_S} {τ : mj_T} : mj_E 58 34 ls (.ref 9 :: st) σ τ = mj_E 58 37 ls (.ref 58 :: st) σ τ := mj_nx i58_34 rfl
theorem i58_37 : mj_ins 58 37 = some (.iconst (0), 38) := by decide +kernel
theorem e58_37 {ls : mj_L} {st : List Value} {σ : mj_S} {τ : mj_T} : mj_E 58 37 ls st σ τ = mj_E 58 38 ls (.int (nI 0) :: st) σ τ := mj_nx i58_37 rfl
theorem i58_38 : mj_ins 58 38 = some (.iaload, 39) := by decide +kernel
theorem e58_38 {ls : mj_L} {st : List Value} {σ : mj_S} {τ : mj_T} {x : Int32} {k : Nat} : mj_E 58 38 ls (.int x :: .ref k :: st) σ τ = if mj_ib (mj_li σ k) x = true then mj_E 58 39 ls (.int (σ k x.toNatClampNeg) :: st) σ τ else none := mj_ald i58_38
theorem i58_39 : mj_ins 58 39 = some (.aload 0, 40) := by decide +kernel
theorem e58_39 {ls : mj_L} {st : List Value} {σ : mj_S} {τ : mj_T} {v : Nat} : mj_E 58 39 (some (.ref v) :: ls) st σ τ = mj_E 58 40 (some (.ref v) :: ls) (.ref v :: st) σ τ := mj_nx i58_39 rfl
theorem i58_40 : mj_ins 58 40 = some (.getfield 301, 43) := by decide +kernel
theorem e58_40 {ls : mj_L} {st : List Value} {σ : mj_S} {τ : mj_T} : mj_E 58 40 ls (.ref 9 :: st) σ τ = mj_E 58 43 ls (.ref 58 :: st) σ τ := mj_nx i58_40 rfl
theorem i58_43 : mj_ins 58 43 = some (.iconst (1), 44) := by decide +kernel
theorem e58_43 {ls : mj_L} {st : List Value} {σ : mj_S} {τ : mj_T} : mj_E 58 43 ls st σ τ = mj_E 58 44 ls (.int (nI 1) :: st) σ τ := mj_nx i58_43 rfl
theorem i58_44 : mj_ins 58 44 = some (.iaload, 45) := by decide +kernel
theorem e58_44 {ls : mj_L} {st : List Value} {σ : mj_S} {τ : mj_T} {x : Int32} {k : Nat} : mj_E 58 44 ls (.int x :: .ref k :: st) σ τ = if mj_ib (mj_li σ k) x = true then mj_E 58 45 ls (.int (σ k x.toNatClampNeg) :: st) σ τ else none := mj_ald i58_44
theorem i58_45 : mj_ins 58 45 = some (.aload 0, 46) := by decide +kernel
theorem e58_45 {ls : mj_L} {st : List Value} {σ : mj_S} {τ : mj_T} {v : Nat} : mj_E 58 45 (some (.ref v) :: ls) st σ τ = mj_E 58 46 (some (.ref v) :: ls) (.ref v :: st) σ τ := mj_nx i58_45 rfl
theorem i58_46 : mj_ins 58 46 = some (.getfield 301, 49) := by decide +kernel
theorem e58_46 {ls : mj_L} {st : List Value} {σ : mj_S} {τ : mj_T} : mj_E 58 46 ls (.ref 9 :: st) σ τ = mj_E 58 49 ls (.ref 58 :: st) σ τ := mj_nx i58_46 rfl
theorem i58_49 : mj_ins 58 49 = some (.iconst (2), 50) := by decide +kernel
theorem e58_49 {ls : mj_L} {st : List Value} {σ : mj_S} {τ : mj_T} : mj_E 58 49 ls st σ τ = mj_E 58 50 ls (.int (nI 2) :: st) σ τ := mj_nx i58_49 rfl
theorem i58_50 : mj_ins 58 50 = some (.iaload, 51) := by decide +kernel
theorem e58_50 {ls : mj_L} {st : List Value} {σ : mj_S} {τ : mj_T} {x : Int32} {k : Nat} : mj_E 58 50 ls (.int x :: .ref k :: st) σ τ = if mj_ib (mj_li σ k) x = true then mj_E 58 51 ls (.int (σ k x.toNatClampNeg) :: st) σ τ else none := mj_ald i58_50
theorem i58_51 : mj_ins 58 51 = some (.aload 0, 52) := by decide +kernel
theorem e58_51 {ls : mj_L} {st : List Value} {σ : mj_S} {τ : mj_T} {v : Nat} : mj_E 58 51 (some (.ref v) :: ls) st σ τ = mj_E 58 52 (some (.ref v) :: ls) (.ref v :: st) σ τ := mj_nx i58_51 rfl
theorem i58_52 : mj_ins 58 52 = some (.getfield 301, 55) := by decide +kernel
theorem e58_52 {ls : mj_L} {st : List Value} {σ : mj_S} {τ : mj_T} : mj_E 58 52 ls (.ref 9 :: st) σ τ = mj_E 58 55 ls (.ref 58 :: st) σ τ := mj_nx i58_52 rfl
theorem i58_55 : mj_ins 58 55 = some (.iconst (3), 56) := by decide +kernel
theorem e58_55 {ls : mj_L} {st : List Value} {σ : mj_S} {τ : mj_T} : mj_E 58 55 ls st σ τ = mj_E 58 56 ls (.int (nI 3) :: st) σ τ := mj_nx i58_55 rfl
theorem i58_56 : mj_ins 58 56 = some (.iaload, 57) := by decide +kernel
theorem e58_56 {ls : mj_L} {st : List Value} {σ : mj_S} {τ : mj_T} {x : Int32} {k : Nat} : mj_E 58 56 ls (.int x :: .ref k :: st) σ τ = if mj_ib (mj_li σ k) x = true then mj_E 58 57 ls (.int (σ k x.toNatClampNeg) :: st) σ τ else none := mj_ald i58_56
theorem i58_57 : mj_ins 58 57 = some (.invokevirtual 11, 60) := by decide +kernel
theorem e58_57 {ls : mj_L} {σ : mj_S} {τ : mj_T} {r : Nat} {x0 : Int32} {x1 : Int32} {x2 : Int32} {x3 : Int32} : mj_E 58 57 ls [.int x3, .int x2, .int x1, .int x0, .ref r] σ τ = if mj_rcv r 1 = true then mj_bd (mj_C 11 [.ref r, .int x0, .int x1, .int x2, .int x3] σ τ) (mj_K 58 60 ls []) else none := mj_clV (as := [.int x0, .int x1, .int x2, .int x3]) (r := []) i58_57 (by decide +kernel : mj_vk 58 11 4 0 5 false = true) (by decide +kernel)
theorem i58_60 : mj_ins 58 60 = some (.pop, 61) := by decide +kernel
theorem e58_60 {ls : mj_L} {st : List Value} {σ : mj_S} {τ : mj_T} {v : Int32} : mj_E 58 60 ls (.int v :: st) σ τ = mj_E 58 61 ls st σ τ := mj_nx i58_60 rfl
theorem i58_61 : mj_ins 58 61 = some (.goto 165, 64) := by decide +kernel
theorem e58_61 {ls : mj_L} {st : List Value} {σ : mj_S} {τ : mj_T} : mj_E 58 61 ls st σ τ = mj_E 58 165 ls st σ τ := mj_nx i58_61 rfl
theorem i58_64 : mj_ins 58 64 = some (.aload 1, 65) := by decide +kernel
theorem e58_64 {ls : mj_L} {st : List Value} {σ : mj_S} {τ : mj_T} {a0 : Option Value} {v : Nat} : mj_E 58 64 (a0 :: some (.ref v) :: ls) st σ τ = mj_E 58 65 (a0 :: some (.ref v) :: ls) (.ref v :: st) σ τ := mj_nx i58_64 rfl
theorem i58_65 : mj_ins 58 65 = some (.aload 0, 66) := by decide +kernel
theorem e58_65 {ls : mj_L} {st : List Value} {σ : mj_S} {τ : mj_T} {v : Nat} : mj_E 58 65 (some (.ref v) :: ls) st σ τ = mj_E 58 66 (some (.ref v) :: ls) (.ref v :: st) σ τ := mj_nx i58_65 rfl
theorem i58_66 : mj_ins 58 66 = some (.getfield 301, 69) := by decide +kernel
theorem e58_66 {ls : mj_L} {st : List Value} {σ : mj_S} {τ : mj_T} : mj_E 58 66 ls (.ref 9 :: st) σ τ = mj_E 58 69 ls (.ref 58 :: st) σ τ := mj_nx i58_66 rfl
theorem i58_69 : mj_ins 58 69 = some (.iconst (0), 70) := by decide +kernel
theorem e58_69 {ls : mj_L} {st : List Value} {σ : mj_S} {τ : mj_T} : mj_E 58 69 ls st σ τ = mj_E 58 70 ls (.int (nI 0) :: st) σ τ := mj_nx i58_69 rfl
theorem i58_70 : mj_ins 58 70 = some (.iaload, 71) := by decide +kernel
theorem e58_70 {ls : mj_L} {st : List Value} {σ : mj_S} {τ : mj_T} {x : Int32} {k : Nat} : mj_E 58 70 ls (.int x :: .ref k :: st) σ τ = if mj_ib (mj_li σ k) x = true then mj_E 58 71 ls (.int (σ k x.toNatClampNeg) :: st) σ τ else none := mj_ald i58_70
theorem i58_71 : mj_ins 58 71 = some (.aload 0, 72) := by decide +kernel
theorem e58_71 {ls : mj_L} {st : List Value} {σ : mj_S} {τ : mj_T} {v : Nat} : mj_E 58 71 (some (.ref v) :: ls) st σ τ = mj_E 58 72 (some (.ref v) :: ls) (.ref v :: st) σ τ := mj_nx i58_71 rfl
theorem i58_72 : mj_ins 58 72 = some (.getfield 301, 75) := by decide +kernel
theorem e58_72 {ls : mj_L} {st : List Value} {σ : mj_S} {τ : mj_T} : mj_E 58 72 ls (.ref 9 :: st) σ τ = mj_E 58 75 ls (.ref 58 :: st) σ τ := mj_nx i58_72 rfl
theorem i58_75 : mj_ins 58 75 = some (.iconst (1), 76) := by decide +kernel
theorem e58_75 {ls : mj_L} {st : List Value} {σ : mj_S} {τ : mj_T} : mj_E 58 75 ls st σ τ = mj_E 58 76 ls (.int (nI 1) :: st) σ τ := mj_nx i58_75 rfl
theorem i58_76 : mj_ins 58 76 = some (.iaload, 77) := by decide +kernel
theorem e58_76 {ls : mj_L} {st : List Value} {σ : mj_S} {τ : mj_T} {x : Int32} {k : Nat} : mj_E 58 76 ls (.int x :: .ref k :: st) σ τ = if mj_ib (mj_li σ k) x = true then mj_E 58 77 ls (.int (σ k x.toNatClampNeg) :: st) σ τ else none := mj_ald i58_76
theorem i58_77 : mj_ins 58 77 = some (.iconst (1), 78) := by decide +kernel
theorem e58_77 {ls : mj_L} {st : List Value} {σ : mj_S} {τ : mj_T} : mj_E 58 77 ls st σ τ = mj_E 58 78 ls (.int (nI 1) :: st) σ τ := mj_nx i58_77 rfl
theorem i58_78 : mj_ins 58 78 = some (.aload 0, 79) := by decide +kernel
theorem e58_78 {ls : mj_L} {st : List Value} {σ : mj_S} {τ : mj_T} {v : Nat} : mj_E 58 78 (some (.ref v) :: ls) st σ τ = mj_E 58 79 (some (.ref v) :: ls) (.ref v :: st) σ τ := mj_nx i58_78 rfl
theorem i58_79 : mj_ins 58 79 = some (.getfield 301, 82) := by decide +kernel
theorem e58_79 {ls : mj_L} {st : List Value} {σ : mj_S} {τ : mj_T} : mj_E 58 79 ls (.ref 9 :: st) σ τ = mj_E 58 82 ls (.ref 58 :: st) σ τ := mj_nx i58_79 rfl
theorem i58_82 : mj_ins 58 82 = some (.iconst (2), 83) := by decide +kernel
theorem e58_82 {ls : mj_L} {st : List Value} {σ : mj_S} {τ : mj_T} : mj_E 58 82 ls st σ τ = mj_E 58 83 ls (.int (nI 2) :: st) σ τ := mj_nx i58_82 rfl
theorem i58_83 : mj_ins 58 83 = some (.iaload, 84) := by decide +kernel
theorem e58_83 {ls : mj_L} {st : List Value} {σ : mj_S} {τ : mj_T} {x : Int32} {k : Nat} : mj_E 58 83 ls (.int x :: .ref k :: st) σ τ = if mj_ib (mj_li σ k) x = true then mj_E 58 84 ls (.int (σ k x.toNatClampNeg) :: st) σ τ else none := mj_ald i58_83
theorem i58_84 : mj_ins 58 84 = some (.ishl, 85) := by decide +kernel
theorem e58_84 {ls : mj_L} {st : List Value} {σ : mj_S} {τ : mj_T} {x y : Int32} : mj_E 58 84 ls (.int y :: .int x :: st) σ τ = mj_E 58 85 ls (.int (x <<< (y &&& 31)) :: st) σ τ := mj_nx i58_84 rfl
theorem i58_85 : mj_ins 58 85 = some (.iconst (1), 86) := by decide +kernel
theorem e58_85 {ls : mj_L} {st : List Value} {σ : mj_S} {τ : mj_T} : mj_E 58 85 ls st σ τ = mj_E 58 86 ls (.int (nI 1) :: st) σ τ := mj_nx i58_85 rfl
theorem i58_86 : mj_ins 58 86 = some (.aload 0, 87) := by decide +kernel
theorem e58_86 {ls : mj_L} {st : List Value} {σ : mj_S} {τ : mj_T} {v : Nat} : mj_E 58 86 (some (.ref v) :: ls) st σ τ = mj_E 58 87 (some (.ref v) :: ls) (.ref v :: st) σ τ := mj_nx i58_86 rfl
theorem i58_87 : mj_ins 58 87 = some (.getfield 301, 90) := by decide +kernel
theorem e58_87 {ls : mj_L} {st : List Value} {σ : mj_S} {τ : mj_T} : mj_E 58 87 ls (.ref 9 :: st) σ τ = mj_E 58 90 ls (.ref 58 :: st) σ τ := mj_nx i58_87 rfl
theorem i58_90 : mj_ins 58 90 = some (.iconst (3), 91) := by decide +kernel
theorem e58_90 {ls : mj_L} {st : List Value} {σ : mj_S} {τ : mj_T} : mj_E 58 90 ls st σ τ = mj_E 58 91 ls (.int (nI 3) :: st) σ τ := mj_nx i58_90 rfl
theorem i58_91 : mj_ins 58 91 = some (.iaload, 92) := by decide +kernel
theorem e58_91 {ls : mj_L} {st : List Value} {σ : mj_S} {τ : mj_T} {x : Int32} {k : Nat} : mj_E 58 91 ls (.int x :: .ref k :: st) σ τ = if mj_ib (mj_li σ k) x = true then mj_E 58 92 ls (.int (σ k x.toNatClampNeg) :: st) σ τ else none := mj_ald i58_91
theorem i58_92 : mj_ins 58 92 = some (.ishl, 93) := by decide +kernel
theorem e58_92 {ls : mj_L} {st : List Value} {σ : mj_S} {τ : mj_T} {x y : Int32} : mj_E 58 92 ls (.int y :: .int x :: st) σ τ = mj_E 58 93 ls (.int (x <<< (y &&& 31)) :: st) σ τ := mj_nx i58_92 rfl
theorem i58_93 : mj_ins 58 93 = some (.ior, 94) := by decide +kernel
theorem e58_93 {ls : mj_L} {st : List Value} {σ : mj_S} {τ : mj_T} {x y : Int32} : mj_E 58 93 ls (.int y :: .int x :: st) σ τ = mj_E 58 94 ls (.int (x ||| y) :: st) σ τ := mj_nx i58_93 rfl
theorem i58_94 : mj_ins 58 94 = some (.iconst (1), 95) := by decide +kernel
theorem e58_94 {ls : mj_L} {st : List Value} {σ : mj_S} {τ : mj_T} : mj_E 58 94 ls st σ τ = mj_E 58 95 ls (.int (nI 1) :: st) σ τ := mj_nx i58_94 rfl
theorem i58_95 : mj_ins 58 95 = some (.aload 0, 96) := by decide +kernel
theorem e58_95 {ls : mj_L} {st : List Value} {σ : mj_S} {τ : mj_T} {v : Nat} : mj_E 58 95 (some (.ref v) :: ls) st σ τ = mj_E 58 96 (some (.ref v) :: ls) (.ref v :: st) σ τ := mj_nx i58_95 rfl
theorem i58_96 : mj_ins 58 96 = some (.getfield 301, 99) := by decide +kernel
theorem e58_96 {ls : mj_L} {st : List Value} {σ : mj_S} {τ : mj_T} : mj_E 58 96 ls (.ref 9 :: st) σ τ = mj_E 58 99 ls (.ref 58 :: st) σ τ := mj_nx i58_96 rfl
theorem i58_99 : mj_ins 58 99 = some (.iconst (4), 100) := by decide +kernel
theorem e58_99 {ls : mj_L} {st : List Value} {σ : mj_S} {τ : mj_T} : mj_E 58 99 ls st σ τ = mj_E 58 100 ls (.int (nI 4) :: st) σ τ := mj_nx i58_99 rfl
theorem i58_100 : mj_ins 58 100 = some (.iaload, 101) := by decide +kernel
theorem e58_100 {ls : mj_L} {st : List Value} {σ : mj_S} {τ : mj_T} {x : Int32} {k : Nat} : mj_E 58 100 ls (.int x :: .ref k :: st) σ τ = if mj_ib (mj_li σ k) x = true then mj_E 58 101 ls (.int (σ k x.toNatClampNeg) :: st) σ τ else none := mj_ald i58_100
theorem i58_101 : mj_ins 58 101 = some (.ishl, 102) := by decide +kernel
theorem e58_101 {ls : mj_L} {st : List Value} {σ : mj_S} {τ : mj_T} {x y : Int32} : mj_E 58 101 ls (.int y :: .int x :: st) σ τ = mj_E 58 102 ls (.int (x <<< (y &&& 31)) :: st) σ τ := mj_nx i58_101 rfl
theorem i58_102 : mj_ins 58 102 = some (.ior, 103) := by decide +kernel
theorem e58_102 {ls : mj_L} {st : List Value} {σ : mj_S} {τ : mj_T} {x y : Int32} : mj_E 58 102 ls (.int y :: .int x :: st) σ τ = mj_E 58 103 ls (.int (x ||| y) :: st) σ τ := mj_nx i58_102 rfl
theorem i58_103 : mj_ins 58 103 = some (.invokevirtual 12, 106) := by decide +kernel
theorem e58_103 {ls : mj_L} {σ : mj_S} {τ : mj_T} {r : Nat} {x0 : Int32} {x1 : Int32} {x2 : Int32} : mj_E 58 103 ls [.int x2, .int x1, .int x0, .ref r] σ τ = if mj_rcv r 1 = true then mj_bd (mj_C 12 [.ref r, .int x0, .int x1, .int x2] σ τ) (mj_K 58 106 ls []) else none := mj_clV (as := [.int x0, .int x1, .int x2]) (r := []) i58_103 (by decide +kernel : mj_vk 58 12 3 0 4 false = true) (by decide +kernel)
theorem i58_106 : mj_ins 58 106 = some (.pop, 107) := by decide +kernel
theorem e58_106 {ls : mj_L} {st : List Value} {σ : mj_S} {τ : mj_T} {v : Int32} : mj_E 58 106 ls (.int v :: st) σ τ = mj_E 58 107 ls st σ τ := mj_nx i58_106 rfl
theorem i58_107 : mj_ins 58 107 = some (.goto 165, 110) := by decide +kernel
theorem e58_107 {ls : mj_L} {st : List Value} {σ : mj_S} {τ : mj_T} : mj_E 58 107 ls st σ τ = mj_E 58 165 ls st σ τ := mj_nx i58_107 rfl
theorem i58_110 : mj_ins 58 110 = some (.aload 1, 111) := by decide +kernel
theorem e58_110 {ls : mj_L} {st : List Value} {σ : mj_S} {τ : mj_T} {a0 : Option Value} {v : Nat} : mj_E 58 110 (a0 :: some (.ref v) :: ls) st σ τ = mj_E 58 111 (a0 :: some (.ref v) :: ls) (.ref v :: st) σ τ := mj_nx i58_110 rfl
theorem i58_111 : mj_ins 58 111 = some (.aload 0, 112) := by decide +kernel
theorem e58_111 {ls : mj_L} {st : List Value} {σ : mj_S} {τ : mj_T} {v : Nat} : mj_E 58 111 (some (.ref v) :: ls) st σ τ = mj_E 58 112 (some (.ref v) :: ls) (.ref v :: st) σ τ := mj_nx i58_111 rfl
theorem i58_112 : mj_ins 58 112 = some (.getfield 301, 115) := by decide +kernel
theorem e58_112 {ls : mj_L} {st : List Value} {σ : mj_S} {τ : mj_T} : mj_E 58 112 ls (.ref 9 :: st) σ τ = mj_E 58 115 ls (.ref 58 :: st) σ τ := mj_nx i58_112 rfl
theorem i58_115 : mj_ins 58 115 = some (.iconst (0), 116) := by decide +kernel
theorem e58_115 {ls : mj_L} {st : List Value} {σ : mj_S} {τ : mj_T} : mj_E 58 115 ls st σ τ = mj_E 58 116 ls (.int (nI 0) :: st) σ τ := mj_nx i58_115 rfl
theorem i58_116 : mj_ins 58 116 = some (.iaload, 117) := by decide +kernel
theorem e58_116 {ls : mj_L} {st : List Value} {σ : mj_S} {τ : mj_T} {x : Int32} {k : Nat} : mj_E 58 116 ls (.int x :: .ref k :: st) σ τ = if mj_ib (mj_li σ k) x = true then mj_E 58 117 ls (.int (σ k x.toNatClampNeg) :: st) σ τ else none := mj_ald i58_116
theorem i58_117 : mj_ins 58 117 = some (.aload 0, 118) := by decide +kernel
theorem e58_117 {ls : mj_L} {st : List Value} {σ : mj_S} {τ : mj_T} {v : Nat} : mj_E 58 117 (some (.ref v) :: ls) st σ τ = mj_E 58 118 (some (.ref v) :: ls) (.ref v :: st) σ τ := mj_nx i58_117 rfl
theorem i58_118 : mj_ins 58 118 = some (.getfield 301, 121) := by decide +kernel
theorem e58_118 {ls : mj_L} {st : List Value} {σ : mj_S} {τ : mj_T} : mj_E 58 118 ls (.ref 9 :: st) σ τ = mj_E 58 121 ls (.ref 58 :: st) σ τ := mj_nx i58_118 rfl
theorem i58_121 : mj_ins 58 121 = some (.iconst (1), 122) := by decide +kernel
theorem e58_121 {ls : mj_L} {st : List Value} {σ : mj_S} {τ : mj_T} : mj_E 58 121 ls st σ τ = mj_E 58 122 ls (.int (nI 1) :: st) σ τ := mj_nx i58_121 rfl
theorem i58_122 : mj_ins 58 122 = some (.iaload, 123) := by decide +kernel
theorem e58_122 {ls : mj_L} {st : List Value} {σ : mj_S} {τ : mj_T} {x : Int32} {k : Nat} : mj_E 58 122 ls (.int x :: .ref k :: st) σ τ = if mj_ib (mj_li σ k) x = true then mj_E 58 123 ls (.int (σ k x.toNatClampNeg) :: st) σ τ else none := mj_ald i58_122
theorem i58_123 : mj_ins 58 123 = some (.aload 0, 124) := by decide +kernel
theorem e58_123 {ls : mj_L} {st : List Value} {σ : mj_S} {τ : mj_T} {v : Nat} : mj_E 58 123 (some (.ref v) :: ls) st σ τ = mj_E 58 124 (some (.ref v) :: ls) (.ref v :: st) σ τ := mj_nx i58_123 rfl
theorem i58_124 : mj_ins 58 124 = some (.getfield 301, 127) := by decide +kernel
theorem e58_124 {ls : mj_L} {st : List Value} {σ : mj_S} {τ : mj_T} : mj_E 58 124 ls (.ref 9 :: st) σ τ = mj_E 58 127 ls (.ref 58 :: st) σ τ := mj_nx i58_124 rfl
theorem i58_127 : mj_ins 58 127 = some (.iconst (2), 128) := by decide +kernel
theorem e58_127 {ls : mj_L} {st : List Value} {σ : mj_S} {τ : mj_T} : mj_E 58 127 ls st σ τ = mj_E 58 128 ls (.int (nI 2) :: st) σ τ := mj_nx i58_127 rfl
theorem i58_128 : mj_ins 58 128 = some (.iaload, 129) := by decide +kernel
theorem e58_128 {ls : mj_L} {st : List Value} {σ : mj_S} {τ : mj_T} {x : Int32} {k : Nat} : mj_E 58 128 ls (.int x :: .ref k :: st) σ τ = if mj_ib (mj_li σ k) x = true then mj_E 58 129 ls (.int (σ k x.toNatClampNeg) :: st) σ τ else none := mj_ald i58_128
theorem i58_129 : mj_ins 58 129 = some (.invokevirtual 20, 132) := by decide +kernel
theorem e58_129 {ls : mj_L} {σ : mj_S} {τ : mj_T} {r : Nat} {x0 : Int32} {x1 : Int32} {x2 : Int32} : mj_E 58 129 ls [.int x2, .int x1, .int x0, .ref r] σ τ = if mj_rcv r 1 = true then mj_bd (mj_C 20 [.ref r, .int x0, .int x1, .int x2] σ τ) (mj_K 58 132 ls []) else none := mj_clV (as := [.int x0, .int x1, .int x2]) (r := []) i58_129 (by decide +kernel : mj_vk 58 20 3 0 4 false = true) (by decide +kernel)
theorem i58_132 : mj_ins 58 132 = some (.goto 165, 135) := by decide +kernel
theorem e58_132 {ls : mj_L} {st : List Value} {σ : mj_S} {τ : mj_T} : mj_E 58 132 ls st σ τ = mj_E 58 165 ls st σ τ := mj_nx i58_132 rfl
theorem i58_135 : mj_ins 58 135 = some (.aload 1, 136) := by decide +kernel
theorem e58_135 {ls : mj_L} {st : List Value} {σ : mj_S} {τ : mj_T} {a0 : Option Value} {v : Nat} : mj_E 58 135 (a0 :: some (.ref v) :: ls) st σ τ = mj_E 58 136 (a0 :: some (.ref v) :: ls) (.ref v :: st) σ τ := mj_nx i58_135 rfl
theorem i58_136 : mj_ins 58 136 = some (.getfield 112, 139) := by decide +kernel
theorem e58_136 {ls : mj_L} {st : List Value} {σ : mj_S} {τ : mj_T} {k : Nat} (h1 : 1 ≤ k) (h2 : k ≤ 3) : mj_E 58 136 ls (.ref k :: st) σ τ = mj_E 58 139 ls (.ref (10 * k + 7) :: st) σ τ := (mj_gf i58_136).trans (congrArg (fun z => mj_ov z _) (fv1_12 h1 h2))
theorem i58_139 : mj_ins 58 139 = some (.aload 0, 140) := by decide +kernel
theorem e58_139 {ls : mj_L} {st : List Value} {σ : mj_S} {τ : mj_T} {v : Nat} : mj_E 58 139 (some (.ref v) :: ls) st σ τ = mj_E 58 140 (some (.ref v) :: ls) (.ref v :: st) σ τ := mj_nx i58_139 rfl
theorem i58_140 : mj_ins 58 140 = some (.getfield 301, 143) := by decide +kernel
theorem e58_140 {ls : mj_L} {st : List Value} {σ : mj_S} {τ : mj_T} : mj_E 58 140 ls (.ref 9 :: st) σ τ = mj_E 58 143 ls (.ref 58 :: st) σ τ := mj_nx i58_140 rfl
theorem i58_143 : mj_ins 58 143 = some (.iconst (0), 144) := by decide +kernel
theorem e58_143 {ls : mj_L} {st : List Value} {σ : mj_S} {τ : mj_T} : mj_E 58 143 ls st σ τ = mj_E 58 144 ls (.int (nI 0) :: st) σ τ := mj_nx i58_143 rfl
theorem i58_144 : mj_ins 58 144 = some (.iaload, 145) := by decide +kernel
theorem e58_144 {ls : mj_L} {st : List Value} {σ : mj_S} {τ : mj_T} {x : Int32} {k : Nat} : mj_E 58 144 ls (.int x :: .ref k :: st) σ τ = if mj_ib (mj_li σ k) x = true then mj_E 58 145 ls (.int (σ k x.toNatClampNeg) :: st) σ τ else none := mj_ald i58_144
theorem i58_145 : mj_ins 58 145 = some (.aload 0, 146) := by decide +kernel
theorem e58_145 {ls : mj_L} {st : List Value} {σ : mj_S} {τ : mj_T} {v : Nat} : mj_E 58 145 (some (.ref v) :: ls) st σ τ = mj_E 58 146 (some (.ref v) :: ls) (.ref v :: st) σ τ := mj_nx i58_145 rfl
theorem i58_146 : mj_ins 58 146 = some (.getfield 301, 149) := by decide +kernel
theorem e58_146 {ls : mj_L} {st : List Value} {σ : mj_S} {τ : mj_T} : mj_E 58 146 ls (.ref 9 :: st) σ τ = mj_E 58 149 ls (.ref 58 :: st) σ τ := mj_nx i58_146 rfl
theorem i58_149 : mj_ins 58 149 = some (.iconst (1), 150) := by decide +kernel
theorem e58_149 {ls : mj_L} {st : List Value} {σ : mj_S} {τ : mj_T} : mj_E 58 149 ls st σ τ = mj_E 58 150 ls (.int (nI 1) :: st) σ τ := mj_nx i58_149 rfl
theorem i58_150 : mj_ins 58 150 = some (.iaload, 151) := by decide +kernel
theorem e58_150 {ls : mj_L} {st : List Value} {σ : mj_S} {τ : mj_T} {x : Int32} {k : Nat} : mj_E 58 150 ls (.int x :: .ref k :: st) σ τ = if mj_ib (mj_li σ k) x = true then mj_E 58 151 ls (.int (σ k x.toNatClampNeg) :: st) σ τ else none := mj_ald i58_150
theorem i58_151 : mj_ins 58 151 = some (.iastore, 152) := by decide +kernel
theorem e58_151 {ls : mj_L} {st : List Value} {σ : mj_S} {τ : mj_T} {x v : Int32} {k : Nat} : mj_E 58 151 ls (.int v :: .int x :: .ref k :: st) σ τ = if mj_ib (mj_lw k) x = true then mj_E 58 152 ls st (mj_up σ k x.toNatClampNeg v) τ else none := mj_ast i58_151
theorem i58_152 : mj_ins 58 152 = some (.goto 165, 155) := by decide +kernel
theorem e58_152 {ls : mj_L} {st : List Value} {σ : mj_S} {τ : mj_T} : mj_E 58 152 ls st σ τ = mj_E 58 165 ls st σ τ := mj_nx i58_152 rfl
theorem i58_155 : mj_ins 58 155 = some (.aload 1, 156) := by decide +kernel
theorem e58_155 {ls : mj_L} {st : List Value} {σ : mj_S} {τ : mj_T} {a0 : Option Value} {v : Nat} : mj_E 58 155 (a0 :: some (.ref v) :: ls) st σ τ = mj_E 58 156 (a0 :: some (.ref v) :: ls) (.ref v :: st) σ τ := mj_nx i58_155 rfl
theorem i58_156 : mj_ins 58 156 = some (.aload 0, 157) := by decide +kernel
theorem e58_156 {ls : mj_L} {st : List Value} {σ : mj_S} {τ : mj_T} {v : Nat} : mj_E 58 156 (some (.ref v) :: ls) st σ τ = mj_E 58 157 (some (.ref v) :: ls) (.ref v :: st) σ τ := mj_nx i58_156 rfl
theorem i58_157 : mj_ins 58 157 = some (.getfield 301, 160) := by decide +kernel
theorem e58_157 {ls : mj_L} {st : List Value} {σ : mj_S} {τ : mj_T} : mj_E 58 157 ls (.ref 9 :: st) σ τ = mj_E 58 160 ls (.ref 58 :: st) σ τ := mj_nx i58_157 rfl
theorem i58_160 : mj_ins 58 160 = some (.iconst (0), 161) := by decide +kernel
theorem e58_160 {ls : mj_L} {st : List Value} {σ : mj_S} {τ : mj_T} : mj_E 58 160 ls st σ τ = mj_E 58 161 ls (.int (nI 0) :: st) σ τ := mj_nx i58_160 rfl
theorem i58_161 : mj_ins 58 161 = some (.iaload, 162) := by decide +kernel
theorem e58_161 {ls : mj_L} {st : List Value} {σ : mj_S} {τ : mj_T} {x : Int32} {k : Nat} : mj_E 58 161 ls (.int x :: .ref k :: st) σ τ = if mj_ib (mj_li σ k) x = true then mj_E 58 162 ls (.int (σ k x.toNatClampNeg) :: st) σ τ else none := mj_ald i58_161
theorem i58_162 : mj_ins 58 162 = some (.putfield 102, 165) := by decide +kernel
theorem e58_162 {ls : mj_L} {st : List Value} {σ : mj_S} {τ : mj_T} {k : Nat} (h1 : 1 ≤ k) (h2 : k ≤ 3) {v : Int32} : mj_E 58 162 ls (.int v :: .ref k :: st) σ τ = mj_E 58 165 ls st (mj_up σ k 2 v) τ := (mj_pf i58_162 rfl).trans (if_pos (fw1_2 h1 h2))
theorem i58_165 : mj_ins 58 165 = some (.return_, 166) := by decide +kernel
theorem e58_165 {ls : mj_L} {σ : mj_S} {τ : mj_T} : mj_E 58 165 ls [] σ τ = some (none, σ, τ) := mj_vrt i58_165 rfl
