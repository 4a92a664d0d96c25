/-! the equations of the instructions (laid by wip/whole/rows.py) -/
theorem c117 {σ : mj_S} {τ : mj_T} {r : Nat} {x0 : Int32} : mj_C 117 [.ref r, .int x0] σ τ = mj_E 117 0 [some (.ref r), some (.int x0)] [] σ τ := rfl
theorem i117_0 : mj_ins 117 0 = some (.aload 0, 1) := by decide +kernel
theorem e117_0 {ls : mj_L} {st : List Value} {σ : mj_S} {τ : mj_T} {v : Nat} : mj_E 117 0 (some (.ref v) :: ls) st σ τ = mj_E 117 1 (some (.ref v) :: ls) (.ref v :: st) σ τ := mj_nx i117_0 rfl
theorem i117_1 : mj_ins 117 1 = some (.getfield 706, 4) := by decide +kernel
theorem e117_1 {ls : mj_L} {st : List Value} {σ : mj_S} {τ : mj_T} : mj_E 117 1 ls (.ref 62 :: st) σ τ = mj_E 117 4 ls (.ref 63 :: st) σ τ := mj_nx i117_1 rfl
theorem i117_4 : mj_ins 117 4 = some (.iload 1, 5) := by decide +kernel
theorem e117_4 {ls : mj_L} {st : List Value} {σ : mj_S} {τ : mj_T} {a0 : Option Value} {v : Int32} : mj_E 117 4 (a0 :: some (.int v) :: ls) st σ τ = mj_E 117 5 (a0 :: some (.int v) :: ls) (.int v :: st) σ τ := mj_nx i117_4 rfl
theorem i117_5 : mj_ins 117 5 = some (.ineg, 6) := by decide +kernel
theorem e117_5 {ls : mj_L} {st : List Value} {σ : mj_S} {τ : mj_T} {x : Int32} : mj_E 117 5 ls (.int x :: st) σ τ = mj_E 117 6 ls (.int (-x) :: st) σ τ := mj_nx i117_5 rfl
theorem i117_6 : mj_ins 117 6 = some (.dup2, 7) := by decide +kernel
theorem e117_6 {ls : mj_L} {st : List Value} {σ : mj_S} {τ : mj_T} {y : Int32} {x : Nat} : mj_E 117 6 ls (.int y :: .ref x :: st) σ τ = mj_E 117 7 ls (.int y :: .ref x :: .int y :: .ref x :: st) σ τ := mj_nx i117_6 rfl
theorem i117_7 : mj_ins 117 7 = some (.iaload, 8) := by decide +kernel
theorem e117_7 {ls : mj_L} {st : List Value} {σ : mj_S} {τ : mj_T} {x : Int32} {k : Nat} : mj_E 117 7 ls (.int x :: .ref k :: st) σ τ = if mj_ib (mj_li σ k) x = true then mj_E 117 8 ls (.int (σ k x.toNatClampNeg) :: st) σ τ else none := mj_ald i117_7
theorem i117_8 : mj_ins 117 8 = some (.iconst (1), 9) := by decide +kernel
theorem e117_8 {ls : mj_L} {st : List Value} {σ : mj_S} {τ : mj_T} : mj_E 117 8 ls st σ τ = mj_E 117 9 ls (.int (nI 1) :: st) σ τ := mj_nx i117_8 rfl
theorem i117_9 : mj_ins 117 9 = some (.iadd, 10) := by decide +kernel
theorem e117_9 {ls : mj_L} {st : List Value} {σ : mj_S} {τ : mj_T} {x y : Int32} : mj_E 117 9 ls (.int y :: .int x :: st) σ τ = mj_E 117 10 ls (.int (x + y) :: st) σ τ := mj_nx i117_9 rfl
theorem i117_10 : mj_ins 117 10 = some (.iastore, 11) := by decide +kernel
theorem e117_10 {ls : mj_L} {st : List Value} {σ : mj_S} {τ : mj_T} {x v : Int32} {k : Nat} : mj_E 117 10 ls (.int v :: .int x :: .ref k :: st) σ τ = if mj_ib (mj_lw k) x = true then mj_E 117 11 ls st (mj_up σ k x.toNatClampNeg v) τ else none := mj_ast i117_10
theorem i117_11 : mj_ins 117 11 = some (.iload 1, 12) := by decide +kernel
theorem e117_11 {ls : mj_L} {st : List Value} {σ : mj_S} {τ : mj_T} {a0 : Option Value} {v : Int32} : mj_E 117 11 (a0 :: some (.int v) :: ls) st σ τ = mj_E 117 12 (a0 :: some (.int v) :: ls) (.int v :: st) σ τ := mj_nx i117_11 rfl
theorem i117_12 : mj_ins 117 12 = some (.ireturn, 13) := by decide +kernel
theorem e117_12 {ls : mj_L} {σ : mj_S} {τ : mj_T} {v : Int32} : mj_E 117 12 ls [.int v] σ τ = some (some (.int v), σ, τ) := mj_irt i117_12 rfl
theorem c118 {σ : mj_S} {τ : mj_T} {r : Nat} {x0 : Int32} : mj_C 118 [.ref r, .int x0] σ τ = mj_E 118 0 [some (.ref r), some (.int x0)] [] σ τ := rfl
theorem i118_0 : mj_ins 118 0 = some (.aload 0, 1) := by decide +kernel
theorem e118_0 {ls : mj_L} {st : List Value} {σ : mj_S} {τ : mj_T} {v : Nat} : mj_E 118 0 (some (.ref v) :: ls) st σ τ = mj_E 118 1 (some (.ref v) :: ls) (.ref v :: st) σ τ := mj_nx i118_0 rfl
theorem i118_1 : mj_ins 118 1 = some (.getfield 706, 4) := by decide +kernel
theorem e118_1 {ls : mj_L} {st : List Value} {σ : mj_S} {τ : mj_T} : mj_E 118 1 ls (.ref 62 :: st) σ τ = mj_E 118 4 ls (.ref 63 :: st) σ τ := mj_nx i118_1 rfl
theorem i118_4 : mj_ins 118 4 = some (.iload 1, 5) := by decide +kernel
theorem e118_4 {ls : mj_L} {st : List Value} {σ : mj_S} {τ : mj_T} {a0 : Option Value} {v : Int32} : mj_E 118 4 (a0 :: some (.int v) :: ls) st σ τ = mj_E 118 5 (a0 :: some (.int v) :: ls) (.int v :: st) σ τ := mj_nx i118_4 rfl
theorem i118_5 : mj_ins 118 5 = some (.ineg, 6) := by decide +kernel
theorem e118_5 {ls : mj_L} {st : List Value} {σ : mj_S} {τ : mj_T} {x : Int32} : mj_E 118 5 ls (.int x :: st) σ τ = mj_E 118 6 ls (.int (-x) :: st) σ τ := mj_nx i118_5 rfl
theorem i118_6 : mj_ins 118 6 = some (.dup2, 7) := by decide +kernel
theorem e118_6 {ls : mj_L} {st : List Value} {σ : mj_S} {τ : mj_T} {y : Int32} {x : Nat} : mj_E 118 6 ls (.int y :: .ref x :: st) σ τ = mj_E 118 7 ls (.int y :: .ref x :: .int y :: .ref x :: st) σ τ := mj_nx i118_6 rfl
theorem i118_7 : mj_ins 118 7 = some (.iaload, 8) := by decide +kernel
theorem e118_7 {ls : mj_L} {st : List Value} {σ : mj_S} {τ : mj_T} {x : Int32} {k : Nat} : mj_E 118 7 ls (.int x :: .ref k :: st) σ τ = if mj_ib (mj_li σ k) x = true then mj_E 118 8 ls (.int (σ k x.toNatClampNeg) :: st) σ τ else none := mj_ald i118_7
theorem i118_8 : mj_ins 118 8 = some (.iconst (1), 9) := by decide +kernel
theorem e118_8 {ls : mj_L} {st : List Value} {σ : mj_S} {τ : mj_T} : mj_E 118 8 ls st σ τ = mj_E 118 9 ls (.int (nI 1) :: st) σ τ := mj_nx i118_8 rfl
theorem i118_9 : mj_ins 118 9 = some (.iadd, 10) := by decide +kernel
theorem e118_9 {ls : mj_L} {st : List Value} {σ : mj_S} {τ : mj_T} {x y : Int32} : mj_E 118 9 ls (.int y :: .int x :: st) σ τ = mj_E 118 10 ls (.int (x + y) :: st) σ τ := mj_nx i118_9 rfl
theorem i118_10 : mj_ins 118 10 = some (.iastore, 11) := by decide +kernel
theorem e118_10 {ls : mj_L} {st : List Value} {σ : mj_S} {τ : mj_T} {x v : Int32} {k : Nat} : mj_E 118 10 ls (.int v :: .int x :: .ref k :: st) σ τ = if mj_ib (mj_lw k) x = true then mj_E 118 11 ls st (mj_up σ k x.toNatClampNeg v) τ else none := mj_ast i118_10
theorem i118_11 : mj_ins 118 11 = some (.iload 1, 12) := by decide +kernel
theorem e118_11 {ls : mj_L} {st : List Value} {σ : mj_S} {τ : mj_T} {a0 : Option Value} {v : Int32} : mj_E 118 11 (a0 :: some (.int v) :: ls) st σ τ = mj_E 118 12 (a0 :: some (.int v) :: ls) (.int v :: st) σ τ := mj_nx i118_11 rfl
theorem i118_12 : mj_ins 118 12 = some (.iconst (10), 14) := by decide +kernel
theorem e118_12 {ls : mj_L} {st : List Value} {σ : mj_S} {τ : mj_T} : mj_E 118 12 ls st σ τ = mj_E 118 14 ls (.int (nI 10) :: st) σ τ := mj_nx i118_12 rfl
theorem i118_14 : mj_ins 118 14 = some (.isub, 15) := by decide +kernel
theorem e118_14 {ls : mj_L} {st : List Value} {σ : mj_S} {τ : mj_T} {x y : Int32} : mj_E 118 14 ls (.int y :: .int x :: st) σ τ = mj_E 118 15 ls (.int (x - y) :: st) σ τ := mj_nx i118_14 rfl
theorem i118_15 : mj_ins 118 15 = some (.ireturn, 16) := by decide +kernel
theorem e118_15 {ls : mj_L} {σ : mj_S} {τ : mj_T} {v : Int32} : mj_E 118 15 ls [.int v] σ τ = some (some (.int v), σ, τ) := mj_irt i118_15 rfl
theorem c119 {σ : mj_S} {τ : mj_T} {r : Nat} {x0 : Int32} : mj_C 119 [.ref r, .int x0] σ τ = mj_E 119 0 [some (.ref r), some (.int x0)] [] σ τ := rfl
theorem i119_0 : mj_ins 119 0 = some (.iload 1, 1) := by decide +kernel
theorem e119_0 {ls : mj_L} {st : List Value} {σ : mj_S} {τ : mj_T} {a0 : Option Value} {v : Int32} : mj_E 119 0 (a0 :: some (.int v) :: ls) st σ τ = mj_E 119 1 (a0 :: some (.int v) :: ls) (.int v :: st) σ τ := mj_nx i119_0 rfl
theorem i119_1 : mj_ins 119 1 = some (.ifCond .lt 14, 4) := by decide +kernel
theorem e119_1 {ls : mj_L} {st : List Value} {σ : mj_S} {τ : mj_T} {x : Int32} : mj_E 119 1 ls (.int x :: st) σ τ = if x < 0 then mj_E 119 14 ls st σ τ else mj_E 119 4 ls st σ τ := (mj_ifc i119_1).trans (mj_cdT rfl)
theorem i119_4 : mj_ins 119 4 = some (.iload 1, 5) := by decide +kernel
theorem e119_4 {ls : mj_L} {st : List Value} {σ : mj_S} {τ : mj_T} {a0 : Option Value} {v : Int32} : mj_E 119 4 (a0 :: some (.int v) :: ls) st σ τ = mj_E 119 5 (a0 :: some (.int v) :: ls) (.int v :: st) σ τ := mj_nx i119_4 rfl
theorem i119_5 : mj_ins 119 5 = some (.iconst (8), 7) := by decide +kernel
theorem e119_5 {ls : mj_L} {st : List Value} {σ : mj_S} {τ : mj_T} : mj_E 119 5 ls st σ τ = mj_E 119 7 ls (.int (nI 8) :: st) σ τ := mj_nx i119_5 rfl
theorem i119_7 : mj_ins 119 7 = some (.if_icmp .ge 14, 10) := by decide +kernel
theorem e119_7 {ls : mj_L} {st : List Value} {σ : mj_S} {τ : mj_T} {x y : Int32} : mj_E 119 7 ls (.int y :: .int x :: st) σ τ = if y ≤ x then mj_E 119 14 ls st σ τ else mj_E 119 10 ls st σ τ := (mj_ifi i119_7).trans (mj_cdT rfl)
theorem i119_10 : mj_ins 119 10 = some (.iconst (1), 11) := by decide +kernel
theorem e119_10 {ls : mj_L} {st : List Value} {σ : mj_S} {τ : mj_T} : mj_E 119 10 ls st σ τ = mj_E 119 11 ls (.int (nI 1) :: st) σ τ := mj_nx i119_10 rfl
theorem i119_11 : mj_ins 119 11 = some (.goto 15, 14) := by decide +kernel
theorem e119_11 {ls : mj_L} {st : List Value} {σ : mj_S} {τ : mj_T} : mj_E 119 11 ls st σ τ = mj_E 119 15 ls st σ τ := mj_nx i119_11 rfl
theorem i119_14 : mj_ins 119 14 = some (.iconst (0), 15) := by decide +kernel
theorem e119_14 {ls : mj_L} {st : List Value} {σ : mj_S} {τ : mj_T} : mj_E 119 14 ls st σ τ = mj_E 119 15 ls (.int (nI 0) :: st) σ τ := mj_nx i119_14 rfl
theorem i119_15 : mj_ins 119 15 = some (.ireturn, 16) := by decide +kernel
theorem e119_15 {ls : mj_L} {σ : mj_S} {τ : mj_T} {v : Int32} : mj_E 119 15 ls [.int v] σ τ = if mj_ok (some .boolean) v = true then some (some (.int v), σ, τ) else none := mj_zrt i119_15 rfl
theorem c120 {σ : mj_S} {τ : mj_T} {r : Nat} {x0 : Int32} : mj_C 120 [.ref r, .int x0] σ τ = mj_E 120 0 [some (.ref r), some (.int x0)] [] σ τ := rfl
theorem i120_0 : mj_ins 120 0 = some (.iload 1, 1) := by decide +kernel
theorem e120_0 {ls : mj_L} {st : List Value} {σ : mj_S} {τ : mj_T} {a0 : Option Value} {v : Int32} : mj_E 120 0 (a0 :: some (.int v) :: ls) st σ τ = mj_E 120 1 (a0 :: some (.int v) :: ls) (.int v :: st) σ τ := mj_nx i120_0 rfl
theorem i120_1 : mj_ins 120 1 = some (.ifCond .lt 16, 4) := by decide +kernel
theorem e120_1 {ls : mj_L} {st : List Value} {σ : mj_S} {τ : mj_T} {x : Int32} : mj_E 120 1 ls (.int x :: st) σ τ = if x < 0 then mj_E 120 16 ls st σ τ else mj_E 120 4 ls st σ τ := (mj_ifc i120_1).trans (mj_cdT rfl)
theorem i120_4 : mj_ins 120 4 = some (.iload 1, 5) := by decide +kernel
theorem e120_4 {ls : mj_L} {st : List Value} {σ : mj_S} {τ : mj_T} {a0 : Option Value} {v : Int32} : mj_E 120 4 (a0 :: some (.int v) :: ls) st σ τ = mj_E 120 5 (a0 :: some (.int v) :: ls) (.int v :: st) σ τ := mj_nx i120_4 rfl
theorem i120_5 : mj_ins 120 5 = some (.aload 0, 6) := by decide +kernel
theorem e120_5 {ls : mj_L} {st : List Value} {σ : mj_S} {τ : mj_T} {v : Nat} : mj_E 120 5 (some (.ref v) :: ls) st σ τ = mj_E 120 6 (some (.ref v) :: ls) (.ref v :: st) σ τ := mj_nx i120_5 rfl
theorem i120_6 : mj_ins 120 6 = some (.getfield 700, 9) := by decide +kernel
theorem e120_6 {ls : mj_L} {st : List Value} {σ : mj_S} {τ : mj_T} : mj_E 120 6 ls (.ref 62 :: st) σ τ = mj_E 120 9 ls (.int (σ 62 0) :: st) σ τ := mj_nx i120_6 rfl
theorem i120_9 : mj_ins 120 9 = some (.if_icmp .ge 16, 12) := by decide +kernel
theorem e120_9 {ls : mj_L} {st : List Value} {σ : mj_S} {τ : mj_T} {x y : Int32} : mj_E 120 9 ls (.int y :: .int x :: st) σ τ = if y ≤ x then mj_E 120 16 ls st σ τ else mj_E 120 12 ls st σ τ := (mj_ifi i120_9).trans (mj_cdT rfl)
theorem i120_12 : mj_ins 120 12 = some (.iconst (1), 13) := by decide +kernel
theorem e120_12 {ls : mj_L} {st : List Value} {σ : mj_S} {τ : mj_T} : mj_E 120 12 ls st σ τ = mj_E 120 13 ls (.int (nI 1) :: st) σ τ := mj_nx i120_12 rfl
theorem i120_13 : mj_ins 120 13 = some (.goto 17, 16) := by decide +kernel
theorem e120_13 {ls : mj_L} {st : List Value} {σ : mj_S} {τ : mj_T} : mj_E 120 13 ls st σ τ = mj_E 120 17 ls st σ τ := mj_nx i120_13 rfl
theorem i120_16 : mj_ins 120 16 = some (.iconst (0), 17) := by decide +kernel
theorem e120_16 {ls : mj_L} {st : List Value} {σ : mj_S} {τ : mj_T} : mj_E 120 16 ls st σ τ = mj_E 120 17 ls (.int (nI 0) :: st) σ τ := mj_nx i120_16 rfl
theorem i120_17 : mj_ins 120 17 = some (.ireturn, 18) := by decide +kernel
theorem e120_17 {ls : mj_L} {σ : mj_S} {τ : mj_T} {v : Int32} : mj_E 120 17 ls [.int v] σ τ = if mj_ok (some .boolean) v = true then some (some (.int v), σ, τ) else none := mj_zrt i120_17 rfl
theorem c121 {σ : mj_S} {τ : mj_T} {r : Nat} {x0 : Int32} : mj_C 121 [.ref r, .int x0] σ τ = mj_E 121 0 [some (.ref r), some (.int x0)] [] σ τ := rfl
theorem i121_0 : mj_ins 121 0 = some (.iload 1, 1) := by decide +kernel
theorem e121_0 {ls : mj_L} {st : List Value} {σ : mj_S} {τ : mj_T} {a0 : Option Value} {v : Int32} : mj_E 121 0 (a0 :: some (.int v) :: ls) st σ τ = mj_E 121 1 (a0 :: some (.int v) :: ls) (.int v :: st) σ τ := mj_nx i121_0 rfl
theorem i121_1 : mj_ins 121 1 = some (.ifCond .lt 16, 4) := by decide +kernel
theorem e121_1 {ls : mj_L} {st : List Value} {σ : mj_S} {τ : mj_T} {x : Int32} : mj_E 121 1 ls (.int x :: st) σ τ = if x < 0 then mj_E 121 16 ls st σ τ else mj_E 121 4 ls st σ τ := (mj_ifc i121_1).trans (mj_cdT rfl)
theorem i121_4 : mj_ins 121 4 = some (.iload 1, 5) := by decide +kernel
theorem e121_4 {ls : mj_L} {st : List Value} {σ : mj_S} {τ : mj_T} {a0 : Option Value} {v : Int32} : mj_E 121 4 (a0 :: some (.int v) :: ls) st σ τ = mj_E 121 5 (a0 :: some (.int v) :: ls) (.int v :: st) σ τ := mj_nx i121_4 rfl
theorem i121_5 : mj_ins 121 5 = some (.aload 0, 6) := by decide +kernel
theorem e121_5 {ls : mj_L} {st : List Value} {σ : mj_S} {τ : mj_T} {v : Nat} : mj_E 121 5 (some (.ref v) :: ls) st σ τ = mj_E 121 6 (some (.ref v) :: ls) (.ref v :: st) σ τ := mj_nx i121_5 rfl
theorem i121_6 : mj_ins 121 6 = some (.getfield 701, 9) := by decide +kernel
theorem e121_6 {ls : mj_L} {st : List Value} {σ : mj_S} {τ : mj_T} : mj_E 121 6 ls (.ref 62 :: st) σ τ = mj_E 121 9 ls (.int (σ 62 1) :: st) σ τ := mj_nx i121_6 rfl
theorem i121_9 : mj_ins 121 9 = some (.if_icmp .ge 16, 12) := by decide +kernel
theorem e121_9 {ls : mj_L} {st : List Value} {σ : mj_S} {τ : mj_T} {x y : Int32} : mj_E 121 9 ls (.int y :: .int x :: st) σ τ = if y ≤ x then mj_E 121 16 ls st σ τ else mj_E 121 12 ls st σ τ := (mj_ifi i121_9).trans (mj_cdT rfl)
theorem i121_12 : mj_ins 121 12 = some (.iconst (1), 13) := by decide +kernel
theorem e121_12 {ls : mj_L} {st : List Value} {σ : mj_S} {τ : mj_T} : mj_E 121 12 ls st σ τ = mj_E 121 13 ls (.int (nI 1) :: st) σ τ := mj_nx i121_12 rfl
theorem i121_13 : mj_ins 121 13 = some (.goto 17, 16) := by decide +kernel
theorem e121_13 {ls : mj_L} {st : List Value} {σ : mj_S} {τ : mj_T} : mj_E 121 13 ls st σ τ = mj_E 121 17 ls st σ τ := mj_nx i121_13 rfl
theorem i121_16 : mj_ins 121 16 = some (.iconst (0), 17) := by decide +kernel
theorem e121_16 {ls : mj_L} {st : List Value} {σ : mj_S} {τ : mj_T} : mj_E 121 16 ls st σ τ = mj_E 121 17 ls (.int (nI 0) :: st) σ τ := mj_nx i121_16 rfl
theorem i121_17 : mj_ins 121 17 = some (.ireturn, 18) := by decide +kernel
theorem e121_17 {ls : mj_L} {σ : mj_S} {τ : mj_T} {v : Int32} : mj_E 121 17 ls [.int v] σ τ = if mj_ok (some .boolean) v = true then some (some (.int v), σ, τ) else none := mj_zrt i121_17 rfl
theorem c122 {σ : mj_S} {τ : mj_T} {r : Nat} {x0 : Int32} {x1 : Int32} {x2 : Int32} : mj_C 122 [.ref r, .int x0, .int x1, .int x2] σ τ = mj_E 122 0 [some (.ref r), some (.int x0), some (.int x1), some (.int x2)] [] σ τ := rfl
theorem i122_0 : mj_ins 122 0 = some (.iload 1, 1) := by decide +kernel
theorem e122_0 {ls : mj_L} {st : List Value} {σ : mj_S} {τ : mj_T} {a0 : Option Value} {v : Int32} : mj_E 122 0 (a0 :: some (.int v) :: ls) st σ τ = mj_E 122 1 (a0 :: some (.int v) :: ls) (.int v :: st) σ τ := mj_nx i122_0 rfl
theorem i122_1 : mj_ins 122 1 = some (.iload 2, 2) := by decide +kernel
theorem e122_1 {ls : mj_L} {st : List Value} {σ : mj_S} {τ : mj_T} {a0 a1 : Option Value} {v : Int32} : mj_E 122 1 (a0 :: a1 :: some (.int v) :: ls) st σ τ = mj_E 122 2 (a0 :: a1 :: some (.int v) :: ls) (.int v :: st) σ τ := mj_nx i122_1 rfl
theorem i122_2 : mj_ins 122 2 = some (.if_icmp .lt 14, 5) := by decide +kernel
theorem e122_2 {ls : mj_L} {st : List Value} {σ : mj_S} {τ : mj_T} {x y : Int32} : mj_E 122 2 ls (.int y :: .int x :: st) σ τ = if x < y then mj_E 122 14 ls st σ τ else mj_E 122 5 ls st σ τ := (mj_ifi i122_2).trans (mj_cdT rfl)
theorem i122_5 : mj_ins 122 5 = some (.iload 1, 6) := by decide +kernel
theorem e122_5 {ls : mj_L} {st : List Value} {σ : mj_S} {τ : mj_T} {a0 : Option Value} {v : Int32} : mj_E 122 5 (a0 :: some (.int v) :: ls) st σ τ = mj_E 122 6 (a0 :: some (.int v) :: ls) (.int v :: st) σ τ := mj_nx i122_5 rfl
theorem i122_6 : mj_ins 122 6 = some (.iload 3, 7) := by decide +kernel
theorem e122_6 {ls : mj_L} {st : List Value} {σ : mj_S} {τ : mj_T} {a0 a1 a2 : Option Value} {v : Int32} : mj_E 122 6 (a0 :: a1 :: a2 :: some (.int v) :: ls) st σ τ = mj_E 122 7 (a0 :: a1 :: a2 :: some (.int v) :: ls) (.int v :: st) σ τ := mj_nx i122_6 rfl
theorem i122_7 : mj_ins 122 7 = some (.if_icmp .gt 14, 10) := by decide +kernel
theorem e122_7 {ls : mj_L} {st : List Value} {σ : mj_S} {τ : mj_T} {x y : Int32} : mj_E 122 7 ls (.int y :: .int x :: st) σ τ = if y < x then mj_E 122 14 ls st σ τ else mj_E 122 10 ls st σ τ := (mj_ifi i122_7).trans (mj_cdT rfl)
theorem i122_10 : mj_ins 122 10 = some (.iconst (1), 11) := by decide +kernel
theorem e122_10 {ls : mj_L} {st : List Value} {σ : mj_S} {τ : mj_T} : mj_E 122 10 ls st σ τ = mj_E 122 11 ls (.int (nI 1) :: st) σ τ := mj_nx i122_10 rfl
theorem i122_11 : mj_ins 122 11 = some (.goto 15, 14) := by decide +kernel
theorem e122_11 {ls : mj_L} {st : List Value} {σ : mj_S} {τ : mj_T} : mj_E 122 11 ls st σ τ = mj_E 122 15 ls st σ τ := mj_nx i122_11 rfl
theorem i122_14 : mj_ins 122 14 = some (.iconst (0), 15) := by decide +kernel
theorem e122_14 {ls : mj_L} {st : List Value} {σ : mj_S} {τ : mj_T} : mj_E 122 14 ls st σ τ = mj_E 122 15 ls (.int (nI 0) :: st) σ τ := mj_nx i122_14 rfl
theorem i122_15 : mj_ins 122 15 = some (.ireturn, 16) := by decide +kernel
theorem e122_15 {ls : mj_L} {σ : mj_S} {τ : mj_T} {v : Int32} : mj_E 122 15 ls [.int v] σ τ = if mj_ok (some .boolean) v = true then some (some (.int v), σ, τ) else none := mj_zrt i122_15 rfl
theorem c123 {σ : mj_S} {τ : mj_T} {r : Nat} {x0 : Int32} {x1 : Int32} {x2 : Int32} : mj_C 123 [.ref r, .int x0, .int x1, .int x2] σ τ = mj_E 123 0 [some (.ref r), some (.int x0), some (.int x1), some (.int x2), none] [] σ τ := rfl
theorem i123_0 : mj_ins 123 0 = some (.aload 0, 1) := by decide +kernel
theorem e123_0 {ls : mj_L} {st : List Value} {σ : mj_S} {τ : mj_T} {v : Nat} : mj_E 123 0 (some (.ref v) :: ls) st σ τ = mj_E 123 1 (some (.ref v) :: ls) (.ref v :: st) σ τ := mj_nx i123_0 rfl
theorem i123_1 : mj_ins 123 1 = some (.iload 1, 2) := by decide +kernel
theorem e123_1 {ls : mj_L} {st : List Value} {σ : mj_S} {τ : mj_T} {a0 : Option Value} {v : Int32} : mj_E 123 1 (a0 :: some (.int v) :: ls) st σ τ = mj_E 123 2 (a0 :: some (.int v) :: ls) (.int v :: st) σ τ := mj_nx i123_1 rfl
theorem i123_2 : mj_ins 123 2 = some (.invokevirtual 119, 5) := by decide +kernel
theorem e123_2 {ls : mj_L} {σ : mj_S} {τ : mj_T} {r : Nat} {x0 : Int32} : mj_E 123 2 ls [.int x0, .ref r] σ τ = if mj_rcv r 7 = true then mj_bd (mj_C 119 [.ref r, .int x0] σ τ) (mj_K 123 5 ls []) else none := mj_clV (as := [.int x0]) (r := []) i123_2 (by decide +kernel : mj_vk 123 119 1 0 2 false = true) (by decide +kernel)
theorem i123_5 : mj_ins 123 5 = some (.ifCond .ne 14, 8) := by decide +kernel
theorem e123_5 {ls : mj_L} {st : List Value} {σ : mj_S} {τ : mj_T} {x : Int32} : mj_E 123 5 ls (.int x :: st) σ τ = if x = 0 then mj_E 123 8 ls st σ τ else mj_E 123 14 ls st σ τ := (mj_ifc i123_5).trans (mj_cdF rfl)
theorem i123_8 : mj_ins 123 8 = some (.aload 0, 9) := by decide +kernel
theorem e123_8 {ls : mj_L} {st : List Value} {σ : mj_S} {τ : mj_T} {v : Nat} : mj_E 123 8 (some (.ref v) :: ls) st σ τ = mj_E 123 9 (some (.ref v) :: ls) (.ref v :: st) σ τ := mj_nx i123_8 rfl
theorem i123_9 : mj_ins 123 9 = some (.iconst (-1), 10) := by decide +kernel
theorem e123_9 {ls : mj_L} {st : List Value} {σ : mj_S} {τ : mj_T} : mj_E 123 9 ls st σ τ = mj_E 123 10 ls (.int ((-1)) :: st) σ τ := mj_nx i123_9 rfl
theorem i123_10 : mj_ins 123 10 = some (.invokevirtual 117, 13) := by decide +kernel
theorem e123_10 {ls : mj_L} {σ : mj_S} {τ : mj_T} {r : Nat} {x0 : Int32} : mj_E 123 10 ls [.int x0, .ref r] σ τ = if mj_rcv r 7 = true then mj_bd (mj_C 117 [.ref r, .int x0] σ τ) (mj_K 123 13 ls []) else none := mj_clV (as := [.int x0]) (r := []) i123_10 (by decide +kernel : mj_vk 123 117 1 0 2 false = true) (by decide +kernel)
theorem i123_13 : mj_ins 123 13 = some (.ireturn, 14) := by decide +kernel
theorem e123_13 {ls : mj_L} {σ : mj_S} {τ : mj_T} {v : Int32} : mj_E 123 13 ls [.int v] σ τ = some (some (.int v), σ, τ) := mj_irt i123_13 rfl
theorem i123_14 : mj_ins 123 14 = some (.iload 3, 15) := by decide +kernel
theorem e123_14 {ls : mj_L} {st : List Value} {σ : mj_S} {τ : mj_T} {a0 a1 a2 : Option Value} {v : Int32} : mj_E 123 14 (a0 :: a1 :: a2 :: some (.int v) :: ls) st σ τ = mj_E 123 15 (a0 :: a1 :: a2 :: some (.int v) :: ls) (.int v :: st) σ τ := mj_nx i123_14 rfl
theorem i123_15 : mj_ins 123 15 = some (.ifCond .ge 25, 18) := by decide +kernel
theorem e123_15 {ls : mj_L} {st : List Value} {σ : mj_S} {τ : mj_T} {x : Int32} : mj_E 123 15 ls (.int x :: st) σ τ = if 0 ≤ x then mj_E 123 25 ls st σ τ else mj_E 123 18 ls st σ τ := (mj_ifc i123_15).trans (mj_cdT rfl)
theorem i123_18 : mj_ins 123 18 = some (.aload 0, 19) := by decide +kernel
theorem e123_18 {ls : mj_L} {st : List Value} {σ : mj_S} {τ : mj_T} {v : Nat} : mj_E 123 18 (some (.ref v) :: ls) st σ τ = mj_E 123 19 (some (.ref v) :: ls) (.ref v :: st) σ τ := mj_nx i123_18 rfl
theorem i123_19 : mj_ins 123 19 = some (.iconst (-4), 21) := by decide +kernel
theorem e123_19 {ls : mj_L} {st : List Value} {σ : mj_S} {τ : mj_T} : mj_E 123 19 ls st σ τ = mj_E 123 21 ls (.int ((-4)) :: st) σ τ := mj_nx i123_19 rfl
theorem i123_21 : mj_ins 123 21 = some (.invokevirtual 117, 24) := by decide +kernel
theorem e123_21 {ls : mj_L} {σ : mj_S} {τ : mj_T} {r : Nat} {x0 : Int32} : mj_E 123 21 ls [.int x0, .ref r] σ τ = if mj_rcv r 7 = true then mj_bd (mj_C 117 [.ref r, .int x0] σ τ) (mj_K 123 24 ls []) else none := mj_clV (as := [.int x0]) (r := []) i123_21 (by decide +kernel : mj_vk 123 117 1 0 2 false = true) (by decide +kernel)
theorem i123_24 : mj_ins 123 24 = some (.ireturn, 25) := by decide +kernel
theorem e123_24 {ls : mj_L} {σ : mj_S} {τ : mj_T} {v : Int32} : mj_E 123 24 ls [.int v] σ τ = some (some (.int v), σ, τ) := mj_irt i123_24 rfl
theorem i123_25 : mj_ins 123 25 = some (.iload 2, 26) := by decide +kernel
theorem e123_25 {ls : mj_L} {st : List Value} {σ : mj_S} {τ : mj_T} {a0 a1 : Option Value} {v : Int32} : mj_E 123 25 (a0 :: a1 :: some (.int v) :: ls) st σ τ = mj_E 123 26 (a0 :: a1 :: some (.int v) :: ls) (.int v :: st) σ τ := mj_nx i123_25 rfl
theorem i123_26 : mj_ins 123 26 = some (.ifCond .lt 34, 29) := by decide +kernel
theorem e123_26 {ls : mj_L} {st : List Value} {σ : mj_S} {τ : mj_T} {x : Int32} : mj_E 123 26 ls (.int x :: st) σ τ = if x < 0 then mj_E 123 34 ls st σ τ else mj_E 123 29 ls st σ τ := (mj_ifc i123_26).trans (mj_cdT rfl)
theorem i123_29 : mj_ins 123 29 = some (.iload 2, 30) := by decide +kernel
theorem e123_29 {ls : mj_L} {st : List Value} {σ : mj_S} {τ : mj_T} {a0 a1 : Option Value} {v : Int32} : mj_E 123 29 (a0 :: a1 :: some (.int v) :: ls) st σ τ = mj_E 123 30 (a0 :: a1 :: some (.int v) :: ls) (.int v :: st) σ τ := mj_nx i123_29 rfl
theorem i123_30 : mj_ins 123 30 = some (.iconst (3), 31) := by decide +kernel
theorem e123_30 {ls : mj_L} {st : List Value} {σ : mj_S} {τ : mj_T} : mj_E 123 30 ls st σ τ = mj_E 123 31 ls (.int (nI 3) :: st) σ τ := mj_nx i123_30 rfl
theorem i123_31 : mj_ins 123 31 = some (.if_icmp .le 41, 34) := by decide +kernel
theorem e123_31 {ls : mj_L} {st : List Value} {σ : mj_S} {τ : mj_T} {x y : Int32} : mj_E 123 31 ls (.int y :: .int x :: st) σ τ = if x ≤ y then mj_E 123 41 ls st σ τ else mj_E 123 34 ls st σ τ := (mj_ifi i123_31).trans (mj_cdT rfl)
theorem i123_34 : mj_ins 123 34 = some (.aload 0, 35) := by decide +kernel
theorem e123_34 {ls : mj_L} {st : List Value} {σ : mj_S} {τ : mj_T} {v : Nat} : mj_E 123 34 (some (.ref v) :: ls) st σ τ = mj_E 123 35 (some (.ref v) :: ls) (.ref v :: st) σ τ := mj_nx i123_34 rfl
theorem i123_35 : mj_ins 123 35 = some (.iconst (-6), 37) := by decide +kernel
theorem e123_35 {ls : mj_L} {st : List Value} {σ : mj_S} {τ : mj_T} : mj_E 123 35 ls st σ τ = mj_E 123 37 ls (.int ((-6)) :: st) σ τ := mj_nx i123_35 rfl
theorem i123_37 : mj_ins 123 37 = some (.invokevirtual 117, 40) := by decide +kernel
theorem e123_37 {ls : mj_L} {σ : mj_S} {τ : mj_T} {r : Nat} {x0 : Int32} : mj_E 123 37 ls [.int x0, .ref r] σ τ = if mj_rcv r 7 = true then mj_bd (mj_C 117 [.ref r, .int x0] σ τ) (mj_K 123 40 ls []) else none := mj_clV (as := [.int x0]) (r := []) i123_37 (by decide +kernel : mj_vk 123 117 1 0 2 false = true) (by decide +kernel)
theorem i123_40 : mj_ins 123 40 = some (.ireturn, 41) := by decide +kernel
theorem e123_40 {ls : mj_L} {σ : mj_S} {τ : mj_T} {v : Int32} : mj_E 123 40 ls [.int v] σ τ = some (some (.int v), σ, τ) := mj_irt i123_40 rfl
theorem i123_41 : mj_ins 123 41 = some (.iload 3, 42) := by decide +kernel
theorem e123_41 {ls : mj_L} {st : List Value} {σ : mj_S} {τ : mj_T} {a0 a1 a2 : Option Value} {v : Int32} : mj_E 123 41 (a0 :: a1 :: a2 :: some (.int v) :: ls) st σ τ = mj_E 123 42 (a0 :: a1 :: a2 :: some (.int v) :: ls) (.int v :: st) σ τ := mj_nx i123_41 rfl
theorem i123_42 : mj_ins 123 42 = some (.iconst (160), 45) := by decide +kernel
theorem e123_42 {ls : mj_L} {st : List Value} {σ : mj_S} {τ : mj_T} : mj_E 123 42 ls st σ τ = mj_E 123 45 ls (.int (nI 160) :: st) σ τ := mj_nx i123_42 rfl
theorem i123_45 : mj_ins 123 45 = some (.if_icmp .le 55, 48) := by decide +kernel
theorem e123_45 {ls : mj_L} {st : List Value} {σ : mj_S} {τ : mj_T} {x y : Int32} : mj_E 123 45 ls (.int y :: .int x :: st) σ τ = if x ≤ y then mj_E 123 55 ls st σ τ else mj_E 123 48 ls st σ τ := (mj_ifi i123_45).trans (mj_cdT rfl)
theorem i123_48 : mj_ins 123 48 = some (.aload 0, 49) := by decide +kernel
theorem e123_48 {ls : mj_L} {st : List Value} {σ : mj_S} {τ : mj_T} {v : Nat} : mj_E 123 48 (some (.ref v) :: ls) st σ τ = mj_E 123 49 (some (.ref v) :: ls) (.ref v :: st) σ τ := mj_nx i123_48 rfl
theorem i123_49 : mj_ins 123 49 = some (.iconst (-7), 51) := by decide +kernel
theorem e123_49 {ls : mj_L} {st : List Value} {σ : mj_S} {τ : mj_T} : mj_E 123 49 ls st σ τ = mj_E 123 51 ls (.int ((-7)) :: st) σ τ := mj_nx i123_49 rfl
theorem i123_51 : mj_ins 123 51 = some (.invokevirtual 117, 54) := by decide +kernel
theorem e123_51 {ls : mj_L} {σ : mj_S} {τ : mj_T} {r : Nat} {x0 : Int32} : mj_E 123 51 ls [.int x0, .ref r] σ τ = if mj_rcv r 7 = true then mj_bd (mj_C 117 [.ref r, .int x0] σ τ) (mj_K 123 54 ls []) else none := mj_clV (as := [.int x0]) (r := []) i123_51 (by decide +kernel : mj_vk 123 117 1 0 2 false = true) (by decide +kernel)
theorem i123_54 : mj_ins 123 54 = some (.ireturn, 55) := by decide +kernel
theorem e123_54 {ls : mj_L} {σ : mj_S} {τ : mj_T} {v : Int32} : mj_E 123 54 ls [.int v] σ τ = some (some (.int v), σ, τ) := mj_irt i123_54 rfl
theorem i123_55 : mj_ins 123 55 = some (.aload 0, 56) := by decide +kernel
theorem e123_55 {ls : mj_L} {st : List Value} {σ : mj_S} {τ : mj_T} {v : Nat} : mj_E 123 55 (some (.ref v) :: ls) st σ τ = mj_E 123 56 (some (.ref v) :: ls) (.ref v :: st) σ τ := mj_nx i123_55 rfl
theorem i123_56 : mj_ins 123 56 = some (.getfield 717, 59) := by decide +kernel
theorem e123_56 {ls : mj_L} {st : List Value} {σ : mj_S} {τ : mj_T} : mj_E 123 56 ls (.ref 62 :: st) σ τ = mj_E 123 59 ls (.ref 74 :: st) σ τ := mj_nx i123_56 rfl
theorem i123_59 : mj_ins 123 59 = some (.iload 1, 60) := by decide +kernel
theorem e123_59 {ls : mj_L} {st : List Value} {σ : mj_S} {τ : mj_T} {a0 : Option Value} {v : Int32} : mj_E 123 59 (a0 :: some (.int v) :: ls) st σ τ = mj_E 123 60 (a0 :: some (.int v) :: ls) (.int v :: st) σ τ := mj_nx i123_59 rfl
theorem i123_60 : mj_ins 123 60 = some (.iconst (1), 61) := by decide +kernel
theorem e123_60 {ls : mj_L} {st : List Value} {σ : mj_S} {τ : mj_T} : mj_E 123 60 ls st σ τ = mj_E 123 61 ls (.int (nI 1) :: st) σ τ := mj_nx i123_60 rfl
theorem i123_61 : mj_ins 123 61 = some (.iastore, 62) := by decide +kernel
theorem e123_61 {ls : mj_L} {st : List Value} {σ : mj_S} {τ : mj_T} {x v : Int32} {k : Nat} : mj_E 123 61 ls (.int v :: .int x :: .ref k :: st) σ τ = if mj_ib (mj_lw k) x = true then mj_E 123 62 ls st (mj_up σ k x.toNatClampNeg v) τ else none := mj_ast i123_61
theorem i123_62 : mj_ins 123 62 = some (.aload 0, 63) := by decide +kernel
theorem e123_62 {ls : mj_L} {st : List Value} {σ : mj_S} {τ : mj_T} {v : Nat} : mj_E 123 62 (some (.ref v) :: ls) st σ τ = mj_E 123 63 (some (.ref v) :: ls) (.ref v :: st) σ τ := mj_nx i123_62 rfl
theorem i123_63 : mj_ins 123 63 = some (.getfield 718, 66) := by decide +kernel
theorem e123_63 {ls : mj_L} {st : List Value} {σ : mj_S} {τ : mj_T} : mj_E 123 63 ls (.ref 62 :: st) σ τ = mj_E 123 66 ls (.ref 75 :: st) σ τ := mj_nx i123_63 rfl
theorem i123_66 : mj_ins 123 66 = some (.iload 1, 67) := by decide +kernel
theorem e123_66 {ls : mj_L} {st : List Value} {σ : mj_S} {τ : mj_T} {a0 : Option Value} {v : Int32} : mj_E 123 66 (a0 :: some (.int v) :: ls) st σ τ = mj_E 123 67 (a0 :: some (.int v) :: ls) (.int v :: st) σ τ := mj_nx i123_66 rfl
theorem i123_67 : mj_ins 123 67 = some (.iload 2, 68) := by decide +kernel
theorem e123_67 {ls : mj_L} {st : List Value} {σ : mj_S} {τ : mj_T} {a0 a1 : Option Value} {v : Int32} : mj_E 123 67 (a0 :: a1 :: some (.int v) :: ls) st σ τ = mj_E 123 68 (a0 :: a1 :: some (.int v) :: ls) (.int v :: st) σ τ := mj_nx i123_67 rfl
theorem i123_68 : mj_ins 123 68 = some (.iastore, 69) := by decide +kernel
theorem e123_68 {ls : mj_L} {st : List Value} {σ : mj_S} {τ : mj_T} {x v : Int32} {k : Nat} : mj_E 123 68 ls (.int v :: .int x :: .ref k :: st) σ τ = if mj_ib (mj_lw k) x = true then mj_E 123 69 ls st (mj_up σ k x.toNatClampNeg v) τ else none := mj_ast i123_68
theorem i123_69 : mj_ins 123 69 = some (.aload 0, 70) := by decide +kernel
theorem e123_69 {ls : mj_L} {st : List Value} {σ : mj_S} {τ : mj_T} {v : Nat} : mj_E 123 69 (some (.ref v) :: ls) st σ τ = mj_E 123 70 (some (.ref v) :: ls) (.ref v :: st) σ τ := mj_nx i123_69 rfl
theorem i123_70 : mj_ins 123 70 = some (.getfield 719, 73) := by decide +kernel
theorem e123_70 {ls : mj_L} {st : List Value} {σ : mj_S} {τ : mj_T} : mj_E 123 70 ls (.ref 62 :: st) σ τ = mj_E 123 73 ls (.ref 76 :: st) σ τ := mj_nx i123_70 rfl
theorem i123_73 : mj_ins 123 73 = some (.iload 1, 74) := by decide +kernel
theorem e123_73 {ls : mj_L} {st : List Value} {σ : mj_S} {τ : mj_T} {a0 : Option Value} {v : Int32} : mj_E 123 73 (a0 :: some (.int v) :: ls) st σ τ = mj_E 123 74 (a0 :: some (.int v) :: ls) (.int v :: st) σ τ := mj_nx i123_73 rfl
theorem i123_74 : mj_ins 123 74 = some (.iload 3, 75) := by decide +kernel
theorem e123_74 {ls : mj_L} {st : List Value} {σ : mj_S} {τ : mj_T} {a0 a1 a2 : Option Value} {v : Int32} : mj_E 123 74 (a0 :: a1 :: a2 :: some (.int v) :: ls) st σ τ = mj_E 123 75 (a0 :: a1 :: a2 :: some (.int v) :: ls) (.int v :: st) σ τ := mj_nx i123_74 rfl
theorem i123_75 : mj_ins 123 75 = some (.iastore, 76) := by decide +kernel
theorem e123_75 {ls : mj_L} {st : List Value} {σ : mj_S} {τ : mj_T} {x v : Int32} {k : Nat} : mj_E 123 75 ls (.int v :: .int x :: .ref k :: st) σ τ = if mj_ib (mj_lw k) x = true then mj_E 123 76 ls st (mj_up σ k x.toNatClampNeg v) τ else none := mj_ast i123_75
theorem i123_76 : mj_ins 123 76 = some (.iconst (0), 77) := by decide +kernel
theorem e123_76 {ls : mj_L} {st : List Value} {σ : mj_S} {τ : mj_T} : mj_E 123 76 ls st σ τ = mj_E 123 77 ls (.int (nI 0) :: st) σ τ := mj_nx i123_76 rfl
theorem i123_77 : mj_ins 123 77 = some (.istore 4, 79) := by decide +kernel
theorem e123_77 {ls : mj_L} {st : List Value} {σ : mj_S} {τ : mj_T} {a0 a1 a2 a3 a4 : Option Value} {v : Int32} : mj_E 123 77 (a0 :: a1 :: a2 :: a3 :: a4 :: ls) (.int v :: st) σ τ = mj_E 123 79 (a0 :: a1 :: a2 :: a3 :: some (.int v) :: ls) st σ τ := mj_nx i123_77 rfl
theorem i123_79 : mj_ins 123 79 = some (.iload 4, 81) := by decide +kernel
theorem e123_79 {ls : mj_L} {st : List Value} {σ : mj_S} {τ : mj_T} {a0 a1 a2 a3 : Option Value} {v : Int32} : mj_E 123 79 (a0 :: a1 :: a2 :: a3 :: some (.int v) :: ls) st σ τ = mj_E 123 81 (a0 :: a1 :: a2 :: a3 :: some (.int v) :: ls) (.int v :: st) σ τ := mj_nx i123_79 rfl
theorem i123_81 : mj_ins 123 81 = some (.iconst (160), 84) := by decide +kernel
theorem e123_81 {ls : mj_L} {st : List Value} {σ : mj_S} {τ : mj_T} : mj_E 123 81 ls st σ τ = mj_E 123 84 ls (.int (nI 160) :: st) σ τ := mj_nx i123_81 rfl
theorem i123_84 : mj_ins 123 84 = some (.if_icmp .ge 107, 87) := by decide +kernel
theorem e123_84 {ls : mj_L} {st : List Value} {σ : mj_S} {τ : mj_T} {x y : Int32} : mj_E 123 84 ls (.int y :: .int x :: st) σ τ = if y ≤ x then mj_E 123 107 ls st σ τ else mj_E 123 87 ls st σ τ := (mj_ifi i123_84).trans (mj_cdT rfl)
theorem i123_87 : mj_ins 123 87 = some (.aload 0, 88) := by decide +kernel
theorem e123_87 {ls : mj_L} {st : List Value} {σ : mj_S} {τ : mj_T} {v : Nat} : mj_E 123 87 (some (.ref v) :: ls) st σ τ = mj_E 123 88 (some (.ref v) :: ls) (.ref v :: st) σ τ := mj_nx i123_87 rfl
theorem i123_88 : mj_ins 123 88 = some (.getfield 721, 91) := by decide +kernel
theorem e123_88 {ls : mj_L} {st : List Value} {σ : mj_S} {τ : mj_T} : mj_E 123 88 ls (.ref 62 :: st) σ τ = mj_E 123 91 ls (.ref 78 :: st) σ τ := mj_nx i123_88 rfl
theorem i123_91 : mj_ins 123 91 = some (.iconst (160), 94) := by decide +kernel
theorem e123_91 {ls : mj_L} {st : List Value} {σ : mj_S} {τ : mj_T} : mj_E 123 91 ls st σ τ = mj_E 123 94 ls (.int (nI 160) :: st) σ τ := mj_nx i123_91 rfl
theorem i123_94 : mj_ins 123 94 = some (.iload 1, 95) := by decide +kernel
theorem e123_94 {ls : mj_L} {st : List Value} {σ : mj_S} {τ : mj_T} {a0 : Option Value} {v : Int32} : mj_E 123 94 (a0 :: some (.int v) :: ls) st σ τ = mj_E 123 95 (a0 :: some (.int v) :: ls) (.int v :: st) σ τ := mj_nx i123_94 rfl
theorem i123_95 : mj_ins 123 95 = some (.imul, 96) := by decide +kernel
theorem e123_95 {ls : mj_L} {st : List Value} {σ : mj_S} {τ : mj_T} {x y : Int32} : mj_E 123 95 ls (.int y :: .int x :: st) σ τ = mj_E 123 96 ls (.int (x * y) :: st) σ τ := mj_nx i123_95 rfl
theorem i123_96 : mj_ins 123 96 = some (.iload 4, 98) := by decide +kernel
theorem e123_96 {ls : mj_L} {st : List Value} {σ : mj_S} {τ : mj_T} {a0 a1 a2 a3 : Option Value} {v : Int32} : mj_E 123 96 (a0 :: a1 :: a2 :: a3 :: some (.int v) :: ls) st σ τ = mj_E 123 98 (a0 :: a1 :: a2 :: a3 :: some (.int v) :: ls) (.int v :: st) σ τ := mj_nx i123_96 rfl
theorem i123_98 : mj_ins 123 98 = some (.iadd, 99) := by decide +kernel
theorem e123_98 {ls : mj_L} {st : List Value} {σ : mj_S} {τ : mj_T} {x y : Int32} : mj_E 123 98 ls (.int y :: .int x :: st) σ τ = mj_E 123 99 ls (.int (x + y) :: st) σ τ := mj_nx i123_98 rfl
theorem i123_99 : mj_ins 123 99 = some (.lconst 0, 100) := by decide +kernel
theorem e123_99 {ls : mj_L} {st : List Value} {σ : mj_S} {τ : mj_T} : mj_E 123 99 ls st σ τ = mj_E 123 100 ls (.long 0 :: st) σ τ := mj_nx i123_99 rfl
theorem i123_100 : mj_ins 123 100 = some (.lastore, 101) := by decide +kernel
theorem e123_100 {ls : mj_L} {st : List Value} {σ : mj_S} {τ : mj_T} {x : Int32} {v : Int64} {k : Nat} : mj_E 123 100 ls (.long v :: .int x :: .ref k :: st) σ τ = if mj_ib (mj_ll k) x = true then mj_E 123 101 ls st σ (mj_uq τ k x.toNatClampNeg v) else none := mj_last i123_100
theorem i123_101 : mj_ins 123 101 = some (.iinc 4 (1), 104) := by decide +kernel
theorem e123_101 {ls : mj_L} {st : List Value} {σ : mj_S} {τ : mj_T} {a0 a1 a2 a3 : Option Value} {v : Int32} : mj_E 123 101 (a0 :: a1 :: a2 :: a3 :: some (.int v) :: ls) st σ τ = mj_E 123 104 (a0 :: a1 :: a2 :: a3 :: some (.int (v + nI 1)) :: ls) st σ τ := mj_nx i123_101 rfl
theorem i123_104 : mj_ins 123 104 = some (.goto 79, 107) := by decide +kernel
theorem e123_104 {ls : mj_L} {st : List Value} {σ : mj_S} {τ : mj_T} : mj_E 123 104 ls st σ τ = mj_E 123 79 ls st σ τ := mj_nx i123_104 rfl
theorem i123_107 : mj_ins 123 107 = some (.iconst (1), 108) := by decide +kernel
theorem e123_107 {ls : mj_L} {st : List Value} {σ : mj_S} {τ : mj_T} : mj_E 123 107 ls st σ τ = mj_E 123 108 ls (.int (nI 1) :: st) σ τ := mj_nx i123_107 rfl
theorem i123_108 : mj_ins 123 108 = some (.ireturn, 109) := by decide +kernel
theorem e123_108 {ls : mj_L} {σ : mj_S} {τ : mj_T} {v : Int32} : mj_E 123 108 ls [.int v] σ τ = some (some (.int v), σ, τ) := mj_irt i123_108 rfl
theorem c124 {σ : mj_S} {τ : mj_T} {r : Nat} {x0 : Int32} {x1 : Int32} {x2 : Int64} : mj_C 124 [.ref r, .int x0, .int x1, .long x2] σ τ = mj_E 124 0 [some (.ref r), some (.int x0), some (.int x1), some (.long x2), none] [] σ τ := rfl
theorem i124_0 : mj_ins 124 0 = some (.aload 0, 1) := by decide +kernel
theorem e124_0 {ls : mj_L} {st : List Value} {σ : mj_S} {τ : mj_T} {v : Nat} : mj_E 124 0 (some (.ref v) :: ls) st σ τ = mj_E 124 1 (some (.ref v) :: ls) (.ref v :: st) σ τ := mj_nx i124_0 rfl
theorem i124_1 : mj_ins 124 1 = some (.iload 1, 2) := by decide +kernel
theorem e124_1 {ls : mj_L} {st : List Value} {σ : mj_S} {τ : mj_T} {a0 : Option Value} {v : Int32} : mj_E 124 1 (a0 :: some (.int v) :: ls) st σ τ = mj_E 124 2 (a0 :: some (.int v) :: ls) (.int v :: st) σ τ := mj_nx i124_1 rfl
theorem i124_2 : mj_ins 124 2 = some (.invokevirtual 119, 5) := by decide +kernel
theorem e124_2 {ls : mj_L} {σ : mj_S} {τ : mj_T} {r : Nat} {x0 : Int32} : mj_E 124 2 ls [.int x0, .ref r] σ τ = if mj_rcv r 7 = true then mj_bd (mj_C 119 [.ref r, .int x0] σ τ) (mj_K 124 5 ls []) else none := mj_clV (as := [.int x0]) (r := []) i124_2 (by decide +kernel : mj_vk 124 119 1 0 2 false = true) (by decide +kernel)
theorem i124_5 : mj_ins 124 5 = some (.ifCond .ne 14, 8) := by decide +kernel
theorem e124_5 {ls : mj_L} {st : List Value} {σ : mj_S} {τ : mj_T} {x : Int32} : mj_E 124 5 ls (.int x :: st) σ τ = if x = 0 then mj_E 124 8 ls st σ τ else mj_E 124 14 ls st σ τ := (mj_ifc i124_5).trans (mj_cdF rfl)
theorem i124_8 : mj_ins 124 8 = some (.aload 0, 9) := by decide +kernel
theorem e124_8 {ls : mj_L} {st : List Value} {σ : mj_S} {τ : mj_T} {v : Nat} : mj_E 124 8 (some (.ref v) :: ls) st σ τ = mj_E 124 9 (some (.ref v) :: ls) (.ref v :: st) σ τ := mj_nx i124_8 rfl
theorem i124_9 : mj_ins 124 9 = some (.iconst (-1), 10) := by decide +kernel
theorem e124_9 {ls : mj_L} {st : List Value} {σ : mj_S} {τ : mj_T} : mj_E 124 9 ls st σ τ = mj_E 124 10 ls (.int ((-1)) :: st) σ τ := mj_nx i124_9 rfl
theorem i124_10 : mj_ins 124 10 = some (.invokevirtual 117, 13) := by decide +kernel
theorem e124_10 {ls : mj_L} {σ : mj_S} {τ : mj_T} {r : Nat} {x0 : Int32} : mj_E 124 10 ls [.int x0, .ref r] σ τ = if mj_rcv r 7 = true then mj_bd (mj_C 117 [.ref r, .int x0] σ τ) (mj_K 124 13 ls []) else none := mj_clV (as := [.int x0]) (r := []) i124_10 (by decide +kernel : mj_vk 124 117 1 0 2 false = true) (by decide +kernel)
theorem i124_13 : mj_ins 124 13 = some (.ireturn, 14) := by decide +kernel
theorem e124_13 {ls : mj_L} {σ : mj_S} {τ : mj_T} {v : Int32} : mj_E 124 13 ls [.int v] σ τ = some (some (.int v), σ, τ) := mj_irt i124_13 rfl
theorem i124_14 : mj_ins 124 14 = some (.aload 0, 15) := by decide +kernel
theorem e124_14 {ls : mj_L} {st : List Value} {σ : mj_S} {τ : mj_T} {v : Nat} : mj_E 124 14 (some (.ref v) :: ls) st σ τ = mj_E 124 15 (some (.ref v) :: ls) (.ref v :: st) σ τ := mj_nx i124_14 rfl
theorem i124_15 : mj_ins 124 15 = some (.getfield 717, 18) := by decide +kernel
theorem e124_15 {ls : mj_L} {st : List Value} {σ : mj_S} {τ : mj_T} : mj_E 124 15 ls (.ref 62 :: st) σ τ = mj_E 124 18 ls (.ref 74 :: st) σ τ := mj_nx i124_15 rfl
theorem i124_18 : mj_ins 124 18 = some (.iload 1, 19) := by decide +kernel
theorem e124_18 {ls : mj_L} {st : List Value} {σ : mj_S} {τ : mj_T} {a0 : Option Value} {v : Int32} : mj_E 124 18 (a0 :: some (.int v) :: ls) st σ τ = mj_E 124 19 (a0 :: some (.int v) :: ls) (.int v :: st) σ τ := mj_nx i124_18 rfl
theorem i124_19 : mj_ins 124 19 = some (.iaload, 20) := by decide +kernel
theorem e124_19 {ls : mj_L} {st : List Value} {σ : mj_S} {τ : mj_T} {x : Int32} {k : Nat} : mj_E 124 19 ls (.int x :: .ref k :: st) σ τ = if mj_ib (mj_li σ k) x = true then mj_E 124 20 ls (.int (σ k x.toNatClampNeg) :: st) σ τ else none := mj_ald i124_19
theorem i124_20 : mj_ins 124 20 = some (.iconst (2), 21) := by decide +kernel
theorem e124_20 {ls : mj_L} {st : List Value} {σ : mj_S} {τ : mj_T} : mj_E 124 20 ls st σ τ = mj_E 124 21 ls (.int (nI 2) :: st) σ τ := mj_nx i124_20 rfl
theorem i124_21 : mj_ins 124 21 = some (.if_icmp .ne 31, 24) := by decide +kernel
theorem e124_21 {ls : mj_L} {st : List Value} {σ : mj_S} {τ : mj_T} {x y : Int32} : mj_E 124 21 ls (.int y :: .int x :: st) σ τ = if x = y then mj_E 124 24 ls st σ τ else mj_E 124 31 ls st σ τ := (mj_ifi i124_21).trans (mj_cdF rfl)
theorem i124_24 : mj_ins 124 24 = some (.aload 0, 25) := by decide +kernel
theorem e124_24 {ls : mj_L} {st : List Value} {σ : mj_S} {τ : mj_T} {v : Nat} : mj_E 124 24 (some (.ref v) :: ls) st σ τ = mj_E 124 25 (some (.ref v) :: ls) (.ref v :: st) σ τ := mj_nx i124_24 rfl
theorem i124_25 : mj_ins 124 25 = some (.iconst (-2), 27) := by decide +kernel
theorem e124_25 {ls : mj_L} {st : List Value} {σ : mj_S} {τ : mj_T} : mj_E 124 25 ls st σ τ = mj_E 124 27 ls (.int ((-2)) :: st) σ τ := mj_nx i124_25 rfl
theorem i124_27 : mj_ins 124 27 = some (.invokevirtual 117, 30) := by decide +kernel
theorem e124_27 {ls : mj_L} {σ : mj_S} {τ : mj_T} {r : Nat} {x0 : Int32} : mj_E 124 27 ls [.int x0, .ref r] σ τ = if mj_rcv r 7 = true then mj_bd (mj_C 117 [.ref r, .int x0] σ τ) (mj_K 124 30 ls []) else none := mj_clV (as := [.int x0]) (r := []) i124_27 (by decide +kernel : mj_vk 124 117 1 0 2 false = true) (by decide +kernel)
theorem i124_30 : mj_ins 124 30 = some (.ireturn, 31) := by decide +kernel
theorem e124_30 {ls : mj_L} {σ : mj_S} {τ : mj_T} {v : Int32} : mj_E 124 30 ls [.int v] σ τ = some (some (.int v), σ, τ) := mj_irt i124_30 rfl
theorem i124_31 : mj_ins 124 31 = some (.aload 0, 32) := by decide +kernel
theorem e124_31 {ls : mj_L} {st : List Value} {σ : mj_S} {τ : mj_T} {v : Nat} : mj_E 124 31 (some (.ref v) :: ls) st σ τ = mj_E 124 32 (some (.ref v) :: ls) (.ref v :: st) σ τ := mj_nx i124_31 rfl
theorem i124_32 : mj_ins 124 32 = some (.getfield 717, 35) := by decide +kernel
theorem e124_32 {ls : mj_L} {st : List Value} {σ : mj_S} {τ : mj_T} : mj_E 124 32 ls (.ref 62 :: st) σ τ = mj_E 124 35 ls (.ref 74 :: st) σ τ := mj_nx i124_32 rfl
theorem i124_35 : mj_ins 124 35 = some (.iload 1, 36) := by decide +kernel
theorem e124_35 {ls : mj_L} {st : List Value} {σ : mj_S} {τ : mj_T} {a0 : Option Value} {v : Int32} : mj_E 124 35 (a0 :: some (.int v) :: ls) st σ τ = mj_E 124 36 (a0 :: some (.int v) :: ls) (.int v :: st) σ τ := mj_nx i124_35 rfl
theorem i124_36 : mj_ins 124 36 = some (.iaload, 37) := by decide +kernel
theorem e124_36 {ls : mj_L} {st : List Value} {σ : mj_S} {τ : mj_T} {x : Int32} {k : Nat} : mj_E 124 36 ls (.int x :: .ref k :: st) σ τ = if mj_ib (mj_li σ k) x = true then mj_E 124 37 ls (.int (σ k x.toNatClampNeg) :: st) σ τ else none := mj_ald i124_36
theorem i124_37 : mj_ins 124 37 = some (.ifCond .ne 47, 40) := by decide +kernel
theorem e124_37 {ls : mj_L} {st : List Value} {σ : mj_S} {τ : mj_T} {x : Int32} : mj_E 124 37 ls (.int x :: st) σ τ = if x = 0 then mj_E 124 40 ls st σ τ else mj_E 124 47 ls st σ τ := (mj_ifc i124_37).trans (mj_cdF rfl)
theorem i124_40 : mj_ins 124 40 = some (.aload 0, 41) := by decide +kernel
theorem e124_40 {ls : mj_L} {st : List Value} {σ : mj_S} {τ : mj_T} {v : Nat} : mj_E 124 40 (some (.ref v) :: ls) st σ τ = mj_E 124 41 (some (.ref v) :: ls) (.ref v :: st) σ τ := mj_nx i124_40 rfl
theorem i124_41 : mj_ins 124 41 = some (.iconst (-3), 43) := by decide +kernel
theorem e124_41 {ls : mj_L} {st : List Value} {σ : mj_S} {τ : mj_T} : mj_E 124 41 ls st σ τ = mj_E 124 43 ls (.int ((-3)) :: st) σ τ := mj_nx i124_41 rfl
theorem i124_43 : mj_ins 124 43 = some (.invokevirtual 117, 46) := by decide +kernel
theorem e124_43 {ls : mj_L} {σ : mj_S} {τ : mj_T} {r : Nat} {x0 : Int32} : mj_E 124 43 ls [.int x0, .ref r] σ τ = if mj_rcv r 7 = true then mj_bd (mj_C 117 [.ref r, .int x0] σ τ) (mj_K 124 46 ls []) else none := mj_clV (as := [.int x0]) (r := []) i124_43 (by decide +kernel : mj_vk 124 117 1 0 2 false = true) (by decide +kernel)
theorem i124_46 : mj_ins 124 46 = some (.ireturn, 47) := by decide +kernel
theorem e124_46 {ls : mj_L} {σ : mj_S} {τ : mj_T} {v : Int32} : mj_E 124 46 ls [.int v] σ τ = some (some (.int v), σ, τ) := mj_irt i124_46 rfl
theorem i124_47 : mj_ins 124 47 = some (.iload 2, 48) := by decide +kernel
theorem e124_47 {ls : mj_L} {st : List Value} {σ : mj_S} {τ : mj_T} {a0 a1 : Option Value} {v : Int32} : mj_E 124 47 (a0 :: a1 :: some (.int v) :: ls) st σ τ = mj_E 124 48 (a0 :: a1 :: some (.int v) :: ls) (.int v :: st) σ τ := mj_nx i124_47 rfl
theorem i124_48 : mj_ins 124 48 = some (.ifCond .lt 61, 51) := by decide +kernel
theorem e124_48 {ls : mj_L} {st : List Value} {σ : mj_S} {τ : mj_T} {x : Int32} : mj_E 124 48 ls (.int x :: st) σ τ = if x < 0 then mj_E 124 61 ls st σ τ else mj_E 124 51 ls st σ τ := (mj_ifc i124_48).trans (mj_cdT rfl)
theorem i124_51 : mj_ins 124 51 = some (.iload 2, 52) := by decide +kernel
theorem e124_51 {ls : mj_L} {st : List Value} {σ : mj_S} {τ : mj_T} {a0 a1 : Option Value} {v : Int32} : mj_E 124 51 (a0 :: a1 :: some (.int v) :: ls) st σ τ = mj_E 124 52 (a0 :: a1 :: some (.int v) :: ls) (.int v :: st) σ τ := mj_nx i124_51 rfl
theorem i124_52 : mj_ins 124 52 = some (.aload 0, 53) := by decide +kernel
theorem e124_52 {ls : mj_L} {st : List Value} {σ : mj_S} {τ : mj_T} {v : Nat} : mj_E 124 52 (some (.ref v) :: ls) st σ τ = mj_E 124 53 (some (.ref v) :: ls) (.ref v :: st) σ τ := mj_nx i124_52 rfl
theorem i124_53 : mj_ins 124 53 = some (.getfield 719, 56) := by decide +kernel
theorem e124_53 {ls : mj_L} {st : List Value} {σ : mj_S} {τ : mj_T} : mj_E 124 53 ls (.ref 62 :: st) σ τ = mj_E 124 56 ls (.ref 76 :: st) σ τ := mj_nx i124_53 rfl
theorem i124_56 : mj_ins 124 56 = some (.iload 1, 57) := by decide +kernel
theorem e124_56 {ls : mj_L} {st : List Value} {σ : mj_S} {τ : mj_T} {a0 : Option Value} {v : Int32} : mj_E 124 56 (a0 :: some (.int v) :: ls) st σ τ = mj_E 124 57 (a0 :: some (.int v) :: ls) (.int v :: st) σ τ := mj_nx i124_56 rfl
theorem i124_57 : mj_ins 124 57 = some (.iaload, 58) := by decide +kernel
theorem e124_57 {ls : mj_L} {st : List Value} {σ : mj_S} {τ : mj_T} {x : Int32} {k : Nat} : mj_E 124 57 ls (.int x :: .ref k :: st) σ τ = if mj_ib (mj_li σ k) x = true then mj_E 124 58 ls (.int (σ k x.toNatClampNeg) :: st) σ τ else none := mj_ald i124_57
theorem i124_58 : mj_ins 124 58 = some (.if_icmp .lt 68, 61) := by decide +kernel
theorem e124_58 {ls : mj_L} {st : List Value} {σ : mj_S} {τ : mj_T} {x y : Int32} : mj_E 124 58 ls (.int y :: .int x :: st) σ τ = if x < y then mj_E 124 68 ls st σ τ else mj_E 124 61 ls st σ τ := (mj_ifi i124_58).trans (mj_cdT rfl)
theorem i124_61 : mj_ins 124 61 = some (.aload 0, 62) := by decide +kernel
theorem e124_61 {ls : mj_L} {st : List Value} {σ : mj_S} {τ : mj_T} {v : Nat} : mj_E 124 61 (some (.ref v) :: ls) st σ τ = mj_E 124 62 (some (.ref v) :: ls) (.ref v :: st) σ τ := mj_nx i124_61 rfl
theorem i124_62 : mj_ins 124 62 = some (.iconst (-5), 64) := by decide +kernel
theorem e124_62 {ls : mj_L} {st : List Value} {σ : mj_S} {τ : mj_T} : mj_E 124 62 ls st σ τ = mj_E 124 64 ls (.int ((-5)) :: st) σ τ := mj_nx i124_62 rfl
theorem i124_64 : mj_ins 124 64 = some (.invokevirtual 117, 67) := by decide +kernel
theorem e124_64 {ls : mj_L} {σ : mj_S} {τ : mj_T} {r : Nat} {x0 : Int32} : mj_E 124 64 ls [.int x0, .ref r] σ τ = if mj_rcv r 7 = true then mj_bd (mj_C 117 [.ref r, .int x0] σ τ) (mj_K 124 67 ls []) else none := mj_clV (as := [.int x0]) (r := []) i124_64 (by decide +kernel : mj_vk 124 117 1 0 2 false = true) (by decide +kernel)
theorem i124_67 : mj_ins 124 67 = some (.ireturn, 68) := by decide +kernel
theorem e124_67 {ls : mj_L} {σ : mj_S} {τ : mj_T} {v : Int32} : mj_E 124 67 ls [.int v] σ τ = some (some (.int v), σ, τ) := mj_irt i124_67 rfl
theorem i124_68 : mj_ins 124 68 = some (.aload 0, 69) := by decide +kernel
theorem e124_68 {ls : mj_L} {st : List Value} {σ : mj_S} {τ : mj_T} {v : Nat} : mj_E 124 68 (some (.ref v) :: ls) st σ τ = mj_E 124 69 (some (.ref v) :: ls) (.ref v :: st) σ τ := mj_nx i124_68 rfl
theorem i124_69 : mj_ins 124 69 = some (.getfield 721, 72) := by decide +kernel
theorem e124_69 {ls : mj_L} {st : List Value} {σ : mj_S} {τ : mj_T} : mj_E 124 69 ls (.ref 62 :: st) σ τ = mj_E 124 72 ls (.ref 78 :: st) σ τ := mj_nx i124_69 rfl
theorem i124_72 : mj_ins 124 72 = some (.iconst (160), 75) := by decide +kernel
theorem e124_72 {ls : mj_L} {st : List Value} {σ : mj_S} {τ : mj_T} : mj_E 124 72 ls st σ τ = mj_E 124 75 ls (.int (nI 160) :: st) σ τ := mj_nx i124_72 rfl
theorem i124_75 : mj_ins 124 75 = some (.iload 1, 76) := by decide +kernel
theorem e124_75 {ls : mj_L} {st : List Value} {σ : mj_S} {τ : mj_T} {a0 : Option Value} {v : Int32} : mj_E 124 75 (a0 :: some (.int v) :: ls) st σ τ = mj_E 124 76 (a0 :: some (.int v) :: ls) (.int v :: st) σ τ := mj_nx i124_75 rfl
theorem i124_76 : mj_ins 124 76 = some (.imul, 77) := by decide +kernel
theorem e124_76 {ls : mj_L} {st : List Value} {σ : mj_S} {τ : mj_T} {x y : Int32} : mj_E 124 76 ls (.int y :: .int x :: st) σ τ = mj_E 124 77 ls (.int (x * y) :: st) σ τ := mj_nx i124_76 rfl
theorem i124_77 : mj_ins 124 77 = some (.iload 2, 78) := by decide +kernel
theorem e124_77 {ls : mj_L} {st : List Value} {σ : mj_S} {τ : mj_T} {a0 a1 : Option Value} {v : Int32} : mj_E 124 77 (a0 :: a1 :: some (.int v) :: ls) st σ τ = mj_E 124 78 (a0 :: a1 :: some (.int v) :: ls) (.int v :: st) σ τ := mj_nx i124_77 rfl
theorem i124_78 : mj_ins 124 78 = some (.iadd, 79) := by decide +kernel
theorem e124_78 {ls : mj_L} {st : List Value} {σ : mj_S} {τ : mj_T} {x y : Int32} : mj_E 124 78 ls (.int y :: .int x :: st) σ τ = mj_E 124 79 ls (.int (x + y) :: st) σ τ := mj_nx i124_78 rfl
theorem i124_79 : mj_ins 124 79 = some (.aload 0, 80) := by decide +kernel
theorem e124_79 {ls : mj_L} {st : List Value} {σ : mj_S} {τ : mj_T} {v : Nat} : mj_E 124 79 (some (.ref v) :: ls) st σ τ = mj_E 124 80 (some (.ref v) :: ls) (.ref v :: st) σ τ := mj_nx i124_79 rfl
theorem i124_80 : mj_ins 124 80 = some (.getfield 718, 83) := by decide +kernel
theorem e124_80 {ls : mj_L} {st : List Value} {σ : mj_S} {τ : mj_T} : mj_E 124 80 ls (.ref 62 :: st) σ τ = mj_E 124 83 ls (.ref 75 :: st) σ τ := mj_nx i124_80 rfl
theorem i124_83 : mj_ins 124 83 = some (.iload 1, 84) := by decide +kernel
theorem e124_83 {ls : mj_L} {st : List Value} {σ : mj_S} {τ : mj_T} {a0 : Option Value} {v : Int32} : mj_E 124 83 (a0 :: some (.int v) :: ls) st σ τ = mj_E 124 84 (a0 :: some (.int v) :: ls) (.int v :: st) σ τ := mj_nx i124_83 rfl
theorem i124_84 : mj_ins 124 84 = some (.iaload, 85) := by decide +kernel
theorem e124_84 {ls : mj_L} {st : List Value} {σ : mj_S} {τ : mj_T} {x : Int32} {k : Nat} : mj_E 124 84 ls (.int x :: .ref k :: st) σ τ = if mj_ib (mj_li σ k) x = true then mj_E 124 85 ls (.int (σ k x.toNatClampNeg) :: st) σ τ else none := mj_ald i124_84
theorem i124_85 : mj_ins 124 85 = some (.ifCond .ne 95, 88) := by decide +kernel
theorem e124_85 {ls : mj_L} {st : List Value} {σ : mj_S} {τ : mj_T} {x : Int32} : mj_E 124 85 ls (.int x :: st) σ τ = if x = 0 then mj_E 124 88 ls st σ τ else mj_E 124 95 ls st σ τ := (mj_ifc i124_85).trans (mj_cdF rfl)
theorem i124_88 : mj_ins 124 88 = some (.lload 3, 89) := by decide +kernel
theorem e124_88 {ls : mj_L} {st : List Value} {σ : mj_S} {τ : mj_T} {a0 a1 a2 : Option Value} {v : Int64} : mj_E 124 88 (a0 :: a1 :: a2 :: some (.long v) :: ls) st σ τ = mj_E 124 89 (a0 :: a1 :: a2 :: some (.long v) :: ls) (.long v :: st) σ τ := mj_nx i124_88 rfl
theorem i124_89 : mj_ins 124 89 = some (.l2i, 90) := by decide +kernel
theorem e124_89 {ls : mj_L} {st : List Value} {σ : mj_S} {τ : mj_T} {x : Int64} : mj_E 124 89 ls (.long x :: st) σ τ = mj_E 124 90 ls (.int x.toInt32 :: st) σ τ := mj_nx i124_89 rfl
theorem i124_90 : mj_ins 124 90 = some (.i2b, 91) := by decide +kernel
theorem e124_90 {ls : mj_L} {st : List Value} {σ : mj_S} {τ : mj_T} {x : Int32} : mj_E 124 90 ls (.int x :: st) σ τ = mj_E 124 91 ls (.int x.toInt8.toInt32 :: st) σ τ := mj_nx i124_90 rfl
theorem i124_91 : mj_ins 124 91 = some (.i2l, 92) := by decide +kernel
theorem e124_91 {ls : mj_L} {st : List Value} {σ : mj_S} {τ : mj_T} {x : Int32} : mj_E 124 91 ls (.int x :: st) σ τ = mj_E 124 92 ls (.long x.toInt64 :: st) σ τ := mj_nx i124_91 rfl
theorem i124_92 : mj_ins 124 92 = some (.goto 129, 95) := by decide +kernel
theorem e124_92 {ls : mj_L} {st : List Value} {σ : mj_S} {τ : mj_T} : mj_E 124 92 ls st σ τ = mj_E 124 129 ls st σ τ := mj_nx i124_92 rfl
theorem i124_95 : mj_ins 124 95 = some (.aload 0, 96) := by decide +kernel
theorem e124_95 {ls : mj_L} {st : List Value} {σ : mj_S} {τ : mj_T} {v : Nat} : mj_E 124 95 (some (.ref v) :: ls) st σ τ = mj_E 124 96 (some (.ref v) :: ls) (.ref v :: st) σ τ := mj_nx i124_95 rfl
theorem i124_96 : mj_ins 124 96 = some (.getfield 718, 99) := by decide +kernel
theorem e124_96 {ls : mj_L} {st : List Value} {σ : mj_S} {τ : mj_T} : mj_E 124 96 ls (.ref 62 :: st) σ τ = mj_E 124 99 ls (.ref 75 :: st) σ τ := mj_nx i124_96 rfl
theorem i124_99 : mj_ins 124 99 = some (.iload 1, 100) := by decide +kernel
theorem e124_99 {ls : mj_L} {st : List Value} {σ : mj_S} {τ : mj_T} {a0 : Option Value} {v : Int32} : mj_E 124 99 (a0 :: some (.int v) :: ls) st σ τ = mj_E 124 100 (a0 :: some (.int v) :: ls) (.int v :: st) σ τ := mj_nx i124_99 rfl
theorem i124_100 : mj_ins 124 100 = some (.iaload, 101) := by decide +kernel
theorem e124_100 {ls : mj_L} {st : List Value} {σ : mj_S} {τ : mj_T} {x : Int32} {k : Nat} : mj_E 124 100 ls (.int x :: .ref k :: st) σ τ = if mj_ib (mj_li σ k) x = true then mj_E 124 101 ls (.int (σ k x.toNatClampNeg) :: st) σ τ else none := mj_ald i124_100
theorem i124_101 : mj_ins 124 101 = some (.iconst (1), 102) := by decide +kernel
theorem e124_101 {ls : mj_L} {st : List Value} {σ : mj_S} {τ : mj_T} : mj_E 124 101 ls st σ τ = mj_E 124 102 ls (.int (nI 1) :: st) σ τ := mj_nx i124_101 rfl
theorem i124_102 : mj_ins 124 102 = some (.if_icmp .ne 112, 105) := by decide +kernel
theorem e124_102 {ls : mj_L} {st : List Value} {σ : mj_S} {τ : mj_T} {x y : Int32} : mj_E 124 102 ls (.int y :: .int x :: st) σ τ = if x = y then mj_E 124 105 ls st σ τ else mj_E 124 112 ls st σ τ := (mj_ifi i124_102).trans (mj_cdF rfl)
theorem i124_105 : mj_ins 124 105 = some (.lload 3, 106) := by decide +kernel
theorem e124_105 {ls : mj_L} {st : List Value} {σ : mj_S} {τ : mj_T} {a0 a1 a2 : Option Value} {v : Int64} : mj_E 124 105 (a0 :: a1 :: a2 :: some (.long v) :: ls) st σ τ = mj_E 124 106 (a0 :: a1 :: a2 :: some (.long v) :: ls) (.long v :: st) σ τ := mj_nx i124_105 rfl
theorem i124_106 : mj_ins 124 106 = some (.l2i, 107) := by decide +kernel
theorem e124_106 {ls : mj_L} {st : List Value} {σ : mj_S} {τ : mj_T} {x : Int64} : mj_E 124 106 ls (.long x :: st) σ τ = mj_E 124 107 ls (.int x.toInt32 :: st) σ τ := mj_nx i124_106 rfl
theorem i124_107 : mj_ins 124 107 = some (.i2s, 108) := by decide +kernel
theorem e124_107 {ls : mj_L} {st : List Value} {σ : mj_S} {τ : mj_T} {x : Int32} : mj_E 124 107 ls (.int x :: st) σ τ = mj_E 124 108 ls (.int x.toInt16.toInt32 :: st) σ τ := mj_nx i124_107 rfl
theorem i124_108 : mj_ins 124 108 = some (.i2l, 109) := by decide +kernel
theorem e124_108 {ls : mj_L} {st : List Value} {σ : mj_S} {τ : mj_T} {x : Int32} : mj_E 124 108 ls (.int x :: st) σ τ = mj_E 124 109 ls (.long x.toInt64 :: st) σ τ := mj_nx i124_108 rfl
theorem i124_109 : mj_ins 124 109 = some (.goto 129, 112) := by decide +kernel
theorem e124_109 {ls : mj_L} {st : List Value} {σ : mj_S} {τ : mj_T} : mj_E 124 109 ls st σ τ = mj_E 124 129 ls st σ τ := mj_nx i124_109 rfl
theorem i124_112 : mj_ins 124 112 = some (.aload 0, 113) := by decide +kernel
theorem e124_112 {ls : mj_L} {st : List Value} {σ : mj_S} {τ : mj_T} {v : Nat} : mj_E 124 112 (some (.ref v) :: ls) st σ τ = mj_E 124 113 (some (.ref v) :: ls) (.ref v :: st) σ τ := mj_nx i124_112 rfl
theorem i124_113 : mj_ins 124 113 = some (.getfield 718, 116) := by decide +kernel
theorem e124_113 {ls : mj_L} {st : List Value} {σ : mj_S} {τ : mj_T} : mj_E 124 113 ls (.ref 62 :: st) σ τ = mj_E 124 116 ls (.ref 75 :: st) σ τ := mj_nx i124_113 rfl
theorem i124_116 : mj_ins 124 116 = some (.iload 1, 117) := by decide +kernel
theorem e124_116 {ls : mj_L} {st : List Value} {σ : mj_S} {τ : mj_T} {a0 : Option Value} {v : Int32} : mj_E 124 116 (a0 :: some (.int v) :: ls) st σ τ = mj_E 124 117 (a0 :: some (.int v) :: ls) (.int v :: st) σ τ := mj_nx i124_116 rfl
theorem i124_117 : mj_ins 124 117 = some (.iaload, 118) := by decide +kernel
theorem e124_117 {ls : mj_L} {st : List Value} {σ : mj_S} {τ : mj_T} {x : Int32} {k : Nat} : mj_E 124 117 ls (.int x :: .ref k :: st) σ τ = if mj_ib (mj_li σ k) x = true then mj_E 124 118 ls (.int (σ k x.toNatClampNeg) :: st) σ τ else none := mj_ald i124_117
theorem i124_118 : mj_ins 124 118 = some (.iconst (2), 119) := by decide +kernel
theorem e124_118 {ls : mj_L} {st : List Value} {σ : mj_S} {τ : mj_T} : mj_E 124 118 ls st σ τ = mj_E 124 119 ls (.int (nI 2) :: st) σ τ := mj_nx i124_118 rfl
theorem i124_119 : mj_ins 124 119 = some (.if_icmp .ne 128, 122) := by decide +kernel
theorem e124_119 {ls : mj_L} {st : List Value} {σ : mj_S} {τ : mj_T} {x y : Int32} : mj_E 124 119 ls (.int y :: .int x :: st) σ τ = if x = y then mj_E 124 122 ls st σ τ else mj_E 124 128 ls st σ τ := (mj_ifi i124_119).trans (mj_cdF rfl)
theorem i124_122 : mj_ins 124 122 = some (.lload 3, 123) := by decide +kernel
theorem e124_122 {ls : mj_L} {st : List Value} {σ : mj_S} {τ : mj_T} {a0 a1 a2 : Option Value} {v : Int64} : mj_E 124 122 (a0 :: a1 :: a2 :: some (.long v) :: ls) st σ τ = mj_E 124 123 (a0 :: a1 :: a2 :: some (.long v) :: ls) (.long v :: st) σ τ := mj_nx i124_122 rfl
theorem i124_123 : mj_ins 124 123 = some (.l2i, 124) := by decide +kernel
theorem e124_123 {ls : mj_L} {st : List Value} {σ : mj_S} {τ : mj_T} {x : Int64} : mj_E 124 123 ls (.long x :: st) σ τ = mj_E 124 124 ls (.int x.toInt32 :: st) σ τ := mj_nx i124_123 rfl
theorem i124_124 : mj_ins 124 124 = some (.i2l, 125) := by decide +kernel
theorem e124_124 {ls : mj_L} {st : List Value} {σ : mj_S} {τ : mj_T} {x : Int32} : mj_E 124 124 ls (.int x :: st) σ τ = mj_E 124 125 ls (.long x.toInt64 :: st) σ τ := mj_nx i124_124 rfl
theorem i124_125 : mj_ins 124 125 = some (.goto 129, 128) := by decide +kernel
theorem e124_125 {ls : mj_L} {st : List Value} {σ : mj_S} {τ : mj_T} : mj_E 124 125 ls st σ τ = mj_E 124 129 ls st σ τ := mj_nx i124_125 rfl
theorem i124_128 : mj_ins 124 128 = some (.lload 3, 129) := by decide +kernel
theorem e124_128 {ls : mj_L} {st : List Value} {σ : mj_S} {τ : mj_T} {a0 a1 a2 : Option Value} {v : Int64} : mj_E 124 128 (a0 :: a1 :: a2 :: some (.long v) :: ls) st σ τ = mj_E 124 129 (a0 :: a1 :: a2 :: some (.long v) :: ls) (.long v :: st) σ τ := mj_nx i124_128 rfl
theorem i124_129 : mj_ins 124 129 = some (.lastore, 130) := by decide +kernel
theorem e124_129 {ls : mj_L} {st : List Value} {σ : mj_S} {τ : mj_T} {x : Int32} {v : Int64} {k : Nat} : mj_E 124 129 ls (.long v :: .int x :: .ref k :: st) σ τ = if mj_ib (mj_ll k) x = true then mj_E 124 130 ls st σ (mj_uq τ k x.toNatClampNeg v) else none := mj_last i124_129
theorem i124_130 : mj_ins 124 130 = some (.iconst (1), 131) := by decide +kernel
theorem e124_130 {ls : mj_L} {st : List Value} {σ : mj_S} {τ : mj_T} : mj_E 124 130 ls st σ τ = mj_E 124 131 ls (.int (nI 1) :: st) σ τ := mj_nx i124_130 rfl
theorem i124_131 : mj_ins 124 131 = some (.ireturn, 132) := by decide +kernel
theorem e124_131 {ls : mj_L} {σ : mj_S} {τ : mj_T} {v : Int32} : mj_E 124 131 ls [.int v] σ τ = some (some (.int v), σ, τ) := mj_irt i124_131 rfl
theorem c125 {σ : mj_S} {τ : mj_T} {r : Nat} {x0 : Int32} {x1 : Int32} {x2 : Int32} {x3 : Int32} {x4 : Int32} : mj_C 125 [.ref r, .int x0, .int x1, .int x2, .int x3, .int x4] σ τ = mj_E 125 0 [some (.ref r), some (.int x0), some (.int x1), some (.int x2), some (.int x3), some (.int x4), none] [] σ τ := rfl
theorem i125_0 : mj_ins 125 0 = some (.aload 0, 1) := by decide +kernel
theorem e125_0 {ls : mj_L} {st : List Value} {σ : mj_S} {τ : mj_T} {v : Nat} : mj_E 125 0 (some (.ref v) :: ls) st σ τ = mj_E 125 1 (some (.ref v) :: ls) (.ref v :: st) σ τ := mj_nx i125_0 rfl
theorem i125_1 : mj_ins 125 1 = some (.iload 1, 2) := by decide +kernel
theorem e125_1 {ls : mj_L} {st : List Value} {σ : mj_S} {τ : mj_T} {a0 : Option Value} {v : Int32} : mj_E 125 1 (a0 :: some (.int v) :: ls) st σ τ = mj_E 125 2 (a0 :: some (.int v) :: ls) (.int v :: st) σ τ := mj_nx i125_1 rfl
theorem i125_2 : mj_ins 125 2 = some (.invokevirtual 119, 5) := by decide +kernel
theorem e125_2 {ls : mj_L} {σ : mj_S} {τ : mj_T} {r : Nat} {x0 : Int32} : mj_E 125 2 ls [.int x0, .ref r] σ τ = if mj_rcv r 7 = true then mj_bd (mj_C 119 [.ref r, .int x0] σ τ) (mj_K 125 5 ls []) else none := mj_clV (as := [.int x0]) (r := []) i125_2 (by decide +kernel : mj_vk 125 119 1 0 2 false = true) (by decide +kernel)
theorem i125_5 : mj_ins 125 5 = some (.ifCond .eq 16, 8) := by decide +kernel
theorem e125_5 {ls : mj_L} {st : List Value} {σ : mj_S} {τ : mj_T} {x : Int32} : mj_E 125 5 ls (.int x :: st) σ τ = if x = 0 then mj_E 125 16 ls st σ τ else mj_E 125 8 ls st σ τ := (mj_ifc i125_5).trans (mj_cdT rfl)
theorem i125_8 : mj_ins 125 8 = some (.aload 0, 9) := by decide +kernel
theorem e125_8 {ls : mj_L} {st : List Value} {σ : mj_S} {τ : mj_T} {v : Nat} : mj_E 125 8 (some (.ref v) :: ls) st σ τ = mj_E 125 9 (some (.ref v) :: ls) (.ref v :: st) σ τ := mj_nx i125_8 rfl
theorem i125_9 : mj_ins 125 9 = some (.iload 2, 10) := by decide +kernel
theorem e125_9 {ls : mj_L} {st : List Value} {σ : mj_S} {τ : mj_T} {a0 a1 : Option Value} {v : Int32} : mj_E 125 9 (a0 :: a1 :: some (.int v) :: ls) st σ τ = mj_E 125 10 (a0 :: a1 :: some (.int v) :: ls) (.int v :: st) σ τ := mj_nx i125_9 rfl
theorem i125_10 : mj_ins 125 10 = some (.invokevirtual 119, 13) := by decide +kernel
theorem e125_10 {ls : mj_L} {σ : mj_S} {τ : mj_T} {r : Nat} {x0 : Int32} : mj_E 125 10 ls [.int x0, .ref r] σ τ = if mj_rcv r 7 = true then mj_bd (mj_C 119 [.ref r, .int x0] σ τ) (mj_K 125 13 ls []) else none := mj_clV (as := [.int x0]) (r := []) i125_10 (by decide +kernel : mj_vk 125 119 1 0 2 false = true) (by decide +kernel)
theorem i125_13 : mj_ins 125 13 = some (.ifCond .ne 22, 16) := by decide +kernel
theorem e125_13 {ls : mj_L} {st : List Value} {σ : mj_S} {τ : mj_T} {x : Int32} : mj_E 125 13 ls (.int x :: st) σ τ = if x = 0 then mj_E 125 16 ls st σ τ else mj_E 125 22 ls st σ τ := (mj_ifc i125_13).trans (mj_cdF rfl)
theorem i125_16 : mj_ins 125 16 = some (.aload 0, 17) := by decide +kernel
theorem e125_16 {ls : mj_L} {st : List Value} {σ : mj_S} {τ : mj_T} {v : Nat} : mj_E 125 16 (some (.ref v) :: ls) st σ τ = mj_E 125 17 (some (.ref v) :: ls) (.ref v :: st) σ τ := mj_nx i125_16 rfl
theorem i125_17 : mj_ins 125 17 = some (.iconst (-1), 18) := by decide +kernel
theorem e125_17 {ls : mj_L} {st : List Value} {σ : mj_S} {τ : mj_T} : mj_E 125 17 ls st σ τ = mj_E 125 18 ls (.int ((-1)) :: st) σ τ := mj_nx i125_17 rfl
theorem i125_18 : mj_ins 125 18 = some (.invokevirtual 117, 21) := by decide +kernel
theorem e125_18 {ls : mj_L} {σ : mj_S} {τ : mj_T} {r : Nat} {x0 : Int32} : mj_E 125 18 ls [.int x0, .ref r] σ τ = if mj_rcv r 7 = true then mj_bd (mj_C 117 [.ref r, .int x0] σ τ) (mj_K 125 21 ls []) else none := mj_clV (as := [.int x0]) (r := []) i125_18 (by decide +kernel : mj_vk 125 117 1 0 2 false = true) (by decide +kernel)
theorem i125_21 : mj_ins 125 21 = some (.ireturn, 22) := by decide +kernel
theorem e125_21 {ls : mj_L} {σ : mj_S} {τ : mj_T} {v : Int32} : mj_E 125 21 ls [.int v] σ τ = some (some (.int v), σ, τ) := mj_irt i125_21 rfl
theorem i125_22 : mj_ins 125 22 = some (.aload 0, 23) := by decide +kernel
theorem e125_22 {ls : mj_L} {st : List Value} {σ : mj_S} {τ : mj_T} {v : Nat} : mj_E 125 22 (some (.ref v) :: ls) st σ τ = mj_E 125 23 (some (.ref v) :: ls) (.ref v :: st) σ τ := mj_nx i125_22 rfl
theorem i125_23 : mj_ins 125 23 = some (.getfield 717, 26) := by decide +kernel
theorem e125_23 {ls : mj_L} {st : List Value} {σ : mj_S} {τ : mj_T} : mj_E 125 23 ls (.ref 62 :: st) σ τ = mj_E 125 26 ls (.ref 74 :: st) σ τ := mj_nx i125_23 rfl
theorem i125_26 : mj_ins 125 26 = some (.iload 1, 27) := by decide +kernel
theorem e125_26 {ls : mj_L} {st : List Value} {σ : mj_S} {τ : mj_T} {a0 : Option Value} {v : Int32} : mj_E 125 26 (a0 :: some (.int v) :: ls) st σ τ = mj_E 125 27 (a0 :: some (.int v) :: ls) (.int v :: st) σ τ := mj_nx i125_26 rfl
theorem i125_27 : mj_ins 125 27 = some (.iaload, 28) := by decide +kernel
theorem e125_27 {ls : mj_L} {st : List Value} {σ : mj_S} {τ : mj_T} {x : Int32} {k : Nat} : mj_E 125 27 ls (.int x :: .ref k :: st) σ τ = if mj_ib (mj_li σ k) x = true then mj_E 125 28 ls (.int (σ k x.toNatClampNeg) :: st) σ τ else none := mj_ald i125_27
theorem i125_28 : mj_ins 125 28 = some (.iconst (2), 29) := by decide +kernel
theorem e125_28 {ls : mj_L} {st : List Value} {σ : mj_S} {τ : mj_T} : mj_E 125 28 ls st σ τ = mj_E 125 29 ls (.int (nI 2) :: st) σ τ := mj_nx i125_28 rfl
theorem i125_29 : mj_ins 125 29 = some (.if_icmp .eq 77, 32) := by decide +kernel
theorem e125_29 {ls : mj_L} {st : List Value} {σ : mj_S} {τ : mj_T} {x y : Int32} : mj_E 125 29 ls (.int y :: .int x :: st) σ τ = if x = y then mj_E 125 77 ls st σ τ else mj_E 125 32 ls st σ τ := (mj_ifi i125_29).trans (mj_cdT rfl)
theorem i125_32 : mj_ins 125 32 = some (.aload 0, 33) := by decide +kernel
theorem e125_32 {ls : mj_L} {st : List Value} {σ : mj_S} {τ : mj_T} {v : Nat} : mj_E 125 32 (some (.ref v) :: ls) st σ τ = mj_E 125 33 (some (.ref v) :: ls) (.ref v :: st) σ τ := mj_nx i125_32 rfl
theorem i125_33 : mj_ins 125 33 = some (.getfield 717, 36) := by decide +kernel
theorem e125_33 {ls : mj_L} {st : List Value} {σ : mj_S} {τ : mj_T} : mj_E 125 33 ls (.ref 62 :: st) σ τ = mj_E 125 36 ls (.ref 74 :: st) σ τ := mj_nx i125_33 rfl
theorem i125_36 : mj_ins 125 36 = some (.iload 2, 37) := by decide +kernel
theorem e125_36 {ls : mj_L} {st : List Value} {σ : mj_S} {τ : mj_T} {a0 a1 : Option Value} {v : Int32} : mj_E 125 36 (a0 :: a1 :: some (.int v) :: ls) st σ τ = mj_E 125 37 (a0 :: a1 :: some (.int v) :: ls) (.int v :: st) σ τ := mj_nx i125_36 rfl
theorem i125_37 : mj_ins 125 37 = some (.iaload, 38) := by decide +kernel
theorem e125_37 {ls : mj_L} {st : List Value} {σ : mj_S} {τ : mj_T} {x : Int32} {k : Nat} : mj_E 125 37 ls (.int x :: .ref k :: st) σ τ = if mj_ib (mj_li σ k) x = true then mj_E 125 38 ls (.int (σ k x.toNatClampNeg) :: st) σ τ else none := mj_ald i125_37
theorem i125_38 : mj_ins 125 38 = some (.iconst (2), 39) := by decide +kernel
theorem e125_38 {ls : mj_L} {st : List Value} {σ : mj_S} {τ : mj_T} : mj_E 125 38 ls st σ τ = mj_E 125 39 ls (.int (nI 2) :: st) σ τ := mj_nx i125_38 rfl
theorem i125_39 : mj_ins 125 39 = some (.if_icmp .eq 77, 42) := by decide +kernel
theorem e125_39 {ls : mj_L} {st : List Value} {σ : mj_S} {τ : mj_T} {x y : Int32} : mj_E 125 39 ls (.int y :: .int x :: st) σ τ = if x = y then mj_E 125 77 ls st σ τ else mj_E 125 42 ls st σ τ := (mj_ifi i125_39).trans (mj_cdT rfl)
theorem i125_42 : mj_ins 125 42 = some (.aload 0, 43) := by decide +kernel
theorem e125_42 {ls : mj_L} {st : List Value} {σ : mj_S} {τ : mj_T} {v : Nat} : mj_E 125 42 (some (.ref v) :: ls) st σ τ = mj_E 125 43 (some (.ref v) :: ls) (.ref v :: st) σ τ := mj_nx i125_42 rfl
theorem i125_43 : mj_ins 125 43 = some (.getfield 717, 46) := by decide +kernel
theorem e125_43 {ls : mj_L} {st : List Value} {σ : mj_S} {τ : mj_T} : mj_E 125 43 ls (.ref 62 :: st) σ τ = mj_E 125 46 ls (.ref 74 :: st) σ τ := mj_nx i125_43 rfl
theorem i125_46 : mj_ins 125 46 = some (.iload 1, 47) := by decide +kernel
theorem e125_46 {ls : mj_L} {st : List Value} {σ : mj_S} {τ : mj_T} {a0 : Option Value} {v : Int32} : mj_E 125 46 (a0 :: some (.int v) :: ls) st σ τ = mj_E 125 47 (a0 :: some (.int v) :: ls) (.int v :: st) σ τ := mj_nx i125_46 rfl
theorem i125_47 : mj_ins 125 47 = some (.iaload, 48) := by decide +kernel
theorem e125_47 {ls : mj_L} {st : List Value} {σ : mj_S} {τ : mj_T} {x : Int32} {k : Nat} : mj_E 125 47 ls (.int x :: .ref k :: st) σ τ = if mj_ib (mj_li σ k) x = true then mj_E 125 48 ls (.int (σ k x.toNatClampNeg) :: st) σ τ else none := mj_ald i125_47
theorem i125_48 : mj_ins 125 48 = some (.iconst (1), 49) := by decide +kernel
theorem e125_48 {ls : mj_L} {st : List Value} {σ : mj_S} {τ : mj_T} : mj_E 125 48 ls st σ τ = mj_E 125 49 ls (.int (nI 1) :: st) σ τ := mj_nx i125_48 rfl
theorem i125_49 : mj_ins 125 49 = some (.if_icmp .ne 84, 52) := by decide +kernel
theorem e125_49 {ls : mj_L} {st : List Value} {σ : mj_S} {τ : mj_T} {x y : Int32} : mj_E 125 49 ls (.int y :: .int x :: st) σ τ = if x = y then mj_E 125 52 ls st σ τ else mj_E 125 84 ls st σ τ := (mj_ifi i125_49).trans (mj_cdF rfl)
theorem i125_52 : mj_ins 125 52 = some (.aload 0, 53) := by decide +kernel
theorem e125_52 {ls : mj_L} {st : List Value} {σ : mj_S} {τ : mj_T} {v : Nat} : mj_E 125 52 (some (.ref v) :: ls) st σ τ = mj_E 125 53 (some (.ref v) :: ls) (.ref v :: st) σ τ := mj_nx i125_52 rfl
theorem i125_53 : mj_ins 125 53 = some (.getfield 717, 56) := by decide +kernel
theorem e125_53 {ls : mj_L} {st : List Value} {σ : mj_S} {τ : mj_T} : mj_E 125 53 ls (.ref 62 :: st) σ τ = mj_E 125 56 ls (.ref 74 :: st) σ τ := mj_nx i125_53 rfl
theorem i125_56 : mj_ins 125 56 = some (.iload 2, 57) := by decide +kernel
theorem e125_56 {ls : mj_L} {st : List Value} {σ : mj_S} {τ : mj_T} {a0 a1 : Option Value} {v : Int32} : mj_E 125 56 (a0 :: a1 :: some (.int v) :: ls) st σ τ = mj_E 125 57 (a0 :: a1 :: some (.int v) :: ls) (.int v :: st) σ τ := mj_nx i125_56 rfl
theorem i125_57 : mj_ins 125 57 = some (.iaload, 58) := by decide +kernel
theorem e125_57 {ls : mj_L} {st : List Value} {σ : mj_S} {τ : mj_T} {x : Int32} {k : Nat} : mj_E 125 57 ls (.int x :: .ref k :: st) σ τ = if mj_ib (mj_li σ k) x = true then mj_E 125 58 ls (.int (σ k x.toNatClampNeg) :: st) σ τ else none := mj_ald i125_57
theorem i125_58 : mj_ins 125 58 = some (.iconst (1), 59) := by decide +kernel
theorem e125_58 {ls : mj_L} {st : List Value} {σ : mj_S} {τ : mj_T} : mj_E 125 58 ls st σ τ = mj_E 125 59 ls (.int (nI 1) :: st) σ τ := mj_nx i125_58 rfl
theorem i125_59 : mj_ins 125 59 = some (.if_icmp .ne 84, 62) := by decide +kernel
theorem e125_59 {ls : mj_L} {st : List Value} {σ : mj_S} {τ : mj_T} {x y : Int32} : mj_E 125 59 ls (.int y :: .int x :: st) σ τ = if x = y then mj_E 125 62 ls st σ τ else mj_E 125 84 ls st σ τ := (mj_ifi i125_59).trans (mj_cdF rfl)
theorem i125_62 : mj_ins 125 62 = some (.aload 0, 63) := by decide +kernel
theorem e125_62 {ls : mj_L} {st : List Value} {σ : mj_S} {τ : mj_T} {v : Nat} : mj_E 125 62 (some (.ref v) :: ls) st σ τ = mj_E 125 63 (some (.ref v) :: ls) (.ref v :: st) σ τ := mj_nx i125_62 rfl
theorem i125_63 : mj_ins 125 63 = some (.getfield 718, 66) := by decide +kernel
theorem e125_63 {ls : mj_L} {st : List Value} {σ : mj_S} {τ : mj_T} : mj_E 125 63 ls (.ref 62 :: st) σ τ = mj_E 125 66 ls (.ref 75 :: st) σ τ := mj_nx i125_63 rfl
theorem i125_66 : mj_ins 125 66 = some (.iload 1, 67) := by decide +kernel
theorem e125_66 {ls : mj_L} {st : List Value} {σ : mj_S} {τ : mj_T} {a0 : Option Value} {v : Int32} : mj_E 125 66 (a0 :: some (.int v) :: ls) st σ τ = mj_E 125 67 (a0 :: some (.int v) :: ls) (.int v :: st) σ τ := mj_nx i125_66 rfl
theorem i125_67 : mj_ins 125 67 = some (.iaload, 68) := by decide +kernel
theorem e125_67 {ls : mj_L} {st : List Value} {σ : mj_S} {τ : mj_T} {x : Int32} {k : Nat} : mj_E 125 67 ls (.int x :: .ref k :: st) σ τ = if mj_ib (mj_li σ k) x = true then mj_E 125 68 ls (.int (σ k x.toNatClampNeg) :: st) σ τ else none := mj_ald i125_67
theorem i125_68 : mj_ins 125 68 = some (.aload 0, 69) := by decide +kernel
theorem e125_68 {ls : mj_L} {st : List Value} {σ : mj_S} {τ : mj_T} {v : Nat} : mj_E 125 68 (some (.ref v) :: ls) st σ τ = mj_E 125 69 (some (.ref v) :: ls) (.ref v :: st) σ τ := mj_nx i125_68 rfl
theorem i125_69 : mj_ins 125 69 = some (.getfield 718, 72) := by decide +kernel
theorem e125_69 {ls : mj_L} {st : List Value} {σ : mj_S} {τ : mj_T} : mj_E 125 69 ls (.ref 62 :: st) σ τ = mj_E 125 72 ls (.ref 75 :: st) σ τ := mj_nx i125_69 rfl
theorem i125_72 : mj_ins 125 72 = some (.iload 2, 73) := by decide +kernel
theorem e125_72 {ls : mj_L} {st : List Value} {σ : mj_S} {τ : mj_T} {a0 a1 : Option Value} {v : Int32} : mj_E 125 72 (a0 :: a1 :: some (.int v) :: ls) st σ τ = mj_E 125 73 (a0 :: a1 :: some (.int v) :: ls) (.int v :: st) σ τ := mj_nx i125_72 rfl
theorem i125_73 : mj_ins 125 73 = some (.iaload, 74) := by decide +kernel
theorem e125_73 {ls : mj_L} {st : List Value} {σ : mj_S} {τ : mj_T} {x : Int32} {k : Nat} : mj_E 125 73 ls (.int x :: .ref k :: st) σ τ = if mj_ib (mj_li σ k) x = true then mj_E 125 74 ls (.int (σ k x.toNatClampNeg) :: st) σ τ else none := mj_ald i125_73
theorem i125_74 : mj_ins 125 74 = some (.if_icmp .eq 84, 77) := by decide +kernel
theorem e125_74 {ls : mj_L} {st : List Value} {σ : mj_S} {τ : mj_T} {x y : Int32} : mj_E 125 74 ls (.int y :: .int x :: st) σ τ = if x = y then mj_E 125 84 ls st σ τ else mj_E 125 77 ls st σ τ := (mj_ifi i125_74).trans (mj_cdT rfl)
theorem i125_77 : mj_ins 125 77 = some (.aload 0, 78) := by decide +kernel
theorem e125_77 {ls : mj_L} {st : List Value} {σ : mj_S} {τ : mj_T} {v : Nat} : mj_E 125 77 (some (.ref v) :: ls) st σ τ = mj_E 125 78 (some (.ref v) :: ls) (.ref v :: st) σ τ := mj_nx i125_77 rfl
theorem i125_78 : mj_ins 125 78 = some (.iconst (-2), 80) := by decide +kernel
theorem e125_78 {ls : mj_L} {st : List Value} {σ : mj_S} {τ : mj_T} : mj_E 125 78 ls st σ τ = mj_E 125 80 ls (.int ((-2)) :: st) σ τ := mj_nx i125_78 rfl
theorem i125_80 : mj_ins 125 80 = some (.invokevirtual 117, 83) := by decide +kernel
theorem e125_80 {ls : mj_L} {σ : mj_S} {τ : mj_T} {r : Nat} {x0 : Int32} : mj_E 125 80 ls [.int x0, .ref r] σ τ = if mj_rcv r 7 = true then mj_bd (mj_C 117 [.ref r, .int x0] σ τ) (mj_K 125 83 ls []) else none := mj_clV (as := [.int x0]) (r := []) i125_80 (by decide +kernel : mj_vk 125 117 1 0 2 false = true) (by decide +kernel)
theorem i125_83 : mj_ins 125 83 = some (.ireturn, 84) := by decide +kernel
theorem e125_83 {ls : mj_L} {σ : mj_S} {τ : mj_T} {v : Int32} : mj_E 125 83 ls [.int v] σ τ = some (some (.int v), σ, τ) := mj_irt i125_83 rfl
theorem i125_84 : mj_ins 125 84 = some (.aload 0, 85) := by decide +kernel
theorem e125_84 {ls : mj_L} {st : List Value} {σ : mj_S} {τ : mj_T} {v : Nat} : mj_E 125 84 (some (.ref v) :: ls) st σ τ = mj_E 125 85 (some (.ref v) :: ls) (.ref v :: st) σ τ := mj_nx i125_84 rfl
theorem i125_85 : mj_ins 125 85 = some (.getfield 717, 88) := by decide +kernel
theorem e125_85 {ls : mj_L} {st : List Value} {σ : mj_S} {τ : mj_T} : mj_E 125 85 ls (.ref 62 :: st) σ τ = mj_E 125 88 ls (.ref 74 :: st) σ τ := mj_nx i125_85 rfl
theorem i125_88 : mj_ins 125 88 = some (.iload 1, 89) := by decide +kernel
theorem e125_88 {ls : mj_L} {st : List Value} {σ : mj_S} {τ : mj_T} {a0 : Option Value} {v : Int32} : mj_E 125 88 (a0 :: some (.int v) :: ls) st σ τ = mj_E 125 89 (a0 :: some (.int v) :: ls) (.int v :: st) σ τ := mj_nx i125_88 rfl
theorem i125_89 : mj_ins 125 89 = some (.iaload, 90) := by decide +kernel
theorem e125_89 {ls : mj_L} {st : List Value} {σ : mj_S} {τ : mj_T} {x : Int32} {k : Nat} : mj_E 125 89 ls (.int x :: .ref k :: st) σ τ = if mj_ib (mj_li σ k) x = true then mj_E 125 90 ls (.int (σ k x.toNatClampNeg) :: st) σ τ else none := mj_ald i125_89
theorem i125_90 : mj_ins 125 90 = some (.ifCond .eq 102, 93) := by decide +kernel
theorem e125_90 {ls : mj_L} {st : List Value} {σ : mj_S} {τ : mj_T} {x : Int32} : mj_E 125 90 ls (.int x :: st) σ τ = if x = 0 then mj_E 125 102 ls st σ τ else mj_E 125 93 ls st σ τ := (mj_ifc i125_90).trans (mj_cdT rfl)
theorem i125_93 : mj_ins 125 93 = some (.aload 0, 94) := by decide +kernel
theorem e125_93 {ls : mj_L} {st : List Value} {σ : mj_S} {τ : mj_T} {v : Nat} : mj_E 125 93 (some (.ref v) :: ls) st σ τ = mj_E 125 94 (some (.ref v) :: ls) (.ref v :: st) σ τ := mj_nx i125_93 rfl
theorem i125_94 : mj_ins 125 94 = some (.getfield 717, 97) := by decide +kernel
theorem e125_94 {ls : mj_L} {st : List Value} {σ : mj_S} {τ : mj_T} : mj_E 125 94 ls (.ref 62 :: st) σ τ = mj_E 125 97 ls (.ref 74 :: st) σ τ := mj_nx i125_94 rfl
theorem i125_97 : mj_ins 125 97 = some (.iload 2, 98) := by decide +kernel
theorem e125_97 {ls : mj_L} {st : List Value} {σ : mj_S} {τ : mj_T} {a0 a1 : Option Value} {v : Int32} : mj_E 125 97 (a0 :: a1 :: some (.int v) :: ls) st σ τ = mj_E 125 98 (a0 :: a1 :: some (.int v) :: ls) (.int v :: st) σ τ := mj_nx i125_97 rfl
theorem i125_98 : mj_ins 125 98 = some (.iaload, 99) := by decide +kernel
theorem e125_98 {ls : mj_L} {st : List Value} {σ : mj_S} {τ : mj_T} {x : Int32} {k : Nat} : mj_E 125 98 ls (.int x :: .ref k :: st) σ τ = if mj_ib (mj_li σ k) x = true then mj_E 125 99 ls (.int (σ k x.toNatClampNeg) :: st) σ τ else none := mj_ald i125_98
theorem i125_99 : mj_ins 125 99 = some (.ifCond .ne 109, 102) := by decide +kernel
theorem e125_99 {ls : mj_L} {st : List Value} {σ : mj_S} {τ : mj_T} {x : Int32} : mj_E 125 99 ls (.int x :: st) σ τ = if x = 0 then mj_E 125 102 ls st σ τ else mj_E 125 109 ls st σ τ := (mj_ifc i125_99).trans (mj_cdF rfl)
theorem i125_102 : mj_ins 125 102 = some (.aload 0, 103) := by decide +kernel
theorem e125_102 {ls : mj_L} {st : List Value} {σ : mj_S} {τ : mj_T} {v : Nat} : mj_E 125 102 (some (.ref v) :: ls) st σ τ = mj_E 125 103 (some (.ref v) :: ls) (.ref v :: st) σ τ := mj_nx i125_102 rfl
theorem i125_103 : mj_ins 125 103 = some (.iconst (-3), 105) := by decide +kernel
theorem e125_103 {ls : mj_L} {st : List Value} {σ : mj_S} {τ : mj_T} : mj_E 125 103 ls st σ τ = mj_E 125 105 ls (.int ((-3)) :: st) σ τ := mj_nx i125_103 rfl
theorem i125_105 : mj_ins 125 105 = some (.invokevirtual 117, 108) := by decide +kernel
theorem e125_105 {ls : mj_L} {σ : mj_S} {τ : mj_T} {r : Nat} {x0 : Int32} : mj_E 125 105 ls [.int x0, .ref r] σ τ = if mj_rcv r 7 = true then mj_bd (mj_C 117 [.ref r, .int x0] σ τ) (mj_K 125 108 ls []) else none := mj_clV (as := [.int x0]) (r := []) i125_105 (by decide +kernel : mj_vk 125 117 1 0 2 false = true) (by decide +kernel)
theorem i125_108 : mj_ins 125 108 = some (.ireturn, 109) := by decide +kernel
theorem e125_108 {ls : mj_L} {σ : mj_S} {τ : mj_T} {v : Int32} : mj_E 125 108 ls [.int v] σ τ = some (some (.int v), σ, τ) := mj_irt i125_108 rfl
theorem i125_109 : mj_ins 125 109 = some (.iload 5, 111) := by decide +kernel
theorem e125_109 {ls : mj_L} {st : List Value} {σ : mj_S} {τ : mj_T} {a0 a1 a2 a3 a4 : Option Value} {v : Int32} : mj_E 125 109 (a0 :: a1 :: a2 :: a3 :: a4 :: some (.int v) :: ls) st σ τ = mj_E 125 111 (a0 :: a1 :: a2 :: a3 :: a4 :: some (.int v) :: ls) (.int v :: st) σ τ := mj_nx i125_109 rfl
theorem i125_111 : mj_ins 125 111 = some (.ifCond .ge 121, 114) := by decide +kernel
theorem e125_111 {ls : mj_L} {st : List Value} {σ : mj_S} {τ : mj_T} {x : Int32} : mj_E 125 111 ls (.int x :: st) σ τ = if 0 ≤ x then mj_E 125 121 ls st σ τ else mj_E 125 114 ls st σ τ := (mj_ifc i125_111).trans (mj_cdT rfl)
theorem i125_114 : mj_ins 125 114 = some (.aload 0, 115) := by decide +kernel
theorem e125_114 {ls : mj_L} {st : List Value} {σ : mj_S} {τ : mj_T} {v : Nat} : mj_E 125 114 (some (.ref v) :: ls) st σ τ = mj_E 125 115 (some (.ref v) :: ls) (.ref v :: st) σ τ := mj_nx i125_114 rfl
theorem i125_115 : mj_ins 125 115 = some (.iconst (-4), 117) := by decide +kernel
theorem e125_115 {ls : mj_L} {st : List Value} {σ : mj_S} {τ : mj_T} : mj_E 125 115 ls st σ τ = mj_E 125 117 ls (.int ((-4)) :: st) σ τ := mj_nx i125_115 rfl
theorem i125_117 : mj_ins 125 117 = some (.invokevirtual 117, 120) := by decide +kernel
theorem e125_117 {ls : mj_L} {σ : mj_S} {τ : mj_T} {r : Nat} {x0 : Int32} : mj_E 125 117 ls [.int x0, .ref r] σ τ = if mj_rcv r 7 = true then mj_bd (mj_C 117 [.ref r, .int x0] σ τ) (mj_K 125 120 ls []) else none := mj_clV (as := [.int x0]) (r := []) i125_117 (by decide +kernel : mj_vk 125 117 1 0 2 false = true) (by decide +kernel)
theorem i125_120 : mj_ins 125 120 = some (.ireturn, 121) := by decide +kernel
theorem e125_120 {ls : mj_L} {σ : mj_S} {τ : mj_T} {v : Int32} : mj_E 125 120 ls [.int v] σ τ = some (some (.int v), σ, τ) := mj_irt i125_120 rfl
theorem i125_121 : mj_ins 125 121 = some (.iload 3, 122) := by decide +kernel
theorem e125_121 {ls : mj_L} {st : List Value} {σ : mj_S} {τ : mj_T} {a0 a1 a2 : Option Value} {v : Int32} : mj_E 125 121 (a0 :: a1 :: a2 :: some (.int v) :: ls) st σ τ = mj_E 125 122 (a0 :: a1 :: a2 :: some (.int v) :: ls) (.int v :: st) σ τ := mj_nx i125_121 rfl
theorem i125_122 : mj_ins 125 122 = some (.ifCond .lt 157, 125) := by decide +kernel
theorem e125_122 {ls : mj_L} {st : List Value} {σ : mj_S} {τ : mj_T} {x : Int32} : mj_E 125 122 ls (.int x :: st) σ τ = if x < 0 then mj_E 125 157 ls st σ τ else mj_E 125 125 ls st σ τ := (mj_ifc i125_122).trans (mj_cdT rfl)
theorem i125_125 : mj_ins 125 125 = some (.iload 4, 127) := by decide +kernel
theorem e125_125 {ls : mj_L} {st : List Value} {σ : mj_S} {τ : mj_T} {a0 a1 a2 a3 : Option Value} {v : Int32} : mj_E 125 125 (a0 :: a1 :: a2 :: a3 :: some (.int v) :: ls) st σ τ = mj_E 125 127 (a0 :: a1 :: a2 :: a3 :: some (.int v) :: ls) (.int v :: st) σ τ := mj_nx i125_125 rfl
theorem i125_127 : mj_ins 125 127 = some (.ifCond .lt 157, 130) := by decide +kernel
theorem e125_127 {ls : mj_L} {st : List Value} {σ : mj_S} {τ : mj_T} {x : Int32} : mj_E 125 127 ls (.int x :: st) σ τ = if x < 0 then mj_E 125 157 ls st σ τ else mj_E 125 130 ls st σ τ := (mj_ifc i125_127).trans (mj_cdT rfl)
theorem i125_130 : mj_ins 125 130 = some (.iload 3, 131) := by decide +kernel
theorem e125_130 {ls : mj_L} {st : List Value} {σ : mj_S} {τ : mj_T} {a0 a1 a2 : Option Value} {v : Int32} : mj_E 125 130 (a0 :: a1 :: a2 :: some (.int v) :: ls) st σ τ = mj_E 125 131 (a0 :: a1 :: a2 :: some (.int v) :: ls) (.int v :: st) σ τ := mj_nx i125_130 rfl
theorem i125_131 : mj_ins 125 131 = some (.aload 0, 132) := by decide +kernel
theorem e125_131 {ls : mj_L} {st : List Value} {σ : mj_S} {τ : mj_T} {v : Nat} : mj_E 125 131 (some (.ref v) :: ls) st σ τ = mj_E 125 132 (some (.ref v) :: ls) (.ref v :: st) σ τ := mj_nx i125_131 rfl
theorem i125_132 : mj_ins 125 132 = some (.getfield 719, 135) := by decide +kernel
theorem e125_132 {ls : mj_L} {st : List Value} {σ : mj_S} {τ : mj_T} : mj_E 125 132 ls (.ref 62 :: st) σ τ = mj_E 125 135 ls (.ref 76 :: st) σ τ := mj_nx i125_132 rfl
theorem i125_135 : mj_ins 125 135 = some (.iload 1, 136) := by decide +kernel
theorem e125_135 {ls : mj_L} {st : List Value} {σ : mj_S} {τ : mj_T} {a0 : Option Value} {v : Int32} : mj_E 125 135 (a0 :: some (.int v) :: ls) st σ τ = mj_E 125 136 (a0 :: some (.int v) :: ls) (.int v :: st) σ τ := mj_nx i125_135 rfl
theorem i125_136 : mj_ins 125 136 = some (.iaload, 137) := by decide +kernel
theorem e125_136 {ls : mj_L} {st : List Value} {σ : mj_S} {τ : mj_T} {x : Int32} {k : Nat} : mj_E 125 136 ls (.int x :: .ref k :: st) σ τ = if mj_ib (mj_li σ k) x = true then mj_E 125 137 ls (.int (σ k x.toNatClampNeg) :: st) σ τ else none := mj_ald i125_136
theorem i125_137 : mj_ins 125 137 = some (.iload 5, 139) := by decide +kernel
theorem e125_137 {ls : mj_L} {st : List Value} {σ : mj_S} {τ : mj_T} {a0 a1 a2 a3 a4 : Option Value} {v : Int32} : mj_E 125 137 (a0 :: a1 :: a2 :: a3 :: a4 :: some (.int v) :: ls) st σ τ = mj_E 125 139 (a0 :: a1 :: a2 :: a3 :: a4 :: some (.int v) :: ls) (.int v :: st) σ τ := mj_nx i125_137 rfl
theorem i125_139 : mj_ins 125 139 = some (.isub, 140) := by decide +kernel
theorem e125_139 {ls : mj_L} {st : List Value} {σ : mj_S} {τ : mj_T} {x y : Int32} : mj_E 125 139 ls (.int y :: .int x :: st) σ τ = mj_E 125 140 ls (.int (x - y) :: st) σ τ := mj_nx i125_139 rfl
theorem i125_140 : mj_ins 125 140 = some (.if_icmp .gt 157, 143) := by decide +kernel
theorem e125_140 {ls : mj_L} {st : List Value} {σ : mj_S} {τ : mj_T} {x y : Int32} : mj_E 125 140 ls (.int y :: .int x :: st) σ τ = if y < x then mj_E 125 157 ls st σ τ else mj_E 125 143 ls st σ τ := (mj_ifi i125_140).trans (mj_cdT rfl)
theorem i125_143 : mj_ins 125 143 = some (.iload 4, 145) := by decide +kernel
theorem e125_143 {ls : mj_L} {st : List Value} {σ : mj_S} {τ : mj_T} {a0 a1 a2 a3 : Option Value} {v : Int32} : mj_E 125 143 (a0 :: a1 :: a2 :: a3 :: some (.int v) :: ls) st σ τ = mj_E 125 145 (a0 :: a1 :: a2 :: a3 :: some (.int v) :: ls) (.int v :: st) σ τ := mj_nx i125_143 rfl
theorem i125_145 : mj_ins 125 145 = some (.aload 0, 146) := by decide +kernel
theorem e125_145 {ls : mj_L} {st : List Value} {σ : mj_S} {τ : mj_T} {v : Nat} : mj_E 125 145 (some (.ref v) :: ls) st σ τ = mj_E 125 146 (some (.ref v) :: ls) (.ref v :: st) σ τ := mj_nx i125_145 rfl
theorem i125_146 : mj_ins 125 146 = some (.getfield 719, 149) := by decide +kernel
theorem e125_146 {ls : mj_L} {st : List Value} {σ : mj_S} {τ : mj_T} : mj_E 125 146 ls (.ref 62 :: st) σ τ = mj_E 125 149 ls (.ref 76 :: st) σ τ := mj_nx i125_146 rfl
theorem i125_149 : mj_ins 125 149 = some (.iload 2, 150) := by decide +kernel
theorem e125_149 {ls : mj_L} {st : List Value} {σ : mj_S} {τ : mj_T} {a0 a1 : Option Value} {v : Int32} : mj_E 125 149 (a0 :: a1 :: some (.int v) :: ls) st σ τ = mj_E 125 150 (a0 :: a1 :: some (.int v) :: ls) (.int v :: st) σ τ := mj_nx i125_149 rfl
theorem i125_150 : mj_ins 125 150 = some (.iaload, 151) := by decide +kernel
theorem e125_150 {ls : mj_L} {st : List Value} {σ : mj_S} {τ : mj_T} {x : Int32} {k : Nat} : mj_E 125 150 ls (.int x :: .ref k :: st) σ τ = if mj_ib (mj_li σ k) x = true then mj_E 125 151 ls (.int (σ k x.toNatClampNeg) :: st) σ τ else none := mj_ald i125_150
theorem i125_151 : mj_ins 125 151 = some (.iload 5, 153) := by decide +kernel
theorem e125_151 {ls : mj_L} {st : List Value} {σ : mj_S} {τ : mj_T} {a0 a1 a2 a3 a4 : Option Value} {v : Int32} : mj_E 125 151 (a0 :: a1 :: a2 :: a3 :: a4 :: some (.int v) :: ls) st σ τ = mj_E 125 153 (a0 :: a1 :: a2 :: a3 :: a4 :: some (.int v) :: ls) (.int v :: st) σ τ := mj_nx i125_151 rfl
theorem i125_153 : mj_ins 125 153 = some (.isub, 154) := by decide +kernel
theorem e125_153 {ls : mj_L} {st : List Value} {σ : mj_S} {τ : mj_T} {x y : Int32} : mj_E 125 153 ls (.int y :: .int x :: st) σ τ = mj_E 125 154 ls (.int (x - y) :: st) σ τ := mj_nx i125_153 rfl
theorem i125_154 : mj_ins 125 154 = some (.if_icmp .le 164, 157) := by decide +kernel
theorem e125_154 {ls : mj_L} {st : List Value} {σ : mj_S} {τ : mj_T} {x y : Int32} : mj_E 125 154 ls (.int y :: .int x :: st) σ τ = if x ≤ y then mj_E 125 164 ls st σ τ else mj_E 125 157 ls st σ τ := (mj_ifi i125_154).trans (mj_cdT rfl)
theorem i125_157 : mj_ins 125 157 = some (.aload 0, 158) := by decide +kernel
theorem e125_157 {ls : mj_L} {st : List Value} {σ : mj_S} {τ : mj_T} {v : Nat} : mj_E 125 157 (some (.ref v) :: ls) st σ τ = mj_E 125 158 (some (.ref v) :: ls) (.ref v :: st) σ τ := mj_nx i125_157 rfl
theorem i125_158 : mj_ins 125 158 = some (.iconst (-5), 160) := by decide +kernel
theorem e125_158 {ls : mj_L} {st : List Value} {σ : mj_S} {τ : mj_T} : mj_E 125 158 ls st σ τ = mj_E 125 160 ls (.int ((-5)) :: st) σ τ := mj_nx i125_158 rfl
theorem i125_160 : mj_ins 125 160 = some (.invokevirtual 117, 163) := by decide +kernel
theorem e125_160 {ls : mj_L} {σ : mj_S} {τ : mj_T} {r : Nat} {x0 : Int32} : mj_E 125 160 ls [.int x0, .ref r] σ τ = if mj_rcv r 7 = true then mj_bd (mj_C 117 [.ref r, .int x0] σ τ) (mj_K 125 163 ls []) else none := mj_clV (as := [.int x0]) (r := []) i125_160 (by decide +kernel : mj_vk 125 117 1 0 2 false = true) (by decide +kernel)
theorem i125_163 : mj_ins 125 163 = some (.ireturn, 164) := by decide +kernel
theorem e125_163 {ls : mj_L} {σ : mj_S} {τ : mj_T} {v : Int32} : mj_E 125 163 ls [.int v] σ τ = some (some (.int v), σ, τ) := mj_irt i125_163 rfl
theorem i125_164 : mj_ins 125 164 = some (.iconst (0), 165) := by decide +kernel
theorem e125_164 {ls : mj_L} {st : List Value} {σ : mj_S} {τ : mj_T} : mj_E 125 164 ls st σ τ = mj_E 125 165 ls (.int (nI 0) :: st) σ τ := mj_nx i125_164 rfl
theorem i125_165 : mj_ins 125 165 = some (.istore 6, 167) := by decide +kernel
theorem e125_165 {ls : mj_L} {st : List Value} {σ : mj_S} {τ : mj_T} {a0 a1 a2 a3 a4 a5 a6 : Option Value} {v : Int32} : mj_E 125 165 (a0 :: a1 :: a2 :: a3 :: a4 :: a5 :: a6 :: ls) (.int v :: st) σ τ = mj_E 125 167 (a0 :: a1 :: a2 :: a3 :: a4 :: a5 :: some (.int v) :: ls) st σ τ := mj_nx i125_165 rfl
theorem i125_167 : mj_ins 125 167 = some (.iload 6, 169) := by decide +kernel
theorem e125_167 {ls : mj_L} {st : List Value} {σ : mj_S} {τ : mj_T} {a0 a1 a2 a3 a4 a5 : Option Value} {v : Int32} : mj_E 125 167 (a0 :: a1 :: a2 :: a3 :: a4 :: a5 :: some (.int v) :: ls) st σ τ = mj_E 125 169 (a0 :: a1 :: a2 :: a3 :: a4 :: a5 :: some (.int v) :: ls) (.int v :: st) σ τ := mj_nx i125_167 rfl
theorem i125_169 : mj_ins 125 169 = some (.iload 5, 171) := by decide +kernel
theorem e125_169 {ls : mj_L} {st : List Value} {σ : mj_S} {τ : mj_T} {a0 a1 a2 a3 a4 : Option Value} {v : Int32} : mj_E 125 169 (a0 :: a1 :: a2 :: a3 :: a4 :: some (.int v) :: ls) st σ τ = mj_E 125 171 (a0 :: a1 :: a2 :: a3 :: a4 :: some (.int v) :: ls) (.int v :: st) σ τ := mj_nx i125_169 rfl
theorem i125_171 : mj_ins 125 171 = some (.if_icmp .ge 202, 174) := by decide +kernel
theorem e125_171 {ls : mj_L} {st : List Value} {σ : mj_S} {τ : mj_T} {x y : Int32} : mj_E 125 171 ls (.int y :: .int x :: st) σ τ = if y ≤ x then mj_E 125 202 ls st σ τ else mj_E 125 174 ls st σ τ := (mj_ifi i125_171).trans (mj_cdT rfl)
theorem i125_174 : mj_ins 125 174 = some (.aload 0, 175) := by decide +kernel
theorem e125_174 {ls : mj_L} {st : List Value} {σ : mj_S} {τ : mj_T} {v : Nat} : mj_E 125 174 (some (.ref v) :: ls) st σ τ = mj_E 125 175 (some (.ref v) :: ls) (.ref v :: st) σ τ := mj_nx i125_174 rfl
theorem i125_175 : mj_ins 125 175 = some (.getfield 722, 178) := by decide +kernel
theorem e125_175 {ls : mj_L} {st : List Value} {σ : mj_S} {τ : mj_T} : mj_E 125 175 ls (.ref 62 :: st) σ τ = mj_E 125 178 ls (.ref 79 :: st) σ τ := mj_nx i125_175 rfl
theorem i125_178 : mj_ins 125 178 = some (.iload 6, 180) := by decide +kernel
theorem e125_178 {ls : mj_L} {st : List Value} {σ : mj_S} {τ : mj_T} {a0 a1 a2 a3 a4 a5 : Option Value} {v : Int32} : mj_E 125 178 (a0 :: a1 :: a2 :: a3 :: a4 :: a5 :: some (.int v) :: ls) st σ τ = mj_E 125 180 (a0 :: a1 :: a2 :: a3 :: a4 :: a5 :: some (.int v) :: ls) (.int v :: st) σ τ := mj_nx i125_178 rfl
theorem i125_180 : mj_ins 125 180 = some (.aload 0, 181) := by decide +kernel
theorem e125_180 {ls : mj_L} {st : List Value} {σ : mj_S} {τ : mj_T} {v : Nat} : mj_E 125 180 (some (.ref v) :: ls) st σ τ = mj_E 125 181 (some (.ref v) :: ls) (.ref v :: st) σ τ := mj_nx i125_180 rfl
theorem i125_181 : mj_ins 125 181 = some (.getfield 721, 184) := by decide +kernel
theorem e125_181 {ls : mj_L} {st : List Value} {σ : mj_S} {τ : mj_T} : mj_E 125 181 ls (.ref 62 :: st) σ τ = mj_E 125 184 ls (.ref 78 :: st) σ τ := mj_nx i125_181 rfl
theorem i125_184 : mj_ins 125 184 = some (.iconst (160), 187) := by decide +kernel
theorem e125_184 {ls : mj_L} {st : List Value} {σ : mj_S} {τ : mj_T} : mj_E 125 184 ls st σ τ = mj_E 125 187 ls (.int (nI 160) :: st) σ τ := mj_nx i125_184 rfl
theorem i125_187 : mj_ins 125 187 = some (.iload 1, 188) := by decide +kernel
theorem e125_187 {ls : mj_L} {st : List Value} {σ : mj_S} {τ : mj_T} {a0 : Option Value} {v : Int32} : mj_E 125 187 (a0 :: some (.int v) :: ls) st σ τ = mj_E 125 188 (a0 :: some (.int v) :: ls) (.int v :: st) σ τ := mj_nx i125_187 rfl
theorem i125_188 : mj_ins 125 188 = some (.imul, 189) := by decide +kernel
theorem e125_188 {ls : mj_L} {st : List Value} {σ : mj_S} {τ : mj_T} {x y : Int32} : mj_E 125 188 ls (.int y :: .int x :: st) σ τ = mj_E 125 189 ls (.int (x * y) :: st) σ τ := mj_nx i125_188 rfl
theorem i125_189 : mj_ins 125 189 = some (.iload 3, 190) := by decide +kernel
theorem e125_189 {ls : mj_L} {st : List Value} {σ : mj_S} {τ : mj_T} {a0 a1 a2 : Option Value} {v : Int32} : mj_E 125 189 (a0 :: a1 :: a2 :: some (.int v) :: ls) st σ τ = mj_E 125 190 (a0 :: a1 :: a2 :: some (.int v) :: ls) (.int v :: st) σ τ := mj_nx i125_189 rfl
theorem i125_190 : mj_ins 125 190 = some (.iadd, 191) := by decide +kernel
theorem e125_190 {ls : mj_L} {st : List Value} {σ : mj_S} {τ : mj_T} {x y : Int32} : mj_E 125 190 ls (.int y :: .int x :: st) σ τ = mj_E 125 191 ls (.int (x + y) :: st) σ τ := mj_nx i125_190 rfl
theorem i125_191 : mj_ins 125 191 = some (.iload 6, 193) := by decide +kernel
theorem e125_191 {ls : mj_L} {st : List Value} {σ : mj_S} {τ : mj_T} {a0 a1 a2 a3 a4 a5 : Option Value} {v : Int32} : mj_E 125 191 (a0 :: a1 :: a2 :: a3 :: a4 :: a5 :: some (.int v) :: ls) st σ τ = mj_E 125 193 (a0 :: a1 :: a2 :: a3 :: a4 :: a5 :: some (.int v) :: ls) (.int v :: st) σ τ := mj_nx i125_191 rfl
theorem i125_193 : mj_ins 125 193 = some (.iadd, 194) := by decide +kernel
theorem e125_193 {ls : mj_L} {st : List Value} {σ : mj_S} {τ : mj_T} {x y : Int32} : mj_E 125 193 ls (.int y :: .int x :: st) σ τ = mj_E 125 194 ls (.int (x + y) :: st) σ τ := mj_nx i125_193 rfl
theorem i125_194 : mj_ins 125 194 = some (.laload, 195) := by decide +kernel
theorem e125_194 {ls : mj_L} {st : List Value} {σ : mj_S} {τ : mj_T} {x : Int32} {k : Nat} : mj_E 125 194 ls (.int x :: .ref k :: st) σ τ = if mj_ib (mj_ll k) x = true then mj_E 125 195 ls (.long (τ k x.toNatClampNeg) :: st) σ τ else none := mj_lald i125_194
theorem i125_195 : mj_ins 125 195 = some (.lastore, 196) := by decide +kernel
theorem e125_195 {ls : mj_L} {st : List Value} {σ : mj_S} {τ : mj_T} {x : Int32} {v : Int64} {k : Nat} : mj_E 125 195 ls (.long v :: .int x :: .ref k :: st) σ τ = if mj_ib (mj_ll k) x = true then mj_E 125 196 ls st σ (mj_uq τ k x.toNatClampNeg v) else none := mj_last i125_195
theorem i125_196 : mj_ins 125 196 = some (.iinc 6 (1), 199) := by decide +kernel
theorem e125_196 {ls : mj_L} {st : List Value} {σ : mj_S} {τ : mj_T} {a0 a1 a2 a3 a4 a5 : Option Value} {v : Int32} : mj_E 125 196 (a0 :: a1 :: a2 :: a3 :: a4 :: a5 :: some (.int v) :: ls) st σ τ = mj_E 125 199 (a0 :: a1 :: a2 :: a3 :: a4 :: a5 :: some (.int (v + nI 1)) :: ls) st σ τ := mj_nx i125_196 rfl
theorem i125_199 : mj_ins 125 199 = some (.goto 167, 202) := by decide +kernel
theorem e125_199 {ls : mj_L} {st : List Value} {σ : mj_S} {τ : mj_T} : mj_E 125 199 ls st σ τ = mj_E 125 167 ls st σ τ := mj_nx i125_199 rfl
theorem i125_202 : mj_ins 125 202 = some (.iconst (0), 203) := by decide +kernel
theorem e125_202 {ls : mj_L} {st : List Value} {σ : mj_S} {τ : mj_T} : mj_E 125 202 ls st σ τ = mj_E 125 203 ls (.int (nI 0) :: st) σ τ := mj_nx i125_202 rfl
theorem i125_203 : mj_ins 125 203 = some (.istore 6, 205) := by decide +kernel
theorem e125_203 {ls : mj_L} {st : List Value} {σ : mj_S} {τ : mj_T} {a0 a1 a2 a3 a4 a5 a6 : Option Value} {v : Int32} : mj_E 125 203 (a0 :: a1 :: a2 :: a3 :: a4 :: a5 :: a6 :: ls) (.int v :: st) σ τ = mj_E 125 205 (a0 :: a1 :: a2 :: a3 :: a4 :: a5 :: some (.int v) :: ls) st σ τ := mj_nx i125_203 rfl
theorem i125_205 : mj_ins 125 205 = some (.iload 6, 207) := by decide +kernel
theorem e125_205 {ls : mj_L} {st : List Value} {σ : mj_S} {τ : mj_T} {a0 a1 a2 a3 a4 a5 : Option Value} {v : Int32} : mj_E 125 205 (a0 :: a1 :: a2 :: a3 :: a4 :: a5 :: some (.int v) :: ls) st σ τ = mj_E 125 207 (a0 :: a1 :: a2 :: a3 :: a4 :: a5 :: some (.int v) :: ls) (.int v :: st) σ τ := mj_nx i125_205 rfl
theorem i125_207 : mj_ins 125 207 = some (.iload 5, 209) := by decide +kernel
theorem e125_207 {ls : mj_L} {st : List Value} {σ : mj_S} {τ : mj_T} {a0 a1 a2 a3 a4 : Option Value} {v : Int32} : mj_E 125 207 (a0 :: a1 :: a2 :: a3 :: a4 :: some (.int v) :: ls) st σ τ = mj_E 125 209 (a0 :: a1 :: a2 :: a3 :: a4 :: some (.int v) :: ls) (.int v :: st) σ τ := mj_nx i125_207 rfl
theorem i125_209 : mj_ins 125 209 = some (.if_icmp .ge 241, 212) := by decide +kernel
theorem e125_209 {ls : mj_L} {st : List Value} {σ : mj_S} {τ : mj_T} {x y : Int32} : mj_E 125 209 ls (.int y :: .int x :: st) σ τ = if y ≤ x then mj_E 125 241 ls st σ τ else mj_E 125 212 ls st σ τ := (mj_ifi i125_209).trans (mj_cdT rfl)
theorem i125_212 : mj_ins 125 212 = some (.aload 0, 213) := by decide +kernel
theorem e125_212 {ls : mj_L} {st : List Value} {σ : mj_S} {τ : mj_T} {v : Nat} : mj_E 125 212 (some (.ref v) :: ls) st σ τ = mj_E 125 213 (some (.ref v) :: ls) (.ref v :: st) σ τ := mj_nx i125_212 rfl
theorem i125_213 : mj_ins 125 213 = some (.getfield 721, 216) := by decide +kernel
theorem e125_213 {ls : mj_L} {st : List Value} {σ : mj_S} {τ : mj_T} : mj_E 125 213 ls (.ref 62 :: st) σ τ = mj_E 125 216 ls (.ref 78 :: st) σ τ := mj_nx i125_213 rfl
theorem i125_216 : mj_ins 125 216 = some (.iconst (160), 219) := by decide +kernel
theorem e125_216 {ls : mj_L} {st : List Value} {σ : mj_S} {τ : mj_T} : mj_E 125 216 ls st σ τ = mj_E 125 219 ls (.int (nI 160) :: st) σ τ := mj_nx i125_216 rfl
theorem i125_219 : mj_ins 125 219 = some (.iload 2, 220) := by decide +kernel
theorem e125_219 {ls : mj_L} {st : List Value} {σ : mj_S} {τ : mj_T} {a0 a1 : Option Value} {v : Int32} : mj_E 125 219 (a0 :: a1 :: some (.int v) :: ls) st σ τ = mj_E 125 220 (a0 :: a1 :: some (.int v) :: ls) (.int v :: st) σ τ := mj_nx i125_219 rfl
theorem i125_220 : mj_ins 125 220 = some (.imul, 221) := by decide +kernel
theorem e125_220 {ls : mj_L} {st : List Value} {σ : mj_S} {τ : mj_T} {x y : Int32} : mj_E 125 220 ls (.int y :: .int x :: st) σ τ = mj_E 125 221 ls (.int (x * y) :: st) σ τ := mj_nx i125_220 rfl
theorem i125_221 : mj_ins 125 221 = some (.iload 4, 223) := by decide +kernel
theorem e125_221 {ls : mj_L} {st : List Value} {σ : mj_S} {τ : mj_T} {a0 a1 a2 a3 : Option Value} {v : Int32} : mj_E 125 221 (a0 :: a1 :: a2 :: a3 :: some (.int v) :: ls) st σ τ = mj_E 125 223 (a0 :: a1 :: a2 :: a3 :: some (.int v) :: ls) (.int v :: st) σ τ := mj_nx i125_221 rfl
theorem i125_223 : mj_ins 125 223 = some (.iadd, 224) := by decide +kernel
theorem e125_223 {ls : mj_L} {st : List Value} {σ : mj_S} {τ : mj_T} {x y : Int32} : mj_E 125 223 ls (.int y :: .int x :: st) σ τ = mj_E 125 224 ls (.int (x + y) :: st) σ τ := mj_nx i125_223 rfl
theorem i125_224 : mj_ins 125 224 = some (.iload 6, 226) := by decide +kernel
theorem e125_224 {ls : mj_L} {st : List Value} {σ : mj_S} {τ : mj_T} {a0 a1 a2 a3 a4 a5 : Option Value} {v : Int32} : mj_E 125 224 (a0 :: a1 :: a2 :: a3 :: a4 :: a5 :: some (.int v) :: ls) st σ τ = mj_E 125 226 (a0 :: a1 :: a2 :: a3 :: a4 :: a5 :: some (.int v) :: ls) (.int v :: st) σ τ := mj_nx i125_224 rfl
theorem i125_226 : mj_ins 125 226 = some (.iadd, 227) := by decide +kernel
theorem e125_226 {ls : mj_L} {st : List Value} {σ : mj_S} {τ : mj_T} {x y : Int32} : mj_E 125 226 ls (.int y :: .int x :: st) σ τ = mj_E 125 227 ls (.int (x + y) :: st) σ τ := mj_nx i125_226 rfl
theorem i125_227 : mj_ins 125 227 = some (.aload 0, 228) := by decide +kernel
theorem e125_227 {ls : mj_L} {st : List Value} {σ : mj_S} {τ : mj_T} {v : Nat} : mj_E 125 227 (some (.ref v) :: ls) st σ τ = mj_E 125 228 (some (.ref v) :: ls) (.ref v :: st) σ τ := mj_nx i125_227 rfl
theorem i125_228 : mj_ins 125 228 = some (.getfield 722, 231) := by decide +kernel
theorem e125_228 {ls : mj_L} {st : List Value} {σ : mj_S} {τ : mj_T} : mj_E 125 228 ls (.ref 62 :: st) σ τ = mj_E 125 231 ls (.ref 79 :: st) σ τ := mj_nx i125_228 rfl
theorem i125_231 : mj_ins 125 231 = some (.iload 6, 233) := by decide +kernel
theorem e125_231 {ls : mj_L} {st : List Value} {σ : mj_S} {τ : mj_T} {a0 a1 a2 a3 a4 a5 : Option Value} {v : Int32} : mj_E 125 231 (a0 :: a1 :: a2 :: a3 :: a4 :: a5 :: some (.int v) :: ls) st σ τ = mj_E 125 233 (a0 :: a1 :: a2 :: a3 :: a4 :: a5 :: some (.int v) :: ls) (.int v :: st) σ τ := mj_nx i125_231 rfl
theorem i125_233 : mj_ins 125 233 = some (.laload, 234) := by decide +kernel
theorem e125_233 {ls : mj_L} {st : List Value} {σ : mj_S} {τ : mj_T} {x : Int32} {k : Nat} : mj_E 125 233 ls (.int x :: .ref k :: st) σ τ = if mj_ib (mj_ll k) x = true then mj_E 125 234 ls (.long (τ k x.toNatClampNeg) :: st) σ τ else none := mj_lald i125_233
theorem i125_234 : mj_ins 125 234 = some (.lastore, 235) := by decide +kernel
theorem e125_234 {ls : mj_L} {st : List Value} {σ : mj_S} {τ : mj_T} {x : Int32} {v : Int64} {k : Nat} : mj_E 125 234 ls (.long v :: .int x :: .ref k :: st) σ τ = if mj_ib (mj_ll k) x = true then mj_E 125 235 ls st σ (mj_uq τ k x.toNatClampNeg v) else none := mj_last i125_234
theorem i125_235 : mj_ins 125 235 = some (.iinc 6 (1), 238) := by decide +kernel
theorem e125_235 {ls : mj_L} {st : List Value} {σ : mj_S} {τ : mj_T} {a0 a1 a2 a3 a4 a5 : Option Value} {v : Int32} : mj_E 125 235 (a0 :: a1 :: a2 :: a3 :: a4 :: a5 :: some (.int v) :: ls) st σ τ = mj_E 125 238 (a0 :: a1 :: a2 :: a3 :: a4 :: a5 :: some (.int (v + nI 1)) :: ls) st σ τ := mj_nx i125_235 rfl
theorem i125_238 : mj_ins 125 238 = some (.goto 205, 241) := by decide +kernel
theorem e125_238 {ls : mj_L} {st : List Value} {σ : mj_S} {τ : mj_T} : mj_E 125 238 ls st σ τ = mj_E 125 205 ls st σ τ := mj_nx i125_238 rfl
theorem i125_241 : mj_ins 125 241 = some (.iconst (1), 242) := by decide +kernel
theorem e125_241 {ls : mj_L} {st : List Value} {σ : mj_S} {τ : mj_T} : mj_E 125 241 ls st σ τ = mj_E 125 242 ls (.int (nI 1) :: st) σ τ := mj_nx i125_241 rfl
theorem i125_242 : mj_ins 125 242 = some (.ireturn, 243) := by decide +kernel
theorem e125_242 {ls : mj_L} {σ : mj_S} {τ : mj_T} {v : Int32} : mj_E 125 242 ls [.int v] σ τ = some (some (.int v), σ, τ) := mj_irt i125_242 rfl
theorem c126 {σ : mj_S} {τ : mj_T} {r : Nat} {x0 : Int32} {x1 : Int32} : mj_C 126 [.ref r, .int x0, .int x1] σ τ = mj_E 126 0 [some (.ref r), some (.int x0), some (.int x1)] [] σ τ := rfl
theorem i126_0 : mj_ins 126 0 = some (.aload 0, 1) := by decide +kernel
theorem e126_0 {ls : mj_L} {st : List Value} {σ : mj_S} {τ : mj_T} {v : Nat} : mj_E 126 0 (some (.ref v) :: ls) st σ τ = mj_E 126 1 (some (.ref v) :: ls) (.ref v :: st) σ τ := mj_nx i126_0 rfl
theorem i126_1 : mj_ins 126 1 = some (.iload 1, 2) := by decide +kernel
theorem e126_1 {ls : mj_L} {st : List Value} {σ : mj_S} {τ : mj_T} {a0 : Option Value} {v : Int32} : mj_E 126 1 (a0 :: some (.int v) :: ls) st σ τ = mj_E 126 2 (a0 :: some (.int v) :: ls) (.int v :: st) σ τ := mj_nx i126_1 rfl
theorem i126_2 : mj_ins 126 2 = some (.invokevirtual 119, 5) := by decide +kernel
theorem e126_2 {ls : mj_L} {σ : mj_S} {τ : mj_T} {r : Nat} {x0 : Int32} : mj_E 126 2 ls [.int x0, .ref r] σ τ = if mj_rcv r 7 = true then mj_bd (mj_C 119 [.ref r, .int x0] σ τ) (mj_K 126 5 ls []) else none := mj_clV (as := [.int x0]) (r := []) i126_2 (by decide +kernel : mj_vk 126 119 1 0 2 false = true) (by decide +kernel)
theorem i126_5 : mj_ins 126 5 = some (.ifCond .eq 47, 8) := by decide +kernel
theorem e126_5 {ls : mj_L} {st : List Value} {σ : mj_S} {τ : mj_T} {x : Int32} : mj_E 126 5 ls (.int x :: st) σ τ = if x = 0 then mj_E 126 47 ls st σ τ else mj_E 126 8 ls st σ τ := (mj_ifc i126_5).trans (mj_cdT rfl)
theorem i126_8 : mj_ins 126 8 = some (.aload 0, 9) := by decide +kernel
theorem e126_8 {ls : mj_L} {st : List Value} {σ : mj_S} {τ : mj_T} {v : Nat} : mj_E 126 8 (some (.ref v) :: ls) st σ τ = mj_E 126 9 (some (.ref v) :: ls) (.ref v :: st) σ τ := mj_nx i126_8 rfl
theorem i126_9 : mj_ins 126 9 = some (.getfield 717, 12) := by decide +kernel
theorem e126_9 {ls : mj_L} {st : List Value} {σ : mj_S} {τ : mj_T} : mj_E 126 9 ls (.ref 62 :: st) σ τ = mj_E 126 12 ls (.ref 74 :: st) σ τ := mj_nx i126_9 rfl
theorem i126_12 : mj_ins 126 12 = some (.iload 1, 13) := by decide +kernel
theorem e126_12 {ls : mj_L} {st : List Value} {σ : mj_S} {τ : mj_T} {a0 : Option Value} {v : Int32} : mj_E 126 12 (a0 :: some (.int v) :: ls) st σ τ = mj_E 126 13 (a0 :: some (.int v) :: ls) (.int v :: st) σ τ := mj_nx i126_12 rfl
theorem i126_13 : mj_ins 126 13 = some (.iaload, 14) := by decide +kernel
theorem e126_13 {ls : mj_L} {st : List Value} {σ : mj_S} {τ : mj_T} {x : Int32} {k : Nat} : mj_E 126 13 ls (.int x :: .ref k :: st) σ τ = if mj_ib (mj_li σ k) x = true then mj_E 126 14 ls (.int (σ k x.toNatClampNeg) :: st) σ τ else none := mj_ald i126_13
theorem i126_14 : mj_ins 126 14 = some (.iconst (1), 15) := by decide +kernel
theorem e126_14 {ls : mj_L} {st : List Value} {σ : mj_S} {τ : mj_T} : mj_E 126 14 ls st σ τ = mj_E 126 15 ls (.int (nI 1) :: st) σ τ := mj_nx i126_14 rfl
theorem i126_15 : mj_ins 126 15 = some (.if_icmp .ne 47, 18) := by decide +kernel
theorem e126_15 {ls : mj_L} {st : List Value} {σ : mj_S} {τ : mj_T} {x y : Int32} : mj_E 126 15 ls (.int y :: .int x :: st) σ τ = if x = y then mj_E 126 18 ls st σ τ else mj_E 126 47 ls st σ τ := (mj_ifi i126_15).trans (mj_cdF rfl)
theorem i126_18 : mj_ins 126 18 = some (.iload 2, 19) := by decide +kernel
theorem e126_18 {ls : mj_L} {st : List Value} {σ : mj_S} {τ : mj_T} {a0 a1 : Option Value} {v : Int32} : mj_E 126 18 (a0 :: a1 :: some (.int v) :: ls) st σ τ = mj_E 126 19 (a0 :: a1 :: some (.int v) :: ls) (.int v :: st) σ τ := mj_nx i126_18 rfl
theorem i126_19 : mj_ins 126 19 = some (.ifCond .lt 47, 22) := by decide +kernel
theorem e126_19 {ls : mj_L} {st : List Value} {σ : mj_S} {τ : mj_T} {x : Int32} : mj_E 126 19 ls (.int x :: st) σ τ = if x < 0 then mj_E 126 47 ls st σ τ else mj_E 126 22 ls st σ τ := (mj_ifc i126_19).trans (mj_cdT rfl)
theorem i126_22 : mj_ins 126 22 = some (.iload 2, 23) := by decide +kernel
theorem e126_22 {ls : mj_L} {st : List Value} {σ : mj_S} {τ : mj_T} {a0 a1 : Option Value} {v : Int32} : mj_E 126 22 (a0 :: a1 :: some (.int v) :: ls) st σ τ = mj_E 126 23 (a0 :: a1 :: some (.int v) :: ls) (.int v :: st) σ τ := mj_nx i126_22 rfl
theorem i126_23 : mj_ins 126 23 = some (.aload 0, 24) := by decide +kernel
theorem e126_23 {ls : mj_L} {st : List Value} {σ : mj_S} {τ : mj_T} {v : Nat} : mj_E 126 23 (some (.ref v) :: ls) st σ τ = mj_E 126 24 (some (.ref v) :: ls) (.ref v :: st) σ τ := mj_nx i126_23 rfl
theorem i126_24 : mj_ins 126 24 = some (.getfield 719, 27) := by decide +kernel
theorem e126_24 {ls : mj_L} {st : List Value} {σ : mj_S} {τ : mj_T} : mj_E 126 24 ls (.ref 62 :: st) σ τ = mj_E 126 27 ls (.ref 76 :: st) σ τ := mj_nx i126_24 rfl
theorem i126_27 : mj_ins 126 27 = some (.iload 1, 28) := by decide +kernel
theorem e126_27 {ls : mj_L} {st : List Value} {σ : mj_S} {τ : mj_T} {a0 : Option Value} {v : Int32} : mj_E 126 27 (a0 :: some (.int v) :: ls) st σ τ = mj_E 126 28 (a0 :: some (.int v) :: ls) (.int v :: st) σ τ := mj_nx i126_27 rfl
theorem i126_28 : mj_ins 126 28 = some (.iaload, 29) := by decide +kernel
theorem e126_28 {ls : mj_L} {st : List Value} {σ : mj_S} {τ : mj_T} {x : Int32} {k : Nat} : mj_E 126 28 ls (.int x :: .ref k :: st) σ τ = if mj_ib (mj_li σ k) x = true then mj_E 126 29 ls (.int (σ k x.toNatClampNeg) :: st) σ τ else none := mj_ald i126_28
theorem i126_29 : mj_ins 126 29 = some (.if_icmp .ge 47, 32) := by decide +kernel
theorem e126_29 {ls : mj_L} {st : List Value} {σ : mj_S} {τ : mj_T} {x y : Int32} : mj_E 126 29 ls (.int y :: .int x :: st) σ τ = if y ≤ x then mj_E 126 47 ls st σ τ else mj_E 126 32 ls st σ τ := (mj_ifi i126_29).trans (mj_cdT rfl)
theorem i126_32 : mj_ins 126 32 = some (.aload 0, 33) := by decide +kernel
theorem e126_32 {ls : mj_L} {st : List Value} {σ : mj_S} {τ : mj_T} {v : Nat} : mj_E 126 32 (some (.ref v) :: ls) st σ τ = mj_E 126 33 (some (.ref v) :: ls) (.ref v :: st) σ τ := mj_nx i126_32 rfl
theorem i126_33 : mj_ins 126 33 = some (.getfield 721, 36) := by decide +kernel
theorem e126_33 {ls : mj_L} {st : List Value} {σ : mj_S} {τ : mj_T} : mj_E 126 33 ls (.ref 62 :: st) σ τ = mj_E 126 36 ls (.ref 78 :: st) σ τ := mj_nx i126_33 rfl
theorem i126_36 : mj_ins 126 36 = some (.iconst (160), 39) := by decide +kernel
theorem e126_36 {ls : mj_L} {st : List Value} {σ : mj_S} {τ : mj_T} : mj_E 126 36 ls st σ τ = mj_E 126 39 ls (.int (nI 160) :: st) σ τ := mj_nx i126_36 rfl
theorem i126_39 : mj_ins 126 39 = some (.iload 1, 40) := by decide +kernel
theorem e126_39 {ls : mj_L} {st : List Value} {σ : mj_S} {τ : mj_T} {a0 : Option Value} {v : Int32} : mj_E 126 39 (a0 :: some (.int v) :: ls) st σ τ = mj_E 126 40 (a0 :: some (.int v) :: ls) (.int v :: st) σ τ := mj_nx i126_39 rfl
theorem i126_40 : mj_ins 126 40 = some (.imul, 41) := by decide +kernel
theorem e126_40 {ls : mj_L} {st : List Value} {σ : mj_S} {τ : mj_T} {x y : Int32} : mj_E 126 40 ls (.int y :: .int x :: st) σ τ = mj_E 126 41 ls (.int (x * y) :: st) σ τ := mj_nx i126_40 rfl
theorem i126_41 : mj_ins 126 41 = some (.iload 2, 42) := by decide +kernel
theorem e126_41 {ls : mj_L} {st : List Value} {σ : mj_S} {τ : mj_T} {a0 a1 : Option Value} {v : Int32} : mj_E 126 41 (a0 :: a1 :: some (.int v) :: ls) st σ τ = mj_E 126 42 (a0 :: a1 :: some (.int v) :: ls) (.int v :: st) σ τ := mj_nx i126_41 rfl
theorem i126_42 : mj_ins 126 42 = some (.iadd, 43) := by decide +kernel
theorem e126_42 {ls : mj_L} {st : List Value} {σ : mj_S} {τ : mj_T} {x y : Int32} : mj_E 126 42 ls (.int y :: .int x :: st) σ τ = mj_E 126 43 ls (.int (x + y) :: st) σ τ := mj_nx i126_42 rfl
theorem i126_43 : mj_ins 126 43 = some (.laload, 44) := by decide +kernel
theorem e126_43 {ls : mj_L} {st : List Value} {σ : mj_S} {τ : mj_T} {x : Int32} {k : Nat} : mj_E 126 43 ls (.int x :: .ref k :: st) σ τ = if mj_ib (mj_ll k) x = true then mj_E 126 44 ls (.long (τ k x.toNatClampNeg) :: st) σ τ else none := mj_lald i126_43
theorem i126_44 : mj_ins 126 44 = some (.goto 48, 47) := by decide +kernel
theorem e126_44 {ls : mj_L} {st : List Value} {σ : mj_S} {τ : mj_T} : mj_E 126 44 ls st σ τ = mj_E 126 48 ls st σ τ := mj_nx i126_44 rfl
theorem i126_47 : mj_ins 126 47 = some (.lconst 0, 48) := by decide +kernel
theorem e126_47 {ls : mj_L} {st : List Value} {σ : mj_S} {τ : mj_T} : mj_E 126 47 ls st σ τ = mj_E 126 48 ls (.long 0 :: st) σ τ := mj_nx i126_47 rfl
theorem i126_48 : mj_ins 126 48 = some (.lreturn, 49) := by decide +kernel
theorem e126_48 {ls : mj_L} {σ : mj_S} {τ : mj_T} {v : Int64} : mj_E 126 48 ls [.long v] σ τ = some (some (.long v), σ, τ) := mj_lrt i126_48 rfl
theorem c127 {σ : mj_S} {τ : mj_T} {r : Nat} {x0 : Int32} {x1 : Int32} : mj_C 127 [.ref r, .int x0, .int x1] σ τ = mj_E 127 0 [some (.ref r), some (.int x0), some (.int x1)] [] σ τ := rfl
theorem i127_0 : mj_ins 127 0 = some (.aload 0, 1) := by decide +kernel
theorem e127_0 {ls : mj_L} {st : List Value} {σ : mj_S} {τ : mj_T} {v : Nat} : mj_E 127 0 (some (.ref v) :: ls) st σ τ = mj_E 127 1 (some (.ref v) :: ls) (.ref v :: st) σ τ := mj_nx i127_0 rfl
theorem i127_1 : mj_ins 127 1 = some (.iload 1, 2) := by decide +kernel
theorem e127_1 {ls : mj_L} {st : List Value} {σ : mj_S} {τ : mj_T} {a0 : Option Value} {v : Int32} : mj_E 127 1 (a0 :: some (.int v) :: ls) st σ τ = mj_E 127 2 (a0 :: some (.int v) :: ls) (.int v :: st) σ τ := mj_nx i127_1 rfl
theorem i127_2 : mj_ins 127 2 = some (.invokevirtual 119, 5) := by decide +kernel
theorem e127_2 {ls : mj_L} {σ : mj_S} {τ : mj_T} {r : Nat} {x0 : Int32} : mj_E 127 2 ls [.int x0, .ref r] σ τ = if mj_rcv r 7 = true then mj_bd (mj_C 119 [.ref r, .int x0] σ τ) (mj_K 127 5 ls []) else none := mj_clV (as := [.int x0]) (r := []) i127_2 (by decide +kernel : mj_vk 127 119 1 0 2 false = true) (by decide +kernel)
theorem i127_5 : mj_ins 127 5 = some (.ifCond .eq 21, 8) := by decide +kernel
theorem e127_5 {ls : mj_L} {st : List Value} {σ : mj_S} {τ : mj_T} {x : Int32} : mj_E 127 5 ls (.int x :: st) σ τ = if x = 0 then mj_E 127 21 ls st σ τ else mj_E 127 8 ls st σ τ := (mj_ifc i127_5).trans (mj_cdT rfl)
theorem i127_8 : mj_ins 127 8 = some (.iload 2, 9) := by decide +kernel
theorem e127_8 {ls : mj_L} {st : List Value} {σ : mj_S} {τ : mj_T} {a0 a1 : Option Value} {v : Int32} : mj_E 127 8 (a0 :: a1 :: some (.int v) :: ls) st σ τ = mj_E 127 9 (a0 :: a1 :: some (.int v) :: ls) (.int v :: st) σ τ := mj_nx i127_8 rfl
theorem i127_9 : mj_ins 127 9 = some (.iconst (-1), 10) := by decide +kernel
theorem e127_9 {ls : mj_L} {st : List Value} {σ : mj_S} {τ : mj_T} : mj_E 127 9 ls st σ τ = mj_E 127 10 ls (.int ((-1)) :: st) σ τ := mj_nx i127_9 rfl
theorem i127_10 : mj_ins 127 10 = some (.if_icmp .eq 27, 13) := by decide +kernel
theorem e127_10 {ls : mj_L} {st : List Value} {σ : mj_S} {τ : mj_T} {x y : Int32} : mj_E 127 10 ls (.int y :: .int x :: st) σ τ = if x = y then mj_E 127 27 ls st σ τ else mj_E 127 13 ls st σ τ := (mj_ifi i127_10).trans (mj_cdT rfl)
theorem i127_13 : mj_ins 127 13 = some (.aload 0, 14) := by decide +kernel
theorem e127_13 {ls : mj_L} {st : List Value} {σ : mj_S} {τ : mj_T} {v : Nat} : mj_E 127 13 (some (.ref v) :: ls) st σ τ = mj_E 127 14 (some (.ref v) :: ls) (.ref v :: st) σ τ := mj_nx i127_13 rfl
theorem i127_14 : mj_ins 127 14 = some (.iload 2, 15) := by decide +kernel
theorem e127_14 {ls : mj_L} {st : List Value} {σ : mj_S} {τ : mj_T} {a0 a1 : Option Value} {v : Int32} : mj_E 127 14 (a0 :: a1 :: some (.int v) :: ls) st σ τ = mj_E 127 15 (a0 :: a1 :: some (.int v) :: ls) (.int v :: st) σ τ := mj_nx i127_14 rfl
theorem i127_15 : mj_ins 127 15 = some (.invokevirtual 120, 18) := by decide +kernel
theorem e127_15 {ls : mj_L} {σ : mj_S} {τ : mj_T} {r : Nat} {x0 : Int32} : mj_E 127 15 ls [.int x0, .ref r] σ τ = if mj_rcv r 7 = true then mj_bd (mj_C 120 [.ref r, .int x0] σ τ) (mj_K 127 18 ls []) else none := mj_clV (as := [.int x0]) (r := []) i127_15 (by decide +kernel : mj_vk 127 120 1 0 2 false = true) (by decide +kernel)
theorem i127_18 : mj_ins 127 18 = some (.ifCond .ne 27, 21) := by decide +kernel
theorem e127_18 {ls : mj_L} {st : List Value} {σ : mj_S} {τ : mj_T} {x : Int32} : mj_E 127 18 ls (.int x :: st) σ τ = if x = 0 then mj_E 127 21 ls st σ τ else mj_E 127 27 ls st σ τ := (mj_ifc i127_18).trans (mj_cdF rfl)
theorem i127_21 : mj_ins 127 21 = some (.aload 0, 22) := by decide +kernel
theorem e127_21 {ls : mj_L} {st : List Value} {σ : mj_S} {τ : mj_T} {v : Nat} : mj_E 127 21 (some (.ref v) :: ls) st σ τ = mj_E 127 22 (some (.ref v) :: ls) (.ref v :: st) σ τ := mj_nx i127_21 rfl
theorem i127_22 : mj_ins 127 22 = some (.iconst (-1), 23) := by decide +kernel
theorem e127_22 {ls : mj_L} {st : List Value} {σ : mj_S} {τ : mj_T} : mj_E 127 22 ls st σ τ = mj_E 127 23 ls (.int ((-1)) :: st) σ τ := mj_nx i127_22 rfl
theorem i127_23 : mj_ins 127 23 = some (.invokevirtual 117, 26) := by decide +kernel
theorem e127_23 {ls : mj_L} {σ : mj_S} {τ : mj_T} {r : Nat} {x0 : Int32} : mj_E 127 23 ls [.int x0, .ref r] σ τ = if mj_rcv r 7 = true then mj_bd (mj_C 117 [.ref r, .int x0] σ τ) (mj_K 127 26 ls []) else none := mj_clV (as := [.int x0]) (r := []) i127_23 (by decide +kernel : mj_vk 127 117 1 0 2 false = true) (by decide +kernel)
theorem i127_26 : mj_ins 127 26 = some (.ireturn, 27) := by decide +kernel
theorem e127_26 {ls : mj_L} {σ : mj_S} {τ : mj_T} {v : Int32} : mj_E 127 26 ls [.int v] σ τ = some (some (.int v), σ, τ) := mj_irt i127_26 rfl
theorem i127_27 : mj_ins 127 27 = some (.aload 0, 28) := by decide +kernel
theorem e127_27 {ls : mj_L} {st : List Value} {σ : mj_S} {τ : mj_T} {v : Nat} : mj_E 127 27 (some (.ref v) :: ls) st σ τ = mj_E 127 28 (some (.ref v) :: ls) (.ref v :: st) σ τ := mj_nx i127_27 rfl
theorem i127_28 : mj_ins 127 28 = some (.getfield 717, 31) := by decide +kernel
theorem e127_28 {ls : mj_L} {st : List Value} {σ : mj_S} {τ : mj_T} : mj_E 127 28 ls (.ref 62 :: st) σ τ = mj_E 127 31 ls (.ref 74 :: st) σ τ := mj_nx i127_28 rfl
theorem i127_31 : mj_ins 127 31 = some (.iload 1, 32) := by decide +kernel
theorem e127_31 {ls : mj_L} {st : List Value} {σ : mj_S} {τ : mj_T} {a0 : Option Value} {v : Int32} : mj_E 127 31 (a0 :: some (.int v) :: ls) st σ τ = mj_E 127 32 (a0 :: some (.int v) :: ls) (.int v :: st) σ τ := mj_nx i127_31 rfl
theorem i127_32 : mj_ins 127 32 = some (.iload 2, 33) := by decide +kernel
theorem e127_32 {ls : mj_L} {st : List Value} {σ : mj_S} {τ : mj_T} {a0 a1 : Option Value} {v : Int32} : mj_E 127 32 (a0 :: a1 :: some (.int v) :: ls) st σ τ = mj_E 127 33 (a0 :: a1 :: some (.int v) :: ls) (.int v :: st) σ τ := mj_nx i127_32 rfl
theorem i127_33 : mj_ins 127 33 = some (.iconst (-1), 34) := by decide +kernel
theorem e127_33 {ls : mj_L} {st : List Value} {σ : mj_S} {τ : mj_T} : mj_E 127 33 ls st σ τ = mj_E 127 34 ls (.int ((-1)) :: st) σ τ := mj_nx i127_33 rfl
theorem i127_34 : mj_ins 127 34 = some (.if_icmp .ne 41, 37) := by decide +kernel
theorem e127_34 {ls : mj_L} {st : List Value} {σ : mj_S} {τ : mj_T} {x y : Int32} : mj_E 127 34 ls (.int y :: .int x :: st) σ τ = if x = y then mj_E 127 37 ls st σ τ else mj_E 127 41 ls st σ τ := (mj_ifi i127_34).trans (mj_cdF rfl)
theorem i127_37 : mj_ins 127 37 = some (.iconst (0), 38) := by decide +kernel
theorem e127_37 {ls : mj_L} {st : List Value} {σ : mj_S} {τ : mj_T} : mj_E 127 37 ls st σ τ = mj_E 127 38 ls (.int (nI 0) :: st) σ τ := mj_nx i127_37 rfl
theorem i127_38 : mj_ins 127 38 = some (.goto 42, 41) := by decide +kernel
theorem e127_38 {ls : mj_L} {st : List Value} {σ : mj_S} {τ : mj_T} : mj_E 127 38 ls st σ τ = mj_E 127 42 ls st σ τ := mj_nx i127_38 rfl
theorem i127_41 : mj_ins 127 41 = some (.iconst (2), 42) := by decide +kernel
theorem e127_41 {ls : mj_L} {st : List Value} {σ : mj_S} {τ : mj_T} : mj_E 127 41 ls st σ τ = mj_E 127 42 ls (.int (nI 2) :: st) σ τ := mj_nx i127_41 rfl
theorem i127_42 : mj_ins 127 42 = some (.iastore, 43) := by decide +kernel
theorem e127_42 {ls : mj_L} {st : List Value} {σ : mj_S} {τ : mj_T} {x v : Int32} {k : Nat} : mj_E 127 42 ls (.int v :: .int x :: .ref k :: st) σ τ = if mj_ib (mj_lw k) x = true then mj_E 127 43 ls st (mj_up σ k x.toNatClampNeg v) τ else none := mj_ast i127_42
theorem i127_43 : mj_ins 127 43 = some (.aload 0, 44) := by decide +kernel
theorem e127_43 {ls : mj_L} {st : List Value} {σ : mj_S} {τ : mj_T} {v : Nat} : mj_E 127 43 (some (.ref v) :: ls) st σ τ = mj_E 127 44 (some (.ref v) :: ls) (.ref v :: st) σ τ := mj_nx i127_43 rfl
theorem i127_44 : mj_ins 127 44 = some (.getfield 720, 47) := by decide +kernel
theorem e127_44 {ls : mj_L} {st : List Value} {σ : mj_S} {τ : mj_T} : mj_E 127 44 ls (.ref 62 :: st) σ τ = mj_E 127 47 ls (.ref 77 :: st) σ τ := mj_nx i127_44 rfl
theorem i127_47 : mj_ins 127 47 = some (.iload 1, 48) := by decide +kernel
theorem e127_47 {ls : mj_L} {st : List Value} {σ : mj_S} {τ : mj_T} {a0 : Option Value} {v : Int32} : mj_E 127 47 (a0 :: some (.int v) :: ls) st σ τ = mj_E 127 48 (a0 :: some (.int v) :: ls) (.int v :: st) σ τ := mj_nx i127_47 rfl
theorem i127_48 : mj_ins 127 48 = some (.iload 2, 49) := by decide +kernel
theorem e127_48 {ls : mj_L} {st : List Value} {σ : mj_S} {τ : mj_T} {a0 a1 : Option Value} {v : Int32} : mj_E 127 48 (a0 :: a1 :: some (.int v) :: ls) st σ τ = mj_E 127 49 (a0 :: a1 :: some (.int v) :: ls) (.int v :: st) σ τ := mj_nx i127_48 rfl
theorem i127_49 : mj_ins 127 49 = some (.iastore, 50) := by decide +kernel
theorem e127_49 {ls : mj_L} {st : List Value} {σ : mj_S} {τ : mj_T} {x v : Int32} {k : Nat} : mj_E 127 49 ls (.int v :: .int x :: .ref k :: st) σ τ = if mj_ib (mj_lw k) x = true then mj_E 127 50 ls st (mj_up σ k x.toNatClampNeg v) τ else none := mj_ast i127_49
theorem i127_50 : mj_ins 127 50 = some (.iload 2, 51) := by decide +kernel
theorem e127_50 {ls : mj_L} {st : List Value} {σ : mj_S} {τ : mj_T} {a0 a1 : Option Value} {v : Int32} : mj_E 127 50 (a0 :: a1 :: some (.int v) :: ls) st σ τ = mj_E 127 51 (a0 :: a1 :: some (.int v) :: ls) (.int v :: st) σ τ := mj_nx i127_50 rfl
theorem i127_51 : mj_ins 127 51 = some (.iconst (-1), 52) := by decide +kernel
theorem e127_51 {ls : mj_L} {st : List Value} {σ : mj_S} {τ : mj_T} : mj_E 127 51 ls st σ τ = mj_E 127 52 ls (.int ((-1)) :: st) σ τ := mj_nx i127_51 rfl
theorem i127_52 : mj_ins 127 52 = some (.if_icmp .ne 59, 55) := by decide +kernel
theorem e127_52 {ls : mj_L} {st : List Value} {σ : mj_S} {τ : mj_T} {x y : Int32} : mj_E 127 52 ls (.int y :: .int x :: st) σ τ = if x = y then mj_E 127 55 ls st σ τ else mj_E 127 59 ls st σ τ := (mj_ifi i127_52).trans (mj_cdF rfl)
theorem i127_55 : mj_ins 127 55 = some (.iconst (0), 56) := by decide +kernel
theorem e127_55 {ls : mj_L} {st : List Value} {σ : mj_S} {τ : mj_T} : mj_E 127 55 ls st σ τ = mj_E 127 56 ls (.int (nI 0) :: st) σ τ := mj_nx i127_55 rfl
theorem i127_56 : mj_ins 127 56 = some (.goto 60, 59) := by decide +kernel
theorem e127_56 {ls : mj_L} {st : List Value} {σ : mj_S} {τ : mj_T} : mj_E 127 56 ls st σ τ = mj_E 127 60 ls st σ τ := mj_nx i127_56 rfl
theorem i127_59 : mj_ins 127 59 = some (.iconst (1), 60) := by decide +kernel
theorem e127_59 {ls : mj_L} {st : List Value} {σ : mj_S} {τ : mj_T} : mj_E 127 59 ls st σ τ = mj_E 127 60 ls (.int (nI 1) :: st) σ τ := mj_nx i127_59 rfl
theorem i127_60 : mj_ins 127 60 = some (.ireturn, 61) := by decide +kernel
theorem e127_60 {ls : mj_L} {σ : mj_S} {τ : mj_T} {v : Int32} : mj_E 127 60 ls [.int v] σ τ = some (some (.int v), σ, τ) := mj_irt i127_60 rfl
theorem c128 {σ : mj_S} {τ : mj_T} {r : Nat} {x0 : Int32} : mj_C 128 [.ref r, .int x0] σ τ = mj_E 128 0 [some (.ref r), some (.int x0)] [] σ τ := rfl
theorem i128_0 : mj_ins 128 0 = some (.aload 0, 1) := by decide +kernel
theorem e128_0 {ls : mj_L} {st : List Value} {σ : mj_S} {τ : mj_T} {v : Nat} : mj_E 128 0 (some (.ref v) :: ls) st σ τ = mj_E 128 1 (some (.ref v) :: ls) (.ref v :: st) σ τ := mj_nx i128_0 rfl
theorem i128_1 : mj_ins 128 1 = some (.iload 1, 2) := by decide +kernel
theorem e128_1 {ls : mj_L} {st : List Value} {σ : mj_S} {τ : mj_T} {a0 : Option Value} {v : Int32} : mj_E 128 1 (a0 :: some (.int v) :: ls) st σ τ = mj_E 128 2 (a0 :: some (.int v) :: ls) (.int v :: st) σ τ := mj_nx i128_1 rfl
theorem i128_2 : mj_ins 128 2 = some (.invokevirtual 119, 5) := by decide +kernel
theorem e128_2 {ls : mj_L} {σ : mj_S} {τ : mj_T} {r : Nat} {x0 : Int32} : mj_E 128 2 ls [.int x0, .ref r] σ τ = if mj_rcv r 7 = true then mj_bd (mj_C 119 [.ref r, .int x0] σ τ) (mj_K 128 5 ls []) else none := mj_clV (as := [.int x0]) (r := []) i128_2 (by decide +kernel : mj_vk 128 119 1 0 2 false = true) (by decide +kernel)
theorem i128_5 : mj_ins 128 5 = some (.ifCond .eq 17, 8) := by decide +kernel
theorem e128_5 {ls : mj_L} {st : List Value} {σ : mj_S} {τ : mj_T} {x : Int32} : mj_E 128 5 ls (.int x :: st) σ τ = if x = 0 then mj_E 128 17 ls st σ τ else mj_E 128 8 ls st σ τ := (mj_ifc i128_5).trans (mj_cdT rfl)
theorem i128_8 : mj_ins 128 8 = some (.aload 0, 9) := by decide +kernel
theorem e128_8 {ls : mj_L} {st : List Value} {σ : mj_S} {τ : mj_T} {v : Nat} : mj_E 128 8 (some (.ref v) :: ls) st σ τ = mj_E 128 9 (some (.ref v) :: ls) (.ref v :: st) σ τ := mj_nx i128_8 rfl
theorem i128_9 : mj_ins 128 9 = some (.getfield 717, 12) := by decide +kernel
theorem e128_9 {ls : mj_L} {st : List Value} {σ : mj_S} {τ : mj_T} : mj_E 128 9 ls (.ref 62 :: st) σ τ = mj_E 128 12 ls (.ref 74 :: st) σ τ := mj_nx i128_9 rfl
theorem i128_12 : mj_ins 128 12 = some (.iload 1, 13) := by decide +kernel
theorem e128_12 {ls : mj_L} {st : List Value} {σ : mj_S} {τ : mj_T} {a0 : Option Value} {v : Int32} : mj_E 128 12 (a0 :: some (.int v) :: ls) st σ τ = mj_E 128 13 (a0 :: some (.int v) :: ls) (.int v :: st) σ τ := mj_nx i128_12 rfl
theorem i128_13 : mj_ins 128 13 = some (.iaload, 14) := by decide +kernel
theorem e128_13 {ls : mj_L} {st : List Value} {σ : mj_S} {τ : mj_T} {x : Int32} {k : Nat} : mj_E 128 13 ls (.int x :: .ref k :: st) σ τ = if mj_ib (mj_li σ k) x = true then mj_E 128 14 ls (.int (σ k x.toNatClampNeg) :: st) σ τ else none := mj_ald i128_13
theorem i128_14 : mj_ins 128 14 = some (.ifCond .ne 19, 17) := by decide +kernel
theorem e128_14 {ls : mj_L} {st : List Value} {σ : mj_S} {τ : mj_T} {x : Int32} : mj_E 128 14 ls (.int x :: st) σ τ = if x = 0 then mj_E 128 17 ls st σ τ else mj_E 128 19 ls st σ τ := (mj_ifc i128_14).trans (mj_cdF rfl)
theorem i128_17 : mj_ins 128 17 = some (.iconst (-1), 18) := by decide +kernel
theorem e128_17 {ls : mj_L} {st : List Value} {σ : mj_S} {τ : mj_T} : mj_E 128 17 ls st σ τ = mj_E 128 18 ls (.int ((-1)) :: st) σ τ := mj_nx i128_17 rfl
theorem i128_18 : mj_ins 128 18 = some (.ireturn, 19) := by decide +kernel
theorem e128_18 {ls : mj_L} {σ : mj_S} {τ : mj_T} {v : Int32} : mj_E 128 18 ls [.int v] σ τ = some (some (.int v), σ, τ) := mj_irt i128_18 rfl
theorem i128_19 : mj_ins 128 19 = some (.aload 0, 20) := by decide +kernel
theorem e128_19 {ls : mj_L} {st : List Value} {σ : mj_S} {τ : mj_T} {v : Nat} : mj_E 128 19 (some (.ref v) :: ls) st σ τ = mj_E 128 20 (some (.ref v) :: ls) (.ref v :: st) σ τ := mj_nx i128_19 rfl
theorem i128_20 : mj_ins 128 20 = some (.getfield 717, 23) := by decide +kernel
theorem e128_20 {ls : mj_L} {st : List Value} {σ : mj_S} {τ : mj_T} : mj_E 128 20 ls (.ref 62 :: st) σ τ = mj_E 128 23 ls (.ref 74 :: st) σ τ := mj_nx i128_20 rfl
theorem i128_23 : mj_ins 128 23 = some (.iload 1, 24) := by decide +kernel
theorem e128_23 {ls : mj_L} {st : List Value} {σ : mj_S} {τ : mj_T} {a0 : Option Value} {v : Int32} : mj_E 128 23 (a0 :: some (.int v) :: ls) st σ τ = mj_E 128 24 (a0 :: some (.int v) :: ls) (.int v :: st) σ τ := mj_nx i128_23 rfl
theorem i128_24 : mj_ins 128 24 = some (.iaload, 25) := by decide +kernel
theorem e128_24 {ls : mj_L} {st : List Value} {σ : mj_S} {τ : mj_T} {x : Int32} {k : Nat} : mj_E 128 24 ls (.int x :: .ref k :: st) σ τ = if mj_ib (mj_li σ k) x = true then mj_E 128 25 ls (.int (σ k x.toNatClampNeg) :: st) σ τ else none := mj_ald i128_24
theorem i128_25 : mj_ins 128 25 = some (.iconst (1), 26) := by decide +kernel
theorem e128_25 {ls : mj_L} {st : List Value} {σ : mj_S} {τ : mj_T} : mj_E 128 25 ls st σ τ = mj_E 128 26 ls (.int (nI 1) :: st) σ τ := mj_nx i128_25 rfl
theorem i128_26 : mj_ins 128 26 = some (.if_icmp .ne 41, 29) := by decide +kernel
theorem e128_26 {ls : mj_L} {st : List Value} {σ : mj_S} {τ : mj_T} {x y : Int32} : mj_E 128 26 ls (.int y :: .int x :: st) σ τ = if x = y then mj_E 128 29 ls st σ τ else mj_E 128 41 ls st σ τ := (mj_ifi i128_26).trans (mj_cdF rfl)
theorem i128_29 : mj_ins 128 29 = some (.iconst (100), 31) := by decide +kernel
theorem e128_29 {ls : mj_L} {st : List Value} {σ : mj_S} {τ : mj_T} : mj_E 128 29 ls st σ τ = mj_E 128 31 ls (.int (nI 100) :: st) σ τ := mj_nx i128_29 rfl
theorem i128_31 : mj_ins 128 31 = some (.aload 0, 32) := by decide +kernel
theorem e128_31 {ls : mj_L} {st : List Value} {σ : mj_S} {τ : mj_T} {v : Nat} : mj_E 128 31 (some (.ref v) :: ls) st σ τ = mj_E 128 32 (some (.ref v) :: ls) (.ref v :: st) σ τ := mj_nx i128_31 rfl
theorem i128_32 : mj_ins 128 32 = some (.getfield 718, 35) := by decide +kernel
theorem e128_32 {ls : mj_L} {st : List Value} {σ : mj_S} {τ : mj_T} : mj_E 128 32 ls (.ref 62 :: st) σ τ = mj_E 128 35 ls (.ref 75 :: st) σ τ := mj_nx i128_32 rfl
theorem i128_35 : mj_ins 128 35 = some (.iload 1, 36) := by decide +kernel
theorem e128_35 {ls : mj_L} {st : List Value} {σ : mj_S} {τ : mj_T} {a0 : Option Value} {v : Int32} : mj_E 128 35 (a0 :: some (.int v) :: ls) st σ τ = mj_E 128 36 (a0 :: some (.int v) :: ls) (.int v :: st) σ τ := mj_nx i128_35 rfl
theorem i128_36 : mj_ins 128 36 = some (.iaload, 37) := by decide +kernel
theorem e128_36 {ls : mj_L} {st : List Value} {σ : mj_S} {τ : mj_T} {x : Int32} {k : Nat} : mj_E 128 36 ls (.int x :: .ref k :: st) σ τ = if mj_ib (mj_li σ k) x = true then mj_E 128 37 ls (.int (σ k x.toNatClampNeg) :: st) σ τ else none := mj_ald i128_36
theorem i128_37 : mj_ins 128 37 = some (.iadd, 38) := by decide +kernel
theorem e128_37 {ls : mj_L} {st : List Value} {σ : mj_S} {τ : mj_T} {x y : Int32} : mj_E 128 37 ls (.int y :: .int x :: st) σ τ = mj_E 128 38 ls (.int (x + y) :: st) σ τ := mj_nx i128_37 rfl
theorem i128_38 : mj_ins 128 38 = some (.goto 47, 41) := by decide +kernel
theorem e128_38 {ls : mj_L} {st : List Value} {σ : mj_S} {τ : mj_T} : mj_E 128 38 ls st σ τ = mj_E 128 47 ls st σ τ := mj_nx i128_38 rfl
theorem i128_41 : mj_ins 128 41 = some (.aload 0, 42) := by decide +kernel
theorem e128_41 {ls : mj_L} {st : List Value} {σ : mj_S} {τ : mj_T} {v : Nat} : mj_E 128 41 (some (.ref v) :: ls) st σ τ = mj_E 128 42 (some (.ref v) :: ls) (.ref v :: st) σ τ := mj_nx i128_41 rfl
theorem i128_42 : mj_ins 128 42 = some (.getfield 720, 45) := by decide +kernel
theorem e128_42 {ls : mj_L} {st : List Value} {σ : mj_S} {τ : mj_T} : mj_E 128 42 ls (.ref 62 :: st) σ τ = mj_E 128 45 ls (.ref 77 :: st) σ τ := mj_nx i128_42 rfl
theorem i128_45 : mj_ins 128 45 = some (.iload 1, 46) := by decide +kernel
theorem e128_45 {ls : mj_L} {st : List Value} {σ : mj_S} {τ : mj_T} {a0 : Option Value} {v : Int32} : mj_E 128 45 (a0 :: some (.int v) :: ls) st σ τ = mj_E 128 46 (a0 :: some (.int v) :: ls) (.int v :: st) σ τ := mj_nx i128_45 rfl
theorem i128_46 : mj_ins 128 46 = some (.iaload, 47) := by decide +kernel
theorem e128_46 {ls : mj_L} {st : List Value} {σ : mj_S} {τ : mj_T} {x : Int32} {k : Nat} : mj_E 128 46 ls (.int x :: .ref k :: st) σ τ = if mj_ib (mj_li σ k) x = true then mj_E 128 47 ls (.int (σ k x.toNatClampNeg) :: st) σ τ else none := mj_ald i128_46
theorem i128_47 : mj_ins 128 47 = some (.ireturn, 48) := by decide +kernel
theorem e128_47 {ls : mj_L} {σ : mj_S} {τ : mj_T} {v : Int32} : mj_E 128 47 ls [.int v] σ τ = some (some (.int v), σ, τ) := mj_irt i128_47 rfl
theorem c129 {σ : mj_S} {τ : mj_T} {r : Nat} {x0 : Int32} {x1 : Int32} : mj_C 129 [.ref r, .int x0, .int x1] σ τ = mj_E 129 0 [some (.ref r), some (.int x0), some (.int x1), none, none, none] [] σ τ := rfl
theorem i129_0 : mj_ins 129 0 = some (.aload 0, 1) := by decide +kernel
theorem e129_0 {ls : mj_L} {st : List Value} {σ : mj_S} {τ : mj_T} {v : Nat} : mj_E 129 0 (some (.ref v) :: ls) st σ τ = mj_E 129 1 (some (.ref v) :: ls) (.ref v :: st) σ τ := mj_nx i129_0 rfl
theorem i129_1 : mj_ins 129 1 = some (.iload 1, 2) := by decide +kernel
theorem e129_1 {ls : mj_L} {st : List Value} {σ : mj_S} {τ : mj_T} {a0 : Option Value} {v : Int32} : mj_E 129 1 (a0 :: some (.int v) :: ls) st σ τ = mj_E 129 2 (a0 :: some (.int v) :: ls) (.int v :: st) σ τ := mj_nx i129_1 rfl
theorem i129_2 : mj_ins 129 2 = some (.invokevirtual 119, 5) := by decide +kernel
theorem e129_2 {ls : mj_L} {σ : mj_S} {τ : mj_T} {r : Nat} {x0 : Int32} : mj_E 129 2 ls [.int x0, .ref r] σ τ = if mj_rcv r 7 = true then mj_bd (mj_C 119 [.ref r, .int x0] σ τ) (mj_K 129 5 ls []) else none := mj_clV (as := [.int x0]) (r := []) i129_2 (by decide +kernel : mj_vk 129 119 1 0 2 false = true) (by decide +kernel)
theorem i129_5 : mj_ins 129 5 = some (.ifCond .eq 18, 8) := by decide +kernel
theorem e129_5 {ls : mj_L} {st : List Value} {σ : mj_S} {τ : mj_T} {x : Int32} : mj_E 129 5 ls (.int x :: st) σ τ = if x = 0 then mj_E 129 18 ls st σ τ else mj_E 129 8 ls st σ τ := (mj_ifc i129_5).trans (mj_cdT rfl)
theorem i129_8 : mj_ins 129 8 = some (.iload 2, 9) := by decide +kernel
theorem e129_8 {ls : mj_L} {st : List Value} {σ : mj_S} {τ : mj_T} {a0 a1 : Option Value} {v : Int32} : mj_E 129 8 (a0 :: a1 :: some (.int v) :: ls) st σ τ = mj_E 129 9 (a0 :: a1 :: some (.int v) :: ls) (.int v :: st) σ τ := mj_nx i129_8 rfl
theorem i129_9 : mj_ins 129 9 = some (.ifCond .lt 18, 12) := by decide +kernel
theorem e129_9 {ls : mj_L} {st : List Value} {σ : mj_S} {τ : mj_T} {x : Int32} : mj_E 129 9 ls (.int x :: st) σ τ = if x < 0 then mj_E 129 18 ls st σ τ else mj_E 129 12 ls st σ τ := (mj_ifc i129_9).trans (mj_cdT rfl)
theorem i129_12 : mj_ins 129 12 = some (.iload 2, 13) := by decide +kernel
theorem e129_12 {ls : mj_L} {st : List Value} {σ : mj_S} {τ : mj_T} {a0 a1 : Option Value} {v : Int32} : mj_E 129 12 (a0 :: a1 :: some (.int v) :: ls) st σ τ = mj_E 129 13 (a0 :: a1 :: some (.int v) :: ls) (.int v :: st) σ τ := mj_nx i129_12 rfl
theorem i129_13 : mj_ins 129 13 = some (.iconst (6), 15) := by decide +kernel
theorem e129_13 {ls : mj_L} {st : List Value} {σ : mj_S} {τ : mj_T} : mj_E 129 13 ls st σ τ = mj_E 129 15 ls (.int (nI 6) :: st) σ τ := mj_nx i129_13 rfl
theorem i129_15 : mj_ins 129 15 = some (.if_icmp .le 24, 18) := by decide +kernel
theorem e129_15 {ls : mj_L} {st : List Value} {σ : mj_S} {τ : mj_T} {x y : Int32} : mj_E 129 15 ls (.int y :: .int x :: st) σ τ = if x ≤ y then mj_E 129 24 ls st σ τ else mj_E 129 18 ls st σ τ := (mj_ifi i129_15).trans (mj_cdT rfl)
theorem i129_18 : mj_ins 129 18 = some (.aload 0, 19) := by decide +kernel
theorem e129_18 {ls : mj_L} {st : List Value} {σ : mj_S} {τ : mj_T} {v : Nat} : mj_E 129 18 (some (.ref v) :: ls) st σ τ = mj_E 129 19 (some (.ref v) :: ls) (.ref v :: st) σ τ := mj_nx i129_18 rfl
theorem i129_19 : mj_ins 129 19 = some (.iconst (-1), 20) := by decide +kernel
theorem e129_19 {ls : mj_L} {st : List Value} {σ : mj_S} {τ : mj_T} : mj_E 129 19 ls st σ τ = mj_E 129 20 ls (.int ((-1)) :: st) σ τ := mj_nx i129_19 rfl
theorem i129_20 : mj_ins 129 20 = some (.invokevirtual 117, 23) := by decide +kernel
theorem e129_20 {ls : mj_L} {σ : mj_S} {τ : mj_T} {r : Nat} {x0 : Int32} : mj_E 129 20 ls [.int x0, .ref r] σ τ = if mj_rcv r 7 = true then mj_bd (mj_C 117 [.ref r, .int x0] σ τ) (mj_K 129 23 ls []) else none := mj_clV (as := [.int x0]) (r := []) i129_20 (by decide +kernel : mj_vk 129 117 1 0 2 false = true) (by decide +kernel)
theorem i129_23 : mj_ins 129 23 = some (.ireturn, 24) := by decide +kernel
theorem e129_23 {ls : mj_L} {σ : mj_S} {τ : mj_T} {v : Int32} : mj_E 129 23 ls [.int v] σ τ = some (some (.int v), σ, τ) := mj_irt i129_23 rfl
theorem i129_24 : mj_ins 129 24 = some (.aload 0, 25) := by decide +kernel
theorem e129_24 {ls : mj_L} {st : List Value} {σ : mj_S} {τ : mj_T} {v : Nat} : mj_E 129 24 (some (.ref v) :: ls) st σ τ = mj_E 129 25 (some (.ref v) :: ls) (.ref v :: st) σ τ := mj_nx i129_24 rfl
theorem i129_25 : mj_ins 129 25 = some (.getfield 717, 28) := by decide +kernel
theorem e129_25 {ls : mj_L} {st : List Value} {σ : mj_S} {τ : mj_T} : mj_E 129 25 ls (.ref 62 :: st) σ τ = mj_E 129 28 ls (.ref 74 :: st) σ τ := mj_nx i129_25 rfl
theorem i129_28 : mj_ins 129 28 = some (.iload 1, 29) := by decide +kernel
theorem e129_28 {ls : mj_L} {st : List Value} {σ : mj_S} {τ : mj_T} {a0 : Option Value} {v : Int32} : mj_E 129 28 (a0 :: some (.int v) :: ls) st σ τ = mj_E 129 29 (a0 :: some (.int v) :: ls) (.int v :: st) σ τ := mj_nx i129_28 rfl
theorem i129_29 : mj_ins 129 29 = some (.iaload, 30) := by decide +kernel
theorem e129_29 {ls : mj_L} {st : List Value} {σ : mj_S} {τ : mj_T} {x : Int32} {k : Nat} : mj_E 129 29 ls (.int x :: .ref k :: st) σ τ = if mj_ib (mj_li σ k) x = true then mj_E 129 30 ls (.int (σ k x.toNatClampNeg) :: st) σ τ else none := mj_ald i129_29
theorem i129_30 : mj_ins 129 30 = some (.iconst (1), 31) := by decide +kernel
theorem e129_30 {ls : mj_L} {st : List Value} {σ : mj_S} {τ : mj_T} : mj_E 129 30 ls st σ τ = mj_E 129 31 ls (.int (nI 1) :: st) σ τ := mj_nx i129_30 rfl
theorem i129_31 : mj_ins 129 31 = some (.if_icmp .ne 41, 34) := by decide +kernel
theorem e129_31 {ls : mj_L} {st : List Value} {σ : mj_S} {τ : mj_T} {x y : Int32} : mj_E 129 31 ls (.int y :: .int x :: st) σ τ = if x = y then mj_E 129 34 ls st σ τ else mj_E 129 41 ls st σ τ := (mj_ifi i129_31).trans (mj_cdF rfl)
theorem i129_34 : mj_ins 129 34 = some (.aload 0, 35) := by decide +kernel
theorem e129_34 {ls : mj_L} {st : List Value} {σ : mj_S} {τ : mj_T} {v : Nat} : mj_E 129 34 (some (.ref v) :: ls) st σ τ = mj_E 129 35 (some (.ref v) :: ls) (.ref v :: st) σ τ := mj_nx i129_34 rfl
theorem i129_35 : mj_ins 129 35 = some (.iconst (-2), 37) := by decide +kernel
theorem e129_35 {ls : mj_L} {st : List Value} {σ : mj_S} {τ : mj_T} : mj_E 129 35 ls st σ τ = mj_E 129 37 ls (.int ((-2)) :: st) σ τ := mj_nx i129_35 rfl
theorem i129_37 : mj_ins 129 37 = some (.invokevirtual 117, 40) := by decide +kernel
theorem e129_37 {ls : mj_L} {σ : mj_S} {τ : mj_T} {r : Nat} {x0 : Int32} : mj_E 129 37 ls [.int x0, .ref r] σ τ = if mj_rcv r 7 = true then mj_bd (mj_C 117 [.ref r, .int x0] σ τ) (mj_K 129 40 ls []) else none := mj_clV (as := [.int x0]) (r := []) i129_37 (by decide +kernel : mj_vk 129 117 1 0 2 false = true) (by decide +kernel)
theorem i129_40 : mj_ins 129 40 = some (.ireturn, 41) := by decide +kernel
theorem e129_40 {ls : mj_L} {σ : mj_S} {τ : mj_T} {v : Int32} : mj_E 129 40 ls [.int v] σ τ = some (some (.int v), σ, τ) := mj_irt i129_40 rfl
theorem i129_41 : mj_ins 129 41 = some (.aload 0, 42) := by decide +kernel
theorem e129_41 {ls : mj_L} {st : List Value} {σ : mj_S} {τ : mj_T} {v : Nat} : mj_E 129 41 (some (.ref v) :: ls) st σ τ = mj_E 129 42 (some (.ref v) :: ls) (.ref v :: st) σ τ := mj_nx i129_41 rfl
theorem i129_42 : mj_ins 129 42 = some (.getfield 717, 45) := by decide +kernel
theorem e129_42 {ls : mj_L} {st : List Value} {σ : mj_S} {τ : mj_T} : mj_E 129 42 ls (.ref 62 :: st) σ τ = mj_E 129 45 ls (.ref 74 :: st) σ τ := mj_nx i129_42 rfl
theorem i129_45 : mj_ins 129 45 = some (.iload 1, 46) := by decide +kernel
theorem e129_45 {ls : mj_L} {st : List Value} {σ : mj_S} {τ : mj_T} {a0 : Option Value} {v : Int32} : mj_E 129 45 (a0 :: some (.int v) :: ls) st σ τ = mj_E 129 46 (a0 :: some (.int v) :: ls) (.int v :: st) σ τ := mj_nx i129_45 rfl
theorem i129_46 : mj_ins 129 46 = some (.iaload, 47) := by decide +kernel
theorem e129_46 {ls : mj_L} {st : List Value} {σ : mj_S} {τ : mj_T} {x : Int32} {k : Nat} : mj_E 129 46 ls (.int x :: .ref k :: st) σ τ = if mj_ib (mj_li σ k) x = true then mj_E 129 47 ls (.int (σ k x.toNatClampNeg) :: st) σ τ else none := mj_ald i129_46
theorem i129_47 : mj_ins 129 47 = some (.ifCond .ne 57, 50) := by decide +kernel
theorem e129_47 {ls : mj_L} {st : List Value} {σ : mj_S} {τ : mj_T} {x : Int32} : mj_E 129 47 ls (.int x :: st) σ τ = if x = 0 then mj_E 129 50 ls st σ τ else mj_E 129 57 ls st σ τ := (mj_ifc i129_47).trans (mj_cdF rfl)
theorem i129_50 : mj_ins 129 50 = some (.aload 0, 51) := by decide +kernel
theorem e129_50 {ls : mj_L} {st : List Value} {σ : mj_S} {τ : mj_T} {v : Nat} : mj_E 129 50 (some (.ref v) :: ls) st σ τ = mj_E 129 51 (some (.ref v) :: ls) (.ref v :: st) σ τ := mj_nx i129_50 rfl
theorem i129_51 : mj_ins 129 51 = some (.iconst (-3), 53) := by decide +kernel
theorem e129_51 {ls : mj_L} {st : List Value} {σ : mj_S} {τ : mj_T} : mj_E 129 51 ls st σ τ = mj_E 129 53 ls (.int ((-3)) :: st) σ τ := mj_nx i129_51 rfl
theorem i129_53 : mj_ins 129 53 = some (.invokevirtual 117, 56) := by decide +kernel
theorem e129_53 {ls : mj_L} {σ : mj_S} {τ : mj_T} {r : Nat} {x0 : Int32} : mj_E 129 53 ls [.int x0, .ref r] σ τ = if mj_rcv r 7 = true then mj_bd (mj_C 117 [.ref r, .int x0] σ τ) (mj_K 129 56 ls []) else none := mj_clV (as := [.int x0]) (r := []) i129_53 (by decide +kernel : mj_vk 129 117 1 0 2 false = true) (by decide +kernel)
theorem i129_56 : mj_ins 129 56 = some (.ireturn, 57) := by decide +kernel
theorem e129_56 {ls : mj_L} {σ : mj_S} {τ : mj_T} {v : Int32} : mj_E 129 56 ls [.int v] σ τ = some (some (.int v), σ, τ) := mj_irt i129_56 rfl
theorem i129_57 : mj_ins 129 57 = some (.aload 0, 58) := by decide +kernel
theorem e129_57 {ls : mj_L} {st : List Value} {σ : mj_S} {τ : mj_T} {v : Nat} : mj_E 129 57 (some (.ref v) :: ls) st σ τ = mj_E 129 58 (some (.ref v) :: ls) (.ref v :: st) σ τ := mj_nx i129_57 rfl
theorem i129_58 : mj_ins 129 58 = some (.getfield 720, 61) := by decide +kernel
theorem e129_58 {ls : mj_L} {st : List Value} {σ : mj_S} {τ : mj_T} : mj_E 129 58 ls (.ref 62 :: st) σ τ = mj_E 129 61 ls (.ref 77 :: st) σ τ := mj_nx i129_58 rfl
theorem i129_61 : mj_ins 129 61 = some (.iload 1, 62) := by decide +kernel
theorem e129_61 {ls : mj_L} {st : List Value} {σ : mj_S} {τ : mj_T} {a0 : Option Value} {v : Int32} : mj_E 129 61 (a0 :: some (.int v) :: ls) st σ τ = mj_E 129 62 (a0 :: some (.int v) :: ls) (.int v :: st) σ τ := mj_nx i129_61 rfl
theorem i129_62 : mj_ins 129 62 = some (.iaload, 63) := by decide +kernel
theorem e129_62 {ls : mj_L} {st : List Value} {σ : mj_S} {τ : mj_T} {x : Int32} {k : Nat} : mj_E 129 62 ls (.int x :: .ref k :: st) σ τ = if mj_ib (mj_li σ k) x = true then mj_E 129 63 ls (.int (σ k x.toNatClampNeg) :: st) σ τ else none := mj_ald i129_62
theorem i129_63 : mj_ins 129 63 = some (.istore 3, 64) := by decide +kernel
theorem e129_63 {ls : mj_L} {st : List Value} {σ : mj_S} {τ : mj_T} {a0 a1 a2 a3 : Option Value} {v : Int32} : mj_E 129 63 (a0 :: a1 :: a2 :: a3 :: ls) (.int v :: st) σ τ = mj_E 129 64 (a0 :: a1 :: a2 :: some (.int v) :: ls) st σ τ := mj_nx i129_63 rfl
theorem i129_64 : mj_ins 129 64 = some (.aload 0, 65) := by decide +kernel
theorem e129_64 {ls : mj_L} {st : List Value} {σ : mj_S} {τ : mj_T} {v : Nat} : mj_E 129 64 (some (.ref v) :: ls) st σ τ = mj_E 129 65 (some (.ref v) :: ls) (.ref v :: st) σ τ := mj_nx i129_64 rfl
theorem i129_65 : mj_ins 129 65 = some (.getfield 707, 68) := by decide +kernel
theorem e129_65 {ls : mj_L} {st : List Value} {σ : mj_S} {τ : mj_T} : mj_E 129 65 ls (.ref 62 :: st) σ τ = mj_E 129 68 ls (.ref 64 :: st) σ τ := mj_nx i129_65 rfl
theorem i129_68 : mj_ins 129 68 = some (.iload 3, 69) := by decide +kernel
theorem e129_68 {ls : mj_L} {st : List Value} {σ : mj_S} {τ : mj_T} {a0 a1 a2 : Option Value} {v : Int32} : mj_E 129 68 (a0 :: a1 :: a2 :: some (.int v) :: ls) st σ τ = mj_E 129 69 (a0 :: a1 :: a2 :: some (.int v) :: ls) (.int v :: st) σ τ := mj_nx i129_68 rfl
theorem i129_69 : mj_ins 129 69 = some (.iaload, 70) := by decide +kernel
theorem e129_69 {ls : mj_L} {st : List Value} {σ : mj_S} {τ : mj_T} {x : Int32} {k : Nat} : mj_E 129 69 ls (.int x :: .ref k :: st) σ τ = if mj_ib (mj_li σ k) x = true then mj_E 129 70 ls (.int (σ k x.toNatClampNeg) :: st) σ τ else none := mj_ald i129_69
theorem i129_70 : mj_ins 129 70 = some (.istore 4, 72) := by decide +kernel
theorem e129_70 {ls : mj_L} {st : List Value} {σ : mj_S} {τ : mj_T} {a0 a1 a2 a3 a4 : Option Value} {v : Int32} : mj_E 129 70 (a0 :: a1 :: a2 :: a3 :: a4 :: ls) (.int v :: st) σ τ = mj_E 129 72 (a0 :: a1 :: a2 :: a3 :: some (.int v) :: ls) st σ τ := mj_nx i129_70 rfl
theorem i129_72 : mj_ins 129 72 = some (.iload 2, 73) := by decide +kernel
theorem e129_72 {ls : mj_L} {st : List Value} {σ : mj_S} {τ : mj_T} {a0 a1 : Option Value} {v : Int32} : mj_E 129 72 (a0 :: a1 :: some (.int v) :: ls) st σ τ = mj_E 129 73 (a0 :: a1 :: some (.int v) :: ls) (.int v :: st) σ τ := mj_nx i129_72 rfl
theorem i129_73 : mj_ins 129 73 = some (.iconst (1), 74) := by decide +kernel
theorem e129_73 {ls : mj_L} {st : List Value} {σ : mj_S} {τ : mj_T} : mj_E 129 73 ls st σ τ = mj_E 129 74 ls (.int (nI 1) :: st) σ τ := mj_nx i129_73 rfl
theorem i129_74 : mj_ins 129 74 = some (.if_icmp .ne 90, 77) := by decide +kernel
theorem e129_74 {ls : mj_L} {st : List Value} {σ : mj_S} {τ : mj_T} {x y : Int32} : mj_E 129 74 ls (.int y :: .int x :: st) σ τ = if x = y then mj_E 129 77 ls st σ τ else mj_E 129 90 ls st σ τ := (mj_ifi i129_74).trans (mj_cdF rfl)
theorem i129_77 : mj_ins 129 77 = some (.iload 4, 79) := by decide +kernel
theorem e129_77 {ls : mj_L} {st : List Value} {σ : mj_S} {τ : mj_T} {a0 a1 a2 a3 : Option Value} {v : Int32} : mj_E 129 77 (a0 :: a1 :: a2 :: a3 :: some (.int v) :: ls) st σ τ = mj_E 129 79 (a0 :: a1 :: a2 :: a3 :: some (.int v) :: ls) (.int v :: st) σ τ := mj_nx i129_77 rfl
theorem i129_79 : mj_ins 129 79 = some (.iconst (3), 80) := by decide +kernel
theorem e129_79 {ls : mj_L} {st : List Value} {σ : mj_S} {τ : mj_T} : mj_E 129 79 ls st σ τ = mj_E 129 80 ls (.int (nI 3) :: st) σ τ := mj_nx i129_79 rfl
theorem i129_80 : mj_ins 129 80 = some (.if_icmp .eq 113, 83) := by decide +kernel
theorem e129_80 {ls : mj_L} {st : List Value} {σ : mj_S} {τ : mj_T} {x y : Int32} : mj_E 129 80 ls (.int y :: .int x :: st) σ τ = if x = y then mj_E 129 113 ls st σ τ else mj_E 129 83 ls st σ τ := (mj_ifi i129_80).trans (mj_cdT rfl)
theorem i129_83 : mj_ins 129 83 = some (.iload 4, 85) := by decide +kernel
theorem e129_83 {ls : mj_L} {st : List Value} {σ : mj_S} {τ : mj_T} {a0 a1 a2 a3 : Option Value} {v : Int32} : mj_E 129 83 (a0 :: a1 :: a2 :: a3 :: some (.int v) :: ls) st σ τ = mj_E 129 85 (a0 :: a1 :: a2 :: a3 :: some (.int v) :: ls) (.int v :: st) σ τ := mj_nx i129_83 rfl
theorem i129_85 : mj_ins 129 85 = some (.iconst (6), 87) := by decide +kernel
theorem e129_85 {ls : mj_L} {st : List Value} {σ : mj_S} {τ : mj_T} : mj_E 129 85 ls st σ τ = mj_E 129 87 ls (.int (nI 6) :: st) σ τ := mj_nx i129_85 rfl
theorem i129_87 : mj_ins 129 87 = some (.if_icmp .eq 113, 90) := by decide +kernel
theorem e129_87 {ls : mj_L} {st : List Value} {σ : mj_S} {τ : mj_T} {x y : Int32} : mj_E 129 87 ls (.int y :: .int x :: st) σ τ = if x = y then mj_E 129 113 ls st σ τ else mj_E 129 90 ls st σ τ := (mj_ifi i129_87).trans (mj_cdT rfl)
theorem i129_90 : mj_ins 129 90 = some (.iload 2, 91) := by decide +kernel
theorem e129_90 {ls : mj_L} {st : List Value} {σ : mj_S} {τ : mj_T} {a0 a1 : Option Value} {v : Int32} : mj_E 129 90 (a0 :: a1 :: some (.int v) :: ls) st σ τ = mj_E 129 91 (a0 :: a1 :: some (.int v) :: ls) (.int v :: st) σ τ := mj_nx i129_90 rfl
theorem i129_91 : mj_ins 129 91 = some (.iconst (3), 92) := by decide +kernel
theorem e129_91 {ls : mj_L} {st : List Value} {σ : mj_S} {τ : mj_T} : mj_E 129 91 ls st σ τ = mj_E 129 92 ls (.int (nI 3) :: st) σ τ := mj_nx i129_91 rfl
theorem i129_92 : mj_ins 129 92 = some (.if_icmp .ne 102, 95) := by decide +kernel
theorem e129_92 {ls : mj_L} {st : List Value} {σ : mj_S} {τ : mj_T} {x y : Int32} : mj_E 129 92 ls (.int y :: .int x :: st) σ τ = if x = y then mj_E 129 95 ls st σ τ else mj_E 129 102 ls st σ τ := (mj_ifi i129_92).trans (mj_cdF rfl)
theorem i129_95 : mj_ins 129 95 = some (.iload 4, 97) := by decide +kernel
theorem e129_95 {ls : mj_L} {st : List Value} {σ : mj_S} {τ : mj_T} {a0 a1 a2 a3 : Option Value} {v : Int32} : mj_E 129 95 (a0 :: a1 :: a2 :: a3 :: some (.int v) :: ls) st σ τ = mj_E 129 97 (a0 :: a1 :: a2 :: a3 :: some (.int v) :: ls) (.int v :: st) σ τ := mj_nx i129_95 rfl
theorem i129_97 : mj_ins 129 97 = some (.iconst (6), 99) := by decide +kernel
theorem e129_97 {ls : mj_L} {st : List Value} {σ : mj_S} {τ : mj_T} : mj_E 129 97 ls st σ τ = mj_E 129 99 ls (.int (nI 6) :: st) σ τ := mj_nx i129_97 rfl
theorem i129_99 : mj_ins 129 99 = some (.if_icmp .eq 113, 102) := by decide +kernel
theorem e129_99 {ls : mj_L} {st : List Value} {σ : mj_S} {τ : mj_T} {x y : Int32} : mj_E 129 99 ls (.int y :: .int x :: st) σ τ = if x = y then mj_E 129 113 ls st σ τ else mj_E 129 102 ls st σ τ := (mj_ifi i129_99).trans (mj_cdT rfl)
theorem i129_102 : mj_ins 129 102 = some (.iload 2, 103) := by decide +kernel
theorem e129_102 {ls : mj_L} {st : List Value} {σ : mj_S} {τ : mj_T} {a0 a1 : Option Value} {v : Int32} : mj_E 129 102 (a0 :: a1 :: some (.int v) :: ls) st σ τ = mj_E 129 103 (a0 :: a1 :: some (.int v) :: ls) (.int v :: st) σ τ := mj_nx i129_102 rfl
theorem i129_103 : mj_ins 129 103 = some (.iconst (2), 104) := by decide +kernel
theorem e129_103 {ls : mj_L} {st : List Value} {σ : mj_S} {τ : mj_T} : mj_E 129 103 ls st σ τ = mj_E 129 104 ls (.int (nI 2) :: st) σ τ := mj_nx i129_103 rfl
theorem i129_104 : mj_ins 129 104 = some (.if_icmp .ne 117, 107) := by decide +kernel
theorem e129_104 {ls : mj_L} {st : List Value} {σ : mj_S} {τ : mj_T} {x y : Int32} : mj_E 129 104 ls (.int y :: .int x :: st) σ τ = if x = y then mj_E 129 107 ls st σ τ else mj_E 129 117 ls st σ τ := (mj_ifi i129_104).trans (mj_cdF rfl)
theorem i129_107 : mj_ins 129 107 = some (.iload 4, 109) := by decide +kernel
theorem e129_107 {ls : mj_L} {st : List Value} {σ : mj_S} {τ : mj_T} {a0 a1 a2 a3 : Option Value} {v : Int32} : mj_E 129 107 (a0 :: a1 :: a2 :: a3 :: some (.int v) :: ls) st σ τ = mj_E 129 109 (a0 :: a1 :: a2 :: a3 :: some (.int v) :: ls) (.int v :: st) σ τ := mj_nx i129_107 rfl
theorem i129_109 : mj_ins 129 109 = some (.iconst (5), 110) := by decide +kernel
theorem e129_109 {ls : mj_L} {st : List Value} {σ : mj_S} {τ : mj_T} : mj_E 129 109 ls st σ τ = mj_E 129 110 ls (.int (nI 5) :: st) σ τ := mj_nx i129_109 rfl
theorem i129_110 : mj_ins 129 110 = some (.if_icmp .ne 117, 113) := by decide +kernel
theorem e129_110 {ls : mj_L} {st : List Value} {σ : mj_S} {τ : mj_T} {x y : Int32} : mj_E 129 110 ls (.int y :: .int x :: st) σ τ = if x = y then mj_E 129 113 ls st σ τ else mj_E 129 117 ls st σ τ := (mj_ifi i129_110).trans (mj_cdF rfl)
theorem i129_113 : mj_ins 129 113 = some (.iconst (1), 114) := by decide +kernel
theorem e129_113 {ls : mj_L} {st : List Value} {σ : mj_S} {τ : mj_T} : mj_E 129 113 ls st σ τ = mj_E 129 114 ls (.int (nI 1) :: st) σ τ := mj_nx i129_113 rfl
theorem i129_114 : mj_ins 129 114 = some (.goto 118, 117) := by decide +kernel
theorem e129_114 {ls : mj_L} {st : List Value} {σ : mj_S} {τ : mj_T} : mj_E 129 114 ls st σ τ = mj_E 129 118 ls st σ τ := mj_nx i129_114 rfl
theorem i129_117 : mj_ins 129 117 = some (.iconst (0), 118) := by decide +kernel
theorem e129_117 {ls : mj_L} {st : List Value} {σ : mj_S} {τ : mj_T} : mj_E 129 117 ls st σ τ = mj_E 129 118 ls (.int (nI 0) :: st) σ τ := mj_nx i129_117 rfl
theorem i129_118 : mj_ins 129 118 = some (.istore 5, 120) := by decide +kernel
theorem e129_118 {ls : mj_L} {st : List Value} {σ : mj_S} {τ : mj_T} {a0 a1 a2 a3 a4 a5 : Option Value} {v : Int32} : mj_E 129 118 (a0 :: a1 :: a2 :: a3 :: a4 :: a5 :: ls) (.int v :: st) σ τ = mj_E 129 120 (a0 :: a1 :: a2 :: a3 :: a4 :: some (.int v) :: ls) st σ τ := mj_nx i129_118 rfl
theorem i129_120 : mj_ins 129 120 = some (.iload 2, 121) := by decide +kernel
theorem e129_120 {ls : mj_L} {st : List Value} {σ : mj_S} {τ : mj_T} {a0 a1 : Option Value} {v : Int32} : mj_E 129 120 (a0 :: a1 :: some (.int v) :: ls) st σ τ = mj_E 129 121 (a0 :: a1 :: some (.int v) :: ls) (.int v :: st) σ τ := mj_nx i129_120 rfl
theorem i129_121 : mj_ins 129 121 = some (.ifCond .eq 142, 124) := by decide +kernel
theorem e129_121 {ls : mj_L} {st : List Value} {σ : mj_S} {τ : mj_T} {x : Int32} : mj_E 129 121 ls (.int x :: st) σ τ = if x = 0 then mj_E 129 142 ls st σ τ else mj_E 129 124 ls st σ τ := (mj_ifc i129_121).trans (mj_cdT rfl)
theorem i129_124 : mj_ins 129 124 = some (.iload 2, 125) := by decide +kernel
theorem e129_124 {ls : mj_L} {st : List Value} {σ : mj_S} {τ : mj_T} {a0 a1 : Option Value} {v : Int32} : mj_E 129 124 (a0 :: a1 :: some (.int v) :: ls) st σ τ = mj_E 129 125 (a0 :: a1 :: some (.int v) :: ls) (.int v :: st) σ τ := mj_nx i129_124 rfl
theorem i129_125 : mj_ins 129 125 = some (.iload 4, 127) := by decide +kernel
theorem e129_125 {ls : mj_L} {st : List Value} {σ : mj_S} {τ : mj_T} {a0 a1 a2 a3 : Option Value} {v : Int32} : mj_E 129 125 (a0 :: a1 :: a2 :: a3 :: some (.int v) :: ls) st σ τ = mj_E 129 127 (a0 :: a1 :: a2 :: a3 :: some (.int v) :: ls) (.int v :: st) σ τ := mj_nx i129_125 rfl
theorem i129_127 : mj_ins 129 127 = some (.if_icmp .eq 142, 130) := by decide +kernel
theorem e129_127 {ls : mj_L} {st : List Value} {σ : mj_S} {τ : mj_T} {x y : Int32} : mj_E 129 127 ls (.int y :: .int x :: st) σ τ = if x = y then mj_E 129 142 ls st σ τ else mj_E 129 130 ls st σ τ := (mj_ifi i129_127).trans (mj_cdT rfl)
theorem i129_130 : mj_ins 129 130 = some (.iload 5, 132) := by decide +kernel
theorem e129_130 {ls : mj_L} {st : List Value} {σ : mj_S} {τ : mj_T} {a0 a1 a2 a3 a4 : Option Value} {v : Int32} : mj_E 129 130 (a0 :: a1 :: a2 :: a3 :: a4 :: some (.int v) :: ls) st σ τ = mj_E 129 132 (a0 :: a1 :: a2 :: a3 :: a4 :: some (.int v) :: ls) (.int v :: st) σ τ := mj_nx i129_130 rfl
theorem i129_132 : mj_ins 129 132 = some (.ifCond .ne 142, 135) := by decide +kernel
theorem e129_132 {ls : mj_L} {st : List Value} {σ : mj_S} {τ : mj_T} {x : Int32} : mj_E 129 132 ls (.int x :: st) σ τ = if x = 0 then mj_E 129 135 ls st σ τ else mj_E 129 142 ls st σ τ := (mj_ifc i129_132).trans (mj_cdF rfl)
theorem i129_135 : mj_ins 129 135 = some (.aload 0, 136) := by decide +kernel
theorem e129_135 {ls : mj_L} {st : List Value} {σ : mj_S} {τ : mj_T} {v : Nat} : mj_E 129 135 (some (.ref v) :: ls) st σ τ = mj_E 129 136 (some (.ref v) :: ls) (.ref v :: st) σ τ := mj_nx i129_135 rfl
theorem i129_136 : mj_ins 129 136 = some (.iconst (-2), 138) := by decide +kernel
theorem e129_136 {ls : mj_L} {st : List Value} {σ : mj_S} {τ : mj_T} : mj_E 129 136 ls st σ τ = mj_E 129 138 ls (.int ((-2)) :: st) σ τ := mj_nx i129_136 rfl
theorem i129_138 : mj_ins 129 138 = some (.invokevirtual 117, 141) := by decide +kernel
theorem e129_138 {ls : mj_L} {σ : mj_S} {τ : mj_T} {r : Nat} {x0 : Int32} : mj_E 129 138 ls [.int x0, .ref r] σ τ = if mj_rcv r 7 = true then mj_bd (mj_C 117 [.ref r, .int x0] σ τ) (mj_K 129 141 ls []) else none := mj_clV (as := [.int x0]) (r := []) i129_138 (by decide +kernel : mj_vk 129 117 1 0 2 false = true) (by decide +kernel)
theorem i129_141 : mj_ins 129 141 = some (.ireturn, 142) := by decide +kernel
theorem e129_141 {ls : mj_L} {σ : mj_S} {τ : mj_T} {v : Int32} : mj_E 129 141 ls [.int v] σ τ = some (some (.int v), σ, τ) := mj_irt i129_141 rfl
theorem i129_142 : mj_ins 129 142 = some (.iload 2, 143) := by decide +kernel
theorem e129_142 {ls : mj_L} {st : List Value} {σ : mj_S} {τ : mj_T} {a0 a1 : Option Value} {v : Int32} : mj_E 129 142 (a0 :: a1 :: some (.int v) :: ls) st σ τ = mj_E 129 143 (a0 :: a1 :: some (.int v) :: ls) (.int v :: st) σ τ := mj_nx i129_142 rfl
theorem i129_143 : mj_ins 129 143 = some (.tableswitch 200 (0) (5) #[180, 200, 187, 200, 194, 187], 143) := by decide +kernel
theorem e129_143 {ls : mj_L} {st : List Value} {σ : mj_S} {τ : mj_T} {x : Int32} : mj_E 129 143 ls (.int x :: st) σ τ = if x = nI 0 then mj_E 129 180 ls st σ τ else if x = nI 1 then mj_E 129 200 ls st σ τ else if x = nI 2 then mj_E 129 187 ls st σ τ else if x = nI 3 then mj_E 129 200 ls st σ τ else if x = nI 4 then mj_E 129 194 ls st σ τ else if x = nI 5 then mj_E 129 187 ls st σ τ else mj_E 129 200 ls st σ τ := mj_tsw i129_143 (by decide)
theorem i129_180 : mj_ins 129 180 = some (.aload 0, 181) := by decide +kernel
theorem e129_180 {ls : mj_L} {st : List Value} {σ : mj_S} {τ : mj_T} {v : Nat} : mj_E 129 180 (some (.ref v) :: ls) st σ τ = mj_E 129 181 (some (.ref v) :: ls) (.ref v :: st) σ τ := mj_nx i129_180 rfl
theorem i129_181 : mj_ins 129 181 = some (.getfield 709, 184) := by decide +kernel
theorem e129_181 {ls : mj_L} {st : List Value} {σ : mj_S} {τ : mj_T} : mj_E 129 181 ls (.ref 62 :: st) σ τ = mj_E 129 184 ls (.ref 66 :: st) σ τ := mj_nx i129_181 rfl
theorem i129_184 : mj_ins 129 184 = some (.iload 3, 185) := by decide +kernel
theorem e129_184 {ls : mj_L} {st : List Value} {σ : mj_S} {τ : mj_T} {a0 a1 a2 : Option Value} {v : Int32} : mj_E 129 184 (a0 :: a1 :: a2 :: some (.int v) :: ls) st σ τ = mj_E 129 185 (a0 :: a1 :: a2 :: some (.int v) :: ls) (.int v :: st) σ τ := mj_nx i129_184 rfl
theorem i129_185 : mj_ins 129 185 = some (.iaload, 186) := by decide +kernel
theorem e129_185 {ls : mj_L} {st : List Value} {σ : mj_S} {τ : mj_T} {x : Int32} {k : Nat} : mj_E 129 185 ls (.int x :: .ref k :: st) σ τ = if mj_ib (mj_li σ k) x = true then mj_E 129 186 ls (.int (σ k x.toNatClampNeg) :: st) σ τ else none := mj_ald i129_185
theorem i129_186 : mj_ins 129 186 = some (.ireturn, 187) := by decide +kernel
theorem e129_186 {ls : mj_L} {σ : mj_S} {τ : mj_T} {v : Int32} : mj_E 129 186 ls [.int v] σ τ = some (some (.int v), σ, τ) := mj_irt i129_186 rfl
theorem i129_187 : mj_ins 129 187 = some (.aload 0, 188) := by decide +kernel
theorem e129_187 {ls : mj_L} {st : List Value} {σ : mj_S} {τ : mj_T} {v : Nat} : mj_E 129 187 (some (.ref v) :: ls) st σ τ = mj_E 129 188 (some (.ref v) :: ls) (.ref v :: st) σ τ := mj_nx i129_187 rfl
theorem i129_188 : mj_ins 129 188 = some (.getfield 708, 191) := by decide +kernel
theorem e129_188 {ls : mj_L} {st : List Value} {σ : mj_S} {τ : mj_T} : mj_E 129 188 ls (.ref 62 :: st) σ τ = mj_E 129 191 ls (.ref 65 :: st) σ τ := mj_nx i129_188 rfl
theorem i129_191 : mj_ins 129 191 = some (.iload 3, 192) := by decide +kernel
theorem e129_191 {ls : mj_L} {st : List Value} {σ : mj_S} {τ : mj_T} {a0 a1 a2 : Option Value} {v : Int32} : mj_E 129 191 (a0 :: a1 :: a2 :: some (.int v) :: ls) st σ τ = mj_E 129 192 (a0 :: a1 :: a2 :: some (.int v) :: ls) (.int v :: st) σ τ := mj_nx i129_191 rfl
theorem i129_192 : mj_ins 129 192 = some (.iaload, 193) := by decide +kernel
theorem e129_192 {ls : mj_L} {st : List Value} {σ : mj_S} {τ : mj_T} {x : Int32} {k : Nat} : mj_E 129 192 ls (.int x :: .ref k :: st) σ τ = if mj_ib (mj_li σ k) x = true then mj_E 129 193 ls (.int (σ k x.toNatClampNeg) :: st) σ τ else none := mj_ald i129_192
theorem i129_193 : mj_ins 129 193 = some (.ireturn, 194) := by decide +kernel
theorem e129_193 {ls : mj_L} {σ : mj_S} {τ : mj_T} {v : Int32} : mj_E 129 193 ls [.int v] σ τ = some (some (.int v), σ, τ) := mj_irt i129_193 rfl
theorem i129_194 : mj_ins 129 194 = some (.aload 0, 195) := by decide +kernel
theorem e129_194 {ls : mj_L} {st : List Value} {σ : mj_S} {τ : mj_T} {v : Nat} : mj_E 129 194 (some (.ref v) :: ls) st σ τ = mj_E 129 195 (some (.ref v) :: ls) (.ref v :: st) σ τ := mj_nx i129_194 rfl
theorem i129_195 : mj_ins 129 195 = some (.iload 3, 196) := by decide +kernel
theorem e129_195 {ls : mj_L} {st : List Value} {σ : mj_S} {τ : mj_T} {a0 a1 a2 : Option Value} {v : Int32} : mj_E 129 195 (a0 :: a1 :: a2 :: some (.int v) :: ls) st σ τ = mj_E 129 196 (a0 :: a1 :: a2 :: some (.int v) :: ls) (.int v :: st) σ τ := mj_nx i129_195 rfl
theorem i129_196 : mj_ins 129 196 = some (.invokevirtual 141, 199) := by decide +kernel
theorem e129_196 {ls : mj_L} {σ : mj_S} {τ : mj_T} {r : Nat} {x0 : Int32} : mj_E 129 196 ls [.int x0, .ref r] σ τ = if mj_rcv r 7 = true then mj_bd (mj_C 141 [.ref r, .int x0] σ τ) (mj_K 129 199 ls []) else none := mj_clV (as := [.int x0]) (r := []) i129_196 (by decide +kernel : mj_vk 129 141 1 0 2 false = true) (by decide +kernel)
theorem i129_199 : mj_ins 129 199 = some (.ireturn, 200) := by decide +kernel
theorem e129_199 {ls : mj_L} {σ : mj_S} {τ : mj_T} {v : Int32} : mj_E 129 199 ls [.int v] σ τ = some (some (.int v), σ, τ) := mj_irt i129_199 rfl
theorem i129_200 : mj_ins 129 200 = some (.aload 0, 201) := by decide +kernel
theorem e129_200 {ls : mj_L} {st : List Value} {σ : mj_S} {τ : mj_T} {v : Nat} : mj_E 129 200 (some (.ref v) :: ls) st σ τ = mj_E 129 201 (some (.ref v) :: ls) (.ref v :: st) σ τ := mj_nx i129_200 rfl
theorem i129_201 : mj_ins 129 201 = some (.getfield 711, 204) := by decide +kernel
theorem e129_201 {ls : mj_L} {st : List Value} {σ : mj_S} {τ : mj_T} : mj_E 129 201 ls (.ref 62 :: st) σ τ = mj_E 129 204 ls (.ref 68 :: st) σ τ := mj_nx i129_201 rfl
theorem i129_204 : mj_ins 129 204 = some (.iload 3, 205) := by decide +kernel
theorem e129_204 {ls : mj_L} {st : List Value} {σ : mj_S} {τ : mj_T} {a0 a1 a2 : Option Value} {v : Int32} : mj_E 129 204 (a0 :: a1 :: a2 :: some (.int v) :: ls) st σ τ = mj_E 129 205 (a0 :: a1 :: a2 :: some (.int v) :: ls) (.int v :: st) σ τ := mj_nx i129_204 rfl
theorem i129_205 : mj_ins 129 205 = some (.iaload, 206) := by decide +kernel
theorem e129_205 {ls : mj_L} {st : List Value} {σ : mj_S} {τ : mj_T} {x : Int32} {k : Nat} : mj_E 129 205 ls (.int x :: .ref k :: st) σ τ = if mj_ib (mj_li σ k) x = true then mj_E 129 206 ls (.int (σ k x.toNatClampNeg) :: st) σ τ else none := mj_ald i129_205
theorem i129_206 : mj_ins 129 206 = some (.ireturn, 207) := by decide +kernel
theorem e129_206 {ls : mj_L} {σ : mj_S} {τ : mj_T} {v : Int32} : mj_E 129 206 ls [.int v] σ τ = some (some (.int v), σ, τ) := mj_irt i129_206 rfl
theorem c130 {σ : mj_S} {τ : mj_T} {r : Nat} {x0 : Int32} : mj_C 130 [.ref r, .int x0] σ τ = mj_E 130 0 [some (.ref r), some (.int x0)] [] σ τ := rfl
theorem i130_0 : mj_ins 130 0 = some (.aload 0, 1) := by decide +kernel
theorem e130_0 {ls : mj_L} {st : List Value} {σ : mj_S} {τ : mj_T} {v : Nat} : mj_E 130 0 (some (.ref v) :: ls) st σ τ = mj_E 130 1 (some (.ref v) :: ls) (.ref v :: st) σ τ := mj_nx i130_0 rfl
theorem i130_1 : mj_ins 130 1 = some (.iload 1, 2) := by decide +kernel
theorem e130_1 {ls : mj_L} {st : List Value} {σ : mj_S} {τ : mj_T} {a0 : Option Value} {v : Int32} : mj_E 130 1 (a0 :: some (.int v) :: ls) st σ τ = mj_E 130 2 (a0 :: some (.int v) :: ls) (.int v :: st) σ τ := mj_nx i130_1 rfl
theorem i130_2 : mj_ins 130 2 = some (.invokevirtual 119, 5) := by decide +kernel
theorem e130_2 {ls : mj_L} {σ : mj_S} {τ : mj_T} {r : Nat} {x0 : Int32} : mj_E 130 2 ls [.int x0, .ref r] σ τ = if mj_rcv r 7 = true then mj_bd (mj_C 119 [.ref r, .int x0] σ τ) (mj_K 130 5 ls []) else none := mj_clV (as := [.int x0]) (r := []) i130_2 (by decide +kernel : mj_vk 130 119 1 0 2 false = true) (by decide +kernel)
theorem i130_5 : mj_ins 130 5 = some (.ifCond .ne 12, 8) := by decide +kernel
theorem e130_5 {ls : mj_L} {st : List Value} {σ : mj_S} {τ : mj_T} {x : Int32} : mj_E 130 5 ls (.int x :: st) σ τ = if x = 0 then mj_E 130 8 ls st σ τ else mj_E 130 12 ls st σ τ := (mj_ifc i130_5).trans (mj_cdF rfl)
theorem i130_8 : mj_ins 130 8 = some (.iconst (-1), 9) := by decide +kernel
theorem e130_8 {ls : mj_L} {st : List Value} {σ : mj_S} {τ : mj_T} : mj_E 130 8 ls st σ τ = mj_E 130 9 ls (.int ((-1)) :: st) σ τ := mj_nx i130_8 rfl
theorem i130_9 : mj_ins 130 9 = some (.goto 42, 12) := by decide +kernel
theorem e130_9 {ls : mj_L} {st : List Value} {σ : mj_S} {τ : mj_T} : mj_E 130 9 ls st σ τ = mj_E 130 42 ls st σ τ := mj_nx i130_9 rfl
theorem i130_12 : mj_ins 130 12 = some (.aload 0, 13) := by decide +kernel
theorem e130_12 {ls : mj_L} {st : List Value} {σ : mj_S} {τ : mj_T} {v : Nat} : mj_E 130 12 (some (.ref v) :: ls) st σ τ = mj_E 130 13 (some (.ref v) :: ls) (.ref v :: st) σ τ := mj_nx i130_12 rfl
theorem i130_13 : mj_ins 130 13 = some (.getfield 717, 16) := by decide +kernel
theorem e130_13 {ls : mj_L} {st : List Value} {σ : mj_S} {τ : mj_T} : mj_E 130 13 ls (.ref 62 :: st) σ τ = mj_E 130 16 ls (.ref 74 :: st) σ τ := mj_nx i130_13 rfl
theorem i130_16 : mj_ins 130 16 = some (.iload 1, 17) := by decide +kernel
theorem e130_16 {ls : mj_L} {st : List Value} {σ : mj_S} {τ : mj_T} {a0 : Option Value} {v : Int32} : mj_E 130 16 (a0 :: some (.int v) :: ls) st σ τ = mj_E 130 17 (a0 :: some (.int v) :: ls) (.int v :: st) σ τ := mj_nx i130_16 rfl
theorem i130_17 : mj_ins 130 17 = some (.iaload, 18) := by decide +kernel
theorem e130_17 {ls : mj_L} {st : List Value} {σ : mj_S} {τ : mj_T} {x : Int32} {k : Nat} : mj_E 130 17 ls (.int x :: .ref k :: st) σ τ = if mj_ib (mj_li σ k) x = true then mj_E 130 18 ls (.int (σ k x.toNatClampNeg) :: st) σ τ else none := mj_ald i130_17
theorem i130_18 : mj_ins 130 18 = some (.iconst (2), 19) := by decide +kernel
theorem e130_18 {ls : mj_L} {st : List Value} {σ : mj_S} {τ : mj_T} : mj_E 130 18 ls st σ τ = mj_E 130 19 ls (.int (nI 2) :: st) σ τ := mj_nx i130_18 rfl
theorem i130_19 : mj_ins 130 19 = some (.if_icmp .ne 27, 22) := by decide +kernel
theorem e130_19 {ls : mj_L} {st : List Value} {σ : mj_S} {τ : mj_T} {x y : Int32} : mj_E 130 19 ls (.int y :: .int x :: st) σ τ = if x = y then mj_E 130 22 ls st σ τ else mj_E 130 27 ls st σ τ := (mj_ifi i130_19).trans (mj_cdF rfl)
theorem i130_22 : mj_ins 130 22 = some (.iconst (-2), 24) := by decide +kernel
theorem e130_22 {ls : mj_L} {st : List Value} {σ : mj_S} {τ : mj_T} : mj_E 130 22 ls st σ τ = mj_E 130 24 ls (.int ((-2)) :: st) σ τ := mj_nx i130_22 rfl
theorem i130_24 : mj_ins 130 24 = some (.goto 42, 27) := by decide +kernel
theorem e130_24 {ls : mj_L} {st : List Value} {σ : mj_S} {τ : mj_T} : mj_E 130 24 ls st σ τ = mj_E 130 42 ls st σ τ := mj_nx i130_24 rfl
theorem i130_27 : mj_ins 130 27 = some (.aload 0, 28) := by decide +kernel
theorem e130_27 {ls : mj_L} {st : List Value} {σ : mj_S} {τ : mj_T} {v : Nat} : mj_E 130 27 (some (.ref v) :: ls) st σ τ = mj_E 130 28 (some (.ref v) :: ls) (.ref v :: st) σ τ := mj_nx i130_27 rfl
theorem i130_28 : mj_ins 130 28 = some (.getfield 717, 31) := by decide +kernel
theorem e130_28 {ls : mj_L} {st : List Value} {σ : mj_S} {τ : mj_T} : mj_E 130 28 ls (.ref 62 :: st) σ τ = mj_E 130 31 ls (.ref 74 :: st) σ τ := mj_nx i130_28 rfl
theorem i130_31 : mj_ins 130 31 = some (.iload 1, 32) := by decide +kernel
theorem e130_31 {ls : mj_L} {st : List Value} {σ : mj_S} {τ : mj_T} {a0 : Option Value} {v : Int32} : mj_E 130 31 (a0 :: some (.int v) :: ls) st σ τ = mj_E 130 32 (a0 :: some (.int v) :: ls) (.int v :: st) σ τ := mj_nx i130_31 rfl
theorem i130_32 : mj_ins 130 32 = some (.iaload, 33) := by decide +kernel
theorem e130_32 {ls : mj_L} {st : List Value} {σ : mj_S} {τ : mj_T} {x : Int32} {k : Nat} : mj_E 130 32 ls (.int x :: .ref k :: st) σ τ = if mj_ib (mj_li σ k) x = true then mj_E 130 33 ls (.int (σ k x.toNatClampNeg) :: st) σ τ else none := mj_ald i130_32
theorem i130_33 : mj_ins 130 33 = some (.ifCond .ne 41, 36) := by decide +kernel
theorem e130_33 {ls : mj_L} {st : List Value} {σ : mj_S} {τ : mj_T} {x : Int32} : mj_E 130 33 ls (.int x :: st) σ τ = if x = 0 then mj_E 130 36 ls st σ τ else mj_E 130 41 ls st σ τ := (mj_ifc i130_33).trans (mj_cdF rfl)
theorem i130_36 : mj_ins 130 36 = some (.iconst (-3), 38) := by decide +kernel
theorem e130_36 {ls : mj_L} {st : List Value} {σ : mj_S} {τ : mj_T} : mj_E 130 36 ls st σ τ = mj_E 130 38 ls (.int ((-3)) :: st) σ τ := mj_nx i130_36 rfl
theorem i130_38 : mj_ins 130 38 = some (.goto 42, 41) := by decide +kernel
theorem e130_38 {ls : mj_L} {st : List Value} {σ : mj_S} {τ : mj_T} : mj_E 130 38 ls st σ τ = mj_E 130 42 ls st σ τ := mj_nx i130_38 rfl
theorem i130_41 : mj_ins 130 41 = some (.iconst (0), 42) := by decide +kernel
theorem e130_41 {ls : mj_L} {st : List Value} {σ : mj_S} {τ : mj_T} : mj_E 130 41 ls st σ τ = mj_E 130 42 ls (.int (nI 0) :: st) σ τ := mj_nx i130_41 rfl
theorem i130_42 : mj_ins 130 42 = some (.ireturn, 43) := by decide +kernel
theorem e130_42 {ls : mj_L} {σ : mj_S} {τ : mj_T} {v : Int32} : mj_E 130 42 ls [.int v] σ τ = some (some (.int v), σ, τ) := mj_irt i130_42 rfl
theorem c131 {σ : mj_S} {τ : mj_T} {r : Nat} {x0 : Int32} {x1 : Int32} : mj_C 131 [.ref r, .int x0, .int x1] σ τ = mj_E 131 0 [some (.ref r), some (.int x0), some (.int x1)] [] σ τ := rfl
theorem i131_0 : mj_ins 131 0 = some (.aload 0, 1) := by decide +kernel
theorem e131_0 {ls : mj_L} {st : List Value} {σ : mj_S} {τ : mj_T} {v : Nat} : mj_E 131 0 (some (.ref v) :: ls) st σ τ = mj_E 131 1 (some (.ref v) :: ls) (.ref v :: st) σ τ := mj_nx i131_0 rfl
theorem i131_1 : mj_ins 131 1 = some (.getfield 721, 4) := by decide +kernel
theorem e131_1 {ls : mj_L} {st : List Value} {σ : mj_S} {τ : mj_T} : mj_E 131 1 ls (.ref 62 :: st) σ τ = mj_E 131 4 ls (.ref 78 :: st) σ τ := mj_nx i131_1 rfl
theorem i131_4 : mj_ins 131 4 = some (.iconst (160), 7) := by decide +kernel
theorem e131_4 {ls : mj_L} {st : List Value} {σ : mj_S} {τ : mj_T} : mj_E 131 4 ls st σ τ = mj_E 131 7 ls (.int (nI 160) :: st) σ τ := mj_nx i131_4 rfl
theorem i131_7 : mj_ins 131 7 = some (.iload 1, 8) := by decide +kernel
theorem e131_7 {ls : mj_L} {st : List Value} {σ : mj_S} {τ : mj_T} {a0 : Option Value} {v : Int32} : mj_E 131 7 (a0 :: some (.int v) :: ls) st σ τ = mj_E 131 8 (a0 :: some (.int v) :: ls) (.int v :: st) σ τ := mj_nx i131_7 rfl
theorem i131_8 : mj_ins 131 8 = some (.imul, 9) := by decide +kernel
theorem e131_8 {ls : mj_L} {st : List Value} {σ : mj_S} {τ : mj_T} {x y : Int32} : mj_E 131 8 ls (.int y :: .int x :: st) σ τ = mj_E 131 9 ls (.int (x * y) :: st) σ τ := mj_nx i131_8 rfl
theorem i131_9 : mj_ins 131 9 = some (.iload 2, 10) := by decide +kernel
theorem e131_9 {ls : mj_L} {st : List Value} {σ : mj_S} {τ : mj_T} {a0 a1 : Option Value} {v : Int32} : mj_E 131 9 (a0 :: a1 :: some (.int v) :: ls) st σ τ = mj_E 131 10 (a0 :: a1 :: some (.int v) :: ls) (.int v :: st) σ τ := mj_nx i131_9 rfl
theorem i131_10 : mj_ins 131 10 = some (.iadd, 11) := by decide +kernel
theorem e131_10 {ls : mj_L} {st : List Value} {σ : mj_S} {τ : mj_T} {x y : Int32} : mj_E 131 10 ls (.int y :: .int x :: st) σ τ = mj_E 131 11 ls (.int (x + y) :: st) σ τ := mj_nx i131_10 rfl
theorem i131_11 : mj_ins 131 11 = some (.laload, 12) := by decide +kernel
theorem e131_11 {ls : mj_L} {st : List Value} {σ : mj_S} {τ : mj_T} {x : Int32} {k : Nat} : mj_E 131 11 ls (.int x :: .ref k :: st) σ τ = if mj_ib (mj_ll k) x = true then mj_E 131 12 ls (.long (τ k x.toNatClampNeg) :: st) σ τ else none := mj_lald i131_11
theorem i131_12 : mj_ins 131 12 = some (.l2i, 13) := by decide +kernel
theorem e131_12 {ls : mj_L} {st : List Value} {σ : mj_S} {τ : mj_T} {x : Int64} : mj_E 131 12 ls (.long x :: st) σ τ = mj_E 131 13 ls (.int x.toInt32 :: st) σ τ := mj_nx i131_12 rfl
theorem i131_13 : mj_ins 131 13 = some (.ireturn, 14) := by decide +kernel
theorem e131_13 {ls : mj_L} {σ : mj_S} {τ : mj_T} {v : Int32} : mj_E 131 13 ls [.int v] σ τ = some (some (.int v), σ, τ) := mj_irt i131_13 rfl
theorem c132 {σ : mj_S} {τ : mj_T} {r : Nat} {x0 : Int32} {x1 : Int32} {x2 : Int32} {x3 : Int32} : mj_C 132 [.ref r, .int x0, .int x1, .int x2, .int x3] σ τ = mj_E 132 0 [some (.ref r), some (.int x0), some (.int x1), some (.int x2), some (.int x3), none] [] σ τ := rfl
theorem i132_0 : mj_ins 132 0 = some (.aload 0, 1) := by decide +kernel
theorem e132_0 {ls : mj_L} {st : List Value} {σ : mj_S} {τ : mj_T} {v : Nat} : mj_E 132 0 (some (.ref v) :: ls) st σ τ = mj_E 132 1 (some (.ref v) :: ls) (.ref v :: st) σ τ := mj_nx i132_0 rfl
theorem i132_1 : mj_ins 132 1 = some (.getfield 707, 4) := by decide +kernel
theorem e132_1 {ls : mj_L} {st : List Value} {σ : mj_S} {τ : mj_T} : mj_E 132 1 ls (.ref 62 :: st) σ τ = mj_E 132 4 ls (.ref 64 :: st) σ τ := mj_nx i132_1 rfl
theorem i132_4 : mj_ins 132 4 = some (.aload 0, 5) := by decide +kernel
theorem e132_4 {ls : mj_L} {st : List Value} {σ : mj_S} {τ : mj_T} {v : Nat} : mj_E 132 4 (some (.ref v) :: ls) st σ τ = mj_E 132 5 (some (.ref v) :: ls) (.ref v :: st) σ τ := mj_nx i132_4 rfl
theorem i132_5 : mj_ins 132 5 = some (.getfield 700, 8) := by decide +kernel
theorem e132_5 {ls : mj_L} {st : List Value} {σ : mj_S} {τ : mj_T} : mj_E 132 5 ls (.ref 62 :: st) σ τ = mj_E 132 8 ls (.int (σ 62 0) :: st) σ τ := mj_nx i132_5 rfl
theorem i132_8 : mj_ins 132 8 = some (.iload 1, 9) := by decide +kernel
theorem e132_8 {ls : mj_L} {st : List Value} {σ : mj_S} {τ : mj_T} {a0 : Option Value} {v : Int32} : mj_E 132 8 (a0 :: some (.int v) :: ls) st σ τ = mj_E 132 9 (a0 :: some (.int v) :: ls) (.int v :: st) σ τ := mj_nx i132_8 rfl
theorem i132_9 : mj_ins 132 9 = some (.iastore, 10) := by decide +kernel
theorem e132_9 {ls : mj_L} {st : List Value} {σ : mj_S} {τ : mj_T} {x v : Int32} {k : Nat} : mj_E 132 9 ls (.int v :: .int x :: .ref k :: st) σ τ = if mj_ib (mj_lw k) x = true then mj_E 132 10 ls st (mj_up σ k x.toNatClampNeg v) τ else none := mj_ast i132_9
theorem i132_10 : mj_ins 132 10 = some (.aload 0, 11) := by decide +kernel
theorem e132_10 {ls : mj_L} {st : List Value} {σ : mj_S} {τ : mj_T} {v : Nat} : mj_E 132 10 (some (.ref v) :: ls) st σ τ = mj_E 132 11 (some (.ref v) :: ls) (.ref v :: st) σ τ := mj_nx i132_10 rfl
theorem i132_11 : mj_ins 132 11 = some (.getfield 708, 14) := by decide +kernel
theorem e132_11 {ls : mj_L} {st : List Value} {σ : mj_S} {τ : mj_T} : mj_E 132 11 ls (.ref 62 :: st) σ τ = mj_E 132 14 ls (.ref 65 :: st) σ τ := mj_nx i132_11 rfl
theorem i132_14 : mj_ins 132 14 = some (.aload 0, 15) := by decide +kernel
theorem e132_14 {ls : mj_L} {st : List Value} {σ : mj_S} {τ : mj_T} {v : Nat} : mj_E 132 14 (some (.ref v) :: ls) st σ τ = mj_E 132 15 (some (.ref v) :: ls) (.ref v :: st) σ τ := mj_nx i132_14 rfl
theorem i132_15 : mj_ins 132 15 = some (.getfield 700, 18) := by decide +kernel
theorem e132_15 {ls : mj_L} {st : List Value} {σ : mj_S} {τ : mj_T} : mj_E 132 15 ls (.ref 62 :: st) σ τ = mj_E 132 18 ls (.int (σ 62 0) :: st) σ τ := mj_nx i132_15 rfl
theorem i132_18 : mj_ins 132 18 = some (.iload 2, 19) := by decide +kernel
theorem e132_18 {ls : mj_L} {st : List Value} {σ : mj_S} {τ : mj_T} {a0 a1 : Option Value} {v : Int32} : mj_E 132 18 (a0 :: a1 :: some (.int v) :: ls) st σ τ = mj_E 132 19 (a0 :: a1 :: some (.int v) :: ls) (.int v :: st) σ τ := mj_nx i132_18 rfl
theorem i132_19 : mj_ins 132 19 = some (.iastore, 20) := by decide +kernel
theorem e132_19 {ls : mj_L} {st : List Value} {σ : mj_S} {τ : mj_T} {x v : Int32} {k : Nat} : mj_E 132 19 ls (.int v :: .int x :: .ref k :: st) σ τ = if mj_ib (mj_lw k) x = true then mj_E 132 20 ls st (mj_up σ k x.toNatClampNeg v) τ else none := mj_ast i132_19
theorem i132_20 : mj_ins 132 20 = some (.aload 0, 21) := by decide +kernel
theorem e132_20 {ls : mj_L} {st : List Value} {σ : mj_S} {τ : mj_T} {v : Nat} : mj_E 132 20 (some (.ref v) :: ls) st σ τ = mj_E 132 21 (some (.ref v) :: ls) (.ref v :: st) σ τ := mj_nx i132_20 rfl
theorem i132_21 : mj_ins 132 21 = some (.getfield 709, 24) := by decide +kernel
theorem e132_21 {ls : mj_L} {st : List Value} {σ : mj_S} {τ : mj_T} : mj_E 132 21 ls (.ref 62 :: st) σ τ = mj_E 132 24 ls (.ref 66 :: st) σ τ := mj_nx i132_21 rfl
theorem i132_24 : mj_ins 132 24 = some (.aload 0, 25) := by decide +kernel
theorem e132_24 {ls : mj_L} {st : List Value} {σ : mj_S} {τ : mj_T} {v : Nat} : mj_E 132 24 (some (.ref v) :: ls) st σ τ = mj_E 132 25 (some (.ref v) :: ls) (.ref v :: st) σ τ := mj_nx i132_24 rfl
theorem i132_25 : mj_ins 132 25 = some (.getfield 700, 28) := by decide +kernel
theorem e132_25 {ls : mj_L} {st : List Value} {σ : mj_S} {τ : mj_T} : mj_E 132 25 ls (.ref 62 :: st) σ τ = mj_E 132 28 ls (.int (σ 62 0) :: st) σ τ := mj_nx i132_25 rfl
theorem i132_28 : mj_ins 132 28 = some (.iload 3, 29) := by decide +kernel
theorem e132_28 {ls : mj_L} {st : List Value} {σ : mj_S} {τ : mj_T} {a0 a1 a2 : Option Value} {v : Int32} : mj_E 132 28 (a0 :: a1 :: a2 :: some (.int v) :: ls) st σ τ = mj_E 132 29 (a0 :: a1 :: a2 :: some (.int v) :: ls) (.int v :: st) σ τ := mj_nx i132_28 rfl
theorem i132_29 : mj_ins 132 29 = some (.iastore, 30) := by decide +kernel
theorem e132_29 {ls : mj_L} {st : List Value} {σ : mj_S} {τ : mj_T} {x v : Int32} {k : Nat} : mj_E 132 29 ls (.int v :: .int x :: .ref k :: st) σ τ = if mj_ib (mj_lw k) x = true then mj_E 132 30 ls st (mj_up σ k x.toNatClampNeg v) τ else none := mj_ast i132_29
theorem i132_30 : mj_ins 132 30 = some (.aload 0, 31) := by decide +kernel
theorem e132_30 {ls : mj_L} {st : List Value} {σ : mj_S} {τ : mj_T} {v : Nat} : mj_E 132 30 (some (.ref v) :: ls) st σ τ = mj_E 132 31 (some (.ref v) :: ls) (.ref v :: st) σ τ := mj_nx i132_30 rfl
theorem i132_31 : mj_ins 132 31 = some (.getfield 710, 34) := by decide +kernel
theorem e132_31 {ls : mj_L} {st : List Value} {σ : mj_S} {τ : mj_T} : mj_E 132 31 ls (.ref 62 :: st) σ τ = mj_E 132 34 ls (.ref 67 :: st) σ τ := mj_nx i132_31 rfl
theorem i132_34 : mj_ins 132 34 = some (.aload 0, 35) := by decide +kernel
theorem e132_34 {ls : mj_L} {st : List Value} {σ : mj_S} {τ : mj_T} {v : Nat} : mj_E 132 34 (some (.ref v) :: ls) st σ τ = mj_E 132 35 (some (.ref v) :: ls) (.ref v :: st) σ τ := mj_nx i132_34 rfl
theorem i132_35 : mj_ins 132 35 = some (.getfield 700, 38) := by decide +kernel
theorem e132_35 {ls : mj_L} {st : List Value} {σ : mj_S} {τ : mj_T} : mj_E 132 35 ls (.ref 62 :: st) σ τ = mj_E 132 38 ls (.int (σ 62 0) :: st) σ τ := mj_nx i132_35 rfl
theorem i132_38 : mj_ins 132 38 = some (.iload 4, 40) := by decide +kernel
theorem e132_38 {ls : mj_L} {st : List Value} {σ : mj_S} {τ : mj_T} {a0 a1 a2 a3 : Option Value} {v : Int32} : mj_E 132 38 (a0 :: a1 :: a2 :: a3 :: some (.int v) :: ls) st σ τ = mj_E 132 40 (a0 :: a1 :: a2 :: a3 :: some (.int v) :: ls) (.int v :: st) σ τ := mj_nx i132_38 rfl
theorem i132_40 : mj_ins 132 40 = some (.iastore, 41) := by decide +kernel
theorem e132_40 {ls : mj_L} {st : List Value} {σ : mj_S} {τ : mj_T} {x v : Int32} {k : Nat} : mj_E 132 40 ls (.int v :: .int x :: .ref k :: st) σ τ = if mj_ib (mj_lw k) x = true then mj_E 132 41 ls st (mj_up σ k x.toNatClampNeg v) τ else none := mj_ast i132_40
theorem i132_41 : mj_ins 132 41 = some (.aload 0, 42) := by decide +kernel
theorem e132_41 {ls : mj_L} {st : List Value} {σ : mj_S} {τ : mj_T} {v : Nat} : mj_E 132 41 (some (.ref v) :: ls) st σ τ = mj_E 132 42 (some (.ref v) :: ls) (.ref v :: st) σ τ := mj_nx i132_41 rfl
theorem i132_42 : mj_ins 132 42 = some (.getfield 711, 45) := by decide +kernel
theorem e132_42 {ls : mj_L} {st : List Value} {σ : mj_S} {τ : mj_T} : mj_E 132 42 ls (.ref 62 :: st) σ τ = mj_E 132 45 ls (.ref 68 :: st) σ τ := mj_nx i132_42 rfl
theorem i132_45 : mj_ins 132 45 = some (.aload 0, 46) := by decide +kernel
theorem e132_45 {ls : mj_L} {st : List Value} {σ : mj_S} {τ : mj_T} {v : Nat} : mj_E 132 45 (some (.ref v) :: ls) st σ τ = mj_E 132 46 (some (.ref v) :: ls) (.ref v :: st) σ τ := mj_nx i132_45 rfl
theorem i132_46 : mj_ins 132 46 = some (.getfield 700, 49) := by decide +kernel
theorem e132_46 {ls : mj_L} {st : List Value} {σ : mj_S} {τ : mj_T} : mj_E 132 46 ls (.ref 62 :: st) σ τ = mj_E 132 49 ls (.int (σ 62 0) :: st) σ τ := mj_nx i132_46 rfl
theorem i132_49 : mj_ins 132 49 = some (.iconst (0), 50) := by decide +kernel
theorem e132_49 {ls : mj_L} {st : List Value} {σ : mj_S} {τ : mj_T} : mj_E 132 49 ls st σ τ = mj_E 132 50 ls (.int (nI 0) :: st) σ τ := mj_nx i132_49 rfl
theorem i132_50 : mj_ins 132 50 = some (.iastore, 51) := by decide +kernel
theorem e132_50 {ls : mj_L} {st : List Value} {σ : mj_S} {τ : mj_T} {x v : Int32} {k : Nat} : mj_E 132 50 ls (.int v :: .int x :: .ref k :: st) σ τ = if mj_ib (mj_lw k) x = true then mj_E 132 51 ls st (mj_up σ k x.toNatClampNeg v) τ else none := mj_ast i132_50
theorem i132_51 : mj_ins 132 51 = some (.iconst (0), 52) := by decide +kernel
theorem e132_51 {ls : mj_L} {st : List Value} {σ : mj_S} {τ : mj_T} : mj_E 132 51 ls st σ τ = mj_E 132 52 ls (.int (nI 0) :: st) σ τ := mj_nx i132_51 rfl
theorem i132_52 : mj_ins 132 52 = some (.istore 5, 54) := by decide +kernel
theorem e132_52 {ls : mj_L} {st : List Value} {σ : mj_S} {τ : mj_T} {a0 a1 a2 a3 a4 a5 : Option Value} {v : Int32} : mj_E 132 52 (a0 :: a1 :: a2 :: a3 :: a4 :: a5 :: ls) (.int v :: st) σ τ = mj_E 132 54 (a0 :: a1 :: a2 :: a3 :: a4 :: some (.int v) :: ls) st σ τ := mj_nx i132_52 rfl
theorem i132_54 : mj_ins 132 54 = some (.iload 5, 56) := by decide +kernel
theorem e132_54 {ls : mj_L} {st : List Value} {σ : mj_S} {τ : mj_T} {a0 a1 a2 a3 a4 : Option Value} {v : Int32} : mj_E 132 54 (a0 :: a1 :: a2 :: a3 :: a4 :: some (.int v) :: ls) st σ τ = mj_E 132 56 (a0 :: a1 :: a2 :: a3 :: a4 :: some (.int v) :: ls) (.int v :: st) σ τ := mj_nx i132_54 rfl
theorem i132_56 : mj_ins 132 56 = some (.iconst (6), 58) := by decide +kernel
theorem e132_56 {ls : mj_L} {st : List Value} {σ : mj_S} {τ : mj_T} : mj_E 132 56 ls st σ τ = mj_E 132 58 ls (.int (nI 6) :: st) σ τ := mj_nx i132_56 rfl
theorem i132_58 : mj_ins 132 58 = some (.if_icmp .ge 83, 61) := by decide +kernel
theorem e132_58 {ls : mj_L} {st : List Value} {σ : mj_S} {τ : mj_T} {x y : Int32} : mj_E 132 58 ls (.int y :: .int x :: st) σ τ = if y ≤ x then mj_E 132 83 ls st σ τ else mj_E 132 61 ls st σ τ := (mj_ifi i132_58).trans (mj_cdT rfl)
theorem i132_61 : mj_ins 132 61 = some (.aload 0, 62) := by decide +kernel
theorem e132_61 {ls : mj_L} {st : List Value} {σ : mj_S} {τ : mj_T} {v : Nat} : mj_E 132 61 (some (.ref v) :: ls) st σ τ = mj_E 132 62 (some (.ref v) :: ls) (.ref v :: st) σ τ := mj_nx i132_61 rfl
theorem i132_62 : mj_ins 132 62 = some (.getfield 716, 65) := by decide +kernel
theorem e132_62 {ls : mj_L} {st : List Value} {σ : mj_S} {τ : mj_T} : mj_E 132 62 ls (.ref 62 :: st) σ τ = mj_E 132 65 ls (.ref 73 :: st) σ τ := mj_nx i132_62 rfl
theorem i132_65 : mj_ins 132 65 = some (.iconst (8), 67) := by decide +kernel
theorem e132_65 {ls : mj_L} {st : List Value} {σ : mj_S} {τ : mj_T} : mj_E 132 65 ls st σ τ = mj_E 132 67 ls (.int (nI 8) :: st) σ τ := mj_nx i132_65 rfl
theorem i132_67 : mj_ins 132 67 = some (.iload 5, 69) := by decide +kernel
theorem e132_67 {ls : mj_L} {st : List Value} {σ : mj_S} {τ : mj_T} {a0 a1 a2 a3 a4 : Option Value} {v : Int32} : mj_E 132 67 (a0 :: a1 :: a2 :: a3 :: a4 :: some (.int v) :: ls) st σ τ = mj_E 132 69 (a0 :: a1 :: a2 :: a3 :: a4 :: some (.int v) :: ls) (.int v :: st) σ τ := mj_nx i132_67 rfl
theorem i132_69 : mj_ins 132 69 = some (.imul, 70) := by decide +kernel
theorem e132_69 {ls : mj_L} {st : List Value} {σ : mj_S} {τ : mj_T} {x y : Int32} : mj_E 132 69 ls (.int y :: .int x :: st) σ τ = mj_E 132 70 ls (.int (x * y) :: st) σ τ := mj_nx i132_69 rfl
theorem i132_70 : mj_ins 132 70 = some (.aload 0, 71) := by decide +kernel
theorem e132_70 {ls : mj_L} {st : List Value} {σ : mj_S} {τ : mj_T} {v : Nat} : mj_E 132 70 (some (.ref v) :: ls) st σ τ = mj_E 132 71 (some (.ref v) :: ls) (.ref v :: st) σ τ := mj_nx i132_70 rfl
theorem i132_71 : mj_ins 132 71 = some (.getfield 700, 74) := by decide +kernel
theorem e132_71 {ls : mj_L} {st : List Value} {σ : mj_S} {τ : mj_T} : mj_E 132 71 ls (.ref 62 :: st) σ τ = mj_E 132 74 ls (.int (σ 62 0) :: st) σ τ := mj_nx i132_71 rfl
theorem i132_74 : mj_ins 132 74 = some (.iadd, 75) := by decide +kernel
theorem e132_74 {ls : mj_L} {st : List Value} {σ : mj_S} {τ : mj_T} {x y : Int32} : mj_E 132 74 ls (.int y :: .int x :: st) σ τ = mj_E 132 75 ls (.int (x + y) :: st) σ τ := mj_nx i132_74 rfl
theorem i132_75 : mj_ins 132 75 = some (.iconst (0), 76) := by decide +kernel
theorem e132_75 {ls : mj_L} {st : List Value} {σ : mj_S} {τ : mj_T} : mj_E 132 75 ls st σ τ = mj_E 132 76 ls (.int (nI 0) :: st) σ τ := mj_nx i132_75 rfl
theorem i132_76 : mj_ins 132 76 = some (.iastore, 77) := by decide +kernel
theorem e132_76 {ls : mj_L} {st : List Value} {σ : mj_S} {τ : mj_T} {x v : Int32} {k : Nat} : mj_E 132 76 ls (.int v :: .int x :: .ref k :: st) σ τ = if mj_ib (mj_lw k) x = true then mj_E 132 77 ls st (mj_up σ k x.toNatClampNeg v) τ else none := mj_ast i132_76
theorem i132_77 : mj_ins 132 77 = some (.iinc 5 (1), 80) := by decide +kernel
theorem e132_77 {ls : mj_L} {st : List Value} {σ : mj_S} {τ : mj_T} {a0 a1 a2 a3 a4 : Option Value} {v : Int32} : mj_E 132 77 (a0 :: a1 :: a2 :: a3 :: a4 :: some (.int v) :: ls) st σ τ = mj_E 132 80 (a0 :: a1 :: a2 :: a3 :: a4 :: some (.int (v + nI 1)) :: ls) st σ τ := mj_nx i132_77 rfl
theorem i132_80 : mj_ins 132 80 = some (.goto 54, 83) := by decide +kernel
theorem e132_80 {ls : mj_L} {st : List Value} {σ : mj_S} {τ : mj_T} : mj_E 132 80 ls st σ τ = mj_E 132 54 ls st σ τ := mj_nx i132_80 rfl
theorem i132_83 : mj_ins 132 83 = some (.aload 0, 84) := by decide +kernel
theorem e132_83 {ls : mj_L} {st : List Value} {σ : mj_S} {τ : mj_T} {v : Nat} : mj_E 132 83 (some (.ref v) :: ls) st σ τ = mj_E 132 84 (some (.ref v) :: ls) (.ref v :: st) σ τ := mj_nx i132_83 rfl
theorem i132_84 : mj_ins 132 84 = some (.dup, 85) := by decide +kernel
theorem e132_84 {ls : mj_L} {st : List Value} {σ : mj_S} {τ : mj_T} {v : Nat} : mj_E 132 84 ls (.ref v :: st) σ τ = mj_E 132 85 ls (.ref v :: .ref v :: st) σ τ := mj_nx i132_84 rfl
theorem i132_85 : mj_ins 132 85 = some (.getfield 700, 88) := by decide +kernel
theorem e132_85 {ls : mj_L} {st : List Value} {σ : mj_S} {τ : mj_T} : mj_E 132 85 ls (.ref 62 :: st) σ τ = mj_E 132 88 ls (.int (σ 62 0) :: st) σ τ := mj_nx i132_85 rfl
theorem i132_88 : mj_ins 132 88 = some (.dup_x1, 89) := by decide +kernel
theorem e132_88 {ls : mj_L} {st : List Value} {σ : mj_S} {τ : mj_T} {y : Int32} {x : Nat} : mj_E 132 88 ls (.int y :: .ref x :: st) σ τ = mj_E 132 89 ls (.int y :: .ref x :: .int y :: st) σ τ := mj_nx i132_88 rfl
theorem i132_89 : mj_ins 132 89 = some (.iconst (1), 90) := by decide +kernel
theorem e132_89 {ls : mj_L} {st : List Value} {σ : mj_S} {τ : mj_T} : mj_E 132 89 ls st σ τ = mj_E 132 90 ls (.int (nI 1) :: st) σ τ := mj_nx i132_89 rfl
theorem i132_90 : mj_ins 132 90 = some (.iadd, 91) := by decide +kernel
theorem e132_90 {ls : mj_L} {st : List Value} {σ : mj_S} {τ : mj_T} {x y : Int32} : mj_E 132 90 ls (.int y :: .int x :: st) σ τ = mj_E 132 91 ls (.int (x + y) :: st) σ τ := mj_nx i132_90 rfl
theorem i132_91 : mj_ins 132 91 = some (.putfield 700, 94) := by decide +kernel
theorem e132_91 {ls : mj_L} {st : List Value} {σ : mj_S} {τ : mj_T} {v : Int32} : mj_E 132 91 ls (.int v :: .ref 62 :: st) σ τ = mj_E 132 94 ls st (mj_up σ 62 0 v) τ := mj_nx i132_91 rfl
theorem i132_94 : mj_ins 132 94 = some (.ireturn, 95) := by decide +kernel
theorem e132_94 {ls : mj_L} {σ : mj_S} {τ : mj_T} {v : Int32} : mj_E 132 94 ls [.int v] σ τ = some (some (.int v), σ, τ) := mj_irt i132_94 rfl
theorem c133 {σ : mj_S} {τ : mj_T} {r : Nat} {x0 : Int32} {x1 : Int32} {x2 : Int32} {x3 : Int32} {x4 : Int32} : mj_C 133 [.ref r, .int x0, .int x1, .int x2, .int x3, .int x4] σ τ = mj_E 133 0 [some (.ref r), some (.int x0), some (.int x1), some (.int x2), some (.int x3), some (.int x4), none] [] σ τ := rfl
theorem i133_0 : mj_ins 133 0 = some (.aload 0, 1) := by decide +kernel
theorem e133_0 {ls : mj_L} {st : List Value} {σ : mj_S} {τ : mj_T} {v : Nat} : mj_E 133 0 (some (.ref v) :: ls) st σ τ = mj_E 133 1 (some (.ref v) :: ls) (.ref v :: st) σ τ := mj_nx i133_0 rfl
theorem i133_1 : mj_ins 133 1 = some (.getfield 712, 4) := by decide +kernel
theorem e133_1 {ls : mj_L} {st : List Value} {σ : mj_S} {τ : mj_T} : mj_E 133 1 ls (.ref 62 :: st) σ τ = mj_E 133 4 ls (.ref 69 :: st) σ τ := mj_nx i133_1 rfl
theorem i133_4 : mj_ins 133 4 = some (.aload 0, 5) := by decide +kernel
theorem e133_4 {ls : mj_L} {st : List Value} {σ : mj_S} {τ : mj_T} {v : Nat} : mj_E 133 4 (some (.ref v) :: ls) st σ τ = mj_E 133 5 (some (.ref v) :: ls) (.ref v :: st) σ τ := mj_nx i133_4 rfl
theorem i133_5 : mj_ins 133 5 = some (.getfield 701, 8) := by decide +kernel
theorem e133_5 {ls : mj_L} {st : List Value} {σ : mj_S} {τ : mj_T} : mj_E 133 5 ls (.ref 62 :: st) σ τ = mj_E 133 8 ls (.int (σ 62 1) :: st) σ τ := mj_nx i133_5 rfl
theorem i133_8 : mj_ins 133 8 = some (.iload 1, 9) := by decide +kernel
theorem e133_8 {ls : mj_L} {st : List Value} {σ : mj_S} {τ : mj_T} {a0 : Option Value} {v : Int32} : mj_E 133 8 (a0 :: some (.int v) :: ls) st σ τ = mj_E 133 9 (a0 :: some (.int v) :: ls) (.int v :: st) σ τ := mj_nx i133_8 rfl
theorem i133_9 : mj_ins 133 9 = some (.iastore, 10) := by decide +kernel
theorem e133_9 {ls : mj_L} {st : List Value} {σ : mj_S} {τ : mj_T} {x v : Int32} {k : Nat} : mj_E 133 9 ls (.int v :: .int x :: .ref k :: st) σ τ = if mj_ib (mj_lw k) x = true then mj_E 133 10 ls st (mj_up σ k x.toNatClampNeg v) τ else none := mj_ast i133_9
theorem i133_10 : mj_ins 133 10 = some (.aload 0, 11) := by decide +kernel
theorem e133_10 {ls : mj_L} {st : List Value} {σ : mj_S} {τ : mj_T} {v : Nat} : mj_E 133 10 (some (.ref v) :: ls) st σ τ = mj_E 133 11 (some (.ref v) :: ls) (.ref v :: st) σ τ := mj_nx i133_10 rfl
theorem i133_11 : mj_ins 133 11 = some (.getfield 713, 14) := by decide +kernel
theorem e133_11 {ls : mj_L} {st : List Value} {σ : mj_S} {τ : mj_T} : mj_E 133 11 ls (.ref 62 :: st) σ τ = mj_E 133 14 ls (.ref 70 :: st) σ τ := mj_nx i133_11 rfl
theorem i133_14 : mj_ins 133 14 = some (.aload 0, 15) := by decide +kernel
theorem e133_14 {ls : mj_L} {st : List Value} {σ : mj_S} {τ : mj_T} {v : Nat} : mj_E 133 14 (some (.ref v) :: ls) st σ τ = mj_E 133 15 (some (.ref v) :: ls) (.ref v :: st) σ τ := mj_nx i133_14 rfl
theorem i133_15 : mj_ins 133 15 = some (.getfield 701, 18) := by decide +kernel
theorem e133_15 {ls : mj_L} {st : List Value} {σ : mj_S} {τ : mj_T} : mj_E 133 15 ls (.ref 62 :: st) σ τ = mj_E 133 18 ls (.int (σ 62 1) :: st) σ τ := mj_nx i133_15 rfl
theorem i133_18 : mj_ins 133 18 = some (.iload 2, 19) := by decide +kernel
theorem e133_18 {ls : mj_L} {st : List Value} {σ : mj_S} {τ : mj_T} {a0 a1 : Option Value} {v : Int32} : mj_E 133 18 (a0 :: a1 :: some (.int v) :: ls) st σ τ = mj_E 133 19 (a0 :: a1 :: some (.int v) :: ls) (.int v :: st) σ τ := mj_nx i133_18 rfl
theorem i133_19 : mj_ins 133 19 = some (.iastore, 20) := by decide +kernel
theorem e133_19 {ls : mj_L} {st : List Value} {σ : mj_S} {τ : mj_T} {x v : Int32} {k : Nat} : mj_E 133 19 ls (.int v :: .int x :: .ref k :: st) σ τ = if mj_ib (mj_lw k) x = true then mj_E 133 20 ls st (mj_up σ k x.toNatClampNeg v) τ else none := mj_ast i133_19
theorem i133_20 : mj_ins 133 20 = some (.aload 0, 21) := by decide +kernel
theorem e133_20 {ls : mj_L} {st : List Value} {σ : mj_S} {τ : mj_T} {v : Nat} : mj_E 133 20 (some (.ref v) :: ls) st σ τ = mj_E 133 21 (some (.ref v) :: ls) (.ref v :: st) σ τ := mj_nx i133_20 rfl
theorem i133_21 : mj_ins 133 21 = some (.getfield 714, 24) := by decide +kernel
theorem e133_21 {ls : mj_L} {st : List Value} {σ : mj_S} {τ : mj_T} : mj_E 133 21 ls (.ref 62 :: st) σ τ = mj_E 133 24 ls (.ref 71 :: st) σ τ := mj_nx i133_21 rfl
theorem i133_24 : mj_ins 133 24 = some (.aload 0, 25) := by decide +kernel
theorem e133_24 {ls : mj_L} {st : List Value} {σ : mj_S} {τ : mj_T} {v : Nat} : mj_E 133 24 (some (.ref v) :: ls) st σ τ = mj_E 133 25 (some (.ref v) :: ls) (.ref v :: st) σ τ := mj_nx i133_24 rfl
theorem i133_25 : mj_ins 133 25 = some (.getfield 701, 28) := by decide +kernel
theorem e133_25 {ls : mj_L} {st : List Value} {σ : mj_S} {τ : mj_T} : mj_E 133 25 ls (.ref 62 :: st) σ τ = mj_E 133 28 ls (.int (σ 62 1) :: st) σ τ := mj_nx i133_25 rfl
theorem i133_28 : mj_ins 133 28 = some (.iconst (0), 29) := by decide +kernel
theorem e133_28 {ls : mj_L} {st : List Value} {σ : mj_S} {τ : mj_T} : mj_E 133 28 ls st σ τ = mj_E 133 29 ls (.int (nI 0) :: st) σ τ := mj_nx i133_28 rfl
theorem i133_29 : mj_ins 133 29 = some (.iastore, 30) := by decide +kernel
theorem e133_29 {ls : mj_L} {st : List Value} {σ : mj_S} {τ : mj_T} {x v : Int32} {k : Nat} : mj_E 133 29 ls (.int v :: .int x :: .ref k :: st) σ τ = if mj_ib (mj_lw k) x = true then mj_E 133 30 ls st (mj_up σ k x.toNatClampNeg v) τ else none := mj_ast i133_29
theorem i133_30 : mj_ins 133 30 = some (.aload 0, 31) := by decide +kernel
theorem e133_30 {ls : mj_L} {st : List Value} {σ : mj_S} {τ : mj_T} {v : Nat} : mj_E 133 30 (some (.ref v) :: ls) st σ τ = mj_E 133 31 (some (.ref v) :: ls) (.ref v :: st) σ τ := mj_nx i133_30 rfl
theorem i133_31 : mj_ins 133 31 = some (.getfield 715, 34) := by decide +kernel
theorem e133_31 {ls : mj_L} {st : List Value} {σ : mj_S} {τ : mj_T} : mj_E 133 31 ls (.ref 62 :: st) σ τ = mj_E 133 34 ls (.ref 72 :: st) σ τ := mj_nx i133_31 rfl
theorem i133_34 : mj_ins 133 34 = some (.aload 0, 35) := by decide +kernel
theorem e133_34 {ls : mj_L} {st : List Value} {σ : mj_S} {τ : mj_T} {v : Nat} : mj_E 133 34 (some (.ref v) :: ls) st σ τ = mj_E 133 35 (some (.ref v) :: ls) (.ref v :: st) σ τ := mj_nx i133_34 rfl
theorem i133_35 : mj_ins 133 35 = some (.getfield 701, 38) := by decide +kernel
theorem e133_35 {ls : mj_L} {st : List Value} {σ : mj_S} {τ : mj_T} : mj_E 133 35 ls (.ref 62 :: st) σ τ = mj_E 133 38 ls (.int (σ 62 1) :: st) σ τ := mj_nx i133_35 rfl
theorem i133_38 : mj_ins 133 38 = some (.iconst (1), 39) := by decide +kernel
theorem e133_38 {ls : mj_L} {st : List Value} {σ : mj_S} {τ : mj_T} : mj_E 133 38 ls st σ τ = mj_E 133 39 ls (.int (nI 1) :: st) σ τ := mj_nx i133_38 rfl
theorem i133_39 : mj_ins 133 39 = some (.iload 3, 40) := by decide +kernel
theorem e133_39 {ls : mj_L} {st : List Value} {σ : mj_S} {τ : mj_T} {a0 a1 a2 : Option Value} {v : Int32} : mj_E 133 39 (a0 :: a1 :: a2 :: some (.int v) :: ls) st σ τ = mj_E 133 40 (a0 :: a1 :: a2 :: some (.int v) :: ls) (.int v :: st) σ τ := mj_nx i133_39 rfl
theorem i133_40 : mj_ins 133 40 = some (.ishl, 41) := by decide +kernel
theorem e133_40 {ls : mj_L} {st : List Value} {σ : mj_S} {τ : mj_T} {x y : Int32} : mj_E 133 40 ls (.int y :: .int x :: st) σ τ = mj_E 133 41 ls (.int (x <<< (y &&& 31)) :: st) σ τ := mj_nx i133_40 rfl
theorem i133_41 : mj_ins 133 41 = some (.iconst (1), 42) := by decide +kernel
theorem e133_41 {ls : mj_L} {st : List Value} {σ : mj_S} {τ : mj_T} : mj_E 133 41 ls st σ τ = mj_E 133 42 ls (.int (nI 1) :: st) σ τ := mj_nx i133_41 rfl
theorem i133_42 : mj_ins 133 42 = some (.iload 4, 44) := by decide +kernel
theorem e133_42 {ls : mj_L} {st : List Value} {σ : mj_S} {τ : mj_T} {a0 a1 a2 a3 : Option Value} {v : Int32} : mj_E 133 42 (a0 :: a1 :: a2 :: a3 :: some (.int v) :: ls) st σ τ = mj_E 133 44 (a0 :: a1 :: a2 :: a3 :: some (.int v) :: ls) (.int v :: st) σ τ := mj_nx i133_42 rfl
theorem i133_44 : mj_ins 133 44 = some (.ishl, 45) := by decide +kernel
theorem e133_44 {ls : mj_L} {st : List Value} {σ : mj_S} {τ : mj_T} {x y : Int32} : mj_E 133 44 ls (.int y :: .int x :: st) σ τ = mj_E 133 45 ls (.int (x <<< (y &&& 31)) :: st) σ τ := mj_nx i133_44 rfl
theorem i133_45 : mj_ins 133 45 = some (.iadd, 46) := by decide +kernel
theorem e133_45 {ls : mj_L} {st : List Value} {σ : mj_S} {τ : mj_T} {x y : Int32} : mj_E 133 45 ls (.int y :: .int x :: st) σ τ = mj_E 133 46 ls (.int (x + y) :: st) σ τ := mj_nx i133_45 rfl
theorem i133_46 : mj_ins 133 46 = some (.iconst (1), 47) := by decide +kernel
theorem e133_46 {ls : mj_L} {st : List Value} {σ : mj_S} {τ : mj_T} : mj_E 133 46 ls st σ τ = mj_E 133 47 ls (.int (nI 1) :: st) σ τ := mj_nx i133_46 rfl
theorem i133_47 : mj_ins 133 47 = some (.iload 5, 49) := by decide +kernel
theorem e133_47 {ls : mj_L} {st : List Value} {σ : mj_S} {τ : mj_T} {a0 a1 a2 a3 a4 : Option Value} {v : Int32} : mj_E 133 47 (a0 :: a1 :: a2 :: a3 :: a4 :: some (.int v) :: ls) st σ τ = mj_E 133 49 (a0 :: a1 :: a2 :: a3 :: a4 :: some (.int v) :: ls) (.int v :: st) σ τ := mj_nx i133_47 rfl
theorem i133_49 : mj_ins 133 49 = some (.ishl, 50) := by decide +kernel
theorem e133_49 {ls : mj_L} {st : List Value} {σ : mj_S} {τ : mj_T} {x y : Int32} : mj_E 133 49 ls (.int y :: .int x :: st) σ τ = mj_E 133 50 ls (.int (x <<< (y &&& 31)) :: st) σ τ := mj_nx i133_49 rfl
theorem i133_50 : mj_ins 133 50 = some (.iadd, 51) := by decide +kernel
theorem e133_50 {ls : mj_L} {st : List Value} {σ : mj_S} {τ : mj_T} {x y : Int32} : mj_E 133 50 ls (.int y :: .int x :: st) σ τ = mj_E 133 51 ls (.int (x + y) :: st) σ τ := mj_nx i133_50 rfl
theorem i133_51 : mj_ins 133 51 = some (.iastore, 52) := by decide +kernel
theorem e133_51 {ls : mj_L} {st : List Value} {σ : mj_S} {τ : mj_T} {x v : Int32} {k : Nat} : mj_E 133 51 ls (.int v :: .int x :: .ref k :: st) σ τ = if mj_ib (mj_lw k) x = true then mj_E 133 52 ls st (mj_up σ k x.toNatClampNeg v) τ else none := mj_ast i133_51
theorem i133_52 : mj_ins 133 52 = some (.iconst (0), 53) := by decide +kernel
theorem e133_52 {ls : mj_L} {st : List Value} {σ : mj_S} {τ : mj_T} : mj_E 133 52 ls st σ τ = mj_E 133 53 ls (.int (nI 0) :: st) σ τ := mj_nx i133_52 rfl
theorem i133_53 : mj_ins 133 53 = some (.istore 6, 55) := by decide +kernel
theorem e133_53 {ls : mj_L} {st : List Value} {σ : mj_S} {τ : mj_T} {a0 a1 a2 a3 a4 a5 a6 : Option Value} {v : Int32} : mj_E 133 53 (a0 :: a1 :: a2 :: a3 :: a4 :: a5 :: a6 :: ls) (.int v :: st) σ τ = mj_E 133 55 (a0 :: a1 :: a2 :: a3 :: a4 :: a5 :: some (.int v) :: ls) st σ τ := mj_nx i133_53 rfl
theorem i133_55 : mj_ins 133 55 = some (.iload 6, 57) := by decide +kernel
theorem e133_55 {ls : mj_L} {st : List Value} {σ : mj_S} {τ : mj_T} {a0 a1 a2 a3 a4 a5 : Option Value} {v : Int32} : mj_E 133 55 (a0 :: a1 :: a2 :: a3 :: a4 :: a5 :: some (.int v) :: ls) st σ τ = mj_E 133 57 (a0 :: a1 :: a2 :: a3 :: a4 :: a5 :: some (.int v) :: ls) (.int v :: st) σ τ := mj_nx i133_55 rfl
theorem i133_57 : mj_ins 133 57 = some (.iconst (8), 59) := by decide +kernel
theorem e133_57 {ls : mj_L} {st : List Value} {σ : mj_S} {τ : mj_T} : mj_E 133 57 ls st σ τ = mj_E 133 59 ls (.int (nI 8) :: st) σ τ := mj_nx i133_57 rfl
theorem i133_59 : mj_ins 133 59 = some (.if_icmp .ge 84, 62) := by decide +kernel
theorem e133_59 {ls : mj_L} {st : List Value} {σ : mj_S} {τ : mj_T} {x y : Int32} : mj_E 133 59 ls (.int y :: .int x :: st) σ τ = if y ≤ x then mj_E 133 84 ls st σ τ else mj_E 133 62 ls st σ τ := (mj_ifi i133_59).trans (mj_cdT rfl)
theorem i133_62 : mj_ins 133 62 = some (.aload 0, 63) := by decide +kernel
theorem e133_62 {ls : mj_L} {st : List Value} {σ : mj_S} {τ : mj_T} {v : Nat} : mj_E 133 62 (some (.ref v) :: ls) st σ τ = mj_E 133 63 (some (.ref v) :: ls) (.ref v :: st) σ τ := mj_nx i133_62 rfl
theorem i133_63 : mj_ins 133 63 = some (.getfield 716, 66) := by decide +kernel
theorem e133_63 {ls : mj_L} {st : List Value} {σ : mj_S} {τ : mj_T} : mj_E 133 63 ls (.ref 62 :: st) σ τ = mj_E 133 66 ls (.ref 73 :: st) σ τ := mj_nx i133_63 rfl
theorem i133_66 : mj_ins 133 66 = some (.iconst (8), 68) := by decide +kernel
theorem e133_66 {ls : mj_L} {st : List Value} {σ : mj_S} {τ : mj_T} : mj_E 133 66 ls st σ τ = mj_E 133 68 ls (.int (nI 8) :: st) σ τ := mj_nx i133_66 rfl
theorem i133_68 : mj_ins 133 68 = some (.aload 0, 69) := by decide +kernel
theorem e133_68 {ls : mj_L} {st : List Value} {σ : mj_S} {τ : mj_T} {v : Nat} : mj_E 133 68 (some (.ref v) :: ls) st σ τ = mj_E 133 69 (some (.ref v) :: ls) (.ref v :: st) σ τ := mj_nx i133_68 rfl
theorem i133_69 : mj_ins 133 69 = some (.getfield 701, 72) := by decide +kernel
theorem e133_69 {ls : mj_L} {st : List Value} {σ : mj_S} {τ : mj_T} : mj_E 133 69 ls (.ref 62 :: st) σ τ = mj_E 133 72 ls (.int (σ 62 1) :: st) σ τ := mj_nx i133_69 rfl
theorem i133_72 : mj_ins 133 72 = some (.imul, 73) := by decide +kernel
theorem e133_72 {ls : mj_L} {st : List Value} {σ : mj_S} {τ : mj_T} {x y : Int32} : mj_E 133 72 ls (.int y :: .int x :: st) σ τ = mj_E 133 73 ls (.int (x * y) :: st) σ τ := mj_nx i133_72 rfl
theorem i133_73 : mj_ins 133 73 = some (.iload 6, 75) := by decide +kernel
theorem e133_73 {ls : mj_L} {st : List Value} {σ : mj_S} {τ : mj_T} {a0 a1 a2 a3 a4 a5 : Option Value} {v : Int32} : mj_E 133 73 (a0 :: a1 :: a2 :: a3 :: a4 :: a5 :: some (.int v) :: ls) st σ τ = mj_E 133 75 (a0 :: a1 :: a2 :: a3 :: a4 :: a5 :: some (.int v) :: ls) (.int v :: st) σ τ := mj_nx i133_73 rfl
theorem i133_75 : mj_ins 133 75 = some (.iadd, 76) := by decide +kernel
theorem e133_75 {ls : mj_L} {st : List Value} {σ : mj_S} {τ : mj_T} {x y : Int32} : mj_E 133 75 ls (.int y :: .int x :: st) σ τ = mj_E 133 76 ls (.int (x + y) :: st) σ τ := mj_nx i133_75 rfl
theorem i133_76 : mj_ins 133 76 = some (.iconst (0), 77) := by decide +kernel
theorem e133_76 {ls : mj_L} {st : List Value} {σ : mj_S} {τ : mj_T} : mj_E 133 76 ls st σ τ = mj_E 133 77 ls (.int (nI 0) :: st) σ τ := mj_nx i133_76 rfl
theorem i133_77 : mj_ins 133 77 = some (.iastore, 78) := by decide +kernel
theorem e133_77 {ls : mj_L} {st : List Value} {σ : mj_S} {τ : mj_T} {x v : Int32} {k : Nat} : mj_E 133 77 ls (.int v :: .int x :: .ref k :: st) σ τ = if mj_ib (mj_lw k) x = true then mj_E 133 78 ls st (mj_up σ k x.toNatClampNeg v) τ else none := mj_ast i133_77
theorem i133_78 : mj_ins 133 78 = some (.iinc 6 (1), 81) := by decide +kernel
theorem e133_78 {ls : mj_L} {st : List Value} {σ : mj_S} {τ : mj_T} {a0 a1 a2 a3 a4 a5 : Option Value} {v : Int32} : mj_E 133 78 (a0 :: a1 :: a2 :: a3 :: a4 :: a5 :: some (.int v) :: ls) st σ τ = mj_E 133 81 (a0 :: a1 :: a2 :: a3 :: a4 :: a5 :: some (.int (v + nI 1)) :: ls) st σ τ := mj_nx i133_78 rfl
theorem i133_81 : mj_ins 133 81 = some (.goto 55, 84) := by decide +kernel
theorem e133_81 {ls : mj_L} {st : List Value} {σ : mj_S} {τ : mj_T} : mj_E 133 81 ls st σ τ = mj_E 133 55 ls st σ τ := mj_nx i133_81 rfl
theorem i133_84 : mj_ins 133 84 = some (.aload 0, 85) := by decide +kernel
theorem e133_84 {ls : mj_L} {st : List Value} {σ : mj_S} {τ : mj_T} {v : Nat} : mj_E 133 84 (some (.ref v) :: ls) st σ τ = mj_E 133 85 (some (.ref v) :: ls) (.ref v :: st) σ τ := mj_nx i133_84 rfl
theorem i133_85 : mj_ins 133 85 = some (.dup, 86) := by decide +kernel
theorem e133_85 {ls : mj_L} {st : List Value} {σ : mj_S} {τ : mj_T} {v : Nat} : mj_E 133 85 ls (.ref v :: st) σ τ = mj_E 133 86 ls (.ref v :: .ref v :: st) σ τ := mj_nx i133_85 rfl
theorem i133_86 : mj_ins 133 86 = some (.getfield 701, 89) := by decide +kernel
theorem e133_86 {ls : mj_L} {st : List Value} {σ : mj_S} {τ : mj_T} : mj_E 133 86 ls (.ref 62 :: st) σ τ = mj_E 133 89 ls (.int (σ 62 1) :: st) σ τ := mj_nx i133_86 rfl
theorem i133_89 : mj_ins 133 89 = some (.dup_x1, 90) := by decide +kernel
theorem e133_89 {ls : mj_L} {st : List Value} {σ : mj_S} {τ : mj_T} {y : Int32} {x : Nat} : mj_E 133 89 ls (.int y :: .ref x :: st) σ τ = mj_E 133 90 ls (.int y :: .ref x :: .int y :: st) σ τ := mj_nx i133_89 rfl
theorem i133_90 : mj_ins 133 90 = some (.iconst (1), 91) := by decide +kernel
theorem e133_90 {ls : mj_L} {st : List Value} {σ : mj_S} {τ : mj_T} : mj_E 133 90 ls st σ τ = mj_E 133 91 ls (.int (nI 1) :: st) σ τ := mj_nx i133_90 rfl
theorem i133_91 : mj_ins 133 91 = some (.iadd, 92) := by decide +kernel
theorem e133_91 {ls : mj_L} {st : List Value} {σ : mj_S} {τ : mj_T} {x y : Int32} : mj_E 133 91 ls (.int y :: .int x :: st) σ τ = mj_E 133 92 ls (.int (x + y) :: st) σ τ := mj_nx i133_91 rfl
theorem i133_92 : mj_ins 133 92 = some (.putfield 701, 95) := by decide +kernel
theorem e133_92 {ls : mj_L} {st : List Value} {σ : mj_S} {τ : mj_T} {v : Int32} : mj_E 133 92 ls (.int v :: .ref 62 :: st) σ τ = mj_E 133 95 ls st (mj_up σ 62 1 v) τ := mj_nx i133_92 rfl
theorem i133_95 : mj_ins 133 95 = some (.ireturn, 96) := by decide +kernel
theorem e133_95 {ls : mj_L} {σ : mj_S} {τ : mj_T} {v : Int32} : mj_E 133 95 ls [.int v] σ τ = some (some (.int v), σ, τ) := mj_irt i133_95 rfl
theorem c134 {σ : mj_S} {τ : mj_T} {r : Nat} {x0 : Int32} {x1 : Int32} {x2 : Int32} {x3 : Int32} : mj_C 134 [.ref r, .int x0, .int x1, .int x2, .int x3] σ τ = mj_E 134 0 [some (.ref r), some (.int x0), some (.int x1), some (.int x2), some (.int x3)] [] σ τ := rfl
theorem i134_0 : mj_ins 134 0 = some (.iload 1, 1) := by decide +kernel
theorem e134_0 {ls : mj_L} {st : List Value} {σ : mj_S} {τ : mj_T} {a0 : Option Value} {v : Int32} : mj_E 134 0 (a0 :: some (.int v) :: ls) st σ τ = mj_E 134 1 (a0 :: some (.int v) :: ls) (.int v :: st) σ τ := mj_nx i134_0 rfl
theorem i134_1 : mj_ins 134 1 = some (.ifCond .lt 10, 4) := by decide +kernel
theorem e134_1 {ls : mj_L} {st : List Value} {σ : mj_S} {τ : mj_T} {x : Int32} : mj_E 134 1 ls (.int x :: st) σ τ = if x < 0 then mj_E 134 10 ls st σ τ else mj_E 134 4 ls st σ τ := (mj_ifc i134_1).trans (mj_cdT rfl)
theorem i134_4 : mj_ins 134 4 = some (.iload 1, 5) := by decide +kernel
theorem e134_4 {ls : mj_L} {st : List Value} {σ : mj_S} {τ : mj_T} {a0 : Option Value} {v : Int32} : mj_E 134 4 (a0 :: some (.int v) :: ls) st σ τ = mj_E 134 5 (a0 :: some (.int v) :: ls) (.int v :: st) σ τ := mj_nx i134_4 rfl
theorem i134_5 : mj_ins 134 5 = some (.iconst (6), 7) := by decide +kernel
theorem e134_5 {ls : mj_L} {st : List Value} {σ : mj_S} {τ : mj_T} : mj_E 134 5 ls st σ τ = mj_E 134 7 ls (.int (nI 6) :: st) σ τ := mj_nx i134_5 rfl
theorem i134_7 : mj_ins 134 7 = some (.if_icmp .le 16, 10) := by decide +kernel
theorem e134_7 {ls : mj_L} {st : List Value} {σ : mj_S} {τ : mj_T} {x y : Int32} : mj_E 134 7 ls (.int y :: .int x :: st) σ τ = if x ≤ y then mj_E 134 16 ls st σ τ else mj_E 134 10 ls st σ τ := (mj_ifi i134_7).trans (mj_cdT rfl)
theorem i134_10 : mj_ins 134 10 = some (.aload 0, 11) := by decide +kernel
theorem e134_10 {ls : mj_L} {st : List Value} {σ : mj_S} {τ : mj_T} {v : Nat} : mj_E 134 10 (some (.ref v) :: ls) st σ τ = mj_E 134 11 (some (.ref v) :: ls) (.ref v :: st) σ τ := mj_nx i134_10 rfl
theorem i134_11 : mj_ins 134 11 = some (.iconst (-1), 12) := by decide +kernel
theorem e134_11 {ls : mj_L} {st : List Value} {σ : mj_S} {τ : mj_T} : mj_E 134 11 ls st σ τ = mj_E 134 12 ls (.int ((-1)) :: st) σ τ := mj_nx i134_11 rfl
theorem i134_12 : mj_ins 134 12 = some (.invokevirtual 117, 15) := by decide +kernel
theorem e134_12 {ls : mj_L} {σ : mj_S} {τ : mj_T} {r : Nat} {x0 : Int32} : mj_E 134 12 ls [.int x0, .ref r] σ τ = if mj_rcv r 7 = true then mj_bd (mj_C 117 [.ref r, .int x0] σ τ) (mj_K 134 15 ls []) else none := mj_clV (as := [.int x0]) (r := []) i134_12 (by decide +kernel : mj_vk 134 117 1 0 2 false = true) (by decide +kernel)
theorem i134_15 : mj_ins 134 15 = some (.ireturn, 16) := by decide +kernel
theorem e134_15 {ls : mj_L} {σ : mj_S} {τ : mj_T} {v : Int32} : mj_E 134 15 ls [.int v] σ τ = some (some (.int v), σ, τ) := mj_irt i134_15 rfl
theorem i134_16 : mj_ins 134 16 = some (.aload 0, 17) := by decide +kernel
theorem e134_16 {ls : mj_L} {st : List Value} {σ : mj_S} {τ : mj_T} {v : Nat} : mj_E 134 16 (some (.ref v) :: ls) st σ τ = mj_E 134 17 (some (.ref v) :: ls) (.ref v :: st) σ τ := mj_nx i134_16 rfl
theorem i134_17 : mj_ins 134 17 = some (.iload 2, 18) := by decide +kernel
theorem e134_17 {ls : mj_L} {st : List Value} {σ : mj_S} {τ : mj_T} {a0 a1 : Option Value} {v : Int32} : mj_E 134 17 (a0 :: a1 :: some (.int v) :: ls) st σ τ = mj_E 134 18 (a0 :: a1 :: some (.int v) :: ls) (.int v :: st) σ τ := mj_nx i134_17 rfl
theorem i134_18 : mj_ins 134 18 = some (.iconst (0), 19) := by decide +kernel
theorem e134_18 {ls : mj_L} {st : List Value} {σ : mj_S} {τ : mj_T} : mj_E 134 18 ls st σ τ = mj_E 134 19 ls (.int (nI 0) :: st) σ τ := mj_nx i134_18 rfl
theorem i134_19 : mj_ins 134 19 = some (.iconst (9), 21) := by decide +kernel
theorem e134_19 {ls : mj_L} {st : List Value} {σ : mj_S} {τ : mj_T} : mj_E 134 19 ls st σ τ = mj_E 134 21 ls (.int (nI 9) :: st) σ τ := mj_nx i134_19 rfl
theorem i134_21 : mj_ins 134 21 = some (.invokevirtual 122, 24) := by decide +kernel
theorem e134_21 {ls : mj_L} {σ : mj_S} {τ : mj_T} {r : Nat} {x0 : Int32} {x1 : Int32} {x2 : Int32} : mj_E 134 21 ls [.int x2, .int x1, .int x0, .ref r] σ τ = if mj_rcv r 7 = true then mj_bd (mj_C 122 [.ref r, .int x0, .int x1, .int x2] σ τ) (mj_K 134 24 ls []) else none := mj_clV (as := [.int x0, .int x1, .int x2]) (r := []) i134_21 (by decide +kernel : mj_vk 134 122 3 0 4 false = true) (by decide +kernel)
theorem i134_24 : mj_ins 134 24 = some (.ifCond .eq 50, 27) := by decide +kernel
theorem e134_24 {ls : mj_L} {st : List Value} {σ : mj_S} {τ : mj_T} {x : Int32} : mj_E 134 24 ls (.int x :: st) σ τ = if x = 0 then mj_E 134 50 ls st σ τ else mj_E 134 27 ls st σ τ := (mj_ifc i134_24).trans (mj_cdT rfl)
theorem i134_27 : mj_ins 134 27 = some (.aload 0, 28) := by decide +kernel
theorem e134_27 {ls : mj_L} {st : List Value} {σ : mj_S} {τ : mj_T} {v : Nat} : mj_E 134 27 (some (.ref v) :: ls) st σ τ = mj_E 134 28 (some (.ref v) :: ls) (.ref v :: st) σ τ := mj_nx i134_27 rfl
theorem i134_28 : mj_ins 134 28 = some (.iload 3, 29) := by decide +kernel
theorem e134_28 {ls : mj_L} {st : List Value} {σ : mj_S} {τ : mj_T} {a0 a1 a2 : Option Value} {v : Int32} : mj_E 134 28 (a0 :: a1 :: a2 :: some (.int v) :: ls) st σ τ = mj_E 134 29 (a0 :: a1 :: a2 :: some (.int v) :: ls) (.int v :: st) σ τ := mj_nx i134_28 rfl
theorem i134_29 : mj_ins 134 29 = some (.iconst (0), 30) := by decide +kernel
theorem e134_29 {ls : mj_L} {st : List Value} {σ : mj_S} {τ : mj_T} : mj_E 134 29 ls st σ τ = mj_E 134 30 ls (.int (nI 0) :: st) σ τ := mj_nx i134_29 rfl
theorem i134_30 : mj_ins 134 30 = some (.iconst (60), 32) := by decide +kernel
theorem e134_30 {ls : mj_L} {st : List Value} {σ : mj_S} {τ : mj_T} : mj_E 134 30 ls st σ τ = mj_E 134 32 ls (.int (nI 60) :: st) σ τ := mj_nx i134_30 rfl
theorem i134_32 : mj_ins 134 32 = some (.invokevirtual 122, 35) := by decide +kernel
theorem e134_32 {ls : mj_L} {σ : mj_S} {τ : mj_T} {r : Nat} {x0 : Int32} {x1 : Int32} {x2 : Int32} : mj_E 134 32 ls [.int x2, .int x1, .int x0, .ref r] σ τ = if mj_rcv r 7 = true then mj_bd (mj_C 122 [.ref r, .int x0, .int x1, .int x2] σ τ) (mj_K 134 35 ls []) else none := mj_clV (as := [.int x0, .int x1, .int x2]) (r := []) i134_32 (by decide +kernel : mj_vk 134 122 3 0 4 false = true) (by decide +kernel)
theorem i134_35 : mj_ins 134 35 = some (.ifCond .eq 50, 38) := by decide +kernel
theorem e134_35 {ls : mj_L} {st : List Value} {σ : mj_S} {τ : mj_T} {x : Int32} : mj_E 134 35 ls (.int x :: st) σ τ = if x = 0 then mj_E 134 50 ls st σ τ else mj_E 134 38 ls st σ τ := (mj_ifc i134_35).trans (mj_cdT rfl)
theorem i134_38 : mj_ins 134 38 = some (.aload 0, 39) := by decide +kernel
theorem e134_38 {ls : mj_L} {st : List Value} {σ : mj_S} {τ : mj_T} {v : Nat} : mj_E 134 38 (some (.ref v) :: ls) st σ τ = mj_E 134 39 (some (.ref v) :: ls) (.ref v :: st) σ τ := mj_nx i134_38 rfl
theorem i134_39 : mj_ins 134 39 = some (.iload 4, 41) := by decide +kernel
theorem e134_39 {ls : mj_L} {st : List Value} {σ : mj_S} {τ : mj_T} {a0 a1 a2 a3 : Option Value} {v : Int32} : mj_E 134 39 (a0 :: a1 :: a2 :: a3 :: some (.int v) :: ls) st σ τ = mj_E 134 41 (a0 :: a1 :: a2 :: a3 :: some (.int v) :: ls) (.int v :: st) σ τ := mj_nx i134_39 rfl
theorem i134_41 : mj_ins 134 41 = some (.iconst (0), 42) := by decide +kernel
theorem e134_41 {ls : mj_L} {st : List Value} {σ : mj_S} {τ : mj_T} : mj_E 134 41 ls st σ τ = mj_E 134 42 ls (.int (nI 0) :: st) σ τ := mj_nx i134_41 rfl
theorem i134_42 : mj_ins 134 42 = some (.iconst (9), 44) := by decide +kernel
theorem e134_42 {ls : mj_L} {st : List Value} {σ : mj_S} {τ : mj_T} : mj_E 134 42 ls st σ τ = mj_E 134 44 ls (.int (nI 9) :: st) σ τ := mj_nx i134_42 rfl
theorem i134_44 : mj_ins 134 44 = some (.invokevirtual 122, 47) := by decide +kernel
theorem e134_44 {ls : mj_L} {σ : mj_S} {τ : mj_T} {r : Nat} {x0 : Int32} {x1 : Int32} {x2 : Int32} : mj_E 134 44 ls [.int x2, .int x1, .int x0, .ref r] σ τ = if mj_rcv r 7 = true then mj_bd (mj_C 122 [.ref r, .int x0, .int x1, .int x2] σ τ) (mj_K 134 47 ls []) else none := mj_clV (as := [.int x0, .int x1, .int x2]) (r := []) i134_44 (by decide +kernel : mj_vk 134 122 3 0 4 false = true) (by decide +kernel)
theorem i134_47 : mj_ins 134 47 = some (.ifCond .ne 57, 50) := by decide +kernel
theorem e134_47 {ls : mj_L} {st : List Value} {σ : mj_S} {τ : mj_T} {x : Int32} : mj_E 134 47 ls (.int x :: st) σ τ = if x = 0 then mj_E 134 50 ls st σ τ else mj_E 134 57 ls st σ τ := (mj_ifc i134_47).trans (mj_cdF rfl)
theorem i134_50 : mj_ins 134 50 = some (.aload 0, 51) := by decide +kernel
theorem e134_50 {ls : mj_L} {st : List Value} {σ : mj_S} {τ : mj_T} {v : Nat} : mj_E 134 50 (some (.ref v) :: ls) st σ τ = mj_E 134 51 (some (.ref v) :: ls) (.ref v :: st) σ τ := mj_nx i134_50 rfl
theorem i134_51 : mj_ins 134 51 = some (.iconst (-6), 53) := by decide +kernel
theorem e134_51 {ls : mj_L} {st : List Value} {σ : mj_S} {τ : mj_T} : mj_E 134 51 ls st σ τ = mj_E 134 53 ls (.int ((-6)) :: st) σ τ := mj_nx i134_51 rfl
theorem i134_53 : mj_ins 134 53 = some (.invokevirtual 117, 56) := by decide +kernel
theorem e134_53 {ls : mj_L} {σ : mj_S} {τ : mj_T} {r : Nat} {x0 : Int32} : mj_E 134 53 ls [.int x0, .ref r] σ τ = if mj_rcv r 7 = true then mj_bd (mj_C 117 [.ref r, .int x0] σ τ) (mj_K 134 56 ls []) else none := mj_clV (as := [.int x0]) (r := []) i134_53 (by decide +kernel : mj_vk 134 117 1 0 2 false = true) (by decide +kernel)
theorem i134_56 : mj_ins 134 56 = some (.ireturn, 57) := by decide +kernel
theorem e134_56 {ls : mj_L} {σ : mj_S} {τ : mj_T} {v : Int32} : mj_E 134 56 ls [.int v] σ τ = some (some (.int v), σ, τ) := mj_irt i134_56 rfl
theorem i134_57 : mj_ins 134 57 = some (.aload 0, 58) := by decide +kernel
theorem e134_57 {ls : mj_L} {st : List Value} {σ : mj_S} {τ : mj_T} {v : Nat} : mj_E 134 57 (some (.ref v) :: ls) st σ τ = mj_E 134 58 (some (.ref v) :: ls) (.ref v :: st) σ τ := mj_nx i134_57 rfl
theorem i134_58 : mj_ins 134 58 = some (.getfield 700, 61) := by decide +kernel
theorem e134_58 {ls : mj_L} {st : List Value} {σ : mj_S} {τ : mj_T} : mj_E 134 58 ls (.ref 62 :: st) σ τ = mj_E 134 61 ls (.int (σ 62 0) :: st) σ τ := mj_nx i134_58 rfl
theorem i134_61 : mj_ins 134 61 = some (.iconst (8), 63) := by decide +kernel
theorem e134_61 {ls : mj_L} {st : List Value} {σ : mj_S} {τ : mj_T} : mj_E 134 61 ls st σ τ = mj_E 134 63 ls (.int (nI 8) :: st) σ τ := mj_nx i134_61 rfl
theorem i134_63 : mj_ins 134 63 = some (.if_icmp .ne 75, 66) := by decide +kernel
theorem e134_63 {ls : mj_L} {st : List Value} {σ : mj_S} {τ : mj_T} {x y : Int32} : mj_E 134 63 ls (.int y :: .int x :: st) σ τ = if x = y then mj_E 134 66 ls st σ τ else mj_E 134 75 ls st σ τ := (mj_ifi i134_63).trans (mj_cdF rfl)
theorem i134_66 : mj_ins 134 66 = some (.aload 0, 67) := by decide +kernel
theorem e134_66 {ls : mj_L} {st : List Value} {σ : mj_S} {τ : mj_T} {v : Nat} : mj_E 134 66 (some (.ref v) :: ls) st σ τ = mj_E 134 67 (some (.ref v) :: ls) (.ref v :: st) σ τ := mj_nx i134_66 rfl
theorem i134_67 : mj_ins 134 67 = some (.iconst (-7), 69) := by decide +kernel
theorem e134_67 {ls : mj_L} {st : List Value} {σ : mj_S} {τ : mj_T} : mj_E 134 67 ls st σ τ = mj_E 134 69 ls (.int ((-7)) :: st) σ τ := mj_nx i134_67 rfl
theorem i134_69 : mj_ins 134 69 = some (.invokevirtual 117, 72) := by decide +kernel
theorem e134_69 {ls : mj_L} {σ : mj_S} {τ : mj_T} {r : Nat} {x0 : Int32} : mj_E 134 69 ls [.int x0, .ref r] σ τ = if mj_rcv r 7 = true then mj_bd (mj_C 117 [.ref r, .int x0] σ τ) (mj_K 134 72 ls []) else none := mj_clV (as := [.int x0]) (r := []) i134_69 (by decide +kernel : mj_vk 134 117 1 0 2 false = true) (by decide +kernel)
theorem i134_72 : mj_ins 134 72 = some (.goto 84, 75) := by decide +kernel
theorem e134_72 {ls : mj_L} {st : List Value} {σ : mj_S} {τ : mj_T} : mj_E 134 72 ls st σ τ = mj_E 134 84 ls st σ τ := mj_nx i134_72 rfl
theorem i134_75 : mj_ins 134 75 = some (.aload 0, 76) := by decide +kernel
theorem e134_75 {ls : mj_L} {st : List Value} {σ : mj_S} {τ : mj_T} {v : Nat} : mj_E 134 75 (some (.ref v) :: ls) st σ τ = mj_E 134 76 (some (.ref v) :: ls) (.ref v :: st) σ τ := mj_nx i134_75 rfl
theorem i134_76 : mj_ins 134 76 = some (.iload 1, 77) := by decide +kernel
theorem e134_76 {ls : mj_L} {st : List Value} {σ : mj_S} {τ : mj_T} {a0 : Option Value} {v : Int32} : mj_E 134 76 (a0 :: some (.int v) :: ls) st σ τ = mj_E 134 77 (a0 :: some (.int v) :: ls) (.int v :: st) σ τ := mj_nx i134_76 rfl
theorem i134_77 : mj_ins 134 77 = some (.iload 2, 78) := by decide +kernel
theorem e134_77 {ls : mj_L} {st : List Value} {σ : mj_S} {τ : mj_T} {a0 a1 : Option Value} {v : Int32} : mj_E 134 77 (a0 :: a1 :: some (.int v) :: ls) st σ τ = mj_E 134 78 (a0 :: a1 :: some (.int v) :: ls) (.int v :: st) σ τ := mj_nx i134_77 rfl
theorem i134_78 : mj_ins 134 78 = some (.iload 3, 79) := by decide +kernel
theorem e134_78 {ls : mj_L} {st : List Value} {σ : mj_S} {τ : mj_T} {a0 a1 a2 : Option Value} {v : Int32} : mj_E 134 78 (a0 :: a1 :: a2 :: some (.int v) :: ls) st σ τ = mj_E 134 79 (a0 :: a1 :: a2 :: some (.int v) :: ls) (.int v :: st) σ τ := mj_nx i134_78 rfl
theorem i134_79 : mj_ins 134 79 = some (.iload 4, 81) := by decide +kernel
theorem e134_79 {ls : mj_L} {st : List Value} {σ : mj_S} {τ : mj_T} {a0 a1 a2 a3 : Option Value} {v : Int32} : mj_E 134 79 (a0 :: a1 :: a2 :: a3 :: some (.int v) :: ls) st σ τ = mj_E 134 81 (a0 :: a1 :: a2 :: a3 :: some (.int v) :: ls) (.int v :: st) σ τ := mj_nx i134_79 rfl
theorem i134_81 : mj_ins 134 81 = some (.invokevirtual 132, 84) := by decide +kernel
theorem e134_81 {ls : mj_L} {σ : mj_S} {τ : mj_T} {r : Nat} {x0 : Int32} {x1 : Int32} {x2 : Int32} {x3 : Int32} : mj_E 134 81 ls [.int x3, .int x2, .int x1, .int x0, .ref r] σ τ = if mj_rcv r 7 = true then mj_bd (mj_C 132 [.ref r, .int x0, .int x1, .int x2, .int x3] σ τ) (mj_K 134 84 ls []) else none := mj_clV (as := [.int x0, .int x1, .int x2, .int x3]) (r := []) i134_81 (by decide +kernel : mj_vk 134 132 4 0 5 false = true) (by decide +kernel)
theorem i134_84 : mj_ins 134 84 = some (.ireturn, 85) := by decide +kernel
theorem e134_84 {ls : mj_L} {σ : mj_S} {τ : mj_T} {v : Int32} : mj_E 134 84 ls [.int v] σ τ = some (some (.int v), σ, τ) := mj_irt i134_84 rfl
theorem c135 {σ : mj_S} {τ : mj_T} {r : Nat} {x0 : Int32} {x1 : Int32} {x2 : Int32} {x3 : Int32} {x4 : Int32} : mj_C 135 [.ref r, .int x0, .int x1, .int x2, .int x3, .int x4] σ τ = mj_E 135 0 [some (.ref r), some (.int x0), some (.int x1), some (.int x2), some (.int x3), some (.int x4)] [] σ τ := rfl
theorem i135_0 : mj_ins 135 0 = some (.aload 0, 1) := by decide +kernel
theorem e135_0 {ls : mj_L} {st : List Value} {σ : mj_S} {τ : mj_T} {v : Nat} : mj_E 135 0 (some (.ref v) :: ls) st σ τ = mj_E 135 1 (some (.ref v) :: ls) (.ref v :: st) σ τ := mj_nx i135_0 rfl
theorem i135_1 : mj_ins 135 1 = some (.iload 3, 2) := by decide +kernel
theorem e135_1 {ls : mj_L} {st : List Value} {σ : mj_S} {τ : mj_T} {a0 a1 a2 : Option Value} {v : Int32} : mj_E 135 1 (a0 :: a1 :: a2 :: some (.int v) :: ls) st σ τ = mj_E 135 2 (a0 :: a1 :: a2 :: some (.int v) :: ls) (.int v :: st) σ τ := mj_nx i135_1 rfl
theorem i135_2 : mj_ins 135 2 = some (.invokevirtual 120, 5) := by decide +kernel
theorem e135_2 {ls : mj_L} {σ : mj_S} {τ : mj_T} {r : Nat} {x0 : Int32} : mj_E 135 2 ls [.int x0, .ref r] σ τ = if mj_rcv r 7 = true then mj_bd (mj_C 120 [.ref r, .int x0] σ τ) (mj_K 135 5 ls []) else none := mj_clV (as := [.int x0]) (r := []) i135_2 (by decide +kernel : mj_vk 135 120 1 0 2 false = true) (by decide +kernel)
theorem i135_5 : mj_ins 135 5 = some (.ifCond .eq 26, 8) := by decide +kernel
theorem e135_5 {ls : mj_L} {st : List Value} {σ : mj_S} {τ : mj_T} {x : Int32} : mj_E 135 5 ls (.int x :: st) σ τ = if x = 0 then mj_E 135 26 ls st σ τ else mj_E 135 8 ls st σ τ := (mj_ifc i135_5).trans (mj_cdT rfl)
theorem i135_8 : mj_ins 135 8 = some (.aload 0, 9) := by decide +kernel
theorem e135_8 {ls : mj_L} {st : List Value} {σ : mj_S} {τ : mj_T} {v : Nat} : mj_E 135 8 (some (.ref v) :: ls) st σ τ = mj_E 135 9 (some (.ref v) :: ls) (.ref v :: st) σ τ := mj_nx i135_8 rfl
theorem i135_9 : mj_ins 135 9 = some (.iload 4, 11) := by decide +kernel
theorem e135_9 {ls : mj_L} {st : List Value} {σ : mj_S} {τ : mj_T} {a0 a1 a2 a3 : Option Value} {v : Int32} : mj_E 135 9 (a0 :: a1 :: a2 :: a3 :: some (.int v) :: ls) st σ τ = mj_E 135 11 (a0 :: a1 :: a2 :: a3 :: some (.int v) :: ls) (.int v :: st) σ τ := mj_nx i135_9 rfl
theorem i135_11 : mj_ins 135 11 = some (.invokevirtual 120, 14) := by decide +kernel
theorem e135_11 {ls : mj_L} {σ : mj_S} {τ : mj_T} {r : Nat} {x0 : Int32} : mj_E 135 11 ls [.int x0, .ref r] σ τ = if mj_rcv r 7 = true then mj_bd (mj_C 120 [.ref r, .int x0] σ τ) (mj_K 135 14 ls []) else none := mj_clV (as := [.int x0]) (r := []) i135_11 (by decide +kernel : mj_vk 135 120 1 0 2 false = true) (by decide +kernel)
theorem i135_14 : mj_ins 135 14 = some (.ifCond .eq 26, 17) := by decide +kernel
theorem e135_14 {ls : mj_L} {st : List Value} {σ : mj_S} {τ : mj_T} {x : Int32} : mj_E 135 14 ls (.int x :: st) σ τ = if x = 0 then mj_E 135 26 ls st σ τ else mj_E 135 17 ls st σ τ := (mj_ifc i135_14).trans (mj_cdT rfl)
theorem i135_17 : mj_ins 135 17 = some (.aload 0, 18) := by decide +kernel
theorem e135_17 {ls : mj_L} {st : List Value} {σ : mj_S} {τ : mj_T} {v : Nat} : mj_E 135 17 (some (.ref v) :: ls) st σ τ = mj_E 135 18 (some (.ref v) :: ls) (.ref v :: st) σ τ := mj_nx i135_17 rfl
theorem i135_18 : mj_ins 135 18 = some (.iload 5, 20) := by decide +kernel
theorem e135_18 {ls : mj_L} {st : List Value} {σ : mj_S} {τ : mj_T} {a0 a1 a2 a3 a4 : Option Value} {v : Int32} : mj_E 135 18 (a0 :: a1 :: a2 :: a3 :: a4 :: some (.int v) :: ls) st σ τ = mj_E 135 20 (a0 :: a1 :: a2 :: a3 :: a4 :: some (.int v) :: ls) (.int v :: st) σ τ := mj_nx i135_18 rfl
theorem i135_20 : mj_ins 135 20 = some (.invokevirtual 120, 23) := by decide +kernel
theorem e135_20 {ls : mj_L} {σ : mj_S} {τ : mj_T} {r : Nat} {x0 : Int32} : mj_E 135 20 ls [.int x0, .ref r] σ τ = if mj_rcv r 7 = true then mj_bd (mj_C 120 [.ref r, .int x0] σ τ) (mj_K 135 23 ls []) else none := mj_clV (as := [.int x0]) (r := []) i135_20 (by decide +kernel : mj_vk 135 120 1 0 2 false = true) (by decide +kernel)
theorem i135_23 : mj_ins 135 23 = some (.ifCond .ne 32, 26) := by decide +kernel
theorem e135_23 {ls : mj_L} {st : List Value} {σ : mj_S} {τ : mj_T} {x : Int32} : mj_E 135 23 ls (.int x :: st) σ τ = if x = 0 then mj_E 135 26 ls st σ τ else mj_E 135 32 ls st σ τ := (mj_ifc i135_23).trans (mj_cdF rfl)
theorem i135_26 : mj_ins 135 26 = some (.aload 0, 27) := by decide +kernel
theorem e135_26 {ls : mj_L} {st : List Value} {σ : mj_S} {τ : mj_T} {v : Nat} : mj_E 135 26 (some (.ref v) :: ls) st σ τ = mj_E 135 27 (some (.ref v) :: ls) (.ref v :: st) σ τ := mj_nx i135_26 rfl
theorem i135_27 : mj_ins 135 27 = some (.iconst (-1), 28) := by decide +kernel
theorem e135_27 {ls : mj_L} {st : List Value} {σ : mj_S} {τ : mj_T} : mj_E 135 27 ls st σ τ = mj_E 135 28 ls (.int ((-1)) :: st) σ τ := mj_nx i135_27 rfl
theorem i135_28 : mj_ins 135 28 = some (.invokevirtual 117, 31) := by decide +kernel
theorem e135_28 {ls : mj_L} {σ : mj_S} {τ : mj_T} {r : Nat} {x0 : Int32} : mj_E 135 28 ls [.int x0, .ref r] σ τ = if mj_rcv r 7 = true then mj_bd (mj_C 117 [.ref r, .int x0] σ τ) (mj_K 135 31 ls []) else none := mj_clV (as := [.int x0]) (r := []) i135_28 (by decide +kernel : mj_vk 135 117 1 0 2 false = true) (by decide +kernel)
theorem i135_31 : mj_ins 135 31 = some (.ireturn, 32) := by decide +kernel
theorem e135_31 {ls : mj_L} {σ : mj_S} {τ : mj_T} {v : Int32} : mj_E 135 31 ls [.int v] σ τ = some (some (.int v), σ, τ) := mj_irt i135_31 rfl
theorem i135_32 : mj_ins 135 32 = some (.aload 0, 33) := by decide +kernel
theorem e135_32 {ls : mj_L} {st : List Value} {σ : mj_S} {τ : mj_T} {v : Nat} : mj_E 135 32 (some (.ref v) :: ls) st σ τ = mj_E 135 33 (some (.ref v) :: ls) (.ref v :: st) σ τ := mj_nx i135_32 rfl
theorem i135_33 : mj_ins 135 33 = some (.iload 1, 34) := by decide +kernel
theorem e135_33 {ls : mj_L} {st : List Value} {σ : mj_S} {τ : mj_T} {a0 : Option Value} {v : Int32} : mj_E 135 33 (a0 :: some (.int v) :: ls) st σ τ = mj_E 135 34 (a0 :: some (.int v) :: ls) (.int v :: st) σ τ := mj_nx i135_33 rfl
theorem i135_34 : mj_ins 135 34 = some (.iconst (0), 35) := by decide +kernel
theorem e135_34 {ls : mj_L} {st : List Value} {σ : mj_S} {τ : mj_T} : mj_E 135 34 ls st σ τ = mj_E 135 35 ls (.int (nI 0) :: st) σ τ := mj_nx i135_34 rfl
theorem i135_35 : mj_ins 135 35 = some (.iconst (9), 37) := by decide +kernel
theorem e135_35 {ls : mj_L} {st : List Value} {σ : mj_S} {τ : mj_T} : mj_E 135 35 ls st σ τ = mj_E 135 37 ls (.int (nI 9) :: st) σ τ := mj_nx i135_35 rfl
theorem i135_37 : mj_ins 135 37 = some (.invokevirtual 122, 40) := by decide +kernel
theorem e135_37 {ls : mj_L} {σ : mj_S} {τ : mj_T} {r : Nat} {x0 : Int32} {x1 : Int32} {x2 : Int32} : mj_E 135 37 ls [.int x2, .int x1, .int x0, .ref r] σ τ = if mj_rcv r 7 = true then mj_bd (mj_C 122 [.ref r, .int x0, .int x1, .int x2] σ τ) (mj_K 135 40 ls []) else none := mj_clV (as := [.int x0, .int x1, .int x2]) (r := []) i135_37 (by decide +kernel : mj_vk 135 122 3 0 4 false = true) (by decide +kernel)
theorem i135_40 : mj_ins 135 40 = some (.ifCond .eq 73, 43) := by decide +kernel
theorem e135_40 {ls : mj_L} {st : List Value} {σ : mj_S} {τ : mj_T} {x : Int32} : mj_E 135 40 ls (.int x :: st) σ τ = if x = 0 then mj_E 135 73 ls st σ τ else mj_E 135 43 ls st σ τ := (mj_ifc i135_40).trans (mj_cdT rfl)
theorem i135_43 : mj_ins 135 43 = some (.aload 0, 44) := by decide +kernel
theorem e135_43 {ls : mj_L} {st : List Value} {σ : mj_S} {τ : mj_T} {v : Nat} : mj_E 135 43 (some (.ref v) :: ls) st σ τ = mj_E 135 44 (some (.ref v) :: ls) (.ref v :: st) σ τ := mj_nx i135_43 rfl
theorem i135_44 : mj_ins 135 44 = some (.iload 2, 45) := by decide +kernel
theorem e135_44 {ls : mj_L} {st : List Value} {σ : mj_S} {τ : mj_T} {a0 a1 : Option Value} {v : Int32} : mj_E 135 44 (a0 :: a1 :: some (.int v) :: ls) st σ τ = mj_E 135 45 (a0 :: a1 :: some (.int v) :: ls) (.int v :: st) σ τ := mj_nx i135_44 rfl
theorem i135_45 : mj_ins 135 45 = some (.iconst (0), 46) := by decide +kernel
theorem e135_45 {ls : mj_L} {st : List Value} {σ : mj_S} {τ : mj_T} : mj_E 135 45 ls st σ τ = mj_E 135 46 ls (.int (nI 0) :: st) σ τ := mj_nx i135_45 rfl
theorem i135_46 : mj_ins 135 46 = some (.iconst (9), 48) := by decide +kernel
theorem e135_46 {ls : mj_L} {st : List Value} {σ : mj_S} {τ : mj_T} : mj_E 135 46 ls st σ τ = mj_E 135 48 ls (.int (nI 9) :: st) σ τ := mj_nx i135_46 rfl
theorem i135_48 : mj_ins 135 48 = some (.invokevirtual 122, 51) := by decide +kernel
theorem e135_48 {ls : mj_L} {σ : mj_S} {τ : mj_T} {r : Nat} {x0 : Int32} {x1 : Int32} {x2 : Int32} : mj_E 135 48 ls [.int x2, .int x1, .int x0, .ref r] σ τ = if mj_rcv r 7 = true then mj_bd (mj_C 122 [.ref r, .int x0, .int x1, .int x2] σ τ) (mj_K 135 51 ls []) else none := mj_clV (as := [.int x0, .int x1, .int x2]) (r := []) i135_48 (by decide +kernel : mj_vk 135 122 3 0 4 false = true) (by decide +kernel)
theorem i135_51 : mj_ins 135 51 = some (.ifCond .eq 73, 54) := by decide +kernel
theorem e135_51 {ls : mj_L} {st : List Value} {σ : mj_S} {τ : mj_T} {x : Int32} : mj_E 135 51 ls (.int x :: st) σ τ = if x = 0 then mj_E 135 73 ls st σ τ else mj_E 135 54 ls st σ τ := (mj_ifc i135_51).trans (mj_cdT rfl)
theorem i135_54 : mj_ins 135 54 = some (.iload 3, 55) := by decide +kernel
theorem e135_54 {ls : mj_L} {st : List Value} {σ : mj_S} {τ : mj_T} {a0 a1 a2 : Option Value} {v : Int32} : mj_E 135 54 (a0 :: a1 :: a2 :: some (.int v) :: ls) st σ τ = mj_E 135 55 (a0 :: a1 :: a2 :: some (.int v) :: ls) (.int v :: st) σ τ := mj_nx i135_54 rfl
theorem i135_55 : mj_ins 135 55 = some (.iload 4, 57) := by decide +kernel
theorem e135_55 {ls : mj_L} {st : List Value} {σ : mj_S} {τ : mj_T} {a0 a1 a2 a3 : Option Value} {v : Int32} : mj_E 135 55 (a0 :: a1 :: a2 :: a3 :: some (.int v) :: ls) st σ τ = mj_E 135 57 (a0 :: a1 :: a2 :: a3 :: some (.int v) :: ls) (.int v :: st) σ τ := mj_nx i135_55 rfl
theorem i135_57 : mj_ins 135 57 = some (.if_icmp .eq 73, 60) := by decide +kernel
theorem e135_57 {ls : mj_L} {st : List Value} {σ : mj_S} {τ : mj_T} {x y : Int32} : mj_E 135 57 ls (.int y :: .int x :: st) σ τ = if x = y then mj_E 135 73 ls st σ τ else mj_E 135 60 ls st σ τ := (mj_ifi i135_57).trans (mj_cdT rfl)
theorem i135_60 : mj_ins 135 60 = some (.iload 3, 61) := by decide +kernel
theorem e135_60 {ls : mj_L} {st : List Value} {σ : mj_S} {τ : mj_T} {a0 a1 a2 : Option Value} {v : Int32} : mj_E 135 60 (a0 :: a1 :: a2 :: some (.int v) :: ls) st σ τ = mj_E 135 61 (a0 :: a1 :: a2 :: some (.int v) :: ls) (.int v :: st) σ τ := mj_nx i135_60 rfl
theorem i135_61 : mj_ins 135 61 = some (.iload 5, 63) := by decide +kernel
theorem e135_61 {ls : mj_L} {st : List Value} {σ : mj_S} {τ : mj_T} {a0 a1 a2 a3 a4 : Option Value} {v : Int32} : mj_E 135 61 (a0 :: a1 :: a2 :: a3 :: a4 :: some (.int v) :: ls) st σ τ = mj_E 135 63 (a0 :: a1 :: a2 :: a3 :: a4 :: some (.int v) :: ls) (.int v :: st) σ τ := mj_nx i135_61 rfl
theorem i135_63 : mj_ins 135 63 = some (.if_icmp .eq 73, 66) := by decide +kernel
theorem e135_63 {ls : mj_L} {st : List Value} {σ : mj_S} {τ : mj_T} {x y : Int32} : mj_E 135 63 ls (.int y :: .int x :: st) σ τ = if x = y then mj_E 135 73 ls st σ τ else mj_E 135 66 ls st σ τ := (mj_ifi i135_63).trans (mj_cdT rfl)
theorem i135_66 : mj_ins 135 66 = some (.iload 4, 68) := by decide +kernel
theorem e135_66 {ls : mj_L} {st : List Value} {σ : mj_S} {τ : mj_T} {a0 a1 a2 a3 : Option Value} {v : Int32} : mj_E 135 66 (a0 :: a1 :: a2 :: a3 :: some (.int v) :: ls) st σ τ = mj_E 135 68 (a0 :: a1 :: a2 :: a3 :: some (.int v) :: ls) (.int v :: st) σ τ := mj_nx i135_66 rfl
theorem i135_68 : mj_ins 135 68 = some (.iload 5, 70) := by decide +kernel
theorem e135_68 {ls : mj_L} {st : List Value} {σ : mj_S} {τ : mj_T} {a0 a1 a2 a3 a4 : Option Value} {v : Int32} : mj_E 135 68 (a0 :: a1 :: a2 :: a3 :: a4 :: some (.int v) :: ls) st σ τ = mj_E 135 70 (a0 :: a1 :: a2 :: a3 :: a4 :: some (.int v) :: ls) (.int v :: st) σ τ := mj_nx i135_68 rfl
theorem i135_70 : mj_ins 135 70 = some (.if_icmp .ne 80, 73) := by decide +kernel
theorem e135_70 {ls : mj_L} {st : List Value} {σ : mj_S} {τ : mj_T} {x y : Int32} : mj_E 135 70 ls (.int y :: .int x :: st) σ τ = if x = y then mj_E 135 73 ls st σ τ else mj_E 135 80 ls st σ τ := (mj_ifi i135_70).trans (mj_cdF rfl)
theorem i135_73 : mj_ins 135 73 = some (.aload 0, 74) := by decide +kernel
theorem e135_73 {ls : mj_L} {st : List Value} {σ : mj_S} {τ : mj_T} {v : Nat} : mj_E 135 73 (some (.ref v) :: ls) st σ τ = mj_E 135 74 (some (.ref v) :: ls) (.ref v :: st) σ τ := mj_nx i135_73 rfl
theorem i135_74 : mj_ins 135 74 = some (.iconst (-6), 76) := by decide +kernel
theorem e135_74 {ls : mj_L} {st : List Value} {σ : mj_S} {τ : mj_T} : mj_E 135 74 ls st σ τ = mj_E 135 76 ls (.int ((-6)) :: st) σ τ := mj_nx i135_74 rfl
theorem i135_76 : mj_ins 135 76 = some (.invokevirtual 117, 79) := by decide +kernel
theorem e135_76 {ls : mj_L} {σ : mj_S} {τ : mj_T} {r : Nat} {x0 : Int32} : mj_E 135 76 ls [.int x0, .ref r] σ τ = if mj_rcv r 7 = true then mj_bd (mj_C 117 [.ref r, .int x0] σ τ) (mj_K 135 79 ls []) else none := mj_clV (as := [.int x0]) (r := []) i135_76 (by decide +kernel : mj_vk 135 117 1 0 2 false = true) (by decide +kernel)
theorem i135_79 : mj_ins 135 79 = some (.ireturn, 80) := by decide +kernel
theorem e135_79 {ls : mj_L} {σ : mj_S} {τ : mj_T} {v : Int32} : mj_E 135 79 ls [.int v] σ τ = some (some (.int v), σ, τ) := mj_irt i135_79 rfl
theorem i135_80 : mj_ins 135 80 = some (.aload 0, 81) := by decide +kernel
theorem e135_80 {ls : mj_L} {st : List Value} {σ : mj_S} {τ : mj_T} {v : Nat} : mj_E 135 80 (some (.ref v) :: ls) st σ τ = mj_E 135 81 (some (.ref v) :: ls) (.ref v :: st) σ τ := mj_nx i135_80 rfl
theorem i135_81 : mj_ins 135 81 = some (.getfield 701, 84) := by decide +kernel
theorem e135_81 {ls : mj_L} {st : List Value} {σ : mj_S} {τ : mj_T} : mj_E 135 81 ls (.ref 62 :: st) σ τ = mj_E 135 84 ls (.int (σ 62 1) :: st) σ τ := mj_nx i135_81 rfl
theorem i135_84 : mj_ins 135 84 = some (.iconst (6), 86) := by decide +kernel
theorem e135_84 {ls : mj_L} {st : List Value} {σ : mj_S} {τ : mj_T} : mj_E 135 84 ls st σ τ = mj_E 135 86 ls (.int (nI 6) :: st) σ τ := mj_nx i135_84 rfl
theorem i135_86 : mj_ins 135 86 = some (.if_icmp .ne 98, 89) := by decide +kernel
theorem e135_86 {ls : mj_L} {st : List Value} {σ : mj_S} {τ : mj_T} {x y : Int32} : mj_E 135 86 ls (.int y :: .int x :: st) σ τ = if x = y then mj_E 135 89 ls st σ τ else mj_E 135 98 ls st σ τ := (mj_ifi i135_86).trans (mj_cdF rfl)
theorem i135_89 : mj_ins 135 89 = some (.aload 0, 90) := by decide +kernel
theorem e135_89 {ls : mj_L} {st : List Value} {σ : mj_S} {τ : mj_T} {v : Nat} : mj_E 135 89 (some (.ref v) :: ls) st σ τ = mj_E 135 90 (some (.ref v) :: ls) (.ref v :: st) σ τ := mj_nx i135_89 rfl
theorem i135_90 : mj_ins 135 90 = some (.iconst (-7), 92) := by decide +kernel
theorem e135_90 {ls : mj_L} {st : List Value} {σ : mj_S} {τ : mj_T} : mj_E 135 90 ls st σ τ = mj_E 135 92 ls (.int ((-7)) :: st) σ τ := mj_nx i135_90 rfl
theorem i135_92 : mj_ins 135 92 = some (.invokevirtual 117, 95) := by decide +kernel
theorem e135_92 {ls : mj_L} {σ : mj_S} {τ : mj_T} {r : Nat} {x0 : Int32} : mj_E 135 92 ls [.int x0, .ref r] σ τ = if mj_rcv r 7 = true then mj_bd (mj_C 117 [.ref r, .int x0] σ τ) (mj_K 135 95 ls []) else none := mj_clV (as := [.int x0]) (r := []) i135_92 (by decide +kernel : mj_vk 135 117 1 0 2 false = true) (by decide +kernel)
theorem i135_95 : mj_ins 135 95 = some (.goto 109, 98) := by decide +kernel
theorem e135_95 {ls : mj_L} {st : List Value} {σ : mj_S} {τ : mj_T} : mj_E 135 95 ls st σ τ = mj_E 135 109 ls st σ τ := mj_nx i135_95 rfl
theorem i135_98 : mj_ins 135 98 = some (.aload 0, 99) := by decide +kernel
theorem e135_98 {ls : mj_L} {st : List Value} {σ : mj_S} {τ : mj_T} {v : Nat} : mj_E 135 98 (some (.ref v) :: ls) st σ τ = mj_E 135 99 (some (.ref v) :: ls) (.ref v :: st) σ τ := mj_nx i135_98 rfl
theorem i135_99 : mj_ins 135 99 = some (.iload 1, 100) := by decide +kernel
theorem e135_99 {ls : mj_L} {st : List Value} {σ : mj_S} {τ : mj_T} {a0 : Option Value} {v : Int32} : mj_E 135 99 (a0 :: some (.int v) :: ls) st σ τ = mj_E 135 100 (a0 :: some (.int v) :: ls) (.int v :: st) σ τ := mj_nx i135_99 rfl
theorem i135_100 : mj_ins 135 100 = some (.iload 2, 101) := by decide +kernel
theorem e135_100 {ls : mj_L} {st : List Value} {σ : mj_S} {τ : mj_T} {a0 a1 : Option Value} {v : Int32} : mj_E 135 100 (a0 :: a1 :: some (.int v) :: ls) st σ τ = mj_E 135 101 (a0 :: a1 :: some (.int v) :: ls) (.int v :: st) σ τ := mj_nx i135_100 rfl
theorem i135_101 : mj_ins 135 101 = some (.iload 3, 102) := by decide +kernel
theorem e135_101 {ls : mj_L} {st : List Value} {σ : mj_S} {τ : mj_T} {a0 a1 a2 : Option Value} {v : Int32} : mj_E 135 101 (a0 :: a1 :: a2 :: some (.int v) :: ls) st σ τ = mj_E 135 102 (a0 :: a1 :: a2 :: some (.int v) :: ls) (.int v :: st) σ τ := mj_nx i135_101 rfl
theorem i135_102 : mj_ins 135 102 = some (.iload 4, 104) := by decide +kernel
theorem e135_102 {ls : mj_L} {st : List Value} {σ : mj_S} {τ : mj_T} {a0 a1 a2 a3 : Option Value} {v : Int32} : mj_E 135 102 (a0 :: a1 :: a2 :: a3 :: some (.int v) :: ls) st σ τ = mj_E 135 104 (a0 :: a1 :: a2 :: a3 :: some (.int v) :: ls) (.int v :: st) σ τ := mj_nx i135_102 rfl
theorem i135_104 : mj_ins 135 104 = some (.iload 5, 106) := by decide +kernel
theorem e135_104 {ls : mj_L} {st : List Value} {σ : mj_S} {τ : mj_T} {a0 a1 a2 a3 a4 : Option Value} {v : Int32} : mj_E 135 104 (a0 :: a1 :: a2 :: a3 :: a4 :: some (.int v) :: ls) st σ τ = mj_E 135 106 (a0 :: a1 :: a2 :: a3 :: a4 :: some (.int v) :: ls) (.int v :: st) σ τ := mj_nx i135_104 rfl
theorem i135_106 : mj_ins 135 106 = some (.invokevirtual 133, 109) := by decide +kernel
theorem e135_106 {ls : mj_L} {σ : mj_S} {τ : mj_T} {r : Nat} {x0 : Int32} {x1 : Int32} {x2 : Int32} {x3 : Int32} {x4 : Int32} : mj_E 135 106 ls [.int x4, .int x3, .int x2, .int x1, .int x0, .ref r] σ τ = if mj_rcv r 7 = true then mj_bd (mj_C 133 [.ref r, .int x0, .int x1, .int x2, .int x3, .int x4] σ τ) (mj_K 135 109 ls []) else none := mj_clV (as := [.int x0, .int x1, .int x2, .int x3, .int x4]) (r := []) i135_106 (by decide +kernel : mj_vk 135 133 5 0 6 false = true) (by decide +kernel)
theorem i135_109 : mj_ins 135 109 = some (.ireturn, 110) := by decide +kernel
theorem e135_109 {ls : mj_L} {σ : mj_S} {τ : mj_T} {v : Int32} : mj_E 135 109 ls [.int v] σ τ = some (some (.int v), σ, τ) := mj_irt i135_109 rfl
theorem c136 {σ : mj_S} {τ : mj_T} {r : Nat} {x0 : Int32} : mj_C 136 [.ref r, .int x0] σ τ = mj_E 136 0 [some (.ref r), some (.int x0), none] [] σ τ := rfl
theorem i136_0 : mj_ins 136 0 = some (.aload 0, 1) := by decide +kernel
theorem e136_0 {ls : mj_L} {st : List Value} {σ : mj_S} {τ : mj_T} {v : Nat} : mj_E 136 0 (some (.ref v) :: ls) st σ τ = mj_E 136 1 (some (.ref v) :: ls) (.ref v :: st) σ τ := mj_nx i136_0 rfl
theorem i136_1 : mj_ins 136 1 = some (.iload 1, 2) := by decide +kernel
theorem e136_1 {ls : mj_L} {st : List Value} {σ : mj_S} {τ : mj_T} {a0 : Option Value} {v : Int32} : mj_E 136 1 (a0 :: some (.int v) :: ls) st σ τ = mj_E 136 2 (a0 :: some (.int v) :: ls) (.int v :: st) σ τ := mj_nx i136_1 rfl
theorem i136_2 : mj_ins 136 2 = some (.iconst (0), 3) := by decide +kernel
theorem e136_2 {ls : mj_L} {st : List Value} {σ : mj_S} {τ : mj_T} : mj_E 136 2 ls st σ τ = mj_E 136 3 ls (.int (nI 0) :: st) σ τ := mj_nx i136_2 rfl
theorem i136_3 : mj_ins 136 3 = some (.iconst (9), 5) := by decide +kernel
theorem e136_3 {ls : mj_L} {st : List Value} {σ : mj_S} {τ : mj_T} : mj_E 136 3 ls st σ τ = mj_E 136 5 ls (.int (nI 9) :: st) σ τ := mj_nx i136_3 rfl
theorem i136_5 : mj_ins 136 5 = some (.invokevirtual 122, 8) := by decide +kernel
theorem e136_5 {ls : mj_L} {σ : mj_S} {τ : mj_T} {r : Nat} {x0 : Int32} {x1 : Int32} {x2 : Int32} : mj_E 136 5 ls [.int x2, .int x1, .int x0, .ref r] σ τ = if mj_rcv r 7 = true then mj_bd (mj_C 122 [.ref r, .int x0, .int x1, .int x2] σ τ) (mj_K 136 8 ls []) else none := mj_clV (as := [.int x0, .int x1, .int x2]) (r := []) i136_5 (by decide +kernel : mj_vk 136 122 3 0 4 false = true) (by decide +kernel)
theorem i136_8 : mj_ins 136 8 = some (.ifCond .ne 18, 11) := by decide +kernel
theorem e136_8 {ls : mj_L} {st : List Value} {σ : mj_S} {τ : mj_T} {x : Int32} : mj_E 136 8 ls (.int x :: st) σ τ = if x = 0 then mj_E 136 11 ls st σ τ else mj_E 136 18 ls st σ τ := (mj_ifc i136_8).trans (mj_cdF rfl)
theorem i136_11 : mj_ins 136 11 = some (.aload 0, 12) := by decide +kernel
theorem e136_11 {ls : mj_L} {st : List Value} {σ : mj_S} {τ : mj_T} {v : Nat} : mj_E 136 11 (some (.ref v) :: ls) st σ τ = mj_E 136 12 (some (.ref v) :: ls) (.ref v :: st) σ τ := mj_nx i136_11 rfl
theorem i136_12 : mj_ins 136 12 = some (.iconst (-6), 14) := by decide +kernel
theorem e136_12 {ls : mj_L} {st : List Value} {σ : mj_S} {τ : mj_T} : mj_E 136 12 ls st σ τ = mj_E 136 14 ls (.int ((-6)) :: st) σ τ := mj_nx i136_12 rfl
theorem i136_14 : mj_ins 136 14 = some (.invokevirtual 117, 17) := by decide +kernel
theorem e136_14 {ls : mj_L} {σ : mj_S} {τ : mj_T} {r : Nat} {x0 : Int32} : mj_E 136 14 ls [.int x0, .ref r] σ τ = if mj_rcv r 7 = true then mj_bd (mj_C 117 [.ref r, .int x0] σ τ) (mj_K 136 17 ls []) else none := mj_clV (as := [.int x0]) (r := []) i136_14 (by decide +kernel : mj_vk 136 117 1 0 2 false = true) (by decide +kernel)
theorem i136_17 : mj_ins 136 17 = some (.ireturn, 18) := by decide +kernel
theorem e136_17 {ls : mj_L} {σ : mj_S} {τ : mj_T} {v : Int32} : mj_E 136 17 ls [.int v] σ τ = some (some (.int v), σ, τ) := mj_irt i136_17 rfl
theorem i136_18 : mj_ins 136 18 = some (.aload 0, 19) := by decide +kernel
theorem e136_18 {ls : mj_L} {st : List Value} {σ : mj_S} {τ : mj_T} {v : Nat} : mj_E 136 18 (some (.ref v) :: ls) st σ τ = mj_E 136 19 (some (.ref v) :: ls) (.ref v :: st) σ τ := mj_nx i136_18 rfl
theorem i136_19 : mj_ins 136 19 = some (.getfield 702, 22) := by decide +kernel
theorem e136_19 {ls : mj_L} {st : List Value} {σ : mj_S} {τ : mj_T} : mj_E 136 19 ls (.ref 62 :: st) σ τ = mj_E 136 22 ls (.int (σ 62 2) :: st) σ τ := mj_nx i136_19 rfl
theorem i136_22 : mj_ins 136 22 = some (.istore 2, 23) := by decide +kernel
theorem e136_22 {ls : mj_L} {st : List Value} {σ : mj_S} {τ : mj_T} {a0 a1 a2 : Option Value} {v : Int32} : mj_E 136 22 (a0 :: a1 :: a2 :: ls) (.int v :: st) σ τ = mj_E 136 23 (a0 :: a1 :: some (.int v) :: ls) st σ τ := mj_nx i136_22 rfl
theorem i136_23 : mj_ins 136 23 = some (.aload 0, 24) := by decide +kernel
theorem e136_23 {ls : mj_L} {st : List Value} {σ : mj_S} {τ : mj_T} {v : Nat} : mj_E 136 23 (some (.ref v) :: ls) st σ τ = mj_E 136 24 (some (.ref v) :: ls) (.ref v :: st) σ τ := mj_nx i136_23 rfl
theorem i136_24 : mj_ins 136 24 = some (.iload 1, 25) := by decide +kernel
theorem e136_24 {ls : mj_L} {st : List Value} {σ : mj_S} {τ : mj_T} {a0 : Option Value} {v : Int32} : mj_E 136 24 (a0 :: some (.int v) :: ls) st σ τ = mj_E 136 25 (a0 :: some (.int v) :: ls) (.int v :: st) σ τ := mj_nx i136_24 rfl
theorem i136_25 : mj_ins 136 25 = some (.putfield 702, 28) := by decide +kernel
theorem e136_25 {ls : mj_L} {st : List Value} {σ : mj_S} {τ : mj_T} {v : Int32} : mj_E 136 25 ls (.int v :: .ref 62 :: st) σ τ = mj_E 136 28 ls st (mj_up σ 62 2 v) τ := mj_nx i136_25 rfl
theorem i136_28 : mj_ins 136 28 = some (.iload 2, 29) := by decide +kernel
theorem e136_28 {ls : mj_L} {st : List Value} {σ : mj_S} {τ : mj_T} {a0 a1 : Option Value} {v : Int32} : mj_E 136 28 (a0 :: a1 :: some (.int v) :: ls) st σ τ = mj_E 136 29 (a0 :: a1 :: some (.int v) :: ls) (.int v :: st) σ τ := mj_nx i136_28 rfl
theorem i136_29 : mj_ins 136 29 = some (.ireturn, 30) := by decide +kernel
theorem e136_29 {ls : mj_L} {σ : mj_S} {τ : mj_T} {v : Int32} : mj_E 136 29 ls [.int v] σ τ = some (some (.int v), σ, τ) := mj_irt i136_29 rfl
theorem c137 {σ : mj_S} {τ : mj_T} {r : Nat} {x0 : Int32} {x1 : Int32} : mj_C 137 [.ref r, .int x0, .int x1] σ τ = mj_E 137 0 [some (.ref r), some (.int x0), some (.int x1), none] [] σ τ := rfl
theorem i137_0 : mj_ins 137 0 = some (.aload 0, 1) := by decide +kernel
theorem e137_0 {ls : mj_L} {st : List Value} {σ : mj_S} {τ : mj_T} {v : Nat} : mj_E 137 0 (some (.ref v) :: ls) st σ τ = mj_E 137 1 (some (.ref v) :: ls) (.ref v :: st) σ τ := mj_nx i137_0 rfl
theorem i137_1 : mj_ins 137 1 = some (.iload 1, 2) := by decide +kernel
theorem e137_1 {ls : mj_L} {st : List Value} {σ : mj_S} {τ : mj_T} {a0 : Option Value} {v : Int32} : mj_E 137 1 (a0 :: some (.int v) :: ls) st σ τ = mj_E 137 2 (a0 :: some (.int v) :: ls) (.int v :: st) σ τ := mj_nx i137_1 rfl
theorem i137_2 : mj_ins 137 2 = some (.invokevirtual 121, 5) := by decide +kernel
theorem e137_2 {ls : mj_L} {σ : mj_S} {τ : mj_T} {r : Nat} {x0 : Int32} : mj_E 137 2 ls [.int x0, .ref r] σ τ = if mj_rcv r 7 = true then mj_bd (mj_C 121 [.ref r, .int x0] σ τ) (mj_K 137 5 ls []) else none := mj_clV (as := [.int x0]) (r := []) i137_2 (by decide +kernel : mj_vk 137 121 1 0 2 false = true) (by decide +kernel)
theorem i137_5 : mj_ins 137 5 = some (.ifCond .ne 14, 8) := by decide +kernel
theorem e137_5 {ls : mj_L} {st : List Value} {σ : mj_S} {τ : mj_T} {x : Int32} : mj_E 137 5 ls (.int x :: st) σ τ = if x = 0 then mj_E 137 8 ls st σ τ else mj_E 137 14 ls st σ τ := (mj_ifc i137_5).trans (mj_cdF rfl)
theorem i137_8 : mj_ins 137 8 = some (.aload 0, 9) := by decide +kernel
theorem e137_8 {ls : mj_L} {st : List Value} {σ : mj_S} {τ : mj_T} {v : Nat} : mj_E 137 8 (some (.ref v) :: ls) st σ τ = mj_E 137 9 (some (.ref v) :: ls) (.ref v :: st) σ τ := mj_nx i137_8 rfl
theorem i137_9 : mj_ins 137 9 = some (.iconst (-1), 10) := by decide +kernel
theorem e137_9 {ls : mj_L} {st : List Value} {σ : mj_S} {τ : mj_T} : mj_E 137 9 ls st σ τ = mj_E 137 10 ls (.int ((-1)) :: st) σ τ := mj_nx i137_9 rfl
theorem i137_10 : mj_ins 137 10 = some (.invokevirtual 117, 13) := by decide +kernel
theorem e137_10 {ls : mj_L} {σ : mj_S} {τ : mj_T} {r : Nat} {x0 : Int32} : mj_E 137 10 ls [.int x0, .ref r] σ τ = if mj_rcv r 7 = true then mj_bd (mj_C 117 [.ref r, .int x0] σ τ) (mj_K 137 13 ls []) else none := mj_clV (as := [.int x0]) (r := []) i137_10 (by decide +kernel : mj_vk 137 117 1 0 2 false = true) (by decide +kernel)
theorem i137_13 : mj_ins 137 13 = some (.ireturn, 14) := by decide +kernel
theorem e137_13 {ls : mj_L} {σ : mj_S} {τ : mj_T} {v : Int32} : mj_E 137 13 ls [.int v] σ τ = some (some (.int v), σ, τ) := mj_irt i137_13 rfl
theorem i137_14 : mj_ins 137 14 = some (.aload 0, 15) := by decide +kernel
theorem e137_14 {ls : mj_L} {st : List Value} {σ : mj_S} {τ : mj_T} {v : Nat} : mj_E 137 14 (some (.ref v) :: ls) st σ τ = mj_E 137 15 (some (.ref v) :: ls) (.ref v :: st) σ τ := mj_nx i137_14 rfl
theorem i137_15 : mj_ins 137 15 = some (.iload 2, 16) := by decide +kernel
theorem e137_15 {ls : mj_L} {st : List Value} {σ : mj_S} {τ : mj_T} {a0 a1 : Option Value} {v : Int32} : mj_E 137 15 (a0 :: a1 :: some (.int v) :: ls) st σ τ = mj_E 137 16 (a0 :: a1 :: some (.int v) :: ls) (.int v :: st) σ τ := mj_nx i137_15 rfl
theorem i137_16 : mj_ins 137 16 = some (.iconst (0), 17) := by decide +kernel
theorem e137_16 {ls : mj_L} {st : List Value} {σ : mj_S} {τ : mj_T} : mj_E 137 16 ls st σ τ = mj_E 137 17 ls (.int (nI 0) :: st) σ τ := mj_nx i137_16 rfl
theorem i137_17 : mj_ins 137 17 = some (.iconst (30), 19) := by decide +kernel
theorem e137_17 {ls : mj_L} {st : List Value} {σ : mj_S} {τ : mj_T} : mj_E 137 17 ls st σ τ = mj_E 137 19 ls (.int (nI 30) :: st) σ τ := mj_nx i137_17 rfl
theorem i137_19 : mj_ins 137 19 = some (.invokevirtual 122, 22) := by decide +kernel
theorem e137_19 {ls : mj_L} {σ : mj_S} {τ : mj_T} {r : Nat} {x0 : Int32} {x1 : Int32} {x2 : Int32} : mj_E 137 19 ls [.int x2, .int x1, .int x0, .ref r] σ τ = if mj_rcv r 7 = true then mj_bd (mj_C 122 [.ref r, .int x0, .int x1, .int x2] σ τ) (mj_K 137 22 ls []) else none := mj_clV (as := [.int x0, .int x1, .int x2]) (r := []) i137_19 (by decide +kernel : mj_vk 137 122 3 0 4 false = true) (by decide +kernel)
theorem i137_22 : mj_ins 137 22 = some (.ifCond .ne 32, 25) := by decide +kernel
theorem e137_22 {ls : mj_L} {st : List Value} {σ : mj_S} {τ : mj_T} {x : Int32} : mj_E 137 22 ls (.int x :: st) σ τ = if x = 0 then mj_E 137 25 ls st σ τ else mj_E 137 32 ls st σ τ := (mj_ifc i137_22).trans (mj_cdF rfl)
theorem i137_25 : mj_ins 137 25 = some (.aload 0, 26) := by decide +kernel
theorem e137_25 {ls : mj_L} {st : List Value} {σ : mj_S} {τ : mj_T} {v : Nat} : mj_E 137 25 (some (.ref v) :: ls) st σ τ = mj_E 137 26 (some (.ref v) :: ls) (.ref v :: st) σ τ := mj_nx i137_25 rfl
theorem i137_26 : mj_ins 137 26 = some (.iconst (-6), 28) := by decide +kernel
theorem e137_26 {ls : mj_L} {st : List Value} {σ : mj_S} {τ : mj_T} : mj_E 137 26 ls st σ τ = mj_E 137 28 ls (.int ((-6)) :: st) σ τ := mj_nx i137_26 rfl
theorem i137_28 : mj_ins 137 28 = some (.invokevirtual 117, 31) := by decide +kernel
theorem e137_28 {ls : mj_L} {σ : mj_S} {τ : mj_T} {r : Nat} {x0 : Int32} : mj_E 137 28 ls [.int x0, .ref r] σ τ = if mj_rcv r 7 = true then mj_bd (mj_C 117 [.ref r, .int x0] σ τ) (mj_K 137 31 ls []) else none := mj_clV (as := [.int x0]) (r := []) i137_28 (by decide +kernel : mj_vk 137 117 1 0 2 false = true) (by decide +kernel)
theorem i137_31 : mj_ins 137 31 = some (.ireturn, 32) := by decide +kernel
theorem e137_31 {ls : mj_L} {σ : mj_S} {τ : mj_T} {v : Int32} : mj_E 137 31 ls [.int v] σ τ = some (some (.int v), σ, τ) := mj_irt i137_31 rfl
theorem i137_32 : mj_ins 137 32 = some (.aload 0, 33) := by decide +kernel
theorem e137_32 {ls : mj_L} {st : List Value} {σ : mj_S} {τ : mj_T} {v : Nat} : mj_E 137 32 (some (.ref v) :: ls) st σ τ = mj_E 137 33 (some (.ref v) :: ls) (.ref v :: st) σ τ := mj_nx i137_32 rfl
theorem i137_33 : mj_ins 137 33 = some (.getfield 714, 36) := by decide +kernel
theorem e137_33 {ls : mj_L} {st : List Value} {σ : mj_S} {τ : mj_T} : mj_E 137 33 ls (.ref 62 :: st) σ τ = mj_E 137 36 ls (.ref 71 :: st) σ τ := mj_nx i137_33 rfl
theorem i137_36 : mj_ins 137 36 = some (.iload 1, 37) := by decide +kernel
theorem e137_36 {ls : mj_L} {st : List Value} {σ : mj_S} {τ : mj_T} {a0 : Option Value} {v : Int32} : mj_E 137 36 (a0 :: some (.int v) :: ls) st σ τ = mj_E 137 37 (a0 :: some (.int v) :: ls) (.int v :: st) σ τ := mj_nx i137_36 rfl
theorem i137_37 : mj_ins 137 37 = some (.iaload, 38) := by decide +kernel
theorem e137_37 {ls : mj_L} {st : List Value} {σ : mj_S} {τ : mj_T} {x : Int32} {k : Nat} : mj_E 137 37 ls (.int x :: .ref k :: st) σ τ = if mj_ib (mj_li σ k) x = true then mj_E 137 38 ls (.int (σ k x.toNatClampNeg) :: st) σ τ else none := mj_ald i137_37
theorem i137_38 : mj_ins 137 38 = some (.istore 3, 39) := by decide +kernel
theorem e137_38 {ls : mj_L} {st : List Value} {σ : mj_S} {τ : mj_T} {a0 a1 a2 a3 : Option Value} {v : Int32} : mj_E 137 38 (a0 :: a1 :: a2 :: a3 :: ls) (.int v :: st) σ τ = mj_E 137 39 (a0 :: a1 :: a2 :: some (.int v) :: ls) st σ τ := mj_nx i137_38 rfl
theorem i137_39 : mj_ins 137 39 = some (.aload 0, 40) := by decide +kernel
theorem e137_39 {ls : mj_L} {st : List Value} {σ : mj_S} {τ : mj_T} {v : Nat} : mj_E 137 39 (some (.ref v) :: ls) st σ τ = mj_E 137 40 (some (.ref v) :: ls) (.ref v :: st) σ τ := mj_nx i137_39 rfl
theorem i137_40 : mj_ins 137 40 = some (.getfield 714, 43) := by decide +kernel
theorem e137_40 {ls : mj_L} {st : List Value} {σ : mj_S} {τ : mj_T} : mj_E 137 40 ls (.ref 62 :: st) σ τ = mj_E 137 43 ls (.ref 71 :: st) σ τ := mj_nx i137_40 rfl
theorem i137_43 : mj_ins 137 43 = some (.iload 1, 44) := by decide +kernel
theorem e137_43 {ls : mj_L} {st : List Value} {σ : mj_S} {τ : mj_T} {a0 : Option Value} {v : Int32} : mj_E 137 43 (a0 :: some (.int v) :: ls) st σ τ = mj_E 137 44 (a0 :: some (.int v) :: ls) (.int v :: st) σ τ := mj_nx i137_43 rfl
theorem i137_44 : mj_ins 137 44 = some (.iload 2, 45) := by decide +kernel
theorem e137_44 {ls : mj_L} {st : List Value} {σ : mj_S} {τ : mj_T} {a0 a1 : Option Value} {v : Int32} : mj_E 137 44 (a0 :: a1 :: some (.int v) :: ls) st σ τ = mj_E 137 45 (a0 :: a1 :: some (.int v) :: ls) (.int v :: st) σ τ := mj_nx i137_44 rfl
theorem i137_45 : mj_ins 137 45 = some (.iastore, 46) := by decide +kernel
theorem e137_45 {ls : mj_L} {st : List Value} {σ : mj_S} {τ : mj_T} {x v : Int32} {k : Nat} : mj_E 137 45 ls (.int v :: .int x :: .ref k :: st) σ τ = if mj_ib (mj_lw k) x = true then mj_E 137 46 ls st (mj_up σ k x.toNatClampNeg v) τ else none := mj_ast i137_45
theorem i137_46 : mj_ins 137 46 = some (.iload 3, 47) := by decide +kernel
theorem e137_46 {ls : mj_L} {st : List Value} {σ : mj_S} {τ : mj_T} {a0 a1 a2 : Option Value} {v : Int32} : mj_E 137 46 (a0 :: a1 :: a2 :: some (.int v) :: ls) st σ τ = mj_E 137 47 (a0 :: a1 :: a2 :: some (.int v) :: ls) (.int v :: st) σ τ := mj_nx i137_46 rfl
theorem i137_47 : mj_ins 137 47 = some (.ireturn, 48) := by decide +kernel
theorem e137_47 {ls : mj_L} {σ : mj_S} {τ : mj_T} {v : Int32} : mj_E 137 47 ls [.int v] σ τ = some (some (.int v), σ, τ) := mj_irt i137_47 rfl
theorem c138 {σ : mj_S} {τ : mj_T} {r : Nat} {x0 : Int32} {x1 : Int32} {x2 : Int32} : mj_C 138 [.ref r, .int x0, .int x1, .int x2] σ τ = mj_E 138 0 [some (.ref r), some (.int x0), some (.int x1), some (.int x2), none] [] σ τ := rfl
theorem i138_0 : mj_ins 138 0 = some (.aload 0, 1) := by decide +kernel
theorem e138_0 {ls : mj_L} {st : List Value} {σ : mj_S} {τ : mj_T} {v : Nat} : mj_E 138 0 (some (.ref v) :: ls) st σ τ = mj_E 138 1 (some (.ref v) :: ls) (.ref v :: st) σ τ := mj_nx i138_0 rfl
theorem i138_1 : mj_ins 138 1 = some (.getfield 716, 4) := by decide +kernel
theorem e138_1 {ls : mj_L} {st : List Value} {σ : mj_S} {τ : mj_T} : mj_E 138 1 ls (.ref 62 :: st) σ τ = mj_E 138 4 ls (.ref 73 :: st) σ τ := mj_nx i138_1 rfl
theorem i138_4 : mj_ins 138 4 = some (.iconst (8), 6) := by decide +kernel
theorem e138_4 {ls : mj_L} {st : List Value} {σ : mj_S} {τ : mj_T} : mj_E 138 4 ls st σ τ = mj_E 138 6 ls (.int (nI 8) :: st) σ τ := mj_nx i138_4 rfl
theorem i138_6 : mj_ins 138 6 = some (.iload 1, 7) := by decide +kernel
theorem e138_6 {ls : mj_L} {st : List Value} {σ : mj_S} {τ : mj_T} {a0 : Option Value} {v : Int32} : mj_E 138 6 (a0 :: some (.int v) :: ls) st σ τ = mj_E 138 7 (a0 :: some (.int v) :: ls) (.int v :: st) σ τ := mj_nx i138_6 rfl
theorem i138_7 : mj_ins 138 7 = some (.imul, 8) := by decide +kernel
theorem e138_7 {ls : mj_L} {st : List Value} {σ : mj_S} {τ : mj_T} {x y : Int32} : mj_E 138 7 ls (.int y :: .int x :: st) σ τ = mj_E 138 8 ls (.int (x * y) :: st) σ τ := mj_nx i138_7 rfl
theorem i138_8 : mj_ins 138 8 = some (.iload 2, 9) := by decide +kernel
theorem e138_8 {ls : mj_L} {st : List Value} {σ : mj_S} {τ : mj_T} {a0 a1 : Option Value} {v : Int32} : mj_E 138 8 (a0 :: a1 :: some (.int v) :: ls) st σ τ = mj_E 138 9 (a0 :: a1 :: some (.int v) :: ls) (.int v :: st) σ τ := mj_nx i138_8 rfl
theorem i138_9 : mj_ins 138 9 = some (.iadd, 10) := by decide +kernel
theorem e138_9 {ls : mj_L} {st : List Value} {σ : mj_S} {τ : mj_T} {x y : Int32} : mj_E 138 9 ls (.int y :: .int x :: st) σ τ = mj_E 138 10 ls (.int (x + y) :: st) σ τ := mj_nx i138_9 rfl
theorem i138_10 : mj_ins 138 10 = some (.iaload, 11) := by decide +kernel
theorem e138_10 {ls : mj_L} {st : List Value} {σ : mj_S} {τ : mj_T} {x : Int32} {k : Nat} : mj_E 138 10 ls (.int x :: .ref k :: st) σ τ = if mj_ib (mj_li σ k) x = true then mj_E 138 11 ls (.int (σ k x.toNatClampNeg) :: st) σ τ else none := mj_ald i138_10
theorem i138_11 : mj_ins 138 11 = some (.iload 3, 12) := by decide +kernel
theorem e138_11 {ls : mj_L} {st : List Value} {σ : mj_S} {τ : mj_T} {a0 a1 a2 : Option Value} {v : Int32} : mj_E 138 11 (a0 :: a1 :: a2 :: some (.int v) :: ls) st σ τ = mj_E 138 12 (a0 :: a1 :: a2 :: some (.int v) :: ls) (.int v :: st) σ τ := mj_nx i138_11 rfl
theorem i138_12 : mj_ins 138 12 = some (.iadd, 13) := by decide +kernel
theorem e138_12 {ls : mj_L} {st : List Value} {σ : mj_S} {τ : mj_T} {x y : Int32} : mj_E 138 12 ls (.int y :: .int x :: st) σ τ = mj_E 138 13 ls (.int (x + y) :: st) σ τ := mj_nx i138_12 rfl
theorem i138_13 : mj_ins 138 13 = some (.istore 4, 15) := by decide +kernel
theorem e138_13 {ls : mj_L} {st : List Value} {σ : mj_S} {τ : mj_T} {a0 a1 a2 a3 a4 : Option Value} {v : Int32} : mj_E 138 13 (a0 :: a1 :: a2 :: a3 :: a4 :: ls) (.int v :: st) σ τ = mj_E 138 15 (a0 :: a1 :: a2 :: a3 :: some (.int v) :: ls) st σ τ := mj_nx i138_13 rfl
theorem i138_15 : mj_ins 138 15 = some (.iload 4, 17) := by decide +kernel
theorem e138_15 {ls : mj_L} {st : List Value} {σ : mj_S} {τ : mj_T} {a0 a1 a2 a3 : Option Value} {v : Int32} : mj_E 138 15 (a0 :: a1 :: a2 :: a3 :: some (.int v) :: ls) st σ τ = mj_E 138 17 (a0 :: a1 :: a2 :: a3 :: some (.int v) :: ls) (.int v :: st) σ τ := mj_nx i138_15 rfl
theorem i138_17 : mj_ins 138 17 = some (.iconst (99), 19) := by decide +kernel
theorem e138_17 {ls : mj_L} {st : List Value} {σ : mj_S} {τ : mj_T} : mj_E 138 17 ls st σ τ = mj_E 138 19 ls (.int (nI 99) :: st) σ τ := mj_nx i138_17 rfl
theorem i138_19 : mj_ins 138 19 = some (.if_icmp .le 27, 22) := by decide +kernel
theorem e138_19 {ls : mj_L} {st : List Value} {σ : mj_S} {τ : mj_T} {x y : Int32} : mj_E 138 19 ls (.int y :: .int x :: st) σ τ = if x ≤ y then mj_E 138 27 ls st σ τ else mj_E 138 22 ls st σ τ := (mj_ifi i138_19).trans (mj_cdT rfl)
theorem i138_22 : mj_ins 138 22 = some (.iconst (99), 24) := by decide +kernel
theorem e138_22 {ls : mj_L} {st : List Value} {σ : mj_S} {τ : mj_T} : mj_E 138 22 ls st σ τ = mj_E 138 24 ls (.int (nI 99) :: st) σ τ := mj_nx i138_22 rfl
theorem i138_24 : mj_ins 138 24 = some (.goto 29, 27) := by decide +kernel
theorem e138_24 {ls : mj_L} {st : List Value} {σ : mj_S} {τ : mj_T} : mj_E 138 24 ls st σ τ = mj_E 138 29 ls st σ τ := mj_nx i138_24 rfl
theorem i138_27 : mj_ins 138 27 = some (.iload 4, 29) := by decide +kernel
theorem e138_27 {ls : mj_L} {st : List Value} {σ : mj_S} {τ : mj_T} {a0 a1 a2 a3 : Option Value} {v : Int32} : mj_E 138 27 (a0 :: a1 :: a2 :: a3 :: some (.int v) :: ls) st σ τ = mj_E 138 29 (a0 :: a1 :: a2 :: a3 :: some (.int v) :: ls) (.int v :: st) σ τ := mj_nx i138_27 rfl
theorem i138_29 : mj_ins 138 29 = some (.ireturn, 30) := by decide +kernel
theorem e138_29 {ls : mj_L} {σ : mj_S} {τ : mj_T} {v : Int32} : mj_E 138 29 ls [.int v] σ τ = some (some (.int v), σ, τ) := mj_irt i138_29 rfl
theorem c139 {σ : mj_S} {τ : mj_T} {r : Nat} {x0 : Int32} {x1 : Int32} {x2 : Int32} : mj_C 139 [.ref r, .int x0, .int x1, .int x2] σ τ = mj_E 139 0 [some (.ref r), some (.int x0), some (.int x1), some (.int x2)] [] σ τ := rfl
theorem i139_0 : mj_ins 139 0 = some (.aload 0, 1) := by decide +kernel
theorem e139_0 {ls : mj_L} {st : List Value} {σ : mj_S} {τ : mj_T} {v : Nat} : mj_E 139 0 (some (.ref v) :: ls) st σ τ = mj_E 139 1 (some (.ref v) :: ls) (.ref v :: st) σ τ := mj_nx i139_0 rfl
theorem i139_1 : mj_ins 139 1 = some (.getfield 716, 4) := by decide +kernel
theorem e139_1 {ls : mj_L} {st : List Value} {σ : mj_S} {τ : mj_T} : mj_E 139 1 ls (.ref 62 :: st) σ τ = mj_E 139 4 ls (.ref 73 :: st) σ τ := mj_nx i139_1 rfl
theorem i139_4 : mj_ins 139 4 = some (.iconst (8), 6) := by decide +kernel
theorem e139_4 {ls : mj_L} {st : List Value} {σ : mj_S} {τ : mj_T} : mj_E 139 4 ls st σ τ = mj_E 139 6 ls (.int (nI 8) :: st) σ τ := mj_nx i139_4 rfl
theorem i139_6 : mj_ins 139 6 = some (.iload 1, 7) := by decide +kernel
theorem e139_6 {ls : mj_L} {st : List Value} {σ : mj_S} {τ : mj_T} {a0 : Option Value} {v : Int32} : mj_E 139 6 (a0 :: some (.int v) :: ls) st σ τ = mj_E 139 7 (a0 :: some (.int v) :: ls) (.int v :: st) σ τ := mj_nx i139_6 rfl
theorem i139_7 : mj_ins 139 7 = some (.imul, 8) := by decide +kernel
theorem e139_7 {ls : mj_L} {st : List Value} {σ : mj_S} {τ : mj_T} {x y : Int32} : mj_E 139 7 ls (.int y :: .int x :: st) σ τ = mj_E 139 8 ls (.int (x * y) :: st) σ τ := mj_nx i139_7 rfl
theorem i139_8 : mj_ins 139 8 = some (.iload 2, 9) := by decide +kernel
theorem e139_8 {ls : mj_L} {st : List Value} {σ : mj_S} {τ : mj_T} {a0 a1 : Option Value} {v : Int32} : mj_E 139 8 (a0 :: a1 :: some (.int v) :: ls) st σ τ = mj_E 139 9 (a0 :: a1 :: some (.int v) :: ls) (.int v :: st) σ τ := mj_nx i139_8 rfl
theorem i139_9 : mj_ins 139 9 = some (.iadd, 10) := by decide +kernel
theorem e139_9 {ls : mj_L} {st : List Value} {σ : mj_S} {τ : mj_T} {x y : Int32} : mj_E 139 9 ls (.int y :: .int x :: st) σ τ = mj_E 139 10 ls (.int (x + y) :: st) σ τ := mj_nx i139_9 rfl
theorem i139_10 : mj_ins 139 10 = some (.aload 0, 11) := by decide +kernel
theorem e139_10 {ls : mj_L} {st : List Value} {σ : mj_S} {τ : mj_T} {v : Nat} : mj_E 139 10 (some (.ref v) :: ls) st σ τ = mj_E 139 11 (some (.ref v) :: ls) (.ref v :: st) σ τ := mj_nx i139_10 rfl
theorem i139_11 : mj_ins 139 11 = some (.iload 1, 12) := by decide +kernel
theorem e139_11 {ls : mj_L} {st : List Value} {σ : mj_S} {τ : mj_T} {a0 : Option Value} {v : Int32} : mj_E 139 11 (a0 :: some (.int v) :: ls) st σ τ = mj_E 139 12 (a0 :: some (.int v) :: ls) (.int v :: st) σ τ := mj_nx i139_11 rfl
theorem i139_12 : mj_ins 139 12 = some (.iload 2, 13) := by decide +kernel
theorem e139_12 {ls : mj_L} {st : List Value} {σ : mj_S} {τ : mj_T} {a0 a1 : Option Value} {v : Int32} : mj_E 139 12 (a0 :: a1 :: some (.int v) :: ls) st σ τ = mj_E 139 13 (a0 :: a1 :: some (.int v) :: ls) (.int v :: st) σ τ := mj_nx i139_12 rfl
theorem i139_13 : mj_ins 139 13 = some (.iload 3, 14) := by decide +kernel
theorem e139_13 {ls : mj_L} {st : List Value} {σ : mj_S} {τ : mj_T} {a0 a1 a2 : Option Value} {v : Int32} : mj_E 139 13 (a0 :: a1 :: a2 :: some (.int v) :: ls) st σ τ = mj_E 139 14 (a0 :: a1 :: a2 :: some (.int v) :: ls) (.int v :: st) σ τ := mj_nx i139_13 rfl
theorem i139_14 : mj_ins 139 14 = some (.aload 0, 15) := by decide +kernel
theorem e139_14 {ls : mj_L} {st : List Value} {σ : mj_S} {τ : mj_T} {v : Nat} : mj_E 139 14 (some (.ref v) :: ls) st σ τ = mj_E 139 15 (some (.ref v) :: ls) (.ref v :: st) σ τ := mj_nx i139_14 rfl
theorem i139_15 : mj_ins 139 15 = some (.getfield 713, 18) := by decide +kernel
theorem e139_15 {ls : mj_L} {st : List Value} {σ : mj_S} {τ : mj_T} : mj_E 139 15 ls (.ref 62 :: st) σ τ = mj_E 139 18 ls (.ref 70 :: st) σ τ := mj_nx i139_15 rfl
theorem i139_18 : mj_ins 139 18 = some (.iload 1, 19) := by decide +kernel
theorem e139_18 {ls : mj_L} {st : List Value} {σ : mj_S} {τ : mj_T} {a0 : Option Value} {v : Int32} : mj_E 139 18 (a0 :: some (.int v) :: ls) st σ τ = mj_E 139 19 (a0 :: some (.int v) :: ls) (.int v :: st) σ τ := mj_nx i139_18 rfl
theorem i139_19 : mj_ins 139 19 = some (.iaload, 20) := by decide +kernel
theorem e139_19 {ls : mj_L} {st : List Value} {σ : mj_S} {τ : mj_T} {x : Int32} {k : Nat} : mj_E 139 19 ls (.int x :: .ref k :: st) σ τ = if mj_ib (mj_li σ k) x = true then mj_E 139 20 ls (.int (σ k x.toNatClampNeg) :: st) σ τ else none := mj_ald i139_19
theorem i139_20 : mj_ins 139 20 = some (.imul, 21) := by decide +kernel
theorem e139_20 {ls : mj_L} {st : List Value} {σ : mj_S} {τ : mj_T} {x y : Int32} : mj_E 139 20 ls (.int y :: .int x :: st) σ τ = mj_E 139 21 ls (.int (x * y) :: st) σ τ := mj_nx i139_20 rfl
theorem i139_21 : mj_ins 139 21 = some (.invokevirtual 138, 24) := by decide +kernel
theorem e139_21 {ls : mj_L} {σ : mj_S} {τ : mj_T} {r : Nat} {x0 : Int32} {x1 : Int32} {x2 : Int32} {w0 w1 : Value} : mj_E 139 21 ls [.int x2, .int x1, .int x0, .ref r, w0, w1] σ τ = if mj_rcv r 7 = true then mj_bd (mj_C 138 [.ref r, .int x0, .int x1, .int x2] σ τ) (mj_K 139 24 ls [w0, w1]) else none := mj_clV (as := [.int x0, .int x1, .int x2]) (r := [w0, w1]) i139_21 (by decide +kernel : mj_vk 139 138 3 2 4 false = true) (by decide +kernel)
theorem i139_24 : mj_ins 139 24 = some (.iastore, 25) := by decide +kernel
theorem e139_24 {ls : mj_L} {st : List Value} {σ : mj_S} {τ : mj_T} {x v : Int32} {k : Nat} : mj_E 139 24 ls (.int v :: .int x :: .ref k :: st) σ τ = if mj_ib (mj_lw k) x = true then mj_E 139 25 ls st (mj_up σ k x.toNatClampNeg v) τ else none := mj_ast i139_24
theorem i139_25 : mj_ins 139 25 = some (.aload 0, 26) := by decide +kernel
theorem e139_25 {ls : mj_L} {st : List Value} {σ : mj_S} {τ : mj_T} {v : Nat} : mj_E 139 25 (some (.ref v) :: ls) st σ τ = mj_E 139 26 (some (.ref v) :: ls) (.ref v :: st) σ τ := mj_nx i139_25 rfl
theorem i139_26 : mj_ins 139 26 = some (.getfield 716, 29) := by decide +kernel
theorem e139_26 {ls : mj_L} {st : List Value} {σ : mj_S} {τ : mj_T} : mj_E 139 26 ls (.ref 62 :: st) σ τ = mj_E 139 29 ls (.ref 73 :: st) σ τ := mj_nx i139_26 rfl
theorem i139_29 : mj_ins 139 29 = some (.iconst (8), 31) := by decide +kernel
theorem e139_29 {ls : mj_L} {st : List Value} {σ : mj_S} {τ : mj_T} : mj_E 139 29 ls st σ τ = mj_E 139 31 ls (.int (nI 8) :: st) σ τ := mj_nx i139_29 rfl
theorem i139_31 : mj_ins 139 31 = some (.iload 1, 32) := by decide +kernel
theorem e139_31 {ls : mj_L} {st : List Value} {σ : mj_S} {τ : mj_T} {a0 : Option Value} {v : Int32} : mj_E 139 31 (a0 :: some (.int v) :: ls) st σ τ = mj_E 139 32 (a0 :: some (.int v) :: ls) (.int v :: st) σ τ := mj_nx i139_31 rfl
theorem i139_32 : mj_ins 139 32 = some (.imul, 33) := by decide +kernel
theorem e139_32 {ls : mj_L} {st : List Value} {σ : mj_S} {τ : mj_T} {x y : Int32} : mj_E 139 32 ls (.int y :: .int x :: st) σ τ = mj_E 139 33 ls (.int (x * y) :: st) σ τ := mj_nx i139_32 rfl
theorem i139_33 : mj_ins 139 33 = some (.iload 2, 34) := by decide +kernel
theorem e139_33 {ls : mj_L} {st : List Value} {σ : mj_S} {τ : mj_T} {a0 a1 : Option Value} {v : Int32} : mj_E 139 33 (a0 :: a1 :: some (.int v) :: ls) st σ τ = mj_E 139 34 (a0 :: a1 :: some (.int v) :: ls) (.int v :: st) σ τ := mj_nx i139_33 rfl
theorem i139_34 : mj_ins 139 34 = some (.iadd, 35) := by decide +kernel
theorem e139_34 {ls : mj_L} {st : List Value} {σ : mj_S} {τ : mj_T} {x y : Int32} : mj_E 139 34 ls (.int y :: .int x :: st) σ τ = mj_E 139 35 ls (.int (x + y) :: st) σ τ := mj_nx i139_34 rfl
theorem i139_35 : mj_ins 139 35 = some (.iaload, 36) := by decide +kernel
theorem e139_35 {ls : mj_L} {st : List Value} {σ : mj_S} {τ : mj_T} {x : Int32} {k : Nat} : mj_E 139 35 ls (.int x :: .ref k :: st) σ τ = if mj_ib (mj_li σ k) x = true then mj_E 139 36 ls (.int (σ k x.toNatClampNeg) :: st) σ τ else none := mj_ald i139_35
theorem i139_36 : mj_ins 139 36 = some (.ireturn, 37) := by decide +kernel
theorem e139_36 {ls : mj_L} {σ : mj_S} {τ : mj_T} {v : Int32} : mj_E 139 36 ls [.int v] σ τ = some (some (.int v), σ, τ) := mj_irt i139_36 rfl
theorem c140 {σ : mj_S} {τ : mj_T} {r : Nat} {x0 : Int32} {x1 : Int32} {x2 : Int32} : mj_C 140 [.ref r, .int x0, .int x1, .int x2] σ τ = mj_E 140 0 [some (.ref r), some (.int x0), some (.int x1), some (.int x2)] [] σ τ := rfl
theorem i140_0 : mj_ins 140 0 = some (.aload 0, 1) := by decide +kernel
theorem e140_0 {ls : mj_L} {st : List Value} {σ : mj_S} {τ : mj_T} {v : Nat} : mj_E 140 0 (some (.ref v) :: ls) st σ τ = mj_E 140 1 (some (.ref v) :: ls) (.ref v :: st) σ τ := mj_nx i140_0 rfl
theorem i140_1 : mj_ins 140 1 = some (.iload 1, 2) := by decide +kernel
theorem e140_1 {ls : mj_L} {st : List Value} {σ : mj_S} {τ : mj_T} {a0 : Option Value} {v : Int32} : mj_E 140 1 (a0 :: some (.int v) :: ls) st σ τ = mj_E 140 2 (a0 :: some (.int v) :: ls) (.int v :: st) σ τ := mj_nx i140_1 rfl
theorem i140_2 : mj_ins 140 2 = some (.invokevirtual 121, 5) := by decide +kernel
theorem e140_2 {ls : mj_L} {σ : mj_S} {τ : mj_T} {r : Nat} {x0 : Int32} : mj_E 140 2 ls [.int x0, .ref r] σ τ = if mj_rcv r 7 = true then mj_bd (mj_C 121 [.ref r, .int x0] σ τ) (mj_K 140 5 ls []) else none := mj_clV (as := [.int x0]) (r := []) i140_2 (by decide +kernel : mj_vk 140 121 1 0 2 false = true) (by decide +kernel)
theorem i140_5 : mj_ins 140 5 = some (.ifCond .eq 16, 8) := by decide +kernel
theorem e140_5 {ls : mj_L} {st : List Value} {σ : mj_S} {τ : mj_T} {x : Int32} : mj_E 140 5 ls (.int x :: st) σ τ = if x = 0 then mj_E 140 16 ls st σ τ else mj_E 140 8 ls st σ τ := (mj_ifc i140_5).trans (mj_cdT rfl)
theorem i140_8 : mj_ins 140 8 = some (.aload 0, 9) := by decide +kernel
theorem e140_8 {ls : mj_L} {st : List Value} {σ : mj_S} {τ : mj_T} {v : Nat} : mj_E 140 8 (some (.ref v) :: ls) st σ τ = mj_E 140 9 (some (.ref v) :: ls) (.ref v :: st) σ τ := mj_nx i140_8 rfl
theorem i140_9 : mj_ins 140 9 = some (.iload 2, 10) := by decide +kernel
theorem e140_9 {ls : mj_L} {st : List Value} {σ : mj_S} {τ : mj_T} {a0 a1 : Option Value} {v : Int32} : mj_E 140 9 (a0 :: a1 :: some (.int v) :: ls) st σ τ = mj_E 140 10 (a0 :: a1 :: some (.int v) :: ls) (.int v :: st) σ τ := mj_nx i140_9 rfl
theorem i140_10 : mj_ins 140 10 = some (.invokevirtual 120, 13) := by decide +kernel
theorem e140_10 {ls : mj_L} {σ : mj_S} {τ : mj_T} {r : Nat} {x0 : Int32} : mj_E 140 10 ls [.int x0, .ref r] σ τ = if mj_rcv r 7 = true then mj_bd (mj_C 120 [.ref r, .int x0] σ τ) (mj_K 140 13 ls []) else none := mj_clV (as := [.int x0]) (r := []) i140_10 (by decide +kernel : mj_vk 140 120 1 0 2 false = true) (by decide +kernel)
theorem i140_13 : mj_ins 140 13 = some (.ifCond .ne 22, 16) := by decide +kernel
theorem e140_13 {ls : mj_L} {st : List Value} {σ : mj_S} {τ : mj_T} {x : Int32} : mj_E 140 13 ls (.int x :: st) σ τ = if x = 0 then mj_E 140 16 ls st σ τ else mj_E 140 22 ls st σ τ := (mj_ifc i140_13).trans (mj_cdF rfl)
theorem i140_16 : mj_ins 140 16 = some (.aload 0, 17) := by decide +kernel
theorem e140_16 {ls : mj_L} {st : List Value} {σ : mj_S} {τ : mj_T} {v : Nat} : mj_E 140 16 (some (.ref v) :: ls) st σ τ = mj_E 140 17 (some (.ref v) :: ls) (.ref v :: st) σ τ := mj_nx i140_16 rfl
theorem i140_17 : mj_ins 140 17 = some (.iconst (-1), 18) := by decide +kernel
theorem e140_17 {ls : mj_L} {st : List Value} {σ : mj_S} {τ : mj_T} : mj_E 140 17 ls st σ τ = mj_E 140 18 ls (.int ((-1)) :: st) σ τ := mj_nx i140_17 rfl
theorem i140_18 : mj_ins 140 18 = some (.invokevirtual 117, 21) := by decide +kernel
theorem e140_18 {ls : mj_L} {σ : mj_S} {τ : mj_T} {r : Nat} {x0 : Int32} : mj_E 140 18 ls [.int x0, .ref r] σ τ = if mj_rcv r 7 = true then mj_bd (mj_C 117 [.ref r, .int x0] σ τ) (mj_K 140 21 ls []) else none := mj_clV (as := [.int x0]) (r := []) i140_18 (by decide +kernel : mj_vk 140 117 1 0 2 false = true) (by decide +kernel)
theorem i140_21 : mj_ins 140 21 = some (.ireturn, 22) := by decide +kernel
theorem e140_21 {ls : mj_L} {σ : mj_S} {τ : mj_T} {v : Int32} : mj_E 140 21 ls [.int v] σ τ = some (some (.int v), σ, τ) := mj_irt i140_21 rfl
theorem i140_22 : mj_ins 140 22 = some (.aload 0, 23) := by decide +kernel
theorem e140_22 {ls : mj_L} {st : List Value} {σ : mj_S} {τ : mj_T} {v : Nat} : mj_E 140 22 (some (.ref v) :: ls) st σ τ = mj_E 140 23 (some (.ref v) :: ls) (.ref v :: st) σ τ := mj_nx i140_22 rfl
theorem i140_23 : mj_ins 140 23 = some (.iload 3, 24) := by decide +kernel
theorem e140_23 {ls : mj_L} {st : List Value} {σ : mj_S} {τ : mj_T} {a0 a1 a2 : Option Value} {v : Int32} : mj_E 140 23 (a0 :: a1 :: a2 :: some (.int v) :: ls) st σ τ = mj_E 140 24 (a0 :: a1 :: a2 :: some (.int v) :: ls) (.int v :: st) σ τ := mj_nx i140_23 rfl
theorem i140_24 : mj_ins 140 24 = some (.iconst (0), 25) := by decide +kernel
theorem e140_24 {ls : mj_L} {st : List Value} {σ : mj_S} {τ : mj_T} : mj_E 140 24 ls st σ τ = mj_E 140 25 ls (.int (nI 0) :: st) σ τ := mj_nx i140_24 rfl
theorem i140_25 : mj_ins 140 25 = some (.iconst (20), 27) := by decide +kernel
theorem e140_25 {ls : mj_L} {st : List Value} {σ : mj_S} {τ : mj_T} : mj_E 140 25 ls st σ τ = mj_E 140 27 ls (.int (nI 20) :: st) σ τ := mj_nx i140_25 rfl
theorem i140_27 : mj_ins 140 27 = some (.invokevirtual 122, 30) := by decide +kernel
theorem e140_27 {ls : mj_L} {σ : mj_S} {τ : mj_T} {r : Nat} {x0 : Int32} {x1 : Int32} {x2 : Int32} : mj_E 140 27 ls [.int x2, .int x1, .int x0, .ref r] σ τ = if mj_rcv r 7 = true then mj_bd (mj_C 122 [.ref r, .int x0, .int x1, .int x2] σ τ) (mj_K 140 30 ls []) else none := mj_clV (as := [.int x0, .int x1, .int x2]) (r := []) i140_27 (by decide +kernel : mj_vk 140 122 3 0 4 false = true) (by decide +kernel)
theorem i140_30 : mj_ins 140 30 = some (.ifCond .eq 53, 33) := by decide +kernel
theorem e140_30 {ls : mj_L} {st : List Value} {σ : mj_S} {τ : mj_T} {x : Int32} : mj_E 140 30 ls (.int x :: st) σ τ = if x = 0 then mj_E 140 53 ls st σ τ else mj_E 140 33 ls st σ τ := (mj_ifc i140_30).trans (mj_cdT rfl)
theorem i140_33 : mj_ins 140 33 = some (.aload 0, 34) := by decide +kernel
theorem e140_33 {ls : mj_L} {st : List Value} {σ : mj_S} {τ : mj_T} {v : Nat} : mj_E 140 33 (some (.ref v) :: ls) st σ τ = mj_E 140 34 (some (.ref v) :: ls) (.ref v :: st) σ τ := mj_nx i140_33 rfl
theorem i140_34 : mj_ins 140 34 = some (.getfield 707, 37) := by decide +kernel
theorem e140_34 {ls : mj_L} {st : List Value} {σ : mj_S} {τ : mj_T} : mj_E 140 34 ls (.ref 62 :: st) σ τ = mj_E 140 37 ls (.ref 64 :: st) σ τ := mj_nx i140_34 rfl
theorem i140_37 : mj_ins 140 37 = some (.iload 2, 38) := by decide +kernel
theorem e140_37 {ls : mj_L} {st : List Value} {σ : mj_S} {τ : mj_T} {a0 a1 : Option Value} {v : Int32} : mj_E 140 37 (a0 :: a1 :: some (.int v) :: ls) st σ τ = mj_E 140 38 (a0 :: a1 :: some (.int v) :: ls) (.int v :: st) σ τ := mj_nx i140_37 rfl
theorem i140_38 : mj_ins 140 38 = some (.iaload, 39) := by decide +kernel
theorem e140_38 {ls : mj_L} {st : List Value} {σ : mj_S} {τ : mj_T} {x : Int32} {k : Nat} : mj_E 140 38 ls (.int x :: .ref k :: st) σ τ = if mj_ib (mj_li σ k) x = true then mj_E 140 39 ls (.int (σ k x.toNatClampNeg) :: st) σ τ else none := mj_ald i140_38
theorem i140_39 : mj_ins 140 39 = some (.iconst (4), 40) := by decide +kernel
theorem e140_39 {ls : mj_L} {st : List Value} {σ : mj_S} {τ : mj_T} : mj_E 140 39 ls st σ τ = mj_E 140 40 ls (.int (nI 4) :: st) σ τ := mj_nx i140_39 rfl
theorem i140_40 : mj_ins 140 40 = some (.if_icmp .eq 53, 43) := by decide +kernel
theorem e140_40 {ls : mj_L} {st : List Value} {σ : mj_S} {τ : mj_T} {x y : Int32} : mj_E 140 40 ls (.int y :: .int x :: st) σ τ = if x = y then mj_E 140 53 ls st σ τ else mj_E 140 43 ls st σ τ := (mj_ifi i140_40).trans (mj_cdT rfl)
theorem i140_43 : mj_ins 140 43 = some (.aload 0, 44) := by decide +kernel
theorem e140_43 {ls : mj_L} {st : List Value} {σ : mj_S} {τ : mj_T} {v : Nat} : mj_E 140 43 (some (.ref v) :: ls) st σ τ = mj_E 140 44 (some (.ref v) :: ls) (.ref v :: st) σ τ := mj_nx i140_43 rfl
theorem i140_44 : mj_ins 140 44 = some (.iload 1, 45) := by decide +kernel
theorem e140_44 {ls : mj_L} {st : List Value} {σ : mj_S} {τ : mj_T} {a0 : Option Value} {v : Int32} : mj_E 140 44 (a0 :: some (.int v) :: ls) st σ τ = mj_E 140 45 (a0 :: some (.int v) :: ls) (.int v :: st) σ τ := mj_nx i140_44 rfl
theorem i140_45 : mj_ins 140 45 = some (.iload 2, 46) := by decide +kernel
theorem e140_45 {ls : mj_L} {st : List Value} {σ : mj_S} {τ : mj_T} {a0 a1 : Option Value} {v : Int32} : mj_E 140 45 (a0 :: a1 :: some (.int v) :: ls) st σ τ = mj_E 140 46 (a0 :: a1 :: some (.int v) :: ls) (.int v :: st) σ τ := mj_nx i140_45 rfl
theorem i140_46 : mj_ins 140 46 = some (.iload 3, 47) := by decide +kernel
theorem e140_46 {ls : mj_L} {st : List Value} {σ : mj_S} {τ : mj_T} {a0 a1 a2 : Option Value} {v : Int32} : mj_E 140 46 (a0 :: a1 :: a2 :: some (.int v) :: ls) st σ τ = mj_E 140 47 (a0 :: a1 :: a2 :: some (.int v) :: ls) (.int v :: st) σ τ := mj_nx i140_46 rfl
theorem i140_47 : mj_ins 140 47 = some (.invokevirtual 139, 50) := by decide +kernel
theorem e140_47 {ls : mj_L} {σ : mj_S} {τ : mj_T} {r : Nat} {x0 : Int32} {x1 : Int32} {x2 : Int32} : mj_E 140 47 ls [.int x2, .int x1, .int x0, .ref r] σ τ = if mj_rcv r 7 = true then mj_bd (mj_C 139 [.ref r, .int x0, .int x1, .int x2] σ τ) (mj_K 140 50 ls []) else none := mj_clV (as := [.int x0, .int x1, .int x2]) (r := []) i140_47 (by decide +kernel : mj_vk 140 139 3 0 4 false = true) (by decide +kernel)
theorem i140_50 : mj_ins 140 50 = some (.goto 59, 53) := by decide +kernel
theorem e140_50 {ls : mj_L} {st : List Value} {σ : mj_S} {τ : mj_T} : mj_E 140 50 ls st σ τ = mj_E 140 59 ls st σ τ := mj_nx i140_50 rfl
theorem i140_53 : mj_ins 140 53 = some (.aload 0, 54) := by decide +kernel
theorem e140_53 {ls : mj_L} {st : List Value} {σ : mj_S} {τ : mj_T} {v : Nat} : mj_E 140 53 (some (.ref v) :: ls) st σ τ = mj_E 140 54 (some (.ref v) :: ls) (.ref v :: st) σ τ := mj_nx i140_53 rfl
theorem i140_54 : mj_ins 140 54 = some (.iconst (-6), 56) := by decide +kernel
theorem e140_54 {ls : mj_L} {st : List Value} {σ : mj_S} {τ : mj_T} : mj_E 140 54 ls st σ τ = mj_E 140 56 ls (.int ((-6)) :: st) σ τ := mj_nx i140_54 rfl
theorem i140_56 : mj_ins 140 56 = some (.invokevirtual 117, 59) := by decide +kernel
theorem e140_56 {ls : mj_L} {σ : mj_S} {τ : mj_T} {r : Nat} {x0 : Int32} : mj_E 140 56 ls [.int x0, .ref r] σ τ = if mj_rcv r 7 = true then mj_bd (mj_C 117 [.ref r, .int x0] σ τ) (mj_K 140 59 ls []) else none := mj_clV (as := [.int x0]) (r := []) i140_56 (by decide +kernel : mj_vk 140 117 1 0 2 false = true) (by decide +kernel)
theorem i140_59 : mj_ins 140 59 = some (.ireturn, 60) := by decide +kernel
theorem e140_59 {ls : mj_L} {σ : mj_S} {τ : mj_T} {v : Int32} : mj_E 140 59 ls [.int v] σ τ = some (some (.int v), σ, τ) := mj_irt i140_59 rfl
theorem c141 {σ : mj_S} {τ : mj_T} {r : Nat} {x0 : Int32} : mj_C 141 [.ref r, .int x0] σ τ = mj_E 141 0 [some (.ref r), some (.int x0), none, none] [] σ τ := rfl
theorem i141_0 : mj_ins 141 0 = some (.iconst (0), 1) := by decide +kernel
theorem e141_0 {ls : mj_L} {st : List Value} {σ : mj_S} {τ : mj_T} : mj_E 141 0 ls st σ τ = mj_E 141 1 ls (.int (nI 0) :: st) σ τ := mj_nx i141_0 rfl
theorem i141_1 : mj_ins 141 1 = some (.istore 2, 2) := by decide +kernel
theorem e141_1 {ls : mj_L} {st : List Value} {σ : mj_S} {τ : mj_T} {a0 a1 a2 : Option Value} {v : Int32} : mj_E 141 1 (a0 :: a1 :: a2 :: ls) (.int v :: st) σ τ = mj_E 141 2 (a0 :: a1 :: some (.int v) :: ls) st σ τ := mj_nx i141_1 rfl
theorem i141_2 : mj_ins 141 2 = some (.iconst (0), 3) := by decide +kernel
theorem e141_2 {ls : mj_L} {st : List Value} {σ : mj_S} {τ : mj_T} : mj_E 141 2 ls st σ τ = mj_E 141 3 ls (.int (nI 0) :: st) σ τ := mj_nx i141_2 rfl
theorem i141_3 : mj_ins 141 3 = some (.istore 3, 4) := by decide +kernel
theorem e141_3 {ls : mj_L} {st : List Value} {σ : mj_S} {τ : mj_T} {a0 a1 a2 a3 : Option Value} {v : Int32} : mj_E 141 3 (a0 :: a1 :: a2 :: a3 :: ls) (.int v :: st) σ τ = mj_E 141 4 (a0 :: a1 :: a2 :: some (.int v) :: ls) st σ τ := mj_nx i141_3 rfl
theorem i141_4 : mj_ins 141 4 = some (.iload 3, 5) := by decide +kernel
theorem e141_4 {ls : mj_L} {st : List Value} {σ : mj_S} {τ : mj_T} {a0 a1 a2 : Option Value} {v : Int32} : mj_E 141 4 (a0 :: a1 :: a2 :: some (.int v) :: ls) st σ τ = mj_E 141 5 (a0 :: a1 :: a2 :: some (.int v) :: ls) (.int v :: st) σ τ := mj_nx i141_4 rfl
theorem i141_5 : mj_ins 141 5 = some (.aload 0, 6) := by decide +kernel
theorem e141_5 {ls : mj_L} {st : List Value} {σ : mj_S} {τ : mj_T} {v : Nat} : mj_E 141 5 (some (.ref v) :: ls) st σ τ = mj_E 141 6 (some (.ref v) :: ls) (.ref v :: st) σ τ := mj_nx i141_5 rfl
theorem i141_6 : mj_ins 141 6 = some (.getfield 701, 9) := by decide +kernel
theorem e141_6 {ls : mj_L} {st : List Value} {σ : mj_S} {τ : mj_T} : mj_E 141 6 ls (.ref 62 :: st) σ τ = mj_E 141 9 ls (.int (σ 62 1) :: st) σ τ := mj_nx i141_6 rfl
theorem i141_9 : mj_ins 141 9 = some (.if_icmp .ge 31, 12) := by decide +kernel
theorem e141_9 {ls : mj_L} {st : List Value} {σ : mj_S} {τ : mj_T} {x y : Int32} : mj_E 141 9 ls (.int y :: .int x :: st) σ τ = if y ≤ x then mj_E 141 31 ls st σ τ else mj_E 141 12 ls st σ τ := (mj_ifi i141_9).trans (mj_cdT rfl)
theorem i141_12 : mj_ins 141 12 = some (.iload 2, 13) := by decide +kernel
theorem e141_12 {ls : mj_L} {st : List Value} {σ : mj_S} {τ : mj_T} {a0 a1 : Option Value} {v : Int32} : mj_E 141 12 (a0 :: a1 :: some (.int v) :: ls) st σ τ = mj_E 141 13 (a0 :: a1 :: some (.int v) :: ls) (.int v :: st) σ τ := mj_nx i141_12 rfl
theorem i141_13 : mj_ins 141 13 = some (.aload 0, 14) := by decide +kernel
theorem e141_13 {ls : mj_L} {st : List Value} {σ : mj_S} {τ : mj_T} {v : Nat} : mj_E 141 13 (some (.ref v) :: ls) st σ τ = mj_E 141 14 (some (.ref v) :: ls) (.ref v :: st) σ τ := mj_nx i141_13 rfl
theorem i141_14 : mj_ins 141 14 = some (.getfield 715, 17) := by decide +kernel
theorem e141_14 {ls : mj_L} {st : List Value} {σ : mj_S} {τ : mj_T} : mj_E 141 14 ls (.ref 62 :: st) σ τ = mj_E 141 17 ls (.ref 72 :: st) σ τ := mj_nx i141_14 rfl
theorem i141_17 : mj_ins 141 17 = some (.iload 3, 18) := by decide +kernel
theorem e141_17 {ls : mj_L} {st : List Value} {σ : mj_S} {τ : mj_T} {a0 a1 a2 : Option Value} {v : Int32} : mj_E 141 17 (a0 :: a1 :: a2 :: some (.int v) :: ls) st σ τ = mj_E 141 18 (a0 :: a1 :: a2 :: some (.int v) :: ls) (.int v :: st) σ τ := mj_nx i141_17 rfl
theorem i141_18 : mj_ins 141 18 = some (.iaload, 19) := by decide +kernel
theorem e141_18 {ls : mj_L} {st : List Value} {σ : mj_S} {τ : mj_T} {x : Int32} {k : Nat} : mj_E 141 18 ls (.int x :: .ref k :: st) σ τ = if mj_ib (mj_li σ k) x = true then mj_E 141 19 ls (.int (σ k x.toNatClampNeg) :: st) σ τ else none := mj_ald i141_18
theorem i141_19 : mj_ins 141 19 = some (.iload 1, 20) := by decide +kernel
theorem e141_19 {ls : mj_L} {st : List Value} {σ : mj_S} {τ : mj_T} {a0 : Option Value} {v : Int32} : mj_E 141 19 (a0 :: some (.int v) :: ls) st σ τ = mj_E 141 20 (a0 :: some (.int v) :: ls) (.int v :: st) σ τ := mj_nx i141_19 rfl
theorem i141_20 : mj_ins 141 20 = some (.ishr, 21) := by decide +kernel
theorem e141_20 {ls : mj_L} {st : List Value} {σ : mj_S} {τ : mj_T} {x y : Int32} : mj_E 141 20 ls (.int y :: .int x :: st) σ τ = mj_E 141 21 ls (.int (x >>> (y &&& 31)) :: st) σ τ := mj_nx i141_20 rfl
theorem i141_21 : mj_ins 141 21 = some (.iconst (1), 22) := by decide +kernel
theorem e141_21 {ls : mj_L} {st : List Value} {σ : mj_S} {τ : mj_T} : mj_E 141 21 ls st σ τ = mj_E 141 22 ls (.int (nI 1) :: st) σ τ := mj_nx i141_21 rfl
theorem i141_22 : mj_ins 141 22 = some (.iand, 23) := by decide +kernel
theorem e141_22 {ls : mj_L} {st : List Value} {σ : mj_S} {τ : mj_T} {x y : Int32} : mj_E 141 22 ls (.int y :: .int x :: st) σ τ = mj_E 141 23 ls (.int (x &&& y) :: st) σ τ := mj_nx i141_22 rfl
theorem i141_23 : mj_ins 141 23 = some (.iadd, 24) := by decide +kernel
theorem e141_23 {ls : mj_L} {st : List Value} {σ : mj_S} {τ : mj_T} {x y : Int32} : mj_E 141 23 ls (.int y :: .int x :: st) σ τ = mj_E 141 24 ls (.int (x + y) :: st) σ τ := mj_nx i141_23 rfl
theorem i141_24 : mj_ins 141 24 = some (.istore 2, 25) := by decide +kernel
theorem e141_24 {ls : mj_L} {st : List Value} {σ : mj_S} {τ : mj_T} {a0 a1 a2 : Option Value} {v : Int32} : mj_E 141 24 (a0 :: a1 :: a2 :: ls) (.int v :: st) σ τ = mj_E 141 25 (a0 :: a1 :: some (.int v) :: ls) st σ τ := mj_nx i141_24 rfl
theorem i141_25 : mj_ins 141 25 = some (.iinc 3 (1), 28) := by decide +kernel
theorem e141_25 {ls : mj_L} {st : List Value} {σ : mj_S} {τ : mj_T} {a0 a1 a2 : Option Value} {v : Int32} : mj_E 141 25 (a0 :: a1 :: a2 :: some (.int v) :: ls) st σ τ = mj_E 141 28 (a0 :: a1 :: a2 :: some (.int (v + nI 1)) :: ls) st σ τ := mj_nx i141_25 rfl
theorem i141_28 : mj_ins 141 28 = some (.goto 4, 31) := by decide +kernel
theorem e141_28 {ls : mj_L} {st : List Value} {σ : mj_S} {τ : mj_T} : mj_E 141 28 ls st σ τ = mj_E 141 4 ls st σ τ := mj_nx i141_28 rfl
theorem i141_31 : mj_ins 141 31 = some (.iload 2, 32) := by decide +kernel
theorem e141_31 {ls : mj_L} {st : List Value} {σ : mj_S} {τ : mj_T} {a0 a1 : Option Value} {v : Int32} : mj_E 141 31 (a0 :: a1 :: some (.int v) :: ls) st σ τ = mj_E 141 32 (a0 :: a1 :: some (.int v) :: ls) (.int v :: st) σ τ := mj_nx i141_31 rfl
theorem i141_32 : mj_ins 141 32 = some (.ireturn, 33) := by decide +kernel
theorem e141_32 {ls : mj_L} {σ : mj_S} {τ : mj_T} {v : Int32} : mj_E 141 32 ls [.int v] σ τ = some (some (.int v), σ, τ) := mj_irt i141_32 rfl
theorem c142 {σ : mj_S} {τ : mj_T} {r : Nat} {x0 : Int32} {x1 : Int32} : mj_C 142 [.ref r, .int x0, .int x1] σ τ = mj_E 142 0 [some (.ref r), some (.int x0), some (.int x1)] [] σ τ := rfl
theorem i142_0 : mj_ins 142 0 = some (.aload 0, 1) := by decide +kernel
theorem e142_0 {ls : mj_L} {st : List Value} {σ : mj_S} {τ : mj_T} {v : Nat} : mj_E 142 0 (some (.ref v) :: ls) st σ τ = mj_E 142 1 (some (.ref v) :: ls) (.ref v :: st) σ τ := mj_nx i142_0 rfl
theorem i142_1 : mj_ins 142 1 = some (.iload 1, 2) := by decide +kernel
theorem e142_1 {ls : mj_L} {st : List Value} {σ : mj_S} {τ : mj_T} {a0 : Option Value} {v : Int32} : mj_E 142 1 (a0 :: some (.int v) :: ls) st σ τ = mj_E 142 2 (a0 :: some (.int v) :: ls) (.int v :: st) σ τ := mj_nx i142_1 rfl
theorem i142_2 : mj_ins 142 2 = some (.invokevirtual 120, 5) := by decide +kernel
theorem e142_2 {ls : mj_L} {σ : mj_S} {τ : mj_T} {r : Nat} {x0 : Int32} : mj_E 142 2 ls [.int x0, .ref r] σ τ = if mj_rcv r 7 = true then mj_bd (mj_C 120 [.ref r, .int x0] σ τ) (mj_K 142 5 ls []) else none := mj_clV (as := [.int x0]) (r := []) i142_2 (by decide +kernel : mj_vk 142 120 1 0 2 false = true) (by decide +kernel)
theorem i142_5 : mj_ins 142 5 = some (.ifCond .ne 15, 8) := by decide +kernel
theorem e142_5 {ls : mj_L} {st : List Value} {σ : mj_S} {τ : mj_T} {x : Int32} : mj_E 142 5 ls (.int x :: st) σ τ = if x = 0 then mj_E 142 8 ls st σ τ else mj_E 142 15 ls st σ τ := (mj_ifc i142_5).trans (mj_cdF rfl)
theorem i142_8 : mj_ins 142 8 = some (.aload 0, 9) := by decide +kernel
theorem e142_8 {ls : mj_L} {st : List Value} {σ : mj_S} {τ : mj_T} {v : Nat} : mj_E 142 8 (some (.ref v) :: ls) st σ τ = mj_E 142 9 (some (.ref v) :: ls) (.ref v :: st) σ τ := mj_nx i142_8 rfl
theorem i142_9 : mj_ins 142 9 = some (.iconst (-5), 11) := by decide +kernel
theorem e142_9 {ls : mj_L} {st : List Value} {σ : mj_S} {τ : mj_T} : mj_E 142 9 ls st σ τ = mj_E 142 11 ls (.int ((-5)) :: st) σ τ := mj_nx i142_9 rfl
theorem i142_11 : mj_ins 142 11 = some (.invokevirtual 117, 14) := by decide +kernel
theorem e142_11 {ls : mj_L} {σ : mj_S} {τ : mj_T} {r : Nat} {x0 : Int32} : mj_E 142 11 ls [.int x0, .ref r] σ τ = if mj_rcv r 7 = true then mj_bd (mj_C 117 [.ref r, .int x0] σ τ) (mj_K 142 14 ls []) else none := mj_clV (as := [.int x0]) (r := []) i142_11 (by decide +kernel : mj_vk 142 117 1 0 2 false = true) (by decide +kernel)
theorem i142_14 : mj_ins 142 14 = some (.ireturn, 15) := by decide +kernel
theorem e142_14 {ls : mj_L} {σ : mj_S} {τ : mj_T} {v : Int32} : mj_E 142 14 ls [.int v] σ τ = some (some (.int v), σ, τ) := mj_irt i142_14 rfl
theorem i142_15 : mj_ins 142 15 = some (.iload 2, 16) := by decide +kernel
theorem e142_15 {ls : mj_L} {st : List Value} {σ : mj_S} {τ : mj_T} {a0 a1 : Option Value} {v : Int32} : mj_E 142 15 (a0 :: a1 :: some (.int v) :: ls) st σ τ = mj_E 142 16 (a0 :: a1 :: some (.int v) :: ls) (.int v :: st) σ τ := mj_nx i142_15 rfl
theorem i142_16 : mj_ins 142 16 = some (.tableswitch 110 (0) (6) #[60, 67, 74, 81, 88, 95, 101], 16) := by decide +kernel
theorem e142_16 {ls : mj_L} {st : List Value} {σ : mj_S} {τ : mj_T} {x : Int32} : mj_E 142 16 ls (.int x :: st) σ τ = if x = nI 0 then mj_E 142 60 ls st σ τ else if x = nI 1 then mj_E 142 67 ls st σ τ else if x = nI 2 then mj_E 142 74 ls st σ τ else if x = nI 3 then mj_E 142 81 ls st σ τ else if x = nI 4 then mj_E 142 88 ls st σ τ else if x = nI 5 then mj_E 142 95 ls st σ τ else if x = nI 6 then mj_E 142 101 ls st σ τ else mj_E 142 110 ls st σ τ := mj_tsw i142_16 (by decide)
theorem i142_60 : mj_ins 142 60 = some (.aload 0, 61) := by decide +kernel
theorem e142_60 {ls : mj_L} {st : List Value} {σ : mj_S} {τ : mj_T} {v : Nat} : mj_E 142 60 (some (.ref v) :: ls) st σ τ = mj_E 142 61 (some (.ref v) :: ls) (.ref v :: st) σ τ := mj_nx i142_60 rfl
theorem i142_61 : mj_ins 142 61 = some (.getfield 707, 64) := by decide +kernel
theorem e142_61 {ls : mj_L} {st : List Value} {σ : mj_S} {τ : mj_T} : mj_E 142 61 ls (.ref 62 :: st) σ τ = mj_E 142 64 ls (.ref 64 :: st) σ τ := mj_nx i142_61 rfl
theorem i142_64 : mj_ins 142 64 = some (.iload 1, 65) := by decide +kernel
theorem e142_64 {ls : mj_L} {st : List Value} {σ : mj_S} {τ : mj_T} {a0 : Option Value} {v : Int32} : mj_E 142 64 (a0 :: some (.int v) :: ls) st σ τ = mj_E 142 65 (a0 :: some (.int v) :: ls) (.int v :: st) σ τ := mj_nx i142_64 rfl
theorem i142_65 : mj_ins 142 65 = some (.iaload, 66) := by decide +kernel
theorem e142_65 {ls : mj_L} {st : List Value} {σ : mj_S} {τ : mj_T} {x : Int32} {k : Nat} : mj_E 142 65 ls (.int x :: .ref k :: st) σ τ = if mj_ib (mj_li σ k) x = true then mj_E 142 66 ls (.int (σ k x.toNatClampNeg) :: st) σ τ else none := mj_ald i142_65
theorem i142_66 : mj_ins 142 66 = some (.ireturn, 67) := by decide +kernel
theorem e142_66 {ls : mj_L} {σ : mj_S} {τ : mj_T} {v : Int32} : mj_E 142 66 ls [.int v] σ τ = some (some (.int v), σ, τ) := mj_irt i142_66 rfl
theorem i142_67 : mj_ins 142 67 = some (.aload 0, 68) := by decide +kernel
theorem e142_67 {ls : mj_L} {st : List Value} {σ : mj_S} {τ : mj_T} {v : Nat} : mj_E 142 67 (some (.ref v) :: ls) st σ τ = mj_E 142 68 (some (.ref v) :: ls) (.ref v :: st) σ τ := mj_nx i142_67 rfl
theorem i142_68 : mj_ins 142 68 = some (.getfield 708, 71) := by decide +kernel
theorem e142_68 {ls : mj_L} {st : List Value} {σ : mj_S} {τ : mj_T} : mj_E 142 68 ls (.ref 62 :: st) σ τ = mj_E 142 71 ls (.ref 65 :: st) σ τ := mj_nx i142_68 rfl
theorem i142_71 : mj_ins 142 71 = some (.iload 1, 72) := by decide +kernel
theorem e142_71 {ls : mj_L} {st : List Value} {σ : mj_S} {τ : mj_T} {a0 : Option Value} {v : Int32} : mj_E 142 71 (a0 :: some (.int v) :: ls) st σ τ = mj_E 142 72 (a0 :: some (.int v) :: ls) (.int v :: st) σ τ := mj_nx i142_71 rfl
theorem i142_72 : mj_ins 142 72 = some (.iaload, 73) := by decide +kernel
theorem e142_72 {ls : mj_L} {st : List Value} {σ : mj_S} {τ : mj_T} {x : Int32} {k : Nat} : mj_E 142 72 ls (.int x :: .ref k :: st) σ τ = if mj_ib (mj_li σ k) x = true then mj_E 142 73 ls (.int (σ k x.toNatClampNeg) :: st) σ τ else none := mj_ald i142_72
theorem i142_73 : mj_ins 142 73 = some (.ireturn, 74) := by decide +kernel
theorem e142_73 {ls : mj_L} {σ : mj_S} {τ : mj_T} {v : Int32} : mj_E 142 73 ls [.int v] σ τ = some (some (.int v), σ, τ) := mj_irt i142_73 rfl
theorem i142_74 : mj_ins 142 74 = some (.aload 0, 75) := by decide +kernel
theorem e142_74 {ls : mj_L} {st : List Value} {σ : mj_S} {τ : mj_T} {v : Nat} : mj_E 142 74 (some (.ref v) :: ls) st σ τ = mj_E 142 75 (some (.ref v) :: ls) (.ref v :: st) σ τ := mj_nx i142_74 rfl
theorem i142_75 : mj_ins 142 75 = some (.getfield 709, 78) := by decide +kernel
theorem e142_75 {ls : mj_L} {st : List Value} {σ : mj_S} {τ : mj_T} : mj_E 142 75 ls (.ref 62 :: st) σ τ = mj_E 142 78 ls (.ref 66 :: st) σ τ := mj_nx i142_75 rfl
theorem i142_78 : mj_ins 142 78 = some (.iload 1, 79) := by decide +kernel
theorem e142_78 {ls : mj_L} {st : List Value} {σ : mj_S} {τ : mj_T} {a0 : Option Value} {v : Int32} : mj_E 142 78 (a0 :: some (.int v) :: ls) st σ τ = mj_E 142 79 (a0 :: some (.int v) :: ls) (.int v :: st) σ τ := mj_nx i142_78 rfl
theorem i142_79 : mj_ins 142 79 = some (.iaload, 80) := by decide +kernel
theorem e142_79 {ls : mj_L} {st : List Value} {σ : mj_S} {τ : mj_T} {x : Int32} {k : Nat} : mj_E 142 79 ls (.int x :: .ref k :: st) σ τ = if mj_ib (mj_li σ k) x = true then mj_E 142 80 ls (.int (σ k x.toNatClampNeg) :: st) σ τ else none := mj_ald i142_79
theorem i142_80 : mj_ins 142 80 = some (.ireturn, 81) := by decide +kernel
theorem e142_80 {ls : mj_L} {σ : mj_S} {τ : mj_T} {v : Int32} : mj_E 142 80 ls [.int v] σ τ = some (some (.int v), σ, τ) := mj_irt i142_80 rfl
theorem i142_81 : mj_ins 142 81 = some (.aload 0, 82) := by decide +kernel
theorem e142_81 {ls : mj_L} {st : List Value} {σ : mj_S} {τ : mj_T} {v : Nat} : mj_E 142 81 (some (.ref v) :: ls) st σ τ = mj_E 142 82 (some (.ref v) :: ls) (.ref v :: st) σ τ := mj_nx i142_81 rfl
theorem i142_82 : mj_ins 142 82 = some (.getfield 710, 85) := by decide +kernel
theorem e142_82 {ls : mj_L} {st : List Value} {σ : mj_S} {τ : mj_T} : mj_E 142 82 ls (.ref 62 :: st) σ τ = mj_E 142 85 ls (.ref 67 :: st) σ τ := mj_nx i142_82 rfl
theorem i142_85 : mj_ins 142 85 = some (.iload 1, 86) := by decide +kernel
theorem e142_85 {ls : mj_L} {st : List Value} {σ : mj_S} {τ : mj_T} {a0 : Option Value} {v : Int32} : mj_E 142 85 (a0 :: some (.int v) :: ls) st σ τ = mj_E 142 86 (a0 :: some (.int v) :: ls) (.int v :: st) σ τ := mj_nx i142_85 rfl
theorem i142_86 : mj_ins 142 86 = some (.iaload, 87) := by decide +kernel
theorem e142_86 {ls : mj_L} {st : List Value} {σ : mj_S} {τ : mj_T} {x : Int32} {k : Nat} : mj_E 142 86 ls (.int x :: .ref k :: st) σ τ = if mj_ib (mj_li σ k) x = true then mj_E 142 87 ls (.int (σ k x.toNatClampNeg) :: st) σ τ else none := mj_ald i142_86
theorem i142_87 : mj_ins 142 87 = some (.ireturn, 88) := by decide +kernel
theorem e142_87 {ls : mj_L} {σ : mj_S} {τ : mj_T} {v : Int32} : mj_E 142 87 ls [.int v] σ τ = some (some (.int v), σ, τ) := mj_irt i142_87 rfl
theorem i142_88 : mj_ins 142 88 = some (.aload 0, 89) := by decide +kernel
theorem e142_88 {ls : mj_L} {st : List Value} {σ : mj_S} {τ : mj_T} {v : Nat} : mj_E 142 88 (some (.ref v) :: ls) st σ τ = mj_E 142 89 (some (.ref v) :: ls) (.ref v :: st) σ τ := mj_nx i142_88 rfl
theorem i142_89 : mj_ins 142 89 = some (.getfield 711, 92) := by decide +kernel
theorem e142_89 {ls : mj_L} {st : List Value} {σ : mj_S} {τ : mj_T} : mj_E 142 89 ls (.ref 62 :: st) σ τ = mj_E 142 92 ls (.ref 68 :: st) σ τ := mj_nx i142_89 rfl
theorem i142_92 : mj_ins 142 92 = some (.iload 1, 93) := by decide +kernel
theorem e142_92 {ls : mj_L} {st : List Value} {σ : mj_S} {τ : mj_T} {a0 : Option Value} {v : Int32} : mj_E 142 92 (a0 :: some (.int v) :: ls) st σ τ = mj_E 142 93 (a0 :: some (.int v) :: ls) (.int v :: st) σ τ := mj_nx i142_92 rfl
theorem i142_93 : mj_ins 142 93 = some (.iaload, 94) := by decide +kernel
theorem e142_93 {ls : mj_L} {st : List Value} {σ : mj_S} {τ : mj_T} {x : Int32} {k : Nat} : mj_E 142 93 ls (.int x :: .ref k :: st) σ τ = if mj_ib (mj_li σ k) x = true then mj_E 142 94 ls (.int (σ k x.toNatClampNeg) :: st) σ τ else none := mj_ald i142_93
theorem i142_94 : mj_ins 142 94 = some (.ireturn, 95) := by decide +kernel
theorem e142_94 {ls : mj_L} {σ : mj_S} {τ : mj_T} {v : Int32} : mj_E 142 94 ls [.int v] σ τ = some (some (.int v), σ, τ) := mj_irt i142_94 rfl
theorem i142_95 : mj_ins 142 95 = some (.aload 0, 96) := by decide +kernel
theorem e142_95 {ls : mj_L} {st : List Value} {σ : mj_S} {τ : mj_T} {v : Nat} : mj_E 142 95 (some (.ref v) :: ls) st σ τ = mj_E 142 96 (some (.ref v) :: ls) (.ref v :: st) σ τ := mj_nx i142_95 rfl
theorem i142_96 : mj_ins 142 96 = some (.iload 1, 97) := by decide +kernel
theorem e142_96 {ls : mj_L} {st : List Value} {σ : mj_S} {τ : mj_T} {a0 : Option Value} {v : Int32} : mj_E 142 96 (a0 :: some (.int v) :: ls) st σ τ = mj_E 142 97 (a0 :: some (.int v) :: ls) (.int v :: st) σ τ := mj_nx i142_96 rfl
theorem i142_97 : mj_ins 142 97 = some (.invokevirtual 141, 100) := by decide +kernel
theorem e142_97 {ls : mj_L} {σ : mj_S} {τ : mj_T} {r : Nat} {x0 : Int32} : mj_E 142 97 ls [.int x0, .ref r] σ τ = if mj_rcv r 7 = true then mj_bd (mj_C 141 [.ref r, .int x0] σ τ) (mj_K 142 100 ls []) else none := mj_clV (as := [.int x0]) (r := []) i142_97 (by decide +kernel : mj_vk 142 141 1 0 2 false = true) (by decide +kernel)
theorem i142_100 : mj_ins 142 100 = some (.ireturn, 101) := by decide +kernel
theorem e142_100 {ls : mj_L} {σ : mj_S} {τ : mj_T} {v : Int32} : mj_E 142 100 ls [.int v] σ τ = some (some (.int v), σ, τ) := mj_irt i142_100 rfl
theorem i142_101 : mj_ins 142 101 = some (.aload 0, 102) := by decide +kernel
theorem e142_101 {ls : mj_L} {st : List Value} {σ : mj_S} {τ : mj_T} {v : Nat} : mj_E 142 101 (some (.ref v) :: ls) st σ τ = mj_E 142 102 (some (.ref v) :: ls) (.ref v :: st) σ τ := mj_nx i142_101 rfl
theorem i142_102 : mj_ins 142 102 = some (.getfield 709, 105) := by decide +kernel
theorem e142_102 {ls : mj_L} {st : List Value} {σ : mj_S} {τ : mj_T} : mj_E 142 102 ls (.ref 62 :: st) σ τ = mj_E 142 105 ls (.ref 66 :: st) σ τ := mj_nx i142_102 rfl
theorem i142_105 : mj_ins 142 105 = some (.iload 1, 106) := by decide +kernel
theorem e142_105 {ls : mj_L} {st : List Value} {σ : mj_S} {τ : mj_T} {a0 : Option Value} {v : Int32} : mj_E 142 105 (a0 :: some (.int v) :: ls) st σ τ = mj_E 142 106 (a0 :: some (.int v) :: ls) (.int v :: st) σ τ := mj_nx i142_105 rfl
theorem i142_106 : mj_ins 142 106 = some (.iaload, 107) := by decide +kernel
theorem e142_106 {ls : mj_L} {st : List Value} {σ : mj_S} {τ : mj_T} {x : Int32} {k : Nat} : mj_E 142 106 ls (.int x :: .ref k :: st) σ τ = if mj_ib (mj_li σ k) x = true then mj_E 142 107 ls (.int (σ k x.toNatClampNeg) :: st) σ τ else none := mj_ald i142_106
theorem i142_107 : mj_ins 142 107 = some (.iconst (5), 108) := by decide +kernel
theorem e142_107 {ls : mj_L} {st : List Value} {σ : mj_S} {τ : mj_T} : mj_E 142 107 ls st σ τ = mj_E 142 108 ls (.int (nI 5) :: st) σ τ := mj_nx i142_107 rfl
theorem i142_108 : mj_ins 142 108 = some (.idiv, 109) := by decide +kernel
theorem e142_108 {ls : mj_L} {st : List Value} {σ : mj_S} {τ : mj_T} {x y : Int32} : mj_E 142 108 ls (.int y :: .int x :: st) σ τ = if y = 0 then none else mj_E 142 109 ls (.int (x / y) :: st) σ τ := mj_div i142_108
theorem i142_109 : mj_ins 142 109 = some (.ireturn, 110) := by decide +kernel
theorem e142_109 {ls : mj_L} {σ : mj_S} {τ : mj_T} {v : Int32} : mj_E 142 109 ls [.int v] σ τ = some (some (.int v), σ, τ) := mj_irt i142_109 rfl
theorem i142_110 : mj_ins 142 110 = some (.aload 0, 111) := by decide +kernel
theorem e142_110 {ls : mj_L} {st : List Value} {σ : mj_S} {τ : mj_T} {v : Nat} : mj_E 142 110 (some (.ref v) :: ls) st σ τ = mj_E 142 111 (some (.ref v) :: ls) (.ref v :: st) σ τ := mj_nx i142_110 rfl
theorem i142_111 : mj_ins 142 111 = some (.iconst (-5), 113) := by decide +kernel
theorem e142_111 {ls : mj_L} {st : List Value} {σ : mj_S} {τ : mj_T} : mj_E 142 111 ls st σ τ = mj_E 142 113 ls (.int ((-5)) :: st) σ τ := mj_nx i142_111 rfl
theorem i142_113 : mj_ins 142 113 = some (.invokevirtual 117, 116) := by decide +kernel
theorem e142_113 {ls : mj_L} {σ : mj_S} {τ : mj_T} {r : Nat} {x0 : Int32} : mj_E 142 113 ls [.int x0, .ref r] σ τ = if mj_rcv r 7 = true then mj_bd (mj_C 117 [.ref r, .int x0] σ τ) (mj_K 142 116 ls []) else none := mj_clV (as := [.int x0]) (r := []) i142_113 (by decide +kernel : mj_vk 142 117 1 0 2 false = true) (by decide +kernel)
theorem i142_116 : mj_ins 142 116 = some (.ireturn, 117) := by decide +kernel
theorem e142_116 {ls : mj_L} {σ : mj_S} {τ : mj_T} {v : Int32} : mj_E 142 116 ls [.int v] σ τ = some (some (.int v), σ, τ) := mj_irt i142_116 rfl
theorem c143 {σ : mj_S} {τ : mj_T} {r : Nat} {x0 : Int32} {x1 : Int32} : mj_C 143 [.ref r, .int x0, .int x1] σ τ = mj_E 143 0 [some (.ref r), some (.int x0), some (.int x1)] [] σ τ := rfl
theorem i143_0 : mj_ins 143 0 = some (.aload 0, 1) := by decide +kernel
theorem e143_0 {ls : mj_L} {st : List Value} {σ : mj_S} {τ : mj_T} {v : Nat} : mj_E 143 0 (some (.ref v) :: ls) st σ τ = mj_E 143 1 (some (.ref v) :: ls) (.ref v :: st) σ τ := mj_nx i143_0 rfl
theorem i143_1 : mj_ins 143 1 = some (.iload 1, 2) := by decide +kernel
theorem e143_1 {ls : mj_L} {st : List Value} {σ : mj_S} {τ : mj_T} {a0 : Option Value} {v : Int32} : mj_E 143 1 (a0 :: some (.int v) :: ls) st σ τ = mj_E 143 2 (a0 :: some (.int v) :: ls) (.int v :: st) σ τ := mj_nx i143_1 rfl
theorem i143_2 : mj_ins 143 2 = some (.invokevirtual 121, 5) := by decide +kernel
theorem e143_2 {ls : mj_L} {σ : mj_S} {τ : mj_T} {r : Nat} {x0 : Int32} : mj_E 143 2 ls [.int x0, .ref r] σ τ = if mj_rcv r 7 = true then mj_bd (mj_C 121 [.ref r, .int x0] σ τ) (mj_K 143 5 ls []) else none := mj_clV (as := [.int x0]) (r := []) i143_2 (by decide +kernel : mj_vk 143 121 1 0 2 false = true) (by decide +kernel)
theorem i143_5 : mj_ins 143 5 = some (.ifCond .ne 15, 8) := by decide +kernel
theorem e143_5 {ls : mj_L} {st : List Value} {σ : mj_S} {τ : mj_T} {x : Int32} : mj_E 143 5 ls (.int x :: st) σ τ = if x = 0 then mj_E 143 8 ls st σ τ else mj_E 143 15 ls st σ τ := (mj_ifc i143_5).trans (mj_cdF rfl)
theorem i143_8 : mj_ins 143 8 = some (.aload 0, 9) := by decide +kernel
theorem e143_8 {ls : mj_L} {st : List Value} {σ : mj_S} {τ : mj_T} {v : Nat} : mj_E 143 8 (some (.ref v) :: ls) st σ τ = mj_E 143 9 (some (.ref v) :: ls) (.ref v :: st) σ τ := mj_nx i143_8 rfl
theorem i143_9 : mj_ins 143 9 = some (.iconst (-5), 11) := by decide +kernel
theorem e143_9 {ls : mj_L} {st : List Value} {σ : mj_S} {τ : mj_T} : mj_E 143 9 ls st σ τ = mj_E 143 11 ls (.int ((-5)) :: st) σ τ := mj_nx i143_9 rfl
theorem i143_11 : mj_ins 143 11 = some (.invokevirtual 117, 14) := by decide +kernel
theorem e143_11 {ls : mj_L} {σ : mj_S} {τ : mj_T} {r : Nat} {x0 : Int32} : mj_E 143 11 ls [.int x0, .ref r] σ τ = if mj_rcv r 7 = true then mj_bd (mj_C 117 [.ref r, .int x0] σ τ) (mj_K 143 14 ls []) else none := mj_clV (as := [.int x0]) (r := []) i143_11 (by decide +kernel : mj_vk 143 117 1 0 2 false = true) (by decide +kernel)
theorem i143_14 : mj_ins 143 14 = some (.ireturn, 15) := by decide +kernel
theorem e143_14 {ls : mj_L} {σ : mj_S} {τ : mj_T} {v : Int32} : mj_E 143 14 ls [.int v] σ τ = some (some (.int v), σ, τ) := mj_irt i143_14 rfl
theorem i143_15 : mj_ins 143 15 = some (.iload 2, 16) := by decide +kernel
theorem e143_15 {ls : mj_L} {st : List Value} {σ : mj_S} {τ : mj_T} {a0 a1 : Option Value} {v : Int32} : mj_E 143 15 (a0 :: a1 :: some (.int v) :: ls) st σ τ = mj_E 143 16 (a0 :: a1 :: some (.int v) :: ls) (.int v :: st) σ τ := mj_nx i143_15 rfl
theorem i143_16 : mj_ins 143 16 = some (.tableswitch 76 (0) (3) #[48, 55, 62, 69], 16) := by decide +kernel
theorem e143_16 {ls : mj_L} {st : List Value} {σ : mj_S} {τ : mj_T} {x : Int32} : mj_E 143 16 ls (.int x :: st) σ τ = if x = nI 0 then mj_E 143 48 ls st σ τ else if x = nI 1 then mj_E 143 55 ls st σ τ else if x = nI 2 then mj_E 143 62 ls st σ τ else if x = nI 3 then mj_E 143 69 ls st σ τ else mj_E 143 76 ls st σ τ := mj_tsw i143_16 (by decide)
theorem i143_48 : mj_ins 143 48 = some (.aload 0, 49) := by decide +kernel
theorem e143_48 {ls : mj_L} {st : List Value} {σ : mj_S} {τ : mj_T} {v : Nat} : mj_E 143 48 (some (.ref v) :: ls) st σ τ = mj_E 143 49 (some (.ref v) :: ls) (.ref v :: st) σ τ := mj_nx i143_48 rfl
theorem i143_49 : mj_ins 143 49 = some (.getfield 712, 52) := by decide +kernel
theorem e143_49 {ls : mj_L} {st : List Value} {σ : mj_S} {τ : mj_T} : mj_E 143 49 ls (.ref 62 :: st) σ τ = mj_E 143 52 ls (.ref 69 :: st) σ τ := mj_nx i143_49 rfl
theorem i143_52 : mj_ins 143 52 = some (.iload 1, 53) := by decide +kernel
theorem e143_52 {ls : mj_L} {st : List Value} {σ : mj_S} {τ : mj_T} {a0 : Option Value} {v : Int32} : mj_E 143 52 (a0 :: some (.int v) :: ls) st σ τ = mj_E 143 53 (a0 :: some (.int v) :: ls) (.int v :: st) σ τ := mj_nx i143_52 rfl
theorem i143_53 : mj_ins 143 53 = some (.iaload, 54) := by decide +kernel
theorem e143_53 {ls : mj_L} {st : List Value} {σ : mj_S} {τ : mj_T} {x : Int32} {k : Nat} : mj_E 143 53 ls (.int x :: .ref k :: st) σ τ = if mj_ib (mj_li σ k) x = true then mj_E 143 54 ls (.int (σ k x.toNatClampNeg) :: st) σ τ else none := mj_ald i143_53
theorem i143_54 : mj_ins 143 54 = some (.ireturn, 55) := by decide +kernel
theorem e143_54 {ls : mj_L} {σ : mj_S} {τ : mj_T} {v : Int32} : mj_E 143 54 ls [.int v] σ τ = some (some (.int v), σ, τ) := mj_irt i143_54 rfl
theorem i143_55 : mj_ins 143 55 = some (.aload 0, 56) := by decide +kernel
theorem e143_55 {ls : mj_L} {st : List Value} {σ : mj_S} {τ : mj_T} {v : Nat} : mj_E 143 55 (some (.ref v) :: ls) st σ τ = mj_E 143 56 (some (.ref v) :: ls) (.ref v :: st) σ τ := mj_nx i143_55 rfl
theorem i143_56 : mj_ins 143 56 = some (.getfield 713, 59) := by decide +kernel
theorem e143_56 {ls : mj_L} {st : List Value} {σ : mj_S} {τ : mj_T} : mj_E 143 56 ls (.ref 62 :: st) σ τ = mj_E 143 59 ls (.ref 70 :: st) σ τ := mj_nx i143_56 rfl
theorem i143_59 : mj_ins 143 59 = some (.iload 1, 60) := by decide +kernel
theorem e143_59 {ls : mj_L} {st : List Value} {σ : mj_S} {τ : mj_T} {a0 : Option Value} {v : Int32} : mj_E 143 59 (a0 :: some (.int v) :: ls) st σ τ = mj_E 143 60 (a0 :: some (.int v) :: ls) (.int v :: st) σ τ := mj_nx i143_59 rfl
theorem i143_60 : mj_ins 143 60 = some (.iaload, 61) := by decide +kernel
theorem e143_60 {ls : mj_L} {st : List Value} {σ : mj_S} {τ : mj_T} {x : Int32} {k : Nat} : mj_E 143 60 ls (.int x :: .ref k :: st) σ τ = if mj_ib (mj_li σ k) x = true then mj_E 143 61 ls (.int (σ k x.toNatClampNeg) :: st) σ τ else none := mj_ald i143_60
theorem i143_61 : mj_ins 143 61 = some (.ireturn, 62) := by decide +kernel
theorem e143_61 {ls : mj_L} {σ : mj_S} {τ : mj_T} {v : Int32} : mj_E 143 61 ls [.int v] σ τ = some (some (.int v), σ, τ) := mj_irt i143_61 rfl
theorem i143_62 : mj_ins 143 62 = some (.aload 0, 63) := by decide +kernel
theorem e143_62 {ls : mj_L} {st : List Value} {σ : mj_S} {τ : mj_T} {v : Nat} : mj_E 143 62 (some (.ref v) :: ls) st σ τ = mj_E 143 63 (some (.ref v) :: ls) (.ref v :: st) σ τ := mj_nx i143_62 rfl
theorem i143_63 : mj_ins 143 63 = some (.getfield 714, 66) := by decide +kernel
theorem e143_63 {ls : mj_L} {st : List Value} {σ : mj_S} {τ : mj_T} : mj_E 143 63 ls (.ref 62 :: st) σ τ = mj_E 143 66 ls (.ref 71 :: st) σ τ := mj_nx i143_63 rfl
theorem i143_66 : mj_ins 143 66 = some (.iload 1, 67) := by decide +kernel
theorem e143_66 {ls : mj_L} {st : List Value} {σ : mj_S} {τ : mj_T} {a0 : Option Value} {v : Int32} : mj_E 143 66 (a0 :: some (.int v) :: ls) st σ τ = mj_E 143 67 (a0 :: some (.int v) :: ls) (.int v :: st) σ τ := mj_nx i143_66 rfl
theorem i143_67 : mj_ins 143 67 = some (.iaload, 68) := by decide +kernel
theorem e143_67 {ls : mj_L} {st : List Value} {σ : mj_S} {τ : mj_T} {x : Int32} {k : Nat} : mj_E 143 67 ls (.int x :: .ref k :: st) σ τ = if mj_ib (mj_li σ k) x = true then mj_E 143 68 ls (.int (σ k x.toNatClampNeg) :: st) σ τ else none := mj_ald i143_67
theorem i143_68 : mj_ins 143 68 = some (.ireturn, 69) := by decide +kernel
theorem e143_68 {ls : mj_L} {σ : mj_S} {τ : mj_T} {v : Int32} : mj_E 143 68 ls [.int v] σ τ = some (some (.int v), σ, τ) := mj_irt i143_68 rfl
theorem i143_69 : mj_ins 143 69 = some (.aload 0, 70) := by decide +kernel
theorem e143_69 {ls : mj_L} {st : List Value} {σ : mj_S} {τ : mj_T} {v : Nat} : mj_E 143 69 (some (.ref v) :: ls) st σ τ = mj_E 143 70 (some (.ref v) :: ls) (.ref v :: st) σ τ := mj_nx i143_69 rfl
theorem i143_70 : mj_ins 143 70 = some (.getfield 715, 73) := by decide +kernel
theorem e143_70 {ls : mj_L} {st : List Value} {σ : mj_S} {τ : mj_T} : mj_E 143 70 ls (.ref 62 :: st) σ τ = mj_E 143 73 ls (.ref 72 :: st) σ τ := mj_nx i143_70 rfl
theorem i143_73 : mj_ins 143 73 = some (.iload 1, 74) := by decide +kernel
theorem e143_73 {ls : mj_L} {st : List Value} {σ : mj_S} {τ : mj_T} {a0 : Option Value} {v : Int32} : mj_E 143 73 (a0 :: some (.int v) :: ls) st σ τ = mj_E 143 74 (a0 :: some (.int v) :: ls) (.int v :: st) σ τ := mj_nx i143_73 rfl
theorem i143_74 : mj_ins 143 74 = some (.iaload, 75) := by decide +kernel
theorem e143_74 {ls : mj_L} {st : List Value} {σ : mj_S} {τ : mj_T} {x : Int32} {k : Nat} : mj_E 143 74 ls (.int x :: .ref k :: st) σ τ = if mj_ib (mj_li σ k) x = true then mj_E 143 75 ls (.int (σ k x.toNatClampNeg) :: st) σ τ else none := mj_ald i143_74
theorem i143_75 : mj_ins 143 75 = some (.ireturn, 76) := by decide +kernel
theorem e143_75 {ls : mj_L} {σ : mj_S} {τ : mj_T} {v : Int32} : mj_E 143 75 ls [.int v] σ τ = some (some (.int v), σ, τ) := mj_irt i143_75 rfl
theorem i143_76 : mj_ins 143 76 = some (.aload 0, 77) := by decide +kernel
theorem e143_76 {ls : mj_L} {st : List Value} {σ : mj_S} {τ : mj_T} {v : Nat} : mj_E 143 76 (some (.ref v) :: ls) st σ τ = mj_E 143 77 (some (.ref v) :: ls) (.ref v :: st) σ τ := mj_nx i143_76 rfl
theorem i143_77 : mj_ins 143 77 = some (.iconst (-5), 79) := by decide +kernel
theorem e143_77 {ls : mj_L} {st : List Value} {σ : mj_S} {τ : mj_T} : mj_E 143 77 ls st σ τ = mj_E 143 79 ls (.int ((-5)) :: st) σ τ := mj_nx i143_77 rfl
theorem i143_79 : mj_ins 143 79 = some (.invokevirtual 117, 82) := by decide +kernel
theorem e143_79 {ls : mj_L} {σ : mj_S} {τ : mj_T} {r : Nat} {x0 : Int32} : mj_E 143 79 ls [.int x0, .ref r] σ τ = if mj_rcv r 7 = true then mj_bd (mj_C 117 [.ref r, .int x0] σ τ) (mj_K 143 82 ls []) else none := mj_clV (as := [.int x0]) (r := []) i143_79 (by decide +kernel : mj_vk 143 117 1 0 2 false = true) (by decide +kernel)
theorem i143_82 : mj_ins 143 82 = some (.ireturn, 83) := by decide +kernel
theorem e143_82 {ls : mj_L} {σ : mj_S} {τ : mj_T} {v : Int32} : mj_E 143 82 ls [.int v] σ τ = some (some (.int v), σ, τ) := mj_irt i143_82 rfl
theorem c144 {σ : mj_S} {τ : mj_T} {r : Nat} {x0 : Int32} : mj_C 144 [.ref r, .int x0] σ τ = mj_E 144 0 [some (.ref r), some (.int x0)] [] σ τ := rfl
theorem i144_0 : mj_ins 144 0 = some (.aload 0, 1) := by decide +kernel
theorem e144_0 {ls : mj_L} {st : List Value} {σ : mj_S} {τ : mj_T} {v : Nat} : mj_E 144 0 (some (.ref v) :: ls) st σ τ = mj_E 144 1 (some (.ref v) :: ls) (.ref v :: st) σ τ := mj_nx i144_0 rfl
theorem i144_1 : mj_ins 144 1 = some (.iload 1, 2) := by decide +kernel
theorem e144_1 {ls : mj_L} {st : List Value} {σ : mj_S} {τ : mj_T} {a0 : Option Value} {v : Int32} : mj_E 144 1 (a0 :: some (.int v) :: ls) st σ τ = mj_E 144 2 (a0 :: some (.int v) :: ls) (.int v :: st) σ τ := mj_nx i144_1 rfl
theorem i144_2 : mj_ins 144 2 = some (.putfield 731, 5) := by decide +kernel
theorem e144_2 {ls : mj_L} {st : List Value} {σ : mj_S} {τ : mj_T} {v : Int32} : mj_E 144 2 ls (.int v :: .ref 62 :: st) σ τ = mj_E 144 5 ls st (mj_up σ 62 31 v) τ := mj_nx i144_2 rfl
theorem i144_5 : mj_ins 144 5 = some (.iconst (0), 6) := by decide +kernel
theorem e144_5 {ls : mj_L} {st : List Value} {σ : mj_S} {τ : mj_T} : mj_E 144 5 ls st σ τ = mj_E 144 6 ls (.int (nI 0) :: st) σ τ := mj_nx i144_5 rfl
theorem i144_6 : mj_ins 144 6 = some (.ireturn, 7) := by decide +kernel
theorem e144_6 {ls : mj_L} {σ : mj_S} {τ : mj_T} {v : Int32} : mj_E 144 6 ls [.int v] σ τ = if mj_ok (some .boolean) v = true then some (some (.int v), σ, τ) else none := mj_zrt i144_6 rfl
theorem c145 {σ : mj_S} {τ : mj_T} {r : Nat} {x0 : Int32} : mj_C 145 [.ref r, .int x0] σ τ = mj_E 145 0 [some (.ref r), some (.int x0), none, none] [] σ τ := rfl
theorem i145_0 : mj_ins 145 0 = some (.iconst (0), 1) := by decide +kernel
theorem e145_0 {ls : mj_L} {st : List Value} {σ : mj_S} {τ : mj_T} : mj_E 145 0 ls st σ τ = mj_E 145 1 ls (.int (nI 0) :: st) σ τ := mj_nx i145_0 rfl
theorem i145_1 : mj_ins 145 1 = some (.istore 2, 2) := by decide +kernel
theorem e145_1 {ls : mj_L} {st : List Value} {σ : mj_S} {τ : mj_T} {a0 a1 a2 : Option Value} {v : Int32} : mj_E 145 1 (a0 :: a1 :: a2 :: ls) (.int v :: st) σ τ = mj_E 145 2 (a0 :: a1 :: some (.int v) :: ls) st σ τ := mj_nx i145_1 rfl
theorem i145_2 : mj_ins 145 2 = some (.iconst (0), 3) := by decide +kernel
theorem e145_2 {ls : mj_L} {st : List Value} {σ : mj_S} {τ : mj_T} : mj_E 145 2 ls st σ τ = mj_E 145 3 ls (.int (nI 0) :: st) σ τ := mj_nx i145_2 rfl
theorem i145_3 : mj_ins 145 3 = some (.istore 3, 4) := by decide +kernel
theorem e145_3 {ls : mj_L} {st : List Value} {σ : mj_S} {τ : mj_T} {a0 a1 a2 a3 : Option Value} {v : Int32} : mj_E 145 3 (a0 :: a1 :: a2 :: a3 :: ls) (.int v :: st) σ τ = mj_E 145 4 (a0 :: a1 :: a2 :: some (.int v) :: ls) st σ τ := mj_nx i145_3 rfl
theorem i145_4 : mj_ins 145 4 = some (.iload 3, 5) := by decide +kernel
theorem e145_4 {ls : mj_L} {st : List Value} {σ : mj_S} {τ : mj_T} {a0 a1 a2 : Option Value} {v : Int32} : mj_E 145 4 (a0 :: a1 :: a2 :: some (.int v) :: ls) st σ τ = mj_E 145 5 (a0 :: a1 :: a2 :: some (.int v) :: ls) (.int v :: st) σ τ := mj_nx i145_4 rfl
theorem i145_5 : mj_ins 145 5 = some (.iload 1, 6) := by decide +kernel
theorem e145_5 {ls : mj_L} {st : List Value} {σ : mj_S} {τ : mj_T} {a0 : Option Value} {v : Int32} : mj_E 145 5 (a0 :: some (.int v) :: ls) st σ τ = mj_E 145 6 (a0 :: some (.int v) :: ls) (.int v :: st) σ τ := mj_nx i145_5 rfl
theorem i145_6 : mj_ins 145 6 = some (.if_icmp .ge 32, 9) := by decide +kernel
theorem e145_6 {ls : mj_L} {st : List Value} {σ : mj_S} {τ : mj_T} {x y : Int32} : mj_E 145 6 ls (.int y :: .int x :: st) σ τ = if y ≤ x then mj_E 145 32 ls st σ τ else mj_E 145 9 ls st σ τ := (mj_ifi i145_6).trans (mj_cdT rfl)
theorem i145_9 : mj_ins 145 9 = some (.iload 3, 10) := by decide +kernel
theorem e145_9 {ls : mj_L} {st : List Value} {σ : mj_S} {τ : mj_T} {a0 a1 a2 : Option Value} {v : Int32} : mj_E 145 9 (a0 :: a1 :: a2 :: some (.int v) :: ls) st σ τ = mj_E 145 10 (a0 :: a1 :: a2 :: some (.int v) :: ls) (.int v :: st) σ τ := mj_nx i145_9 rfl
theorem i145_10 : mj_ins 145 10 = some (.aload 0, 11) := by decide +kernel
theorem e145_10 {ls : mj_L} {st : List Value} {σ : mj_S} {τ : mj_T} {v : Nat} : mj_E 145 10 (some (.ref v) :: ls) st σ τ = mj_E 145 11 (some (.ref v) :: ls) (.ref v :: st) σ τ := mj_nx i145_10 rfl
theorem i145_11 : mj_ins 145 11 = some (.getfield 723, 14) := by decide +kernel
theorem e145_11 {ls : mj_L} {st : List Value} {σ : mj_S} {τ : mj_T} : mj_E 145 11 ls (.ref 62 :: st) σ τ = mj_E 145 14 ls (.ref 80 :: st) σ τ := mj_nx i145_11 rfl
theorem i145_14 : mj_ins 145 14 = some (.iload 2, 15) := by decide +kernel
theorem e145_14 {ls : mj_L} {st : List Value} {σ : mj_S} {τ : mj_T} {a0 a1 : Option Value} {v : Int32} : mj_E 145 14 (a0 :: a1 :: some (.int v) :: ls) st σ τ = mj_E 145 15 (a0 :: a1 :: some (.int v) :: ls) (.int v :: st) σ τ := mj_nx i145_14 rfl
theorem i145_15 : mj_ins 145 15 = some (.iaload, 16) := by decide +kernel
theorem e145_15 {ls : mj_L} {st : List Value} {σ : mj_S} {τ : mj_T} {x : Int32} {k : Nat} : mj_E 145 15 ls (.int x :: .ref k :: st) σ τ = if mj_ib (mj_li σ k) x = true then mj_E 145 16 ls (.int (σ k x.toNatClampNeg) :: st) σ τ else none := mj_ald i145_15
theorem i145_16 : mj_ins 145 16 = some (.ifCond .ne 23, 19) := by decide +kernel
theorem e145_16 {ls : mj_L} {st : List Value} {σ : mj_S} {τ : mj_T} {x : Int32} : mj_E 145 16 ls (.int x :: st) σ τ = if x = 0 then mj_E 145 19 ls st σ τ else mj_E 145 23 ls st σ τ := (mj_ifc i145_16).trans (mj_cdF rfl)
theorem i145_19 : mj_ins 145 19 = some (.iconst (1), 20) := by decide +kernel
theorem e145_19 {ls : mj_L} {st : List Value} {σ : mj_S} {τ : mj_T} : mj_E 145 19 ls st σ τ = mj_E 145 20 ls (.int (nI 1) :: st) σ τ := mj_nx i145_19 rfl
theorem i145_20 : mj_ins 145 20 = some (.goto 24, 23) := by decide +kernel
theorem e145_20 {ls : mj_L} {st : List Value} {σ : mj_S} {τ : mj_T} : mj_E 145 20 ls st σ τ = mj_E 145 24 ls st σ τ := mj_nx i145_20 rfl
theorem i145_23 : mj_ins 145 23 = some (.iconst (0), 24) := by decide +kernel
theorem e145_23 {ls : mj_L} {st : List Value} {σ : mj_S} {τ : mj_T} : mj_E 145 23 ls st σ τ = mj_E 145 24 ls (.int (nI 0) :: st) σ τ := mj_nx i145_23 rfl
theorem i145_24 : mj_ins 145 24 = some (.iadd, 25) := by decide +kernel
theorem e145_24 {ls : mj_L} {st : List Value} {σ : mj_S} {τ : mj_T} {x y : Int32} : mj_E 145 24 ls (.int y :: .int x :: st) σ τ = mj_E 145 25 ls (.int (x + y) :: st) σ τ := mj_nx i145_24 rfl
theorem i145_25 : mj_ins 145 25 = some (.istore 3, 26) := by decide +kernel
theorem e145_25 {ls : mj_L} {st : List Value} {σ : mj_S} {τ : mj_T} {a0 a1 a2 a3 : Option Value} {v : Int32} : mj_E 145 25 (a0 :: a1 :: a2 :: a3 :: ls) (.int v :: st) σ τ = mj_E 145 26 (a0 :: a1 :: a2 :: some (.int v) :: ls) st σ τ := mj_nx i145_25 rfl
theorem i145_26 : mj_ins 145 26 = some (.iinc 2 (1), 29) := by decide +kernel
theorem e145_26 {ls : mj_L} {st : List Value} {σ : mj_S} {τ : mj_T} {a0 a1 : Option Value} {v : Int32} : mj_E 145 26 (a0 :: a1 :: some (.int v) :: ls) st σ τ = mj_E 145 29 (a0 :: a1 :: some (.int (v + nI 1)) :: ls) st σ τ := mj_nx i145_26 rfl
theorem i145_29 : mj_ins 145 29 = some (.goto 4, 32) := by decide +kernel
theorem e145_29 {ls : mj_L} {st : List Value} {σ : mj_S} {τ : mj_T} : mj_E 145 29 ls st σ τ = mj_E 145 4 ls st σ τ := mj_nx i145_29 rfl
theorem i145_32 : mj_ins 145 32 = some (.aload 0, 33) := by decide +kernel
theorem e145_32 {ls : mj_L} {st : List Value} {σ : mj_S} {τ : mj_T} {v : Nat} : mj_E 145 32 (some (.ref v) :: ls) st σ τ = mj_E 145 33 (some (.ref v) :: ls) (.ref v :: st) σ τ := mj_nx i145_32 rfl
theorem i145_33 : mj_ins 145 33 = some (.getfield 728, 36) := by decide +kernel
theorem e145_33 {ls : mj_L} {st : List Value} {σ : mj_S} {τ : mj_T} : mj_E 145 33 ls (.ref 62 :: st) σ τ = mj_E 145 36 ls (.int (σ 62 28) :: st) σ τ := mj_nx i145_33 rfl
theorem i145_36 : mj_ins 145 36 = some (.istore 3, 37) := by decide +kernel
theorem e145_36 {ls : mj_L} {st : List Value} {σ : mj_S} {τ : mj_T} {a0 a1 a2 a3 : Option Value} {v : Int32} : mj_E 145 36 (a0 :: a1 :: a2 :: a3 :: ls) (.int v :: st) σ τ = mj_E 145 37 (a0 :: a1 :: a2 :: some (.int v) :: ls) st σ τ := mj_nx i145_36 rfl
theorem i145_37 : mj_ins 145 37 = some (.aload 0, 38) := by decide +kernel
theorem e145_37 {ls : mj_L} {st : List Value} {σ : mj_S} {τ : mj_T} {v : Nat} : mj_E 145 37 (some (.ref v) :: ls) st σ τ = mj_E 145 38 (some (.ref v) :: ls) (.ref v :: st) σ τ := mj_nx i145_37 rfl
theorem i145_38 : mj_ins 145 38 = some (.getfield 723, 41) := by decide +kernel
theorem e145_38 {ls : mj_L} {st : List Value} {σ : mj_S} {τ : mj_T} : mj_E 145 38 ls (.ref 62 :: st) σ τ = mj_E 145 41 ls (.ref 80 :: st) σ τ := mj_nx i145_38 rfl
theorem i145_41 : mj_ins 145 41 = some (.iload 2, 42) := by decide +kernel
theorem e145_41 {ls : mj_L} {st : List Value} {σ : mj_S} {τ : mj_T} {a0 a1 : Option Value} {v : Int32} : mj_E 145 41 (a0 :: a1 :: some (.int v) :: ls) st σ τ = mj_E 145 42 (a0 :: a1 :: some (.int v) :: ls) (.int v :: st) σ τ := mj_nx i145_41 rfl
theorem i145_42 : mj_ins 145 42 = some (.iaload, 43) := by decide +kernel
theorem e145_42 {ls : mj_L} {st : List Value} {σ : mj_S} {τ : mj_T} {x : Int32} {k : Nat} : mj_E 145 42 ls (.int x :: .ref k :: st) σ τ = if mj_ib (mj_li σ k) x = true then mj_E 145 43 ls (.int (σ k x.toNatClampNeg) :: st) σ τ else none := mj_ald i145_42
theorem i145_43 : mj_ins 145 43 = some (.iconst (32), 45) := by decide +kernel
theorem e145_43 {ls : mj_L} {st : List Value} {σ : mj_S} {τ : mj_T} : mj_E 145 43 ls st σ τ = mj_E 145 45 ls (.int (nI 32) :: st) σ τ := mj_nx i145_43 rfl
theorem i145_45 : mj_ins 145 45 = some (.if_icmp .le 86, 48) := by decide +kernel
theorem e145_45 {ls : mj_L} {st : List Value} {σ : mj_S} {τ : mj_T} {x y : Int32} : mj_E 145 45 ls (.int y :: .int x :: st) σ τ = if x ≤ y then mj_E 145 86 ls st σ τ else mj_E 145 48 ls st σ τ := (mj_ifi i145_45).trans (mj_cdT rfl)
theorem i145_48 : mj_ins 145 48 = some (.iload 3, 49) := by decide +kernel
theorem e145_48 {ls : mj_L} {st : List Value} {σ : mj_S} {τ : mj_T} {a0 a1 a2 : Option Value} {v : Int32} : mj_E 145 48 (a0 :: a1 :: a2 :: some (.int v) :: ls) st σ τ = mj_E 145 49 (a0 :: a1 :: a2 :: some (.int v) :: ls) (.int v :: st) σ τ := mj_nx i145_48 rfl
theorem i145_49 : mj_ins 145 49 = some (.aload 0, 50) := by decide +kernel
theorem e145_49 {ls : mj_L} {st : List Value} {σ : mj_S} {τ : mj_T} {v : Nat} : mj_E 145 49 (some (.ref v) :: ls) st σ τ = mj_E 145 50 (some (.ref v) :: ls) (.ref v :: st) σ τ := mj_nx i145_49 rfl
theorem i145_50 : mj_ins 145 50 = some (.getfield 729, 53) := by decide +kernel
theorem e145_50 {ls : mj_L} {st : List Value} {σ : mj_S} {τ : mj_T} : mj_E 145 50 ls (.ref 62 :: st) σ τ = mj_E 145 53 ls (.int (σ 62 29) :: st) σ τ := mj_nx i145_50 rfl
theorem i145_53 : mj_ins 145 53 = some (.if_icmp .ge 86, 56) := by decide +kernel
theorem e145_53 {ls : mj_L} {st : List Value} {σ : mj_S} {τ : mj_T} {x y : Int32} : mj_E 145 53 ls (.int y :: .int x :: st) σ τ = if y ≤ x then mj_E 145 86 ls st σ τ else mj_E 145 56 ls st σ τ := (mj_ifi i145_53).trans (mj_cdT rfl)
theorem i145_56 : mj_ins 145 56 = some (.aload 0, 57) := by decide +kernel
theorem e145_56 {ls : mj_L} {st : List Value} {σ : mj_S} {τ : mj_T} {v : Nat} : mj_E 145 56 (some (.ref v) :: ls) st σ τ = mj_E 145 57 (some (.ref v) :: ls) (.ref v :: st) σ τ := mj_nx i145_56 rfl
theorem i145_57 : mj_ins 145 57 = some (.getfield 721, 60) := by decide +kernel
theorem e145_57 {ls : mj_L} {st : List Value} {σ : mj_S} {τ : mj_T} : mj_E 145 57 ls (.ref 62 :: st) σ τ = mj_E 145 60 ls (.ref 78 :: st) σ τ := mj_nx i145_57 rfl
theorem i145_60 : mj_ins 145 60 = some (.aload 0, 61) := by decide +kernel
theorem e145_60 {ls : mj_L} {st : List Value} {σ : mj_S} {τ : mj_T} {v : Nat} : mj_E 145 60 (some (.ref v) :: ls) st σ τ = mj_E 145 61 (some (.ref v) :: ls) (.ref v :: st) σ τ := mj_nx i145_60 rfl
theorem i145_61 : mj_ins 145 61 = some (.getfield 727, 64) := by decide +kernel
theorem e145_61 {ls : mj_L} {st : List Value} {σ : mj_S} {τ : mj_T} : mj_E 145 61 ls (.ref 62 :: st) σ τ = mj_E 145 64 ls (.int (σ 62 27) :: st) σ τ := mj_nx i145_61 rfl
theorem i145_64 : mj_ins 145 64 = some (.iload 3, 65) := by decide +kernel
theorem e145_64 {ls : mj_L} {st : List Value} {σ : mj_S} {τ : mj_T} {a0 a1 a2 : Option Value} {v : Int32} : mj_E 145 64 (a0 :: a1 :: a2 :: some (.int v) :: ls) st σ τ = mj_E 145 65 (a0 :: a1 :: a2 :: some (.int v) :: ls) (.int v :: st) σ τ := mj_nx i145_64 rfl
theorem i145_65 : mj_ins 145 65 = some (.iadd, 66) := by decide +kernel
theorem e145_65 {ls : mj_L} {st : List Value} {σ : mj_S} {τ : mj_T} {x y : Int32} : mj_E 145 65 ls (.int y :: .int x :: st) σ τ = mj_E 145 66 ls (.int (x + y) :: st) σ τ := mj_nx i145_65 rfl
theorem i145_66 : mj_ins 145 66 = some (.laload, 67) := by decide +kernel
theorem e145_66 {ls : mj_L} {st : List Value} {σ : mj_S} {τ : mj_T} {x : Int32} {k : Nat} : mj_E 145 66 ls (.int x :: .ref k :: st) σ τ = if mj_ib (mj_ll k) x = true then mj_E 145 67 ls (.long (τ k x.toNatClampNeg) :: st) σ τ else none := mj_lald i145_66
theorem i145_67 : mj_ins 145 67 = some (.l2i, 68) := by decide +kernel
theorem e145_67 {ls : mj_L} {st : List Value} {σ : mj_S} {τ : mj_T} {x : Int64} : mj_E 145 67 ls (.long x :: st) σ τ = mj_E 145 68 ls (.int x.toInt32 :: st) σ τ := mj_nx i145_67 rfl
theorem i145_68 : mj_ins 145 68 = some (.aload 0, 69) := by decide +kernel
theorem e145_68 {ls : mj_L} {st : List Value} {σ : mj_S} {τ : mj_T} {v : Nat} : mj_E 145 68 (some (.ref v) :: ls) st σ τ = mj_E 145 69 (some (.ref v) :: ls) (.ref v :: st) σ τ := mj_nx i145_68 rfl
theorem i145_69 : mj_ins 145 69 = some (.getfield 723, 72) := by decide +kernel
theorem e145_69 {ls : mj_L} {st : List Value} {σ : mj_S} {τ : mj_T} : mj_E 145 69 ls (.ref 62 :: st) σ τ = mj_E 145 72 ls (.ref 80 :: st) σ τ := mj_nx i145_69 rfl
theorem i145_72 : mj_ins 145 72 = some (.iload 2, 73) := by decide +kernel
theorem e145_72 {ls : mj_L} {st : List Value} {σ : mj_S} {τ : mj_T} {a0 a1 : Option Value} {v : Int32} : mj_E 145 72 (a0 :: a1 :: some (.int v) :: ls) st σ τ = mj_E 145 73 (a0 :: a1 :: some (.int v) :: ls) (.int v :: st) σ τ := mj_nx i145_72 rfl
theorem i145_73 : mj_ins 145 73 = some (.iaload, 74) := by decide +kernel
theorem e145_73 {ls : mj_L} {st : List Value} {σ : mj_S} {τ : mj_T} {x : Int32} {k : Nat} : mj_E 145 73 ls (.int x :: .ref k :: st) σ τ = if mj_ib (mj_li σ k) x = true then mj_E 145 74 ls (.int (σ k x.toNatClampNeg) :: st) σ τ else none := mj_ald i145_73
theorem i145_74 : mj_ins 145 74 = some (.if_icmp .ne 86, 77) := by decide +kernel
theorem e145_74 {ls : mj_L} {st : List Value} {σ : mj_S} {τ : mj_T} {x y : Int32} : mj_E 145 74 ls (.int y :: .int x :: st) σ τ = if x = y then mj_E 145 77 ls st σ τ else mj_E 145 86 ls st σ τ := (mj_ifi i145_74).trans (mj_cdF rfl)
theorem i145_77 : mj_ins 145 77 = some (.iinc 3 (1), 80) := by decide +kernel
theorem e145_77 {ls : mj_L} {st : List Value} {σ : mj_S} {τ : mj_T} {a0 a1 a2 : Option Value} {v : Int32} : mj_E 145 77 (a0 :: a1 :: a2 :: some (.int v) :: ls) st σ τ = mj_E 145 80 (a0 :: a1 :: a2 :: some (.int (v + nI 1)) :: ls) st σ τ := mj_nx i145_77 rfl
theorem i145_80 : mj_ins 145 80 = some (.iinc 2 (1), 83) := by decide +kernel
theorem e145_80 {ls : mj_L} {st : List Value} {σ : mj_S} {τ : mj_T} {a0 a1 : Option Value} {v : Int32} : mj_E 145 80 (a0 :: a1 :: some (.int v) :: ls) st σ τ = mj_E 145 83 (a0 :: a1 :: some (.int (v + nI 1)) :: ls) st σ τ := mj_nx i145_80 rfl
theorem i145_83 : mj_ins 145 83 = some (.goto 37, 86) := by decide +kernel
theorem e145_83 {ls : mj_L} {st : List Value} {σ : mj_S} {τ : mj_T} : mj_E 145 83 ls st σ τ = mj_E 145 37 ls st σ τ := mj_nx i145_83 rfl
theorem i145_86 : mj_ins 145 86 = some (.aload 0, 87) := by decide +kernel
theorem e145_86 {ls : mj_L} {st : List Value} {σ : mj_S} {τ : mj_T} {v : Nat} : mj_E 145 86 (some (.ref v) :: ls) st σ τ = mj_E 145 87 (some (.ref v) :: ls) (.ref v :: st) σ τ := mj_nx i145_86 rfl
theorem i145_87 : mj_ins 145 87 = some (.getfield 723, 90) := by decide +kernel
theorem e145_87 {ls : mj_L} {st : List Value} {σ : mj_S} {τ : mj_T} : mj_E 145 87 ls (.ref 62 :: st) σ τ = mj_E 145 90 ls (.ref 80 :: st) σ τ := mj_nx i145_87 rfl
theorem i145_90 : mj_ins 145 90 = some (.iload 2, 91) := by decide +kernel
theorem e145_90 {ls : mj_L} {st : List Value} {σ : mj_S} {τ : mj_T} {a0 a1 : Option Value} {v : Int32} : mj_E 145 90 (a0 :: a1 :: some (.int v) :: ls) st σ τ = mj_E 145 91 (a0 :: a1 :: some (.int v) :: ls) (.int v :: st) σ τ := mj_nx i145_90 rfl
theorem i145_91 : mj_ins 145 91 = some (.iaload, 92) := by decide +kernel
theorem e145_91 {ls : mj_L} {st : List Value} {σ : mj_S} {τ : mj_T} {x : Int32} {k : Nat} : mj_E 145 91 ls (.int x :: .ref k :: st) σ τ = if mj_ib (mj_li σ k) x = true then mj_E 145 92 ls (.int (σ k x.toNatClampNeg) :: st) σ τ else none := mj_ald i145_91
theorem i145_92 : mj_ins 145 92 = some (.iconst (32), 94) := by decide +kernel
theorem e145_92 {ls : mj_L} {st : List Value} {σ : mj_S} {τ : mj_T} : mj_E 145 92 ls st σ τ = mj_E 145 94 ls (.int (nI 32) :: st) σ τ := mj_nx i145_92 rfl
theorem i145_94 : mj_ins 145 94 = some (.if_icmp .gt 101, 97) := by decide +kernel
theorem e145_94 {ls : mj_L} {st : List Value} {σ : mj_S} {τ : mj_T} {x y : Int32} : mj_E 145 94 ls (.int y :: .int x :: st) σ τ = if y < x then mj_E 145 101 ls st σ τ else mj_E 145 97 ls st σ τ := (mj_ifi i145_94).trans (mj_cdT rfl)
theorem i145_97 : mj_ins 145 97 = some (.iconst (1), 98) := by decide +kernel
theorem e145_97 {ls : mj_L} {st : List Value} {σ : mj_S} {τ : mj_T} : mj_E 145 97 ls st σ τ = mj_E 145 98 ls (.int (nI 1) :: st) σ τ := mj_nx i145_97 rfl
theorem i145_98 : mj_ins 145 98 = some (.goto 102, 101) := by decide +kernel
theorem e145_98 {ls : mj_L} {st : List Value} {σ : mj_S} {τ : mj_T} : mj_E 145 98 ls st σ τ = mj_E 145 102 ls st σ τ := mj_nx i145_98 rfl
theorem i145_101 : mj_ins 145 101 = some (.iconst (0), 102) := by decide +kernel
theorem e145_101 {ls : mj_L} {st : List Value} {σ : mj_S} {τ : mj_T} : mj_E 145 101 ls st σ τ = mj_E 145 102 ls (.int (nI 0) :: st) σ τ := mj_nx i145_101 rfl
theorem i145_102 : mj_ins 145 102 = some (.ireturn, 103) := by decide +kernel
theorem e145_102 {ls : mj_L} {σ : mj_S} {τ : mj_T} {v : Int32} : mj_E 145 102 ls [.int v] σ τ = if mj_ok (some .boolean) v = true then some (some (.int v), σ, τ) else none := mj_zrt i145_102 rfl
theorem c146 {σ : mj_S} {τ : mj_T} {r : Nat} : mj_C 146 [.ref r] σ τ = mj_E 146 0 [some (.ref r), none, none, none, none, none] [] σ τ := rfl
theorem i146_0 : mj_ins 146 0 = some (.iconst (0), 1) := by decide +kernel
theorem e146_0 {ls : mj_L} {st : List Value} {σ : mj_S} {τ : mj_T} : mj_E 146 0 ls st σ τ = mj_E 146 1 ls (.int (nI 0) :: st) σ τ := mj_nx i146_0 rfl
theorem i146_1 : mj_ins 146 1 = some (.istore 1, 2) := by decide +kernel
theorem e146_1 {ls : mj_L} {st : List Value} {σ : mj_S} {τ : mj_T} {a0 a1 : Option Value} {v : Int32} : mj_E 146 1 (a0 :: a1 :: ls) (.int v :: st) σ τ = mj_E 146 2 (a0 :: some (.int v) :: ls) st σ τ := mj_nx i146_1 rfl
theorem i146_2 : mj_ins 146 2 = some (.aload 0, 3) := by decide +kernel
theorem e146_2 {ls : mj_L} {st : List Value} {σ : mj_S} {τ : mj_T} {v : Nat} : mj_E 146 2 (some (.ref v) :: ls) st σ τ = mj_E 146 3 (some (.ref v) :: ls) (.ref v :: st) σ τ := mj_nx i146_2 rfl
theorem i146_3 : mj_ins 146 3 = some (.getfield 728, 6) := by decide +kernel
theorem e146_3 {ls : mj_L} {st : List Value} {σ : mj_S} {τ : mj_T} : mj_E 146 3 ls (.ref 62 :: st) σ τ = mj_E 146 6 ls (.int (σ 62 28) :: st) σ τ := mj_nx i146_3 rfl
theorem i146_6 : mj_ins 146 6 = some (.istore 2, 7) := by decide +kernel
theorem e146_6 {ls : mj_L} {st : List Value} {σ : mj_S} {τ : mj_T} {a0 a1 a2 : Option Value} {v : Int32} : mj_E 146 6 (a0 :: a1 :: a2 :: ls) (.int v :: st) σ τ = mj_E 146 7 (a0 :: a1 :: some (.int v) :: ls) st σ τ := mj_nx i146_6 rfl
theorem i146_7 : mj_ins 146 7 = some (.iconst (0), 8) := by decide +kernel
theorem e146_7 {ls : mj_L} {st : List Value} {σ : mj_S} {τ : mj_T} : mj_E 146 7 ls st σ τ = mj_E 146 8 ls (.int (nI 0) :: st) σ τ := mj_nx i146_7 rfl
theorem i146_8 : mj_ins 146 8 = some (.istore 3, 9) := by decide +kernel
theorem e146_8 {ls : mj_L} {st : List Value} {σ : mj_S} {τ : mj_T} {a0 a1 a2 a3 : Option Value} {v : Int32} : mj_E 146 8 (a0 :: a1 :: a2 :: a3 :: ls) (.int v :: st) σ τ = mj_E 146 9 (a0 :: a1 :: a2 :: some (.int v) :: ls) st σ τ := mj_nx i146_8 rfl
theorem i146_9 : mj_ins 146 9 = some (.iload 3, 10) := by decide +kernel
theorem e146_9 {ls : mj_L} {st : List Value} {σ : mj_S} {τ : mj_T} {a0 a1 a2 : Option Value} {v : Int32} : mj_E 146 9 (a0 :: a1 :: a2 :: some (.int v) :: ls) st σ τ = mj_E 146 10 (a0 :: a1 :: a2 :: some (.int v) :: ls) (.int v :: st) σ τ := mj_nx i146_9 rfl
theorem i146_10 : mj_ins 146 10 = some (.iconst (5), 11) := by decide +kernel
theorem e146_10 {ls : mj_L} {st : List Value} {σ : mj_S} {τ : mj_T} : mj_E 146 10 ls st σ τ = mj_E 146 11 ls (.int (nI 5) :: st) σ τ := mj_nx i146_10 rfl
theorem i146_11 : mj_ins 146 11 = some (.if_icmp .ge 129, 14) := by decide +kernel
theorem e146_11 {ls : mj_L} {st : List Value} {σ : mj_S} {τ : mj_T} {x y : Int32} : mj_E 146 11 ls (.int y :: .int x :: st) σ τ = if y ≤ x then mj_E 146 129 ls st σ τ else mj_E 146 14 ls st σ τ := (mj_ifi i146_11).trans (mj_cdT rfl)
theorem i146_14 : mj_ins 146 14 = some (.aload 0, 15) := by decide +kernel
theorem e146_14 {ls : mj_L} {st : List Value} {σ : mj_S} {τ : mj_T} {v : Nat} : mj_E 146 14 (some (.ref v) :: ls) st σ τ = mj_E 146 15 (some (.ref v) :: ls) (.ref v :: st) σ τ := mj_nx i146_14 rfl
theorem i146_15 : mj_ins 146 15 = some (.getfield 728, 18) := by decide +kernel
theorem e146_15 {ls : mj_L} {st : List Value} {σ : mj_S} {τ : mj_T} : mj_E 146 15 ls (.ref 62 :: st) σ τ = mj_E 146 18 ls (.int (σ 62 28) :: st) σ τ := mj_nx i146_15 rfl
theorem i146_18 : mj_ins 146 18 = some (.istore 4, 20) := by decide +kernel
theorem e146_18 {ls : mj_L} {st : List Value} {σ : mj_S} {τ : mj_T} {a0 a1 a2 a3 a4 : Option Value} {v : Int32} : mj_E 146 18 (a0 :: a1 :: a2 :: a3 :: a4 :: ls) (.int v :: st) σ τ = mj_E 146 20 (a0 :: a1 :: a2 :: a3 :: some (.int v) :: ls) st σ τ := mj_nx i146_18 rfl
theorem i146_20 : mj_ins 146 20 = some (.iload 1, 21) := by decide +kernel
theorem e146_20 {ls : mj_L} {st : List Value} {σ : mj_S} {τ : mj_T} {a0 : Option Value} {v : Int32} : mj_E 146 20 (a0 :: some (.int v) :: ls) st σ τ = mj_E 146 21 (a0 :: some (.int v) :: ls) (.int v :: st) σ τ := mj_nx i146_20 rfl
theorem i146_21 : mj_ins 146 21 = some (.istore 5, 23) := by decide +kernel
theorem e146_21 {ls : mj_L} {st : List Value} {σ : mj_S} {τ : mj_T} {a0 a1 a2 a3 a4 a5 : Option Value} {v : Int32} : mj_E 146 21 (a0 :: a1 :: a2 :: a3 :: a4 :: a5 :: ls) (.int v :: st) σ τ = mj_E 146 23 (a0 :: a1 :: a2 :: a3 :: a4 :: some (.int v) :: ls) st σ τ := mj_nx i146_21 rfl
theorem i146_23 : mj_ins 146 23 = some (.aload 0, 24) := by decide +kernel
theorem e146_23 {ls : mj_L} {st : List Value} {σ : mj_S} {τ : mj_T} {v : Nat} : mj_E 146 23 (some (.ref v) :: ls) st σ τ = mj_E 146 24 (some (.ref v) :: ls) (.ref v :: st) σ τ := mj_nx i146_23 rfl
theorem i146_24 : mj_ins 146 24 = some (.getfield 723, 27) := by decide +kernel
theorem e146_24 {ls : mj_L} {st : List Value} {σ : mj_S} {τ : mj_T} : mj_E 146 24 ls (.ref 62 :: st) σ τ = mj_E 146 27 ls (.ref 80 :: st) σ τ := mj_nx i146_24 rfl
theorem i146_27 : mj_ins 146 27 = some (.iload 5, 29) := by decide +kernel
theorem e146_27 {ls : mj_L} {st : List Value} {σ : mj_S} {τ : mj_T} {a0 a1 a2 a3 a4 : Option Value} {v : Int32} : mj_E 146 27 (a0 :: a1 :: a2 :: a3 :: a4 :: some (.int v) :: ls) st σ τ = mj_E 146 29 (a0 :: a1 :: a2 :: a3 :: a4 :: some (.int v) :: ls) (.int v :: st) σ τ := mj_nx i146_27 rfl
theorem i146_29 : mj_ins 146 29 = some (.iaload, 30) := by decide +kernel
theorem e146_29 {ls : mj_L} {st : List Value} {σ : mj_S} {τ : mj_T} {x : Int32} {k : Nat} : mj_E 146 29 ls (.int x :: .ref k :: st) σ τ = if mj_ib (mj_li σ k) x = true then mj_E 146 30 ls (.int (σ k x.toNatClampNeg) :: st) σ τ else none := mj_ald i146_29
theorem i146_30 : mj_ins 146 30 = some (.ifCond .eq 74, 33) := by decide +kernel
theorem e146_30 {ls : mj_L} {st : List Value} {σ : mj_S} {τ : mj_T} {x : Int32} : mj_E 146 30 ls (.int x :: st) σ τ = if x = 0 then mj_E 146 74 ls st σ τ else mj_E 146 33 ls st σ τ := (mj_ifc i146_30).trans (mj_cdT rfl)
theorem i146_33 : mj_ins 146 33 = some (.iload 4, 35) := by decide +kernel
theorem e146_33 {ls : mj_L} {st : List Value} {σ : mj_S} {τ : mj_T} {a0 a1 a2 a3 : Option Value} {v : Int32} : mj_E 146 33 (a0 :: a1 :: a2 :: a3 :: some (.int v) :: ls) st σ τ = mj_E 146 35 (a0 :: a1 :: a2 :: a3 :: some (.int v) :: ls) (.int v :: st) σ τ := mj_nx i146_33 rfl
theorem i146_35 : mj_ins 146 35 = some (.aload 0, 36) := by decide +kernel
theorem e146_35 {ls : mj_L} {st : List Value} {σ : mj_S} {τ : mj_T} {v : Nat} : mj_E 146 35 (some (.ref v) :: ls) st σ τ = mj_E 146 36 (some (.ref v) :: ls) (.ref v :: st) σ τ := mj_nx i146_35 rfl
theorem i146_36 : mj_ins 146 36 = some (.getfield 729, 39) := by decide +kernel
theorem e146_36 {ls : mj_L} {st : List Value} {σ : mj_S} {τ : mj_T} : mj_E 146 36 ls (.ref 62 :: st) σ τ = mj_E 146 39 ls (.int (σ 62 29) :: st) σ τ := mj_nx i146_36 rfl
theorem i146_39 : mj_ins 146 39 = some (.if_icmp .ge 74, 42) := by decide +kernel
theorem e146_39 {ls : mj_L} {st : List Value} {σ : mj_S} {τ : mj_T} {x y : Int32} : mj_E 146 39 ls (.int y :: .int x :: st) σ τ = if y ≤ x then mj_E 146 74 ls st σ τ else mj_E 146 42 ls st σ τ := (mj_ifi i146_39).trans (mj_cdT rfl)
theorem i146_42 : mj_ins 146 42 = some (.aload 0, 43) := by decide +kernel
theorem e146_42 {ls : mj_L} {st : List Value} {σ : mj_S} {τ : mj_T} {v : Nat} : mj_E 146 42 (some (.ref v) :: ls) st σ τ = mj_E 146 43 (some (.ref v) :: ls) (.ref v :: st) σ τ := mj_nx i146_42 rfl
theorem i146_43 : mj_ins 146 43 = some (.getfield 721, 46) := by decide +kernel
theorem e146_43 {ls : mj_L} {st : List Value} {σ : mj_S} {τ : mj_T} : mj_E 146 43 ls (.ref 62 :: st) σ τ = mj_E 146 46 ls (.ref 78 :: st) σ τ := mj_nx i146_43 rfl
theorem i146_46 : mj_ins 146 46 = some (.aload 0, 47) := by decide +kernel
theorem e146_46 {ls : mj_L} {st : List Value} {σ : mj_S} {τ : mj_T} {v : Nat} : mj_E 146 46 (some (.ref v) :: ls) st σ τ = mj_E 146 47 (some (.ref v) :: ls) (.ref v :: st) σ τ := mj_nx i146_46 rfl
theorem i146_47 : mj_ins 146 47 = some (.getfield 727, 50) := by decide +kernel
theorem e146_47 {ls : mj_L} {st : List Value} {σ : mj_S} {τ : mj_T} : mj_E 146 47 ls (.ref 62 :: st) σ τ = mj_E 146 50 ls (.int (σ 62 27) :: st) σ τ := mj_nx i146_47 rfl
theorem i146_50 : mj_ins 146 50 = some (.iload 4, 52) := by decide +kernel
theorem e146_50 {ls : mj_L} {st : List Value} {σ : mj_S} {τ : mj_T} {a0 a1 a2 a3 : Option Value} {v : Int32} : mj_E 146 50 (a0 :: a1 :: a2 :: a3 :: some (.int v) :: ls) st σ τ = mj_E 146 52 (a0 :: a1 :: a2 :: a3 :: some (.int v) :: ls) (.int v :: st) σ τ := mj_nx i146_50 rfl
theorem i146_52 : mj_ins 146 52 = some (.iadd, 53) := by decide +kernel
theorem e146_52 {ls : mj_L} {st : List Value} {σ : mj_S} {τ : mj_T} {x y : Int32} : mj_E 146 52 ls (.int y :: .int x :: st) σ τ = mj_E 146 53 ls (.int (x + y) :: st) σ τ := mj_nx i146_52 rfl
theorem i146_53 : mj_ins 146 53 = some (.laload, 54) := by decide +kernel
theorem e146_53 {ls : mj_L} {st : List Value} {σ : mj_S} {τ : mj_T} {x : Int32} {k : Nat} : mj_E 146 53 ls (.int x :: .ref k :: st) σ τ = if mj_ib (mj_ll k) x = true then mj_E 146 54 ls (.long (τ k x.toNatClampNeg) :: st) σ τ else none := mj_lald i146_53
theorem i146_54 : mj_ins 146 54 = some (.l2i, 55) := by decide +kernel
theorem e146_54 {ls : mj_L} {st : List Value} {σ : mj_S} {τ : mj_T} {x : Int64} : mj_E 146 54 ls (.long x :: st) σ τ = mj_E 146 55 ls (.int x.toInt32 :: st) σ τ := mj_nx i146_54 rfl
theorem i146_55 : mj_ins 146 55 = some (.aload 0, 56) := by decide +kernel
theorem e146_55 {ls : mj_L} {st : List Value} {σ : mj_S} {τ : mj_T} {v : Nat} : mj_E 146 55 (some (.ref v) :: ls) st σ τ = mj_E 146 56 (some (.ref v) :: ls) (.ref v :: st) σ τ := mj_nx i146_55 rfl
theorem i146_56 : mj_ins 146 56 = some (.getfield 723, 59) := by decide +kernel
theorem e146_56 {ls : mj_L} {st : List Value} {σ : mj_S} {τ : mj_T} : mj_E 146 56 ls (.ref 62 :: st) σ τ = mj_E 146 59 ls (.ref 80 :: st) σ τ := mj_nx i146_56 rfl
theorem i146_59 : mj_ins 146 59 = some (.iload 5, 61) := by decide +kernel
theorem e146_59 {ls : mj_L} {st : List Value} {σ : mj_S} {τ : mj_T} {a0 a1 a2 a3 a4 : Option Value} {v : Int32} : mj_E 146 59 (a0 :: a1 :: a2 :: a3 :: a4 :: some (.int v) :: ls) st σ τ = mj_E 146 61 (a0 :: a1 :: a2 :: a3 :: a4 :: some (.int v) :: ls) (.int v :: st) σ τ := mj_nx i146_59 rfl
theorem i146_61 : mj_ins 146 61 = some (.iaload, 62) := by decide +kernel
theorem e146_61 {ls : mj_L} {st : List Value} {σ : mj_S} {τ : mj_T} {x : Int32} {k : Nat} : mj_E 146 61 ls (.int x :: .ref k :: st) σ τ = if mj_ib (mj_li σ k) x = true then mj_E 146 62 ls (.int (σ k x.toNatClampNeg) :: st) σ τ else none := mj_ald i146_61
theorem i146_62 : mj_ins 146 62 = some (.if_icmp .ne 74, 65) := by decide +kernel
theorem e146_62 {ls : mj_L} {st : List Value} {σ : mj_S} {τ : mj_T} {x y : Int32} : mj_E 146 62 ls (.int y :: .int x :: st) σ τ = if x = y then mj_E 146 65 ls st σ τ else mj_E 146 74 ls st σ τ := (mj_ifi i146_62).trans (mj_cdF rfl)
theorem i146_65 : mj_ins 146 65 = some (.iinc 4 (1), 68) := by decide +kernel
theorem e146_65 {ls : mj_L} {st : List Value} {σ : mj_S} {τ : mj_T} {a0 a1 a2 a3 : Option Value} {v : Int32} : mj_E 146 65 (a0 :: a1 :: a2 :: a3 :: some (.int v) :: ls) st σ τ = mj_E 146 68 (a0 :: a1 :: a2 :: a3 :: some (.int (v + nI 1)) :: ls) st σ τ := mj_nx i146_65 rfl
theorem i146_68 : mj_ins 146 68 = some (.iinc 5 (1), 71) := by decide +kernel
theorem e146_68 {ls : mj_L} {st : List Value} {σ : mj_S} {τ : mj_T} {a0 a1 a2 a3 a4 : Option Value} {v : Int32} : mj_E 146 68 (a0 :: a1 :: a2 :: a3 :: a4 :: some (.int v) :: ls) st σ τ = mj_E 146 71 (a0 :: a1 :: a2 :: a3 :: a4 :: some (.int (v + nI 1)) :: ls) st σ τ := mj_nx i146_68 rfl
theorem i146_71 : mj_ins 146 71 = some (.goto 23, 74) := by decide +kernel
theorem e146_71 {ls : mj_L} {st : List Value} {σ : mj_S} {τ : mj_T} : mj_E 146 71 ls st σ τ = mj_E 146 23 ls st σ τ := mj_nx i146_71 rfl
theorem i146_74 : mj_ins 146 74 = some (.aload 0, 75) := by decide +kernel
theorem e146_74 {ls : mj_L} {st : List Value} {σ : mj_S} {τ : mj_T} {v : Nat} : mj_E 146 74 (some (.ref v) :: ls) st σ τ = mj_E 146 75 (some (.ref v) :: ls) (.ref v :: st) σ τ := mj_nx i146_74 rfl
theorem i146_75 : mj_ins 146 75 = some (.getfield 723, 78) := by decide +kernel
theorem e146_75 {ls : mj_L} {st : List Value} {σ : mj_S} {τ : mj_T} : mj_E 146 75 ls (.ref 62 :: st) σ τ = mj_E 146 78 ls (.ref 80 :: st) σ τ := mj_nx i146_75 rfl
theorem i146_78 : mj_ins 146 78 = some (.iload 5, 80) := by decide +kernel
theorem e146_78 {ls : mj_L} {st : List Value} {σ : mj_S} {τ : mj_T} {a0 a1 a2 a3 a4 : Option Value} {v : Int32} : mj_E 146 78 (a0 :: a1 :: a2 :: a3 :: a4 :: some (.int v) :: ls) st σ τ = mj_E 146 80 (a0 :: a1 :: a2 :: a3 :: a4 :: some (.int v) :: ls) (.int v :: st) σ τ := mj_nx i146_78 rfl
theorem i146_80 : mj_ins 146 80 = some (.iaload, 81) := by decide +kernel
theorem e146_80 {ls : mj_L} {st : List Value} {σ : mj_S} {τ : mj_T} {x : Int32} {k : Nat} : mj_E 146 80 ls (.int x :: .ref k :: st) σ τ = if mj_ib (mj_li σ k) x = true then mj_E 146 81 ls (.int (σ k x.toNatClampNeg) :: st) σ τ else none := mj_ald i146_80
theorem i146_81 : mj_ins 146 81 = some (.ifCond .ne 92, 84) := by decide +kernel
theorem e146_81 {ls : mj_L} {st : List Value} {σ : mj_S} {τ : mj_T} {x : Int32} : mj_E 146 81 ls (.int x :: st) σ τ = if x = 0 then mj_E 146 84 ls st σ τ else mj_E 146 92 ls st σ τ := (mj_ifc i146_81).trans (mj_cdF rfl)
theorem i146_84 : mj_ins 146 84 = some (.aload 0, 85) := by decide +kernel
theorem e146_84 {ls : mj_L} {st : List Value} {σ : mj_S} {τ : mj_T} {v : Nat} : mj_E 146 84 (some (.ref v) :: ls) st σ τ = mj_E 146 85 (some (.ref v) :: ls) (.ref v :: st) σ τ := mj_nx i146_84 rfl
theorem i146_85 : mj_ins 146 85 = some (.iload 4, 87) := by decide +kernel
theorem e146_85 {ls : mj_L} {st : List Value} {σ : mj_S} {τ : mj_T} {a0 a1 a2 a3 : Option Value} {v : Int32} : mj_E 146 85 (a0 :: a1 :: a2 :: a3 :: some (.int v) :: ls) st σ τ = mj_E 146 87 (a0 :: a1 :: a2 :: a3 :: some (.int v) :: ls) (.int v :: st) σ τ := mj_nx i146_85 rfl
theorem i146_87 : mj_ins 146 87 = some (.putfield 728, 90) := by decide +kernel
theorem e146_87 {ls : mj_L} {st : List Value} {σ : mj_S} {τ : mj_T} {v : Int32} : mj_E 146 87 ls (.int v :: .ref 62 :: st) σ τ = mj_E 146 90 ls st (mj_up σ 62 28 v) τ := mj_nx i146_87 rfl
theorem i146_90 : mj_ins 146 90 = some (.iload 3, 91) := by decide +kernel
theorem e146_90 {ls : mj_L} {st : List Value} {σ : mj_S} {τ : mj_T} {a0 a1 a2 : Option Value} {v : Int32} : mj_E 146 90 (a0 :: a1 :: a2 :: some (.int v) :: ls) st σ τ = mj_E 146 91 (a0 :: a1 :: a2 :: some (.int v) :: ls) (.int v :: st) σ τ := mj_nx i146_90 rfl
theorem i146_91 : mj_ins 146 91 = some (.ireturn, 92) := by decide +kernel
theorem e146_91 {ls : mj_L} {σ : mj_S} {τ : mj_T} {v : Int32} : mj_E 146 91 ls [.int v] σ τ = some (some (.int v), σ, τ) := mj_irt i146_91 rfl
theorem i146_92 : mj_ins 146 92 = some (.iload 4, 94) := by decide +kernel
theorem e146_92 {ls : mj_L} {st : List Value} {σ : mj_S} {τ : mj_T} {a0 a1 a2 a3 : Option Value} {v : Int32} : mj_E 146 92 (a0 :: a1 :: a2 :: a3 :: some (.int v) :: ls) st σ τ = mj_E 146 94 (a0 :: a1 :: a2 :: a3 :: some (.int v) :: ls) (.int v :: st) σ τ := mj_nx i146_92 rfl
theorem i146_94 : mj_ins 146 94 = some (.iload 2, 95) := by decide +kernel
theorem e146_94 {ls : mj_L} {st : List Value} {σ : mj_S} {τ : mj_T} {a0 a1 : Option Value} {v : Int32} : mj_E 146 94 (a0 :: a1 :: some (.int v) :: ls) st σ τ = mj_E 146 95 (a0 :: a1 :: some (.int v) :: ls) (.int v :: st) σ τ := mj_nx i146_94 rfl
theorem i146_95 : mj_ins 146 95 = some (.if_icmp .le 103, 98) := by decide +kernel
theorem e146_95 {ls : mj_L} {st : List Value} {σ : mj_S} {τ : mj_T} {x y : Int32} : mj_E 146 95 ls (.int y :: .int x :: st) σ τ = if x ≤ y then mj_E 146 103 ls st σ τ else mj_E 146 98 ls st σ τ := (mj_ifi i146_95).trans (mj_cdT rfl)
theorem i146_98 : mj_ins 146 98 = some (.iload 4, 100) := by decide +kernel
theorem e146_98 {ls : mj_L} {st : List Value} {σ : mj_S} {τ : mj_T} {a0 a1 a2 a3 : Option Value} {v : Int32} : mj_E 146 98 (a0 :: a1 :: a2 :: a3 :: some (.int v) :: ls) st σ τ = mj_E 146 100 (a0 :: a1 :: a2 :: a3 :: some (.int v) :: ls) (.int v :: st) σ τ := mj_nx i146_98 rfl
theorem i146_100 : mj_ins 146 100 = some (.goto 104, 103) := by decide +kernel
theorem e146_100 {ls : mj_L} {st : List Value} {σ : mj_S} {τ : mj_T} : mj_E 146 100 ls st σ τ = mj_E 146 104 ls st σ τ := mj_nx i146_100 rfl
theorem i146_103 : mj_ins 146 103 = some (.iload 2, 104) := by decide +kernel
theorem e146_103 {ls : mj_L} {st : List Value} {σ : mj_S} {τ : mj_T} {a0 a1 : Option Value} {v : Int32} : mj_E 146 103 (a0 :: a1 :: some (.int v) :: ls) st σ τ = mj_E 146 104 (a0 :: a1 :: some (.int v) :: ls) (.int v :: st) σ τ := mj_nx i146_103 rfl
theorem i146_104 : mj_ins 146 104 = some (.istore 2, 105) := by decide +kernel
theorem e146_104 {ls : mj_L} {st : List Value} {σ : mj_S} {τ : mj_T} {a0 a1 a2 : Option Value} {v : Int32} : mj_E 146 104 (a0 :: a1 :: a2 :: ls) (.int v :: st) σ τ = mj_E 146 105 (a0 :: a1 :: some (.int v) :: ls) st σ τ := mj_nx i146_104 rfl
theorem i146_105 : mj_ins 146 105 = some (.aload 0, 106) := by decide +kernel
theorem e146_105 {ls : mj_L} {st : List Value} {σ : mj_S} {τ : mj_T} {v : Nat} : mj_E 146 105 (some (.ref v) :: ls) st σ τ = mj_E 146 106 (some (.ref v) :: ls) (.ref v :: st) σ τ := mj_nx i146_105 rfl
theorem i146_106 : mj_ins 146 106 = some (.getfield 723, 109) := by decide +kernel
theorem e146_106 {ls : mj_L} {st : List Value} {σ : mj_S} {τ : mj_T} : mj_E 146 106 ls (.ref 62 :: st) σ τ = mj_E 146 109 ls (.ref 80 :: st) σ τ := mj_nx i146_106 rfl
theorem i146_109 : mj_ins 146 109 = some (.iload 1, 110) := by decide +kernel
theorem e146_109 {ls : mj_L} {st : List Value} {σ : mj_S} {τ : mj_T} {a0 : Option Value} {v : Int32} : mj_E 146 109 (a0 :: some (.int v) :: ls) st σ τ = mj_E 146 110 (a0 :: some (.int v) :: ls) (.int v :: st) σ τ := mj_nx i146_109 rfl
theorem i146_110 : mj_ins 146 110 = some (.iaload, 111) := by decide +kernel
theorem e146_110 {ls : mj_L} {st : List Value} {σ : mj_S} {τ : mj_T} {x : Int32} {k : Nat} : mj_E 146 110 ls (.int x :: .ref k :: st) σ τ = if mj_ib (mj_li σ k) x = true then mj_E 146 111 ls (.int (σ k x.toNatClampNeg) :: st) σ τ else none := mj_ald i146_110
theorem i146_111 : mj_ins 146 111 = some (.ifCond .eq 120, 114) := by decide +kernel
theorem e146_111 {ls : mj_L} {st : List Value} {σ : mj_S} {τ : mj_T} {x : Int32} : mj_E 146 111 ls (.int x :: st) σ τ = if x = 0 then mj_E 146 120 ls st σ τ else mj_E 146 114 ls st σ τ := (mj_ifc i146_111).trans (mj_cdT rfl)
theorem i146_114 : mj_ins 146 114 = some (.iinc 1 (1), 117) := by decide +kernel
theorem e146_114 {ls : mj_L} {st : List Value} {σ : mj_S} {τ : mj_T} {a0 : Option Value} {v : Int32} : mj_E 146 114 (a0 :: some (.int v) :: ls) st σ τ = mj_E 146 117 (a0 :: some (.int (v + nI 1)) :: ls) st σ τ := mj_nx i146_114 rfl
theorem i146_117 : mj_ins 146 117 = some (.goto 105, 120) := by decide +kernel
theorem e146_117 {ls : mj_L} {st : List Value} {σ : mj_S} {τ : mj_T} : mj_E 146 117 ls st σ τ = mj_E 146 105 ls st σ τ := mj_nx i146_117 rfl
theorem i146_120 : mj_ins 146 120 = some (.iinc 1 (1), 123) := by decide +kernel
theorem e146_120 {ls : mj_L} {st : List Value} {σ : mj_S} {τ : mj_T} {a0 : Option Value} {v : Int32} : mj_E 146 120 (a0 :: some (.int v) :: ls) st σ τ = mj_E 146 123 (a0 :: some (.int (v + nI 1)) :: ls) st σ τ := mj_nx i146_120 rfl
theorem i146_123 : mj_ins 146 123 = some (.iinc 3 (1), 126) := by decide +kernel
theorem e146_123 {ls : mj_L} {st : List Value} {σ : mj_S} {τ : mj_T} {a0 a1 a2 : Option Value} {v : Int32} : mj_E 146 123 (a0 :: a1 :: a2 :: some (.int v) :: ls) st σ τ = mj_E 146 126 (a0 :: a1 :: a2 :: some (.int (v + nI 1)) :: ls) st σ τ := mj_nx i146_123 rfl
theorem i146_126 : mj_ins 146 126 = some (.goto 9, 129) := by decide +kernel
theorem e146_126 {ls : mj_L} {st : List Value} {σ : mj_S} {τ : mj_T} : mj_E 146 126 ls st σ τ = mj_E 146 9 ls st σ τ := mj_nx i146_126 rfl
theorem i146_129 : mj_ins 146 129 = some (.aload 0, 130) := by decide +kernel
theorem e146_129 {ls : mj_L} {st : List Value} {σ : mj_S} {τ : mj_T} {v : Nat} : mj_E 146 129 (some (.ref v) :: ls) st σ τ = mj_E 146 130 (some (.ref v) :: ls) (.ref v :: st) σ τ := mj_nx i146_129 rfl
theorem i146_130 : mj_ins 146 130 = some (.iload 2, 131) := by decide +kernel
theorem e146_130 {ls : mj_L} {st : List Value} {σ : mj_S} {τ : mj_T} {a0 a1 : Option Value} {v : Int32} : mj_E 146 130 (a0 :: a1 :: some (.int v) :: ls) st σ τ = mj_E 146 131 (a0 :: a1 :: some (.int v) :: ls) (.int v :: st) σ τ := mj_nx i146_130 rfl
theorem i146_131 : mj_ins 146 131 = some (.putfield 731, 134) := by decide +kernel
theorem e146_131 {ls : mj_L} {st : List Value} {σ : mj_S} {τ : mj_T} {v : Int32} : mj_E 146 131 ls (.int v :: .ref 62 :: st) σ τ = mj_E 146 134 ls st (mj_up σ 62 31 v) τ := mj_nx i146_131 rfl
theorem i146_134 : mj_ins 146 134 = some (.iconst (-1), 135) := by decide +kernel
theorem e146_134 {ls : mj_L} {st : List Value} {σ : mj_S} {τ : mj_T} : mj_E 146 134 ls st σ τ = mj_E 146 135 ls (.int ((-1)) :: st) σ τ := mj_nx i146_134 rfl
theorem i146_135 : mj_ins 146 135 = some (.ireturn, 136) := by decide +kernel
theorem e146_135 {ls : mj_L} {σ : mj_S} {τ : mj_T} {v : Int32} : mj_E 146 135 ls [.int v] σ τ = some (some (.int v), σ, τ) := mj_irt i146_135 rfl
theorem c147 {σ : mj_S} {τ : mj_T} {r : Nat} : mj_C 147 [.ref r] σ τ = mj_E 147 0 [some (.ref r)] [] σ τ := rfl
theorem i147_0 : mj_ins 147 0 = some (.aload 0, 1) := by decide +kernel
theorem e147_0 {ls : mj_L} {st : List Value} {σ : mj_S} {τ : mj_T} {v : Nat} : mj_E 147 0 (some (.ref v) :: ls) st σ τ = mj_E 147 1 (some (.ref v) :: ls) (.ref v :: st) σ τ := mj_nx i147_0 rfl
theorem i147_1 : mj_ins 147 1 = some (.getfield 728, 4) := by decide +kernel
theorem e147_1 {ls : mj_L} {st : List Value} {σ : mj_S} {τ : mj_T} : mj_E 147 1 ls (.ref 62 :: st) σ τ = mj_E 147 4 ls (.int (σ 62 28) :: st) σ τ := mj_nx i147_1 rfl
theorem i147_4 : mj_ins 147 4 = some (.aload 0, 5) := by decide +kernel
theorem e147_4 {ls : mj_L} {st : List Value} {σ : mj_S} {τ : mj_T} {v : Nat} : mj_E 147 4 (some (.ref v) :: ls) st σ τ = mj_E 147 5 (some (.ref v) :: ls) (.ref v :: st) σ τ := mj_nx i147_4 rfl
theorem i147_5 : mj_ins 147 5 = some (.getfield 729, 8) := by decide +kernel
theorem e147_5 {ls : mj_L} {st : List Value} {σ : mj_S} {τ : mj_T} : mj_E 147 5 ls (.ref 62 :: st) σ τ = mj_E 147 8 ls (.int (σ 62 29) :: st) σ τ := mj_nx i147_5 rfl
theorem i147_8 : mj_ins 147 8 = some (.if_icmp .ge 55, 11) := by decide +kernel
theorem e147_8 {ls : mj_L} {st : List Value} {σ : mj_S} {τ : mj_T} {x y : Int32} : mj_E 147 8 ls (.int y :: .int x :: st) σ τ = if y ≤ x then mj_E 147 55 ls st σ τ else mj_E 147 11 ls st σ τ := (mj_ifi i147_8).trans (mj_cdT rfl)
theorem i147_11 : mj_ins 147 11 = some (.aload 0, 12) := by decide +kernel
theorem e147_11 {ls : mj_L} {st : List Value} {σ : mj_S} {τ : mj_T} {v : Nat} : mj_E 147 11 (some (.ref v) :: ls) st σ τ = mj_E 147 12 (some (.ref v) :: ls) (.ref v :: st) σ τ := mj_nx i147_11 rfl
theorem i147_12 : mj_ins 147 12 = some (.getfield 721, 15) := by decide +kernel
theorem e147_12 {ls : mj_L} {st : List Value} {σ : mj_S} {τ : mj_T} : mj_E 147 12 ls (.ref 62 :: st) σ τ = mj_E 147 15 ls (.ref 78 :: st) σ τ := mj_nx i147_12 rfl
theorem i147_15 : mj_ins 147 15 = some (.aload 0, 16) := by decide +kernel
theorem e147_15 {ls : mj_L} {st : List Value} {σ : mj_S} {τ : mj_T} {v : Nat} : mj_E 147 15 (some (.ref v) :: ls) st σ τ = mj_E 147 16 (some (.ref v) :: ls) (.ref v :: st) σ τ := mj_nx i147_15 rfl
theorem i147_16 : mj_ins 147 16 = some (.getfield 727, 19) := by decide +kernel
theorem e147_16 {ls : mj_L} {st : List Value} {σ : mj_S} {τ : mj_T} : mj_E 147 16 ls (.ref 62 :: st) σ τ = mj_E 147 19 ls (.int (σ 62 27) :: st) σ τ := mj_nx i147_16 rfl
theorem i147_19 : mj_ins 147 19 = some (.aload 0, 20) := by decide +kernel
theorem e147_19 {ls : mj_L} {st : List Value} {σ : mj_S} {τ : mj_T} {v : Nat} : mj_E 147 19 (some (.ref v) :: ls) st σ τ = mj_E 147 20 (some (.ref v) :: ls) (.ref v :: st) σ τ := mj_nx i147_19 rfl
theorem i147_20 : mj_ins 147 20 = some (.getfield 728, 23) := by decide +kernel
theorem e147_20 {ls : mj_L} {st : List Value} {σ : mj_S} {τ : mj_T} : mj_E 147 20 ls (.ref 62 :: st) σ τ = mj_E 147 23 ls (.int (σ 62 28) :: st) σ τ := mj_nx i147_20 rfl
theorem i147_23 : mj_ins 147 23 = some (.iadd, 24) := by decide +kernel
theorem e147_23 {ls : mj_L} {st : List Value} {σ : mj_S} {τ : mj_T} {x y : Int32} : mj_E 147 23 ls (.int y :: .int x :: st) σ τ = mj_E 147 24 ls (.int (x + y) :: st) σ τ := mj_nx i147_23 rfl
theorem i147_24 : mj_ins 147 24 = some (.laload, 25) := by decide +kernel
theorem e147_24 {ls : mj_L} {st : List Value} {σ : mj_S} {τ : mj_T} {x : Int32} {k : Nat} : mj_E 147 24 ls (.int x :: .ref k :: st) σ τ = if mj_ib (mj_ll k) x = true then mj_E 147 25 ls (.long (τ k x.toNatClampNeg) :: st) σ τ else none := mj_lald i147_24
theorem i147_25 : mj_ins 147 25 = some (.l2i, 26) := by decide +kernel
theorem e147_25 {ls : mj_L} {st : List Value} {σ : mj_S} {τ : mj_T} {x : Int64} : mj_E 147 25 ls (.long x :: st) σ τ = mj_E 147 26 ls (.int x.toInt32 :: st) σ τ := mj_nx i147_25 rfl
theorem i147_26 : mj_ins 147 26 = some (.iconst (48), 28) := by decide +kernel
theorem e147_26 {ls : mj_L} {st : List Value} {σ : mj_S} {τ : mj_T} : mj_E 147 26 ls st σ τ = mj_E 147 28 ls (.int (nI 48) :: st) σ τ := mj_nx i147_26 rfl
theorem i147_28 : mj_ins 147 28 = some (.if_icmp .lt 55, 31) := by decide +kernel
theorem e147_28 {ls : mj_L} {st : List Value} {σ : mj_S} {τ : mj_T} {x y : Int32} : mj_E 147 28 ls (.int y :: .int x :: st) σ τ = if x < y then mj_E 147 55 ls st σ τ else mj_E 147 31 ls st σ τ := (mj_ifi i147_28).trans (mj_cdT rfl)
theorem i147_31 : mj_ins 147 31 = some (.aload 0, 32) := by decide +kernel
theorem e147_31 {ls : mj_L} {st : List Value} {σ : mj_S} {τ : mj_T} {v : Nat} : mj_E 147 31 (some (.ref v) :: ls) st σ τ = mj_E 147 32 (some (.ref v) :: ls) (.ref v :: st) σ τ := mj_nx i147_31 rfl
theorem i147_32 : mj_ins 147 32 = some (.getfield 721, 35) := by decide +kernel
theorem e147_32 {ls : mj_L} {st : List Value} {σ : mj_S} {τ : mj_T} : mj_E 147 32 ls (.ref 62 :: st) σ τ = mj_E 147 35 ls (.ref 78 :: st) σ τ := mj_nx i147_32 rfl
theorem i147_35 : mj_ins 147 35 = some (.aload 0, 36) := by decide +kernel
theorem e147_35 {ls : mj_L} {st : List Value} {σ : mj_S} {τ : mj_T} {v : Nat} : mj_E 147 35 (some (.ref v) :: ls) st σ τ = mj_E 147 36 (some (.ref v) :: ls) (.ref v :: st) σ τ := mj_nx i147_35 rfl
theorem i147_36 : mj_ins 147 36 = some (.getfield 727, 39) := by decide +kernel
theorem e147_36 {ls : mj_L} {st : List Value} {σ : mj_S} {τ : mj_T} : mj_E 147 36 ls (.ref 62 :: st) σ τ = mj_E 147 39 ls (.int (σ 62 27) :: st) σ τ := mj_nx i147_36 rfl
theorem i147_39 : mj_ins 147 39 = some (.aload 0, 40) := by decide +kernel
theorem e147_39 {ls : mj_L} {st : List Value} {σ : mj_S} {τ : mj_T} {v : Nat} : mj_E 147 39 (some (.ref v) :: ls) st σ τ = mj_E 147 40 (some (.ref v) :: ls) (.ref v :: st) σ τ := mj_nx i147_39 rfl
theorem i147_40 : mj_ins 147 40 = some (.getfield 728, 43) := by decide +kernel
theorem e147_40 {ls : mj_L} {st : List Value} {σ : mj_S} {τ : mj_T} : mj_E 147 40 ls (.ref 62 :: st) σ τ = mj_E 147 43 ls (.int (σ 62 28) :: st) σ τ := mj_nx i147_40 rfl
theorem i147_43 : mj_ins 147 43 = some (.iadd, 44) := by decide +kernel
theorem e147_43 {ls : mj_L} {st : List Value} {σ : mj_S} {τ : mj_T} {x y : Int32} : mj_E 147 43 ls (.int y :: .int x :: st) σ τ = mj_E 147 44 ls (.int (x + y) :: st) σ τ := mj_nx i147_43 rfl
theorem i147_44 : mj_ins 147 44 = some (.laload, 45) := by decide +kernel
theorem e147_44 {ls : mj_L} {st : List Value} {σ : mj_S} {τ : mj_T} {x : Int32} {k : Nat} : mj_E 147 44 ls (.int x :: .ref k :: st) σ τ = if mj_ib (mj_ll k) x = true then mj_E 147 45 ls (.long (τ k x.toNatClampNeg) :: st) σ τ else none := mj_lald i147_44
theorem i147_45 : mj_ins 147 45 = some (.l2i, 46) := by decide +kernel
theorem e147_45 {ls : mj_L} {st : List Value} {σ : mj_S} {τ : mj_T} {x : Int64} : mj_E 147 45 ls (.long x :: st) σ τ = mj_E 147 46 ls (.int x.toInt32 :: st) σ τ := mj_nx i147_45 rfl
theorem i147_46 : mj_ins 147 46 = some (.iconst (57), 48) := by decide +kernel
theorem e147_46 {ls : mj_L} {st : List Value} {σ : mj_S} {τ : mj_T} : mj_E 147 46 ls st σ τ = mj_E 147 48 ls (.int (nI 57) :: st) σ τ := mj_nx i147_46 rfl
theorem i147_48 : mj_ins 147 48 = some (.if_icmp .gt 55, 51) := by decide +kernel
theorem e147_48 {ls : mj_L} {st : List Value} {σ : mj_S} {τ : mj_T} {x y : Int32} : mj_E 147 48 ls (.int y :: .int x :: st) σ τ = if y < x then mj_E 147 55 ls st σ τ else mj_E 147 51 ls st σ τ := (mj_ifi i147_48).trans (mj_cdT rfl)
theorem i147_51 : mj_ins 147 51 = some (.iconst (1), 52) := by decide +kernel
theorem e147_51 {ls : mj_L} {st : List Value} {σ : mj_S} {τ : mj_T} : mj_E 147 51 ls st σ τ = mj_E 147 52 ls (.int (nI 1) :: st) σ τ := mj_nx i147_51 rfl
theorem i147_52 : mj_ins 147 52 = some (.goto 56, 55) := by decide +kernel
theorem e147_52 {ls : mj_L} {st : List Value} {σ : mj_S} {τ : mj_T} : mj_E 147 52 ls st σ τ = mj_E 147 56 ls st σ τ := mj_nx i147_52 rfl
theorem i147_55 : mj_ins 147 55 = some (.iconst (0), 56) := by decide +kernel
theorem e147_55 {ls : mj_L} {st : List Value} {σ : mj_S} {τ : mj_T} : mj_E 147 55 ls st σ τ = mj_E 147 56 ls (.int (nI 0) :: st) σ τ := mj_nx i147_55 rfl
theorem i147_56 : mj_ins 147 56 = some (.ireturn, 57) := by decide +kernel
theorem e147_56 {ls : mj_L} {σ : mj_S} {τ : mj_T} {v : Int32} : mj_E 147 56 ls [.int v] σ τ = if mj_ok (some .boolean) v = true then some (some (.int v), σ, τ) else none := mj_zrt i147_56 rfl
theorem c148 {σ : mj_S} {τ : mj_T} {r : Nat} : mj_C 148 [.ref r] σ τ = mj_E 148 0 [some (.ref r), none] [] σ τ := rfl
theorem i148_0 : mj_ins 148 0 = some (.aload 0, 1) := by decide +kernel
theorem e148_0 {ls : mj_L} {st : List Value} {σ : mj_S} {τ : mj_T} {v : Nat} : mj_E 148 0 (some (.ref v) :: ls) st σ τ = mj_E 148 1 (some (.ref v) :: ls) (.ref v :: st) σ τ := mj_nx i148_0 rfl
theorem i148_1 : mj_ins 148 1 = some (.iconst (0), 2) := by decide +kernel
theorem e148_1 {ls : mj_L} {st : List Value} {σ : mj_S} {τ : mj_T} : mj_E 148 1 ls st σ τ = mj_E 148 2 ls (.int (nI 0) :: st) σ τ := mj_nx i148_1 rfl
theorem i148_2 : mj_ins 148 2 = some (.putfield 730, 5) := by decide +kernel
theorem e148_2 {ls : mj_L} {st : List Value} {σ : mj_S} {τ : mj_T} {v : Int32} : mj_E 148 2 ls (.int v :: .ref 62 :: st) σ τ = mj_E 148 5 ls st (mj_up σ 62 30 v) τ := mj_nx i148_2 rfl
theorem i148_5 : mj_ins 148 5 = some (.aload 0, 6) := by decide +kernel
theorem e148_5 {ls : mj_L} {st : List Value} {σ : mj_S} {τ : mj_T} {v : Nat} : mj_E 148 5 (some (.ref v) :: ls) st σ τ = mj_E 148 6 (some (.ref v) :: ls) (.ref v :: st) σ τ := mj_nx i148_5 rfl
theorem i148_6 : mj_ins 148 6 = some (.invokevirtual 147, 9) := by decide +kernel
theorem e148_6 {ls : mj_L} {σ : mj_S} {τ : mj_T} {r : Nat} : mj_E 148 6 ls [.ref r] σ τ = if mj_rcv r 7 = true then mj_bd (mj_C 147 [.ref r] σ τ) (mj_K 148 9 ls []) else none := mj_clV (as := []) (r := []) i148_6 (by decide +kernel : mj_vk 148 147 0 0 1 false = true) (by decide +kernel)
theorem i148_9 : mj_ins 148 9 = some (.ifCond .ne 21, 12) := by decide +kernel
theorem e148_9 {ls : mj_L} {st : List Value} {σ : mj_S} {τ : mj_T} {x : Int32} : mj_E 148 9 ls (.int x :: st) σ τ = if x = 0 then mj_E 148 12 ls st σ τ else mj_E 148 21 ls st σ τ := (mj_ifc i148_9).trans (mj_cdF rfl)
theorem i148_12 : mj_ins 148 12 = some (.aload 0, 13) := by decide +kernel
theorem e148_12 {ls : mj_L} {st : List Value} {σ : mj_S} {τ : mj_T} {v : Nat} : mj_E 148 12 (some (.ref v) :: ls) st σ τ = mj_E 148 13 (some (.ref v) :: ls) (.ref v :: st) σ τ := mj_nx i148_12 rfl
theorem i148_13 : mj_ins 148 13 = some (.aload 0, 14) := by decide +kernel
theorem e148_13 {ls : mj_L} {st : List Value} {σ : mj_S} {τ : mj_T} {v : Nat} : mj_E 148 13 (some (.ref v) :: ls) st σ τ = mj_E 148 14 (some (.ref v) :: ls) (.ref v :: st) σ τ := mj_nx i148_13 rfl
theorem i148_14 : mj_ins 148 14 = some (.getfield 728, 17) := by decide +kernel
theorem e148_14 {ls : mj_L} {st : List Value} {σ : mj_S} {τ : mj_T} : mj_E 148 14 ls (.ref 62 :: st) σ τ = mj_E 148 17 ls (.int (σ 62 28) :: st) σ τ := mj_nx i148_14 rfl
theorem i148_17 : mj_ins 148 17 = some (.invokevirtual 144, 20) := by decide +kernel
theorem e148_17 {ls : mj_L} {σ : mj_S} {τ : mj_T} {r : Nat} {x0 : Int32} : mj_E 148 17 ls [.int x0, .ref r] σ τ = if mj_rcv r 7 = true then mj_bd (mj_C 144 [.ref r, .int x0] σ τ) (mj_K 148 20 ls []) else none := mj_clV (as := [.int x0]) (r := []) i148_17 (by decide +kernel : mj_vk 148 144 1 0 2 false = true) (by decide +kernel)
theorem i148_20 : mj_ins 148 20 = some (.ireturn, 21) := by decide +kernel
theorem e148_20 {ls : mj_L} {σ : mj_S} {τ : mj_T} {v : Int32} : mj_E 148 20 ls [.int v] σ τ = if mj_ok (some .boolean) v = true then some (some (.int v), σ, τ) else none := mj_zrt i148_20 rfl
theorem i148_21 : mj_ins 148 21 = some (.iconst (0), 22) := by decide +kernel
theorem e148_21 {ls : mj_L} {st : List Value} {σ : mj_S} {τ : mj_T} : mj_E 148 21 ls st σ τ = mj_E 148 22 ls (.int (nI 0) :: st) σ τ := mj_nx i148_21 rfl
theorem i148_22 : mj_ins 148 22 = some (.istore 1, 23) := by decide +kernel
theorem e148_22 {ls : mj_L} {st : List Value} {σ : mj_S} {τ : mj_T} {a0 a1 : Option Value} {v : Int32} : mj_E 148 22 (a0 :: a1 :: ls) (.int v :: st) σ τ = mj_E 148 23 (a0 :: some (.int v) :: ls) st σ τ := mj_nx i148_22 rfl
theorem i148_23 : mj_ins 148 23 = some (.iload 1, 24) := by decide +kernel
theorem e148_23 {ls : mj_L} {st : List Value} {σ : mj_S} {τ : mj_T} {a0 : Option Value} {v : Int32} : mj_E 148 23 (a0 :: some (.int v) :: ls) st σ τ = mj_E 148 24 (a0 :: some (.int v) :: ls) (.int v :: st) σ τ := mj_nx i148_23 rfl
theorem i148_24 : mj_ins 148 24 = some (.iconst (2), 25) := by decide +kernel
theorem e148_24 {ls : mj_L} {st : List Value} {σ : mj_S} {τ : mj_T} : mj_E 148 24 ls st σ τ = mj_E 148 25 ls (.int (nI 2) :: st) σ τ := mj_nx i148_24 rfl
theorem i148_25 : mj_ins 148 25 = some (.if_icmp .ge 81, 28) := by decide +kernel
theorem e148_25 {ls : mj_L} {st : List Value} {σ : mj_S} {τ : mj_T} {x y : Int32} : mj_E 148 25 ls (.int y :: .int x :: st) σ τ = if y ≤ x then mj_E 148 81 ls st σ τ else mj_E 148 28 ls st σ τ := (mj_ifi i148_25).trans (mj_cdT rfl)
theorem i148_28 : mj_ins 148 28 = some (.aload 0, 29) := by decide +kernel
theorem e148_28 {ls : mj_L} {st : List Value} {σ : mj_S} {τ : mj_T} {v : Nat} : mj_E 148 28 (some (.ref v) :: ls) st σ τ = mj_E 148 29 (some (.ref v) :: ls) (.ref v :: st) σ τ := mj_nx i148_28 rfl
theorem i148_29 : mj_ins 148 29 = some (.invokevirtual 147, 32) := by decide +kernel
theorem e148_29 {ls : mj_L} {σ : mj_S} {τ : mj_T} {r : Nat} : mj_E 148 29 ls [.ref r] σ τ = if mj_rcv r 7 = true then mj_bd (mj_C 147 [.ref r] σ τ) (mj_K 148 32 ls []) else none := mj_clV (as := []) (r := []) i148_29 (by decide +kernel : mj_vk 148 147 0 0 1 false = true) (by decide +kernel)
theorem i148_32 : mj_ins 148 32 = some (.ifCond .eq 81, 35) := by decide +kernel
theorem e148_32 {ls : mj_L} {st : List Value} {σ : mj_S} {τ : mj_T} {x : Int32} : mj_E 148 32 ls (.int x :: st) σ τ = if x = 0 then mj_E 148 81 ls st σ τ else mj_E 148 35 ls st σ τ := (mj_ifc i148_32).trans (mj_cdT rfl)
theorem i148_35 : mj_ins 148 35 = some (.aload 0, 36) := by decide +kernel
theorem e148_35 {ls : mj_L} {st : List Value} {σ : mj_S} {τ : mj_T} {v : Nat} : mj_E 148 35 (some (.ref v) :: ls) st σ τ = mj_E 148 36 (some (.ref v) :: ls) (.ref v :: st) σ τ := mj_nx i148_35 rfl
theorem i148_36 : mj_ins 148 36 = some (.iconst (10), 38) := by decide +kernel
theorem e148_36 {ls : mj_L} {st : List Value} {σ : mj_S} {τ : mj_T} : mj_E 148 36 ls st σ τ = mj_E 148 38 ls (.int (nI 10) :: st) σ τ := mj_nx i148_36 rfl
theorem i148_38 : mj_ins 148 38 = some (.aload 0, 39) := by decide +kernel
theorem e148_38 {ls : mj_L} {st : List Value} {σ : mj_S} {τ : mj_T} {v : Nat} : mj_E 148 38 (some (.ref v) :: ls) st σ τ = mj_E 148 39 (some (.ref v) :: ls) (.ref v :: st) σ τ := mj_nx i148_38 rfl
theorem i148_39 : mj_ins 148 39 = some (.getfield 730, 42) := by decide +kernel
theorem e148_39 {ls : mj_L} {st : List Value} {σ : mj_S} {τ : mj_T} : mj_E 148 39 ls (.ref 62 :: st) σ τ = mj_E 148 42 ls (.int (σ 62 30) :: st) σ τ := mj_nx i148_39 rfl
theorem i148_42 : mj_ins 148 42 = some (.imul, 43) := by decide +kernel
theorem e148_42 {ls : mj_L} {st : List Value} {σ : mj_S} {τ : mj_T} {x y : Int32} : mj_E 148 42 ls (.int y :: .int x :: st) σ τ = mj_E 148 43 ls (.int (x * y) :: st) σ τ := mj_nx i148_42 rfl
theorem i148_43 : mj_ins 148 43 = some (.aload 0, 44) := by decide +kernel
theorem e148_43 {ls : mj_L} {st : List Value} {σ : mj_S} {τ : mj_T} {v : Nat} : mj_E 148 43 (some (.ref v) :: ls) st σ τ = mj_E 148 44 (some (.ref v) :: ls) (.ref v :: st) σ τ := mj_nx i148_43 rfl
theorem i148_44 : mj_ins 148 44 = some (.getfield 721, 47) := by decide +kernel
theorem e148_44 {ls : mj_L} {st : List Value} {σ : mj_S} {τ : mj_T} : mj_E 148 44 ls (.ref 62 :: st) σ τ = mj_E 148 47 ls (.ref 78 :: st) σ τ := mj_nx i148_44 rfl
theorem i148_47 : mj_ins 148 47 = some (.aload 0, 48) := by decide +kernel
theorem e148_47 {ls : mj_L} {st : List Value} {σ : mj_S} {τ : mj_T} {v : Nat} : mj_E 148 47 (some (.ref v) :: ls) st σ τ = mj_E 148 48 (some (.ref v) :: ls) (.ref v :: st) σ τ := mj_nx i148_47 rfl
theorem i148_48 : mj_ins 148 48 = some (.getfield 727, 51) := by decide +kernel
theorem e148_48 {ls : mj_L} {st : List Value} {σ : mj_S} {τ : mj_T} : mj_E 148 48 ls (.ref 62 :: st) σ τ = mj_E 148 51 ls (.int (σ 62 27) :: st) σ τ := mj_nx i148_48 rfl
theorem i148_51 : mj_ins 148 51 = some (.aload 0, 52) := by decide +kernel
theorem e148_51 {ls : mj_L} {st : List Value} {σ : mj_S} {τ : mj_T} {v : Nat} : mj_E 148 51 (some (.ref v) :: ls) st σ τ = mj_E 148 52 (some (.ref v) :: ls) (.ref v :: st) σ τ := mj_nx i148_51 rfl
theorem i148_52 : mj_ins 148 52 = some (.getfield 728, 55) := by decide +kernel
theorem e148_52 {ls : mj_L} {st : List Value} {σ : mj_S} {τ : mj_T} : mj_E 148 52 ls (.ref 62 :: st) σ τ = mj_E 148 55 ls (.int (σ 62 28) :: st) σ τ := mj_nx i148_52 rfl
theorem i148_55 : mj_ins 148 55 = some (.iadd, 56) := by decide +kernel
theorem e148_55 {ls : mj_L} {st : List Value} {σ : mj_S} {τ : mj_T} {x y : Int32} : mj_E 148 55 ls (.int y :: .int x :: st) σ τ = mj_E 148 56 ls (.int (x + y) :: st) σ τ := mj_nx i148_55 rfl
theorem i148_56 : mj_ins 148 56 = some (.laload, 57) := by decide +kernel
theorem e148_56 {ls : mj_L} {st : List Value} {σ : mj_S} {τ : mj_T} {x : Int32} {k : Nat} : mj_E 148 56 ls (.int x :: .ref k :: st) σ τ = if mj_ib (mj_ll k) x = true then mj_E 148 57 ls (.long (τ k x.toNatClampNeg) :: st) σ τ else none := mj_lald i148_56
theorem i148_57 : mj_ins 148 57 = some (.l2i, 58) := by decide +kernel
theorem e148_57 {ls : mj_L} {st : List Value} {σ : mj_S} {τ : mj_T} {x : Int64} : mj_E 148 57 ls (.long x :: st) σ τ = mj_E 148 58 ls (.int x.toInt32 :: st) σ τ := mj_nx i148_57 rfl
theorem i148_58 : mj_ins 148 58 = some (.iadd, 59) := by decide +kernel
theorem e148_58 {ls : mj_L} {st : List Value} {σ : mj_S} {τ : mj_T} {x y : Int32} : mj_E 148 58 ls (.int y :: .int x :: st) σ τ = mj_E 148 59 ls (.int (x + y) :: st) σ τ := mj_nx i148_58 rfl
theorem i148_59 : mj_ins 148 59 = some (.iconst (48), 61) := by decide +kernel
theorem e148_59 {ls : mj_L} {st : List Value} {σ : mj_S} {τ : mj_T} : mj_E 148 59 ls st σ τ = mj_E 148 61 ls (.int (nI 48) :: st) σ τ := mj_nx i148_59 rfl
theorem i148_61 : mj_ins 148 61 = some (.isub, 62) := by decide +kernel
theorem e148_61 {ls : mj_L} {st : List Value} {σ : mj_S} {τ : mj_T} {x y : Int32} : mj_E 148 61 ls (.int y :: .int x :: st) σ τ = mj_E 148 62 ls (.int (x - y) :: st) σ τ := mj_nx i148_61 rfl
theorem i148_62 : mj_ins 148 62 = some (.putfield 730, 65) := by decide +kernel
theorem e148_62 {ls : mj_L} {st : List Value} {σ : mj_S} {τ : mj_T} {v : Int32} : mj_E 148 62 ls (.int v :: .ref 62 :: st) σ τ = mj_E 148 65 ls st (mj_up σ 62 30 v) τ := mj_nx i148_62 rfl
theorem i148_65 : mj_ins 148 65 = some (.aload 0, 66) := by decide +kernel
theorem e148_65 {ls : mj_L} {st : List Value} {σ : mj_S} {τ : mj_T} {v : Nat} : mj_E 148 65 (some (.ref v) :: ls) st σ τ = mj_E 148 66 (some (.ref v) :: ls) (.ref v :: st) σ τ := mj_nx i148_65 rfl
theorem i148_66 : mj_ins 148 66 = some (.dup, 67) := by decide +kernel
theorem e148_66 {ls : mj_L} {st : List Value} {σ : mj_S} {τ : mj_T} {v : Nat} : mj_E 148 66 ls (.ref v :: st) σ τ = mj_E 148 67 ls (.ref v :: .ref v :: st) σ τ := mj_nx i148_66 rfl
theorem i148_67 : mj_ins 148 67 = some (.getfield 728, 70) := by decide +kernel
theorem e148_67 {ls : mj_L} {st : List Value} {σ : mj_S} {τ : mj_T} : mj_E 148 67 ls (.ref 62 :: st) σ τ = mj_E 148 70 ls (.int (σ 62 28) :: st) σ τ := mj_nx i148_67 rfl
theorem i148_70 : mj_ins 148 70 = some (.iconst (1), 71) := by decide +kernel
theorem e148_70 {ls : mj_L} {st : List Value} {σ : mj_S} {τ : mj_T} : mj_E 148 70 ls st σ τ = mj_E 148 71 ls (.int (nI 1) :: st) σ τ := mj_nx i148_70 rfl
theorem i148_71 : mj_ins 148 71 = some (.iadd, 72) := by decide +kernel
theorem e148_71 {ls : mj_L} {st : List Value} {σ : mj_S} {τ : mj_T} {x y : Int32} : mj_E 148 71 ls (.int y :: .int x :: st) σ τ = mj_E 148 72 ls (.int (x + y) :: st) σ τ := mj_nx i148_71 rfl
theorem i148_72 : mj_ins 148 72 = some (.putfield 728, 75) := by decide +kernel
theorem e148_72 {ls : mj_L} {st : List Value} {σ : mj_S} {τ : mj_T} {v : Int32} : mj_E 148 72 ls (.int v :: .ref 62 :: st) σ τ = mj_E 148 75 ls st (mj_up σ 62 28 v) τ := mj_nx i148_72 rfl
theorem i148_75 : mj_ins 148 75 = some (.iinc 1 (1), 78) := by decide +kernel
theorem e148_75 {ls : mj_L} {st : List Value} {σ : mj_S} {τ : mj_T} {a0 : Option Value} {v : Int32} : mj_E 148 75 (a0 :: some (.int v) :: ls) st σ τ = mj_E 148 78 (a0 :: some (.int (v + nI 1)) :: ls) st σ τ := mj_nx i148_75 rfl
theorem i148_78 : mj_ins 148 78 = some (.goto 23, 81) := by decide +kernel
theorem e148_78 {ls : mj_L} {st : List Value} {σ : mj_S} {τ : mj_T} : mj_E 148 78 ls st σ τ = mj_E 148 23 ls st σ τ := mj_nx i148_78 rfl
theorem i148_81 : mj_ins 148 81 = some (.iconst (1), 82) := by decide +kernel
theorem e148_81 {ls : mj_L} {st : List Value} {σ : mj_S} {τ : mj_T} : mj_E 148 81 ls st σ τ = mj_E 148 82 ls (.int (nI 1) :: st) σ τ := mj_nx i148_81 rfl
theorem i148_82 : mj_ins 148 82 = some (.ireturn, 83) := by decide +kernel
theorem e148_82 {ls : mj_L} {σ : mj_S} {τ : mj_T} {v : Int32} : mj_E 148 82 ls [.int v] σ τ = if mj_ok (some .boolean) v = true then some (some (.int v), σ, τ) else none := mj_zrt i148_82 rfl
theorem c149 {σ : mj_S} {τ : mj_T} {r : Nat} {x0 : Int32} {x1 : Int32} : mj_C 149 [.ref r, .int x0, .int x1] σ τ = mj_E 149 0 [some (.ref r), some (.int x0), some (.int x1)] [] σ τ := rfl
theorem i149_0 : mj_ins 149 0 = some (.iload 1, 1) := by decide +kernel
theorem e149_0 {ls : mj_L} {st : List Value} {σ : mj_S} {τ : mj_T} {a0 : Option Value} {v : Int32} : mj_E 149 0 (a0 :: some (.int v) :: ls) st σ τ = mj_E 149 1 (a0 :: some (.int v) :: ls) (.int v :: st) σ τ := mj_nx i149_0 rfl
theorem i149_1 : mj_ins 149 1 = some (.ifCond .ne 23, 4) := by decide +kernel
theorem e149_1 {ls : mj_L} {st : List Value} {σ : mj_S} {τ : mj_T} {x : Int32} : mj_E 149 1 ls (.int x :: st) σ τ = if x = 0 then mj_E 149 4 ls st σ τ else mj_E 149 23 ls st σ τ := (mj_ifc i149_1).trans (mj_cdF rfl)
theorem i149_4 : mj_ins 149 4 = some (.aload 0, 5) := by decide +kernel
theorem e149_4 {ls : mj_L} {st : List Value} {σ : mj_S} {τ : mj_T} {v : Nat} : mj_E 149 4 (some (.ref v) :: ls) st σ τ = mj_E 149 5 (some (.ref v) :: ls) (.ref v :: st) σ τ := mj_nx i149_4 rfl
theorem i149_5 : mj_ins 149 5 = some (.getfield 730, 8) := by decide +kernel
theorem e149_5 {ls : mj_L} {st : List Value} {σ : mj_S} {τ : mj_T} : mj_E 149 5 ls (.ref 62 :: st) σ τ = mj_E 149 8 ls (.int (σ 62 30) :: st) σ τ := mj_nx i149_5 rfl
theorem i149_8 : mj_ins 149 8 = some (.aload 0, 9) := by decide +kernel
theorem e149_8 {ls : mj_L} {st : List Value} {σ : mj_S} {τ : mj_T} {v : Nat} : mj_E 149 8 (some (.ref v) :: ls) st σ τ = mj_E 149 9 (some (.ref v) :: ls) (.ref v :: st) σ τ := mj_nx i149_8 rfl
theorem i149_9 : mj_ins 149 9 = some (.getfield 725, 12) := by decide +kernel
theorem e149_9 {ls : mj_L} {st : List Value} {σ : mj_S} {τ : mj_T} : mj_E 149 9 ls (.ref 62 :: st) σ τ = mj_E 149 12 ls (.ref 82 :: st) σ τ := mj_nx i149_9 rfl
theorem i149_12 : mj_ins 149 12 = some (.iload 2, 13) := by decide +kernel
theorem e149_12 {ls : mj_L} {st : List Value} {σ : mj_S} {τ : mj_T} {a0 a1 : Option Value} {v : Int32} : mj_E 149 12 (a0 :: a1 :: some (.int v) :: ls) st σ τ = mj_E 149 13 (a0 :: a1 :: some (.int v) :: ls) (.int v :: st) σ τ := mj_nx i149_12 rfl
theorem i149_13 : mj_ins 149 13 = some (.iaload, 14) := by decide +kernel
theorem e149_13 {ls : mj_L} {st : List Value} {σ : mj_S} {τ : mj_T} {x : Int32} {k : Nat} : mj_E 149 13 ls (.int x :: .ref k :: st) σ τ = if mj_ib (mj_li σ k) x = true then mj_E 149 14 ls (.int (σ k x.toNatClampNeg) :: st) σ τ else none := mj_ald i149_13
theorem i149_14 : mj_ins 149 14 = some (.if_icmp .gt 21, 17) := by decide +kernel
theorem e149_14 {ls : mj_L} {st : List Value} {σ : mj_S} {τ : mj_T} {x y : Int32} : mj_E 149 14 ls (.int y :: .int x :: st) σ τ = if y < x then mj_E 149 21 ls st σ τ else mj_E 149 17 ls st σ τ := (mj_ifi i149_14).trans (mj_cdT rfl)
theorem i149_17 : mj_ins 149 17 = some (.iconst (1), 18) := by decide +kernel
theorem e149_17 {ls : mj_L} {st : List Value} {σ : mj_S} {τ : mj_T} : mj_E 149 17 ls st σ τ = mj_E 149 18 ls (.int (nI 1) :: st) σ τ := mj_nx i149_17 rfl
theorem i149_18 : mj_ins 149 18 = some (.goto 22, 21) := by decide +kernel
theorem e149_18 {ls : mj_L} {st : List Value} {σ : mj_S} {τ : mj_T} : mj_E 149 18 ls st σ τ = mj_E 149 22 ls st σ τ := mj_nx i149_18 rfl
theorem i149_21 : mj_ins 149 21 = some (.iconst (0), 22) := by decide +kernel
theorem e149_21 {ls : mj_L} {st : List Value} {σ : mj_S} {τ : mj_T} : mj_E 149 21 ls st σ τ = mj_E 149 22 ls (.int (nI 0) :: st) σ τ := mj_nx i149_21 rfl
theorem i149_22 : mj_ins 149 22 = some (.ireturn, 23) := by decide +kernel
theorem e149_22 {ls : mj_L} {σ : mj_S} {τ : mj_T} {v : Int32} : mj_E 149 22 ls [.int v] σ τ = if mj_ok (some .boolean) v = true then some (some (.int v), σ, τ) else none := mj_zrt i149_22 rfl
theorem i149_23 : mj_ins 149 23 = some (.iload 1, 24) := by decide +kernel
theorem e149_23 {ls : mj_L} {st : List Value} {σ : mj_S} {τ : mj_T} {a0 : Option Value} {v : Int32} : mj_E 149 23 (a0 :: some (.int v) :: ls) st σ τ = mj_E 149 24 (a0 :: some (.int v) :: ls) (.int v :: st) σ τ := mj_nx i149_23 rfl
theorem i149_24 : mj_ins 149 24 = some (.iconst (1), 25) := by decide +kernel
theorem e149_24 {ls : mj_L} {st : List Value} {σ : mj_S} {τ : mj_T} : mj_E 149 24 ls st σ τ = mj_E 149 25 ls (.int (nI 1) :: st) σ τ := mj_nx i149_24 rfl
theorem i149_25 : mj_ins 149 25 = some (.if_icmp .ne 48, 28) := by decide +kernel
theorem e149_25 {ls : mj_L} {st : List Value} {σ : mj_S} {τ : mj_T} {x y : Int32} : mj_E 149 25 ls (.int y :: .int x :: st) σ τ = if x = y then mj_E 149 28 ls st σ τ else mj_E 149 48 ls st σ τ := (mj_ifi i149_25).trans (mj_cdF rfl)
theorem i149_28 : mj_ins 149 28 = some (.iload 2, 29) := by decide +kernel
theorem e149_28 {ls : mj_L} {st : List Value} {σ : mj_S} {τ : mj_T} {a0 a1 : Option Value} {v : Int32} : mj_E 149 28 (a0 :: a1 :: some (.int v) :: ls) st σ τ = mj_E 149 29 (a0 :: a1 :: some (.int v) :: ls) (.int v :: st) σ τ := mj_nx i149_28 rfl
theorem i149_29 : mj_ins 149 29 = some (.iconst (2), 30) := by decide +kernel
theorem e149_29 {ls : mj_L} {st : List Value} {σ : mj_S} {τ : mj_T} : mj_E 149 29 ls st σ τ = mj_E 149 30 ls (.int (nI 2) :: st) σ τ := mj_nx i149_29 rfl
theorem i149_30 : mj_ins 149 30 = some (.if_icmp .ge 48, 33) := by decide +kernel
theorem e149_30 {ls : mj_L} {st : List Value} {σ : mj_S} {τ : mj_T} {x y : Int32} : mj_E 149 30 ls (.int y :: .int x :: st) σ τ = if y ≤ x then mj_E 149 48 ls st σ τ else mj_E 149 33 ls st σ τ := (mj_ifi i149_30).trans (mj_cdT rfl)
theorem i149_33 : mj_ins 149 33 = some (.aload 0, 34) := by decide +kernel
theorem e149_33 {ls : mj_L} {st : List Value} {σ : mj_S} {τ : mj_T} {v : Nat} : mj_E 149 33 (some (.ref v) :: ls) st σ τ = mj_E 149 34 (some (.ref v) :: ls) (.ref v :: st) σ τ := mj_nx i149_33 rfl
theorem i149_34 : mj_ins 149 34 = some (.getfield 730, 37) := by decide +kernel
theorem e149_34 {ls : mj_L} {st : List Value} {σ : mj_S} {τ : mj_T} : mj_E 149 34 ls (.ref 62 :: st) σ τ = mj_E 149 37 ls (.int (σ 62 30) :: st) σ τ := mj_nx i149_34 rfl
theorem i149_37 : mj_ins 149 37 = some (.iconst (9), 39) := by decide +kernel
theorem e149_37 {ls : mj_L} {st : List Value} {σ : mj_S} {τ : mj_T} : mj_E 149 37 ls st σ τ = mj_E 149 39 ls (.int (nI 9) :: st) σ τ := mj_nx i149_37 rfl
theorem i149_39 : mj_ins 149 39 = some (.if_icmp .gt 46, 42) := by decide +kernel
theorem e149_39 {ls : mj_L} {st : List Value} {σ : mj_S} {τ : mj_T} {x y : Int32} : mj_E 149 39 ls (.int y :: .int x :: st) σ τ = if y < x then mj_E 149 46 ls st σ τ else mj_E 149 42 ls st σ τ := (mj_ifi i149_39).trans (mj_cdT rfl)
theorem i149_42 : mj_ins 149 42 = some (.iconst (1), 43) := by decide +kernel
theorem e149_42 {ls : mj_L} {st : List Value} {σ : mj_S} {τ : mj_T} : mj_E 149 42 ls st σ τ = mj_E 149 43 ls (.int (nI 1) :: st) σ τ := mj_nx i149_42 rfl
theorem i149_43 : mj_ins 149 43 = some (.goto 47, 46) := by decide +kernel
theorem e149_43 {ls : mj_L} {st : List Value} {σ : mj_S} {τ : mj_T} : mj_E 149 43 ls st σ τ = mj_E 149 47 ls st σ τ := mj_nx i149_43 rfl
theorem i149_46 : mj_ins 149 46 = some (.iconst (0), 47) := by decide +kernel
theorem e149_46 {ls : mj_L} {st : List Value} {σ : mj_S} {τ : mj_T} : mj_E 149 46 ls st σ τ = mj_E 149 47 ls (.int (nI 0) :: st) σ τ := mj_nx i149_46 rfl
theorem i149_47 : mj_ins 149 47 = some (.ireturn, 48) := by decide +kernel
theorem e149_47 {ls : mj_L} {σ : mj_S} {τ : mj_T} {v : Int32} : mj_E 149 47 ls [.int v] σ τ = if mj_ok (some .boolean) v = true then some (some (.int v), σ, τ) else none := mj_zrt i149_47 rfl
theorem i149_48 : mj_ins 149 48 = some (.iload 1, 49) := by decide +kernel
theorem e149_48 {ls : mj_L} {st : List Value} {σ : mj_S} {τ : mj_T} {a0 : Option Value} {v : Int32} : mj_E 149 48 (a0 :: some (.int v) :: ls) st σ τ = mj_E 149 49 (a0 :: some (.int v) :: ls) (.int v :: st) σ τ := mj_nx i149_48 rfl
theorem i149_49 : mj_ins 149 49 = some (.iconst (1), 50) := by decide +kernel
theorem e149_49 {ls : mj_L} {st : List Value} {σ : mj_S} {τ : mj_T} : mj_E 149 49 ls st σ τ = mj_E 149 50 ls (.int (nI 1) :: st) σ τ := mj_nx i149_49 rfl
theorem i149_50 : mj_ins 149 50 = some (.if_icmp .ne 106, 53) := by decide +kernel
theorem e149_50 {ls : mj_L} {st : List Value} {σ : mj_S} {τ : mj_T} {x y : Int32} : mj_E 149 50 ls (.int y :: .int x :: st) σ τ = if x = y then mj_E 149 53 ls st σ τ else mj_E 149 106 ls st σ τ := (mj_ifi i149_50).trans (mj_cdF rfl)
theorem i149_53 : mj_ins 149 53 = some (.aload 0, 54) := by decide +kernel
theorem e149_53 {ls : mj_L} {st : List Value} {σ : mj_S} {τ : mj_T} {v : Nat} : mj_E 149 53 (some (.ref v) :: ls) st σ τ = mj_E 149 54 (some (.ref v) :: ls) (.ref v :: st) σ τ := mj_nx i149_53 rfl
theorem i149_54 : mj_ins 149 54 = some (.getfield 730, 57) := by decide +kernel
theorem e149_54 {ls : mj_L} {st : List Value} {σ : mj_S} {τ : mj_T} : mj_E 149 54 ls (.ref 62 :: st) σ τ = mj_E 149 57 ls (.int (σ 62 30) :: st) σ τ := mj_nx i149_54 rfl
theorem i149_57 : mj_ins 149 57 = some (.aload 0, 58) := by decide +kernel
theorem e149_57 {ls : mj_L} {st : List Value} {σ : mj_S} {τ : mj_T} {v : Nat} : mj_E 149 57 (some (.ref v) :: ls) st σ τ = mj_E 149 58 (some (.ref v) :: ls) (.ref v :: st) σ τ := mj_nx i149_57 rfl
theorem i149_58 : mj_ins 149 58 = some (.getfield 700, 61) := by decide +kernel
theorem e149_58 {ls : mj_L} {st : List Value} {σ : mj_S} {τ : mj_T} : mj_E 149 58 ls (.ref 62 :: st) σ τ = mj_E 149 61 ls (.int (σ 62 0) :: st) σ τ := mj_nx i149_58 rfl
theorem i149_61 : mj_ins 149 61 = some (.if_icmp .ge 104, 64) := by decide +kernel
theorem e149_61 {ls : mj_L} {st : List Value} {σ : mj_S} {τ : mj_T} {x y : Int32} : mj_E 149 61 ls (.int y :: .int x :: st) σ τ = if y ≤ x then mj_E 149 104 ls st σ τ else mj_E 149 64 ls st σ τ := (mj_ifi i149_61).trans (mj_cdT rfl)
theorem i149_64 : mj_ins 149 64 = some (.iload 2, 65) := by decide +kernel
theorem e149_64 {ls : mj_L} {st : List Value} {σ : mj_S} {τ : mj_T} {a0 a1 : Option Value} {v : Int32} : mj_E 149 64 (a0 :: a1 :: some (.int v) :: ls) st σ τ = mj_E 149 65 (a0 :: a1 :: some (.int v) :: ls) (.int v :: st) σ τ := mj_nx i149_64 rfl
theorem i149_65 : mj_ins 149 65 = some (.iconst (2), 66) := by decide +kernel
theorem e149_65 {ls : mj_L} {st : List Value} {σ : mj_S} {τ : mj_T} : mj_E 149 65 ls st σ τ = mj_E 149 66 ls (.int (nI 2) :: st) σ τ := mj_nx i149_65 rfl
theorem i149_66 : mj_ins 149 66 = some (.if_icmp .le 82, 69) := by decide +kernel
theorem e149_66 {ls : mj_L} {st : List Value} {σ : mj_S} {τ : mj_T} {x y : Int32} : mj_E 149 66 ls (.int y :: .int x :: st) σ τ = if x ≤ y then mj_E 149 82 ls st σ τ else mj_E 149 69 ls st σ τ := (mj_ifi i149_66).trans (mj_cdT rfl)
theorem i149_69 : mj_ins 149 69 = some (.aload 0, 70) := by decide +kernel
theorem e149_69 {ls : mj_L} {st : List Value} {σ : mj_S} {τ : mj_T} {v : Nat} : mj_E 149 69 (some (.ref v) :: ls) st σ τ = mj_E 149 70 (some (.ref v) :: ls) (.ref v :: st) σ τ := mj_nx i149_69 rfl
theorem i149_70 : mj_ins 149 70 = some (.getfield 730, 73) := by decide +kernel
theorem e149_70 {ls : mj_L} {st : List Value} {σ : mj_S} {τ : mj_T} : mj_E 149 70 ls (.ref 62 :: st) σ τ = mj_E 149 73 ls (.int (σ 62 30) :: st) σ τ := mj_nx i149_70 rfl
theorem i149_73 : mj_ins 149 73 = some (.aload 0, 74) := by decide +kernel
theorem e149_73 {ls : mj_L} {st : List Value} {σ : mj_S} {τ : mj_T} {v : Nat} : mj_E 149 73 (some (.ref v) :: ls) st σ τ = mj_E 149 74 (some (.ref v) :: ls) (.ref v :: st) σ τ := mj_nx i149_73 rfl
theorem i149_74 : mj_ins 149 74 = some (.getfield 726, 77) := by decide +kernel
theorem e149_74 {ls : mj_L} {st : List Value} {σ : mj_S} {τ : mj_T} : mj_E 149 74 ls (.ref 62 :: st) σ τ = mj_E 149 77 ls (.ref 83 :: st) σ τ := mj_nx i149_74 rfl
theorem i149_77 : mj_ins 149 77 = some (.iconst (2), 78) := by decide +kernel
theorem e149_77 {ls : mj_L} {st : List Value} {σ : mj_S} {τ : mj_T} : mj_E 149 77 ls st σ τ = mj_E 149 78 ls (.int (nI 2) :: st) σ τ := mj_nx i149_77 rfl
theorem i149_78 : mj_ins 149 78 = some (.iaload, 79) := by decide +kernel
theorem e149_78 {ls : mj_L} {st : List Value} {σ : mj_S} {τ : mj_T} {x : Int32} {k : Nat} : mj_E 149 78 ls (.int x :: .ref k :: st) σ τ = if mj_ib (mj_li σ k) x = true then mj_E 149 79 ls (.int (σ k x.toNatClampNeg) :: st) σ τ else none := mj_ald i149_78
theorem i149_79 : mj_ins 149 79 = some (.if_icmp .eq 104, 82) := by decide +kernel
theorem e149_79 {ls : mj_L} {st : List Value} {σ : mj_S} {τ : mj_T} {x y : Int32} : mj_E 149 79 ls (.int y :: .int x :: st) σ τ = if x = y then mj_E 149 104 ls st σ τ else mj_E 149 82 ls st σ τ := (mj_ifi i149_79).trans (mj_cdT rfl)
theorem i149_82 : mj_ins 149 82 = some (.iload 2, 83) := by decide +kernel
theorem e149_82 {ls : mj_L} {st : List Value} {σ : mj_S} {τ : mj_T} {a0 a1 : Option Value} {v : Int32} : mj_E 149 82 (a0 :: a1 :: some (.int v) :: ls) st σ τ = mj_E 149 83 (a0 :: a1 :: some (.int v) :: ls) (.int v :: st) σ τ := mj_nx i149_82 rfl
theorem i149_83 : mj_ins 149 83 = some (.iconst (3), 84) := by decide +kernel
theorem e149_83 {ls : mj_L} {st : List Value} {σ : mj_S} {τ : mj_T} : mj_E 149 83 ls st σ τ = mj_E 149 84 ls (.int (nI 3) :: st) σ τ := mj_nx i149_83 rfl
theorem i149_84 : mj_ins 149 84 = some (.if_icmp .le 100, 87) := by decide +kernel
theorem e149_84 {ls : mj_L} {st : List Value} {σ : mj_S} {τ : mj_T} {x y : Int32} : mj_E 149 84 ls (.int y :: .int x :: st) σ τ = if x ≤ y then mj_E 149 100 ls st σ τ else mj_E 149 87 ls st σ τ := (mj_ifi i149_84).trans (mj_cdT rfl)
theorem i149_87 : mj_ins 149 87 = some (.aload 0, 88) := by decide +kernel
theorem e149_87 {ls : mj_L} {st : List Value} {σ : mj_S} {τ : mj_T} {v : Nat} : mj_E 149 87 (some (.ref v) :: ls) st σ τ = mj_E 149 88 (some (.ref v) :: ls) (.ref v :: st) σ τ := mj_nx i149_87 rfl
theorem i149_88 : mj_ins 149 88 = some (.getfield 730, 91) := by decide +kernel
theorem e149_88 {ls : mj_L} {st : List Value} {σ : mj_S} {τ : mj_T} : mj_E 149 88 ls (.ref 62 :: st) σ τ = mj_E 149 91 ls (.int (σ 62 30) :: st) σ τ := mj_nx i149_88 rfl
theorem i149_91 : mj_ins 149 91 = some (.aload 0, 92) := by decide +kernel
theorem e149_91 {ls : mj_L} {st : List Value} {σ : mj_S} {τ : mj_T} {v : Nat} : mj_E 149 91 (some (.ref v) :: ls) st σ τ = mj_E 149 92 (some (.ref v) :: ls) (.ref v :: st) σ τ := mj_nx i149_91 rfl
theorem i149_92 : mj_ins 149 92 = some (.getfield 726, 95) := by decide +kernel
theorem e149_92 {ls : mj_L} {st : List Value} {σ : mj_S} {τ : mj_T} : mj_E 149 92 ls (.ref 62 :: st) σ τ = mj_E 149 95 ls (.ref 83 :: st) σ τ := mj_nx i149_92 rfl
theorem i149_95 : mj_ins 149 95 = some (.iconst (3), 96) := by decide +kernel
theorem e149_95 {ls : mj_L} {st : List Value} {σ : mj_S} {τ : mj_T} : mj_E 149 95 ls st σ τ = mj_E 149 96 ls (.int (nI 3) :: st) σ τ := mj_nx i149_95 rfl
theorem i149_96 : mj_ins 149 96 = some (.iaload, 97) := by decide +kernel
theorem e149_96 {ls : mj_L} {st : List Value} {σ : mj_S} {τ : mj_T} {x : Int32} {k : Nat} : mj_E 149 96 ls (.int x :: .ref k :: st) σ τ = if mj_ib (mj_li σ k) x = true then mj_E 149 97 ls (.int (σ k x.toNatClampNeg) :: st) σ τ else none := mj_ald i149_96
theorem i149_97 : mj_ins 149 97 = some (.if_icmp .eq 104, 100) := by decide +kernel
theorem e149_97 {ls : mj_L} {st : List Value} {σ : mj_S} {τ : mj_T} {x y : Int32} : mj_E 149 97 ls (.int y :: .int x :: st) σ τ = if x = y then mj_E 149 104 ls st σ τ else mj_E 149 100 ls st σ τ := (mj_ifi i149_97).trans (mj_cdT rfl)
theorem i149_100 : mj_ins 149 100 = some (.iconst (1), 101) := by decide +kernel
theorem e149_100 {ls : mj_L} {st : List Value} {σ : mj_S} {τ : mj_T} : mj_E 149 100 ls st σ τ = mj_E 149 101 ls (.int (nI 1) :: st) σ τ := mj_nx i149_100 rfl
theorem i149_101 : mj_ins 149 101 = some (.goto 105, 104) := by decide +kernel
theorem e149_101 {ls : mj_L} {st : List Value} {σ : mj_S} {τ : mj_T} : mj_E 149 101 ls st σ τ = mj_E 149 105 ls st σ τ := mj_nx i149_101 rfl
theorem i149_104 : mj_ins 149 104 = some (.iconst (0), 105) := by decide +kernel
theorem e149_104 {ls : mj_L} {st : List Value} {σ : mj_S} {τ : mj_T} : mj_E 149 104 ls st σ τ = mj_E 149 105 ls (.int (nI 0) :: st) σ τ := mj_nx i149_104 rfl
theorem i149_105 : mj_ins 149 105 = some (.ireturn, 106) := by decide +kernel
theorem e149_105 {ls : mj_L} {σ : mj_S} {τ : mj_T} {v : Int32} : mj_E 149 105 ls [.int v] σ τ = if mj_ok (some .boolean) v = true then some (some (.int v), σ, τ) else none := mj_zrt i149_105 rfl
theorem i149_106 : mj_ins 149 106 = some (.iload 1, 107) := by decide +kernel
theorem e149_106 {ls : mj_L} {st : List Value} {σ : mj_S} {τ : mj_T} {a0 : Option Value} {v : Int32} : mj_E 149 106 (a0 :: some (.int v) :: ls) st σ τ = mj_E 149 107 (a0 :: some (.int v) :: ls) (.int v :: st) σ τ := mj_nx i149_106 rfl
theorem i149_107 : mj_ins 149 107 = some (.iconst (4), 108) := by decide +kernel
theorem e149_107 {ls : mj_L} {st : List Value} {σ : mj_S} {τ : mj_T} : mj_E 149 107 ls st σ τ = mj_E 149 108 ls (.int (nI 4) :: st) σ τ := mj_nx i149_107 rfl
theorem i149_108 : mj_ins 149 108 = some (.if_icmp .ne 126, 111) := by decide +kernel
theorem e149_108 {ls : mj_L} {st : List Value} {σ : mj_S} {τ : mj_T} {x y : Int32} : mj_E 149 108 ls (.int y :: .int x :: st) σ τ = if x = y then mj_E 149 111 ls st σ τ else mj_E 149 126 ls st σ τ := (mj_ifi i149_108).trans (mj_cdF rfl)
theorem i149_111 : mj_ins 149 111 = some (.aload 0, 112) := by decide +kernel
theorem e149_111 {ls : mj_L} {st : List Value} {σ : mj_S} {τ : mj_T} {v : Nat} : mj_E 149 111 (some (.ref v) :: ls) st σ τ = mj_E 149 112 (some (.ref v) :: ls) (.ref v :: st) σ τ := mj_nx i149_111 rfl
theorem i149_112 : mj_ins 149 112 = some (.getfield 730, 115) := by decide +kernel
theorem e149_112 {ls : mj_L} {st : List Value} {σ : mj_S} {τ : mj_T} : mj_E 149 112 ls (.ref 62 :: st) σ τ = mj_E 149 115 ls (.int (σ 62 30) :: st) σ τ := mj_nx i149_112 rfl
theorem i149_115 : mj_ins 149 115 = some (.iconst (9), 117) := by decide +kernel
theorem e149_115 {ls : mj_L} {st : List Value} {σ : mj_S} {τ : mj_T} : mj_E 149 115 ls st σ τ = mj_E 149 117 ls (.int (nI 9) :: st) σ τ := mj_nx i149_115 rfl
theorem i149_117 : mj_ins 149 117 = some (.if_icmp .gt 124, 120) := by decide +kernel
theorem e149_117 {ls : mj_L} {st : List Value} {σ : mj_S} {τ : mj_T} {x y : Int32} : mj_E 149 117 ls (.int y :: .int x :: st) σ τ = if y < x then mj_E 149 124 ls st σ τ else mj_E 149 120 ls st σ τ := (mj_ifi i149_117).trans (mj_cdT rfl)
theorem i149_120 : mj_ins 149 120 = some (.iconst (1), 121) := by decide +kernel
theorem e149_120 {ls : mj_L} {st : List Value} {σ : mj_S} {τ : mj_T} : mj_E 149 120 ls st σ τ = mj_E 149 121 ls (.int (nI 1) :: st) σ τ := mj_nx i149_120 rfl
theorem i149_121 : mj_ins 149 121 = some (.goto 125, 124) := by decide +kernel
theorem e149_121 {ls : mj_L} {st : List Value} {σ : mj_S} {τ : mj_T} : mj_E 149 121 ls st σ τ = mj_E 149 125 ls st σ τ := mj_nx i149_121 rfl
theorem i149_124 : mj_ins 149 124 = some (.iconst (0), 125) := by decide +kernel
theorem e149_124 {ls : mj_L} {st : List Value} {σ : mj_S} {τ : mj_T} : mj_E 149 124 ls st σ τ = mj_E 149 125 ls (.int (nI 0) :: st) σ τ := mj_nx i149_124 rfl
theorem i149_125 : mj_ins 149 125 = some (.ireturn, 126) := by decide +kernel
theorem e149_125 {ls : mj_L} {σ : mj_S} {τ : mj_T} {v : Int32} : mj_E 149 125 ls [.int v] σ τ = if mj_ok (some .boolean) v = true then some (some (.int v), σ, τ) else none := mj_zrt i149_125 rfl
theorem i149_126 : mj_ins 149 126 = some (.iload 2, 127) := by decide +kernel
theorem e149_126 {ls : mj_L} {st : List Value} {σ : mj_S} {τ : mj_T} {a0 a1 : Option Value} {v : Int32} : mj_E 149 126 (a0 :: a1 :: some (.int v) :: ls) st σ τ = mj_E 149 127 (a0 :: a1 :: some (.int v) :: ls) (.int v :: st) σ τ := mj_nx i149_126 rfl
theorem i149_127 : mj_ins 149 127 = some (.ifCond .ne 147, 130) := by decide +kernel
theorem e149_127 {ls : mj_L} {st : List Value} {σ : mj_S} {τ : mj_T} {x : Int32} : mj_E 149 127 ls (.int x :: st) σ τ = if x = 0 then mj_E 149 130 ls st σ τ else mj_E 149 147 ls st σ τ := (mj_ifc i149_127).trans (mj_cdF rfl)
theorem i149_130 : mj_ins 149 130 = some (.aload 0, 131) := by decide +kernel
theorem e149_130 {ls : mj_L} {st : List Value} {σ : mj_S} {τ : mj_T} {v : Nat} : mj_E 149 130 (some (.ref v) :: ls) st σ τ = mj_E 149 131 (some (.ref v) :: ls) (.ref v :: st) σ τ := mj_nx i149_130 rfl
theorem i149_131 : mj_ins 149 131 = some (.getfield 730, 134) := by decide +kernel
theorem e149_131 {ls : mj_L} {st : List Value} {σ : mj_S} {τ : mj_T} : mj_E 149 131 ls (.ref 62 :: st) σ τ = mj_E 149 134 ls (.int (σ 62 30) :: st) σ τ := mj_nx i149_131 rfl
theorem i149_134 : mj_ins 149 134 = some (.aload 0, 135) := by decide +kernel
theorem e149_134 {ls : mj_L} {st : List Value} {σ : mj_S} {τ : mj_T} {v : Nat} : mj_E 149 134 (some (.ref v) :: ls) st σ τ = mj_E 149 135 (some (.ref v) :: ls) (.ref v :: st) σ τ := mj_nx i149_134 rfl
theorem i149_135 : mj_ins 149 135 = some (.getfield 701, 138) := by decide +kernel
theorem e149_135 {ls : mj_L} {st : List Value} {σ : mj_S} {τ : mj_T} : mj_E 149 135 ls (.ref 62 :: st) σ τ = mj_E 149 138 ls (.int (σ 62 1) :: st) σ τ := mj_nx i149_135 rfl
theorem i149_138 : mj_ins 149 138 = some (.if_icmp .ge 145, 141) := by decide +kernel
theorem e149_138 {ls : mj_L} {st : List Value} {σ : mj_S} {τ : mj_T} {x y : Int32} : mj_E 149 138 ls (.int y :: .int x :: st) σ τ = if y ≤ x then mj_E 149 145 ls st σ τ else mj_E 149 141 ls st σ τ := (mj_ifi i149_138).trans (mj_cdT rfl)
theorem i149_141 : mj_ins 149 141 = some (.iconst (1), 142) := by decide +kernel
theorem e149_141 {ls : mj_L} {st : List Value} {σ : mj_S} {τ : mj_T} : mj_E 149 141 ls st σ τ = mj_E 149 142 ls (.int (nI 1) :: st) σ τ := mj_nx i149_141 rfl
theorem i149_142 : mj_ins 149 142 = some (.goto 146, 145) := by decide +kernel
theorem e149_142 {ls : mj_L} {st : List Value} {σ : mj_S} {τ : mj_T} : mj_E 149 142 ls st σ τ = mj_E 149 146 ls st σ τ := mj_nx i149_142 rfl
theorem i149_145 : mj_ins 149 145 = some (.iconst (0), 146) := by decide +kernel
theorem e149_145 {ls : mj_L} {st : List Value} {σ : mj_S} {τ : mj_T} : mj_E 149 145 ls st σ τ = mj_E 149 146 ls (.int (nI 0) :: st) σ τ := mj_nx i149_145 rfl
theorem i149_146 : mj_ins 149 146 = some (.ireturn, 147) := by decide +kernel
theorem e149_146 {ls : mj_L} {σ : mj_S} {τ : mj_T} {v : Int32} : mj_E 149 146 ls [.int v] σ τ = if mj_ok (some .boolean) v = true then some (some (.int v), σ, τ) else none := mj_zrt i149_146 rfl
theorem i149_147 : mj_ins 149 147 = some (.iload 1, 148) := by decide +kernel
theorem e149_147 {ls : mj_L} {st : List Value} {σ : mj_S} {τ : mj_T} {a0 : Option Value} {v : Int32} : mj_E 149 147 (a0 :: some (.int v) :: ls) st σ τ = mj_E 149 148 (a0 :: some (.int v) :: ls) (.int v :: st) σ τ := mj_nx i149_147 rfl
theorem i149_148 : mj_ins 149 148 = some (.iconst (3), 149) := by decide +kernel
theorem e149_148 {ls : mj_L} {st : List Value} {σ : mj_S} {τ : mj_T} : mj_E 149 148 ls st σ τ = mj_E 149 149 ls (.int (nI 3) :: st) σ τ := mj_nx i149_148 rfl
theorem i149_149 : mj_ins 149 149 = some (.if_icmp .ne 169, 152) := by decide +kernel
theorem e149_149 {ls : mj_L} {st : List Value} {σ : mj_S} {τ : mj_T} {x y : Int32} : mj_E 149 149 ls (.int y :: .int x :: st) σ τ = if x = y then mj_E 149 152 ls st σ τ else mj_E 149 169 ls st σ τ := (mj_ifi i149_149).trans (mj_cdF rfl)
theorem i149_152 : mj_ins 149 152 = some (.aload 0, 153) := by decide +kernel
theorem e149_152 {ls : mj_L} {st : List Value} {σ : mj_S} {τ : mj_T} {v : Nat} : mj_E 149 152 (some (.ref v) :: ls) st σ τ = mj_E 149 153 (some (.ref v) :: ls) (.ref v :: st) σ τ := mj_nx i149_152 rfl
theorem i149_153 : mj_ins 149 153 = some (.getfield 730, 156) := by decide +kernel
theorem e149_153 {ls : mj_L} {st : List Value} {σ : mj_S} {τ : mj_T} : mj_E 149 153 ls (.ref 62 :: st) σ τ = mj_E 149 156 ls (.int (σ 62 30) :: st) σ τ := mj_nx i149_153 rfl
theorem i149_156 : mj_ins 149 156 = some (.iconst (30), 158) := by decide +kernel
theorem e149_156 {ls : mj_L} {st : List Value} {σ : mj_S} {τ : mj_T} : mj_E 149 156 ls st σ τ = mj_E 149 158 ls (.int (nI 30) :: st) σ τ := mj_nx i149_156 rfl
theorem i149_158 : mj_ins 149 158 = some (.if_icmp .gt 165, 161) := by decide +kernel
theorem e149_158 {ls : mj_L} {st : List Value} {σ : mj_S} {τ : mj_T} {x y : Int32} : mj_E 149 158 ls (.int y :: .int x :: st) σ τ = if y < x then mj_E 149 165 ls st σ τ else mj_E 149 161 ls st σ τ := (mj_ifi i149_158).trans (mj_cdT rfl)
theorem i149_161 : mj_ins 149 161 = some (.iconst (1), 162) := by decide +kernel
theorem e149_161 {ls : mj_L} {st : List Value} {σ : mj_S} {τ : mj_T} : mj_E 149 161 ls st σ τ = mj_E 149 162 ls (.int (nI 1) :: st) σ τ := mj_nx i149_161 rfl
theorem i149_162 : mj_ins 149 162 = some (.goto 220, 165) := by decide +kernel
theorem e149_162 {ls : mj_L} {st : List Value} {σ : mj_S} {τ : mj_T} : mj_E 149 162 ls st σ τ = mj_E 149 220 ls st σ τ := mj_nx i149_162 rfl
theorem i149_165 : mj_ins 149 165 = some (.iconst (0), 166) := by decide +kernel
theorem e149_165 {ls : mj_L} {st : List Value} {σ : mj_S} {τ : mj_T} : mj_E 149 165 ls st σ τ = mj_E 149 166 ls (.int (nI 0) :: st) σ τ := mj_nx i149_165 rfl
theorem i149_166 : mj_ins 149 166 = some (.goto 220, 169) := by decide +kernel
theorem e149_166 {ls : mj_L} {st : List Value} {σ : mj_S} {τ : mj_T} : mj_E 149 166 ls st σ τ = mj_E 149 220 ls st σ τ := mj_nx i149_166 rfl
theorem i149_169 : mj_ins 149 169 = some (.iload 2, 170) := by decide +kernel
theorem e149_169 {ls : mj_L} {st : List Value} {σ : mj_S} {τ : mj_T} {a0 a1 : Option Value} {v : Int32} : mj_E 149 169 (a0 :: a1 :: some (.int v) :: ls) st σ τ = mj_E 149 170 (a0 :: a1 :: some (.int v) :: ls) (.int v :: st) σ τ := mj_nx i149_169 rfl
theorem i149_170 : mj_ins 149 170 = some (.iconst (1), 171) := by decide +kernel
theorem e149_170 {ls : mj_L} {st : List Value} {σ : mj_S} {τ : mj_T} : mj_E 149 170 ls st σ τ = mj_E 149 171 ls (.int (nI 1) :: st) σ τ := mj_nx i149_170 rfl
theorem i149_171 : mj_ins 149 171 = some (.if_icmp .ne 206, 174) := by decide +kernel
theorem e149_171 {ls : mj_L} {st : List Value} {σ : mj_S} {τ : mj_T} {x y : Int32} : mj_E 149 171 ls (.int y :: .int x :: st) σ τ = if x = y then mj_E 149 174 ls st σ τ else mj_E 149 206 ls st σ τ := (mj_ifi i149_171).trans (mj_cdF rfl)
theorem i149_174 : mj_ins 149 174 = some (.aload 0, 175) := by decide +kernel
theorem e149_174 {ls : mj_L} {st : List Value} {σ : mj_S} {τ : mj_T} {v : Nat} : mj_E 149 174 (some (.ref v) :: ls) st σ τ = mj_E 149 175 (some (.ref v) :: ls) (.ref v :: st) σ τ := mj_nx i149_174 rfl
theorem i149_175 : mj_ins 149 175 = some (.getfield 730, 178) := by decide +kernel
theorem e149_175 {ls : mj_L} {st : List Value} {σ : mj_S} {τ : mj_T} : mj_E 149 175 ls (.ref 62 :: st) σ τ = mj_E 149 178 ls (.int (σ 62 30) :: st) σ τ := mj_nx i149_175 rfl
theorem i149_178 : mj_ins 149 178 = some (.aload 0, 179) := by decide +kernel
theorem e149_178 {ls : mj_L} {st : List Value} {σ : mj_S} {τ : mj_T} {v : Nat} : mj_E 149 178 (some (.ref v) :: ls) st σ τ = mj_E 149 179 (some (.ref v) :: ls) (.ref v :: st) σ τ := mj_nx i149_178 rfl
theorem i149_179 : mj_ins 149 179 = some (.getfield 700, 182) := by decide +kernel
theorem e149_179 {ls : mj_L} {st : List Value} {σ : mj_S} {τ : mj_T} : mj_E 149 179 ls (.ref 62 :: st) σ τ = mj_E 149 182 ls (.int (σ 62 0) :: st) σ τ := mj_nx i149_179 rfl
theorem i149_182 : mj_ins 149 182 = some (.if_icmp .ge 202, 185) := by decide +kernel
theorem e149_182 {ls : mj_L} {st : List Value} {σ : mj_S} {τ : mj_T} {x y : Int32} : mj_E 149 182 ls (.int y :: .int x :: st) σ τ = if y ≤ x then mj_E 149 202 ls st σ τ else mj_E 149 185 ls st σ τ := (mj_ifi i149_182).trans (mj_cdT rfl)
theorem i149_185 : mj_ins 149 185 = some (.aload 0, 186) := by decide +kernel
theorem e149_185 {ls : mj_L} {st : List Value} {σ : mj_S} {τ : mj_T} {v : Nat} : mj_E 149 185 (some (.ref v) :: ls) st σ τ = mj_E 149 186 (some (.ref v) :: ls) (.ref v :: st) σ τ := mj_nx i149_185 rfl
theorem i149_186 : mj_ins 149 186 = some (.getfield 707, 189) := by decide +kernel
theorem e149_186 {ls : mj_L} {st : List Value} {σ : mj_S} {τ : mj_T} : mj_E 149 186 ls (.ref 62 :: st) σ τ = mj_E 149 189 ls (.ref 64 :: st) σ τ := mj_nx i149_186 rfl
theorem i149_189 : mj_ins 149 189 = some (.aload 0, 190) := by decide +kernel
theorem e149_189 {ls : mj_L} {st : List Value} {σ : mj_S} {τ : mj_T} {v : Nat} : mj_E 149 189 (some (.ref v) :: ls) st σ τ = mj_E 149 190 (some (.ref v) :: ls) (.ref v :: st) σ τ := mj_nx i149_189 rfl
theorem i149_190 : mj_ins 149 190 = some (.getfield 730, 193) := by decide +kernel
theorem e149_190 {ls : mj_L} {st : List Value} {σ : mj_S} {τ : mj_T} : mj_E 149 190 ls (.ref 62 :: st) σ τ = mj_E 149 193 ls (.int (σ 62 30) :: st) σ τ := mj_nx i149_190 rfl
theorem i149_193 : mj_ins 149 193 = some (.iaload, 194) := by decide +kernel
theorem e149_193 {ls : mj_L} {st : List Value} {σ : mj_S} {τ : mj_T} {x : Int32} {k : Nat} : mj_E 149 193 ls (.int x :: .ref k :: st) σ τ = if mj_ib (mj_li σ k) x = true then mj_E 149 194 ls (.int (σ k x.toNatClampNeg) :: st) σ τ else none := mj_ald i149_193
theorem i149_194 : mj_ins 149 194 = some (.iconst (4), 195) := by decide +kernel
theorem e149_194 {ls : mj_L} {st : List Value} {σ : mj_S} {τ : mj_T} : mj_E 149 194 ls st σ τ = mj_E 149 195 ls (.int (nI 4) :: st) σ τ := mj_nx i149_194 rfl
theorem i149_195 : mj_ins 149 195 = some (.if_icmp .eq 202, 198) := by decide +kernel
theorem e149_195 {ls : mj_L} {st : List Value} {σ : mj_S} {τ : mj_T} {x y : Int32} : mj_E 149 195 ls (.int y :: .int x :: st) σ τ = if x = y then mj_E 149 202 ls st σ τ else mj_E 149 198 ls st σ τ := (mj_ifi i149_195).trans (mj_cdT rfl)
theorem i149_198 : mj_ins 149 198 = some (.iconst (1), 199) := by decide +kernel
theorem e149_198 {ls : mj_L} {st : List Value} {σ : mj_S} {τ : mj_T} : mj_E 149 198 ls st σ τ = mj_E 149 199 ls (.int (nI 1) :: st) σ τ := mj_nx i149_198 rfl
theorem i149_199 : mj_ins 149 199 = some (.goto 220, 202) := by decide +kernel
theorem e149_199 {ls : mj_L} {st : List Value} {σ : mj_S} {τ : mj_T} : mj_E 149 199 ls st σ τ = mj_E 149 220 ls st σ τ := mj_nx i149_199 rfl
theorem i149_202 : mj_ins 149 202 = some (.iconst (0), 203) := by decide +kernel
theorem e149_202 {ls : mj_L} {st : List Value} {σ : mj_S} {τ : mj_T} : mj_E 149 202 ls st σ τ = mj_E 149 203 ls (.int (nI 0) :: st) σ τ := mj_nx i149_202 rfl
theorem i149_203 : mj_ins 149 203 = some (.goto 220, 206) := by decide +kernel
theorem e149_203 {ls : mj_L} {st : List Value} {σ : mj_S} {τ : mj_T} : mj_E 149 203 ls st σ τ = mj_E 149 220 ls st σ τ := mj_nx i149_203 rfl
theorem i149_206 : mj_ins 149 206 = some (.aload 0, 207) := by decide +kernel
theorem e149_206 {ls : mj_L} {st : List Value} {σ : mj_S} {τ : mj_T} {v : Nat} : mj_E 149 206 (some (.ref v) :: ls) st σ τ = mj_E 149 207 (some (.ref v) :: ls) (.ref v :: st) σ τ := mj_nx i149_206 rfl
theorem i149_207 : mj_ins 149 207 = some (.getfield 730, 210) := by decide +kernel
theorem e149_207 {ls : mj_L} {st : List Value} {σ : mj_S} {τ : mj_T} : mj_E 149 207 ls (.ref 62 :: st) σ τ = mj_E 149 210 ls (.int (σ 62 30) :: st) σ τ := mj_nx i149_207 rfl
theorem i149_210 : mj_ins 149 210 = some (.iconst (20), 212) := by decide +kernel
theorem e149_210 {ls : mj_L} {st : List Value} {σ : mj_S} {τ : mj_T} : mj_E 149 210 ls st σ τ = mj_E 149 212 ls (.int (nI 20) :: st) σ τ := mj_nx i149_210 rfl
theorem i149_212 : mj_ins 149 212 = some (.if_icmp .gt 219, 215) := by decide +kernel
theorem e149_212 {ls : mj_L} {st : List Value} {σ : mj_S} {τ : mj_T} {x y : Int32} : mj_E 149 212 ls (.int y :: .int x :: st) σ τ = if y < x then mj_E 149 219 ls st σ τ else mj_E 149 215 ls st σ τ := (mj_ifi i149_212).trans (mj_cdT rfl)
theorem i149_215 : mj_ins 149 215 = some (.iconst (1), 216) := by decide +kernel
theorem e149_215 {ls : mj_L} {st : List Value} {σ : mj_S} {τ : mj_T} : mj_E 149 215 ls st σ τ = mj_E 149 216 ls (.int (nI 1) :: st) σ τ := mj_nx i149_215 rfl
theorem i149_216 : mj_ins 149 216 = some (.goto 220, 219) := by decide +kernel
theorem e149_216 {ls : mj_L} {st : List Value} {σ : mj_S} {τ : mj_T} : mj_E 149 216 ls st σ τ = mj_E 149 220 ls st σ τ := mj_nx i149_216 rfl
theorem i149_219 : mj_ins 149 219 = some (.iconst (0), 220) := by decide +kernel
theorem e149_219 {ls : mj_L} {st : List Value} {σ : mj_S} {τ : mj_T} : mj_E 149 219 ls st σ τ = mj_E 149 220 ls (.int (nI 0) :: st) σ τ := mj_nx i149_219 rfl
theorem i149_220 : mj_ins 149 220 = some (.ireturn, 221) := by decide +kernel
theorem e149_220 {ls : mj_L} {σ : mj_S} {τ : mj_T} {v : Int32} : mj_E 149 220 ls [.int v] σ τ = if mj_ok (some .boolean) v = true then some (some (.int v), σ, τ) else none := mj_zrt i149_220 rfl
theorem c150 {σ : mj_S} {τ : mj_T} {r : Nat} : mj_C 150 [.ref r] σ τ = mj_E 150 0 [some (.ref r), none, none, none] [] σ τ := rfl
theorem i150_0 : mj_ins 150 0 = some (.aload 0, 1) := by decide +kernel
theorem e150_0 {ls : mj_L} {st : List Value} {σ : mj_S} {τ : mj_T} {v : Nat} : mj_E 150 0 (some (.ref v) :: ls) st σ τ = mj_E 150 1 (some (.ref v) :: ls) (.ref v :: st) σ τ := mj_nx i150_0 rfl
theorem i150_1 : mj_ins 150 1 = some (.iconst (0), 2) := by decide +kernel
theorem e150_1 {ls : mj_L} {st : List Value} {σ : mj_S} {τ : mj_T} : mj_E 150 1 ls st σ τ = mj_E 150 2 ls (.int (nI 0) :: st) σ τ := mj_nx i150_1 rfl
theorem i150_2 : mj_ins 150 2 = some (.invokevirtual 145, 5) := by decide +kernel
theorem e150_2 {ls : mj_L} {σ : mj_S} {τ : mj_T} {r : Nat} {x0 : Int32} : mj_E 150 2 ls [.int x0, .ref r] σ τ = if mj_rcv r 7 = true then mj_bd (mj_C 145 [.ref r, .int x0] σ τ) (mj_K 150 5 ls []) else none := mj_clV (as := [.int x0]) (r := []) i150_2 (by decide +kernel : mj_vk 150 145 1 0 2 false = true) (by decide +kernel)
theorem i150_5 : mj_ins 150 5 = some (.ifCond .eq 17, 8) := by decide +kernel
theorem e150_5 {ls : mj_L} {st : List Value} {σ : mj_S} {τ : mj_T} {x : Int32} : mj_E 150 5 ls (.int x :: st) σ τ = if x = 0 then mj_E 150 17 ls st σ τ else mj_E 150 8 ls st σ τ := (mj_ifc i150_5).trans (mj_cdT rfl)
theorem i150_8 : mj_ins 150 8 = some (.aload 0, 9) := by decide +kernel
theorem e150_8 {ls : mj_L} {st : List Value} {σ : mj_S} {τ : mj_T} {v : Nat} : mj_E 150 8 (some (.ref v) :: ls) st σ τ = mj_E 150 9 (some (.ref v) :: ls) (.ref v :: st) σ τ := mj_nx i150_8 rfl
theorem i150_9 : mj_ins 150 9 = some (.getfield 700, 12) := by decide +kernel
theorem e150_9 {ls : mj_L} {st : List Value} {σ : mj_S} {τ : mj_T} : mj_E 150 9 ls (.ref 62 :: st) σ τ = mj_E 150 12 ls (.int (σ 62 0) :: st) σ τ := mj_nx i150_9 rfl
theorem i150_12 : mj_ins 150 12 = some (.iconst (8), 14) := by decide +kernel
theorem e150_12 {ls : mj_L} {st : List Value} {σ : mj_S} {τ : mj_T} : mj_E 150 12 ls st σ τ = mj_E 150 14 ls (.int (nI 8) :: st) σ τ := mj_nx i150_12 rfl
theorem i150_14 : mj_ins 150 14 = some (.if_icmp .eq 34, 17) := by decide +kernel
theorem e150_14 {ls : mj_L} {st : List Value} {σ : mj_S} {τ : mj_T} {x y : Int32} : mj_E 150 14 ls (.int y :: .int x :: st) σ τ = if x = y then mj_E 150 34 ls st σ τ else mj_E 150 17 ls st σ τ := (mj_ifi i150_14).trans (mj_cdT rfl)
theorem i150_17 : mj_ins 150 17 = some (.aload 0, 18) := by decide +kernel
theorem e150_17 {ls : mj_L} {st : List Value} {σ : mj_S} {τ : mj_T} {v : Nat} : mj_E 150 17 (some (.ref v) :: ls) st σ τ = mj_E 150 18 (some (.ref v) :: ls) (.ref v :: st) σ τ := mj_nx i150_17 rfl
theorem i150_18 : mj_ins 150 18 = some (.iconst (1), 19) := by decide +kernel
theorem e150_18 {ls : mj_L} {st : List Value} {σ : mj_S} {τ : mj_T} : mj_E 150 18 ls st σ τ = mj_E 150 19 ls (.int (nI 1) :: st) σ τ := mj_nx i150_18 rfl
theorem i150_19 : mj_ins 150 19 = some (.invokevirtual 145, 22) := by decide +kernel
theorem e150_19 {ls : mj_L} {σ : mj_S} {τ : mj_T} {r : Nat} {x0 : Int32} : mj_E 150 19 ls [.int x0, .ref r] σ τ = if mj_rcv r 7 = true then mj_bd (mj_C 145 [.ref r, .int x0] σ τ) (mj_K 150 22 ls []) else none := mj_clV (as := [.int x0]) (r := []) i150_19 (by decide +kernel : mj_vk 150 145 1 0 2 false = true) (by decide +kernel)
theorem i150_22 : mj_ins 150 22 = some (.ifCond .eq 43, 25) := by decide +kernel
theorem e150_22 {ls : mj_L} {st : List Value} {σ : mj_S} {τ : mj_T} {x : Int32} : mj_E 150 22 ls (.int x :: st) σ τ = if x = 0 then mj_E 150 43 ls st σ τ else mj_E 150 25 ls st σ τ := (mj_ifc i150_22).trans (mj_cdT rfl)
theorem i150_25 : mj_ins 150 25 = some (.aload 0, 26) := by decide +kernel
theorem e150_25 {ls : mj_L} {st : List Value} {σ : mj_S} {τ : mj_T} {v : Nat} : mj_E 150 25 (some (.ref v) :: ls) st σ τ = mj_E 150 26 (some (.ref v) :: ls) (.ref v :: st) σ τ := mj_nx i150_25 rfl
theorem i150_26 : mj_ins 150 26 = some (.getfield 701, 29) := by decide +kernel
theorem e150_26 {ls : mj_L} {st : List Value} {σ : mj_S} {τ : mj_T} : mj_E 150 26 ls (.ref 62 :: st) σ τ = mj_E 150 29 ls (.int (σ 62 1) :: st) σ τ := mj_nx i150_26 rfl
theorem i150_29 : mj_ins 150 29 = some (.iconst (6), 31) := by decide +kernel
theorem e150_29 {ls : mj_L} {st : List Value} {σ : mj_S} {τ : mj_T} : mj_E 150 29 ls st σ τ = mj_E 150 31 ls (.int (nI 6) :: st) σ τ := mj_nx i150_29 rfl
theorem i150_31 : mj_ins 150 31 = some (.if_icmp .ne 43, 34) := by decide +kernel
theorem e150_31 {ls : mj_L} {st : List Value} {σ : mj_S} {τ : mj_T} {x y : Int32} : mj_E 150 31 ls (.int y :: .int x :: st) σ τ = if x = y then mj_E 150 34 ls st σ τ else mj_E 150 43 ls st σ τ := (mj_ifi i150_31).trans (mj_cdF rfl)
theorem i150_34 : mj_ins 150 34 = some (.aload 0, 35) := by decide +kernel
theorem e150_34 {ls : mj_L} {st : List Value} {σ : mj_S} {τ : mj_T} {v : Nat} : mj_E 150 34 (some (.ref v) :: ls) st σ τ = mj_E 150 35 (some (.ref v) :: ls) (.ref v :: st) σ τ := mj_nx i150_34 rfl
theorem i150_35 : mj_ins 150 35 = some (.aload 0, 36) := by decide +kernel
theorem e150_35 {ls : mj_L} {st : List Value} {σ : mj_S} {τ : mj_T} {v : Nat} : mj_E 150 35 (some (.ref v) :: ls) st σ τ = mj_E 150 36 (some (.ref v) :: ls) (.ref v :: st) σ τ := mj_nx i150_35 rfl
theorem i150_36 : mj_ins 150 36 = some (.getfield 728, 39) := by decide +kernel
theorem e150_36 {ls : mj_L} {st : List Value} {σ : mj_S} {τ : mj_T} : mj_E 150 36 ls (.ref 62 :: st) σ τ = mj_E 150 39 ls (.int (σ 62 28) :: st) σ τ := mj_nx i150_36 rfl
theorem i150_39 : mj_ins 150 39 = some (.invokevirtual 144, 42) := by decide +kernel
theorem e150_39 {ls : mj_L} {σ : mj_S} {τ : mj_T} {r : Nat} {x0 : Int32} : mj_E 150 39 ls [.int x0, .ref r] σ τ = if mj_rcv r 7 = true then mj_bd (mj_C 144 [.ref r, .int x0] σ τ) (mj_K 150 42 ls []) else none := mj_clV (as := [.int x0]) (r := []) i150_39 (by decide +kernel : mj_vk 150 144 1 0 2 false = true) (by decide +kernel)
theorem i150_42 : mj_ins 150 42 = some (.ireturn, 43) := by decide +kernel
theorem e150_42 {ls : mj_L} {σ : mj_S} {τ : mj_T} {v : Int32} : mj_E 150 42 ls [.int v] σ τ = if mj_ok (some .boolean) v = true then some (some (.int v), σ, τ) else none := mj_zrt i150_42 rfl
theorem i150_43 : mj_ins 150 43 = some (.aload 0, 44) := by decide +kernel
theorem e150_43 {ls : mj_L} {st : List Value} {σ : mj_S} {τ : mj_T} {v : Nat} : mj_E 150 43 (some (.ref v) :: ls) st σ τ = mj_E 150 44 (some (.ref v) :: ls) (.ref v :: st) σ τ := mj_nx i150_43 rfl
theorem i150_44 : mj_ins 150 44 = some (.invokevirtual 146, 47) := by decide +kernel
theorem e150_44 {ls : mj_L} {σ : mj_S} {τ : mj_T} {r : Nat} : mj_E 150 44 ls [.ref r] σ τ = if mj_rcv r 7 = true then mj_bd (mj_C 146 [.ref r] σ τ) (mj_K 150 47 ls []) else none := mj_clV (as := []) (r := []) i150_44 (by decide +kernel : mj_vk 150 146 0 0 1 false = true) (by decide +kernel)
theorem i150_47 : mj_ins 150 47 = some (.istore 1, 48) := by decide +kernel
theorem e150_47 {ls : mj_L} {st : List Value} {σ : mj_S} {τ : mj_T} {a0 a1 : Option Value} {v : Int32} : mj_E 150 47 (a0 :: a1 :: ls) (.int v :: st) σ τ = mj_E 150 48 (a0 :: some (.int v) :: ls) st σ τ := mj_nx i150_47 rfl
theorem i150_48 : mj_ins 150 48 = some (.iload 1, 49) := by decide +kernel
theorem e150_48 {ls : mj_L} {st : List Value} {σ : mj_S} {τ : mj_T} {a0 : Option Value} {v : Int32} : mj_E 150 48 (a0 :: some (.int v) :: ls) st σ τ = mj_E 150 49 (a0 :: some (.int v) :: ls) (.int v :: st) σ τ := mj_nx i150_48 rfl
theorem i150_49 : mj_ins 150 49 = some (.iconst (-1), 50) := by decide +kernel
theorem e150_49 {ls : mj_L} {st : List Value} {σ : mj_S} {τ : mj_T} : mj_E 150 49 ls st σ τ = mj_E 150 50 ls (.int ((-1)) :: st) σ τ := mj_nx i150_49 rfl
theorem i150_50 : mj_ins 150 50 = some (.if_icmp .ne 55, 53) := by decide +kernel
theorem e150_50 {ls : mj_L} {st : List Value} {σ : mj_S} {τ : mj_T} {x y : Int32} : mj_E 150 50 ls (.int y :: .int x :: st) σ τ = if x = y then mj_E 150 53 ls st σ τ else mj_E 150 55 ls st σ τ := (mj_ifi i150_50).trans (mj_cdF rfl)
theorem i150_53 : mj_ins 150 53 = some (.iconst (0), 54) := by decide +kernel
theorem e150_53 {ls : mj_L} {st : List Value} {σ : mj_S} {τ : mj_T} : mj_E 150 53 ls st σ τ = mj_E 150 54 ls (.int (nI 0) :: st) σ τ := mj_nx i150_53 rfl
theorem i150_54 : mj_ins 150 54 = some (.ireturn, 55) := by decide +kernel
theorem e150_54 {ls : mj_L} {σ : mj_S} {τ : mj_T} {v : Int32} : mj_E 150 54 ls [.int v] σ τ = if mj_ok (some .boolean) v = true then some (some (.int v), σ, τ) else none := mj_zrt i150_54 rfl
theorem i150_55 : mj_ins 150 55 = some (.iconst (0), 56) := by decide +kernel
theorem e150_55 {ls : mj_L} {st : List Value} {σ : mj_S} {τ : mj_T} : mj_E 150 55 ls st σ τ = mj_E 150 56 ls (.int (nI 0) :: st) σ τ := mj_nx i150_55 rfl
theorem i150_56 : mj_ins 150 56 = some (.istore 2, 57) := by decide +kernel
theorem e150_56 {ls : mj_L} {st : List Value} {σ : mj_S} {τ : mj_T} {a0 a1 a2 : Option Value} {v : Int32} : mj_E 150 56 (a0 :: a1 :: a2 :: ls) (.int v :: st) σ τ = mj_E 150 57 (a0 :: a1 :: some (.int v) :: ls) st σ τ := mj_nx i150_56 rfl
theorem i150_57 : mj_ins 150 57 = some (.iload 2, 58) := by decide +kernel
theorem e150_57 {ls : mj_L} {st : List Value} {σ : mj_S} {τ : mj_T} {a0 a1 : Option Value} {v : Int32} : mj_E 150 57 (a0 :: a1 :: some (.int v) :: ls) st σ τ = mj_E 150 58 (a0 :: a1 :: some (.int v) :: ls) (.int v :: st) σ τ := mj_nx i150_57 rfl
theorem i150_58 : mj_ins 150 58 = some (.aload 0, 59) := by decide +kernel
theorem e150_58 {ls : mj_L} {st : List Value} {σ : mj_S} {τ : mj_T} {v : Nat} : mj_E 150 58 (some (.ref v) :: ls) st σ τ = mj_E 150 59 (some (.ref v) :: ls) (.ref v :: st) σ τ := mj_nx i150_58 rfl
theorem i150_59 : mj_ins 150 59 = some (.getfield 724, 62) := by decide +kernel
theorem e150_59 {ls : mj_L} {st : List Value} {σ : mj_S} {τ : mj_T} : mj_E 150 59 ls (.ref 62 :: st) σ τ = mj_E 150 62 ls (.ref 81 :: st) σ τ := mj_nx i150_59 rfl
theorem i150_62 : mj_ins 150 62 = some (.iload 1, 63) := by decide +kernel
theorem e150_62 {ls : mj_L} {st : List Value} {σ : mj_S} {τ : mj_T} {a0 : Option Value} {v : Int32} : mj_E 150 62 (a0 :: some (.int v) :: ls) st σ τ = mj_E 150 63 (a0 :: some (.int v) :: ls) (.int v :: st) σ τ := mj_nx i150_62 rfl
theorem i150_63 : mj_ins 150 63 = some (.iaload, 64) := by decide +kernel
theorem e150_63 {ls : mj_L} {st : List Value} {σ : mj_S} {τ : mj_T} {x : Int32} {k : Nat} : mj_E 150 63 ls (.int x :: .ref k :: st) σ τ = if mj_ib (mj_li σ k) x = true then mj_E 150 64 ls (.int (σ k x.toNatClampNeg) :: st) σ τ else none := mj_ald i150_63
theorem i150_64 : mj_ins 150 64 = some (.if_icmp .ge 166, 67) := by decide +kernel
theorem e150_64 {ls : mj_L} {st : List Value} {σ : mj_S} {τ : mj_T} {x y : Int32} : mj_E 150 64 ls (.int y :: .int x :: st) σ τ = if y ≤ x then mj_E 150 166 ls st σ τ else mj_E 150 67 ls st σ τ := (mj_ifi i150_64).trans (mj_cdT rfl)
theorem i150_67 : mj_ins 150 67 = some (.iload 2, 68) := by decide +kernel
theorem e150_67 {ls : mj_L} {st : List Value} {σ : mj_S} {τ : mj_T} {a0 a1 : Option Value} {v : Int32} : mj_E 150 67 (a0 :: a1 :: some (.int v) :: ls) st σ τ = mj_E 150 68 (a0 :: a1 :: some (.int v) :: ls) (.int v :: st) σ τ := mj_nx i150_67 rfl
theorem i150_68 : mj_ins 150 68 = some (.ifCond .le 121, 71) := by decide +kernel
theorem e150_68 {ls : mj_L} {st : List Value} {σ : mj_S} {τ : mj_T} {x : Int32} : mj_E 150 68 ls (.int x :: st) σ τ = if x ≤ 0 then mj_E 150 121 ls st σ τ else mj_E 150 71 ls st σ τ := (mj_ifc i150_68).trans (mj_cdT rfl)
theorem i150_71 : mj_ins 150 71 = some (.aload 0, 72) := by decide +kernel
theorem e150_71 {ls : mj_L} {st : List Value} {σ : mj_S} {τ : mj_T} {v : Nat} : mj_E 150 71 (some (.ref v) :: ls) st σ τ = mj_E 150 72 (some (.ref v) :: ls) (.ref v :: st) σ τ := mj_nx i150_71 rfl
theorem i150_72 : mj_ins 150 72 = some (.getfield 728, 75) := by decide +kernel
theorem e150_72 {ls : mj_L} {st : List Value} {σ : mj_S} {τ : mj_T} : mj_E 150 72 ls (.ref 62 :: st) σ τ = mj_E 150 75 ls (.int (σ 62 28) :: st) σ τ := mj_nx i150_72 rfl
theorem i150_75 : mj_ins 150 75 = some (.aload 0, 76) := by decide +kernel
theorem e150_75 {ls : mj_L} {st : List Value} {σ : mj_S} {τ : mj_T} {v : Nat} : mj_E 150 75 (some (.ref v) :: ls) st σ τ = mj_E 150 76 (some (.ref v) :: ls) (.ref v :: st) σ τ := mj_nx i150_75 rfl
theorem i150_76 : mj_ins 150 76 = some (.getfield 729, 79) := by decide +kernel
theorem e150_76 {ls : mj_L} {st : List Value} {σ : mj_S} {τ : mj_T} : mj_E 150 76 ls (.ref 62 :: st) σ τ = mj_E 150 79 ls (.int (σ 62 29) :: st) σ τ := mj_nx i150_76 rfl
theorem i150_79 : mj_ins 150 79 = some (.if_icmp .ge 102, 82) := by decide +kernel
theorem e150_79 {ls : mj_L} {st : List Value} {σ : mj_S} {τ : mj_T} {x y : Int32} : mj_E 150 79 ls (.int y :: .int x :: st) σ τ = if y ≤ x then mj_E 150 102 ls st σ τ else mj_E 150 82 ls st σ τ := (mj_ifi i150_79).trans (mj_cdT rfl)
theorem i150_82 : mj_ins 150 82 = some (.aload 0, 83) := by decide +kernel
theorem e150_82 {ls : mj_L} {st : List Value} {σ : mj_S} {τ : mj_T} {v : Nat} : mj_E 150 82 (some (.ref v) :: ls) st σ τ = mj_E 150 83 (some (.ref v) :: ls) (.ref v :: st) σ τ := mj_nx i150_82 rfl
theorem i150_83 : mj_ins 150 83 = some (.getfield 721, 86) := by decide +kernel
theorem e150_83 {ls : mj_L} {st : List Value} {σ : mj_S} {τ : mj_T} : mj_E 150 83 ls (.ref 62 :: st) σ τ = mj_E 150 86 ls (.ref 78 :: st) σ τ := mj_nx i150_83 rfl
theorem i150_86 : mj_ins 150 86 = some (.aload 0, 87) := by decide +kernel
theorem e150_86 {ls : mj_L} {st : List Value} {σ : mj_S} {τ : mj_T} {v : Nat} : mj_E 150 86 (some (.ref v) :: ls) st σ τ = mj_E 150 87 (some (.ref v) :: ls) (.ref v :: st) σ τ := mj_nx i150_86 rfl
theorem i150_87 : mj_ins 150 87 = some (.getfield 727, 90) := by decide +kernel
theorem e150_87 {ls : mj_L} {st : List Value} {σ : mj_S} {τ : mj_T} : mj_E 150 87 ls (.ref 62 :: st) σ τ = mj_E 150 90 ls (.int (σ 62 27) :: st) σ τ := mj_nx i150_87 rfl
theorem i150_90 : mj_ins 150 90 = some (.aload 0, 91) := by decide +kernel
theorem e150_90 {ls : mj_L} {st : List Value} {σ : mj_S} {τ : mj_T} {v : Nat} : mj_E 150 90 (some (.ref v) :: ls) st σ τ = mj_E 150 91 (some (.ref v) :: ls) (.ref v :: st) σ τ := mj_nx i150_90 rfl
theorem i150_91 : mj_ins 150 91 = some (.getfield 728, 94) := by decide +kernel
theorem e150_91 {ls : mj_L} {st : List Value} {σ : mj_S} {τ : mj_T} : mj_E 150 91 ls (.ref 62 :: st) σ τ = mj_E 150 94 ls (.int (σ 62 28) :: st) σ τ := mj_nx i150_91 rfl
theorem i150_94 : mj_ins 150 94 = some (.iadd, 95) := by decide +kernel
theorem e150_94 {ls : mj_L} {st : List Value} {σ : mj_S} {τ : mj_T} {x y : Int32} : mj_E 150 94 ls (.int y :: .int x :: st) σ τ = mj_E 150 95 ls (.int (x + y) :: st) σ τ := mj_nx i150_94 rfl
theorem i150_95 : mj_ins 150 95 = some (.laload, 96) := by decide +kernel
theorem e150_95 {ls : mj_L} {st : List Value} {σ : mj_S} {τ : mj_T} {x : Int32} {k : Nat} : mj_E 150 95 ls (.int x :: .ref k :: st) σ τ = if mj_ib (mj_ll k) x = true then mj_E 150 96 ls (.long (τ k x.toNatClampNeg) :: st) σ τ else none := mj_lald i150_95
theorem i150_96 : mj_ins 150 96 = some (.l2i, 97) := by decide +kernel
theorem e150_96 {ls : mj_L} {st : List Value} {σ : mj_S} {τ : mj_T} {x : Int64} : mj_E 150 96 ls (.long x :: st) σ τ = mj_E 150 97 ls (.int x.toInt32 :: st) σ τ := mj_nx i150_96 rfl
theorem i150_97 : mj_ins 150 97 = some (.iconst (32), 99) := by decide +kernel
theorem e150_97 {ls : mj_L} {st : List Value} {σ : mj_S} {τ : mj_T} : mj_E 150 97 ls st σ τ = mj_E 150 99 ls (.int (nI 32) :: st) σ τ := mj_nx i150_97 rfl
theorem i150_99 : mj_ins 150 99 = some (.if_icmp .eq 111, 102) := by decide +kernel
theorem e150_99 {ls : mj_L} {st : List Value} {σ : mj_S} {τ : mj_T} {x y : Int32} : mj_E 150 99 ls (.int y :: .int x :: st) σ τ = if x = y then mj_E 150 111 ls st σ τ else mj_E 150 102 ls st σ τ := (mj_ifi i150_99).trans (mj_cdT rfl)
theorem i150_102 : mj_ins 150 102 = some (.aload 0, 103) := by decide +kernel
theorem e150_102 {ls : mj_L} {st : List Value} {σ : mj_S} {τ : mj_T} {v : Nat} : mj_E 150 102 (some (.ref v) :: ls) st σ τ = mj_E 150 103 (some (.ref v) :: ls) (.ref v :: st) σ τ := mj_nx i150_102 rfl
theorem i150_103 : mj_ins 150 103 = some (.aload 0, 104) := by decide +kernel
theorem e150_103 {ls : mj_L} {st : List Value} {σ : mj_S} {τ : mj_T} {v : Nat} : mj_E 150 103 (some (.ref v) :: ls) st σ τ = mj_E 150 104 (some (.ref v) :: ls) (.ref v :: st) σ τ := mj_nx i150_103 rfl
theorem i150_104 : mj_ins 150 104 = some (.getfield 728, 107) := by decide +kernel
theorem e150_104 {ls : mj_L} {st : List Value} {σ : mj_S} {τ : mj_T} : mj_E 150 104 ls (.ref 62 :: st) σ τ = mj_E 150 107 ls (.int (σ 62 28) :: st) σ τ := mj_nx i150_104 rfl
theorem i150_107 : mj_ins 150 107 = some (.invokevirtual 144, 110) := by decide +kernel
theorem e150_107 {ls : mj_L} {σ : mj_S} {τ : mj_T} {r : Nat} {x0 : Int32} : mj_E 150 107 ls [.int x0, .ref r] σ τ = if mj_rcv r 7 = true then mj_bd (mj_C 144 [.ref r, .int x0] σ τ) (mj_K 150 110 ls []) else none := mj_clV (as := [.int x0]) (r := []) i150_107 (by decide +kernel : mj_vk 150 144 1 0 2 false = true) (by decide +kernel)
theorem i150_110 : mj_ins 150 110 = some (.ireturn, 111) := by decide +kernel
theorem e150_110 {ls : mj_L} {σ : mj_S} {τ : mj_T} {v : Int32} : mj_E 150 110 ls [.int v] σ τ = if mj_ok (some .boolean) v = true then some (some (.int v), σ, τ) else none := mj_zrt i150_110 rfl
theorem i150_111 : mj_ins 150 111 = some (.aload 0, 112) := by decide +kernel
theorem e150_111 {ls : mj_L} {st : List Value} {σ : mj_S} {τ : mj_T} {v : Nat} : mj_E 150 111 (some (.ref v) :: ls) st σ τ = mj_E 150 112 (some (.ref v) :: ls) (.ref v :: st) σ τ := mj_nx i150_111 rfl
theorem i150_112 : mj_ins 150 112 = some (.dup, 113) := by decide +kernel
theorem e150_112 {ls : mj_L} {st : List Value} {σ : mj_S} {τ : mj_T} {v : Nat} : mj_E 150 112 ls (.ref v :: st) σ τ = mj_E 150 113 ls (.ref v :: .ref v :: st) σ τ := mj_nx i150_112 rfl
theorem i150_113 : mj_ins 150 113 = some (.getfield 728, 116) := by decide +kernel
theorem e150_113 {ls : mj_L} {st : List Value} {σ : mj_S} {τ : mj_T} : mj_E 150 113 ls (.ref 62 :: st) σ τ = mj_E 150 116 ls (.int (σ 62 28) :: st) σ τ := mj_nx i150_113 rfl
theorem i150_116 : mj_ins 150 116 = some (.iconst (1), 117) := by decide +kernel
theorem e150_116 {ls : mj_L} {st : List Value} {σ : mj_S} {τ : mj_T} : mj_E 150 116 ls st σ τ = mj_E 150 117 ls (.int (nI 1) :: st) σ τ := mj_nx i150_116 rfl
theorem i150_117 : mj_ins 150 117 = some (.iadd, 118) := by decide +kernel
theorem e150_117 {ls : mj_L} {st : List Value} {σ : mj_S} {τ : mj_T} {x y : Int32} : mj_E 150 117 ls (.int y :: .int x :: st) σ τ = mj_E 150 118 ls (.int (x + y) :: st) σ τ := mj_nx i150_117 rfl
theorem i150_118 : mj_ins 150 118 = some (.putfield 728, 121) := by decide +kernel
theorem e150_118 {ls : mj_L} {st : List Value} {σ : mj_S} {τ : mj_T} {v : Int32} : mj_E 150 118 ls (.int v :: .ref 62 :: st) σ τ = mj_E 150 121 ls st (mj_up σ 62 28 v) τ := mj_nx i150_118 rfl
theorem i150_121 : mj_ins 150 121 = some (.aload 0, 122) := by decide +kernel
theorem e150_121 {ls : mj_L} {st : List Value} {σ : mj_S} {τ : mj_T} {v : Nat} : mj_E 150 121 (some (.ref v) :: ls) st σ τ = mj_E 150 122 (some (.ref v) :: ls) (.ref v :: st) σ τ := mj_nx i150_121 rfl
theorem i150_122 : mj_ins 150 122 = some (.getfield 728, 125) := by decide +kernel
theorem e150_122 {ls : mj_L} {st : List Value} {σ : mj_S} {τ : mj_T} : mj_E 150 122 ls (.ref 62 :: st) σ τ = mj_E 150 125 ls (.int (σ 62 28) :: st) σ τ := mj_nx i150_122 rfl
theorem i150_125 : mj_ins 150 125 = some (.istore 3, 126) := by decide +kernel
theorem e150_125 {ls : mj_L} {st : List Value} {σ : mj_S} {τ : mj_T} {a0 a1 a2 a3 : Option Value} {v : Int32} : mj_E 150 125 (a0 :: a1 :: a2 :: a3 :: ls) (.int v :: st) σ τ = mj_E 150 126 (a0 :: a1 :: a2 :: some (.int v) :: ls) st σ τ := mj_nx i150_125 rfl
theorem i150_126 : mj_ins 150 126 = some (.aload 0, 127) := by decide +kernel
theorem e150_126 {ls : mj_L} {st : List Value} {σ : mj_S} {τ : mj_T} {v : Nat} : mj_E 150 126 (some (.ref v) :: ls) st σ τ = mj_E 150 127 (some (.ref v) :: ls) (.ref v :: st) σ τ := mj_nx i150_126 rfl
theorem i150_127 : mj_ins 150 127 = some (.invokevirtual 148, 130) := by decide +kernel
theorem e150_127 {ls : mj_L} {σ : mj_S} {τ : mj_T} {r : Nat} : mj_E 150 127 ls [.ref r] σ τ = if mj_rcv r 7 = true then mj_bd (mj_C 148 [.ref r] σ τ) (mj_K 150 130 ls []) else none := mj_clV (as := []) (r := []) i150_127 (by decide +kernel : mj_vk 150 148 0 0 1 false = true) (by decide +kernel)
theorem i150_130 : mj_ins 150 130 = some (.ifCond .ne 135, 133) := by decide +kernel
theorem e150_130 {ls : mj_L} {st : List Value} {σ : mj_S} {τ : mj_T} {x : Int32} : mj_E 150 130 ls (.int x :: st) σ τ = if x = 0 then mj_E 150 133 ls st σ τ else mj_E 150 135 ls st σ τ := (mj_ifc i150_130).trans (mj_cdF rfl)
theorem i150_133 : mj_ins 150 133 = some (.iconst (0), 134) := by decide +kernel
theorem e150_133 {ls : mj_L} {st : List Value} {σ : mj_S} {τ : mj_T} : mj_E 150 133 ls st σ τ = mj_E 150 134 ls (.int (nI 0) :: st) σ τ := mj_nx i150_133 rfl
theorem i150_134 : mj_ins 150 134 = some (.ireturn, 135) := by decide +kernel
theorem e150_134 {ls : mj_L} {σ : mj_S} {τ : mj_T} {v : Int32} : mj_E 150 134 ls [.int v] σ τ = if mj_ok (some .boolean) v = true then some (some (.int v), σ, τ) else none := mj_zrt i150_134 rfl
theorem i150_135 : mj_ins 150 135 = some (.aload 0, 136) := by decide +kernel
theorem e150_135 {ls : mj_L} {st : List Value} {σ : mj_S} {τ : mj_T} {v : Nat} : mj_E 150 135 (some (.ref v) :: ls) st σ τ = mj_E 150 136 (some (.ref v) :: ls) (.ref v :: st) σ τ := mj_nx i150_135 rfl
theorem i150_136 : mj_ins 150 136 = some (.iload 1, 137) := by decide +kernel
theorem e150_136 {ls : mj_L} {st : List Value} {σ : mj_S} {τ : mj_T} {a0 : Option Value} {v : Int32} : mj_E 150 136 (a0 :: some (.int v) :: ls) st σ τ = mj_E 150 137 (a0 :: some (.int v) :: ls) (.int v :: st) σ τ := mj_nx i150_136 rfl
theorem i150_137 : mj_ins 150 137 = some (.iload 2, 138) := by decide +kernel
theorem e150_137 {ls : mj_L} {st : List Value} {σ : mj_S} {τ : mj_T} {a0 a1 : Option Value} {v : Int32} : mj_E 150 137 (a0 :: a1 :: some (.int v) :: ls) st σ τ = mj_E 150 138 (a0 :: a1 :: some (.int v) :: ls) (.int v :: st) σ τ := mj_nx i150_137 rfl
theorem i150_138 : mj_ins 150 138 = some (.invokevirtual 149, 141) := by decide +kernel
theorem e150_138 {ls : mj_L} {σ : mj_S} {τ : mj_T} {r : Nat} {x0 : Int32} {x1 : Int32} : mj_E 150 138 ls [.int x1, .int x0, .ref r] σ τ = if mj_rcv r 7 = true then mj_bd (mj_C 149 [.ref r, .int x0, .int x1] σ τ) (mj_K 150 141 ls []) else none := mj_clV (as := [.int x0, .int x1]) (r := []) i150_138 (by decide +kernel : mj_vk 150 149 2 0 3 false = true) (by decide +kernel)
theorem i150_141 : mj_ins 150 141 = some (.ifCond .ne 150, 144) := by decide +kernel
theorem e150_141 {ls : mj_L} {st : List Value} {σ : mj_S} {τ : mj_T} {x : Int32} : mj_E 150 141 ls (.int x :: st) σ τ = if x = 0 then mj_E 150 144 ls st σ τ else mj_E 150 150 ls st σ τ := (mj_ifc i150_141).trans (mj_cdF rfl)
theorem i150_144 : mj_ins 150 144 = some (.aload 0, 145) := by decide +kernel
theorem e150_144 {ls : mj_L} {st : List Value} {σ : mj_S} {τ : mj_T} {v : Nat} : mj_E 150 144 (some (.ref v) :: ls) st σ τ = mj_E 150 145 (some (.ref v) :: ls) (.ref v :: st) σ τ := mj_nx i150_144 rfl
theorem i150_145 : mj_ins 150 145 = some (.iload 3, 146) := by decide +kernel
theorem e150_145 {ls : mj_L} {st : List Value} {σ : mj_S} {τ : mj_T} {a0 a1 a2 : Option Value} {v : Int32} : mj_E 150 145 (a0 :: a1 :: a2 :: some (.int v) :: ls) st σ τ = mj_E 150 146 (a0 :: a1 :: a2 :: some (.int v) :: ls) (.int v :: st) σ τ := mj_nx i150_145 rfl
theorem i150_146 : mj_ins 150 146 = some (.invokevirtual 144, 149) := by decide +kernel
theorem e150_146 {ls : mj_L} {σ : mj_S} {τ : mj_T} {r : Nat} {x0 : Int32} : mj_E 150 146 ls [.int x0, .ref r] σ τ = if mj_rcv r 7 = true then mj_bd (mj_C 144 [.ref r, .int x0] σ τ) (mj_K 150 149 ls []) else none := mj_clV (as := [.int x0]) (r := []) i150_146 (by decide +kernel : mj_vk 150 144 1 0 2 false = true) (by decide +kernel)
theorem i150_149 : mj_ins 150 149 = some (.ireturn, 150) := by decide +kernel
theorem e150_149 {ls : mj_L} {σ : mj_S} {τ : mj_T} {v : Int32} : mj_E 150 149 ls [.int v] σ τ = if mj_ok (some .boolean) v = true then some (some (.int v), σ, τ) else none := mj_zrt i150_149 rfl
theorem i150_150 : mj_ins 150 150 = some (.aload 0, 151) := by decide +kernel
theorem e150_150 {ls : mj_L} {st : List Value} {σ : mj_S} {τ : mj_T} {v : Nat} : mj_E 150 150 (some (.ref v) :: ls) st σ τ = mj_E 150 151 (some (.ref v) :: ls) (.ref v :: st) σ τ := mj_nx i150_150 rfl
theorem i150_151 : mj_ins 150 151 = some (.getfield 726, 154) := by decide +kernel
theorem e150_151 {ls : mj_L} {st : List Value} {σ : mj_S} {τ : mj_T} : mj_E 150 151 ls (.ref 62 :: st) σ τ = mj_E 150 154 ls (.ref 83 :: st) σ τ := mj_nx i150_151 rfl
theorem i150_154 : mj_ins 150 154 = some (.iload 2, 155) := by decide +kernel
theorem e150_154 {ls : mj_L} {st : List Value} {σ : mj_S} {τ : mj_T} {a0 a1 : Option Value} {v : Int32} : mj_E 150 154 (a0 :: a1 :: some (.int v) :: ls) st σ τ = mj_E 150 155 (a0 :: a1 :: some (.int v) :: ls) (.int v :: st) σ τ := mj_nx i150_154 rfl
theorem i150_155 : mj_ins 150 155 = some (.aload 0, 156) := by decide +kernel
theorem e150_155 {ls : mj_L} {st : List Value} {σ : mj_S} {τ : mj_T} {v : Nat} : mj_E 150 155 (some (.ref v) :: ls) st σ τ = mj_E 150 156 (some (.ref v) :: ls) (.ref v :: st) σ τ := mj_nx i150_155 rfl
theorem i150_156 : mj_ins 150 156 = some (.getfield 730, 159) := by decide +kernel
theorem e150_156 {ls : mj_L} {st : List Value} {σ : mj_S} {τ : mj_T} : mj_E 150 156 ls (.ref 62 :: st) σ τ = mj_E 150 159 ls (.int (σ 62 30) :: st) σ τ := mj_nx i150_156 rfl
theorem i150_159 : mj_ins 150 159 = some (.iastore, 160) := by decide +kernel
theorem e150_159 {ls : mj_L} {st : List Value} {σ : mj_S} {τ : mj_T} {x v : Int32} {k : Nat} : mj_E 150 159 ls (.int v :: .int x :: .ref k :: st) σ τ = if mj_ib (mj_lw k) x = true then mj_E 150 160 ls st (mj_up σ k x.toNatClampNeg v) τ else none := mj_ast i150_159
theorem i150_160 : mj_ins 150 160 = some (.iinc 2 (1), 163) := by decide +kernel
theorem e150_160 {ls : mj_L} {st : List Value} {σ : mj_S} {τ : mj_T} {a0 a1 : Option Value} {v : Int32} : mj_E 150 160 (a0 :: a1 :: some (.int v) :: ls) st σ τ = mj_E 150 163 (a0 :: a1 :: some (.int (v + nI 1)) :: ls) st σ τ := mj_nx i150_160 rfl
theorem i150_163 : mj_ins 150 163 = some (.goto 57, 166) := by decide +kernel
theorem e150_163 {ls : mj_L} {st : List Value} {σ : mj_S} {τ : mj_T} : mj_E 150 163 ls st σ τ = mj_E 150 57 ls st σ τ := mj_nx i150_163 rfl
theorem i150_166 : mj_ins 150 166 = some (.iload 1, 167) := by decide +kernel
theorem e150_166 {ls : mj_L} {st : List Value} {σ : mj_S} {τ : mj_T} {a0 : Option Value} {v : Int32} : mj_E 150 166 (a0 :: some (.int v) :: ls) st σ τ = mj_E 150 167 (a0 :: some (.int v) :: ls) (.int v :: st) σ τ := mj_nx i150_166 rfl
theorem i150_167 : mj_ins 150 167 = some (.tableswitch 312 (0) (3) #[196, 228, 266, 292], 167) := by decide +kernel
theorem e150_167 {ls : mj_L} {st : List Value} {σ : mj_S} {τ : mj_T} {x : Int32} : mj_E 150 167 ls (.int x :: st) σ τ = if x = nI 0 then mj_E 150 196 ls st σ τ else if x = nI 1 then mj_E 150 228 ls st σ τ else if x = nI 2 then mj_E 150 266 ls st σ τ else if x = nI 3 then mj_E 150 292 ls st σ τ else mj_E 150 312 ls st σ τ := mj_tsw i150_167 (by decide)
theorem i150_196 : mj_ins 150 196 = some (.aload 0, 197) := by decide +kernel
theorem e150_196 {ls : mj_L} {st : List Value} {σ : mj_S} {τ : mj_T} {v : Nat} : mj_E 150 196 (some (.ref v) :: ls) st σ τ = mj_E 150 197 (some (.ref v) :: ls) (.ref v :: st) σ τ := mj_nx i150_196 rfl
theorem i150_197 : mj_ins 150 197 = some (.aload 0, 198) := by decide +kernel
theorem e150_197 {ls : mj_L} {st : List Value} {σ : mj_S} {τ : mj_T} {v : Nat} : mj_E 150 197 (some (.ref v) :: ls) st σ τ = mj_E 150 198 (some (.ref v) :: ls) (.ref v :: st) σ τ := mj_nx i150_197 rfl
theorem i150_198 : mj_ins 150 198 = some (.getfield 726, 201) := by decide +kernel
theorem e150_198 {ls : mj_L} {st : List Value} {σ : mj_S} {τ : mj_T} : mj_E 150 198 ls (.ref 62 :: st) σ τ = mj_E 150 201 ls (.ref 83 :: st) σ τ := mj_nx i150_198 rfl
theorem i150_201 : mj_ins 150 201 = some (.iconst (0), 202) := by decide +kernel
theorem e150_201 {ls : mj_L} {st : List Value} {σ : mj_S} {τ : mj_T} : mj_E 150 201 ls st σ τ = mj_E 150 202 ls (.int (nI 0) :: st) σ τ := mj_nx i150_201 rfl
theorem i150_202 : mj_ins 150 202 = some (.iaload, 203) := by decide +kernel
theorem e150_202 {ls : mj_L} {st : List Value} {σ : mj_S} {τ : mj_T} {x : Int32} {k : Nat} : mj_E 150 202 ls (.int x :: .ref k :: st) σ τ = if mj_ib (mj_li σ k) x = true then mj_E 150 203 ls (.int (σ k x.toNatClampNeg) :: st) σ τ else none := mj_ald i150_202
theorem i150_203 : mj_ins 150 203 = some (.aload 0, 204) := by decide +kernel
theorem e150_203 {ls : mj_L} {st : List Value} {σ : mj_S} {τ : mj_T} {v : Nat} : mj_E 150 203 (some (.ref v) :: ls) st σ τ = mj_E 150 204 (some (.ref v) :: ls) (.ref v :: st) σ τ := mj_nx i150_203 rfl
theorem i150_204 : mj_ins 150 204 = some (.getfield 726, 207) := by decide +kernel
theorem e150_204 {ls : mj_L} {st : List Value} {σ : mj_S} {τ : mj_T} : mj_E 150 204 ls (.ref 62 :: st) σ τ = mj_E 150 207 ls (.ref 83 :: st) σ τ := mj_nx i150_204 rfl
theorem i150_207 : mj_ins 150 207 = some (.iconst (1), 208) := by decide +kernel
theorem e150_207 {ls : mj_L} {st : List Value} {σ : mj_S} {τ : mj_T} : mj_E 150 207 ls st σ τ = mj_E 150 208 ls (.int (nI 1) :: st) σ τ := mj_nx i150_207 rfl
theorem i150_208 : mj_ins 150 208 = some (.iaload, 209) := by decide +kernel
theorem e150_208 {ls : mj_L} {st : List Value} {σ : mj_S} {τ : mj_T} {x : Int32} {k : Nat} : mj_E 150 208 ls (.int x :: .ref k :: st) σ τ = if mj_ib (mj_li σ k) x = true then mj_E 150 209 ls (.int (σ k x.toNatClampNeg) :: st) σ τ else none := mj_ald i150_208
theorem i150_209 : mj_ins 150 209 = some (.aload 0, 210) := by decide +kernel
theorem e150_209 {ls : mj_L} {st : List Value} {σ : mj_S} {τ : mj_T} {v : Nat} : mj_E 150 209 (some (.ref v) :: ls) st σ τ = mj_E 150 210 (some (.ref v) :: ls) (.ref v :: st) σ τ := mj_nx i150_209 rfl
theorem i150_210 : mj_ins 150 210 = some (.getfield 726, 213) := by decide +kernel
theorem e150_210 {ls : mj_L} {st : List Value} {σ : mj_S} {τ : mj_T} : mj_E 150 210 ls (.ref 62 :: st) σ τ = mj_E 150 213 ls (.ref 83 :: st) σ τ := mj_nx i150_210 rfl
theorem i150_213 : mj_ins 150 213 = some (.iconst (2), 214) := by decide +kernel
theorem e150_213 {ls : mj_L} {st : List Value} {σ : mj_S} {τ : mj_T} : mj_E 150 213 ls st σ τ = mj_E 150 214 ls (.int (nI 2) :: st) σ τ := mj_nx i150_213 rfl
theorem i150_214 : mj_ins 150 214 = some (.iaload, 215) := by decide +kernel
theorem e150_214 {ls : mj_L} {st : List Value} {σ : mj_S} {τ : mj_T} {x : Int32} {k : Nat} : mj_E 150 214 ls (.int x :: .ref k :: st) σ τ = if mj_ib (mj_li σ k) x = true then mj_E 150 215 ls (.int (σ k x.toNatClampNeg) :: st) σ τ else none := mj_ald i150_214
theorem i150_215 : mj_ins 150 215 = some (.aload 0, 216) := by decide +kernel
theorem e150_215 {ls : mj_L} {st : List Value} {σ : mj_S} {τ : mj_T} {v : Nat} : mj_E 150 215 (some (.ref v) :: ls) st σ τ = mj_E 150 216 (some (.ref v) :: ls) (.ref v :: st) σ τ := mj_nx i150_215 rfl
theorem i150_216 : mj_ins 150 216 = some (.getfield 726, 219) := by decide +kernel
theorem e150_216 {ls : mj_L} {st : List Value} {σ : mj_S} {τ : mj_T} : mj_E 150 216 ls (.ref 62 :: st) σ τ = mj_E 150 219 ls (.ref 83 :: st) σ τ := mj_nx i150_216 rfl
theorem i150_219 : mj_ins 150 219 = some (.iconst (3), 220) := by decide +kernel
theorem e150_219 {ls : mj_L} {st : List Value} {σ : mj_S} {τ : mj_T} : mj_E 150 219 ls st σ τ = mj_E 150 220 ls (.int (nI 3) :: st) σ τ := mj_nx i150_219 rfl
theorem i150_220 : mj_ins 150 220 = some (.iaload, 221) := by decide +kernel
theorem e150_220 {ls : mj_L} {st : List Value} {σ : mj_S} {τ : mj_T} {x : Int32} {k : Nat} : mj_E 150 220 ls (.int x :: .ref k :: st) σ τ = if mj_ib (mj_li σ k) x = true then mj_E 150 221 ls (.int (σ k x.toNatClampNeg) :: st) σ τ else none := mj_ald i150_220
theorem i150_221 : mj_ins 150 221 = some (.invokevirtual 132, 224) := by decide +kernel
theorem e150_221 {ls : mj_L} {σ : mj_S} {τ : mj_T} {r : Nat} {x0 : Int32} {x1 : Int32} {x2 : Int32} {x3 : Int32} : mj_E 150 221 ls [.int x3, .int x2, .int x1, .int x0, .ref r] σ τ = if mj_rcv r 7 = true then mj_bd (mj_C 132 [.ref r, .int x0, .int x1, .int x2, .int x3] σ τ) (mj_K 150 224 ls []) else none := mj_clV (as := [.int x0, .int x1, .int x2, .int x3]) (r := []) i150_221 (by decide +kernel : mj_vk 150 132 4 0 5 false = true) (by decide +kernel)
theorem i150_224 : mj_ins 150 224 = some (.pop, 225) := by decide +kernel
theorem e150_224 {ls : mj_L} {st : List Value} {σ : mj_S} {τ : mj_T} {v : Int32} : mj_E 150 224 ls (.int v :: st) σ τ = mj_E 150 225 ls st σ τ := mj_nx i150_224 rfl
theorem i150_225 : mj_ins 150 225 = some (.goto 322, 228) := by decide +kernel
theorem e150_225 {ls : mj_L} {st : List Value} {σ : mj_S} {τ : mj_T} : mj_E 150 225 ls st σ τ = mj_E 150 322 ls st σ τ := mj_nx i150_225 rfl
theorem i150_228 : mj_ins 150 228 = some (.aload 0, 229) := by decide +kernel
theorem e150_228 {ls : mj_L} {st : List Value} {σ : mj_S} {τ : mj_T} {v : Nat} : mj_E 150 228 (some (.ref v) :: ls) st σ τ = mj_E 150 229 (some (.ref v) :: ls) (.ref v :: st) σ τ := mj_nx i150_228 rfl
theorem i150_229 : mj_ins 150 229 = some (.aload 0, 230) := by decide +kernel
theorem e150_229 {ls : mj_L} {st : List Value} {σ : mj_S} {τ : mj_T} {v : Nat} : mj_E 150 229 (some (.ref v) :: ls) st σ τ = mj_E 150 230 (some (.ref v) :: ls) (.ref v :: st) σ τ := mj_nx i150_229 rfl
theorem i150_230 : mj_ins 150 230 = some (.getfield 726, 233) := by decide +kernel
theorem e150_230 {ls : mj_L} {st : List Value} {σ : mj_S} {τ : mj_T} : mj_E 150 230 ls (.ref 62 :: st) σ τ = mj_E 150 233 ls (.ref 83 :: st) σ τ := mj_nx i150_230 rfl
theorem i150_233 : mj_ins 150 233 = some (.iconst (0), 234) := by decide +kernel
theorem e150_233 {ls : mj_L} {st : List Value} {σ : mj_S} {τ : mj_T} : mj_E 150 233 ls st σ τ = mj_E 150 234 ls (.int (nI 0) :: st) σ τ := mj_nx i150_233 rfl
theorem i150_234 : mj_ins 150 234 = some (.iaload, 235) := by decide +kernel
theorem e150_234 {ls : mj_L} {st : List Value} {σ : mj_S} {τ : mj_T} {x : Int32} {k : Nat} : mj_E 150 234 ls (.int x :: .ref k :: st) σ τ = if mj_ib (mj_li σ k) x = true then mj_E 150 235 ls (.int (σ k x.toNatClampNeg) :: st) σ τ else none := mj_ald i150_234
theorem i150_235 : mj_ins 150 235 = some (.aload 0, 236) := by decide +kernel
theorem e150_235 {ls : mj_L} {st : List Value} {σ : mj_S} {τ : mj_T} {v : Nat} : mj_E 150 235 (some (.ref v) :: ls) st σ τ = mj_E 150 236 (some (.ref v) :: ls) (.ref v :: st) σ τ := mj_nx i150_235 rfl
theorem i150_236 : mj_ins 150 236 = some (.getfield 726, 239) := by decide +kernel
theorem e150_236 {ls : mj_L} {st : List Value} {σ : mj_S} {τ : mj_T} : mj_E 150 236 ls (.ref 62 :: st) σ τ = mj_E 150 239 ls (.ref 83 :: st) σ τ := mj_nx i150_236 rfl
theorem i150_239 : mj_ins 150 239 = some (.iconst (1), 240) := by decide +kernel
theorem e150_239 {ls : mj_L} {st : List Value} {σ : mj_S} {τ : mj_T} : mj_E 150 239 ls st σ τ = mj_E 150 240 ls (.int (nI 1) :: st) σ τ := mj_nx i150_239 rfl
theorem i150_240 : mj_ins 150 240 = some (.iaload, 241) := by decide +kernel
theorem e150_240 {ls : mj_L} {st : List Value} {σ : mj_S} {τ : mj_T} {x : Int32} {k : Nat} : mj_E 150 240 ls (.int x :: .ref k :: st) σ τ = if mj_ib (mj_li σ k) x = true then mj_E 150 241 ls (.int (σ k x.toNatClampNeg) :: st) σ τ else none := mj_ald i150_240
theorem i150_241 : mj_ins 150 241 = some (.aload 0, 242) := by decide +kernel
theorem e150_241 {ls : mj_L} {st : List Value} {σ : mj_S} {τ : mj_T} {v : Nat} : mj_E 150 241 (some (.ref v) :: ls) st σ τ = mj_E 150 242 (some (.ref v) :: ls) (.ref v :: st) σ τ := mj_nx i150_241 rfl
theorem i150_242 : mj_ins 150 242 = some (.getfield 726, 245) := by decide +kernel
theorem e150_242 {ls : mj_L} {st : List Value} {σ : mj_S} {τ : mj_T} : mj_E 150 242 ls (.ref 62 :: st) σ τ = mj_E 150 245 ls (.ref 83 :: st) σ τ := mj_nx i150_242 rfl
theorem i150_245 : mj_ins 150 245 = some (.iconst (2), 246) := by decide +kernel
theorem e150_245 {ls : mj_L} {st : List Value} {σ : mj_S} {τ : mj_T} : mj_E 150 245 ls st σ τ = mj_E 150 246 ls (.int (nI 2) :: st) σ τ := mj_nx i150_245 rfl
theorem i150_246 : mj_ins 150 246 = some (.iaload, 247) := by decide +kernel
theorem e150_246 {ls : mj_L} {st : List Value} {σ : mj_S} {τ : mj_T} {x : Int32} {k : Nat} : mj_E 150 246 ls (.int x :: .ref k :: st) σ τ = if mj_ib (mj_li σ k) x = true then mj_E 150 247 ls (.int (σ k x.toNatClampNeg) :: st) σ τ else none := mj_ald i150_246
theorem i150_247 : mj_ins 150 247 = some (.aload 0, 248) := by decide +kernel
theorem e150_247 {ls : mj_L} {st : List Value} {σ : mj_S} {τ : mj_T} {v : Nat} : mj_E 150 247 (some (.ref v) :: ls) st σ τ = mj_E 150 248 (some (.ref v) :: ls) (.ref v :: st) σ τ := mj_nx i150_247 rfl
theorem i150_248 : mj_ins 150 248 = some (.getfield 726, 251) := by decide +kernel
theorem e150_248 {ls : mj_L} {st : List Value} {σ : mj_S} {τ : mj_T} : mj_E 150 248 ls (.ref 62 :: st) σ τ = mj_E 150 251 ls (.ref 83 :: st) σ τ := mj_nx i150_248 rfl
theorem i150_251 : mj_ins 150 251 = some (.iconst (3), 252) := by decide +kernel
theorem e150_251 {ls : mj_L} {st : List Value} {σ : mj_S} {τ : mj_T} : mj_E 150 251 ls st σ τ = mj_E 150 252 ls (.int (nI 3) :: st) σ τ := mj_nx i150_251 rfl
theorem i150_252 : mj_ins 150 252 = some (.iaload, 253) := by decide +kernel
theorem e150_252 {ls : mj_L} {st : List Value} {σ : mj_S} {τ : mj_T} {x : Int32} {k : Nat} : mj_E 150 252 ls (.int x :: .ref k :: st) σ τ = if mj_ib (mj_li σ k) x = true then mj_E 150 253 ls (.int (σ k x.toNatClampNeg) :: st) σ τ else none := mj_ald i150_252
theorem i150_253 : mj_ins 150 253 = some (.aload 0, 254) := by decide +kernel
theorem e150_253 {ls : mj_L} {st : List Value} {σ : mj_S} {τ : mj_T} {v : Nat} : mj_E 150 253 (some (.ref v) :: ls) st σ τ = mj_E 150 254 (some (.ref v) :: ls) (.ref v :: st) σ τ := mj_nx i150_253 rfl
theorem i150_254 : mj_ins 150 254 = some (.getfield 726, 257) := by decide +kernel
theorem e150_254 {ls : mj_L} {st : List Value} {σ : mj_S} {τ : mj_T} : mj_E 150 254 ls (.ref 62 :: st) σ τ = mj_E 150 257 ls (.ref 83 :: st) σ τ := mj_nx i150_254 rfl
theorem i150_257 : mj_ins 150 257 = some (.iconst (4), 258) := by decide +kernel
theorem e150_257 {ls : mj_L} {st : List Value} {σ : mj_S} {τ : mj_T} : mj_E 150 257 ls st σ τ = mj_E 150 258 ls (.int (nI 4) :: st) σ τ := mj_nx i150_257 rfl
theorem i150_258 : mj_ins 150 258 = some (.iaload, 259) := by decide +kernel
theorem e150_258 {ls : mj_L} {st : List Value} {σ : mj_S} {τ : mj_T} {x : Int32} {k : Nat} : mj_E 150 258 ls (.int x :: .ref k :: st) σ τ = if mj_ib (mj_li σ k) x = true then mj_E 150 259 ls (.int (σ k x.toNatClampNeg) :: st) σ τ else none := mj_ald i150_258
theorem i150_259 : mj_ins 150 259 = some (.invokevirtual 133, 262) := by decide +kernel
theorem e150_259 {ls : mj_L} {σ : mj_S} {τ : mj_T} {r : Nat} {x0 : Int32} {x1 : Int32} {x2 : Int32} {x3 : Int32} {x4 : Int32} : mj_E 150 259 ls [.int x4, .int x3, .int x2, .int x1, .int x0, .ref r] σ τ = if mj_rcv r 7 = true then mj_bd (mj_C 133 [.ref r, .int x0, .int x1, .int x2, .int x3, .int x4] σ τ) (mj_K 150 262 ls []) else none := mj_clV (as := [.int x0, .int x1, .int x2, .int x3, .int x4]) (r := []) i150_259 (by decide +kernel : mj_vk 150 133 5 0 6 false = true) (by decide +kernel)
theorem i150_262 : mj_ins 150 262 = some (.pop, 263) := by decide +kernel
theorem e150_262 {ls : mj_L} {st : List Value} {σ : mj_S} {τ : mj_T} {v : Int32} : mj_E 150 262 ls (.int v :: st) σ τ = mj_E 150 263 ls st σ τ := mj_nx i150_262 rfl
theorem i150_263 : mj_ins 150 263 = some (.goto 322, 266) := by decide +kernel
theorem e150_263 {ls : mj_L} {st : List Value} {σ : mj_S} {τ : mj_T} : mj_E 150 263 ls st σ τ = mj_E 150 322 ls st σ τ := mj_nx i150_263 rfl
theorem i150_266 : mj_ins 150 266 = some (.aload 0, 267) := by decide +kernel
theorem e150_266 {ls : mj_L} {st : List Value} {σ : mj_S} {τ : mj_T} {v : Nat} : mj_E 150 266 (some (.ref v) :: ls) st σ τ = mj_E 150 267 (some (.ref v) :: ls) (.ref v :: st) σ τ := mj_nx i150_266 rfl
theorem i150_267 : mj_ins 150 267 = some (.aload 0, 268) := by decide +kernel
theorem e150_267 {ls : mj_L} {st : List Value} {σ : mj_S} {τ : mj_T} {v : Nat} : mj_E 150 267 (some (.ref v) :: ls) st σ τ = mj_E 150 268 (some (.ref v) :: ls) (.ref v :: st) σ τ := mj_nx i150_267 rfl
theorem i150_268 : mj_ins 150 268 = some (.getfield 726, 271) := by decide +kernel
theorem e150_268 {ls : mj_L} {st : List Value} {σ : mj_S} {τ : mj_T} : mj_E 150 268 ls (.ref 62 :: st) σ τ = mj_E 150 271 ls (.ref 83 :: st) σ τ := mj_nx i150_268 rfl
theorem i150_271 : mj_ins 150 271 = some (.iconst (0), 272) := by decide +kernel
theorem e150_271 {ls : mj_L} {st : List Value} {σ : mj_S} {τ : mj_T} : mj_E 150 271 ls st σ τ = mj_E 150 272 ls (.int (nI 0) :: st) σ τ := mj_nx i150_271 rfl
theorem i150_272 : mj_ins 150 272 = some (.iaload, 273) := by decide +kernel
theorem e150_272 {ls : mj_L} {st : List Value} {σ : mj_S} {τ : mj_T} {x : Int32} {k : Nat} : mj_E 150 272 ls (.int x :: .ref k :: st) σ τ = if mj_ib (mj_li σ k) x = true then mj_E 150 273 ls (.int (σ k x.toNatClampNeg) :: st) σ τ else none := mj_ald i150_272
theorem i150_273 : mj_ins 150 273 = some (.aload 0, 274) := by decide +kernel
theorem e150_273 {ls : mj_L} {st : List Value} {σ : mj_S} {τ : mj_T} {v : Nat} : mj_E 150 273 (some (.ref v) :: ls) st σ τ = mj_E 150 274 (some (.ref v) :: ls) (.ref v :: st) σ τ := mj_nx i150_273 rfl
theorem i150_274 : mj_ins 150 274 = some (.getfield 726, 277) := by decide +kernel
theorem e150_274 {ls : mj_L} {st : List Value} {σ : mj_S} {τ : mj_T} : mj_E 150 274 ls (.ref 62 :: st) σ τ = mj_E 150 277 ls (.ref 83 :: st) σ τ := mj_nx i150_274 rfl
theorem i150_277 : mj_ins 150 277 = some (.iconst (1), 278) := by decide +kernel
theorem e150_277 {ls : mj_L} {st : List Value} {σ : mj_S} {τ : mj_T} : mj_E 150 277 ls st σ τ = mj_E 150 278 ls (.int (nI 1) :: st) σ τ := mj_nx i150_277 rfl
theorem i150_278 : mj_ins 150 278 = some (.iaload, 279) := by decide +kernel
theorem e150_278 {ls : mj_L} {st : List Value} {σ : mj_S} {τ : mj_T} {x : Int32} {k : Nat} : mj_E 150 278 ls (.int x :: .ref k :: st) σ τ = if mj_ib (mj_li σ k) x = true then mj_E 150 279 ls (.int (σ k x.toNatClampNeg) :: st) σ τ else none := mj_ald i150_278
theorem i150_279 : mj_ins 150 279 = some (.aload 0, 280) := by decide +kernel
theorem e150_279 {ls : mj_L} {st : List Value} {σ : mj_S} {τ : mj_T} {v : Nat} : mj_E 150 279 (some (.ref v) :: ls) st σ τ = mj_E 150 280 (some (.ref v) :: ls) (.ref v :: st) σ τ := mj_nx i150_279 rfl
theorem i150_280 : mj_ins 150 280 = some (.getfield 726, 283) := by decide +kernel
theorem e150_280 {ls : mj_L} {st : List Value} {σ : mj_S} {τ : mj_T} : mj_E 150 280 ls (.ref 62 :: st) σ τ = mj_E 150 283 ls (.ref 83 :: st) σ τ := mj_nx i150_280 rfl
theorem i150_283 : mj_ins 150 283 = some (.iconst (2), 284) := by decide +kernel
theorem e150_283 {ls : mj_L} {st : List Value} {σ : mj_S} {τ : mj_T} : mj_E 150 283 ls st σ τ = mj_E 150 284 ls (.int (nI 2) :: st) σ τ := mj_nx i150_283 rfl
theorem i150_284 : mj_ins 150 284 = some (.iaload, 285) := by decide +kernel
theorem e150_284 {ls : mj_L} {st : List Value} {σ : mj_S} {τ : mj_T} {x : Int32} {k : Nat} : mj_E 150 284 ls (.int x :: .ref k :: st) σ τ = if mj_ib (mj_li σ k) x = true then mj_E 150 285 ls (.int (σ k x.toNatClampNeg) :: st) σ τ else none := mj_ald i150_284
theorem i150_285 : mj_ins 150 285 = some (.invokevirtual 139, 288) := by decide +kernel
theorem e150_285 {ls : mj_L} {σ : mj_S} {τ : mj_T} {r : Nat} {x0 : Int32} {x1 : Int32} {x2 : Int32} : mj_E 150 285 ls [.int x2, .int x1, .int x0, .ref r] σ τ = if mj_rcv r 7 = true then mj_bd (mj_C 139 [.ref r, .int x0, .int x1, .int x2] σ τ) (mj_K 150 288 ls []) else none := mj_clV (as := [.int x0, .int x1, .int x2]) (r := []) i150_285 (by decide +kernel : mj_vk 150 139 3 0 4 false = true) (by decide +kernel)
theorem i150_288 : mj_ins 150 288 = some (.pop, 289) := by decide +kernel
theorem e150_288 {ls : mj_L} {st : List Value} {σ : mj_S} {τ : mj_T} {v : Int32} : mj_E 150 288 ls (.int v :: st) σ τ = mj_E 150 289 ls st σ τ := mj_nx i150_288 rfl
theorem i150_289 : mj_ins 150 289 = some (.goto 322, 292) := by decide +kernel
theorem e150_289 {ls : mj_L} {st : List Value} {σ : mj_S} {τ : mj_T} : mj_E 150 289 ls st σ τ = mj_E 150 322 ls st σ τ := mj_nx i150_289 rfl
theorem i150_292 : mj_ins 150 292 = some (.aload 0, 293) := by decide +kernel
theorem e150_292 {ls : mj_L} {st : List Value} {σ : mj_S} {τ : mj_T} {v : Nat} : mj_E 150 292 (some (.ref v) :: ls) st σ τ = mj_E 150 293 (some (.ref v) :: ls) (.ref v :: st) σ τ := mj_nx i150_292 rfl
theorem i150_293 : mj_ins 150 293 = some (.getfield 714, 296) := by decide +kernel
theorem e150_293 {ls : mj_L} {st : List Value} {σ : mj_S} {τ : mj_T} : mj_E 150 293 ls (.ref 62 :: st) σ τ = mj_E 150 296 ls (.ref 71 :: st) σ τ := mj_nx i150_293 rfl
theorem i150_296 : mj_ins 150 296 = some (.aload 0, 297) := by decide +kernel
theorem e150_296 {ls : mj_L} {st : List Value} {σ : mj_S} {τ : mj_T} {v : Nat} : mj_E 150 296 (some (.ref v) :: ls) st σ τ = mj_E 150 297 (some (.ref v) :: ls) (.ref v :: st) σ τ := mj_nx i150_296 rfl
theorem i150_297 : mj_ins 150 297 = some (.getfield 726, 300) := by decide +kernel
theorem e150_297 {ls : mj_L} {st : List Value} {σ : mj_S} {τ : mj_T} : mj_E 150 297 ls (.ref 62 :: st) σ τ = mj_E 150 300 ls (.ref 83 :: st) σ τ := mj_nx i150_297 rfl
theorem i150_300 : mj_ins 150 300 = some (.iconst (0), 301) := by decide +kernel
theorem e150_300 {ls : mj_L} {st : List Value} {σ : mj_S} {τ : mj_T} : mj_E 150 300 ls st σ τ = mj_E 150 301 ls (.int (nI 0) :: st) σ τ := mj_nx i150_300 rfl
theorem i150_301 : mj_ins 150 301 = some (.iaload, 302) := by decide +kernel
theorem e150_301 {ls : mj_L} {st : List Value} {σ : mj_S} {τ : mj_T} {x : Int32} {k : Nat} : mj_E 150 301 ls (.int x :: .ref k :: st) σ τ = if mj_ib (mj_li σ k) x = true then mj_E 150 302 ls (.int (σ k x.toNatClampNeg) :: st) σ τ else none := mj_ald i150_301
theorem i150_302 : mj_ins 150 302 = some (.aload 0, 303) := by decide +kernel
theorem e150_302 {ls : mj_L} {st : List Value} {σ : mj_S} {τ : mj_T} {v : Nat} : mj_E 150 302 (some (.ref v) :: ls) st σ τ = mj_E 150 303 (some (.ref v) :: ls) (.ref v :: st) σ τ := mj_nx i150_302 rfl
theorem i150_303 : mj_ins 150 303 = some (.getfield 726, 306) := by decide +kernel
theorem e150_303 {ls : mj_L} {st : List Value} {σ : mj_S} {τ : mj_T} : mj_E 150 303 ls (.ref 62 :: st) σ τ = mj_E 150 306 ls (.ref 83 :: st) σ τ := mj_nx i150_303 rfl
theorem i150_306 : mj_ins 150 306 = some (.iconst (1), 307) := by decide +kernel
theorem e150_306 {ls : mj_L} {st : List Value} {σ : mj_S} {τ : mj_T} : mj_E 150 306 ls st σ τ = mj_E 150 307 ls (.int (nI 1) :: st) σ τ := mj_nx i150_306 rfl
theorem i150_307 : mj_ins 150 307 = some (.iaload, 308) := by decide +kernel
theorem e150_307 {ls : mj_L} {st : List Value} {σ : mj_S} {τ : mj_T} {x : Int32} {k : Nat} : mj_E 150 307 ls (.int x :: .ref k :: st) σ τ = if mj_ib (mj_li σ k) x = true then mj_E 150 308 ls (.int (σ k x.toNatClampNeg) :: st) σ τ else none := mj_ald i150_307
theorem i150_308 : mj_ins 150 308 = some (.iastore, 309) := by decide +kernel
theorem e150_308 {ls : mj_L} {st : List Value} {σ : mj_S} {τ : mj_T} {x v : Int32} {k : Nat} : mj_E 150 308 ls (.int v :: .int x :: .ref k :: st) σ τ = if mj_ib (mj_lw k) x = true then mj_E 150 309 ls st (mj_up σ k x.toNatClampNeg v) τ else none := mj_ast i150_308
theorem i150_309 : mj_ins 150 309 = some (.goto 322, 312) := by decide +kernel
theorem e150_309 {ls : mj_L} {st : List Value} {σ : mj_S} {τ : mj_T} : mj_E 150 309 ls st σ τ = mj_E 150 322 ls st σ τ := mj_nx i150_309 rfl
theorem i150_312 : mj_ins 150 312 = some (.aload 0, 313) := by decide +kernel
theorem e150_312 {ls : mj_L} {st : List Value} {σ : mj_S} {τ : mj_T} {v : Nat} : mj_E 150 312 (some (.ref v) :: ls) st σ τ = mj_E 150 313 (some (.ref v) :: ls) (.ref v :: st) σ τ := mj_nx i150_312 rfl
theorem i150_313 : mj_ins 150 313 = some (.aload 0, 314) := by decide +kernel
theorem e150_313 {ls : mj_L} {st : List Value} {σ : mj_S} {τ : mj_T} {v : Nat} : mj_E 150 313 (some (.ref v) :: ls) st σ τ = mj_E 150 314 (some (.ref v) :: ls) (.ref v :: st) σ τ := mj_nx i150_313 rfl
theorem i150_314 : mj_ins 150 314 = some (.getfield 726, 317) := by decide +kernel
theorem e150_314 {ls : mj_L} {st : List Value} {σ : mj_S} {τ : mj_T} : mj_E 150 314 ls (.ref 62 :: st) σ τ = mj_E 150 317 ls (.ref 83 :: st) σ τ := mj_nx i150_314 rfl
theorem i150_317 : mj_ins 150 317 = some (.iconst (0), 318) := by decide +kernel
theorem e150_317 {ls : mj_L} {st : List Value} {σ : mj_S} {τ : mj_T} : mj_E 150 317 ls st σ τ = mj_E 150 318 ls (.int (nI 0) :: st) σ τ := mj_nx i150_317 rfl
theorem i150_318 : mj_ins 150 318 = some (.iaload, 319) := by decide +kernel
theorem e150_318 {ls : mj_L} {st : List Value} {σ : mj_S} {τ : mj_T} {x : Int32} {k : Nat} : mj_E 150 318 ls (.int x :: .ref k :: st) σ τ = if mj_ib (mj_li σ k) x = true then mj_E 150 319 ls (.int (σ k x.toNatClampNeg) :: st) σ τ else none := mj_ald i150_318
theorem i150_319 : mj_ins 150 319 = some (.putfield 702, 322) := by decide +kernel
theorem e150_319 {ls : mj_L} {st : List Value} {σ : mj_S} {τ : mj_T} {v : Int32} : mj_E 150 319 ls (.int v :: .ref 62 :: st) σ τ = mj_E 150 322 ls st (mj_up σ 62 2 v) τ := mj_nx i150_319 rfl
theorem i150_322 : mj_ins 150 322 = some (.iconst (1), 323) := by decide +kernel
theorem e150_322 {ls : mj_L} {st : List Value} {σ : mj_S} {τ : mj_T} : mj_E 150 322 ls st σ τ = mj_E 150 323 ls (.int (nI 1) :: st) σ τ := mj_nx i150_322 rfl
theorem i150_323 : mj_ins 150 323 = some (.ireturn, 324) := by decide +kernel
theorem e150_323 {ls : mj_L} {σ : mj_S} {τ : mj_T} {v : Int32} : mj_E 150 323 ls [.int v] σ τ = if mj_ok (some .boolean) v = true then some (some (.int v), σ, τ) else none := mj_zrt i150_323 rfl
theorem c151 {σ : mj_S} {τ : mj_T} {r : Nat} {x0 : Nat} {x1 : Int32} {x2 : Nat} {x3 : Int32} {x4 : Int32} : mj_C 151 [.ref r, .ref x0, .int x1, .ref x2, .int x3, .int x4] σ τ = mj_E 151 0 [some (.ref r), some (.ref x0), some (.int x1), some (.ref x2), some (.int x3), some (.int x4), none] [] σ τ := rfl
theorem i151_0 : mj_ins 151 0 = some (.iconst (0), 1) := by decide +kernel
theorem e151_0 {ls : mj_L} {st : List Value} {σ : mj_S} {τ : mj_T} : mj_E 151 0 ls st σ τ = mj_E 151 1 ls (.int (nI 0) :: st) σ τ := mj_nx i151_0 rfl
theorem i151_1 : mj_ins 151 1 = some (.istore 6, 3) := by decide +kernel
theorem e151_1 {ls : mj_L} {st : List Value} {σ : mj_S} {τ : mj_T} {a0 a1 a2 a3 a4 a5 a6 : Option Value} {v : Int32} : mj_E 151 1 (a0 :: a1 :: a2 :: a3 :: a4 :: a5 :: a6 :: ls) (.int v :: st) σ τ = mj_E 151 3 (a0 :: a1 :: a2 :: a3 :: a4 :: a5 :: some (.int v) :: ls) st σ τ := mj_nx i151_1 rfl
theorem i151_3 : mj_ins 151 3 = some (.iload 6, 5) := by decide +kernel
theorem e151_3 {ls : mj_L} {st : List Value} {σ : mj_S} {τ : mj_T} {a0 a1 a2 a3 a4 a5 : Option Value} {v : Int32} : mj_E 151 3 (a0 :: a1 :: a2 :: a3 :: a4 :: a5 :: some (.int v) :: ls) st σ τ = mj_E 151 5 (a0 :: a1 :: a2 :: a3 :: a4 :: a5 :: some (.int v) :: ls) (.int v :: st) σ τ := mj_nx i151_3 rfl
theorem i151_5 : mj_ins 151 5 = some (.iload 2, 6) := by decide +kernel
theorem e151_5 {ls : mj_L} {st : List Value} {σ : mj_S} {τ : mj_T} {a0 a1 : Option Value} {v : Int32} : mj_E 151 5 (a0 :: a1 :: some (.int v) :: ls) st σ τ = mj_E 151 6 (a0 :: a1 :: some (.int v) :: ls) (.int v :: st) σ τ := mj_nx i151_5 rfl
theorem i151_6 : mj_ins 151 6 = some (.if_icmp .ge 45, 9) := by decide +kernel
theorem e151_6 {ls : mj_L} {st : List Value} {σ : mj_S} {τ : mj_T} {x y : Int32} : mj_E 151 6 ls (.int y :: .int x :: st) σ τ = if y ≤ x then mj_E 151 45 ls st σ τ else mj_E 151 9 ls st σ τ := (mj_ifi i151_6).trans (mj_cdT rfl)
theorem i151_9 : mj_ins 151 9 = some (.iload 5, 11) := by decide +kernel
theorem e151_9 {ls : mj_L} {st : List Value} {σ : mj_S} {τ : mj_T} {a0 a1 a2 a3 a4 : Option Value} {v : Int32} : mj_E 151 9 (a0 :: a1 :: a2 :: a3 :: a4 :: some (.int v) :: ls) st σ τ = mj_E 151 11 (a0 :: a1 :: a2 :: a3 :: a4 :: some (.int v) :: ls) (.int v :: st) σ τ := mj_nx i151_9 rfl
theorem i151_11 : mj_ins 151 11 = some (.ifCond .eq 28, 14) := by decide +kernel
theorem e151_11 {ls : mj_L} {st : List Value} {σ : mj_S} {τ : mj_T} {x : Int32} : mj_E 151 11 ls (.int x :: st) σ τ = if x = 0 then mj_E 151 28 ls st σ τ else mj_E 151 14 ls st σ τ := (mj_ifc i151_11).trans (mj_cdT rfl)
theorem i151_14 : mj_ins 151 14 = some (.aload 1, 15) := by decide +kernel
theorem e151_14 {ls : mj_L} {st : List Value} {σ : mj_S} {τ : mj_T} {a0 : Option Value} {v : Nat} : mj_E 151 14 (a0 :: some (.ref v) :: ls) st σ τ = mj_E 151 15 (a0 :: some (.ref v) :: ls) (.ref v :: st) σ τ := mj_nx i151_14 rfl
theorem i151_15 : mj_ins 151 15 = some (.iload 6, 17) := by decide +kernel
theorem e151_15 {ls : mj_L} {st : List Value} {σ : mj_S} {τ : mj_T} {a0 a1 a2 a3 a4 a5 : Option Value} {v : Int32} : mj_E 151 15 (a0 :: a1 :: a2 :: a3 :: a4 :: a5 :: some (.int v) :: ls) st σ τ = mj_E 151 17 (a0 :: a1 :: a2 :: a3 :: a4 :: a5 :: some (.int v) :: ls) (.int v :: st) σ τ := mj_nx i151_15 rfl
theorem i151_17 : mj_ins 151 17 = some (.aload 3, 18) := by decide +kernel
theorem e151_17 {ls : mj_L} {st : List Value} {σ : mj_S} {τ : mj_T} {a0 a1 a2 : Option Value} {v : Nat} : mj_E 151 17 (a0 :: a1 :: a2 :: some (.ref v) :: ls) st σ τ = mj_E 151 18 (a0 :: a1 :: a2 :: some (.ref v) :: ls) (.ref v :: st) σ τ := mj_nx i151_17 rfl
theorem i151_18 : mj_ins 151 18 = some (.iload 4, 20) := by decide +kernel
theorem e151_18 {ls : mj_L} {st : List Value} {σ : mj_S} {τ : mj_T} {a0 a1 a2 a3 : Option Value} {v : Int32} : mj_E 151 18 (a0 :: a1 :: a2 :: a3 :: some (.int v) :: ls) st σ τ = mj_E 151 20 (a0 :: a1 :: a2 :: a3 :: some (.int v) :: ls) (.int v :: st) σ τ := mj_nx i151_18 rfl
theorem i151_20 : mj_ins 151 20 = some (.iload 6, 22) := by decide +kernel
theorem e151_20 {ls : mj_L} {st : List Value} {σ : mj_S} {τ : mj_T} {a0 a1 a2 a3 a4 a5 : Option Value} {v : Int32} : mj_E 151 20 (a0 :: a1 :: a2 :: a3 :: a4 :: a5 :: some (.int v) :: ls) st σ τ = mj_E 151 22 (a0 :: a1 :: a2 :: a3 :: a4 :: a5 :: some (.int v) :: ls) (.int v :: st) σ τ := mj_nx i151_20 rfl
theorem i151_22 : mj_ins 151 22 = some (.iadd, 23) := by decide +kernel
theorem e151_22 {ls : mj_L} {st : List Value} {σ : mj_S} {τ : mj_T} {x y : Int32} : mj_E 151 22 ls (.int y :: .int x :: st) σ τ = mj_E 151 23 ls (.int (x + y) :: st) σ τ := mj_nx i151_22 rfl
theorem i151_23 : mj_ins 151 23 = some (.iaload, 24) := by decide +kernel
theorem e151_23 {ls : mj_L} {st : List Value} {σ : mj_S} {τ : mj_T} {x : Int32} {k : Nat} : mj_E 151 23 ls (.int x :: .ref k :: st) σ τ = if mj_ib (mj_li σ k) x = true then mj_E 151 24 ls (.int (σ k x.toNatClampNeg) :: st) σ τ else none := mj_ald i151_23
theorem i151_24 : mj_ins 151 24 = some (.iastore, 25) := by decide +kernel
theorem e151_24 {ls : mj_L} {st : List Value} {σ : mj_S} {τ : mj_T} {x v : Int32} {k : Nat} : mj_E 151 24 ls (.int v :: .int x :: .ref k :: st) σ τ = if mj_ib (mj_lw k) x = true then mj_E 151 25 ls st (mj_up σ k x.toNatClampNeg v) τ else none := mj_ast i151_24
theorem i151_25 : mj_ins 151 25 = some (.goto 39, 28) := by decide +kernel
theorem e151_25 {ls : mj_L} {st : List Value} {σ : mj_S} {τ : mj_T} : mj_E 151 25 ls st σ τ = mj_E 151 39 ls st σ τ := mj_nx i151_25 rfl
theorem i151_28 : mj_ins 151 28 = some (.aload 3, 29) := by decide +kernel
theorem e151_28 {ls : mj_L} {st : List Value} {σ : mj_S} {τ : mj_T} {a0 a1 a2 : Option Value} {v : Nat} : mj_E 151 28 (a0 :: a1 :: a2 :: some (.ref v) :: ls) st σ τ = mj_E 151 29 (a0 :: a1 :: a2 :: some (.ref v) :: ls) (.ref v :: st) σ τ := mj_nx i151_28 rfl
theorem i151_29 : mj_ins 151 29 = some (.iload 4, 31) := by decide +kernel
theorem e151_29 {ls : mj_L} {st : List Value} {σ : mj_S} {τ : mj_T} {a0 a1 a2 a3 : Option Value} {v : Int32} : mj_E 151 29 (a0 :: a1 :: a2 :: a3 :: some (.int v) :: ls) st σ τ = mj_E 151 31 (a0 :: a1 :: a2 :: a3 :: some (.int v) :: ls) (.int v :: st) σ τ := mj_nx i151_29 rfl
theorem i151_31 : mj_ins 151 31 = some (.iload 6, 33) := by decide +kernel
theorem e151_31 {ls : mj_L} {st : List Value} {σ : mj_S} {τ : mj_T} {a0 a1 a2 a3 a4 a5 : Option Value} {v : Int32} : mj_E 151 31 (a0 :: a1 :: a2 :: a3 :: a4 :: a5 :: some (.int v) :: ls) st σ τ = mj_E 151 33 (a0 :: a1 :: a2 :: a3 :: a4 :: a5 :: some (.int v) :: ls) (.int v :: st) σ τ := mj_nx i151_31 rfl
theorem i151_33 : mj_ins 151 33 = some (.iadd, 34) := by decide +kernel
theorem e151_33 {ls : mj_L} {st : List Value} {σ : mj_S} {τ : mj_T} {x y : Int32} : mj_E 151 33 ls (.int y :: .int x :: st) σ τ = mj_E 151 34 ls (.int (x + y) :: st) σ τ := mj_nx i151_33 rfl
theorem i151_34 : mj_ins 151 34 = some (.aload 1, 35) := by decide +kernel
theorem e151_34 {ls : mj_L} {st : List Value} {σ : mj_S} {τ : mj_T} {a0 : Option Value} {v : Nat} : mj_E 151 34 (a0 :: some (.ref v) :: ls) st σ τ = mj_E 151 35 (a0 :: some (.ref v) :: ls) (.ref v :: st) σ τ := mj_nx i151_34 rfl
theorem i151_35 : mj_ins 151 35 = some (.iload 6, 37) := by decide +kernel
theorem e151_35 {ls : mj_L} {st : List Value} {σ : mj_S} {τ : mj_T} {a0 a1 a2 a3 a4 a5 : Option Value} {v : Int32} : mj_E 151 35 (a0 :: a1 :: a2 :: a3 :: a4 :: a5 :: some (.int v) :: ls) st σ τ = mj_E 151 37 (a0 :: a1 :: a2 :: a3 :: a4 :: a5 :: some (.int v) :: ls) (.int v :: st) σ τ := mj_nx i151_35 rfl
theorem i151_37 : mj_ins 151 37 = some (.iaload, 38) := by decide +kernel
theorem e151_37 {ls : mj_L} {st : List Value} {σ : mj_S} {τ : mj_T} {x : Int32} {k : Nat} : mj_E 151 37 ls (.int x :: .ref k :: st) σ τ = if mj_ib (mj_li σ k) x = true then mj_E 151 38 ls (.int (σ k x.toNatClampNeg) :: st) σ τ else none := mj_ald i151_37
theorem i151_38 : mj_ins 151 38 = some (.iastore, 39) := by decide +kernel
theorem e151_38 {ls : mj_L} {st : List Value} {σ : mj_S} {τ : mj_T} {x v : Int32} {k : Nat} : mj_E 151 38 ls (.int v :: .int x :: .ref k :: st) σ τ = if mj_ib (mj_lw k) x = true then mj_E 151 39 ls st (mj_up σ k x.toNatClampNeg v) τ else none := mj_ast i151_38
theorem i151_39 : mj_ins 151 39 = some (.iinc 6 (1), 42) := by decide +kernel
theorem e151_39 {ls : mj_L} {st : List Value} {σ : mj_S} {τ : mj_T} {a0 a1 a2 a3 a4 a5 : Option Value} {v : Int32} : mj_E 151 39 (a0 :: a1 :: a2 :: a3 :: a4 :: a5 :: some (.int v) :: ls) st σ τ = mj_E 151 42 (a0 :: a1 :: a2 :: a3 :: a4 :: a5 :: some (.int (v + nI 1)) :: ls) st σ τ := mj_nx i151_39 rfl
theorem i151_42 : mj_ins 151 42 = some (.goto 3, 45) := by decide +kernel
theorem e151_42 {ls : mj_L} {st : List Value} {σ : mj_S} {τ : mj_T} : mj_E 151 42 ls st σ τ = mj_E 151 3 ls st σ τ := mj_nx i151_42 rfl
theorem i151_45 : mj_ins 151 45 = some (.iload 4, 47) := by decide +kernel
theorem e151_45 {ls : mj_L} {st : List Value} {σ : mj_S} {τ : mj_T} {a0 a1 a2 a3 : Option Value} {v : Int32} : mj_E 151 45 (a0 :: a1 :: a2 :: a3 :: some (.int v) :: ls) st σ τ = mj_E 151 47 (a0 :: a1 :: a2 :: a3 :: some (.int v) :: ls) (.int v :: st) σ τ := mj_nx i151_45 rfl
theorem i151_47 : mj_ins 151 47 = some (.iload 2, 48) := by decide +kernel
theorem e151_47 {ls : mj_L} {st : List Value} {σ : mj_S} {τ : mj_T} {a0 a1 : Option Value} {v : Int32} : mj_E 151 47 (a0 :: a1 :: some (.int v) :: ls) st σ τ = mj_E 151 48 (a0 :: a1 :: some (.int v) :: ls) (.int v :: st) σ τ := mj_nx i151_47 rfl
theorem i151_48 : mj_ins 151 48 = some (.iadd, 49) := by decide +kernel
theorem e151_48 {ls : mj_L} {st : List Value} {σ : mj_S} {τ : mj_T} {x y : Int32} : mj_E 151 48 ls (.int y :: .int x :: st) σ τ = mj_E 151 49 ls (.int (x + y) :: st) σ τ := mj_nx i151_48 rfl
theorem i151_49 : mj_ins 151 49 = some (.ireturn, 50) := by decide +kernel
theorem e151_49 {ls : mj_L} {σ : mj_S} {τ : mj_T} {v : Int32} : mj_E 151 49 ls [.int v] σ τ = some (some (.int v), σ, τ) := mj_irt i151_49 rfl
theorem c152 {σ : mj_S} {τ : mj_T} {r : Nat} {x0 : Nat} {x1 : Int32} : mj_C 152 [.ref r, .ref x0, .int x1] σ τ = mj_E 152 0 [some (.ref r), some (.ref x0), some (.int x1), none] [] σ τ := rfl
theorem i152_0 : mj_ins 152 0 = some (.aload 0, 1) := by decide +kernel
theorem e152_0 {ls : mj_L} {st : List Value} {σ : mj_S} {τ : mj_T} {v : Nat} : mj_E 152 0 (some (.ref v) :: ls) st σ τ = mj_E 152 1 (some (.ref v) :: ls) (.ref v :: st) σ τ := mj_nx i152_0 rfl
theorem i152_1 : mj_ins 152 1 = some (.aload 0, 2) := by decide +kernel
theorem e152_1 {ls : mj_L} {st : List Value} {σ : mj_S} {τ : mj_T} {v : Nat} : mj_E 152 1 (some (.ref v) :: ls) st σ τ = mj_E 152 2 (some (.ref v) :: ls) (.ref v :: st) σ τ := mj_nx i152_1 rfl
theorem i152_2 : mj_ins 152 2 = some (.getfield 707, 5) := by decide +kernel
theorem e152_2 {ls : mj_L} {st : List Value} {σ : mj_S} {τ : mj_T} : mj_E 152 2 ls (.ref 62 :: st) σ τ = mj_E 152 5 ls (.ref 64 :: st) σ τ := mj_nx i152_2 rfl
theorem i152_5 : mj_ins 152 5 = some (.iconst (8), 7) := by decide +kernel
theorem e152_5 {ls : mj_L} {st : List Value} {σ : mj_S} {τ : mj_T} : mj_E 152 5 ls st σ τ = mj_E 152 7 ls (.int (nI 8) :: st) σ τ := mj_nx i152_5 rfl
theorem i152_7 : mj_ins 152 7 = some (.aload 1, 8) := by decide +kernel
theorem e152_7 {ls : mj_L} {st : List Value} {σ : mj_S} {τ : mj_T} {a0 : Option Value} {v : Nat} : mj_E 152 7 (a0 :: some (.ref v) :: ls) st σ τ = mj_E 152 8 (a0 :: some (.ref v) :: ls) (.ref v :: st) σ τ := mj_nx i152_7 rfl
theorem i152_8 : mj_ins 152 8 = some (.iconst (0), 9) := by decide +kernel
theorem e152_8 {ls : mj_L} {st : List Value} {σ : mj_S} {τ : mj_T} : mj_E 152 8 ls st σ τ = mj_E 152 9 ls (.int (nI 0) :: st) σ τ := mj_nx i152_8 rfl
theorem i152_9 : mj_ins 152 9 = some (.iload 2, 10) := by decide +kernel
theorem e152_9 {ls : mj_L} {st : List Value} {σ : mj_S} {τ : mj_T} {a0 a1 : Option Value} {v : Int32} : mj_E 152 9 (a0 :: a1 :: some (.int v) :: ls) st σ τ = mj_E 152 10 (a0 :: a1 :: some (.int v) :: ls) (.int v :: st) σ τ := mj_nx i152_9 rfl
theorem i152_10 : mj_ins 152 10 = some (.invokevirtual 151, 13) := by decide +kernel
theorem e152_10 {ls : mj_L} {σ : mj_S} {τ : mj_T} {r : Nat} {x0 : Nat} {x1 : Int32} {x2 : Nat} {x3 : Int32} {x4 : Int32} : mj_E 152 10 ls [.int x4, .int x3, .ref x2, .int x1, .ref x0, .ref r] σ τ = if mj_rcv r 7 = true then mj_bd (mj_C 151 [.ref r, .ref x0, .int x1, .ref x2, .int x3, .int x4] σ τ) (mj_K 152 13 ls []) else none := mj_clV (as := [.ref x0, .int x1, .ref x2, .int x3, .int x4]) (r := []) i152_10 (by decide +kernel : mj_vk 152 151 5 0 6 false = true) (by decide +kernel)
theorem i152_13 : mj_ins 152 13 = some (.istore 3, 14) := by decide +kernel
theorem e152_13 {ls : mj_L} {st : List Value} {σ : mj_S} {τ : mj_T} {a0 a1 a2 a3 : Option Value} {v : Int32} : mj_E 152 13 (a0 :: a1 :: a2 :: a3 :: ls) (.int v :: st) σ τ = mj_E 152 14 (a0 :: a1 :: a2 :: some (.int v) :: ls) st σ τ := mj_nx i152_13 rfl
theorem i152_14 : mj_ins 152 14 = some (.aload 0, 15) := by decide +kernel
theorem e152_14 {ls : mj_L} {st : List Value} {σ : mj_S} {τ : mj_T} {v : Nat} : mj_E 152 14 (some (.ref v) :: ls) st σ τ = mj_E 152 15 (some (.ref v) :: ls) (.ref v :: st) σ τ := mj_nx i152_14 rfl
theorem i152_15 : mj_ins 152 15 = some (.aload 0, 16) := by decide +kernel
theorem e152_15 {ls : mj_L} {st : List Value} {σ : mj_S} {τ : mj_T} {v : Nat} : mj_E 152 15 (some (.ref v) :: ls) st σ τ = mj_E 152 16 (some (.ref v) :: ls) (.ref v :: st) σ τ := mj_nx i152_15 rfl
theorem i152_16 : mj_ins 152 16 = some (.getfield 708, 19) := by decide +kernel
theorem e152_16 {ls : mj_L} {st : List Value} {σ : mj_S} {τ : mj_T} : mj_E 152 16 ls (.ref 62 :: st) σ τ = mj_E 152 19 ls (.ref 65 :: st) σ τ := mj_nx i152_16 rfl
theorem i152_19 : mj_ins 152 19 = some (.iconst (8), 21) := by decide +kernel
theorem e152_19 {ls : mj_L} {st : List Value} {σ : mj_S} {τ : mj_T} : mj_E 152 19 ls st σ τ = mj_E 152 21 ls (.int (nI 8) :: st) σ τ := mj_nx i152_19 rfl
theorem i152_21 : mj_ins 152 21 = some (.aload 1, 22) := by decide +kernel
theorem e152_21 {ls : mj_L} {st : List Value} {σ : mj_S} {τ : mj_T} {a0 : Option Value} {v : Nat} : mj_E 152 21 (a0 :: some (.ref v) :: ls) st σ τ = mj_E 152 22 (a0 :: some (.ref v) :: ls) (.ref v :: st) σ τ := mj_nx i152_21 rfl
theorem i152_22 : mj_ins 152 22 = some (.iload 3, 23) := by decide +kernel
theorem e152_22 {ls : mj_L} {st : List Value} {σ : mj_S} {τ : mj_T} {a0 a1 a2 : Option Value} {v : Int32} : mj_E 152 22 (a0 :: a1 :: a2 :: some (.int v) :: ls) st σ τ = mj_E 152 23 (a0 :: a1 :: a2 :: some (.int v) :: ls) (.int v :: st) σ τ := mj_nx i152_22 rfl
theorem i152_23 : mj_ins 152 23 = some (.iload 2, 24) := by decide +kernel
theorem e152_23 {ls : mj_L} {st : List Value} {σ : mj_S} {τ : mj_T} {a0 a1 : Option Value} {v : Int32} : mj_E 152 23 (a0 :: a1 :: some (.int v) :: ls) st σ τ = mj_E 152 24 (a0 :: a1 :: some (.int v) :: ls) (.int v :: st) σ τ := mj_nx i152_23 rfl
theorem i152_24 : mj_ins 152 24 = some (.invokevirtual 151, 27) := by decide +kernel
theorem e152_24 {ls : mj_L} {σ : mj_S} {τ : mj_T} {r : Nat} {x0 : Nat} {x1 : Int32} {x2 : Nat} {x3 : Int32} {x4 : Int32} : mj_E 152 24 ls [.int x4, .int x3, .ref x2, .int x1, .ref x0, .ref r] σ τ = if mj_rcv r 7 = true then mj_bd (mj_C 151 [.ref r, .ref x0, .int x1, .ref x2, .int x3, .int x4] σ τ) (mj_K 152 27 ls []) else none := mj_clV (as := [.ref x0, .int x1, .ref x2, .int x3, .int x4]) (r := []) i152_24 (by decide +kernel : mj_vk 152 151 5 0 6 false = true) (by decide +kernel)
theorem i152_27 : mj_ins 152 27 = some (.istore 3, 28) := by decide +kernel
theorem e152_27 {ls : mj_L} {st : List Value} {σ : mj_S} {τ : mj_T} {a0 a1 a2 a3 : Option Value} {v : Int32} : mj_E 152 27 (a0 :: a1 :: a2 :: a3 :: ls) (.int v :: st) σ τ = mj_E 152 28 (a0 :: a1 :: a2 :: some (.int v) :: ls) st σ τ := mj_nx i152_27 rfl
theorem i152_28 : mj_ins 152 28 = some (.aload 0, 29) := by decide +kernel
theorem e152_28 {ls : mj_L} {st : List Value} {σ : mj_S} {τ : mj_T} {v : Nat} : mj_E 152 28 (some (.ref v) :: ls) st σ τ = mj_E 152 29 (some (.ref v) :: ls) (.ref v :: st) σ τ := mj_nx i152_28 rfl
theorem i152_29 : mj_ins 152 29 = some (.aload 0, 30) := by decide +kernel
theorem e152_29 {ls : mj_L} {st : List Value} {σ : mj_S} {τ : mj_T} {v : Nat} : mj_E 152 29 (some (.ref v) :: ls) st σ τ = mj_E 152 30 (some (.ref v) :: ls) (.ref v :: st) σ τ := mj_nx i152_29 rfl
theorem i152_30 : mj_ins 152 30 = some (.getfield 709, 33) := by decide +kernel
theorem e152_30 {ls : mj_L} {st : List Value} {σ : mj_S} {τ : mj_T} : mj_E 152 30 ls (.ref 62 :: st) σ τ = mj_E 152 33 ls (.ref 66 :: st) σ τ := mj_nx i152_30 rfl
theorem i152_33 : mj_ins 152 33 = some (.iconst (8), 35) := by decide +kernel
theorem e152_33 {ls : mj_L} {st : List Value} {σ : mj_S} {τ : mj_T} : mj_E 152 33 ls st σ τ = mj_E 152 35 ls (.int (nI 8) :: st) σ τ := mj_nx i152_33 rfl
theorem i152_35 : mj_ins 152 35 = some (.aload 1, 36) := by decide +kernel
theorem e152_35 {ls : mj_L} {st : List Value} {σ : mj_S} {τ : mj_T} {a0 : Option Value} {v : Nat} : mj_E 152 35 (a0 :: some (.ref v) :: ls) st σ τ = mj_E 152 36 (a0 :: some (.ref v) :: ls) (.ref v :: st) σ τ := mj_nx i152_35 rfl
theorem i152_36 : mj_ins 152 36 = some (.iload 3, 37) := by decide +kernel
theorem e152_36 {ls : mj_L} {st : List Value} {σ : mj_S} {τ : mj_T} {a0 a1 a2 : Option Value} {v : Int32} : mj_E 152 36 (a0 :: a1 :: a2 :: some (.int v) :: ls) st σ τ = mj_E 152 37 (a0 :: a1 :: a2 :: some (.int v) :: ls) (.int v :: st) σ τ := mj_nx i152_36 rfl
theorem i152_37 : mj_ins 152 37 = some (.iload 2, 38) := by decide +kernel
theorem e152_37 {ls : mj_L} {st : List Value} {σ : mj_S} {τ : mj_T} {a0 a1 : Option Value} {v : Int32} : mj_E 152 37 (a0 :: a1 :: some (.int v) :: ls) st σ τ = mj_E 152 38 (a0 :: a1 :: some (.int v) :: ls) (.int v :: st) σ τ := mj_nx i152_37 rfl
theorem i152_38 : mj_ins 152 38 = some (.invokevirtual 151, 41) := by decide +kernel
theorem e152_38 {ls : mj_L} {σ : mj_S} {τ : mj_T} {r : Nat} {x0 : Nat} {x1 : Int32} {x2 : Nat} {x3 : Int32} {x4 : Int32} : mj_E 152 38 ls [.int x4, .int x3, .ref x2, .int x1, .ref x0, .ref r] σ τ = if mj_rcv r 7 = true then mj_bd (mj_C 151 [.ref r, .ref x0, .int x1, .ref x2, .int x3, .int x4] σ τ) (mj_K 152 41 ls []) else none := mj_clV (as := [.ref x0, .int x1, .ref x2, .int x3, .int x4]) (r := []) i152_38 (by decide +kernel : mj_vk 152 151 5 0 6 false = true) (by decide +kernel)
theorem i152_41 : mj_ins 152 41 = some (.istore 3, 42) := by decide +kernel
theorem e152_41 {ls : mj_L} {st : List Value} {σ : mj_S} {τ : mj_T} {a0 a1 a2 a3 : Option Value} {v : Int32} : mj_E 152 41 (a0 :: a1 :: a2 :: a3 :: ls) (.int v :: st) σ τ = mj_E 152 42 (a0 :: a1 :: a2 :: some (.int v) :: ls) st σ τ := mj_nx i152_41 rfl
theorem i152_42 : mj_ins 152 42 = some (.aload 0, 43) := by decide +kernel
theorem e152_42 {ls : mj_L} {st : List Value} {σ : mj_S} {τ : mj_T} {v : Nat} : mj_E 152 42 (some (.ref v) :: ls) st σ τ = mj_E 152 43 (some (.ref v) :: ls) (.ref v :: st) σ τ := mj_nx i152_42 rfl
theorem i152_43 : mj_ins 152 43 = some (.aload 0, 44) := by decide +kernel
theorem e152_43 {ls : mj_L} {st : List Value} {σ : mj_S} {τ : mj_T} {v : Nat} : mj_E 152 43 (some (.ref v) :: ls) st σ τ = mj_E 152 44 (some (.ref v) :: ls) (.ref v :: st) σ τ := mj_nx i152_43 rfl
theorem i152_44 : mj_ins 152 44 = some (.getfield 710, 47) := by decide +kernel
theorem e152_44 {ls : mj_L} {st : List Value} {σ : mj_S} {τ : mj_T} : mj_E 152 44 ls (.ref 62 :: st) σ τ = mj_E 152 47 ls (.ref 67 :: st) σ τ := mj_nx i152_44 rfl
theorem i152_47 : mj_ins 152 47 = some (.iconst (8), 49) := by decide +kernel
theorem e152_47 {ls : mj_L} {st : List Value} {σ : mj_S} {τ : mj_T} : mj_E 152 47 ls st σ τ = mj_E 152 49 ls (.int (nI 8) :: st) σ τ := mj_nx i152_47 rfl
theorem i152_49 : mj_ins 152 49 = some (.aload 1, 50) := by decide +kernel
theorem e152_49 {ls : mj_L} {st : List Value} {σ : mj_S} {τ : mj_T} {a0 : Option Value} {v : Nat} : mj_E 152 49 (a0 :: some (.ref v) :: ls) st σ τ = mj_E 152 50 (a0 :: some (.ref v) :: ls) (.ref v :: st) σ τ := mj_nx i152_49 rfl
theorem i152_50 : mj_ins 152 50 = some (.iload 3, 51) := by decide +kernel
theorem e152_50 {ls : mj_L} {st : List Value} {σ : mj_S} {τ : mj_T} {a0 a1 a2 : Option Value} {v : Int32} : mj_E 152 50 (a0 :: a1 :: a2 :: some (.int v) :: ls) st σ τ = mj_E 152 51 (a0 :: a1 :: a2 :: some (.int v) :: ls) (.int v :: st) σ τ := mj_nx i152_50 rfl
theorem i152_51 : mj_ins 152 51 = some (.iload 2, 52) := by decide +kernel
theorem e152_51 {ls : mj_L} {st : List Value} {σ : mj_S} {τ : mj_T} {a0 a1 : Option Value} {v : Int32} : mj_E 152 51 (a0 :: a1 :: some (.int v) :: ls) st σ τ = mj_E 152 52 (a0 :: a1 :: some (.int v) :: ls) (.int v :: st) σ τ := mj_nx i152_51 rfl
theorem i152_52 : mj_ins 152 52 = some (.invokevirtual 151, 55) := by decide +kernel
theorem e152_52 {ls : mj_L} {σ : mj_S} {τ : mj_T} {r : Nat} {x0 : Nat} {x1 : Int32} {x2 : Nat} {x3 : Int32} {x4 : Int32} : mj_E 152 52 ls [.int x4, .int x3, .ref x2, .int x1, .ref x0, .ref r] σ τ = if mj_rcv r 7 = true then mj_bd (mj_C 151 [.ref r, .ref x0, .int x1, .ref x2, .int x3, .int x4] σ τ) (mj_K 152 55 ls []) else none := mj_clV (as := [.ref x0, .int x1, .ref x2, .int x3, .int x4]) (r := []) i152_52 (by decide +kernel : mj_vk 152 151 5 0 6 false = true) (by decide +kernel)
theorem i152_55 : mj_ins 152 55 = some (.istore 3, 56) := by decide +kernel
theorem e152_55 {ls : mj_L} {st : List Value} {σ : mj_S} {τ : mj_T} {a0 a1 a2 a3 : Option Value} {v : Int32} : mj_E 152 55 (a0 :: a1 :: a2 :: a3 :: ls) (.int v :: st) σ τ = mj_E 152 56 (a0 :: a1 :: a2 :: some (.int v) :: ls) st σ τ := mj_nx i152_55 rfl
theorem i152_56 : mj_ins 152 56 = some (.aload 0, 57) := by decide +kernel
theorem e152_56 {ls : mj_L} {st : List Value} {σ : mj_S} {τ : mj_T} {v : Nat} : mj_E 152 56 (some (.ref v) :: ls) st σ τ = mj_E 152 57 (some (.ref v) :: ls) (.ref v :: st) σ τ := mj_nx i152_56 rfl
theorem i152_57 : mj_ins 152 57 = some (.aload 0, 58) := by decide +kernel
theorem e152_57 {ls : mj_L} {st : List Value} {σ : mj_S} {τ : mj_T} {v : Nat} : mj_E 152 57 (some (.ref v) :: ls) st σ τ = mj_E 152 58 (some (.ref v) :: ls) (.ref v :: st) σ τ := mj_nx i152_57 rfl
theorem i152_58 : mj_ins 152 58 = some (.getfield 711, 61) := by decide +kernel
theorem e152_58 {ls : mj_L} {st : List Value} {σ : mj_S} {τ : mj_T} : mj_E 152 58 ls (.ref 62 :: st) σ τ = mj_E 152 61 ls (.ref 68 :: st) σ τ := mj_nx i152_58 rfl
theorem i152_61 : mj_ins 152 61 = some (.iconst (8), 63) := by decide +kernel
theorem e152_61 {ls : mj_L} {st : List Value} {σ : mj_S} {τ : mj_T} : mj_E 152 61 ls st σ τ = mj_E 152 63 ls (.int (nI 8) :: st) σ τ := mj_nx i152_61 rfl
theorem i152_63 : mj_ins 152 63 = some (.aload 1, 64) := by decide +kernel
theorem e152_63 {ls : mj_L} {st : List Value} {σ : mj_S} {τ : mj_T} {a0 : Option Value} {v : Nat} : mj_E 152 63 (a0 :: some (.ref v) :: ls) st σ τ = mj_E 152 64 (a0 :: some (.ref v) :: ls) (.ref v :: st) σ τ := mj_nx i152_63 rfl
theorem i152_64 : mj_ins 152 64 = some (.iload 3, 65) := by decide +kernel
theorem e152_64 {ls : mj_L} {st : List Value} {σ : mj_S} {τ : mj_T} {a0 a1 a2 : Option Value} {v : Int32} : mj_E 152 64 (a0 :: a1 :: a2 :: some (.int v) :: ls) st σ τ = mj_E 152 65 (a0 :: a1 :: a2 :: some (.int v) :: ls) (.int v :: st) σ τ := mj_nx i152_64 rfl
theorem i152_65 : mj_ins 152 65 = some (.iload 2, 66) := by decide +kernel
theorem e152_65 {ls : mj_L} {st : List Value} {σ : mj_S} {τ : mj_T} {a0 a1 : Option Value} {v : Int32} : mj_E 152 65 (a0 :: a1 :: some (.int v) :: ls) st σ τ = mj_E 152 66 (a0 :: a1 :: some (.int v) :: ls) (.int v :: st) σ τ := mj_nx i152_65 rfl
theorem i152_66 : mj_ins 152 66 = some (.invokevirtual 151, 69) := by decide +kernel
theorem e152_66 {ls : mj_L} {σ : mj_S} {τ : mj_T} {r : Nat} {x0 : Nat} {x1 : Int32} {x2 : Nat} {x3 : Int32} {x4 : Int32} : mj_E 152 66 ls [.int x4, .int x3, .ref x2, .int x1, .ref x0, .ref r] σ τ = if mj_rcv r 7 = true then mj_bd (mj_C 151 [.ref r, .ref x0, .int x1, .ref x2, .int x3, .int x4] σ τ) (mj_K 152 69 ls []) else none := mj_clV (as := [.ref x0, .int x1, .ref x2, .int x3, .int x4]) (r := []) i152_66 (by decide +kernel : mj_vk 152 151 5 0 6 false = true) (by decide +kernel)
theorem i152_69 : mj_ins 152 69 = some (.istore 3, 70) := by decide +kernel
theorem e152_69 {ls : mj_L} {st : List Value} {σ : mj_S} {τ : mj_T} {a0 a1 a2 a3 : Option Value} {v : Int32} : mj_E 152 69 (a0 :: a1 :: a2 :: a3 :: ls) (.int v :: st) σ τ = mj_E 152 70 (a0 :: a1 :: a2 :: some (.int v) :: ls) st σ τ := mj_nx i152_69 rfl
theorem i152_70 : mj_ins 152 70 = some (.aload 0, 71) := by decide +kernel
theorem e152_70 {ls : mj_L} {st : List Value} {σ : mj_S} {τ : mj_T} {v : Nat} : mj_E 152 70 (some (.ref v) :: ls) st σ τ = mj_E 152 71 (some (.ref v) :: ls) (.ref v :: st) σ τ := mj_nx i152_70 rfl
theorem i152_71 : mj_ins 152 71 = some (.aload 0, 72) := by decide +kernel
theorem e152_71 {ls : mj_L} {st : List Value} {σ : mj_S} {τ : mj_T} {v : Nat} : mj_E 152 71 (some (.ref v) :: ls) st σ τ = mj_E 152 72 (some (.ref v) :: ls) (.ref v :: st) σ τ := mj_nx i152_71 rfl
theorem i152_72 : mj_ins 152 72 = some (.getfield 712, 75) := by decide +kernel
theorem e152_72 {ls : mj_L} {st : List Value} {σ : mj_S} {τ : mj_T} : mj_E 152 72 ls (.ref 62 :: st) σ τ = mj_E 152 75 ls (.ref 69 :: st) σ τ := mj_nx i152_72 rfl
theorem i152_75 : mj_ins 152 75 = some (.iconst (6), 77) := by decide +kernel
theorem e152_75 {ls : mj_L} {st : List Value} {σ : mj_S} {τ : mj_T} : mj_E 152 75 ls st σ τ = mj_E 152 77 ls (.int (nI 6) :: st) σ τ := mj_nx i152_75 rfl
theorem i152_77 : mj_ins 152 77 = some (.aload 1, 78) := by decide +kernel
theorem e152_77 {ls : mj_L} {st : List Value} {σ : mj_S} {τ : mj_T} {a0 : Option Value} {v : Nat} : mj_E 152 77 (a0 :: some (.ref v) :: ls) st σ τ = mj_E 152 78 (a0 :: some (.ref v) :: ls) (.ref v :: st) σ τ := mj_nx i152_77 rfl
theorem i152_78 : mj_ins 152 78 = some (.iload 3, 79) := by decide +kernel
theorem e152_78 {ls : mj_L} {st : List Value} {σ : mj_S} {τ : mj_T} {a0 a1 a2 : Option Value} {v : Int32} : mj_E 152 78 (a0 :: a1 :: a2 :: some (.int v) :: ls) st σ τ = mj_E 152 79 (a0 :: a1 :: a2 :: some (.int v) :: ls) (.int v :: st) σ τ := mj_nx i152_78 rfl
theorem i152_79 : mj_ins 152 79 = some (.iload 2, 80) := by decide +kernel
theorem e152_79 {ls : mj_L} {st : List Value} {σ : mj_S} {τ : mj_T} {a0 a1 : Option Value} {v : Int32} : mj_E 152 79 (a0 :: a1 :: some (.int v) :: ls) st σ τ = mj_E 152 80 (a0 :: a1 :: some (.int v) :: ls) (.int v :: st) σ τ := mj_nx i152_79 rfl
theorem i152_80 : mj_ins 152 80 = some (.invokevirtual 151, 83) := by decide +kernel
theorem e152_80 {ls : mj_L} {σ : mj_S} {τ : mj_T} {r : Nat} {x0 : Nat} {x1 : Int32} {x2 : Nat} {x3 : Int32} {x4 : Int32} : mj_E 152 80 ls [.int x4, .int x3, .ref x2, .int x1, .ref x0, .ref r] σ τ = if mj_rcv r 7 = true then mj_bd (mj_C 151 [.ref r, .ref x0, .int x1, .ref x2, .int x3, .int x4] σ τ) (mj_K 152 83 ls []) else none := mj_clV (as := [.ref x0, .int x1, .ref x2, .int x3, .int x4]) (r := []) i152_80 (by decide +kernel : mj_vk 152 151 5 0 6 false = true) (by decide +kernel)
theorem i152_83 : mj_ins 152 83 = some (.istore 3, 84) := by decide +kernel
theorem e152_83 {ls : mj_L} {st : List Value} {σ : mj_S} {τ : mj_T} {a0 a1 a2 a3 : Option Value} {v : Int32} : mj_E 152 83 (a0 :: a1 :: a2 :: a3 :: ls) (.int v :: st) σ τ = mj_E 152 84 (a0 :: a1 :: a2 :: some (.int v) :: ls) st σ τ := mj_nx i152_83 rfl
theorem i152_84 : mj_ins 152 84 = some (.aload 0, 85) := by decide +kernel
theorem e152_84 {ls : mj_L} {st : List Value} {σ : mj_S} {τ : mj_T} {v : Nat} : mj_E 152 84 (some (.ref v) :: ls) st σ τ = mj_E 152 85 (some (.ref v) :: ls) (.ref v :: st) σ τ := mj_nx i152_84 rfl
theorem i152_85 : mj_ins 152 85 = some (.aload 0, 86) := by decide +kernel
theorem e152_85 {ls : mj_L} {st : List Value} {σ : mj_S} {τ : mj_T} {v : Nat} : mj_E 152 85 (some (.ref v) :: ls) st σ τ = mj_E 152 86 (some (.ref v) :: ls) (.ref v :: st) σ τ := mj_nx i152_85 rfl
theorem i152_86 : mj_ins 152 86 = some (.getfield 713, 89) := by decide +kernel
theorem e152_86 {ls : mj_L} {st : List Value} {σ : mj_S} {τ : mj_T} : mj_E 152 86 ls (.ref 62 :: st) σ τ = mj_E 152 89 ls (.ref 70 :: st) σ τ := mj_nx i152_86 rfl
theorem i152_89 : mj_ins 152 89 = some (.iconst (6), 91) := by decide +kernel
theorem e152_89 {ls : mj_L} {st : List Value} {σ : mj_S} {τ : mj_T} : mj_E 152 89 ls st σ τ = mj_E 152 91 ls (.int (nI 6) :: st) σ τ := mj_nx i152_89 rfl
theorem i152_91 : mj_ins 152 91 = some (.aload 1, 92) := by decide +kernel
theorem e152_91 {ls : mj_L} {st : List Value} {σ : mj_S} {τ : mj_T} {a0 : Option Value} {v : Nat} : mj_E 152 91 (a0 :: some (.ref v) :: ls) st σ τ = mj_E 152 92 (a0 :: some (.ref v) :: ls) (.ref v :: st) σ τ := mj_nx i152_91 rfl
theorem i152_92 : mj_ins 152 92 = some (.iload 3, 93) := by decide +kernel
theorem e152_92 {ls : mj_L} {st : List Value} {σ : mj_S} {τ : mj_T} {a0 a1 a2 : Option Value} {v : Int32} : mj_E 152 92 (a0 :: a1 :: a2 :: some (.int v) :: ls) st σ τ = mj_E 152 93 (a0 :: a1 :: a2 :: some (.int v) :: ls) (.int v :: st) σ τ := mj_nx i152_92 rfl
theorem i152_93 : mj_ins 152 93 = some (.iload 2, 94) := by decide +kernel
theorem e152_93 {ls : mj_L} {st : List Value} {σ : mj_S} {τ : mj_T} {a0 a1 : Option Value} {v : Int32} : mj_E 152 93 (a0 :: a1 :: some (.int v) :: ls) st σ τ = mj_E 152 94 (a0 :: a1 :: some (.int v) :: ls) (.int v :: st) σ τ := mj_nx i152_93 rfl
theorem i152_94 : mj_ins 152 94 = some (.invokevirtual 151, 97) := by decide +kernel
theorem e152_94 {ls : mj_L} {σ : mj_S} {τ : mj_T} {r : Nat} {x0 : Nat} {x1 : Int32} {x2 : Nat} {x3 : Int32} {x4 : Int32} : mj_E 152 94 ls [.int x4, .int x3, .ref x2, .int x1, .ref x0, .ref r] σ τ = if mj_rcv r 7 = true then mj_bd (mj_C 151 [.ref r, .ref x0, .int x1, .ref x2, .int x3, .int x4] σ τ) (mj_K 152 97 ls []) else none := mj_clV (as := [.ref x0, .int x1, .ref x2, .int x3, .int x4]) (r := []) i152_94 (by decide +kernel : mj_vk 152 151 5 0 6 false = true) (by decide +kernel)
theorem i152_97 : mj_ins 152 97 = some (.istore 3, 98) := by decide +kernel
theorem e152_97 {ls : mj_L} {st : List Value} {σ : mj_S} {τ : mj_T} {a0 a1 a2 a3 : Option Value} {v : Int32} : mj_E 152 97 (a0 :: a1 :: a2 :: a3 :: ls) (.int v :: st) σ τ = mj_E 152 98 (a0 :: a1 :: a2 :: some (.int v) :: ls) st σ τ := mj_nx i152_97 rfl
theorem i152_98 : mj_ins 152 98 = some (.aload 0, 99) := by decide +kernel
theorem e152_98 {ls : mj_L} {st : List Value} {σ : mj_S} {τ : mj_T} {v : Nat} : mj_E 152 98 (some (.ref v) :: ls) st σ τ = mj_E 152 99 (some (.ref v) :: ls) (.ref v :: st) σ τ := mj_nx i152_98 rfl
theorem i152_99 : mj_ins 152 99 = some (.aload 0, 100) := by decide +kernel
theorem e152_99 {ls : mj_L} {st : List Value} {σ : mj_S} {τ : mj_T} {v : Nat} : mj_E 152 99 (some (.ref v) :: ls) st σ τ = mj_E 152 100 (some (.ref v) :: ls) (.ref v :: st) σ τ := mj_nx i152_99 rfl
theorem i152_100 : mj_ins 152 100 = some (.getfield 714, 103) := by decide +kernel
theorem e152_100 {ls : mj_L} {st : List Value} {σ : mj_S} {τ : mj_T} : mj_E 152 100 ls (.ref 62 :: st) σ τ = mj_E 152 103 ls (.ref 71 :: st) σ τ := mj_nx i152_100 rfl
theorem i152_103 : mj_ins 152 103 = some (.iconst (6), 105) := by decide +kernel
theorem e152_103 {ls : mj_L} {st : List Value} {σ : mj_S} {τ : mj_T} : mj_E 152 103 ls st σ τ = mj_E 152 105 ls (.int (nI 6) :: st) σ τ := mj_nx i152_103 rfl
theorem i152_105 : mj_ins 152 105 = some (.aload 1, 106) := by decide +kernel
theorem e152_105 {ls : mj_L} {st : List Value} {σ : mj_S} {τ : mj_T} {a0 : Option Value} {v : Nat} : mj_E 152 105 (a0 :: some (.ref v) :: ls) st σ τ = mj_E 152 106 (a0 :: some (.ref v) :: ls) (.ref v :: st) σ τ := mj_nx i152_105 rfl
theorem i152_106 : mj_ins 152 106 = some (.iload 3, 107) := by decide +kernel
theorem e152_106 {ls : mj_L} {st : List Value} {σ : mj_S} {τ : mj_T} {a0 a1 a2 : Option Value} {v : Int32} : mj_E 152 106 (a0 :: a1 :: a2 :: some (.int v) :: ls) st σ τ = mj_E 152 107 (a0 :: a1 :: a2 :: some (.int v) :: ls) (.int v :: st) σ τ := mj_nx i152_106 rfl
theorem i152_107 : mj_ins 152 107 = some (.iload 2, 108) := by decide +kernel
theorem e152_107 {ls : mj_L} {st : List Value} {σ : mj_S} {τ : mj_T} {a0 a1 : Option Value} {v : Int32} : mj_E 152 107 (a0 :: a1 :: some (.int v) :: ls) st σ τ = mj_E 152 108 (a0 :: a1 :: some (.int v) :: ls) (.int v :: st) σ τ := mj_nx i152_107 rfl
theorem i152_108 : mj_ins 152 108 = some (.invokevirtual 151, 111) := by decide +kernel
theorem e152_108 {ls : mj_L} {σ : mj_S} {τ : mj_T} {r : Nat} {x0 : Nat} {x1 : Int32} {x2 : Nat} {x3 : Int32} {x4 : Int32} : mj_E 152 108 ls [.int x4, .int x3, .ref x2, .int x1, .ref x0, .ref r] σ τ = if mj_rcv r 7 = true then mj_bd (mj_C 151 [.ref r, .ref x0, .int x1, .ref x2, .int x3, .int x4] σ τ) (mj_K 152 111 ls []) else none := mj_clV (as := [.ref x0, .int x1, .ref x2, .int x3, .int x4]) (r := []) i152_108 (by decide +kernel : mj_vk 152 151 5 0 6 false = true) (by decide +kernel)
theorem i152_111 : mj_ins 152 111 = some (.istore 3, 112) := by decide +kernel
theorem e152_111 {ls : mj_L} {st : List Value} {σ : mj_S} {τ : mj_T} {a0 a1 a2 a3 : Option Value} {v : Int32} : mj_E 152 111 (a0 :: a1 :: a2 :: a3 :: ls) (.int v :: st) σ τ = mj_E 152 112 (a0 :: a1 :: a2 :: some (.int v) :: ls) st σ τ := mj_nx i152_111 rfl
theorem i152_112 : mj_ins 152 112 = some (.aload 0, 113) := by decide +kernel
theorem e152_112 {ls : mj_L} {st : List Value} {σ : mj_S} {τ : mj_T} {v : Nat} : mj_E 152 112 (some (.ref v) :: ls) st σ τ = mj_E 152 113 (some (.ref v) :: ls) (.ref v :: st) σ τ := mj_nx i152_112 rfl
theorem i152_113 : mj_ins 152 113 = some (.aload 0, 114) := by decide +kernel
theorem e152_113 {ls : mj_L} {st : List Value} {σ : mj_S} {τ : mj_T} {v : Nat} : mj_E 152 113 (some (.ref v) :: ls) st σ τ = mj_E 152 114 (some (.ref v) :: ls) (.ref v :: st) σ τ := mj_nx i152_113 rfl
theorem i152_114 : mj_ins 152 114 = some (.getfield 715, 117) := by decide +kernel
theorem e152_114 {ls : mj_L} {st : List Value} {σ : mj_S} {τ : mj_T} : mj_E 152 114 ls (.ref 62 :: st) σ τ = mj_E 152 117 ls (.ref 72 :: st) σ τ := mj_nx i152_114 rfl
theorem i152_117 : mj_ins 152 117 = some (.iconst (6), 119) := by decide +kernel
theorem e152_117 {ls : mj_L} {st : List Value} {σ : mj_S} {τ : mj_T} : mj_E 152 117 ls st σ τ = mj_E 152 119 ls (.int (nI 6) :: st) σ τ := mj_nx i152_117 rfl
theorem i152_119 : mj_ins 152 119 = some (.aload 1, 120) := by decide +kernel
theorem e152_119 {ls : mj_L} {st : List Value} {σ : mj_S} {τ : mj_T} {a0 : Option Value} {v : Nat} : mj_E 152 119 (a0 :: some (.ref v) :: ls) st σ τ = mj_E 152 120 (a0 :: some (.ref v) :: ls) (.ref v :: st) σ τ := mj_nx i152_119 rfl
theorem i152_120 : mj_ins 152 120 = some (.iload 3, 121) := by decide +kernel
theorem e152_120 {ls : mj_L} {st : List Value} {σ : mj_S} {τ : mj_T} {a0 a1 a2 : Option Value} {v : Int32} : mj_E 152 120 (a0 :: a1 :: a2 :: some (.int v) :: ls) st σ τ = mj_E 152 121 (a0 :: a1 :: a2 :: some (.int v) :: ls) (.int v :: st) σ τ := mj_nx i152_120 rfl
theorem i152_121 : mj_ins 152 121 = some (.iload 2, 122) := by decide +kernel
theorem e152_121 {ls : mj_L} {st : List Value} {σ : mj_S} {τ : mj_T} {a0 a1 : Option Value} {v : Int32} : mj_E 152 121 (a0 :: a1 :: some (.int v) :: ls) st σ τ = mj_E 152 122 (a0 :: a1 :: some (.int v) :: ls) (.int v :: st) σ τ := mj_nx i152_121 rfl
theorem i152_122 : mj_ins 152 122 = some (.invokevirtual 151, 125) := by decide +kernel
theorem e152_122 {ls : mj_L} {σ : mj_S} {τ : mj_T} {r : Nat} {x0 : Nat} {x1 : Int32} {x2 : Nat} {x3 : Int32} {x4 : Int32} : mj_E 152 122 ls [.int x4, .int x3, .ref x2, .int x1, .ref x0, .ref r] σ τ = if mj_rcv r 7 = true then mj_bd (mj_C 151 [.ref r, .ref x0, .int x1, .ref x2, .int x3, .int x4] σ τ) (mj_K 152 125 ls []) else none := mj_clV (as := [.ref x0, .int x1, .ref x2, .int x3, .int x4]) (r := []) i152_122 (by decide +kernel : mj_vk 152 151 5 0 6 false = true) (by decide +kernel)
theorem i152_125 : mj_ins 152 125 = some (.istore 3, 126) := by decide +kernel
theorem e152_125 {ls : mj_L} {st : List Value} {σ : mj_S} {τ : mj_T} {a0 a1 a2 a3 : Option Value} {v : Int32} : mj_E 152 125 (a0 :: a1 :: a2 :: a3 :: ls) (.int v :: st) σ τ = mj_E 152 126 (a0 :: a1 :: a2 :: some (.int v) :: ls) st σ τ := mj_nx i152_125 rfl
theorem i152_126 : mj_ins 152 126 = some (.aload 0, 127) := by decide +kernel
theorem e152_126 {ls : mj_L} {st : List Value} {σ : mj_S} {τ : mj_T} {v : Nat} : mj_E 152 126 (some (.ref v) :: ls) st σ τ = mj_E 152 127 (some (.ref v) :: ls) (.ref v :: st) σ τ := mj_nx i152_126 rfl
theorem i152_127 : mj_ins 152 127 = some (.aload 0, 128) := by decide +kernel
theorem e152_127 {ls : mj_L} {st : List Value} {σ : mj_S} {τ : mj_T} {v : Nat} : mj_E 152 127 (some (.ref v) :: ls) st σ τ = mj_E 152 128 (some (.ref v) :: ls) (.ref v :: st) σ τ := mj_nx i152_127 rfl
theorem i152_128 : mj_ins 152 128 = some (.getfield 716, 131) := by decide +kernel
theorem e152_128 {ls : mj_L} {st : List Value} {σ : mj_S} {τ : mj_T} : mj_E 152 128 ls (.ref 62 :: st) σ τ = mj_E 152 131 ls (.ref 73 :: st) σ τ := mj_nx i152_128 rfl
theorem i152_131 : mj_ins 152 131 = some (.iconst (48), 133) := by decide +kernel
theorem e152_131 {ls : mj_L} {st : List Value} {σ : mj_S} {τ : mj_T} : mj_E 152 131 ls st σ τ = mj_E 152 133 ls (.int (nI 48) :: st) σ τ := mj_nx i152_131 rfl
theorem i152_133 : mj_ins 152 133 = some (.aload 1, 134) := by decide +kernel
theorem e152_133 {ls : mj_L} {st : List Value} {σ : mj_S} {τ : mj_T} {a0 : Option Value} {v : Nat} : mj_E 152 133 (a0 :: some (.ref v) :: ls) st σ τ = mj_E 152 134 (a0 :: some (.ref v) :: ls) (.ref v :: st) σ τ := mj_nx i152_133 rfl
theorem i152_134 : mj_ins 152 134 = some (.iload 3, 135) := by decide +kernel
theorem e152_134 {ls : mj_L} {st : List Value} {σ : mj_S} {τ : mj_T} {a0 a1 a2 : Option Value} {v : Int32} : mj_E 152 134 (a0 :: a1 :: a2 :: some (.int v) :: ls) st σ τ = mj_E 152 135 (a0 :: a1 :: a2 :: some (.int v) :: ls) (.int v :: st) σ τ := mj_nx i152_134 rfl
theorem i152_135 : mj_ins 152 135 = some (.iload 2, 136) := by decide +kernel
theorem e152_135 {ls : mj_L} {st : List Value} {σ : mj_S} {τ : mj_T} {a0 a1 : Option Value} {v : Int32} : mj_E 152 135 (a0 :: a1 :: some (.int v) :: ls) st σ τ = mj_E 152 136 (a0 :: a1 :: some (.int v) :: ls) (.int v :: st) σ τ := mj_nx i152_135 rfl
theorem i152_136 : mj_ins 152 136 = some (.invokevirtual 151, 139) := by decide +kernel
theorem e152_136 {ls : mj_L} {σ : mj_S} {τ : mj_T} {r : Nat} {x0 : Nat} {x1 : Int32} {x2 : Nat} {x3 : Int32} {x4 : Int32} : mj_E 152 136 ls [.int x4, .int x3, .ref x2, .int x1, .ref x0, .ref r] σ τ = if mj_rcv r 7 = true then mj_bd (mj_C 151 [.ref r, .ref x0, .int x1, .ref x2, .int x3, .int x4] σ τ) (mj_K 152 139 ls []) else none := mj_clV (as := [.ref x0, .int x1, .ref x2, .int x3, .int x4]) (r := []) i152_136 (by decide +kernel : mj_vk 152 151 5 0 6 false = true) (by decide +kernel)
theorem i152_139 : mj_ins 152 139 = some (.istore 3, 140) := by decide +kernel
theorem e152_139 {ls : mj_L} {st : List Value} {σ : mj_S} {τ : mj_T} {a0 a1 a2 a3 : Option Value} {v : Int32} : mj_E 152 139 (a0 :: a1 :: a2 :: a3 :: ls) (.int v :: st) σ τ = mj_E 152 140 (a0 :: a1 :: a2 :: some (.int v) :: ls) st σ τ := mj_nx i152_139 rfl
theorem i152_140 : mj_ins 152 140 = some (.iload 2, 141) := by decide +kernel
theorem e152_140 {ls : mj_L} {st : List Value} {σ : mj_S} {τ : mj_T} {a0 a1 : Option Value} {v : Int32} : mj_E 152 140 (a0 :: a1 :: some (.int v) :: ls) st σ τ = mj_E 152 141 (a0 :: a1 :: some (.int v) :: ls) (.int v :: st) σ τ := mj_nx i152_140 rfl
theorem i152_141 : mj_ins 152 141 = some (.ifCond .eq 190, 144) := by decide +kernel
theorem e152_141 {ls : mj_L} {st : List Value} {σ : mj_S} {τ : mj_T} {x : Int32} : mj_E 152 141 ls (.int x :: st) σ τ = if x = 0 then mj_E 152 190 ls st σ τ else mj_E 152 144 ls st σ τ := (mj_ifc i152_141).trans (mj_cdT rfl)
theorem i152_144 : mj_ins 152 144 = some (.aload 0, 145) := by decide +kernel
theorem e152_144 {ls : mj_L} {st : List Value} {σ : mj_S} {τ : mj_T} {v : Nat} : mj_E 152 144 (some (.ref v) :: ls) st σ τ = mj_E 152 145 (some (.ref v) :: ls) (.ref v :: st) σ τ := mj_nx i152_144 rfl
theorem i152_145 : mj_ins 152 145 = some (.aload 1, 146) := by decide +kernel
theorem e152_145 {ls : mj_L} {st : List Value} {σ : mj_S} {τ : mj_T} {a0 : Option Value} {v : Nat} : mj_E 152 145 (a0 :: some (.ref v) :: ls) st σ τ = mj_E 152 146 (a0 :: some (.ref v) :: ls) (.ref v :: st) σ τ := mj_nx i152_145 rfl
theorem i152_146 : mj_ins 152 146 = some (.iload 3, 147) := by decide +kernel
theorem e152_146 {ls : mj_L} {st : List Value} {σ : mj_S} {τ : mj_T} {a0 a1 a2 : Option Value} {v : Int32} : mj_E 152 146 (a0 :: a1 :: a2 :: some (.int v) :: ls) st σ τ = mj_E 152 147 (a0 :: a1 :: a2 :: some (.int v) :: ls) (.int v :: st) σ τ := mj_nx i152_146 rfl
theorem i152_147 : mj_ins 152 147 = some (.iaload, 148) := by decide +kernel
theorem e152_147 {ls : mj_L} {st : List Value} {σ : mj_S} {τ : mj_T} {x : Int32} {k : Nat} : mj_E 152 147 ls (.int x :: .ref k :: st) σ τ = if mj_ib (mj_li σ k) x = true then mj_E 152 148 ls (.int (σ k x.toNatClampNeg) :: st) σ τ else none := mj_ald i152_147
theorem i152_148 : mj_ins 152 148 = some (.putfield 700, 151) := by decide +kernel
theorem e152_148 {ls : mj_L} {st : List Value} {σ : mj_S} {τ : mj_T} {v : Int32} : mj_E 152 148 ls (.int v :: .ref 62 :: st) σ τ = mj_E 152 151 ls st (mj_up σ 62 0 v) τ := mj_nx i152_148 rfl
theorem i152_151 : mj_ins 152 151 = some (.aload 0, 152) := by decide +kernel
theorem e152_151 {ls : mj_L} {st : List Value} {σ : mj_S} {τ : mj_T} {v : Nat} : mj_E 152 151 (some (.ref v) :: ls) st σ τ = mj_E 152 152 (some (.ref v) :: ls) (.ref v :: st) σ τ := mj_nx i152_151 rfl
theorem i152_152 : mj_ins 152 152 = some (.aload 1, 153) := by decide +kernel
theorem e152_152 {ls : mj_L} {st : List Value} {σ : mj_S} {τ : mj_T} {a0 : Option Value} {v : Nat} : mj_E 152 152 (a0 :: some (.ref v) :: ls) st σ τ = mj_E 152 153 (a0 :: some (.ref v) :: ls) (.ref v :: st) σ τ := mj_nx i152_152 rfl
theorem i152_153 : mj_ins 152 153 = some (.iload 3, 154) := by decide +kernel
theorem e152_153 {ls : mj_L} {st : List Value} {σ : mj_S} {τ : mj_T} {a0 a1 a2 : Option Value} {v : Int32} : mj_E 152 153 (a0 :: a1 :: a2 :: some (.int v) :: ls) st σ τ = mj_E 152 154 (a0 :: a1 :: a2 :: some (.int v) :: ls) (.int v :: st) σ τ := mj_nx i152_153 rfl
theorem i152_154 : mj_ins 152 154 = some (.iconst (1), 155) := by decide +kernel
theorem e152_154 {ls : mj_L} {st : List Value} {σ : mj_S} {τ : mj_T} : mj_E 152 154 ls st σ τ = mj_E 152 155 ls (.int (nI 1) :: st) σ τ := mj_nx i152_154 rfl
theorem i152_155 : mj_ins 152 155 = some (.iadd, 156) := by decide +kernel
theorem e152_155 {ls : mj_L} {st : List Value} {σ : mj_S} {τ : mj_T} {x y : Int32} : mj_E 152 155 ls (.int y :: .int x :: st) σ τ = mj_E 152 156 ls (.int (x + y) :: st) σ τ := mj_nx i152_155 rfl
theorem i152_156 : mj_ins 152 156 = some (.iaload, 157) := by decide +kernel
theorem e152_156 {ls : mj_L} {st : List Value} {σ : mj_S} {τ : mj_T} {x : Int32} {k : Nat} : mj_E 152 156 ls (.int x :: .ref k :: st) σ τ = if mj_ib (mj_li σ k) x = true then mj_E 152 157 ls (.int (σ k x.toNatClampNeg) :: st) σ τ else none := mj_ald i152_156
theorem i152_157 : mj_ins 152 157 = some (.putfield 701, 160) := by decide +kernel
theorem e152_157 {ls : mj_L} {st : List Value} {σ : mj_S} {τ : mj_T} {v : Int32} : mj_E 152 157 ls (.int v :: .ref 62 :: st) σ τ = mj_E 152 160 ls st (mj_up σ 62 1 v) τ := mj_nx i152_157 rfl
theorem i152_160 : mj_ins 152 160 = some (.aload 0, 161) := by decide +kernel
theorem e152_160 {ls : mj_L} {st : List Value} {σ : mj_S} {τ : mj_T} {v : Nat} : mj_E 152 160 (some (.ref v) :: ls) st σ τ = mj_E 152 161 (some (.ref v) :: ls) (.ref v :: st) σ τ := mj_nx i152_160 rfl
theorem i152_161 : mj_ins 152 161 = some (.aload 1, 162) := by decide +kernel
theorem e152_161 {ls : mj_L} {st : List Value} {σ : mj_S} {τ : mj_T} {a0 : Option Value} {v : Nat} : mj_E 152 161 (a0 :: some (.ref v) :: ls) st σ τ = mj_E 152 162 (a0 :: some (.ref v) :: ls) (.ref v :: st) σ τ := mj_nx i152_161 rfl
theorem i152_162 : mj_ins 152 162 = some (.iload 3, 163) := by decide +kernel
theorem e152_162 {ls : mj_L} {st : List Value} {σ : mj_S} {τ : mj_T} {a0 a1 a2 : Option Value} {v : Int32} : mj_E 152 162 (a0 :: a1 :: a2 :: some (.int v) :: ls) st σ τ = mj_E 152 163 (a0 :: a1 :: a2 :: some (.int v) :: ls) (.int v :: st) σ τ := mj_nx i152_162 rfl
theorem i152_163 : mj_ins 152 163 = some (.iconst (2), 164) := by decide +kernel
theorem e152_163 {ls : mj_L} {st : List Value} {σ : mj_S} {τ : mj_T} : mj_E 152 163 ls st σ τ = mj_E 152 164 ls (.int (nI 2) :: st) σ τ := mj_nx i152_163 rfl
theorem i152_164 : mj_ins 152 164 = some (.iadd, 165) := by decide +kernel
theorem e152_164 {ls : mj_L} {st : List Value} {σ : mj_S} {τ : mj_T} {x y : Int32} : mj_E 152 164 ls (.int y :: .int x :: st) σ τ = mj_E 152 165 ls (.int (x + y) :: st) σ τ := mj_nx i152_164 rfl
theorem i152_165 : mj_ins 152 165 = some (.iaload, 166) := by decide +kernel
theorem e152_165 {ls : mj_L} {st : List Value} {σ : mj_S} {τ : mj_T} {x : Int32} {k : Nat} : mj_E 152 165 ls (.int x :: .ref k :: st) σ τ = if mj_ib (mj_li σ k) x = true then mj_E 152 166 ls (.int (σ k x.toNatClampNeg) :: st) σ τ else none := mj_ald i152_165
theorem i152_166 : mj_ins 152 166 = some (.putfield 702, 169) := by decide +kernel
theorem e152_166 {ls : mj_L} {st : List Value} {σ : mj_S} {τ : mj_T} {v : Int32} : mj_E 152 166 ls (.int v :: .ref 62 :: st) σ τ = mj_E 152 169 ls st (mj_up σ 62 2 v) τ := mj_nx i152_166 rfl
theorem i152_169 : mj_ins 152 169 = some (.aload 0, 170) := by decide +kernel
theorem e152_169 {ls : mj_L} {st : List Value} {σ : mj_S} {τ : mj_T} {v : Nat} : mj_E 152 169 (some (.ref v) :: ls) st σ τ = mj_E 152 170 (some (.ref v) :: ls) (.ref v :: st) σ τ := mj_nx i152_169 rfl
theorem i152_170 : mj_ins 152 170 = some (.aload 1, 171) := by decide +kernel
theorem e152_170 {ls : mj_L} {st : List Value} {σ : mj_S} {τ : mj_T} {a0 : Option Value} {v : Nat} : mj_E 152 170 (a0 :: some (.ref v) :: ls) st σ τ = mj_E 152 171 (a0 :: some (.ref v) :: ls) (.ref v :: st) σ τ := mj_nx i152_170 rfl
theorem i152_171 : mj_ins 152 171 = some (.iload 3, 172) := by decide +kernel
theorem e152_171 {ls : mj_L} {st : List Value} {σ : mj_S} {τ : mj_T} {a0 a1 a2 : Option Value} {v : Int32} : mj_E 152 171 (a0 :: a1 :: a2 :: some (.int v) :: ls) st σ τ = mj_E 152 172 (a0 :: a1 :: a2 :: some (.int v) :: ls) (.int v :: st) σ τ := mj_nx i152_171 rfl
theorem i152_172 : mj_ins 152 172 = some (.iconst (3), 173) := by decide +kernel
theorem e152_172 {ls : mj_L} {st : List Value} {σ : mj_S} {τ : mj_T} : mj_E 152 172 ls st σ τ = mj_E 152 173 ls (.int (nI 3) :: st) σ τ := mj_nx i152_172 rfl
theorem i152_173 : mj_ins 152 173 = some (.iadd, 174) := by decide +kernel
theorem e152_173 {ls : mj_L} {st : List Value} {σ : mj_S} {τ : mj_T} {x y : Int32} : mj_E 152 173 ls (.int y :: .int x :: st) σ τ = mj_E 152 174 ls (.int (x + y) :: st) σ τ := mj_nx i152_173 rfl
theorem i152_174 : mj_ins 152 174 = some (.iaload, 175) := by decide +kernel
theorem e152_174 {ls : mj_L} {st : List Value} {σ : mj_S} {τ : mj_T} {x : Int32} {k : Nat} : mj_E 152 174 ls (.int x :: .ref k :: st) σ τ = if mj_ib (mj_li σ k) x = true then mj_E 152 175 ls (.int (σ k x.toNatClampNeg) :: st) σ τ else none := mj_ald i152_174
theorem i152_175 : mj_ins 152 175 = some (.putfield 703, 178) := by decide +kernel
theorem e152_175 {ls : mj_L} {st : List Value} {σ : mj_S} {τ : mj_T} {v : Int32} : mj_E 152 175 ls (.int v :: .ref 62 :: st) σ τ = mj_E 152 178 ls st (mj_up σ 62 3 v) τ := mj_nx i152_175 rfl
theorem i152_178 : mj_ins 152 178 = some (.aload 0, 179) := by decide +kernel
theorem e152_178 {ls : mj_L} {st : List Value} {σ : mj_S} {τ : mj_T} {v : Nat} : mj_E 152 178 (some (.ref v) :: ls) st σ τ = mj_E 152 179 (some (.ref v) :: ls) (.ref v :: st) σ τ := mj_nx i152_178 rfl
theorem i152_179 : mj_ins 152 179 = some (.aload 1, 180) := by decide +kernel
theorem e152_179 {ls : mj_L} {st : List Value} {σ : mj_S} {τ : mj_T} {a0 : Option Value} {v : Nat} : mj_E 152 179 (a0 :: some (.ref v) :: ls) st σ τ = mj_E 152 180 (a0 :: some (.ref v) :: ls) (.ref v :: st) σ τ := mj_nx i152_179 rfl
theorem i152_180 : mj_ins 152 180 = some (.iload 3, 181) := by decide +kernel
theorem e152_180 {ls : mj_L} {st : List Value} {σ : mj_S} {τ : mj_T} {a0 a1 a2 : Option Value} {v : Int32} : mj_E 152 180 (a0 :: a1 :: a2 :: some (.int v) :: ls) st σ τ = mj_E 152 181 (a0 :: a1 :: a2 :: some (.int v) :: ls) (.int v :: st) σ τ := mj_nx i152_180 rfl
theorem i152_181 : mj_ins 152 181 = some (.iconst (4), 182) := by decide +kernel
theorem e152_181 {ls : mj_L} {st : List Value} {σ : mj_S} {τ : mj_T} : mj_E 152 181 ls st σ τ = mj_E 152 182 ls (.int (nI 4) :: st) σ τ := mj_nx i152_181 rfl
theorem i152_182 : mj_ins 152 182 = some (.iadd, 183) := by decide +kernel
theorem e152_182 {ls : mj_L} {st : List Value} {σ : mj_S} {τ : mj_T} {x y : Int32} : mj_E 152 182 ls (.int y :: .int x :: st) σ τ = mj_E 152 183 ls (.int (x + y) :: st) σ τ := mj_nx i152_182 rfl
theorem i152_183 : mj_ins 152 183 = some (.iaload, 184) := by decide +kernel
theorem e152_183 {ls : mj_L} {st : List Value} {σ : mj_S} {τ : mj_T} {x : Int32} {k : Nat} : mj_E 152 183 ls (.int x :: .ref k :: st) σ τ = if mj_ib (mj_li σ k) x = true then mj_E 152 184 ls (.int (σ k x.toNatClampNeg) :: st) σ τ else none := mj_ald i152_183
theorem i152_184 : mj_ins 152 184 = some (.putfield 704, 187) := by decide +kernel
theorem e152_184 {ls : mj_L} {st : List Value} {σ : mj_S} {τ : mj_T} {v : Int32} : mj_E 152 184 ls (.int v :: .ref 62 :: st) σ τ = mj_E 152 187 ls st (mj_up σ 62 4 v) τ := mj_nx i152_184 rfl
theorem i152_187 : mj_ins 152 187 = some (.goto 233, 190) := by decide +kernel
theorem e152_187 {ls : mj_L} {st : List Value} {σ : mj_S} {τ : mj_T} : mj_E 152 187 ls st σ τ = mj_E 152 233 ls st σ τ := mj_nx i152_187 rfl
theorem i152_190 : mj_ins 152 190 = some (.aload 1, 191) := by decide +kernel
theorem e152_190 {ls : mj_L} {st : List Value} {σ : mj_S} {τ : mj_T} {a0 : Option Value} {v : Nat} : mj_E 152 190 (a0 :: some (.ref v) :: ls) st σ τ = mj_E 152 191 (a0 :: some (.ref v) :: ls) (.ref v :: st) σ τ := mj_nx i152_190 rfl
theorem i152_191 : mj_ins 152 191 = some (.iload 3, 192) := by decide +kernel
theorem e152_191 {ls : mj_L} {st : List Value} {σ : mj_S} {τ : mj_T} {a0 a1 a2 : Option Value} {v : Int32} : mj_E 152 191 (a0 :: a1 :: a2 :: some (.int v) :: ls) st σ τ = mj_E 152 192 (a0 :: a1 :: a2 :: some (.int v) :: ls) (.int v :: st) σ τ := mj_nx i152_191 rfl
theorem i152_192 : mj_ins 152 192 = some (.aload 0, 193) := by decide +kernel
theorem e152_192 {ls : mj_L} {st : List Value} {σ : mj_S} {τ : mj_T} {v : Nat} : mj_E 152 192 (some (.ref v) :: ls) st σ τ = mj_E 152 193 (some (.ref v) :: ls) (.ref v :: st) σ τ := mj_nx i152_192 rfl
theorem i152_193 : mj_ins 152 193 = some (.getfield 700, 196) := by decide +kernel
theorem e152_193 {ls : mj_L} {st : List Value} {σ : mj_S} {τ : mj_T} : mj_E 152 193 ls (.ref 62 :: st) σ τ = mj_E 152 196 ls (.int (σ 62 0) :: st) σ τ := mj_nx i152_193 rfl
theorem i152_196 : mj_ins 152 196 = some (.iastore, 197) := by decide +kernel
theorem e152_196 {ls : mj_L} {st : List Value} {σ : mj_S} {τ : mj_T} {x v : Int32} {k : Nat} : mj_E 152 196 ls (.int v :: .int x :: .ref k :: st) σ τ = if mj_ib (mj_lw k) x = true then mj_E 152 197 ls st (mj_up σ k x.toNatClampNeg v) τ else none := mj_ast i152_196
theorem i152_197 : mj_ins 152 197 = some (.aload 1, 198) := by decide +kernel
theorem e152_197 {ls : mj_L} {st : List Value} {σ : mj_S} {τ : mj_T} {a0 : Option Value} {v : Nat} : mj_E 152 197 (a0 :: some (.ref v) :: ls) st σ τ = mj_E 152 198 (a0 :: some (.ref v) :: ls) (.ref v :: st) σ τ := mj_nx i152_197 rfl
theorem i152_198 : mj_ins 152 198 = some (.iload 3, 199) := by decide +kernel
theorem e152_198 {ls : mj_L} {st : List Value} {σ : mj_S} {τ : mj_T} {a0 a1 a2 : Option Value} {v : Int32} : mj_E 152 198 (a0 :: a1 :: a2 :: some (.int v) :: ls) st σ τ = mj_E 152 199 (a0 :: a1 :: a2 :: some (.int v) :: ls) (.int v :: st) σ τ := mj_nx i152_198 rfl
theorem i152_199 : mj_ins 152 199 = some (.iconst (1), 200) := by decide +kernel
theorem e152_199 {ls : mj_L} {st : List Value} {σ : mj_S} {τ : mj_T} : mj_E 152 199 ls st σ τ = mj_E 152 200 ls (.int (nI 1) :: st) σ τ := mj_nx i152_199 rfl
theorem i152_200 : mj_ins 152 200 = some (.iadd, 201) := by decide +kernel
theorem e152_200 {ls : mj_L} {st : List Value} {σ : mj_S} {τ : mj_T} {x y : Int32} : mj_E 152 200 ls (.int y :: .int x :: st) σ τ = mj_E 152 201 ls (.int (x + y) :: st) σ τ := mj_nx i152_200 rfl
theorem i152_201 : mj_ins 152 201 = some (.aload 0, 202) := by decide +kernel
theorem e152_201 {ls : mj_L} {st : List Value} {σ : mj_S} {τ : mj_T} {v : Nat} : mj_E 152 201 (some (.ref v) :: ls) st σ τ = mj_E 152 202 (some (.ref v) :: ls) (.ref v :: st) σ τ := mj_nx i152_201 rfl
theorem i152_202 : mj_ins 152 202 = some (.getfield 701, 205) := by decide +kernel
theorem e152_202 {ls : mj_L} {st : List Value} {σ : mj_S} {τ : mj_T} : mj_E 152 202 ls (.ref 62 :: st) σ τ = mj_E 152 205 ls (.int (σ 62 1) :: st) σ τ := mj_nx i152_202 rfl
theorem i152_205 : mj_ins 152 205 = some (.iastore, 206) := by decide +kernel
theorem e152_205 {ls : mj_L} {st : List Value} {σ : mj_S} {τ : mj_T} {x v : Int32} {k : Nat} : mj_E 152 205 ls (.int v :: .int x :: .ref k :: st) σ τ = if mj_ib (mj_lw k) x = true then mj_E 152 206 ls st (mj_up σ k x.toNatClampNeg v) τ else none := mj_ast i152_205
theorem i152_206 : mj_ins 152 206 = some (.aload 1, 207) := by decide +kernel
theorem e152_206 {ls : mj_L} {st : List Value} {σ : mj_S} {τ : mj_T} {a0 : Option Value} {v : Nat} : mj_E 152 206 (a0 :: some (.ref v) :: ls) st σ τ = mj_E 152 207 (a0 :: some (.ref v) :: ls) (.ref v :: st) σ τ := mj_nx i152_206 rfl
theorem i152_207 : mj_ins 152 207 = some (.iload 3, 208) := by decide +kernel
theorem e152_207 {ls : mj_L} {st : List Value} {σ : mj_S} {τ : mj_T} {a0 a1 a2 : Option Value} {v : Int32} : mj_E 152 207 (a0 :: a1 :: a2 :: some (.int v) :: ls) st σ τ = mj_E 152 208 (a0 :: a1 :: a2 :: some (.int v) :: ls) (.int v :: st) σ τ := mj_nx i152_207 rfl
theorem i152_208 : mj_ins 152 208 = some (.iconst (2), 209) := by decide +kernel
theorem e152_208 {ls : mj_L} {st : List Value} {σ : mj_S} {τ : mj_T} : mj_E 152 208 ls st σ τ = mj_E 152 209 ls (.int (nI 2) :: st) σ τ := mj_nx i152_208 rfl
theorem i152_209 : mj_ins 152 209 = some (.iadd, 210) := by decide +kernel
theorem e152_209 {ls : mj_L} {st : List Value} {σ : mj_S} {τ : mj_T} {x y : Int32} : mj_E 152 209 ls (.int y :: .int x :: st) σ τ = mj_E 152 210 ls (.int (x + y) :: st) σ τ := mj_nx i152_209 rfl
theorem i152_210 : mj_ins 152 210 = some (.aload 0, 211) := by decide +kernel
theorem e152_210 {ls : mj_L} {st : List Value} {σ : mj_S} {τ : mj_T} {v : Nat} : mj_E 152 210 (some (.ref v) :: ls) st σ τ = mj_E 152 211 (some (.ref v) :: ls) (.ref v :: st) σ τ := mj_nx i152_210 rfl
theorem i152_211 : mj_ins 152 211 = some (.getfield 702, 214) := by decide +kernel
theorem e152_211 {ls : mj_L} {st : List Value} {σ : mj_S} {τ : mj_T} : mj_E 152 211 ls (.ref 62 :: st) σ τ = mj_E 152 214 ls (.int (σ 62 2) :: st) σ τ := mj_nx i152_211 rfl
theorem i152_214 : mj_ins 152 214 = some (.iastore, 215) := by decide +kernel
theorem e152_214 {ls : mj_L} {st : List Value} {σ : mj_S} {τ : mj_T} {x v : Int32} {k : Nat} : mj_E 152 214 ls (.int v :: .int x :: .ref k :: st) σ τ = if mj_ib (mj_lw k) x = true then mj_E 152 215 ls st (mj_up σ k x.toNatClampNeg v) τ else none := mj_ast i152_214
theorem i152_215 : mj_ins 152 215 = some (.aload 1, 216) := by decide +kernel
theorem e152_215 {ls : mj_L} {st : List Value} {σ : mj_S} {τ : mj_T} {a0 : Option Value} {v : Nat} : mj_E 152 215 (a0 :: some (.ref v) :: ls) st σ τ = mj_E 152 216 (a0 :: some (.ref v) :: ls) (.ref v :: st) σ τ := mj_nx i152_215 rfl
theorem i152_216 : mj_ins 152 216 = some (.iload 3, 217) := by decide +kernel
theorem e152_216 {ls : mj_L} {st : List Value} {σ : mj_S} {τ : mj_T} {a0 a1 a2 : Option Value} {v : Int32} : mj_E 152 216 (a0 :: a1 :: a2 :: some (.int v) :: ls) st σ τ = mj_E 152 217 (a0 :: a1 :: a2 :: some (.int v) :: ls) (.int v :: st) σ τ := mj_nx i152_216 rfl
theorem i152_217 : mj_ins 152 217 = some (.iconst (3), 218) := by decide +kernel
theorem e152_217 {ls : mj_L} {st : List Value} {σ : mj_S} {τ : mj_T} : mj_E 152 217 ls st σ τ = mj_E 152 218 ls (.int (nI 3) :: st) σ τ := mj_nx i152_217 rfl
theorem i152_218 : mj_ins 152 218 = some (.iadd, 219) := by decide +kernel
theorem e152_218 {ls : mj_L} {st : List Value} {σ : mj_S} {τ : mj_T} {x y : Int32} : mj_E 152 218 ls (.int y :: .int x :: st) σ τ = mj_E 152 219 ls (.int (x + y) :: st) σ τ := mj_nx i152_218 rfl
theorem i152_219 : mj_ins 152 219 = some (.aload 0, 220) := by decide +kernel
theorem e152_219 {ls : mj_L} {st : List Value} {σ : mj_S} {τ : mj_T} {v : Nat} : mj_E 152 219 (some (.ref v) :: ls) st σ τ = mj_E 152 220 (some (.ref v) :: ls) (.ref v :: st) σ τ := mj_nx i152_219 rfl
theorem i152_220 : mj_ins 152 220 = some (.getfield 703, 223) := by decide +kernel
theorem e152_220 {ls : mj_L} {st : List Value} {σ : mj_S} {τ : mj_T} : mj_E 152 220 ls (.ref 62 :: st) σ τ = mj_E 152 223 ls (.int (σ 62 3) :: st) σ τ := mj_nx i152_220 rfl
theorem i152_223 : mj_ins 152 223 = some (.iastore, 224) := by decide +kernel
theorem e152_223 {ls : mj_L} {st : List Value} {σ : mj_S} {τ : mj_T} {x v : Int32} {k : Nat} : mj_E 152 223 ls (.int v :: .int x :: .ref k :: st) σ τ = if mj_ib (mj_lw k) x = true then mj_E 152 224 ls st (mj_up σ k x.toNatClampNeg v) τ else none := mj_ast i152_223
theorem i152_224 : mj_ins 152 224 = some (.aload 1, 225) := by decide +kernel
theorem e152_224 {ls : mj_L} {st : List Value} {σ : mj_S} {τ : mj_T} {a0 : Option Value} {v : Nat} : mj_E 152 224 (a0 :: some (.ref v) :: ls) st σ τ = mj_E 152 225 (a0 :: some (.ref v) :: ls) (.ref v :: st) σ τ := mj_nx i152_224 rfl
theorem i152_225 : mj_ins 152 225 = some (.iload 3, 226) := by decide +kernel
theorem e152_225 {ls : mj_L} {st : List Value} {σ : mj_S} {τ : mj_T} {a0 a1 a2 : Option Value} {v : Int32} : mj_E 152 225 (a0 :: a1 :: a2 :: some (.int v) :: ls) st σ τ = mj_E 152 226 (a0 :: a1 :: a2 :: some (.int v) :: ls) (.int v :: st) σ τ := mj_nx i152_225 rfl
theorem i152_226 : mj_ins 152 226 = some (.iconst (4), 227) := by decide +kernel
theorem e152_226 {ls : mj_L} {st : List Value} {σ : mj_S} {τ : mj_T} : mj_E 152 226 ls st σ τ = mj_E 152 227 ls (.int (nI 4) :: st) σ τ := mj_nx i152_226 rfl
theorem i152_227 : mj_ins 152 227 = some (.iadd, 228) := by decide +kernel
theorem e152_227 {ls : mj_L} {st : List Value} {σ : mj_S} {τ : mj_T} {x y : Int32} : mj_E 152 227 ls (.int y :: .int x :: st) σ τ = mj_E 152 228 ls (.int (x + y) :: st) σ τ := mj_nx i152_227 rfl
theorem i152_228 : mj_ins 152 228 = some (.aload 0, 229) := by decide +kernel
theorem e152_228 {ls : mj_L} {st : List Value} {σ : mj_S} {τ : mj_T} {v : Nat} : mj_E 152 228 (some (.ref v) :: ls) st σ τ = mj_E 152 229 (some (.ref v) :: ls) (.ref v :: st) σ τ := mj_nx i152_228 rfl
theorem i152_229 : mj_ins 152 229 = some (.getfield 704, 232) := by decide +kernel
theorem e152_229 {ls : mj_L} {st : List Value} {σ : mj_S} {τ : mj_T} : mj_E 152 229 ls (.ref 62 :: st) σ τ = mj_E 152 232 ls (.int (σ 62 4) :: st) σ τ := mj_nx i152_229 rfl
theorem i152_232 : mj_ins 152 232 = some (.iastore, 233) := by decide +kernel
theorem e152_232 {ls : mj_L} {st : List Value} {σ : mj_S} {τ : mj_T} {x v : Int32} {k : Nat} : mj_E 152 232 ls (.int v :: .int x :: .ref k :: st) σ τ = if mj_ib (mj_lw k) x = true then mj_E 152 233 ls st (mj_up σ k x.toNatClampNeg v) τ else none := mj_ast i152_232
theorem i152_233 : mj_ins 152 233 = some (.return_, 234) := by decide +kernel
theorem e152_233 {ls : mj_L} {σ : mj_S} {τ : mj_T} : mj_E 152 233 ls [] σ τ = some (none, σ, τ) := mj_vrt i152_233 rfl
theorem c153 {σ : mj_S} {τ : mj_T} {r : Nat} {x0 : Int32} : mj_C 153 [.ref r, .int x0] σ τ = mj_E 153 0 [some (.ref r), some (.int x0), none, none, none] [] σ τ := rfl
theorem i153_0 : mj_ins 153 0 = some (.aload 0, 1) := by decide +kernel
theorem e153_0 {ls : mj_L} {st : List Value} {σ : mj_S} {τ : mj_T} {v : Nat} : mj_E 153 0 (some (.ref v) :: ls) st σ τ = mj_E 153 1 (some (.ref v) :: ls) (.ref v :: st) σ τ := mj_nx i153_0 rfl
theorem i153_1 : mj_ins 153 1 = some (.iload 1, 2) := by decide +kernel
theorem e153_1 {ls : mj_L} {st : List Value} {σ : mj_S} {τ : mj_T} {a0 : Option Value} {v : Int32} : mj_E 153 1 (a0 :: some (.int v) :: ls) st σ τ = mj_E 153 2 (a0 :: some (.int v) :: ls) (.int v :: st) σ τ := mj_nx i153_1 rfl
theorem i153_2 : mj_ins 153 2 = some (.invokevirtual 130, 5) := by decide +kernel
theorem e153_2 {ls : mj_L} {σ : mj_S} {τ : mj_T} {r : Nat} {x0 : Int32} : mj_E 153 2 ls [.int x0, .ref r] σ τ = if mj_rcv r 7 = true then mj_bd (mj_C 130 [.ref r, .int x0] σ τ) (mj_K 153 5 ls []) else none := mj_clV (as := [.int x0]) (r := []) i153_2 (by decide +kernel : mj_vk 153 130 1 0 2 false = true) (by decide +kernel)
theorem i153_5 : mj_ins 153 5 = some (.istore 2, 6) := by decide +kernel
theorem e153_5 {ls : mj_L} {st : List Value} {σ : mj_S} {τ : mj_T} {a0 a1 a2 : Option Value} {v : Int32} : mj_E 153 5 (a0 :: a1 :: a2 :: ls) (.int v :: st) σ τ = mj_E 153 6 (a0 :: a1 :: some (.int v) :: ls) st σ τ := mj_nx i153_5 rfl
theorem i153_6 : mj_ins 153 6 = some (.iload 2, 7) := by decide +kernel
theorem e153_6 {ls : mj_L} {st : List Value} {σ : mj_S} {τ : mj_T} {a0 a1 : Option Value} {v : Int32} : mj_E 153 6 (a0 :: a1 :: some (.int v) :: ls) st σ τ = mj_E 153 7 (a0 :: a1 :: some (.int v) :: ls) (.int v :: st) σ τ := mj_nx i153_6 rfl
theorem i153_7 : mj_ins 153 7 = some (.ifCond .eq 16, 10) := by decide +kernel
theorem e153_7 {ls : mj_L} {st : List Value} {σ : mj_S} {τ : mj_T} {x : Int32} : mj_E 153 7 ls (.int x :: st) σ τ = if x = 0 then mj_E 153 16 ls st σ τ else mj_E 153 10 ls st σ τ := (mj_ifc i153_7).trans (mj_cdT rfl)
theorem i153_10 : mj_ins 153 10 = some (.aload 0, 11) := by decide +kernel
theorem e153_10 {ls : mj_L} {st : List Value} {σ : mj_S} {τ : mj_T} {v : Nat} : mj_E 153 10 (some (.ref v) :: ls) st σ τ = mj_E 153 11 (some (.ref v) :: ls) (.ref v :: st) σ τ := mj_nx i153_10 rfl
theorem i153_11 : mj_ins 153 11 = some (.iload 2, 12) := by decide +kernel
theorem e153_11 {ls : mj_L} {st : List Value} {σ : mj_S} {τ : mj_T} {a0 a1 : Option Value} {v : Int32} : mj_E 153 11 (a0 :: a1 :: some (.int v) :: ls) st σ τ = mj_E 153 12 (a0 :: a1 :: some (.int v) :: ls) (.int v :: st) σ τ := mj_nx i153_11 rfl
theorem i153_12 : mj_ins 153 12 = some (.invokevirtual 117, 15) := by decide +kernel
theorem e153_12 {ls : mj_L} {σ : mj_S} {τ : mj_T} {r : Nat} {x0 : Int32} : mj_E 153 12 ls [.int x0, .ref r] σ τ = if mj_rcv r 7 = true then mj_bd (mj_C 117 [.ref r, .int x0] σ τ) (mj_K 153 15 ls []) else none := mj_clV (as := [.int x0]) (r := []) i153_12 (by decide +kernel : mj_vk 153 117 1 0 2 false = true) (by decide +kernel)
theorem i153_15 : mj_ins 153 15 = some (.ireturn, 16) := by decide +kernel
theorem e153_15 {ls : mj_L} {σ : mj_S} {τ : mj_T} {v : Int32} : mj_E 153 15 ls [.int v] σ τ = some (some (.int v), σ, τ) := mj_irt i153_15 rfl
theorem i153_16 : mj_ins 153 16 = some (.aload 0, 17) := by decide +kernel
theorem e153_16 {ls : mj_L} {st : List Value} {σ : mj_S} {τ : mj_T} {v : Nat} : mj_E 153 16 (some (.ref v) :: ls) st σ τ = mj_E 153 17 (some (.ref v) :: ls) (.ref v :: st) σ τ := mj_nx i153_16 rfl
theorem i153_17 : mj_ins 153 17 = some (.aload 0, 18) := by decide +kernel
theorem e153_17 {ls : mj_L} {st : List Value} {σ : mj_S} {τ : mj_T} {v : Nat} : mj_E 153 17 (some (.ref v) :: ls) st σ τ = mj_E 153 18 (some (.ref v) :: ls) (.ref v :: st) σ τ := mj_nx i153_17 rfl
theorem i153_18 : mj_ins 153 18 = some (.getfield 732, 21) := by decide +kernel
theorem e153_18 {ls : mj_L} {st : List Value} {σ : mj_S} {τ : mj_T} : mj_E 153 18 ls (.ref 62 :: st) σ τ = mj_E 153 21 ls (.ref 84 :: st) σ τ := mj_nx i153_18 rfl
theorem i153_21 : mj_ins 153 21 = some (.iconst (0), 22) := by decide +kernel
theorem e153_21 {ls : mj_L} {st : List Value} {σ : mj_S} {τ : mj_T} : mj_E 153 21 ls st σ τ = mj_E 153 22 ls (.int (nI 0) :: st) σ τ := mj_nx i153_21 rfl
theorem i153_22 : mj_ins 153 22 = some (.invokevirtual 152, 25) := by decide +kernel
theorem e153_22 {ls : mj_L} {σ : mj_S} {τ : mj_T} {r : Nat} {x0 : Nat} {x1 : Int32} : mj_E 153 22 ls [.int x1, .ref x0, .ref r] σ τ = if mj_rcv r 7 = true then mj_bd (mj_C 152 [.ref r, .ref x0, .int x1] σ τ) (mj_K 153 25 ls []) else none := mj_clV (as := [.ref x0, .int x1]) (r := []) i153_22 (by decide +kernel : mj_vk 153 152 2 0 3 false = true) (by decide +kernel)
theorem i153_25 : mj_ins 153 25 = some (.aload 0, 26) := by decide +kernel
theorem e153_25 {ls : mj_L} {st : List Value} {σ : mj_S} {τ : mj_T} {v : Nat} : mj_E 153 25 (some (.ref v) :: ls) st σ τ = mj_E 153 26 (some (.ref v) :: ls) (.ref v :: st) σ τ := mj_nx i153_25 rfl
theorem i153_26 : mj_ins 153 26 = some (.iconst (160), 29) := by decide +kernel
theorem e153_26 {ls : mj_L} {st : List Value} {σ : mj_S} {τ : mj_T} : mj_E 153 26 ls st σ τ = mj_E 153 29 ls (.int (nI 160) :: st) σ τ := mj_nx i153_26 rfl
theorem i153_29 : mj_ins 153 29 = some (.iload 1, 30) := by decide +kernel
theorem e153_29 {ls : mj_L} {st : List Value} {σ : mj_S} {τ : mj_T} {a0 : Option Value} {v : Int32} : mj_E 153 29 (a0 :: some (.int v) :: ls) st σ τ = mj_E 153 30 (a0 :: some (.int v) :: ls) (.int v :: st) σ τ := mj_nx i153_29 rfl
theorem i153_30 : mj_ins 153 30 = some (.imul, 31) := by decide +kernel
theorem e153_30 {ls : mj_L} {st : List Value} {σ : mj_S} {τ : mj_T} {x y : Int32} : mj_E 153 30 ls (.int y :: .int x :: st) σ τ = mj_E 153 31 ls (.int (x * y) :: st) σ τ := mj_nx i153_30 rfl
theorem i153_31 : mj_ins 153 31 = some (.putfield 727, 34) := by decide +kernel
theorem e153_31 {ls : mj_L} {st : List Value} {σ : mj_S} {τ : mj_T} {v : Int32} : mj_E 153 31 ls (.int v :: .ref 62 :: st) σ τ = mj_E 153 34 ls st (mj_up σ 62 27 v) τ := mj_nx i153_31 rfl
theorem i153_34 : mj_ins 153 34 = some (.aload 0, 35) := by decide +kernel
theorem e153_34 {ls : mj_L} {st : List Value} {σ : mj_S} {τ : mj_T} {v : Nat} : mj_E 153 34 (some (.ref v) :: ls) st σ τ = mj_E 153 35 (some (.ref v) :: ls) (.ref v :: st) σ τ := mj_nx i153_34 rfl
theorem i153_35 : mj_ins 153 35 = some (.iconst (0), 36) := by decide +kernel
theorem e153_35 {ls : mj_L} {st : List Value} {σ : mj_S} {τ : mj_T} : mj_E 153 35 ls st σ τ = mj_E 153 36 ls (.int (nI 0) :: st) σ τ := mj_nx i153_35 rfl
theorem i153_36 : mj_ins 153 36 = some (.putfield 728, 39) := by decide +kernel
theorem e153_36 {ls : mj_L} {st : List Value} {σ : mj_S} {τ : mj_T} {v : Int32} : mj_E 153 36 ls (.int v :: .ref 62 :: st) σ τ = mj_E 153 39 ls st (mj_up σ 62 28 v) τ := mj_nx i153_36 rfl
theorem i153_39 : mj_ins 153 39 = some (.aload 0, 40) := by decide +kernel
theorem e153_39 {ls : mj_L} {st : List Value} {σ : mj_S} {τ : mj_T} {v : Nat} : mj_E 153 39 (some (.ref v) :: ls) st σ τ = mj_E 153 40 (some (.ref v) :: ls) (.ref v :: st) σ τ := mj_nx i153_39 rfl
theorem i153_40 : mj_ins 153 40 = some (.aload 0, 41) := by decide +kernel
theorem e153_40 {ls : mj_L} {st : List Value} {σ : mj_S} {τ : mj_T} {v : Nat} : mj_E 153 40 (some (.ref v) :: ls) st σ τ = mj_E 153 41 (some (.ref v) :: ls) (.ref v :: st) σ τ := mj_nx i153_40 rfl
theorem i153_41 : mj_ins 153 41 = some (.getfield 719, 44) := by decide +kernel
theorem e153_41 {ls : mj_L} {st : List Value} {σ : mj_S} {τ : mj_T} : mj_E 153 41 ls (.ref 62 :: st) σ τ = mj_E 153 44 ls (.ref 76 :: st) σ τ := mj_nx i153_41 rfl
theorem i153_44 : mj_ins 153 44 = some (.iload 1, 45) := by decide +kernel
theorem e153_44 {ls : mj_L} {st : List Value} {σ : mj_S} {τ : mj_T} {a0 : Option Value} {v : Int32} : mj_E 153 44 (a0 :: some (.int v) :: ls) st σ τ = mj_E 153 45 (a0 :: some (.int v) :: ls) (.int v :: st) σ τ := mj_nx i153_44 rfl
theorem i153_45 : mj_ins 153 45 = some (.iaload, 46) := by decide +kernel
theorem e153_45 {ls : mj_L} {st : List Value} {σ : mj_S} {τ : mj_T} {x : Int32} {k : Nat} : mj_E 153 45 ls (.int x :: .ref k :: st) σ τ = if mj_ib (mj_li σ k) x = true then mj_E 153 46 ls (.int (σ k x.toNatClampNeg) :: st) σ τ else none := mj_ald i153_45
theorem i153_46 : mj_ins 153 46 = some (.putfield 729, 49) := by decide +kernel
theorem e153_46 {ls : mj_L} {st : List Value} {σ : mj_S} {τ : mj_T} {v : Int32} : mj_E 153 46 ls (.int v :: .ref 62 :: st) σ τ = mj_E 153 49 ls st (mj_up σ 62 29 v) τ := mj_nx i153_46 rfl
theorem i153_49 : mj_ins 153 49 = some (.aload 0, 50) := by decide +kernel
theorem e153_49 {ls : mj_L} {st : List Value} {σ : mj_S} {τ : mj_T} {v : Nat} : mj_E 153 49 (some (.ref v) :: ls) st σ τ = mj_E 153 50 (some (.ref v) :: ls) (.ref v :: st) σ τ := mj_nx i153_49 rfl
theorem i153_50 : mj_ins 153 50 = some (.iconst (-1), 51) := by decide +kernel
theorem e153_50 {ls : mj_L} {st : List Value} {σ : mj_S} {τ : mj_T} : mj_E 153 50 ls st σ τ = mj_E 153 51 ls (.int ((-1)) :: st) σ τ := mj_nx i153_50 rfl
theorem i153_51 : mj_ins 153 51 = some (.putfield 705, 54) := by decide +kernel
theorem e153_51 {ls : mj_L} {st : List Value} {σ : mj_S} {τ : mj_T} {v : Int32} : mj_E 153 51 ls (.int v :: .ref 62 :: st) σ τ = mj_E 153 54 ls st (mj_up σ 62 5 v) τ := mj_nx i153_51 rfl
theorem i153_54 : mj_ins 153 54 = some (.iconst (1), 55) := by decide +kernel
theorem e153_54 {ls : mj_L} {st : List Value} {σ : mj_S} {τ : mj_T} : mj_E 153 54 ls st σ τ = mj_E 153 55 ls (.int (nI 1) :: st) σ τ := mj_nx i153_54 rfl
theorem i153_55 : mj_ins 153 55 = some (.istore 3, 56) := by decide +kernel
theorem e153_55 {ls : mj_L} {st : List Value} {σ : mj_S} {τ : mj_T} {a0 a1 a2 a3 : Option Value} {v : Int32} : mj_E 153 55 (a0 :: a1 :: a2 :: a3 :: ls) (.int v :: st) σ τ = mj_E 153 56 (a0 :: a1 :: a2 :: some (.int v) :: ls) st σ τ := mj_nx i153_55 rfl
theorem i153_56 : mj_ins 153 56 = some (.aload 0, 57) := by decide +kernel
theorem e153_56 {ls : mj_L} {st : List Value} {σ : mj_S} {τ : mj_T} {v : Nat} : mj_E 153 56 (some (.ref v) :: ls) st σ τ = mj_E 153 57 (some (.ref v) :: ls) (.ref v :: st) σ τ := mj_nx i153_56 rfl
theorem i153_57 : mj_ins 153 57 = some (.invokevirtual 150, 60) := by decide +kernel
theorem e153_57 {ls : mj_L} {σ : mj_S} {τ : mj_T} {r : Nat} : mj_E 153 57 ls [.ref r] σ τ = if mj_rcv r 7 = true then mj_bd (mj_C 150 [.ref r] σ τ) (mj_K 153 60 ls []) else none := mj_clV (as := []) (r := []) i153_57 (by decide +kernel : mj_vk 153 150 0 0 1 false = true) (by decide +kernel)
theorem i153_60 : mj_ins 153 60 = some (.istore 4, 62) := by decide +kernel
theorem e153_60 {ls : mj_L} {st : List Value} {σ : mj_S} {τ : mj_T} {a0 a1 a2 a3 a4 : Option Value} {v : Int32} : mj_E 153 60 (a0 :: a1 :: a2 :: a3 :: a4 :: ls) (.int v :: st) σ τ = mj_E 153 62 (a0 :: a1 :: a2 :: a3 :: some (.int v) :: ls) st σ τ := mj_nx i153_60 rfl
theorem i153_62 : mj_ins 153 62 = some (.iload 4, 64) := by decide +kernel
theorem e153_62 {ls : mj_L} {st : List Value} {σ : mj_S} {τ : mj_T} {a0 a1 a2 a3 : Option Value} {v : Int32} : mj_E 153 62 (a0 :: a1 :: a2 :: a3 :: some (.int v) :: ls) st σ τ = mj_E 153 64 (a0 :: a1 :: a2 :: a3 :: some (.int v) :: ls) (.int v :: st) σ τ := mj_nx i153_62 rfl
theorem i153_64 : mj_ins 153 64 = some (.ifCond .eq 133, 67) := by decide +kernel
theorem e153_64 {ls : mj_L} {st : List Value} {σ : mj_S} {τ : mj_T} {x : Int32} : mj_E 153 64 ls (.int x :: st) σ τ = if x = 0 then mj_E 153 133 ls st σ τ else mj_E 153 67 ls st σ τ := (mj_ifc i153_64).trans (mj_cdT rfl)
theorem i153_67 : mj_ins 153 67 = some (.aload 0, 68) := by decide +kernel
theorem e153_67 {ls : mj_L} {st : List Value} {σ : mj_S} {τ : mj_T} {v : Nat} : mj_E 153 67 (some (.ref v) :: ls) st σ τ = mj_E 153 68 (some (.ref v) :: ls) (.ref v :: st) σ τ := mj_nx i153_67 rfl
theorem i153_68 : mj_ins 153 68 = some (.getfield 728, 71) := by decide +kernel
theorem e153_68 {ls : mj_L} {st : List Value} {σ : mj_S} {τ : mj_T} : mj_E 153 68 ls (.ref 62 :: st) σ τ = mj_E 153 71 ls (.int (σ 62 28) :: st) σ τ := mj_nx i153_68 rfl
theorem i153_71 : mj_ins 153 71 = some (.aload 0, 72) := by decide +kernel
theorem e153_71 {ls : mj_L} {st : List Value} {σ : mj_S} {τ : mj_T} {v : Nat} : mj_E 153 71 (some (.ref v) :: ls) st σ τ = mj_E 153 72 (some (.ref v) :: ls) (.ref v :: st) σ τ := mj_nx i153_71 rfl
theorem i153_72 : mj_ins 153 72 = some (.getfield 729, 75) := by decide +kernel
theorem e153_72 {ls : mj_L} {st : List Value} {σ : mj_S} {τ : mj_T} : mj_E 153 72 ls (.ref 62 :: st) σ τ = mj_E 153 75 ls (.int (σ 62 29) :: st) σ τ := mj_nx i153_72 rfl
theorem i153_75 : mj_ins 153 75 = some (.if_icmp .ge 133, 78) := by decide +kernel
theorem e153_75 {ls : mj_L} {st : List Value} {σ : mj_S} {τ : mj_T} {x y : Int32} : mj_E 153 75 ls (.int y :: .int x :: st) σ τ = if y ≤ x then mj_E 153 133 ls st σ τ else mj_E 153 78 ls st σ τ := (mj_ifi i153_75).trans (mj_cdT rfl)
theorem i153_78 : mj_ins 153 78 = some (.aload 0, 79) := by decide +kernel
theorem e153_78 {ls : mj_L} {st : List Value} {σ : mj_S} {τ : mj_T} {v : Nat} : mj_E 153 78 (some (.ref v) :: ls) st σ τ = mj_E 153 79 (some (.ref v) :: ls) (.ref v :: st) σ τ := mj_nx i153_78 rfl
theorem i153_79 : mj_ins 153 79 = some (.getfield 721, 82) := by decide +kernel
theorem e153_79 {ls : mj_L} {st : List Value} {σ : mj_S} {τ : mj_T} : mj_E 153 79 ls (.ref 62 :: st) σ τ = mj_E 153 82 ls (.ref 78 :: st) σ τ := mj_nx i153_79 rfl
theorem i153_82 : mj_ins 153 82 = some (.aload 0, 83) := by decide +kernel
theorem e153_82 {ls : mj_L} {st : List Value} {σ : mj_S} {τ : mj_T} {v : Nat} : mj_E 153 82 (some (.ref v) :: ls) st σ τ = mj_E 153 83 (some (.ref v) :: ls) (.ref v :: st) σ τ := mj_nx i153_82 rfl
theorem i153_83 : mj_ins 153 83 = some (.getfield 727, 86) := by decide +kernel
theorem e153_83 {ls : mj_L} {st : List Value} {σ : mj_S} {τ : mj_T} : mj_E 153 83 ls (.ref 62 :: st) σ τ = mj_E 153 86 ls (.int (σ 62 27) :: st) σ τ := mj_nx i153_83 rfl
theorem i153_86 : mj_ins 153 86 = some (.aload 0, 87) := by decide +kernel
theorem e153_86 {ls : mj_L} {st : List Value} {σ : mj_S} {τ : mj_T} {v : Nat} : mj_E 153 86 (some (.ref v) :: ls) st σ τ = mj_E 153 87 (some (.ref v) :: ls) (.ref v :: st) σ τ := mj_nx i153_86 rfl
theorem i153_87 : mj_ins 153 87 = some (.getfield 728, 90) := by decide +kernel
theorem e153_87 {ls : mj_L} {st : List Value} {σ : mj_S} {τ : mj_T} : mj_E 153 87 ls (.ref 62 :: st) σ τ = mj_E 153 90 ls (.int (σ 62 28) :: st) σ τ := mj_nx i153_87 rfl
theorem i153_90 : mj_ins 153 90 = some (.iadd, 91) := by decide +kernel
theorem e153_90 {ls : mj_L} {st : List Value} {σ : mj_S} {τ : mj_T} {x y : Int32} : mj_E 153 90 ls (.int y :: .int x :: st) σ τ = mj_E 153 91 ls (.int (x + y) :: st) σ τ := mj_nx i153_90 rfl
theorem i153_91 : mj_ins 153 91 = some (.laload, 92) := by decide +kernel
theorem e153_91 {ls : mj_L} {st : List Value} {σ : mj_S} {τ : mj_T} {x : Int32} {k : Nat} : mj_E 153 91 ls (.int x :: .ref k :: st) σ τ = if mj_ib (mj_ll k) x = true then mj_E 153 92 ls (.long (τ k x.toNatClampNeg) :: st) σ τ else none := mj_lald i153_91
theorem i153_92 : mj_ins 153 92 = some (.l2i, 93) := by decide +kernel
theorem e153_92 {ls : mj_L} {st : List Value} {σ : mj_S} {τ : mj_T} {x : Int64} : mj_E 153 92 ls (.long x :: st) σ τ = mj_E 153 93 ls (.int x.toInt32 :: st) σ τ := mj_nx i153_92 rfl
theorem i153_93 : mj_ins 153 93 = some (.iconst (59), 95) := by decide +kernel
theorem e153_93 {ls : mj_L} {st : List Value} {σ : mj_S} {τ : mj_T} : mj_E 153 93 ls st σ τ = mj_E 153 95 ls (.int (nI 59) :: st) σ τ := mj_nx i153_93 rfl
theorem i153_95 : mj_ins 153 95 = some (.if_icmp .eq 111, 98) := by decide +kernel
theorem e153_95 {ls : mj_L} {st : List Value} {σ : mj_S} {τ : mj_T} {x y : Int32} : mj_E 153 95 ls (.int y :: .int x :: st) σ τ = if x = y then mj_E 153 111 ls st σ τ else mj_E 153 98 ls st σ τ := (mj_ifi i153_95).trans (mj_cdT rfl)
theorem i153_98 : mj_ins 153 98 = some (.aload 0, 99) := by decide +kernel
theorem e153_98 {ls : mj_L} {st : List Value} {σ : mj_S} {τ : mj_T} {v : Nat} : mj_E 153 98 (some (.ref v) :: ls) st σ τ = mj_E 153 99 (some (.ref v) :: ls) (.ref v :: st) σ τ := mj_nx i153_98 rfl
theorem i153_99 : mj_ins 153 99 = some (.aload 0, 100) := by decide +kernel
theorem e153_99 {ls : mj_L} {st : List Value} {σ : mj_S} {τ : mj_T} {v : Nat} : mj_E 153 99 (some (.ref v) :: ls) st σ τ = mj_E 153 100 (some (.ref v) :: ls) (.ref v :: st) σ τ := mj_nx i153_99 rfl
theorem i153_100 : mj_ins 153 100 = some (.getfield 728, 103) := by decide +kernel
theorem e153_100 {ls : mj_L} {st : List Value} {σ : mj_S} {τ : mj_T} : mj_E 153 100 ls (.ref 62 :: st) σ τ = mj_E 153 103 ls (.int (σ 62 28) :: st) σ τ := mj_nx i153_100 rfl
theorem i153_103 : mj_ins 153 103 = some (.invokevirtual 144, 106) := by decide +kernel
theorem e153_103 {ls : mj_L} {σ : mj_S} {τ : mj_T} {r : Nat} {x0 : Int32} : mj_E 153 103 ls [.int x0, .ref r] σ τ = if mj_rcv r 7 = true then mj_bd (mj_C 144 [.ref r, .int x0] σ τ) (mj_K 153 106 ls []) else none := mj_clV (as := [.int x0]) (r := []) i153_103 (by decide +kernel : mj_vk 153 144 1 0 2 false = true) (by decide +kernel)
theorem i153_106 : mj_ins 153 106 = some (.istore 4, 108) := by decide +kernel
theorem e153_106 {ls : mj_L} {st : List Value} {σ : mj_S} {τ : mj_T} {a0 a1 a2 a3 a4 : Option Value} {v : Int32} : mj_E 153 106 (a0 :: a1 :: a2 :: a3 :: a4 :: ls) (.int v :: st) σ τ = mj_E 153 108 (a0 :: a1 :: a2 :: a3 :: some (.int v) :: ls) st σ τ := mj_nx i153_106 rfl
theorem i153_108 : mj_ins 153 108 = some (.goto 62, 111) := by decide +kernel
theorem e153_108 {ls : mj_L} {st : List Value} {σ : mj_S} {τ : mj_T} : mj_E 153 108 ls st σ τ = mj_E 153 62 ls st σ τ := mj_nx i153_108 rfl
theorem i153_111 : mj_ins 153 111 = some (.aload 0, 112) := by decide +kernel
theorem e153_111 {ls : mj_L} {st : List Value} {σ : mj_S} {τ : mj_T} {v : Nat} : mj_E 153 111 (some (.ref v) :: ls) st σ τ = mj_E 153 112 (some (.ref v) :: ls) (.ref v :: st) σ τ := mj_nx i153_111 rfl
theorem i153_112 : mj_ins 153 112 = some (.dup, 113) := by decide +kernel
theorem e153_112 {ls : mj_L} {st : List Value} {σ : mj_S} {τ : mj_T} {v : Nat} : mj_E 153 112 ls (.ref v :: st) σ τ = mj_E 153 113 ls (.ref v :: .ref v :: st) σ τ := mj_nx i153_112 rfl
theorem i153_113 : mj_ins 153 113 = some (.getfield 728, 116) := by decide +kernel
theorem e153_113 {ls : mj_L} {st : List Value} {σ : mj_S} {τ : mj_T} : mj_E 153 113 ls (.ref 62 :: st) σ τ = mj_E 153 116 ls (.int (σ 62 28) :: st) σ τ := mj_nx i153_113 rfl
theorem i153_116 : mj_ins 153 116 = some (.iconst (1), 117) := by decide +kernel
theorem e153_116 {ls : mj_L} {st : List Value} {σ : mj_S} {τ : mj_T} : mj_E 153 116 ls st σ τ = mj_E 153 117 ls (.int (nI 1) :: st) σ τ := mj_nx i153_116 rfl
theorem i153_117 : mj_ins 153 117 = some (.iadd, 118) := by decide +kernel
theorem e153_117 {ls : mj_L} {st : List Value} {σ : mj_S} {τ : mj_T} {x y : Int32} : mj_E 153 117 ls (.int y :: .int x :: st) σ τ = mj_E 153 118 ls (.int (x + y) :: st) σ τ := mj_nx i153_117 rfl
theorem i153_118 : mj_ins 153 118 = some (.putfield 728, 121) := by decide +kernel
theorem e153_118 {ls : mj_L} {st : List Value} {σ : mj_S} {τ : mj_T} {v : Int32} : mj_E 153 118 ls (.int v :: .ref 62 :: st) σ τ = mj_E 153 121 ls st (mj_up σ 62 28 v) τ := mj_nx i153_118 rfl
theorem i153_121 : mj_ins 153 121 = some (.iinc 3 (1), 124) := by decide +kernel
theorem e153_121 {ls : mj_L} {st : List Value} {σ : mj_S} {τ : mj_T} {a0 a1 a2 : Option Value} {v : Int32} : mj_E 153 121 (a0 :: a1 :: a2 :: some (.int v) :: ls) st σ τ = mj_E 153 124 (a0 :: a1 :: a2 :: some (.int (v + nI 1)) :: ls) st σ τ := mj_nx i153_121 rfl
theorem i153_124 : mj_ins 153 124 = some (.aload 0, 125) := by decide +kernel
theorem e153_124 {ls : mj_L} {st : List Value} {σ : mj_S} {τ : mj_T} {v : Nat} : mj_E 153 124 (some (.ref v) :: ls) st σ τ = mj_E 153 125 (some (.ref v) :: ls) (.ref v :: st) σ τ := mj_nx i153_124 rfl
theorem i153_125 : mj_ins 153 125 = some (.invokevirtual 150, 128) := by decide +kernel
theorem e153_125 {ls : mj_L} {σ : mj_S} {τ : mj_T} {r : Nat} : mj_E 153 125 ls [.ref r] σ τ = if mj_rcv r 7 = true then mj_bd (mj_C 150 [.ref r] σ τ) (mj_K 153 128 ls []) else none := mj_clV (as := []) (r := []) i153_125 (by decide +kernel : mj_vk 153 150 0 0 1 false = true) (by decide +kernel)
theorem i153_128 : mj_ins 153 128 = some (.istore 4, 130) := by decide +kernel
theorem e153_128 {ls : mj_L} {st : List Value} {σ : mj_S} {τ : mj_T} {a0 a1 a2 a3 a4 : Option Value} {v : Int32} : mj_E 153 128 (a0 :: a1 :: a2 :: a3 :: a4 :: ls) (.int v :: st) σ τ = mj_E 153 130 (a0 :: a1 :: a2 :: a3 :: some (.int v) :: ls) st σ τ := mj_nx i153_128 rfl
theorem i153_130 : mj_ins 153 130 = some (.goto 62, 133) := by decide +kernel
theorem e153_130 {ls : mj_L} {st : List Value} {σ : mj_S} {τ : mj_T} : mj_E 153 130 ls st σ τ = mj_E 153 62 ls st σ τ := mj_nx i153_130 rfl
theorem i153_133 : mj_ins 153 133 = some (.iload 4, 135) := by decide +kernel
theorem e153_133 {ls : mj_L} {st : List Value} {σ : mj_S} {τ : mj_T} {a0 a1 a2 a3 : Option Value} {v : Int32} : mj_E 153 133 (a0 :: a1 :: a2 :: a3 :: some (.int v) :: ls) st σ τ = mj_E 153 135 (a0 :: a1 :: a2 :: a3 :: some (.int v) :: ls) (.int v :: st) σ τ := mj_nx i153_133 rfl
theorem i153_135 : mj_ins 153 135 = some (.ifCond .eq 140, 138) := by decide +kernel
theorem e153_135 {ls : mj_L} {st : List Value} {σ : mj_S} {τ : mj_T} {x : Int32} : mj_E 153 135 ls (.int x :: st) σ τ = if x = 0 then mj_E 153 140 ls st σ τ else mj_E 153 138 ls st σ τ := (mj_ifc i153_135).trans (mj_cdT rfl)
theorem i153_138 : mj_ins 153 138 = some (.iload 3, 139) := by decide +kernel
theorem e153_138 {ls : mj_L} {st : List Value} {σ : mj_S} {τ : mj_T} {a0 a1 a2 : Option Value} {v : Int32} : mj_E 153 138 (a0 :: a1 :: a2 :: some (.int v) :: ls) st σ τ = mj_E 153 139 (a0 :: a1 :: a2 :: some (.int v) :: ls) (.int v :: st) σ τ := mj_nx i153_138 rfl
theorem i153_139 : mj_ins 153 139 = some (.ireturn, 140) := by decide +kernel
theorem e153_139 {ls : mj_L} {σ : mj_S} {τ : mj_T} {v : Int32} : mj_E 153 139 ls [.int v] σ τ = some (some (.int v), σ, τ) := mj_irt i153_139 rfl
theorem i153_140 : mj_ins 153 140 = some (.aload 0, 141) := by decide +kernel
theorem e153_140 {ls : mj_L} {st : List Value} {σ : mj_S} {τ : mj_T} {v : Nat} : mj_E 153 140 (some (.ref v) :: ls) st σ τ = mj_E 153 141 (some (.ref v) :: ls) (.ref v :: st) σ τ := mj_nx i153_140 rfl
theorem i153_141 : mj_ins 153 141 = some (.aload 0, 142) := by decide +kernel
theorem e153_141 {ls : mj_L} {st : List Value} {σ : mj_S} {τ : mj_T} {v : Nat} : mj_E 153 141 (some (.ref v) :: ls) st σ τ = mj_E 153 142 (some (.ref v) :: ls) (.ref v :: st) σ τ := mj_nx i153_141 rfl
theorem i153_142 : mj_ins 153 142 = some (.getfield 732, 145) := by decide +kernel
theorem e153_142 {ls : mj_L} {st : List Value} {σ : mj_S} {τ : mj_T} : mj_E 153 142 ls (.ref 62 :: st) σ τ = mj_E 153 145 ls (.ref 84 :: st) σ τ := mj_nx i153_142 rfl
theorem i153_145 : mj_ins 153 145 = some (.iconst (1), 146) := by decide +kernel
theorem e153_145 {ls : mj_L} {st : List Value} {σ : mj_S} {τ : mj_T} : mj_E 153 145 ls st σ τ = mj_E 153 146 ls (.int (nI 1) :: st) σ τ := mj_nx i153_145 rfl
theorem i153_146 : mj_ins 153 146 = some (.invokevirtual 152, 149) := by decide +kernel
theorem e153_146 {ls : mj_L} {σ : mj_S} {τ : mj_T} {r : Nat} {x0 : Nat} {x1 : Int32} : mj_E 153 146 ls [.int x1, .ref x0, .ref r] σ τ = if mj_rcv r 7 = true then mj_bd (mj_C 152 [.ref r, .ref x0, .int x1] σ τ) (mj_K 153 149 ls []) else none := mj_clV (as := [.ref x0, .int x1]) (r := []) i153_146 (by decide +kernel : mj_vk 153 152 2 0 3 false = true) (by decide +kernel)
theorem i153_149 : mj_ins 153 149 = some (.aload 0, 150) := by decide +kernel
theorem e153_149 {ls : mj_L} {st : List Value} {σ : mj_S} {τ : mj_T} {v : Nat} : mj_E 153 149 (some (.ref v) :: ls) st σ τ = mj_E 153 150 (some (.ref v) :: ls) (.ref v :: st) σ τ := mj_nx i153_149 rfl
theorem i153_150 : mj_ins 153 150 = some (.aload 0, 151) := by decide +kernel
theorem e153_150 {ls : mj_L} {st : List Value} {σ : mj_S} {τ : mj_T} {v : Nat} : mj_E 153 150 (some (.ref v) :: ls) st σ τ = mj_E 153 151 (some (.ref v) :: ls) (.ref v :: st) σ τ := mj_nx i153_150 rfl
theorem i153_151 : mj_ins 153 151 = some (.getfield 731, 154) := by decide +kernel
theorem e153_151 {ls : mj_L} {st : List Value} {σ : mj_S} {τ : mj_T} : mj_E 153 151 ls (.ref 62 :: st) σ τ = mj_E 153 154 ls (.int (σ 62 31) :: st) σ τ := mj_nx i153_151 rfl
theorem i153_154 : mj_ins 153 154 = some (.putfield 705, 157) := by decide +kernel
theorem e153_154 {ls : mj_L} {st : List Value} {σ : mj_S} {τ : mj_T} {v : Int32} : mj_E 153 154 ls (.int v :: .ref 62 :: st) σ τ = mj_E 153 157 ls st (mj_up σ 62 5 v) τ := mj_nx i153_154 rfl
theorem i153_157 : mj_ins 153 157 = some (.aload 0, 158) := by decide +kernel
theorem e153_157 {ls : mj_L} {st : List Value} {σ : mj_S} {τ : mj_T} {v : Nat} : mj_E 153 157 (some (.ref v) :: ls) st σ τ = mj_E 153 158 (some (.ref v) :: ls) (.ref v :: st) σ τ := mj_nx i153_157 rfl
theorem i153_158 : mj_ins 153 158 = some (.iconst (-6), 160) := by decide +kernel
theorem e153_158 {ls : mj_L} {st : List Value} {σ : mj_S} {τ : mj_T} : mj_E 153 158 ls st σ τ = mj_E 153 160 ls (.int ((-6)) :: st) σ τ := mj_nx i153_158 rfl
theorem i153_160 : mj_ins 153 160 = some (.invokevirtual 117, 163) := by decide +kernel
theorem e153_160 {ls : mj_L} {σ : mj_S} {τ : mj_T} {r : Nat} {x0 : Int32} : mj_E 153 160 ls [.int x0, .ref r] σ τ = if mj_rcv r 7 = true then mj_bd (mj_C 117 [.ref r, .int x0] σ τ) (mj_K 153 163 ls []) else none := mj_clV (as := [.int x0]) (r := []) i153_160 (by decide +kernel : mj_vk 153 117 1 0 2 false = true) (by decide +kernel)
theorem i153_163 : mj_ins 153 163 = some (.ireturn, 164) := by decide +kernel
theorem e153_163 {ls : mj_L} {σ : mj_S} {τ : mj_T} {v : Int32} : mj_E 153 163 ls [.int v] σ τ = some (some (.int v), σ, τ) := mj_irt i153_163 rfl
theorem c154 {σ : mj_S} {τ : mj_T} {r : Nat} : mj_C 154 [.ref r] σ τ = mj_E 154 0 [some (.ref r)] [] σ τ := rfl
theorem i154_0 : mj_ins 154 0 = some (.aload 0, 1) := by decide +kernel
theorem e154_0 {ls : mj_L} {st : List Value} {σ : mj_S} {τ : mj_T} {v : Nat} : mj_E 154 0 (some (.ref v) :: ls) st σ τ = mj_E 154 1 (some (.ref v) :: ls) (.ref v :: st) σ τ := mj_nx i154_0 rfl
theorem i154_1 : mj_ins 154 1 = some (.getfield 705, 4) := by decide +kernel
theorem e154_1 {ls : mj_L} {st : List Value} {σ : mj_S} {τ : mj_T} : mj_E 154 1 ls (.ref 62 :: st) σ τ = mj_E 154 4 ls (.int (σ 62 5) :: st) σ τ := mj_nx i154_1 rfl
theorem i154_4 : mj_ins 154 4 = some (.ireturn, 5) := by decide +kernel
theorem e154_4 {ls : mj_L} {σ : mj_S} {τ : mj_T} {v : Int32} : mj_E 154 4 ls [.int v] σ τ = some (some (.int v), σ, τ) := mj_irt i154_4 rfl
