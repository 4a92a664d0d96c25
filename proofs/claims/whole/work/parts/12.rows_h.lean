/-! the equations of the instructions (laid by wip/whole/rows.py) -/
theorem i208_18 : mj_ins 208 18 = some (.iload 3, 19) := by decide +kernel
theorem e208_18 {ls : mj_L} {st : List Value} {σ : mj_S} {τ : mj_T} {a0 a1 a2 : Option Value} {v : Int32} : mj_E 208 18 (a0 :: a1 :: a2 :: some (.int v) :: ls) st σ τ = mj_E 208 19 (a0 :: a1 :: a2 :: some (.int v) :: ls) (.int v :: st) σ τ := mj_nx i208_18 rfl
theorem i208_19 : mj_ins 208 19 = some (.aload 0, 20) := by decide +kernel
theorem e208_19 {ls : mj_L} {st : List Value} {σ : mj_S} {τ : mj_T} {v : Nat} : mj_E 208 19 (some (.ref v) :: ls) st σ τ = mj_E 208 20 (some (.ref v) :: ls) (.ref v :: st) σ τ := mj_nx i208_19 rfl
theorem i208_20 : mj_ins 208 20 = some (.arraylength, 21) := by decide +kernel
theorem e208_20 {ls : mj_L} {st : List Value} {σ : mj_S} {τ : mj_T} : mj_E 208 20 ls (.ref 98 :: st) σ τ = mj_E 208 21 ls (.int (nI (σ 99 0).toNatClampNeg) :: st) σ τ := mj_nx i208_20 rfl
theorem i208_21 : mj_ins 208 21 = some (.iconst (6), 23) := by decide +kernel
theorem e208_21 {ls : mj_L} {st : List Value} {σ : mj_S} {τ : mj_T} : mj_E 208 21 ls st σ τ = mj_E 208 23 ls (.int (nI 6) :: st) σ τ := mj_nx i208_21 rfl
theorem i208_23 : mj_ins 208 23 = some (.isub, 24) := by decide +kernel
theorem e208_23 {ls : mj_L} {st : List Value} {σ : mj_S} {τ : mj_T} {x y : Int32} : mj_E 208 23 ls (.int y :: .int x :: st) σ τ = mj_E 208 24 ls (.int (x - y) :: st) σ τ := mj_nx i208_23 rfl
theorem i208_24 : mj_ins 208 24 = some (.if_icmp .gt 1454, 27) := by decide +kernel
theorem e208_24 {ls : mj_L} {st : List Value} {σ : mj_S} {τ : mj_T} {x y : Int32} : mj_E 208 24 ls (.int y :: .int x :: st) σ τ = if y < x then mj_E 208 1454 ls st σ τ else mj_E 208 27 ls st σ τ := (mj_ifi i208_24).trans (mj_cdT rfl)
theorem i208_27 : mj_ins 208 27 = some (.aload 0, 28) := by decide +kernel
theorem e208_27 {ls : mj_L} {st : List Value} {σ : mj_S} {τ : mj_T} {v : Nat} : mj_E 208 27 (some (.ref v) :: ls) st σ τ = mj_E 208 28 (some (.ref v) :: ls) (.ref v :: st) σ τ := mj_nx i208_27 rfl
theorem i208_28 : mj_ins 208 28 = some (.iload 3, 29) := by decide +kernel
theorem e208_28 {ls : mj_L} {st : List Value} {σ : mj_S} {τ : mj_T} {a0 a1 a2 : Option Value} {v : Int32} : mj_E 208 28 (a0 :: a1 :: a2 :: some (.int v) :: ls) st σ τ = mj_E 208 29 (a0 :: a1 :: a2 :: some (.int v) :: ls) (.int v :: st) σ τ := mj_nx i208_28 rfl
theorem i208_29 : mj_ins 208 29 = some (.iaload, 30) := by decide +kernel
theorem e208_29 {ls : mj_L} {st : List Value} {σ : mj_S} {τ : mj_T} {x : Int32} {k : Nat} : mj_E 208 29 ls (.int x :: .ref k :: st) σ τ = if mj_ib (mj_li σ k) x = true then mj_E 208 30 ls (.int (σ k x.toNatClampNeg) :: st) σ τ else none := mj_ald i208_29
theorem i208_30 : mj_ins 208 30 = some (.iconst (63), 32) := by decide +kernel
theorem e208_30 {ls : mj_L} {st : List Value} {σ : mj_S} {τ : mj_T} : mj_E 208 30 ls st σ τ = mj_E 208 32 ls (.int (nI 63) :: st) σ τ := mj_nx i208_30 rfl
theorem i208_32 : mj_ins 208 32 = some (.iand, 33) := by decide +kernel
theorem e208_32 {ls : mj_L} {st : List Value} {σ : mj_S} {τ : mj_T} {x y : Int32} : mj_E 208 32 ls (.int y :: .int x :: st) σ τ = mj_E 208 33 ls (.int (x &&& y) :: st) σ τ := mj_nx i208_32 rfl
theorem i208_33 : mj_ins 208 33 = some (.tableswitch 1448 (0) (36) #[196, 239, 312, 375, 409, 442, 465, 498, 551, 614, 637, 670, 713, 746, 779, 822, 845, 858, 891, 924, 947, 970, 1013, 1066, 1119, 1142, 1185, 1218, 1241, 1264, 1287, 1310, 1333, 1376, 1399, 1412, 1425], 33) := by decide +kernel
theorem e208_33 {ls : mj_L} {st : List Value} {σ : mj_S} {τ : mj_T} {x : Int32} : mj_E 208 33 ls (.int x :: st) σ τ = if x = nI 0 then mj_E 208 196 ls st σ τ else if x = nI 1 then mj_E 208 239 ls st σ τ else if x = nI 2 then mj_E 208 312 ls st σ τ else if x = nI 3 then mj_E 208 375 ls st σ τ else if x = nI 4 then mj_E 208 409 ls st σ τ else if x = nI 5 then mj_E 208 442 ls st σ τ else if x = nI 6 then mj_E 208 465 ls st σ τ else if x = nI 7 then mj_E 208 498 ls st σ τ else if x = nI 8 then mj_E 208 551 ls st σ τ else if x = nI 9 then mj_E 208 614 ls st σ τ else if x = nI 10 then mj_E 208 637 ls st σ τ else if x = nI 11 then mj_E 208 670 ls st σ τ else if x = nI 12 then mj_E 208 713 ls st σ τ else if x = nI 13 then mj_E 208 746 ls st σ τ else if x = nI 14 then mj_E 208 779 ls st σ τ else if x = nI 15 then mj_E 208 822 ls st σ τ else if x = nI 16 then mj_E 208 845 ls st σ τ else if x = nI 17 then mj_E 208 858 ls st σ τ else if x = nI 18 then mj_E 208 891 ls st σ τ else if x = nI 19 then mj_E 208 924 ls st σ τ else if x = nI 20 then mj_E 208 947 ls st σ τ else if x = nI 21 then mj_E 208 970 ls st σ τ else if x = nI 22 then mj_E 208 1013 ls st σ τ else if x = nI 23 then mj_E 208 1066 ls st σ τ else if x = nI 24 then mj_E 208 1119 ls st σ τ else if x = nI 25 then mj_E 208 1142 ls st σ τ else if x = nI 26 then mj_E 208 1185 ls st σ τ else if x = nI 27 then mj_E 208 1218 ls st σ τ else if x = nI 28 then mj_E 208 1241 ls st σ τ else if x = nI 29 then mj_E 208 1264 ls st σ τ else if x = nI 30 then mj_E 208 1287 ls st σ τ else if x = nI 31 then mj_E 208 1310 ls st σ τ else if x = nI 32 then mj_E 208 1333 ls st σ τ else if x = nI 33 then mj_E 208 1376 ls st σ τ else if x = nI 34 then mj_E 208 1399 ls st σ τ else if x = nI 35 then mj_E 208 1412 ls st σ τ else if x = nI 36 then mj_E 208 1425 ls st σ τ else mj_E 208 1448 ls st σ τ := mj_tsw i208_33 (by decide)
theorem i208_196 : mj_ins 208 196 = some (.aload 1, 197) := by decide +kernel
theorem e208_196 {ls : mj_L} {st : List Value} {σ : mj_S} {τ : mj_T} {a0 : Option Value} {v : Nat} : mj_E 208 196 (a0 :: some (.ref v) :: ls) st σ τ = mj_E 208 197 (a0 :: some (.ref v) :: ls) (.ref v :: st) σ τ := mj_nx i208_196 rfl
theorem i208_197 : mj_ins 208 197 = some (.aload 0, 198) := by decide +kernel
theorem e208_197 {ls : mj_L} {st : List Value} {σ : mj_S} {τ : mj_T} {v : Nat} : mj_E 208 197 (some (.ref v) :: ls) st σ τ = mj_E 208 198 (some (.ref v) :: ls) (.ref v :: st) σ τ := mj_nx i208_197 rfl
theorem i208_198 : mj_ins 208 198 = some (.iload 3, 199) := by decide +kernel
theorem e208_198 {ls : mj_L} {st : List Value} {σ : mj_S} {τ : mj_T} {a0 a1 a2 : Option Value} {v : Int32} : mj_E 208 198 (a0 :: a1 :: a2 :: some (.int v) :: ls) st σ τ = mj_E 208 199 (a0 :: a1 :: a2 :: some (.int v) :: ls) (.int v :: st) σ τ := mj_nx i208_198 rfl
theorem i208_199 : mj_ins 208 199 = some (.iconst (1), 200) := by decide +kernel
theorem e208_199 {ls : mj_L} {st : List Value} {σ : mj_S} {τ : mj_T} : mj_E 208 199 ls st σ τ = mj_E 208 200 ls (.int (nI 1) :: st) σ τ := mj_nx i208_199 rfl
theorem i208_200 : mj_ins 208 200 = some (.iadd, 201) := by decide +kernel
theorem e208_200 {ls : mj_L} {st : List Value} {σ : mj_S} {τ : mj_T} {x y : Int32} : mj_E 208 200 ls (.int y :: .int x :: st) σ τ = mj_E 208 201 ls (.int (x + y) :: st) σ τ := mj_nx i208_200 rfl
theorem i208_201 : mj_ins 208 201 = some (.iaload, 202) := by decide +kernel
theorem e208_201 {ls : mj_L} {st : List Value} {σ : mj_S} {τ : mj_T} {x : Int32} {k : Nat} : mj_E 208 201 ls (.int x :: .ref k :: st) σ τ = if mj_ib (mj_li σ k) x = true then mj_E 208 202 ls (.int (σ k x.toNatClampNeg) :: st) σ τ else none := mj_ald i208_201
theorem i208_202 : mj_ins 208 202 = some (.aload 0, 203) := by decide +kernel
theorem e208_202 {ls : mj_L} {st : List Value} {σ : mj_S} {τ : mj_T} {v : Nat} : mj_E 208 202 (some (.ref v) :: ls) st σ τ = mj_E 208 203 (some (.ref v) :: ls) (.ref v :: st) σ τ := mj_nx i208_202 rfl
theorem i208_203 : mj_ins 208 203 = some (.iload 3, 204) := by decide +kernel
theorem e208_203 {ls : mj_L} {st : List Value} {σ : mj_S} {τ : mj_T} {a0 a1 a2 : Option Value} {v : Int32} : mj_E 208 203 (a0 :: a1 :: a2 :: some (.int v) :: ls) st σ τ = mj_E 208 204 (a0 :: a1 :: a2 :: some (.int v) :: ls) (.int v :: st) σ τ := mj_nx i208_203 rfl
theorem i208_204 : mj_ins 208 204 = some (.iconst (2), 205) := by decide +kernel
theorem e208_204 {ls : mj_L} {st : List Value} {σ : mj_S} {τ : mj_T} : mj_E 208 204 ls st σ τ = mj_E 208 205 ls (.int (nI 2) :: st) σ τ := mj_nx i208_204 rfl
theorem i208_205 : mj_ins 208 205 = some (.iadd, 206) := by decide +kernel
theorem e208_205 {ls : mj_L} {st : List Value} {σ : mj_S} {τ : mj_T} {x y : Int32} : mj_E 208 205 ls (.int y :: .int x :: st) σ τ = mj_E 208 206 ls (.int (x + y) :: st) σ τ := mj_nx i208_205 rfl
theorem i208_206 : mj_ins 208 206 = some (.iaload, 207) := by decide +kernel
theorem e208_206 {ls : mj_L} {st : List Value} {σ : mj_S} {τ : mj_T} {x : Int32} {k : Nat} : mj_E 208 206 ls (.int x :: .ref k :: st) σ τ = if mj_ib (mj_li σ k) x = true then mj_E 208 207 ls (.int (σ k x.toNatClampNeg) :: st) σ τ else none := mj_ald i208_206
theorem i208_207 : mj_ins 208 207 = some (.aload 0, 208) := by decide +kernel
theorem e208_207 {ls : mj_L} {st : List Value} {σ : mj_S} {τ : mj_T} {v : Nat} : mj_E 208 207 (some (.ref v) :: ls) st σ τ = mj_E 208 208 (some (.ref v) :: ls) (.ref v :: st) σ τ := mj_nx i208_207 rfl
theorem i208_208 : mj_ins 208 208 = some (.iload 3, 209) := by decide +kernel
theorem e208_208 {ls : mj_L} {st : List Value} {σ : mj_S} {τ : mj_T} {a0 a1 a2 : Option Value} {v : Int32} : mj_E 208 208 (a0 :: a1 :: a2 :: some (.int v) :: ls) st σ τ = mj_E 208 209 (a0 :: a1 :: a2 :: some (.int v) :: ls) (.int v :: st) σ τ := mj_nx i208_208 rfl
theorem i208_209 : mj_ins 208 209 = some (.iconst (3), 210) := by decide +kernel
theorem e208_209 {ls : mj_L} {st : List Value} {σ : mj_S} {τ : mj_T} : mj_E 208 209 ls st σ τ = mj_E 208 210 ls (.int (nI 3) :: st) σ τ := mj_nx i208_209 rfl
theorem i208_210 : mj_ins 208 210 = some (.iadd, 211) := by decide +kernel
theorem e208_210 {ls : mj_L} {st : List Value} {σ : mj_S} {τ : mj_T} {x y : Int32} : mj_E 208 210 ls (.int y :: .int x :: st) σ τ = mj_E 208 211 ls (.int (x + y) :: st) σ τ := mj_nx i208_210 rfl
theorem i208_211 : mj_ins 208 211 = some (.iaload, 212) := by decide +kernel
theorem e208_211 {ls : mj_L} {st : List Value} {σ : mj_S} {τ : mj_T} {x : Int32} {k : Nat} : mj_E 208 211 ls (.int x :: .ref k :: st) σ τ = if mj_ib (mj_li σ k) x = true then mj_E 208 212 ls (.int (σ k x.toNatClampNeg) :: st) σ τ else none := mj_ald i208_211
theorem i208_212 : mj_ins 208 212 = some (.invokevirtual 73, 215) := by decide +kernel
theorem e208_212 {ls : mj_L} {σ : mj_S} {τ : mj_T} {r : Nat} {x0 : Int32} {x1 : Int32} {x2 : Int32} : mj_E 208 212 ls [.int x2, .int x1, .int x0, .ref r] σ τ = if mj_rcv r 6 = true then mj_bd (mj_C 73 [.ref r, .int x0, .int x1, .int x2] σ τ) (mj_K 208 215 ls []) else none := mj_clV (as := [.int x0, .int x1, .int x2]) (r := []) i208_212 (by decide +kernel : mj_vk 208 73 3 0 4 false = true) (by decide +kernel)
theorem i208_215 : mj_ins 208 215 = some (.aload 2, 216) := by decide +kernel
theorem e208_215 {ls : mj_L} {st : List Value} {σ : mj_S} {τ : mj_T} {a0 a1 : Option Value} {v : Nat} : mj_E 208 215 (a0 :: a1 :: some (.ref v) :: ls) st σ τ = mj_E 208 216 (a0 :: a1 :: some (.ref v) :: ls) (.ref v :: st) σ τ := mj_nx i208_215 rfl
theorem i208_216 : mj_ins 208 216 = some (.aload 0, 217) := by decide +kernel
theorem e208_216 {ls : mj_L} {st : List Value} {σ : mj_S} {τ : mj_T} {v : Nat} : mj_E 208 216 (some (.ref v) :: ls) st σ τ = mj_E 208 217 (some (.ref v) :: ls) (.ref v :: st) σ τ := mj_nx i208_216 rfl
theorem i208_217 : mj_ins 208 217 = some (.iload 3, 218) := by decide +kernel
theorem e208_217 {ls : mj_L} {st : List Value} {σ : mj_S} {τ : mj_T} {a0 a1 a2 : Option Value} {v : Int32} : mj_E 208 217 (a0 :: a1 :: a2 :: some (.int v) :: ls) st σ τ = mj_E 208 218 (a0 :: a1 :: a2 :: some (.int v) :: ls) (.int v :: st) σ τ := mj_nx i208_217 rfl
theorem i208_218 : mj_ins 208 218 = some (.iconst (1), 219) := by decide +kernel
theorem e208_218 {ls : mj_L} {st : List Value} {σ : mj_S} {τ : mj_T} : mj_E 208 218 ls st σ τ = mj_E 208 219 ls (.int (nI 1) :: st) σ τ := mj_nx i208_218 rfl
theorem i208_219 : mj_ins 208 219 = some (.iadd, 220) := by decide +kernel
theorem e208_219 {ls : mj_L} {st : List Value} {σ : mj_S} {τ : mj_T} {x y : Int32} : mj_E 208 219 ls (.int y :: .int x :: st) σ τ = mj_E 208 220 ls (.int (x + y) :: st) σ τ := mj_nx i208_219 rfl
theorem i208_220 : mj_ins 208 220 = some (.iaload, 221) := by decide +kernel
theorem e208_220 {ls : mj_L} {st : List Value} {σ : mj_S} {τ : mj_T} {x : Int32} {k : Nat} : mj_E 208 220 ls (.int x :: .ref k :: st) σ τ = if mj_ib (mj_li σ k) x = true then mj_E 208 221 ls (.int (σ k x.toNatClampNeg) :: st) σ τ else none := mj_ald i208_220
theorem i208_221 : mj_ins 208 221 = some (.aload 0, 222) := by decide +kernel
theorem e208_221 {ls : mj_L} {st : List Value} {σ : mj_S} {τ : mj_T} {v : Nat} : mj_E 208 221 (some (.ref v) :: ls) st σ τ = mj_E 208 222 (some (.ref v) :: ls) (.ref v :: st) σ τ := mj_nx i208_221 rfl
theorem i208_222 : mj_ins 208 222 = some (.iload 3, 223) := by decide +kernel
theorem e208_222 {ls : mj_L} {st : List Value} {σ : mj_S} {τ : mj_T} {a0 a1 a2 : Option Value} {v : Int32} : mj_E 208 222 (a0 :: a1 :: a2 :: some (.int v) :: ls) st σ τ = mj_E 208 223 (a0 :: a1 :: a2 :: some (.int v) :: ls) (.int v :: st) σ τ := mj_nx i208_222 rfl
theorem i208_223 : mj_ins 208 223 = some (.iconst (2), 224) := by decide +kernel
theorem e208_223 {ls : mj_L} {st : List Value} {σ : mj_S} {τ : mj_T} : mj_E 208 223 ls st σ τ = mj_E 208 224 ls (.int (nI 2) :: st) σ τ := mj_nx i208_223 rfl
theorem i208_224 : mj_ins 208 224 = some (.iadd, 225) := by decide +kernel
theorem e208_224 {ls : mj_L} {st : List Value} {σ : mj_S} {τ : mj_T} {x y : Int32} : mj_E 208 224 ls (.int y :: .int x :: st) σ τ = mj_E 208 225 ls (.int (x + y) :: st) σ τ := mj_nx i208_224 rfl
theorem i208_225 : mj_ins 208 225 = some (.iaload, 226) := by decide +kernel
theorem e208_225 {ls : mj_L} {st : List Value} {σ : mj_S} {τ : mj_T} {x : Int32} {k : Nat} : mj_E 208 225 ls (.int x :: .ref k :: st) σ τ = if mj_ib (mj_li σ k) x = true then mj_E 208 226 ls (.int (σ k x.toNatClampNeg) :: st) σ τ else none := mj_ald i208_225
theorem i208_226 : mj_ins 208 226 = some (.aload 0, 227) := by decide +kernel
theorem e208_226 {ls : mj_L} {st : List Value} {σ : mj_S} {τ : mj_T} {v : Nat} : mj_E 208 226 (some (.ref v) :: ls) st σ τ = mj_E 208 227 (some (.ref v) :: ls) (.ref v :: st) σ τ := mj_nx i208_226 rfl
theorem i208_227 : mj_ins 208 227 = some (.iload 3, 228) := by decide +kernel
theorem e208_227 {ls : mj_L} {st : List Value} {σ : mj_S} {τ : mj_T} {a0 a1 a2 : Option Value} {v : Int32} : mj_E 208 227 (a0 :: a1 :: a2 :: some (.int v) :: ls) st σ τ = mj_E 208 228 (a0 :: a1 :: a2 :: some (.int v) :: ls) (.int v :: st) σ τ := mj_nx i208_227 rfl
theorem i208_228 : mj_ins 208 228 = some (.iconst (3), 229) := by decide +kernel
theorem e208_228 {ls : mj_L} {st : List Value} {σ : mj_S} {τ : mj_T} : mj_E 208 228 ls st σ τ = mj_E 208 229 ls (.int (nI 3) :: st) σ τ := mj_nx i208_228 rfl
theorem i208_229 : mj_ins 208 229 = some (.iadd, 230) := by decide +kernel
theorem e208_229 {ls : mj_L} {st : List Value} {σ : mj_S} {τ : mj_T} {x y : Int32} : mj_E 208 229 ls (.int y :: .int x :: st) σ τ = mj_E 208 230 ls (.int (x + y) :: st) σ τ := mj_nx i208_229 rfl
theorem i208_230 : mj_ins 208 230 = some (.iaload, 231) := by decide +kernel
theorem e208_230 {ls : mj_L} {st : List Value} {σ : mj_S} {τ : mj_T} {x : Int32} {k : Nat} : mj_E 208 230 ls (.int x :: .ref k :: st) σ τ = if mj_ib (mj_li σ k) x = true then mj_E 208 231 ls (.int (σ k x.toNatClampNeg) :: st) σ τ else none := mj_ald i208_230
theorem i208_231 : mj_ins 208 231 = some (.invokevirtual 123, 234) := by decide +kernel
theorem e208_231 {ls : mj_L} {σ : mj_S} {τ : mj_T} {r : Nat} {x0 : Int32} {x1 : Int32} {x2 : Int32} {w0 : Value} : mj_E 208 231 ls [.int x2, .int x1, .int x0, .ref r, w0] σ τ = if mj_rcv r 7 = true then mj_bd (mj_C 123 [.ref r, .int x0, .int x1, .int x2] σ τ) (mj_K 208 234 ls [w0]) else none := mj_clV (as := [.int x0, .int x1, .int x2]) (r := [w0]) i208_231 (by decide +kernel : mj_vk 208 123 3 1 4 false = true) (by decide +kernel)
theorem i208_234 : mj_ins 208 234 = some (.if_icmp .eq 1448, 237) := by decide +kernel
theorem e208_234 {ls : mj_L} {st : List Value} {σ : mj_S} {τ : mj_T} {x y : Int32} : mj_E 208 234 ls (.int y :: .int x :: st) σ τ = if x = y then mj_E 208 1448 ls st σ τ else mj_E 208 237 ls st σ τ := (mj_ifi i208_234).trans (mj_cdT rfl)
theorem i208_237 : mj_ins 208 237 = some (.iconst (0), 238) := by decide +kernel
theorem e208_237 {ls : mj_L} {st : List Value} {σ : mj_S} {τ : mj_T} : mj_E 208 237 ls st σ τ = mj_E 208 238 ls (.int (nI 0) :: st) σ τ := mj_nx i208_237 rfl
theorem i208_238 : mj_ins 208 238 = some (.ireturn, 239) := by decide +kernel
theorem e208_238 {ls : mj_L} {σ : mj_S} {τ : mj_T} {v : Int32} : mj_E 208 238 ls [.int v] σ τ = if mj_ok (some .boolean) v = true then some (some (.int v), σ, τ) else none := mj_zrt i208_238 rfl
theorem i208_239 : mj_ins 208 239 = some (.aload 1, 240) := by decide +kernel
theorem e208_239 {ls : mj_L} {st : List Value} {σ : mj_S} {τ : mj_T} {a0 : Option Value} {v : Nat} : mj_E 208 239 (a0 :: some (.ref v) :: ls) st σ τ = mj_E 208 240 (a0 :: some (.ref v) :: ls) (.ref v :: st) σ τ := mj_nx i208_239 rfl
theorem i208_240 : mj_ins 208 240 = some (.aload 0, 241) := by decide +kernel
theorem e208_240 {ls : mj_L} {st : List Value} {σ : mj_S} {τ : mj_T} {v : Nat} : mj_E 208 240 (some (.ref v) :: ls) st σ τ = mj_E 208 241 (some (.ref v) :: ls) (.ref v :: st) σ τ := mj_nx i208_240 rfl
theorem i208_241 : mj_ins 208 241 = some (.iload 3, 242) := by decide +kernel
theorem e208_241 {ls : mj_L} {st : List Value} {σ : mj_S} {τ : mj_T} {a0 a1 a2 : Option Value} {v : Int32} : mj_E 208 241 (a0 :: a1 :: a2 :: some (.int v) :: ls) st σ τ = mj_E 208 242 (a0 :: a1 :: a2 :: some (.int v) :: ls) (.int v :: st) σ τ := mj_nx i208_241 rfl
theorem i208_242 : mj_ins 208 242 = some (.iconst (1), 243) := by decide +kernel
theorem e208_242 {ls : mj_L} {st : List Value} {σ : mj_S} {τ : mj_T} : mj_E 208 242 ls st σ τ = mj_E 208 243 ls (.int (nI 1) :: st) σ τ := mj_nx i208_242 rfl
theorem i208_243 : mj_ins 208 243 = some (.iadd, 244) := by decide +kernel
theorem e208_243 {ls : mj_L} {st : List Value} {σ : mj_S} {τ : mj_T} {x y : Int32} : mj_E 208 243 ls (.int y :: .int x :: st) σ τ = mj_E 208 244 ls (.int (x + y) :: st) σ τ := mj_nx i208_243 rfl
theorem i208_244 : mj_ins 208 244 = some (.iaload, 245) := by decide +kernel
theorem e208_244 {ls : mj_L} {st : List Value} {σ : mj_S} {τ : mj_T} {x : Int32} {k : Nat} : mj_E 208 244 ls (.int x :: .ref k :: st) σ τ = if mj_ib (mj_li σ k) x = true then mj_E 208 245 ls (.int (σ k x.toNatClampNeg) :: st) σ τ else none := mj_ald i208_244
theorem i208_245 : mj_ins 208 245 = some (.aload 0, 246) := by decide +kernel
theorem e208_245 {ls : mj_L} {st : List Value} {σ : mj_S} {τ : mj_T} {v : Nat} : mj_E 208 245 (some (.ref v) :: ls) st σ τ = mj_E 208 246 (some (.ref v) :: ls) (.ref v :: st) σ τ := mj_nx i208_245 rfl
theorem i208_246 : mj_ins 208 246 = some (.iload 3, 247) := by decide +kernel
theorem e208_246 {ls : mj_L} {st : List Value} {σ : mj_S} {τ : mj_T} {a0 a1 a2 : Option Value} {v : Int32} : mj_E 208 246 (a0 :: a1 :: a2 :: some (.int v) :: ls) st σ τ = mj_E 208 247 (a0 :: a1 :: a2 :: some (.int v) :: ls) (.int v :: st) σ τ := mj_nx i208_246 rfl
theorem i208_247 : mj_ins 208 247 = some (.iconst (2), 248) := by decide +kernel
theorem e208_247 {ls : mj_L} {st : List Value} {σ : mj_S} {τ : mj_T} : mj_E 208 247 ls st σ τ = mj_E 208 248 ls (.int (nI 2) :: st) σ τ := mj_nx i208_247 rfl
theorem i208_248 : mj_ins 208 248 = some (.iadd, 249) := by decide +kernel
theorem e208_248 {ls : mj_L} {st : List Value} {σ : mj_S} {τ : mj_T} {x y : Int32} : mj_E 208 248 ls (.int y :: .int x :: st) σ τ = mj_E 208 249 ls (.int (x + y) :: st) σ τ := mj_nx i208_248 rfl
theorem i208_249 : mj_ins 208 249 = some (.iaload, 250) := by decide +kernel
theorem e208_249 {ls : mj_L} {st : List Value} {σ : mj_S} {τ : mj_T} {x : Int32} {k : Nat} : mj_E 208 249 ls (.int x :: .ref k :: st) σ τ = if mj_ib (mj_li σ k) x = true then mj_E 208 250 ls (.int (σ k x.toNatClampNeg) :: st) σ τ else none := mj_ald i208_249
theorem i208_250 : mj_ins 208 250 = some (.aload 0, 251) := by decide +kernel
theorem e208_250 {ls : mj_L} {st : List Value} {σ : mj_S} {τ : mj_T} {v : Nat} : mj_E 208 250 (some (.ref v) :: ls) st σ τ = mj_E 208 251 (some (.ref v) :: ls) (.ref v :: st) σ τ := mj_nx i208_250 rfl
theorem i208_251 : mj_ins 208 251 = some (.iload 3, 252) := by decide +kernel
theorem e208_251 {ls : mj_L} {st : List Value} {σ : mj_S} {τ : mj_T} {a0 a1 a2 : Option Value} {v : Int32} : mj_E 208 251 (a0 :: a1 :: a2 :: some (.int v) :: ls) st σ τ = mj_E 208 252 (a0 :: a1 :: a2 :: some (.int v) :: ls) (.int v :: st) σ τ := mj_nx i208_251 rfl
theorem i208_252 : mj_ins 208 252 = some (.iconst (3), 253) := by decide +kernel
theorem e208_252 {ls : mj_L} {st : List Value} {σ : mj_S} {τ : mj_T} : mj_E 208 252 ls st σ τ = mj_E 208 253 ls (.int (nI 3) :: st) σ τ := mj_nx i208_252 rfl
theorem i208_253 : mj_ins 208 253 = some (.iadd, 254) := by decide +kernel
theorem e208_253 {ls : mj_L} {st : List Value} {σ : mj_S} {τ : mj_T} {x y : Int32} : mj_E 208 253 ls (.int y :: .int x :: st) σ τ = mj_E 208 254 ls (.int (x + y) :: st) σ τ := mj_nx i208_253 rfl
theorem i208_254 : mj_ins 208 254 = some (.iaload, 255) := by decide +kernel
theorem e208_254 {ls : mj_L} {st : List Value} {σ : mj_S} {τ : mj_T} {x : Int32} {k : Nat} : mj_E 208 254 ls (.int x :: .ref k :: st) σ τ = if mj_ib (mj_li σ k) x = true then mj_E 208 255 ls (.int (σ k x.toNatClampNeg) :: st) σ τ else none := mj_ald i208_254
theorem i208_255 : mj_ins 208 255 = some (.i2l, 256) := by decide +kernel
theorem e208_255 {ls : mj_L} {st : List Value} {σ : mj_S} {τ : mj_T} {x : Int32} : mj_E 208 255 ls (.int x :: st) σ τ = mj_E 208 256 ls (.long x.toInt64 :: st) σ τ := mj_nx i208_255 rfl
theorem i208_256 : mj_ins 208 256 = some (.iconst (32), 258) := by decide +kernel
theorem e208_256 {ls : mj_L} {st : List Value} {σ : mj_S} {τ : mj_T} : mj_E 208 256 ls st σ τ = mj_E 208 258 ls (.int (nI 32) :: st) σ τ := mj_nx i208_256 rfl
theorem i208_258 : mj_ins 208 258 = some (.lshl, 259) := by decide +kernel
theorem e208_258 {ls : mj_L} {st : List Value} {σ : mj_S} {τ : mj_T} {x : Int64} {y : Int32} : mj_E 208 258 ls (.int y :: .long x :: st) σ τ = mj_E 208 259 ls (.long (x <<< (y.toInt64 &&& 63)) :: st) σ τ := mj_nx i208_258 rfl
theorem i208_259 : mj_ins 208 259 = some (.aload 0, 260) := by decide +kernel
theorem e208_259 {ls : mj_L} {st : List Value} {σ : mj_S} {τ : mj_T} {v : Nat} : mj_E 208 259 (some (.ref v) :: ls) st σ τ = mj_E 208 260 (some (.ref v) :: ls) (.ref v :: st) σ τ := mj_nx i208_259 rfl
theorem i208_260 : mj_ins 208 260 = some (.iload 3, 261) := by decide +kernel
theorem e208_260 {ls : mj_L} {st : List Value} {σ : mj_S} {τ : mj_T} {a0 a1 a2 : Option Value} {v : Int32} : mj_E 208 260 (a0 :: a1 :: a2 :: some (.int v) :: ls) st σ τ = mj_E 208 261 (a0 :: a1 :: a2 :: some (.int v) :: ls) (.int v :: st) σ τ := mj_nx i208_260 rfl
theorem i208_261 : mj_ins 208 261 = some (.iconst (4), 262) := by decide +kernel
theorem e208_261 {ls : mj_L} {st : List Value} {σ : mj_S} {τ : mj_T} : mj_E 208 261 ls st σ τ = mj_E 208 262 ls (.int (nI 4) :: st) σ τ := mj_nx i208_261 rfl
theorem i208_262 : mj_ins 208 262 = some (.iadd, 263) := by decide +kernel
theorem e208_262 {ls : mj_L} {st : List Value} {σ : mj_S} {τ : mj_T} {x y : Int32} : mj_E 208 262 ls (.int y :: .int x :: st) σ τ = mj_E 208 263 ls (.int (x + y) :: st) σ τ := mj_nx i208_262 rfl
theorem i208_263 : mj_ins 208 263 = some (.iaload, 264) := by decide +kernel
theorem e208_263 {ls : mj_L} {st : List Value} {σ : mj_S} {τ : mj_T} {x : Int32} {k : Nat} : mj_E 208 263 ls (.int x :: .ref k :: st) σ τ = if mj_ib (mj_li σ k) x = true then mj_E 208 264 ls (.int (σ k x.toNatClampNeg) :: st) σ τ else none := mj_ald i208_263
theorem i208_264 : mj_ins 208 264 = some (.i2l, 265) := by decide +kernel
theorem e208_264 {ls : mj_L} {st : List Value} {σ : mj_S} {τ : mj_T} {x : Int32} : mj_E 208 264 ls (.int x :: st) σ τ = mj_E 208 265 ls (.long x.toInt64 :: st) σ τ := mj_nx i208_264 rfl
theorem i208_265 : mj_ins 208 265 = some (.ldc2_w 0, 268) := by decide +kernel
theorem e208_265 {ls : mj_L} {st : List Value} {σ : mj_S} {τ : mj_T} : mj_E 208 265 ls st σ τ = mj_E 208 268 ls (.long 4294967295 :: st) σ τ := mj_nx i208_265 rfl
theorem i208_268 : mj_ins 208 268 = some (.land, 269) := by decide +kernel
theorem e208_268 {ls : mj_L} {st : List Value} {σ : mj_S} {τ : mj_T} {x y : Int64} : mj_E 208 268 ls (.long y :: .long x :: st) σ τ = mj_E 208 269 ls (.long (x &&& y) :: st) σ τ := mj_nx i208_268 rfl
theorem i208_269 : mj_ins 208 269 = some (.lor, 270) := by decide +kernel
theorem e208_269 {ls : mj_L} {st : List Value} {σ : mj_S} {τ : mj_T} {x y : Int64} : mj_E 208 269 ls (.long y :: .long x :: st) σ τ = mj_E 208 270 ls (.long (x ||| y) :: st) σ τ := mj_nx i208_269 rfl
theorem i208_270 : mj_ins 208 270 = some (.invokevirtual 74, 273) := by decide +kernel
theorem e208_270 {ls : mj_L} {σ : mj_S} {τ : mj_T} {r : Nat} {x0 : Int32} {x1 : Int32} {x2 : Int64} : mj_E 208 270 ls [.long x2, .int x1, .int x0, .ref r] σ τ = if mj_rcv r 6 = true then mj_bd (mj_C 74 [.ref r, .int x0, .int x1, .long x2] σ τ) (mj_K 208 273 ls []) else none := mj_clV (as := [.int x0, .int x1, .long x2]) (r := []) i208_270 (by decide +kernel : mj_vk 208 74 3 0 5 true = true) (by decide +kernel)
theorem i208_273 : mj_ins 208 273 = some (.aload 2, 274) := by decide +kernel
theorem e208_273 {ls : mj_L} {st : List Value} {σ : mj_S} {τ : mj_T} {a0 a1 : Option Value} {v : Nat} : mj_E 208 273 (a0 :: a1 :: some (.ref v) :: ls) st σ τ = mj_E 208 274 (a0 :: a1 :: some (.ref v) :: ls) (.ref v :: st) σ τ := mj_nx i208_273 rfl
theorem i208_274 : mj_ins 208 274 = some (.aload 0, 275) := by decide +kernel
theorem e208_274 {ls : mj_L} {st : List Value} {σ : mj_S} {τ : mj_T} {v : Nat} : mj_E 208 274 (some (.ref v) :: ls) st σ τ = mj_E 208 275 (some (.ref v) :: ls) (.ref v :: st) σ τ := mj_nx i208_274 rfl
theorem i208_275 : mj_ins 208 275 = some (.iload 3, 276) := by decide +kernel
theorem e208_275 {ls : mj_L} {st : List Value} {σ : mj_S} {τ : mj_T} {a0 a1 a2 : Option Value} {v : Int32} : mj_E 208 275 (a0 :: a1 :: a2 :: some (.int v) :: ls) st σ τ = mj_E 208 276 (a0 :: a1 :: a2 :: some (.int v) :: ls) (.int v :: st) σ τ := mj_nx i208_275 rfl
theorem i208_276 : mj_ins 208 276 = some (.iconst (1), 277) := by decide +kernel
theorem e208_276 {ls : mj_L} {st : List Value} {σ : mj_S} {τ : mj_T} : mj_E 208 276 ls st σ τ = mj_E 208 277 ls (.int (nI 1) :: st) σ τ := mj_nx i208_276 rfl
theorem i208_277 : mj_ins 208 277 = some (.iadd, 278) := by decide +kernel
theorem e208_277 {ls : mj_L} {st : List Value} {σ : mj_S} {τ : mj_T} {x y : Int32} : mj_E 208 277 ls (.int y :: .int x :: st) σ τ = mj_E 208 278 ls (.int (x + y) :: st) σ τ := mj_nx i208_277 rfl
theorem i208_278 : mj_ins 208 278 = some (.iaload, 279) := by decide +kernel
theorem e208_278 {ls : mj_L} {st : List Value} {σ : mj_S} {τ : mj_T} {x : Int32} {k : Nat} : mj_E 208 278 ls (.int x :: .ref k :: st) σ τ = if mj_ib (mj_li σ k) x = true then mj_E 208 279 ls (.int (σ k x.toNatClampNeg) :: st) σ τ else none := mj_ald i208_278
theorem i208_279 : mj_ins 208 279 = some (.aload 0, 280) := by decide +kernel
theorem e208_279 {ls : mj_L} {st : List Value} {σ : mj_S} {τ : mj_T} {v : Nat} : mj_E 208 279 (some (.ref v) :: ls) st σ τ = mj_E 208 280 (some (.ref v) :: ls) (.ref v :: st) σ τ := mj_nx i208_279 rfl
theorem i208_280 : mj_ins 208 280 = some (.iload 3, 281) := by decide +kernel
theorem e208_280 {ls : mj_L} {st : List Value} {σ : mj_S} {τ : mj_T} {a0 a1 a2 : Option Value} {v : Int32} : mj_E 208 280 (a0 :: a1 :: a2 :: some (.int v) :: ls) st σ τ = mj_E 208 281 (a0 :: a1 :: a2 :: some (.int v) :: ls) (.int v :: st) σ τ := mj_nx i208_280 rfl
theorem i208_281 : mj_ins 208 281 = some (.iconst (2), 282) := by decide +kernel
theorem e208_281 {ls : mj_L} {st : List Value} {σ : mj_S} {τ : mj_T} : mj_E 208 281 ls st σ τ = mj_E 208 282 ls (.int (nI 2) :: st) σ τ := mj_nx i208_281 rfl
theorem i208_282 : mj_ins 208 282 = some (.iadd, 283) := by decide +kernel
theorem e208_282 {ls : mj_L} {st : List Value} {σ : mj_S} {τ : mj_T} {x y : Int32} : mj_E 208 282 ls (.int y :: .int x :: st) σ τ = mj_E 208 283 ls (.int (x + y) :: st) σ τ := mj_nx i208_282 rfl
theorem i208_283 : mj_ins 208 283 = some (.iaload, 284) := by decide +kernel
theorem e208_283 {ls : mj_L} {st : List Value} {σ : mj_S} {τ : mj_T} {x : Int32} {k : Nat} : mj_E 208 283 ls (.int x :: .ref k :: st) σ τ = if mj_ib (mj_li σ k) x = true then mj_E 208 284 ls (.int (σ k x.toNatClampNeg) :: st) σ τ else none := mj_ald i208_283
theorem i208_284 : mj_ins 208 284 = some (.aload 0, 285) := by decide +kernel
theorem e208_284 {ls : mj_L} {st : List Value} {σ : mj_S} {τ : mj_T} {v : Nat} : mj_E 208 284 (some (.ref v) :: ls) st σ τ = mj_E 208 285 (some (.ref v) :: ls) (.ref v :: st) σ τ := mj_nx i208_284 rfl
theorem i208_285 : mj_ins 208 285 = some (.iload 3, 286) := by decide +kernel
theorem e208_285 {ls : mj_L} {st : List Value} {σ : mj_S} {τ : mj_T} {a0 a1 a2 : Option Value} {v : Int32} : mj_E 208 285 (a0 :: a1 :: a2 :: some (.int v) :: ls) st σ τ = mj_E 208 286 (a0 :: a1 :: a2 :: some (.int v) :: ls) (.int v :: st) σ τ := mj_nx i208_285 rfl
theorem i208_286 : mj_ins 208 286 = some (.iconst (3), 287) := by decide +kernel
theorem e208_286 {ls : mj_L} {st : List Value} {σ : mj_S} {τ : mj_T} : mj_E 208 286 ls st σ τ = mj_E 208 287 ls (.int (nI 3) :: st) σ τ := mj_nx i208_286 rfl
theorem i208_287 : mj_ins 208 287 = some (.iadd, 288) := by decide +kernel
theorem e208_287 {ls : mj_L} {st : List Value} {σ : mj_S} {τ : mj_T} {x y : Int32} : mj_E 208 287 ls (.int y :: .int x :: st) σ τ = mj_E 208 288 ls (.int (x + y) :: st) σ τ := mj_nx i208_287 rfl
theorem i208_288 : mj_ins 208 288 = some (.iaload, 289) := by decide +kernel
theorem e208_288 {ls : mj_L} {st : List Value} {σ : mj_S} {τ : mj_T} {x : Int32} {k : Nat} : mj_E 208 288 ls (.int x :: .ref k :: st) σ τ = if mj_ib (mj_li σ k) x = true then mj_E 208 289 ls (.int (σ k x.toNatClampNeg) :: st) σ τ else none := mj_ald i208_288
theorem i208_289 : mj_ins 208 289 = some (.i2l, 290) := by decide +kernel
theorem e208_289 {ls : mj_L} {st : List Value} {σ : mj_S} {τ : mj_T} {x : Int32} : mj_E 208 289 ls (.int x :: st) σ τ = mj_E 208 290 ls (.long x.toInt64 :: st) σ τ := mj_nx i208_289 rfl
theorem i208_290 : mj_ins 208 290 = some (.iconst (32), 292) := by decide +kernel
theorem e208_290 {ls : mj_L} {st : List Value} {σ : mj_S} {τ : mj_T} : mj_E 208 290 ls st σ τ = mj_E 208 292 ls (.int (nI 32) :: st) σ τ := mj_nx i208_290 rfl
theorem i208_292 : mj_ins 208 292 = some (.lshl, 293) := by decide +kernel
theorem e208_292 {ls : mj_L} {st : List Value} {σ : mj_S} {τ : mj_T} {x : Int64} {y : Int32} : mj_E 208 292 ls (.int y :: .long x :: st) σ τ = mj_E 208 293 ls (.long (x <<< (y.toInt64 &&& 63)) :: st) σ τ := mj_nx i208_292 rfl
theorem i208_293 : mj_ins 208 293 = some (.aload 0, 294) := by decide +kernel
theorem e208_293 {ls : mj_L} {st : List Value} {σ : mj_S} {τ : mj_T} {v : Nat} : mj_E 208 293 (some (.ref v) :: ls) st σ τ = mj_E 208 294 (some (.ref v) :: ls) (.ref v :: st) σ τ := mj_nx i208_293 rfl
theorem i208_294 : mj_ins 208 294 = some (.iload 3, 295) := by decide +kernel
theorem e208_294 {ls : mj_L} {st : List Value} {σ : mj_S} {τ : mj_T} {a0 a1 a2 : Option Value} {v : Int32} : mj_E 208 294 (a0 :: a1 :: a2 :: some (.int v) :: ls) st σ τ = mj_E 208 295 (a0 :: a1 :: a2 :: some (.int v) :: ls) (.int v :: st) σ τ := mj_nx i208_294 rfl
theorem i208_295 : mj_ins 208 295 = some (.iconst (4), 296) := by decide +kernel
theorem e208_295 {ls : mj_L} {st : List Value} {σ : mj_S} {τ : mj_T} : mj_E 208 295 ls st σ τ = mj_E 208 296 ls (.int (nI 4) :: st) σ τ := mj_nx i208_295 rfl
theorem i208_296 : mj_ins 208 296 = some (.iadd, 297) := by decide +kernel
theorem e208_296 {ls : mj_L} {st : List Value} {σ : mj_S} {τ : mj_T} {x y : Int32} : mj_E 208 296 ls (.int y :: .int x :: st) σ τ = mj_E 208 297 ls (.int (x + y) :: st) σ τ := mj_nx i208_296 rfl
theorem i208_297 : mj_ins 208 297 = some (.iaload, 298) := by decide +kernel
theorem e208_297 {ls : mj_L} {st : List Value} {σ : mj_S} {τ : mj_T} {x : Int32} {k : Nat} : mj_E 208 297 ls (.int x :: .ref k :: st) σ τ = if mj_ib (mj_li σ k) x = true then mj_E 208 298 ls (.int (σ k x.toNatClampNeg) :: st) σ τ else none := mj_ald i208_297
theorem i208_298 : mj_ins 208 298 = some (.i2l, 299) := by decide +kernel
theorem e208_298 {ls : mj_L} {st : List Value} {σ : mj_S} {τ : mj_T} {x : Int32} : mj_E 208 298 ls (.int x :: st) σ τ = mj_E 208 299 ls (.long x.toInt64 :: st) σ τ := mj_nx i208_298 rfl
theorem i208_299 : mj_ins 208 299 = some (.ldc2_w 0, 302) := by decide +kernel
theorem e208_299 {ls : mj_L} {st : List Value} {σ : mj_S} {τ : mj_T} : mj_E 208 299 ls st σ τ = mj_E 208 302 ls (.long 4294967295 :: st) σ τ := mj_nx i208_299 rfl
theorem i208_302 : mj_ins 208 302 = some (.land, 303) := by decide +kernel
theorem e208_302 {ls : mj_L} {st : List Value} {σ : mj_S} {τ : mj_T} {x y : Int64} : mj_E 208 302 ls (.long y :: .long x :: st) σ τ = mj_E 208 303 ls (.long (x &&& y) :: st) σ τ := mj_nx i208_302 rfl
theorem i208_303 : mj_ins 208 303 = some (.lor, 304) := by decide +kernel
theorem e208_303 {ls : mj_L} {st : List Value} {σ : mj_S} {τ : mj_T} {x y : Int64} : mj_E 208 303 ls (.long y :: .long x :: st) σ τ = mj_E 208 304 ls (.long (x ||| y) :: st) σ τ := mj_nx i208_303 rfl
theorem i208_304 : mj_ins 208 304 = some (.invokevirtual 124, 307) := by decide +kernel
theorem e208_304 {ls : mj_L} {σ : mj_S} {τ : mj_T} {r : Nat} {x0 : Int32} {x1 : Int32} {x2 : Int64} {w0 : Value} : mj_E 208 304 ls [.long x2, .int x1, .int x0, .ref r, w0] σ τ = if mj_rcv r 7 = true then mj_bd (mj_C 124 [.ref r, .int x0, .int x1, .long x2] σ τ) (mj_K 208 307 ls [w0]) else none := mj_clV (as := [.int x0, .int x1, .long x2]) (r := [w0]) i208_304 (by decide +kernel : mj_vk 208 124 3 1 5 true = true) (by decide +kernel)
theorem i208_307 : mj_ins 208 307 = some (.if_icmp .eq 1448, 310) := by decide +kernel
theorem e208_307 {ls : mj_L} {st : List Value} {σ : mj_S} {τ : mj_T} {x y : Int32} : mj_E 208 307 ls (.int y :: .int x :: st) σ τ = if x = y then mj_E 208 1448 ls st σ τ else mj_E 208 310 ls st σ τ := (mj_ifi i208_307).trans (mj_cdT rfl)
theorem i208_310 : mj_ins 208 310 = some (.iconst (0), 311) := by decide +kernel
theorem e208_310 {ls : mj_L} {st : List Value} {σ : mj_S} {τ : mj_T} : mj_E 208 310 ls st σ τ = mj_E 208 311 ls (.int (nI 0) :: st) σ τ := mj_nx i208_310 rfl
theorem i208_311 : mj_ins 208 311 = some (.ireturn, 312) := by decide +kernel
theorem e208_311 {ls : mj_L} {σ : mj_S} {τ : mj_T} {v : Int32} : mj_E 208 311 ls [.int v] σ τ = if mj_ok (some .boolean) v = true then some (some (.int v), σ, τ) else none := mj_zrt i208_311 rfl
theorem i208_312 : mj_ins 208 312 = some (.aload 1, 313) := by decide +kernel
theorem e208_312 {ls : mj_L} {st : List Value} {σ : mj_S} {τ : mj_T} {a0 : Option Value} {v : Nat} : mj_E 208 312 (a0 :: some (.ref v) :: ls) st σ τ = mj_E 208 313 (a0 :: some (.ref v) :: ls) (.ref v :: st) σ τ := mj_nx i208_312 rfl
theorem i208_313 : mj_ins 208 313 = some (.aload 0, 314) := by decide +kernel
theorem e208_313 {ls : mj_L} {st : List Value} {σ : mj_S} {τ : mj_T} {v : Nat} : mj_E 208 313 (some (.ref v) :: ls) st σ τ = mj_E 208 314 (some (.ref v) :: ls) (.ref v :: st) σ τ := mj_nx i208_313 rfl
theorem i208_314 : mj_ins 208 314 = some (.iload 3, 315) := by decide +kernel
theorem e208_314 {ls : mj_L} {st : List Value} {σ : mj_S} {τ : mj_T} {a0 a1 a2 : Option Value} {v : Int32} : mj_E 208 314 (a0 :: a1 :: a2 :: some (.int v) :: ls) st σ τ = mj_E 208 315 (a0 :: a1 :: a2 :: some (.int v) :: ls) (.int v :: st) σ τ := mj_nx i208_314 rfl
theorem i208_315 : mj_ins 208 315 = some (.iconst (1), 316) := by decide +kernel
theorem e208_315 {ls : mj_L} {st : List Value} {σ : mj_S} {τ : mj_T} : mj_E 208 315 ls st σ τ = mj_E 208 316 ls (.int (nI 1) :: st) σ τ := mj_nx i208_315 rfl
theorem i208_316 : mj_ins 208 316 = some (.iadd, 317) := by decide +kernel
theorem e208_316 {ls : mj_L} {st : List Value} {σ : mj_S} {τ : mj_T} {x y : Int32} : mj_E 208 316 ls (.int y :: .int x :: st) σ τ = mj_E 208 317 ls (.int (x + y) :: st) σ τ := mj_nx i208_316 rfl
theorem i208_317 : mj_ins 208 317 = some (.iaload, 318) := by decide +kernel
theorem e208_317 {ls : mj_L} {st : List Value} {σ : mj_S} {τ : mj_T} {x : Int32} {k : Nat} : mj_E 208 317 ls (.int x :: .ref k :: st) σ τ = if mj_ib (mj_li σ k) x = true then mj_E 208 318 ls (.int (σ k x.toNatClampNeg) :: st) σ τ else none := mj_ald i208_317
theorem i208_318 : mj_ins 208 318 = some (.aload 0, 319) := by decide +kernel
theorem e208_318 {ls : mj_L} {st : List Value} {σ : mj_S} {τ : mj_T} {v : Nat} : mj_E 208 318 (some (.ref v) :: ls) st σ τ = mj_E 208 319 (some (.ref v) :: ls) (.ref v :: st) σ τ := mj_nx i208_318 rfl
theorem i208_319 : mj_ins 208 319 = some (.iload 3, 320) := by decide +kernel
theorem e208_319 {ls : mj_L} {st : List Value} {σ : mj_S} {τ : mj_T} {a0 a1 a2 : Option Value} {v : Int32} : mj_E 208 319 (a0 :: a1 :: a2 :: some (.int v) :: ls) st σ τ = mj_E 208 320 (a0 :: a1 :: a2 :: some (.int v) :: ls) (.int v :: st) σ τ := mj_nx i208_319 rfl
theorem i208_320 : mj_ins 208 320 = some (.iconst (2), 321) := by decide +kernel
theorem e208_320 {ls : mj_L} {st : List Value} {σ : mj_S} {τ : mj_T} : mj_E 208 320 ls st σ τ = mj_E 208 321 ls (.int (nI 2) :: st) σ τ := mj_nx i208_320 rfl
theorem i208_321 : mj_ins 208 321 = some (.iadd, 322) := by decide +kernel
theorem e208_321 {ls : mj_L} {st : List Value} {σ : mj_S} {τ : mj_T} {x y : Int32} : mj_E 208 321 ls (.int y :: .int x :: st) σ τ = mj_E 208 322 ls (.int (x + y) :: st) σ τ := mj_nx i208_321 rfl
theorem i208_322 : mj_ins 208 322 = some (.iaload, 323) := by decide +kernel
theorem e208_322 {ls : mj_L} {st : List Value} {σ : mj_S} {τ : mj_T} {x : Int32} {k : Nat} : mj_E 208 322 ls (.int x :: .ref k :: st) σ τ = if mj_ib (mj_li σ k) x = true then mj_E 208 323 ls (.int (σ k x.toNatClampNeg) :: st) σ τ else none := mj_ald i208_322
theorem i208_323 : mj_ins 208 323 = some (.aload 0, 324) := by decide +kernel
theorem e208_323 {ls : mj_L} {st : List Value} {σ : mj_S} {τ : mj_T} {v : Nat} : mj_E 208 323 (some (.ref v) :: ls) st σ τ = mj_E 208 324 (some (.ref v) :: ls) (.ref v :: st) σ τ := mj_nx i208_323 rfl
theorem i208_324 : mj_ins 208 324 = some (.iload 3, 325) := by decide +kernel
theorem e208_324 {ls : mj_L} {st : List Value} {σ : mj_S} {τ : mj_T} {a0 a1 a2 : Option Value} {v : Int32} : mj_E 208 324 (a0 :: a1 :: a2 :: some (.int v) :: ls) st σ τ = mj_E 208 325 (a0 :: a1 :: a2 :: some (.int v) :: ls) (.int v :: st) σ τ := mj_nx i208_324 rfl
theorem i208_325 : mj_ins 208 325 = some (.iconst (3), 326) := by decide +kernel
theorem e208_325 {ls : mj_L} {st : List Value} {σ : mj_S} {τ : mj_T} : mj_E 208 325 ls st σ τ = mj_E 208 326 ls (.int (nI 3) :: st) σ τ := mj_nx i208_325 rfl
theorem i208_326 : mj_ins 208 326 = some (.iadd, 327) := by decide +kernel
theorem e208_326 {ls : mj_L} {st : List Value} {σ : mj_S} {τ : mj_T} {x y : Int32} : mj_E 208 326 ls (.int y :: .int x :: st) σ τ = mj_E 208 327 ls (.int (x + y) :: st) σ τ := mj_nx i208_326 rfl
theorem i208_327 : mj_ins 208 327 = some (.iaload, 328) := by decide +kernel
theorem e208_327 {ls : mj_L} {st : List Value} {σ : mj_S} {τ : mj_T} {x : Int32} {k : Nat} : mj_E 208 327 ls (.int x :: .ref k :: st) σ τ = if mj_ib (mj_li σ k) x = true then mj_E 208 328 ls (.int (σ k x.toNatClampNeg) :: st) σ τ else none := mj_ald i208_327
theorem i208_328 : mj_ins 208 328 = some (.aload 0, 329) := by decide +kernel
theorem e208_328 {ls : mj_L} {st : List Value} {σ : mj_S} {τ : mj_T} {v : Nat} : mj_E 208 328 (some (.ref v) :: ls) st σ τ = mj_E 208 329 (some (.ref v) :: ls) (.ref v :: st) σ τ := mj_nx i208_328 rfl
theorem i208_329 : mj_ins 208 329 = some (.iload 3, 330) := by decide +kernel
theorem e208_329 {ls : mj_L} {st : List Value} {σ : mj_S} {τ : mj_T} {a0 a1 a2 : Option Value} {v : Int32} : mj_E 208 329 (a0 :: a1 :: a2 :: some (.int v) :: ls) st σ τ = mj_E 208 330 (a0 :: a1 :: a2 :: some (.int v) :: ls) (.int v :: st) σ τ := mj_nx i208_329 rfl
theorem i208_330 : mj_ins 208 330 = some (.iconst (4), 331) := by decide +kernel
theorem e208_330 {ls : mj_L} {st : List Value} {σ : mj_S} {τ : mj_T} : mj_E 208 330 ls st σ τ = mj_E 208 331 ls (.int (nI 4) :: st) σ τ := mj_nx i208_330 rfl
theorem i208_331 : mj_ins 208 331 = some (.iadd, 332) := by decide +kernel
theorem e208_331 {ls : mj_L} {st : List Value} {σ : mj_S} {τ : mj_T} {x y : Int32} : mj_E 208 331 ls (.int y :: .int x :: st) σ τ = mj_E 208 332 ls (.int (x + y) :: st) σ τ := mj_nx i208_331 rfl
theorem i208_332 : mj_ins 208 332 = some (.iaload, 333) := by decide +kernel
theorem e208_332 {ls : mj_L} {st : List Value} {σ : mj_S} {τ : mj_T} {x : Int32} {k : Nat} : mj_E 208 332 ls (.int x :: .ref k :: st) σ τ = if mj_ib (mj_li σ k) x = true then mj_E 208 333 ls (.int (σ k x.toNatClampNeg) :: st) σ τ else none := mj_ald i208_332
theorem i208_333 : mj_ins 208 333 = some (.aload 0, 334) := by decide +kernel
theorem e208_333 {ls : mj_L} {st : List Value} {σ : mj_S} {τ : mj_T} {v : Nat} : mj_E 208 333 (some (.ref v) :: ls) st σ τ = mj_E 208 334 (some (.ref v) :: ls) (.ref v :: st) σ τ := mj_nx i208_333 rfl
theorem i208_334 : mj_ins 208 334 = some (.iload 3, 335) := by decide +kernel
theorem e208_334 {ls : mj_L} {st : List Value} {σ : mj_S} {τ : mj_T} {a0 a1 a2 : Option Value} {v : Int32} : mj_E 208 334 (a0 :: a1 :: a2 :: some (.int v) :: ls) st σ τ = mj_E 208 335 (a0 :: a1 :: a2 :: some (.int v) :: ls) (.int v :: st) σ τ := mj_nx i208_334 rfl
theorem i208_335 : mj_ins 208 335 = some (.iconst (5), 336) := by decide +kernel
theorem e208_335 {ls : mj_L} {st : List Value} {σ : mj_S} {τ : mj_T} : mj_E 208 335 ls st σ τ = mj_E 208 336 ls (.int (nI 5) :: st) σ τ := mj_nx i208_335 rfl
theorem i208_336 : mj_ins 208 336 = some (.iadd, 337) := by decide +kernel
theorem e208_336 {ls : mj_L} {st : List Value} {σ : mj_S} {τ : mj_T} {x y : Int32} : mj_E 208 336 ls (.int y :: .int x :: st) σ τ = mj_E 208 337 ls (.int (x + y) :: st) σ τ := mj_nx i208_336 rfl
theorem i208_337 : mj_ins 208 337 = some (.iaload, 338) := by decide +kernel
theorem e208_337 {ls : mj_L} {st : List Value} {σ : mj_S} {τ : mj_T} {x : Int32} {k : Nat} : mj_E 208 337 ls (.int x :: .ref k :: st) σ τ = if mj_ib (mj_li σ k) x = true then mj_E 208 338 ls (.int (σ k x.toNatClampNeg) :: st) σ τ else none := mj_ald i208_337
theorem i208_338 : mj_ins 208 338 = some (.invokevirtual 75, 341) := by decide +kernel
theorem e208_338 {ls : mj_L} {σ : mj_S} {τ : mj_T} {r : Nat} {x0 : Int32} {x1 : Int32} {x2 : Int32} {x3 : Int32} {x4 : Int32} : mj_E 208 338 ls [.int x4, .int x3, .int x2, .int x1, .int x0, .ref r] σ τ = if mj_rcv r 6 = true then mj_bd (mj_C 75 [.ref r, .int x0, .int x1, .int x2, .int x3, .int x4] σ τ) (mj_K 208 341 ls []) else none := mj_clV (as := [.int x0, .int x1, .int x2, .int x3, .int x4]) (r := []) i208_338 (by decide +kernel : mj_vk 208 75 5 0 6 false = true) (by decide +kernel)
theorem i208_341 : mj_ins 208 341 = some (.aload 2, 342) := by decide +kernel
theorem e208_341 {ls : mj_L} {st : List Value} {σ : mj_S} {τ : mj_T} {a0 a1 : Option Value} {v : Nat} : mj_E 208 341 (a0 :: a1 :: some (.ref v) :: ls) st σ τ = mj_E 208 342 (a0 :: a1 :: some (.ref v) :: ls) (.ref v :: st) σ τ := mj_nx i208_341 rfl
theorem i208_342 : mj_ins 208 342 = some (.aload 0, 343) := by decide +kernel
theorem e208_342 {ls : mj_L} {st : List Value} {σ : mj_S} {τ : mj_T} {v : Nat} : mj_E 208 342 (some (.ref v) :: ls) st σ τ = mj_E 208 343 (some (.ref v) :: ls) (.ref v :: st) σ τ := mj_nx i208_342 rfl
theorem i208_343 : mj_ins 208 343 = some (.iload 3, 344) := by decide +kernel
theorem e208_343 {ls : mj_L} {st : List Value} {σ : mj_S} {τ : mj_T} {a0 a1 a2 : Option Value} {v : Int32} : mj_E 208 343 (a0 :: a1 :: a2 :: some (.int v) :: ls) st σ τ = mj_E 208 344 (a0 :: a1 :: a2 :: some (.int v) :: ls) (.int v :: st) σ τ := mj_nx i208_343 rfl
theorem i208_344 : mj_ins 208 344 = some (.iconst (1), 345) := by decide +kernel
theorem e208_344 {ls : mj_L} {st : List Value} {σ : mj_S} {τ : mj_T} : mj_E 208 344 ls st σ τ = mj_E 208 345 ls (.int (nI 1) :: st) σ τ := mj_nx i208_344 rfl
theorem i208_345 : mj_ins 208 345 = some (.iadd, 346) := by decide +kernel
theorem e208_345 {ls : mj_L} {st : List Value} {σ : mj_S} {τ : mj_T} {x y : Int32} : mj_E 208 345 ls (.int y :: .int x :: st) σ τ = mj_E 208 346 ls (.int (x + y) :: st) σ τ := mj_nx i208_345 rfl
theorem i208_346 : mj_ins 208 346 = some (.iaload, 347) := by decide +kernel
theorem e208_346 {ls : mj_L} {st : List Value} {σ : mj_S} {τ : mj_T} {x : Int32} {k : Nat} : mj_E 208 346 ls (.int x :: .ref k :: st) σ τ = if mj_ib (mj_li σ k) x = true then mj_E 208 347 ls (.int (σ k x.toNatClampNeg) :: st) σ τ else none := mj_ald i208_346
theorem i208_347 : mj_ins 208 347 = some (.aload 0, 348) := by decide +kernel
theorem e208_347 {ls : mj_L} {st : List Value} {σ : mj_S} {τ : mj_T} {v : Nat} : mj_E 208 347 (some (.ref v) :: ls) st σ τ = mj_E 208 348 (some (.ref v) :: ls) (.ref v :: st) σ τ := mj_nx i208_347 rfl
theorem i208_348 : mj_ins 208 348 = some (.iload 3, 349) := by decide +kernel
theorem e208_348 {ls : mj_L} {st : List Value} {σ : mj_S} {τ : mj_T} {a0 a1 a2 : Option Value} {v : Int32} : mj_E 208 348 (a0 :: a1 :: a2 :: some (.int v) :: ls) st σ τ = mj_E 208 349 (a0 :: a1 :: a2 :: some (.int v) :: ls) (.int v :: st) σ τ := mj_nx i208_348 rfl
theorem i208_349 : mj_ins 208 349 = some (.iconst (2), 350) := by decide +kernel
theorem e208_349 {ls : mj_L} {st : List Value} {σ : mj_S} {τ : mj_T} : mj_E 208 349 ls st σ τ = mj_E 208 350 ls (.int (nI 2) :: st) σ τ := mj_nx i208_349 rfl
theorem i208_350 : mj_ins 208 350 = some (.iadd, 351) := by decide +kernel
theorem e208_350 {ls : mj_L} {st : List Value} {σ : mj_S} {τ : mj_T} {x y : Int32} : mj_E 208 350 ls (.int y :: .int x :: st) σ τ = mj_E 208 351 ls (.int (x + y) :: st) σ τ := mj_nx i208_350 rfl
theorem i208_351 : mj_ins 208 351 = some (.iaload, 352) := by decide +kernel
theorem e208_351 {ls : mj_L} {st : List Value} {σ : mj_S} {τ : mj_T} {x : Int32} {k : Nat} : mj_E 208 351 ls (.int x :: .ref k :: st) σ τ = if mj_ib (mj_li σ k) x = true then mj_E 208 352 ls (.int (σ k x.toNatClampNeg) :: st) σ τ else none := mj_ald i208_351
theorem i208_352 : mj_ins 208 352 = some (.aload 0, 353) := by decide +kernel
theorem e208_352 {ls : mj_L} {st : List Value} {σ : mj_S} {τ : mj_T} {v : Nat} : mj_E 208 352 (some (.ref v) :: ls) st σ τ = mj_E 208 353 (some (.ref v) :: ls) (.ref v :: st) σ τ := mj_nx i208_352 rfl
theorem i208_353 : mj_ins 208 353 = some (.iload 3, 354) := by decide +kernel
theorem e208_353 {ls : mj_L} {st : List Value} {σ : mj_S} {τ : mj_T} {a0 a1 a2 : Option Value} {v : Int32} : mj_E 208 353 (a0 :: a1 :: a2 :: some (.int v) :: ls) st σ τ = mj_E 208 354 (a0 :: a1 :: a2 :: some (.int v) :: ls) (.int v :: st) σ τ := mj_nx i208_353 rfl
theorem i208_354 : mj_ins 208 354 = some (.iconst (3), 355) := by decide +kernel
theorem e208_354 {ls : mj_L} {st : List Value} {σ : mj_S} {τ : mj_T} : mj_E 208 354 ls st σ τ = mj_E 208 355 ls (.int (nI 3) :: st) σ τ := mj_nx i208_354 rfl
theorem i208_355 : mj_ins 208 355 = some (.iadd, 356) := by decide +kernel
theorem e208_355 {ls : mj_L} {st : List Value} {σ : mj_S} {τ : mj_T} {x y : Int32} : mj_E 208 355 ls (.int y :: .int x :: st) σ τ = mj_E 208 356 ls (.int (x + y) :: st) σ τ := mj_nx i208_355 rfl
theorem i208_356 : mj_ins 208 356 = some (.iaload, 357) := by decide +kernel
theorem e208_356 {ls : mj_L} {st : List Value} {σ : mj_S} {τ : mj_T} {x : Int32} {k : Nat} : mj_E 208 356 ls (.int x :: .ref k :: st) σ τ = if mj_ib (mj_li σ k) x = true then mj_E 208 357 ls (.int (σ k x.toNatClampNeg) :: st) σ τ else none := mj_ald i208_356
theorem i208_357 : mj_ins 208 357 = some (.aload 0, 358) := by decide +kernel
theorem e208_357 {ls : mj_L} {st : List Value} {σ : mj_S} {τ : mj_T} {v : Nat} : mj_E 208 357 (some (.ref v) :: ls) st σ τ = mj_E 208 358 (some (.ref v) :: ls) (.ref v :: st) σ τ := mj_nx i208_357 rfl
theorem i208_358 : mj_ins 208 358 = some (.iload 3, 359) := by decide +kernel
theorem e208_358 {ls : mj_L} {st : List Value} {σ : mj_S} {τ : mj_T} {a0 a1 a2 : Option Value} {v : Int32} : mj_E 208 358 (a0 :: a1 :: a2 :: some (.int v) :: ls) st σ τ = mj_E 208 359 (a0 :: a1 :: a2 :: some (.int v) :: ls) (.int v :: st) σ τ := mj_nx i208_358 rfl
theorem i208_359 : mj_ins 208 359 = some (.iconst (4), 360) := by decide +kernel
theorem e208_359 {ls : mj_L} {st : List Value} {σ : mj_S} {τ : mj_T} : mj_E 208 359 ls st σ τ = mj_E 208 360 ls (.int (nI 4) :: st) σ τ := mj_nx i208_359 rfl
theorem i208_360 : mj_ins 208 360 = some (.iadd, 361) := by decide +kernel
theorem e208_360 {ls : mj_L} {st : List Value} {σ : mj_S} {τ : mj_T} {x y : Int32} : mj_E 208 360 ls (.int y :: .int x :: st) σ τ = mj_E 208 361 ls (.int (x + y) :: st) σ τ := mj_nx i208_360 rfl
theorem i208_361 : mj_ins 208 361 = some (.iaload, 362) := by decide +kernel
theorem e208_361 {ls : mj_L} {st : List Value} {σ : mj_S} {τ : mj_T} {x : Int32} {k : Nat} : mj_E 208 361 ls (.int x :: .ref k :: st) σ τ = if mj_ib (mj_li σ k) x = true then mj_E 208 362 ls (.int (σ k x.toNatClampNeg) :: st) σ τ else none := mj_ald i208_361
theorem i208_362 : mj_ins 208 362 = some (.aload 0, 363) := by decide +kernel
theorem e208_362 {ls : mj_L} {st : List Value} {σ : mj_S} {τ : mj_T} {v : Nat} : mj_E 208 362 (some (.ref v) :: ls) st σ τ = mj_E 208 363 (some (.ref v) :: ls) (.ref v :: st) σ τ := mj_nx i208_362 rfl
theorem i208_363 : mj_ins 208 363 = some (.iload 3, 364) := by decide +kernel
theorem e208_363 {ls : mj_L} {st : List Value} {σ : mj_S} {τ : mj_T} {a0 a1 a2 : Option Value} {v : Int32} : mj_E 208 363 (a0 :: a1 :: a2 :: some (.int v) :: ls) st σ τ = mj_E 208 364 (a0 :: a1 :: a2 :: some (.int v) :: ls) (.int v :: st) σ τ := mj_nx i208_363 rfl
theorem i208_364 : mj_ins 208 364 = some (.iconst (5), 365) := by decide +kernel
theorem e208_364 {ls : mj_L} {st : List Value} {σ : mj_S} {τ : mj_T} : mj_E 208 364 ls st σ τ = mj_E 208 365 ls (.int (nI 5) :: st) σ τ := mj_nx i208_364 rfl
theorem i208_365 : mj_ins 208 365 = some (.iadd, 366) := by decide +kernel
theorem e208_365 {ls : mj_L} {st : List Value} {σ : mj_S} {τ : mj_T} {x y : Int32} : mj_E 208 365 ls (.int y :: .int x :: st) σ τ = mj_E 208 366 ls (.int (x + y) :: st) σ τ := mj_nx i208_365 rfl
theorem i208_366 : mj_ins 208 366 = some (.iaload, 367) := by decide +kernel
theorem e208_366 {ls : mj_L} {st : List Value} {σ : mj_S} {τ : mj_T} {x : Int32} {k : Nat} : mj_E 208 366 ls (.int x :: .ref k :: st) σ τ = if mj_ib (mj_li σ k) x = true then mj_E 208 367 ls (.int (σ k x.toNatClampNeg) :: st) σ τ else none := mj_ald i208_366
theorem i208_367 : mj_ins 208 367 = some (.invokevirtual 125, 370) := by decide +kernel
theorem e208_367 {ls : mj_L} {σ : mj_S} {τ : mj_T} {r : Nat} {x0 : Int32} {x1 : Int32} {x2 : Int32} {x3 : Int32} {x4 : Int32} {w0 : Value} : mj_E 208 367 ls [.int x4, .int x3, .int x2, .int x1, .int x0, .ref r, w0] σ τ = if mj_rcv r 7 = true then mj_bd (mj_C 125 [.ref r, .int x0, .int x1, .int x2, .int x3, .int x4] σ τ) (mj_K 208 370 ls [w0]) else none := mj_clV (as := [.int x0, .int x1, .int x2, .int x3, .int x4]) (r := [w0]) i208_367 (by decide +kernel : mj_vk 208 125 5 1 6 false = true) (by decide +kernel)
theorem i208_370 : mj_ins 208 370 = some (.if_icmp .eq 1448, 373) := by decide +kernel
theorem e208_370 {ls : mj_L} {st : List Value} {σ : mj_S} {τ : mj_T} {x y : Int32} : mj_E 208 370 ls (.int y :: .int x :: st) σ τ = if x = y then mj_E 208 1448 ls st σ τ else mj_E 208 373 ls st σ τ := (mj_ifi i208_370).trans (mj_cdT rfl)
theorem i208_373 : mj_ins 208 373 = some (.iconst (0), 374) := by decide +kernel
theorem e208_373 {ls : mj_L} {st : List Value} {σ : mj_S} {τ : mj_T} : mj_E 208 373 ls st σ τ = mj_E 208 374 ls (.int (nI 0) :: st) σ τ := mj_nx i208_373 rfl
theorem i208_374 : mj_ins 208 374 = some (.ireturn, 375) := by decide +kernel
theorem e208_374 {ls : mj_L} {σ : mj_S} {τ : mj_T} {v : Int32} : mj_E 208 374 ls [.int v] σ τ = if mj_ok (some .boolean) v = true then some (some (.int v), σ, τ) else none := mj_zrt i208_374 rfl
theorem i208_375 : mj_ins 208 375 = some (.aload 1, 376) := by decide +kernel
theorem e208_375 {ls : mj_L} {st : List Value} {σ : mj_S} {τ : mj_T} {a0 : Option Value} {v : Nat} : mj_E 208 375 (a0 :: some (.ref v) :: ls) st σ τ = mj_E 208 376 (a0 :: some (.ref v) :: ls) (.ref v :: st) σ τ := mj_nx i208_375 rfl
theorem i208_376 : mj_ins 208 376 = some (.aload 0, 377) := by decide +kernel
theorem e208_376 {ls : mj_L} {st : List Value} {σ : mj_S} {τ : mj_T} {v : Nat} : mj_E 208 376 (some (.ref v) :: ls) st σ τ = mj_E 208 377 (some (.ref v) :: ls) (.ref v :: st) σ τ := mj_nx i208_376 rfl
theorem i208_377 : mj_ins 208 377 = some (.iload 3, 378) := by decide +kernel
theorem e208_377 {ls : mj_L} {st : List Value} {σ : mj_S} {τ : mj_T} {a0 a1 a2 : Option Value} {v : Int32} : mj_E 208 377 (a0 :: a1 :: a2 :: some (.int v) :: ls) st σ τ = mj_E 208 378 (a0 :: a1 :: a2 :: some (.int v) :: ls) (.int v :: st) σ τ := mj_nx i208_377 rfl
theorem i208_378 : mj_ins 208 378 = some (.iconst (1), 379) := by decide +kernel
theorem e208_378 {ls : mj_L} {st : List Value} {σ : mj_S} {τ : mj_T} : mj_E 208 378 ls st σ τ = mj_E 208 379 ls (.int (nI 1) :: st) σ τ := mj_nx i208_378 rfl
theorem i208_379 : mj_ins 208 379 = some (.iadd, 380) := by decide +kernel
theorem e208_379 {ls : mj_L} {st : List Value} {σ : mj_S} {τ : mj_T} {x y : Int32} : mj_E 208 379 ls (.int y :: .int x :: st) σ τ = mj_E 208 380 ls (.int (x + y) :: st) σ τ := mj_nx i208_379 rfl
theorem i208_380 : mj_ins 208 380 = some (.iaload, 381) := by decide +kernel
theorem e208_380 {ls : mj_L} {st : List Value} {σ : mj_S} {τ : mj_T} {x : Int32} {k : Nat} : mj_E 208 380 ls (.int x :: .ref k :: st) σ τ = if mj_ib (mj_li σ k) x = true then mj_E 208 381 ls (.int (σ k x.toNatClampNeg) :: st) σ τ else none := mj_ald i208_380
theorem i208_381 : mj_ins 208 381 = some (.aload 0, 382) := by decide +kernel
theorem e208_381 {ls : mj_L} {st : List Value} {σ : mj_S} {τ : mj_T} {v : Nat} : mj_E 208 381 (some (.ref v) :: ls) st σ τ = mj_E 208 382 (some (.ref v) :: ls) (.ref v :: st) σ τ := mj_nx i208_381 rfl
theorem i208_382 : mj_ins 208 382 = some (.iload 3, 383) := by decide +kernel
theorem e208_382 {ls : mj_L} {st : List Value} {σ : mj_S} {τ : mj_T} {a0 a1 a2 : Option Value} {v : Int32} : mj_E 208 382 (a0 :: a1 :: a2 :: some (.int v) :: ls) st σ τ = mj_E 208 383 (a0 :: a1 :: a2 :: some (.int v) :: ls) (.int v :: st) σ τ := mj_nx i208_382 rfl
theorem i208_383 : mj_ins 208 383 = some (.iconst (2), 384) := by decide +kernel
theorem e208_383 {ls : mj_L} {st : List Value} {σ : mj_S} {τ : mj_T} : mj_E 208 383 ls st σ τ = mj_E 208 384 ls (.int (nI 2) :: st) σ τ := mj_nx i208_383 rfl
theorem i208_384 : mj_ins 208 384 = some (.iadd, 385) := by decide +kernel
theorem e208_384 {ls : mj_L} {st : List Value} {σ : mj_S} {τ : mj_T} {x y : Int32} : mj_E 208 384 ls (.int y :: .int x :: st) σ τ = mj_E 208 385 ls (.int (x + y) :: st) σ τ := mj_nx i208_384 rfl
theorem i208_385 : mj_ins 208 385 = some (.iaload, 386) := by decide +kernel
theorem e208_385 {ls : mj_L} {st : List Value} {σ : mj_S} {τ : mj_T} {x : Int32} {k : Nat} : mj_E 208 385 ls (.int x :: .ref k :: st) σ τ = if mj_ib (mj_li σ k) x = true then mj_E 208 386 ls (.int (σ k x.toNatClampNeg) :: st) σ τ else none := mj_ald i208_385
theorem i208_386 : mj_ins 208 386 = some (.invokevirtual 76, 389) := by decide +kernel
theorem e208_386 {ls : mj_L} {σ : mj_S} {τ : mj_T} {r : Nat} {x0 : Int32} {x1 : Int32} : mj_E 208 386 ls [.int x1, .int x0, .ref r] σ τ = if mj_rcv r 6 = true then mj_bd (mj_C 76 [.ref r, .int x0, .int x1] σ τ) (mj_K 208 389 ls []) else none := mj_clV (as := [.int x0, .int x1]) (r := []) i208_386 (by decide +kernel : mj_vk 208 76 2 0 3 false = true) (by decide +kernel)
theorem i208_389 : mj_ins 208 389 = some (.aload 2, 390) := by decide +kernel
theorem e208_389 {ls : mj_L} {st : List Value} {σ : mj_S} {τ : mj_T} {a0 a1 : Option Value} {v : Nat} : mj_E 208 389 (a0 :: a1 :: some (.ref v) :: ls) st σ τ = mj_E 208 390 (a0 :: a1 :: some (.ref v) :: ls) (.ref v :: st) σ τ := mj_nx i208_389 rfl
theorem i208_390 : mj_ins 208 390 = some (.aload 0, 391) := by decide +kernel
theorem e208_390 {ls : mj_L} {st : List Value} {σ : mj_S} {τ : mj_T} {v : Nat} : mj_E 208 390 (some (.ref v) :: ls) st σ τ = mj_E 208 391 (some (.ref v) :: ls) (.ref v :: st) σ τ := mj_nx i208_390 rfl
theorem i208_391 : mj_ins 208 391 = some (.iload 3, 392) := by decide +kernel
theorem e208_391 {ls : mj_L} {st : List Value} {σ : mj_S} {τ : mj_T} {a0 a1 a2 : Option Value} {v : Int32} : mj_E 208 391 (a0 :: a1 :: a2 :: some (.int v) :: ls) st σ τ = mj_E 208 392 (a0 :: a1 :: a2 :: some (.int v) :: ls) (.int v :: st) σ τ := mj_nx i208_391 rfl
theorem i208_392 : mj_ins 208 392 = some (.iconst (1), 393) := by decide +kernel
theorem e208_392 {ls : mj_L} {st : List Value} {σ : mj_S} {τ : mj_T} : mj_E 208 392 ls st σ τ = mj_E 208 393 ls (.int (nI 1) :: st) σ τ := mj_nx i208_392 rfl
theorem i208_393 : mj_ins 208 393 = some (.iadd, 394) := by decide +kernel
theorem e208_393 {ls : mj_L} {st : List Value} {σ : mj_S} {τ : mj_T} {x y : Int32} : mj_E 208 393 ls (.int y :: .int x :: st) σ τ = mj_E 208 394 ls (.int (x + y) :: st) σ τ := mj_nx i208_393 rfl
theorem i208_394 : mj_ins 208 394 = some (.iaload, 395) := by decide +kernel
theorem e208_394 {ls : mj_L} {st : List Value} {σ : mj_S} {τ : mj_T} {x : Int32} {k : Nat} : mj_E 208 394 ls (.int x :: .ref k :: st) σ τ = if mj_ib (mj_li σ k) x = true then mj_E 208 395 ls (.int (σ k x.toNatClampNeg) :: st) σ τ else none := mj_ald i208_394
theorem i208_395 : mj_ins 208 395 = some (.aload 0, 396) := by decide +kernel
theorem e208_395 {ls : mj_L} {st : List Value} {σ : mj_S} {τ : mj_T} {v : Nat} : mj_E 208 395 (some (.ref v) :: ls) st σ τ = mj_E 208 396 (some (.ref v) :: ls) (.ref v :: st) σ τ := mj_nx i208_395 rfl
theorem i208_396 : mj_ins 208 396 = some (.iload 3, 397) := by decide +kernel
theorem e208_396 {ls : mj_L} {st : List Value} {σ : mj_S} {τ : mj_T} {a0 a1 a2 : Option Value} {v : Int32} : mj_E 208 396 (a0 :: a1 :: a2 :: some (.int v) :: ls) st σ τ = mj_E 208 397 (a0 :: a1 :: a2 :: some (.int v) :: ls) (.int v :: st) σ τ := mj_nx i208_396 rfl
theorem i208_397 : mj_ins 208 397 = some (.iconst (2), 398) := by decide +kernel
theorem e208_397 {ls : mj_L} {st : List Value} {σ : mj_S} {τ : mj_T} : mj_E 208 397 ls st σ τ = mj_E 208 398 ls (.int (nI 2) :: st) σ τ := mj_nx i208_397 rfl
theorem i208_398 : mj_ins 208 398 = some (.iadd, 399) := by decide +kernel
theorem e208_398 {ls : mj_L} {st : List Value} {σ : mj_S} {τ : mj_T} {x y : Int32} : mj_E 208 398 ls (.int y :: .int x :: st) σ τ = mj_E 208 399 ls (.int (x + y) :: st) σ τ := mj_nx i208_398 rfl
theorem i208_399 : mj_ins 208 399 = some (.iaload, 400) := by decide +kernel
theorem e208_399 {ls : mj_L} {st : List Value} {σ : mj_S} {τ : mj_T} {x : Int32} {k : Nat} : mj_E 208 399 ls (.int x :: .ref k :: st) σ τ = if mj_ib (mj_li σ k) x = true then mj_E 208 400 ls (.int (σ k x.toNatClampNeg) :: st) σ τ else none := mj_ald i208_399
theorem i208_400 : mj_ins 208 400 = some (.invokevirtual 126, 403) := by decide +kernel
theorem e208_400 {ls : mj_L} {σ : mj_S} {τ : mj_T} {r : Nat} {x0 : Int32} {x1 : Int32} {w0 : Value} : mj_E 208 400 ls [.int x1, .int x0, .ref r, w0] σ τ = if mj_rcv r 7 = true then mj_bd (mj_C 126 [.ref r, .int x0, .int x1] σ τ) (mj_K 208 403 ls [w0]) else none := mj_clV (as := [.int x0, .int x1]) (r := [w0]) i208_400 (by decide +kernel : mj_vk 208 126 2 1 3 false = true) (by decide +kernel)
theorem i208_403 : mj_ins 208 403 = some (.lcmp, 404) := by decide +kernel
theorem e208_403 {ls : mj_L} {st : List Value} {σ : mj_S} {τ : mj_T} {x y : Int64} : mj_E 208 403 ls (.long y :: .long x :: st) σ τ = mj_E 208 404 ls (.int (lg_cmp x y) :: st) σ τ := mj_nx i208_403 rfl
theorem i208_404 : mj_ins 208 404 = some (.ifCond .eq 1448, 407) := by decide +kernel
theorem e208_404 {ls : mj_L} {st : List Value} {σ : mj_S} {τ : mj_T} {x : Int32} : mj_E 208 404 ls (.int x :: st) σ τ = if x = 0 then mj_E 208 1448 ls st σ τ else mj_E 208 407 ls st σ τ := (mj_ifc i208_404).trans (mj_cdT rfl)
theorem i208_407 : mj_ins 208 407 = some (.iconst (0), 408) := by decide +kernel
theorem e208_407 {ls : mj_L} {st : List Value} {σ : mj_S} {τ : mj_T} : mj_E 208 407 ls st σ τ = mj_E 208 408 ls (.int (nI 0) :: st) σ τ := mj_nx i208_407 rfl
theorem i208_408 : mj_ins 208 408 = some (.ireturn, 409) := by decide +kernel
theorem e208_408 {ls : mj_L} {σ : mj_S} {τ : mj_T} {v : Int32} : mj_E 208 408 ls [.int v] σ τ = if mj_ok (some .boolean) v = true then some (some (.int v), σ, τ) else none := mj_zrt i208_408 rfl
theorem i208_409 : mj_ins 208 409 = some (.aload 1, 410) := by decide +kernel
theorem e208_409 {ls : mj_L} {st : List Value} {σ : mj_S} {τ : mj_T} {a0 : Option Value} {v : Nat} : mj_E 208 409 (a0 :: some (.ref v) :: ls) st σ τ = mj_E 208 410 (a0 :: some (.ref v) :: ls) (.ref v :: st) σ τ := mj_nx i208_409 rfl
theorem i208_410 : mj_ins 208 410 = some (.aload 0, 411) := by decide +kernel
theorem e208_410 {ls : mj_L} {st : List Value} {σ : mj_S} {τ : mj_T} {v : Nat} : mj_E 208 410 (some (.ref v) :: ls) st σ τ = mj_E 208 411 (some (.ref v) :: ls) (.ref v :: st) σ τ := mj_nx i208_410 rfl
theorem i208_411 : mj_ins 208 411 = some (.iload 3, 412) := by decide +kernel
theorem e208_411 {ls : mj_L} {st : List Value} {σ : mj_S} {τ : mj_T} {a0 a1 a2 : Option Value} {v : Int32} : mj_E 208 411 (a0 :: a1 :: a2 :: some (.int v) :: ls) st σ τ = mj_E 208 412 (a0 :: a1 :: a2 :: some (.int v) :: ls) (.int v :: st) σ τ := mj_nx i208_411 rfl
theorem i208_412 : mj_ins 208 412 = some (.iconst (1), 413) := by decide +kernel
theorem e208_412 {ls : mj_L} {st : List Value} {σ : mj_S} {τ : mj_T} : mj_E 208 412 ls st σ τ = mj_E 208 413 ls (.int (nI 1) :: st) σ τ := mj_nx i208_412 rfl
theorem i208_413 : mj_ins 208 413 = some (.iadd, 414) := by decide +kernel
theorem e208_413 {ls : mj_L} {st : List Value} {σ : mj_S} {τ : mj_T} {x y : Int32} : mj_E 208 413 ls (.int y :: .int x :: st) σ τ = mj_E 208 414 ls (.int (x + y) :: st) σ τ := mj_nx i208_413 rfl
theorem i208_414 : mj_ins 208 414 = some (.iaload, 415) := by decide +kernel
theorem e208_414 {ls : mj_L} {st : List Value} {σ : mj_S} {τ : mj_T} {x : Int32} {k : Nat} : mj_E 208 414 ls (.int x :: .ref k :: st) σ τ = if mj_ib (mj_li σ k) x = true then mj_E 208 415 ls (.int (σ k x.toNatClampNeg) :: st) σ τ else none := mj_ald i208_414
theorem i208_415 : mj_ins 208 415 = some (.aload 0, 416) := by decide +kernel
theorem e208_415 {ls : mj_L} {st : List Value} {σ : mj_S} {τ : mj_T} {v : Nat} : mj_E 208 415 (some (.ref v) :: ls) st σ τ = mj_E 208 416 (some (.ref v) :: ls) (.ref v :: st) σ τ := mj_nx i208_415 rfl
theorem i208_416 : mj_ins 208 416 = some (.iload 3, 417) := by decide +kernel
theorem e208_416 {ls : mj_L} {st : List Value} {σ : mj_S} {τ : mj_T} {a0 a1 a2 : Option Value} {v : Int32} : mj_E 208 416 (a0 :: a1 :: a2 :: some (.int v) :: ls) st σ τ = mj_E 208 417 (a0 :: a1 :: a2 :: some (.int v) :: ls) (.int v :: st) σ τ := mj_nx i208_416 rfl
theorem i208_417 : mj_ins 208 417 = some (.iconst (2), 418) := by decide +kernel
theorem e208_417 {ls : mj_L} {st : List Value} {σ : mj_S} {τ : mj_T} : mj_E 208 417 ls st σ τ = mj_E 208 418 ls (.int (nI 2) :: st) σ τ := mj_nx i208_417 rfl
theorem i208_418 : mj_ins 208 418 = some (.iadd, 419) := by decide +kernel
theorem e208_418 {ls : mj_L} {st : List Value} {σ : mj_S} {τ : mj_T} {x y : Int32} : mj_E 208 418 ls (.int y :: .int x :: st) σ τ = mj_E 208 419 ls (.int (x + y) :: st) σ τ := mj_nx i208_418 rfl
theorem i208_419 : mj_ins 208 419 = some (.iaload, 420) := by decide +kernel
theorem e208_419 {ls : mj_L} {st : List Value} {σ : mj_S} {τ : mj_T} {x : Int32} {k : Nat} : mj_E 208 419 ls (.int x :: .ref k :: st) σ τ = if mj_ib (mj_li σ k) x = true then mj_E 208 420 ls (.int (σ k x.toNatClampNeg) :: st) σ τ else none := mj_ald i208_419
theorem i208_420 : mj_ins 208 420 = some (.invokevirtual 77, 423) := by decide +kernel
theorem e208_420 {ls : mj_L} {σ : mj_S} {τ : mj_T} {r : Nat} {x0 : Int32} {x1 : Int32} : mj_E 208 420 ls [.int x1, .int x0, .ref r] σ τ = if mj_rcv r 6 = true then mj_bd (mj_C 77 [.ref r, .int x0, .int x1] σ τ) (mj_K 208 423 ls []) else none := mj_clV (as := [.int x0, .int x1]) (r := []) i208_420 (by decide +kernel : mj_vk 208 77 2 0 3 false = true) (by decide +kernel)
theorem i208_423 : mj_ins 208 423 = some (.aload 2, 424) := by decide +kernel
theorem e208_423 {ls : mj_L} {st : List Value} {σ : mj_S} {τ : mj_T} {a0 a1 : Option Value} {v : Nat} : mj_E 208 423 (a0 :: a1 :: some (.ref v) :: ls) st σ τ = mj_E 208 424 (a0 :: a1 :: some (.ref v) :: ls) (.ref v :: st) σ τ := mj_nx i208_423 rfl
theorem i208_424 : mj_ins 208 424 = some (.aload 0, 425) := by decide +kernel
theorem e208_424 {ls : mj_L} {st : List Value} {σ : mj_S} {τ : mj_T} {v : Nat} : mj_E 208 424 (some (.ref v) :: ls) st σ τ = mj_E 208 425 (some (.ref v) :: ls) (.ref v :: st) σ τ := mj_nx i208_424 rfl
theorem i208_425 : mj_ins 208 425 = some (.iload 3, 426) := by decide +kernel
theorem e208_425 {ls : mj_L} {st : List Value} {σ : mj_S} {τ : mj_T} {a0 a1 a2 : Option Value} {v : Int32} : mj_E 208 425 (a0 :: a1 :: a2 :: some (.int v) :: ls) st σ τ = mj_E 208 426 (a0 :: a1 :: a2 :: some (.int v) :: ls) (.int v :: st) σ τ := mj_nx i208_425 rfl
theorem i208_426 : mj_ins 208 426 = some (.iconst (1), 427) := by decide +kernel
theorem e208_426 {ls : mj_L} {st : List Value} {σ : mj_S} {τ : mj_T} : mj_E 208 426 ls st σ τ = mj_E 208 427 ls (.int (nI 1) :: st) σ τ := mj_nx i208_426 rfl
theorem i208_427 : mj_ins 208 427 = some (.iadd, 428) := by decide +kernel
theorem e208_427 {ls : mj_L} {st : List Value} {σ : mj_S} {τ : mj_T} {x y : Int32} : mj_E 208 427 ls (.int y :: .int x :: st) σ τ = mj_E 208 428 ls (.int (x + y) :: st) σ τ := mj_nx i208_427 rfl
theorem i208_428 : mj_ins 208 428 = some (.iaload, 429) := by decide +kernel
theorem e208_428 {ls : mj_L} {st : List Value} {σ : mj_S} {τ : mj_T} {x : Int32} {k : Nat} : mj_E 208 428 ls (.int x :: .ref k :: st) σ τ = if mj_ib (mj_li σ k) x = true then mj_E 208 429 ls (.int (σ k x.toNatClampNeg) :: st) σ τ else none := mj_ald i208_428
theorem i208_429 : mj_ins 208 429 = some (.aload 0, 430) := by decide +kernel
theorem e208_429 {ls : mj_L} {st : List Value} {σ : mj_S} {τ : mj_T} {v : Nat} : mj_E 208 429 (some (.ref v) :: ls) st σ τ = mj_E 208 430 (some (.ref v) :: ls) (.ref v :: st) σ τ := mj_nx i208_429 rfl
theorem i208_430 : mj_ins 208 430 = some (.iload 3, 431) := by decide +kernel
theorem e208_430 {ls : mj_L} {st : List Value} {σ : mj_S} {τ : mj_T} {a0 a1 a2 : Option Value} {v : Int32} : mj_E 208 430 (a0 :: a1 :: a2 :: some (.int v) :: ls) st σ τ = mj_E 208 431 (a0 :: a1 :: a2 :: some (.int v) :: ls) (.int v :: st) σ τ := mj_nx i208_430 rfl
theorem i208_431 : mj_ins 208 431 = some (.iconst (2), 432) := by decide +kernel
theorem e208_431 {ls : mj_L} {st : List Value} {σ : mj_S} {τ : mj_T} : mj_E 208 431 ls st σ τ = mj_E 208 432 ls (.int (nI 2) :: st) σ τ := mj_nx i208_431 rfl
theorem i208_432 : mj_ins 208 432 = some (.iadd, 433) := by decide +kernel
theorem e208_432 {ls : mj_L} {st : List Value} {σ : mj_S} {τ : mj_T} {x y : Int32} : mj_E 208 432 ls (.int y :: .int x :: st) σ τ = mj_E 208 433 ls (.int (x + y) :: st) σ τ := mj_nx i208_432 rfl
theorem i208_433 : mj_ins 208 433 = some (.iaload, 434) := by decide +kernel
theorem e208_433 {ls : mj_L} {st : List Value} {σ : mj_S} {τ : mj_T} {x : Int32} {k : Nat} : mj_E 208 433 ls (.int x :: .ref k :: st) σ τ = if mj_ib (mj_li σ k) x = true then mj_E 208 434 ls (.int (σ k x.toNatClampNeg) :: st) σ τ else none := mj_ald i208_433
theorem i208_434 : mj_ins 208 434 = some (.invokevirtual 127, 437) := by decide +kernel
theorem e208_434 {ls : mj_L} {σ : mj_S} {τ : mj_T} {r : Nat} {x0 : Int32} {x1 : Int32} {w0 : Value} : mj_E 208 434 ls [.int x1, .int x0, .ref r, w0] σ τ = if mj_rcv r 7 = true then mj_bd (mj_C 127 [.ref r, .int x0, .int x1] σ τ) (mj_K 208 437 ls [w0]) else none := mj_clV (as := [.int x0, .int x1]) (r := [w0]) i208_434 (by decide +kernel : mj_vk 208 127 2 1 3 false = true) (by decide +kernel)
theorem i208_437 : mj_ins 208 437 = some (.if_icmp .eq 1448, 440) := by decide +kernel
theorem e208_437 {ls : mj_L} {st : List Value} {σ : mj_S} {τ : mj_T} {x y : Int32} : mj_E 208 437 ls (.int y :: .int x :: st) σ τ = if x = y then mj_E 208 1448 ls st σ τ else mj_E 208 440 ls st σ τ := (mj_ifi i208_437).trans (mj_cdT rfl)
theorem i208_440 : mj_ins 208 440 = some (.iconst (0), 441) := by decide +kernel
theorem e208_440 {ls : mj_L} {st : List Value} {σ : mj_S} {τ : mj_T} : mj_E 208 440 ls st σ τ = mj_E 208 441 ls (.int (nI 0) :: st) σ τ := mj_nx i208_440 rfl
theorem i208_441 : mj_ins 208 441 = some (.ireturn, 442) := by decide +kernel
theorem e208_441 {ls : mj_L} {σ : mj_S} {τ : mj_T} {v : Int32} : mj_E 208 441 ls [.int v] σ τ = if mj_ok (some .boolean) v = true then some (some (.int v), σ, τ) else none := mj_zrt i208_441 rfl
theorem i208_442 : mj_ins 208 442 = some (.aload 1, 443) := by decide +kernel
theorem e208_442 {ls : mj_L} {st : List Value} {σ : mj_S} {τ : mj_T} {a0 : Option Value} {v : Nat} : mj_E 208 442 (a0 :: some (.ref v) :: ls) st σ τ = mj_E 208 443 (a0 :: some (.ref v) :: ls) (.ref v :: st) σ τ := mj_nx i208_442 rfl
theorem i208_443 : mj_ins 208 443 = some (.aload 0, 444) := by decide +kernel
theorem e208_443 {ls : mj_L} {st : List Value} {σ : mj_S} {τ : mj_T} {v : Nat} : mj_E 208 443 (some (.ref v) :: ls) st σ τ = mj_E 208 444 (some (.ref v) :: ls) (.ref v :: st) σ τ := mj_nx i208_443 rfl
theorem i208_444 : mj_ins 208 444 = some (.iload 3, 445) := by decide +kernel
theorem e208_444 {ls : mj_L} {st : List Value} {σ : mj_S} {τ : mj_T} {a0 a1 a2 : Option Value} {v : Int32} : mj_E 208 444 (a0 :: a1 :: a2 :: some (.int v) :: ls) st σ τ = mj_E 208 445 (a0 :: a1 :: a2 :: some (.int v) :: ls) (.int v :: st) σ τ := mj_nx i208_444 rfl
theorem i208_445 : mj_ins 208 445 = some (.iconst (1), 446) := by decide +kernel
theorem e208_445 {ls : mj_L} {st : List Value} {σ : mj_S} {τ : mj_T} : mj_E 208 445 ls st σ τ = mj_E 208 446 ls (.int (nI 1) :: st) σ τ := mj_nx i208_445 rfl
theorem i208_446 : mj_ins 208 446 = some (.iadd, 447) := by decide +kernel
theorem e208_446 {ls : mj_L} {st : List Value} {σ : mj_S} {τ : mj_T} {x y : Int32} : mj_E 208 446 ls (.int y :: .int x :: st) σ τ = mj_E 208 447 ls (.int (x + y) :: st) σ τ := mj_nx i208_446 rfl
theorem i208_447 : mj_ins 208 447 = some (.iaload, 448) := by decide +kernel
theorem e208_447 {ls : mj_L} {st : List Value} {σ : mj_S} {τ : mj_T} {x : Int32} {k : Nat} : mj_E 208 447 ls (.int x :: .ref k :: st) σ τ = if mj_ib (mj_li σ k) x = true then mj_E 208 448 ls (.int (σ k x.toNatClampNeg) :: st) σ τ else none := mj_ald i208_447
theorem i208_448 : mj_ins 208 448 = some (.invokevirtual 78, 451) := by decide +kernel
theorem e208_448 {ls : mj_L} {σ : mj_S} {τ : mj_T} {r : Nat} {x0 : Int32} : mj_E 208 448 ls [.int x0, .ref r] σ τ = if mj_rcv r 6 = true then mj_bd (mj_C 78 [.ref r, .int x0] σ τ) (mj_K 208 451 ls []) else none := mj_clV (as := [.int x0]) (r := []) i208_448 (by decide +kernel : mj_vk 208 78 1 0 2 false = true) (by decide +kernel)
theorem i208_451 : mj_ins 208 451 = some (.aload 2, 452) := by decide +kernel
theorem e208_451 {ls : mj_L} {st : List Value} {σ : mj_S} {τ : mj_T} {a0 a1 : Option Value} {v : Nat} : mj_E 208 451 (a0 :: a1 :: some (.ref v) :: ls) st σ τ = mj_E 208 452 (a0 :: a1 :: some (.ref v) :: ls) (.ref v :: st) σ τ := mj_nx i208_451 rfl
theorem i208_452 : mj_ins 208 452 = some (.aload 0, 453) := by decide +kernel
theorem e208_452 {ls : mj_L} {st : List Value} {σ : mj_S} {τ : mj_T} {v : Nat} : mj_E 208 452 (some (.ref v) :: ls) st σ τ = mj_E 208 453 (some (.ref v) :: ls) (.ref v :: st) σ τ := mj_nx i208_452 rfl
theorem i208_453 : mj_ins 208 453 = some (.iload 3, 454) := by decide +kernel
theorem e208_453 {ls : mj_L} {st : List Value} {σ : mj_S} {τ : mj_T} {a0 a1 a2 : Option Value} {v : Int32} : mj_E 208 453 (a0 :: a1 :: a2 :: some (.int v) :: ls) st σ τ = mj_E 208 454 (a0 :: a1 :: a2 :: some (.int v) :: ls) (.int v :: st) σ τ := mj_nx i208_453 rfl
theorem i208_454 : mj_ins 208 454 = some (.iconst (1), 455) := by decide +kernel
theorem e208_454 {ls : mj_L} {st : List Value} {σ : mj_S} {τ : mj_T} : mj_E 208 454 ls st σ τ = mj_E 208 455 ls (.int (nI 1) :: st) σ τ := mj_nx i208_454 rfl
theorem i208_455 : mj_ins 208 455 = some (.iadd, 456) := by decide +kernel
theorem e208_455 {ls : mj_L} {st : List Value} {σ : mj_S} {τ : mj_T} {x y : Int32} : mj_E 208 455 ls (.int y :: .int x :: st) σ τ = mj_E 208 456 ls (.int (x + y) :: st) σ τ := mj_nx i208_455 rfl
theorem i208_456 : mj_ins 208 456 = some (.iaload, 457) := by decide +kernel
theorem e208_456 {ls : mj_L} {st : List Value} {σ : mj_S} {τ : mj_T} {x : Int32} {k : Nat} : mj_E 208 456 ls (.int x :: .ref k :: st) σ τ = if mj_ib (mj_li σ k) x = true then mj_E 208 457 ls (.int (σ k x.toNatClampNeg) :: st) σ τ else none := mj_ald i208_456
theorem i208_457 : mj_ins 208 457 = some (.invokevirtual 128, 460) := by decide +kernel
theorem e208_457 {ls : mj_L} {σ : mj_S} {τ : mj_T} {r : Nat} {x0 : Int32} {w0 : Value} : mj_E 208 457 ls [.int x0, .ref r, w0] σ τ = if mj_rcv r 7 = true then mj_bd (mj_C 128 [.ref r, .int x0] σ τ) (mj_K 208 460 ls [w0]) else none := mj_clV (as := [.int x0]) (r := [w0]) i208_457 (by decide +kernel : mj_vk 208 128 1 1 2 false = true) (by decide +kernel)
theorem i208_460 : mj_ins 208 460 = some (.if_icmp .eq 1448, 463) := by decide +kernel
theorem e208_460 {ls : mj_L} {st : List Value} {σ : mj_S} {τ : mj_T} {x y : Int32} : mj_E 208 460 ls (.int y :: .int x :: st) σ τ = if x = y then mj_E 208 1448 ls st σ τ else mj_E 208 463 ls st σ τ := (mj_ifi i208_460).trans (mj_cdT rfl)
theorem i208_463 : mj_ins 208 463 = some (.iconst (0), 464) := by decide +kernel
theorem e208_463 {ls : mj_L} {st : List Value} {σ : mj_S} {τ : mj_T} : mj_E 208 463 ls st σ τ = mj_E 208 464 ls (.int (nI 0) :: st) σ τ := mj_nx i208_463 rfl
theorem i208_464 : mj_ins 208 464 = some (.ireturn, 465) := by decide +kernel
theorem e208_464 {ls : mj_L} {σ : mj_S} {τ : mj_T} {v : Int32} : mj_E 208 464 ls [.int v] σ τ = if mj_ok (some .boolean) v = true then some (some (.int v), σ, τ) else none := mj_zrt i208_464 rfl
theorem i208_465 : mj_ins 208 465 = some (.aload 1, 466) := by decide +kernel
theorem e208_465 {ls : mj_L} {st : List Value} {σ : mj_S} {τ : mj_T} {a0 : Option Value} {v : Nat} : mj_E 208 465 (a0 :: some (.ref v) :: ls) st σ τ = mj_E 208 466 (a0 :: some (.ref v) :: ls) (.ref v :: st) σ τ := mj_nx i208_465 rfl
theorem i208_466 : mj_ins 208 466 = some (.aload 0, 467) := by decide +kernel
theorem e208_466 {ls : mj_L} {st : List Value} {σ : mj_S} {τ : mj_T} {v : Nat} : mj_E 208 466 (some (.ref v) :: ls) st σ τ = mj_E 208 467 (some (.ref v) :: ls) (.ref v :: st) σ τ := mj_nx i208_466 rfl
theorem i208_467 : mj_ins 208 467 = some (.iload 3, 468) := by decide +kernel
theorem e208_467 {ls : mj_L} {st : List Value} {σ : mj_S} {τ : mj_T} {a0 a1 a2 : Option Value} {v : Int32} : mj_E 208 467 (a0 :: a1 :: a2 :: some (.int v) :: ls) st σ τ = mj_E 208 468 (a0 :: a1 :: a2 :: some (.int v) :: ls) (.int v :: st) σ τ := mj_nx i208_467 rfl
theorem i208_468 : mj_ins 208 468 = some (.iconst (1), 469) := by decide +kernel
theorem e208_468 {ls : mj_L} {st : List Value} {σ : mj_S} {τ : mj_T} : mj_E 208 468 ls st σ τ = mj_E 208 469 ls (.int (nI 1) :: st) σ τ := mj_nx i208_468 rfl
theorem i208_469 : mj_ins 208 469 = some (.iadd, 470) := by decide +kernel
theorem e208_469 {ls : mj_L} {st : List Value} {σ : mj_S} {τ : mj_T} {x y : Int32} : mj_E 208 469 ls (.int y :: .int x :: st) σ τ = mj_E 208 470 ls (.int (x + y) :: st) σ τ := mj_nx i208_469 rfl
theorem i208_470 : mj_ins 208 470 = some (.iaload, 471) := by decide +kernel
theorem e208_470 {ls : mj_L} {st : List Value} {σ : mj_S} {τ : mj_T} {x : Int32} {k : Nat} : mj_E 208 470 ls (.int x :: .ref k :: st) σ τ = if mj_ib (mj_li σ k) x = true then mj_E 208 471 ls (.int (σ k x.toNatClampNeg) :: st) σ τ else none := mj_ald i208_470
theorem i208_471 : mj_ins 208 471 = some (.aload 0, 472) := by decide +kernel
theorem e208_471 {ls : mj_L} {st : List Value} {σ : mj_S} {τ : mj_T} {v : Nat} : mj_E 208 471 (some (.ref v) :: ls) st σ τ = mj_E 208 472 (some (.ref v) :: ls) (.ref v :: st) σ τ := mj_nx i208_471 rfl
theorem i208_472 : mj_ins 208 472 = some (.iload 3, 473) := by decide +kernel
theorem e208_472 {ls : mj_L} {st : List Value} {σ : mj_S} {τ : mj_T} {a0 a1 a2 : Option Value} {v : Int32} : mj_E 208 472 (a0 :: a1 :: a2 :: some (.int v) :: ls) st σ τ = mj_E 208 473 (a0 :: a1 :: a2 :: some (.int v) :: ls) (.int v :: st) σ τ := mj_nx i208_472 rfl
theorem i208_473 : mj_ins 208 473 = some (.iconst (2), 474) := by decide +kernel
theorem e208_473 {ls : mj_L} {st : List Value} {σ : mj_S} {τ : mj_T} : mj_E 208 473 ls st σ τ = mj_E 208 474 ls (.int (nI 2) :: st) σ τ := mj_nx i208_473 rfl
theorem i208_474 : mj_ins 208 474 = some (.iadd, 475) := by decide +kernel
theorem e208_474 {ls : mj_L} {st : List Value} {σ : mj_S} {τ : mj_T} {x y : Int32} : mj_E 208 474 ls (.int y :: .int x :: st) σ τ = mj_E 208 475 ls (.int (x + y) :: st) σ τ := mj_nx i208_474 rfl
theorem i208_475 : mj_ins 208 475 = some (.iaload, 476) := by decide +kernel
theorem e208_475 {ls : mj_L} {st : List Value} {σ : mj_S} {τ : mj_T} {x : Int32} {k : Nat} : mj_E 208 475 ls (.int x :: .ref k :: st) σ τ = if mj_ib (mj_li σ k) x = true then mj_E 208 476 ls (.int (σ k x.toNatClampNeg) :: st) σ τ else none := mj_ald i208_475
theorem i208_476 : mj_ins 208 476 = some (.invokevirtual 79, 479) := by decide +kernel
theorem e208_476 {ls : mj_L} {σ : mj_S} {τ : mj_T} {r : Nat} {x0 : Int32} {x1 : Int32} : mj_E 208 476 ls [.int x1, .int x0, .ref r] σ τ = if mj_rcv r 6 = true then mj_bd (mj_C 79 [.ref r, .int x0, .int x1] σ τ) (mj_K 208 479 ls []) else none := mj_clV (as := [.int x0, .int x1]) (r := []) i208_476 (by decide +kernel : mj_vk 208 79 2 0 3 false = true) (by decide +kernel)
theorem i208_479 : mj_ins 208 479 = some (.aload 2, 480) := by decide +kernel
theorem e208_479 {ls : mj_L} {st : List Value} {σ : mj_S} {τ : mj_T} {a0 a1 : Option Value} {v : Nat} : mj_E 208 479 (a0 :: a1 :: some (.ref v) :: ls) st σ τ = mj_E 208 480 (a0 :: a1 :: some (.ref v) :: ls) (.ref v :: st) σ τ := mj_nx i208_479 rfl
theorem i208_480 : mj_ins 208 480 = some (.aload 0, 481) := by decide +kernel
theorem e208_480 {ls : mj_L} {st : List Value} {σ : mj_S} {τ : mj_T} {v : Nat} : mj_E 208 480 (some (.ref v) :: ls) st σ τ = mj_E 208 481 (some (.ref v) :: ls) (.ref v :: st) σ τ := mj_nx i208_480 rfl
theorem i208_481 : mj_ins 208 481 = some (.iload 3, 482) := by decide +kernel
theorem e208_481 {ls : mj_L} {st : List Value} {σ : mj_S} {τ : mj_T} {a0 a1 a2 : Option Value} {v : Int32} : mj_E 208 481 (a0 :: a1 :: a2 :: some (.int v) :: ls) st σ τ = mj_E 208 482 (a0 :: a1 :: a2 :: some (.int v) :: ls) (.int v :: st) σ τ := mj_nx i208_481 rfl
theorem i208_482 : mj_ins 208 482 = some (.iconst (1), 483) := by decide +kernel
theorem e208_482 {ls : mj_L} {st : List Value} {σ : mj_S} {τ : mj_T} : mj_E 208 482 ls st σ τ = mj_E 208 483 ls (.int (nI 1) :: st) σ τ := mj_nx i208_482 rfl
theorem i208_483 : mj_ins 208 483 = some (.iadd, 484) := by decide +kernel
theorem e208_483 {ls : mj_L} {st : List Value} {σ : mj_S} {τ : mj_T} {x y : Int32} : mj_E 208 483 ls (.int y :: .int x :: st) σ τ = mj_E 208 484 ls (.int (x + y) :: st) σ τ := mj_nx i208_483 rfl
theorem i208_484 : mj_ins 208 484 = some (.iaload, 485) := by decide +kernel
theorem e208_484 {ls : mj_L} {st : List Value} {σ : mj_S} {τ : mj_T} {x : Int32} {k : Nat} : mj_E 208 484 ls (.int x :: .ref k :: st) σ τ = if mj_ib (mj_li σ k) x = true then mj_E 208 485 ls (.int (σ k x.toNatClampNeg) :: st) σ τ else none := mj_ald i208_484
theorem i208_485 : mj_ins 208 485 = some (.aload 0, 486) := by decide +kernel
theorem e208_485 {ls : mj_L} {st : List Value} {σ : mj_S} {τ : mj_T} {v : Nat} : mj_E 208 485 (some (.ref v) :: ls) st σ τ = mj_E 208 486 (some (.ref v) :: ls) (.ref v :: st) σ τ := mj_nx i208_485 rfl
theorem i208_486 : mj_ins 208 486 = some (.iload 3, 487) := by decide +kernel
theorem e208_486 {ls : mj_L} {st : List Value} {σ : mj_S} {τ : mj_T} {a0 a1 a2 : Option Value} {v : Int32} : mj_E 208 486 (a0 :: a1 :: a2 :: some (.int v) :: ls) st σ τ = mj_E 208 487 (a0 :: a1 :: a2 :: some (.int v) :: ls) (.int v :: st) σ τ := mj_nx i208_486 rfl
theorem i208_487 : mj_ins 208 487 = some (.iconst (2), 488) := by decide +kernel
theorem e208_487 {ls : mj_L} {st : List Value} {σ : mj_S} {τ : mj_T} : mj_E 208 487 ls st σ τ = mj_E 208 488 ls (.int (nI 2) :: st) σ τ := mj_nx i208_487 rfl
theorem i208_488 : mj_ins 208 488 = some (.iadd, 489) := by decide +kernel
theorem e208_488 {ls : mj_L} {st : List Value} {σ : mj_S} {τ : mj_T} {x y : Int32} : mj_E 208 488 ls (.int y :: .int x :: st) σ τ = mj_E 208 489 ls (.int (x + y) :: st) σ τ := mj_nx i208_488 rfl
theorem i208_489 : mj_ins 208 489 = some (.iaload, 490) := by decide +kernel
theorem e208_489 {ls : mj_L} {st : List Value} {σ : mj_S} {τ : mj_T} {x : Int32} {k : Nat} : mj_E 208 489 ls (.int x :: .ref k :: st) σ τ = if mj_ib (mj_li σ k) x = true then mj_E 208 490 ls (.int (σ k x.toNatClampNeg) :: st) σ τ else none := mj_ald i208_489
theorem i208_490 : mj_ins 208 490 = some (.invokevirtual 129, 493) := by decide +kernel
theorem e208_490 {ls : mj_L} {σ : mj_S} {τ : mj_T} {r : Nat} {x0 : Int32} {x1 : Int32} {w0 : Value} : mj_E 208 490 ls [.int x1, .int x0, .ref r, w0] σ τ = if mj_rcv r 7 = true then mj_bd (mj_C 129 [.ref r, .int x0, .int x1] σ τ) (mj_K 208 493 ls [w0]) else none := mj_clV (as := [.int x0, .int x1]) (r := [w0]) i208_490 (by decide +kernel : mj_vk 208 129 2 1 3 false = true) (by decide +kernel)
theorem i208_493 : mj_ins 208 493 = some (.if_icmp .eq 1448, 496) := by decide +kernel
theorem e208_493 {ls : mj_L} {st : List Value} {σ : mj_S} {τ : mj_T} {x y : Int32} : mj_E 208 493 ls (.int y :: .int x :: st) σ τ = if x = y then mj_E 208 1448 ls st σ τ else mj_E 208 496 ls st σ τ := (mj_ifi i208_493).trans (mj_cdT rfl)
theorem i208_496 : mj_ins 208 496 = some (.iconst (0), 497) := by decide +kernel
theorem e208_496 {ls : mj_L} {st : List Value} {σ : mj_S} {τ : mj_T} : mj_E 208 496 ls st σ τ = mj_E 208 497 ls (.int (nI 0) :: st) σ τ := mj_nx i208_496 rfl
theorem i208_497 : mj_ins 208 497 = some (.ireturn, 498) := by decide +kernel
theorem e208_497 {ls : mj_L} {σ : mj_S} {τ : mj_T} {v : Int32} : mj_E 208 497 ls [.int v] σ τ = if mj_ok (some .boolean) v = true then some (some (.int v), σ, τ) else none := mj_zrt i208_497 rfl
theorem i208_498 : mj_ins 208 498 = some (.aload 1, 499) := by decide +kernel
theorem e208_498 {ls : mj_L} {st : List Value} {σ : mj_S} {τ : mj_T} {a0 : Option Value} {v : Nat} : mj_E 208 498 (a0 :: some (.ref v) :: ls) st σ τ = mj_E 208 499 (a0 :: some (.ref v) :: ls) (.ref v :: st) σ τ := mj_nx i208_498 rfl
theorem i208_499 : mj_ins 208 499 = some (.aload 0, 500) := by decide +kernel
theorem e208_499 {ls : mj_L} {st : List Value} {σ : mj_S} {τ : mj_T} {v : Nat} : mj_E 208 499 (some (.ref v) :: ls) st σ τ = mj_E 208 500 (some (.ref v) :: ls) (.ref v :: st) σ τ := mj_nx i208_499 rfl
theorem i208_500 : mj_ins 208 500 = some (.iload 3, 501) := by decide +kernel
theorem e208_500 {ls : mj_L} {st : List Value} {σ : mj_S} {τ : mj_T} {a0 a1 a2 : Option Value} {v : Int32} : mj_E 208 500 (a0 :: a1 :: a2 :: some (.int v) :: ls) st σ τ = mj_E 208 501 (a0 :: a1 :: a2 :: some (.int v) :: ls) (.int v :: st) σ τ := mj_nx i208_500 rfl
theorem i208_501 : mj_ins 208 501 = some (.iconst (1), 502) := by decide +kernel
theorem e208_501 {ls : mj_L} {st : List Value} {σ : mj_S} {τ : mj_T} : mj_E 208 501 ls st σ τ = mj_E 208 502 ls (.int (nI 1) :: st) σ τ := mj_nx i208_501 rfl
theorem i208_502 : mj_ins 208 502 = some (.iadd, 503) := by decide +kernel
theorem e208_502 {ls : mj_L} {st : List Value} {σ : mj_S} {τ : mj_T} {x y : Int32} : mj_E 208 502 ls (.int y :: .int x :: st) σ τ = mj_E 208 503 ls (.int (x + y) :: st) σ τ := mj_nx i208_502 rfl
theorem i208_503 : mj_ins 208 503 = some (.iaload, 504) := by decide +kernel
theorem e208_503 {ls : mj_L} {st : List Value} {σ : mj_S} {τ : mj_T} {x : Int32} {k : Nat} : mj_E 208 503 ls (.int x :: .ref k :: st) σ τ = if mj_ib (mj_li σ k) x = true then mj_E 208 504 ls (.int (σ k x.toNatClampNeg) :: st) σ τ else none := mj_ald i208_503
theorem i208_504 : mj_ins 208 504 = some (.aload 0, 505) := by decide +kernel
theorem e208_504 {ls : mj_L} {st : List Value} {σ : mj_S} {τ : mj_T} {v : Nat} : mj_E 208 504 (some (.ref v) :: ls) st σ τ = mj_E 208 505 (some (.ref v) :: ls) (.ref v :: st) σ τ := mj_nx i208_504 rfl
theorem i208_505 : mj_ins 208 505 = some (.iload 3, 506) := by decide +kernel
theorem e208_505 {ls : mj_L} {st : List Value} {σ : mj_S} {τ : mj_T} {a0 a1 a2 : Option Value} {v : Int32} : mj_E 208 505 (a0 :: a1 :: a2 :: some (.int v) :: ls) st σ τ = mj_E 208 506 (a0 :: a1 :: a2 :: some (.int v) :: ls) (.int v :: st) σ τ := mj_nx i208_505 rfl
theorem i208_506 : mj_ins 208 506 = some (.iconst (2), 507) := by decide +kernel
theorem e208_506 {ls : mj_L} {st : List Value} {σ : mj_S} {τ : mj_T} : mj_E 208 506 ls st σ τ = mj_E 208 507 ls (.int (nI 2) :: st) σ τ := mj_nx i208_506 rfl
theorem i208_507 : mj_ins 208 507 = some (.iadd, 508) := by decide +kernel
theorem e208_507 {ls : mj_L} {st : List Value} {σ : mj_S} {τ : mj_T} {x y : Int32} : mj_E 208 507 ls (.int y :: .int x :: st) σ τ = mj_E 208 508 ls (.int (x + y) :: st) σ τ := mj_nx i208_507 rfl
theorem i208_508 : mj_ins 208 508 = some (.iaload, 509) := by decide +kernel
theorem e208_508 {ls : mj_L} {st : List Value} {σ : mj_S} {τ : mj_T} {x : Int32} {k : Nat} : mj_E 208 508 ls (.int x :: .ref k :: st) σ τ = if mj_ib (mj_li σ k) x = true then mj_E 208 509 ls (.int (σ k x.toNatClampNeg) :: st) σ τ else none := mj_ald i208_508
theorem i208_509 : mj_ins 208 509 = some (.aload 0, 510) := by decide +kernel
theorem e208_509 {ls : mj_L} {st : List Value} {σ : mj_S} {τ : mj_T} {v : Nat} : mj_E 208 509 (some (.ref v) :: ls) st σ τ = mj_E 208 510 (some (.ref v) :: ls) (.ref v :: st) σ τ := mj_nx i208_509 rfl
theorem i208_510 : mj_ins 208 510 = some (.iload 3, 511) := by decide +kernel
theorem e208_510 {ls : mj_L} {st : List Value} {σ : mj_S} {τ : mj_T} {a0 a1 a2 : Option Value} {v : Int32} : mj_E 208 510 (a0 :: a1 :: a2 :: some (.int v) :: ls) st σ τ = mj_E 208 511 (a0 :: a1 :: a2 :: some (.int v) :: ls) (.int v :: st) σ τ := mj_nx i208_510 rfl
theorem i208_511 : mj_ins 208 511 = some (.iconst (3), 512) := by decide +kernel
theorem e208_511 {ls : mj_L} {st : List Value} {σ : mj_S} {τ : mj_T} : mj_E 208 511 ls st σ τ = mj_E 208 512 ls (.int (nI 3) :: st) σ τ := mj_nx i208_511 rfl
theorem i208_512 : mj_ins 208 512 = some (.iadd, 513) := by decide +kernel
theorem e208_512 {ls : mj_L} {st : List Value} {σ : mj_S} {τ : mj_T} {x y : Int32} : mj_E 208 512 ls (.int y :: .int x :: st) σ τ = mj_E 208 513 ls (.int (x + y) :: st) σ τ := mj_nx i208_512 rfl
theorem i208_513 : mj_ins 208 513 = some (.iaload, 514) := by decide +kernel
theorem e208_513 {ls : mj_L} {st : List Value} {σ : mj_S} {τ : mj_T} {x : Int32} {k : Nat} : mj_E 208 513 ls (.int x :: .ref k :: st) σ τ = if mj_ib (mj_li σ k) x = true then mj_E 208 514 ls (.int (σ k x.toNatClampNeg) :: st) σ τ else none := mj_ald i208_513
theorem i208_514 : mj_ins 208 514 = some (.aload 0, 515) := by decide +kernel
theorem e208_514 {ls : mj_L} {st : List Value} {σ : mj_S} {τ : mj_T} {v : Nat} : mj_E 208 514 (some (.ref v) :: ls) st σ τ = mj_E 208 515 (some (.ref v) :: ls) (.ref v :: st) σ τ := mj_nx i208_514 rfl
theorem i208_515 : mj_ins 208 515 = some (.iload 3, 516) := by decide +kernel
theorem e208_515 {ls : mj_L} {st : List Value} {σ : mj_S} {τ : mj_T} {a0 a1 a2 : Option Value} {v : Int32} : mj_E 208 515 (a0 :: a1 :: a2 :: some (.int v) :: ls) st σ τ = mj_E 208 516 (a0 :: a1 :: a2 :: some (.int v) :: ls) (.int v :: st) σ τ := mj_nx i208_515 rfl
theorem i208_516 : mj_ins 208 516 = some (.iconst (4), 517) := by decide +kernel
theorem e208_516 {ls : mj_L} {st : List Value} {σ : mj_S} {τ : mj_T} : mj_E 208 516 ls st σ τ = mj_E 208 517 ls (.int (nI 4) :: st) σ τ := mj_nx i208_516 rfl
theorem i208_517 : mj_ins 208 517 = some (.iadd, 518) := by decide +kernel
theorem e208_517 {ls : mj_L} {st : List Value} {σ : mj_S} {τ : mj_T} {x y : Int32} : mj_E 208 517 ls (.int y :: .int x :: st) σ τ = mj_E 208 518 ls (.int (x + y) :: st) σ τ := mj_nx i208_517 rfl
theorem i208_518 : mj_ins 208 518 = some (.iaload, 519) := by decide +kernel
theorem e208_518 {ls : mj_L} {st : List Value} {σ : mj_S} {τ : mj_T} {x : Int32} {k : Nat} : mj_E 208 518 ls (.int x :: .ref k :: st) σ τ = if mj_ib (mj_li σ k) x = true then mj_E 208 519 ls (.int (σ k x.toNatClampNeg) :: st) σ τ else none := mj_ald i208_518
theorem i208_519 : mj_ins 208 519 = some (.invokevirtual 80, 522) := by decide +kernel
theorem e208_519 {ls : mj_L} {σ : mj_S} {τ : mj_T} {r : Nat} {x0 : Int32} {x1 : Int32} {x2 : Int32} {x3 : Int32} : mj_E 208 519 ls [.int x3, .int x2, .int x1, .int x0, .ref r] σ τ = if mj_rcv r 6 = true then mj_bd (mj_C 80 [.ref r, .int x0, .int x1, .int x2, .int x3] σ τ) (mj_K 208 522 ls []) else none := mj_clV (as := [.int x0, .int x1, .int x2, .int x3]) (r := []) i208_519 (by decide +kernel : mj_vk 208 80 4 0 5 false = true) (by decide +kernel)
theorem i208_522 : mj_ins 208 522 = some (.aload 2, 523) := by decide +kernel
theorem e208_522 {ls : mj_L} {st : List Value} {σ : mj_S} {τ : mj_T} {a0 a1 : Option Value} {v : Nat} : mj_E 208 522 (a0 :: a1 :: some (.ref v) :: ls) st σ τ = mj_E 208 523 (a0 :: a1 :: some (.ref v) :: ls) (.ref v :: st) σ τ := mj_nx i208_522 rfl
theorem i208_523 : mj_ins 208 523 = some (.aload 0, 524) := by decide +kernel
theorem e208_523 {ls : mj_L} {st : List Value} {σ : mj_S} {τ : mj_T} {v : Nat} : mj_E 208 523 (some (.ref v) :: ls) st σ τ = mj_E 208 524 (some (.ref v) :: ls) (.ref v :: st) σ τ := mj_nx i208_523 rfl
theorem i208_524 : mj_ins 208 524 = some (.iload 3, 525) := by decide +kernel
theorem e208_524 {ls : mj_L} {st : List Value} {σ : mj_S} {τ : mj_T} {a0 a1 a2 : Option Value} {v : Int32} : mj_E 208 524 (a0 :: a1 :: a2 :: some (.int v) :: ls) st σ τ = mj_E 208 525 (a0 :: a1 :: a2 :: some (.int v) :: ls) (.int v :: st) σ τ := mj_nx i208_524 rfl
theorem i208_525 : mj_ins 208 525 = some (.iconst (1), 526) := by decide +kernel
theorem e208_525 {ls : mj_L} {st : List Value} {σ : mj_S} {τ : mj_T} : mj_E 208 525 ls st σ τ = mj_E 208 526 ls (.int (nI 1) :: st) σ τ := mj_nx i208_525 rfl
theorem i208_526 : mj_ins 208 526 = some (.iadd, 527) := by decide +kernel
theorem e208_526 {ls : mj_L} {st : List Value} {σ : mj_S} {τ : mj_T} {x y : Int32} : mj_E 208 526 ls (.int y :: .int x :: st) σ τ = mj_E 208 527 ls (.int (x + y) :: st) σ τ := mj_nx i208_526 rfl
theorem i208_527 : mj_ins 208 527 = some (.iaload, 528) := by decide +kernel
theorem e208_527 {ls : mj_L} {st : List Value} {σ : mj_S} {τ : mj_T} {x : Int32} {k : Nat} : mj_E 208 527 ls (.int x :: .ref k :: st) σ τ = if mj_ib (mj_li σ k) x = true then mj_E 208 528 ls (.int (σ k x.toNatClampNeg) :: st) σ τ else none := mj_ald i208_527
theorem i208_528 : mj_ins 208 528 = some (.aload 0, 529) := by decide +kernel
theorem e208_528 {ls : mj_L} {st : List Value} {σ : mj_S} {τ : mj_T} {v : Nat} : mj_E 208 528 (some (.ref v) :: ls) st σ τ = mj_E 208 529 (some (.ref v) :: ls) (.ref v :: st) σ τ := mj_nx i208_528 rfl
theorem i208_529 : mj_ins 208 529 = some (.iload 3, 530) := by decide +kernel
theorem e208_529 {ls : mj_L} {st : List Value} {σ : mj_S} {τ : mj_T} {a0 a1 a2 : Option Value} {v : Int32} : mj_E 208 529 (a0 :: a1 :: a2 :: some (.int v) :: ls) st σ τ = mj_E 208 530 (a0 :: a1 :: a2 :: some (.int v) :: ls) (.int v :: st) σ τ := mj_nx i208_529 rfl
theorem i208_530 : mj_ins 208 530 = some (.iconst (2), 531) := by decide +kernel
theorem e208_530 {ls : mj_L} {st : List Value} {σ : mj_S} {τ : mj_T} : mj_E 208 530 ls st σ τ = mj_E 208 531 ls (.int (nI 2) :: st) σ τ := mj_nx i208_530 rfl
theorem i208_531 : mj_ins 208 531 = some (.iadd, 532) := by decide +kernel
theorem e208_531 {ls : mj_L} {st : List Value} {σ : mj_S} {τ : mj_T} {x y : Int32} : mj_E 208 531 ls (.int y :: .int x :: st) σ τ = mj_E 208 532 ls (.int (x + y) :: st) σ τ := mj_nx i208_531 rfl
theorem i208_532 : mj_ins 208 532 = some (.iaload, 533) := by decide +kernel
theorem e208_532 {ls : mj_L} {st : List Value} {σ : mj_S} {τ : mj_T} {x : Int32} {k : Nat} : mj_E 208 532 ls (.int x :: .ref k :: st) σ τ = if mj_ib (mj_li σ k) x = true then mj_E 208 533 ls (.int (σ k x.toNatClampNeg) :: st) σ τ else none := mj_ald i208_532
theorem i208_533 : mj_ins 208 533 = some (.aload 0, 534) := by decide +kernel
theorem e208_533 {ls : mj_L} {st : List Value} {σ : mj_S} {τ : mj_T} {v : Nat} : mj_E 208 533 (some (.ref v) :: ls) st σ τ = mj_E 208 534 (some (.ref v) :: ls) (.ref v :: st) σ τ := mj_nx i208_533 rfl
theorem i208_534 : mj_ins 208 534 = some (.iload 3, 535) := by decide +kernel
theorem e208_534 {ls : mj_L} {st : List Value} {σ : mj_S} {τ : mj_T} {a0 a1 a2 : Option Value} {v : Int32} : mj_E 208 534 (a0 :: a1 :: a2 :: some (.int v) :: ls) st σ τ = mj_E 208 535 (a0 :: a1 :: a2 :: some (.int v) :: ls) (.int v :: st) σ τ := mj_nx i208_534 rfl
theorem i208_535 : mj_ins 208 535 = some (.iconst (3), 536) := by decide +kernel
theorem e208_535 {ls : mj_L} {st : List Value} {σ : mj_S} {τ : mj_T} : mj_E 208 535 ls st σ τ = mj_E 208 536 ls (.int (nI 3) :: st) σ τ := mj_nx i208_535 rfl
theorem i208_536 : mj_ins 208 536 = some (.iadd, 537) := by decide +kernel
theorem e208_536 {ls : mj_L} {st : List Value} {σ : mj_S} {τ : mj_T} {x y : Int32} : mj_E 208 536 ls (.int y :: .int x :: st) σ τ = mj_E 208 537 ls (.int (x + y) :: st) σ τ := mj_nx i208_536 rfl
theorem i208_537 : mj_ins 208 537 = some (.iaload, 538) := by decide +kernel
theorem e208_537 {ls : mj_L} {st : List Value} {σ : mj_S} {τ : mj_T} {x : Int32} {k : Nat} : mj_E 208 537 ls (.int x :: .ref k :: st) σ τ = if mj_ib (mj_li σ k) x = true then mj_E 208 538 ls (.int (σ k x.toNatClampNeg) :: st) σ τ else none := mj_ald i208_537
theorem i208_538 : mj_ins 208 538 = some (.aload 0, 539) := by decide +kernel
theorem e208_538 {ls : mj_L} {st : List Value} {σ : mj_S} {τ : mj_T} {v : Nat} : mj_E 208 538 (some (.ref v) :: ls) st σ τ = mj_E 208 539 (some (.ref v) :: ls) (.ref v :: st) σ τ := mj_nx i208_538 rfl
theorem i208_539 : mj_ins 208 539 = some (.iload 3, 540) := by decide +kernel
theorem e208_539 {ls : mj_L} {st : List Value} {σ : mj_S} {τ : mj_T} {a0 a1 a2 : Option Value} {v : Int32} : mj_E 208 539 (a0 :: a1 :: a2 :: some (.int v) :: ls) st σ τ = mj_E 208 540 (a0 :: a1 :: a2 :: some (.int v) :: ls) (.int v :: st) σ τ := mj_nx i208_539 rfl
theorem i208_540 : mj_ins 208 540 = some (.iconst (4), 541) := by decide +kernel
theorem e208_540 {ls : mj_L} {st : List Value} {σ : mj_S} {τ : mj_T} : mj_E 208 540 ls st σ τ = mj_E 208 541 ls (.int (nI 4) :: st) σ τ := mj_nx i208_540 rfl
theorem i208_541 : mj_ins 208 541 = some (.iadd, 542) := by decide +kernel
theorem e208_541 {ls : mj_L} {st : List Value} {σ : mj_S} {τ : mj_T} {x y : Int32} : mj_E 208 541 ls (.int y :: .int x :: st) σ τ = mj_E 208 542 ls (.int (x + y) :: st) σ τ := mj_nx i208_541 rfl
theorem i208_542 : mj_ins 208 542 = some (.iaload, 543) := by decide +kernel
theorem e208_542 {ls : mj_L} {st : List Value} {σ : mj_S} {τ : mj_T} {x : Int32} {k : Nat} : mj_E 208 542 ls (.int x :: .ref k :: st) σ τ = if mj_ib (mj_li σ k) x = true then mj_E 208 543 ls (.int (σ k x.toNatClampNeg) :: st) σ τ else none := mj_ald i208_542
theorem i208_543 : mj_ins 208 543 = some (.invokevirtual 134, 546) := by decide +kernel
theorem e208_543 {ls : mj_L} {σ : mj_S} {τ : mj_T} {r : Nat} {x0 : Int32} {x1 : Int32} {x2 : Int32} {x3 : Int32} {w0 : Value} : mj_E 208 543 ls [.int x3, .int x2, .int x1, .int x0, .ref r, w0] σ τ = if mj_rcv r 7 = true then mj_bd (mj_C 134 [.ref r, .int x0, .int x1, .int x2, .int x3] σ τ) (mj_K 208 546 ls [w0]) else none := mj_clV (as := [.int x0, .int x1, .int x2, .int x3]) (r := [w0]) i208_543 (by decide +kernel : mj_vk 208 134 4 1 5 false = true) (by decide +kernel)
theorem i208_546 : mj_ins 208 546 = some (.if_icmp .eq 1448, 549) := by decide +kernel
theorem e208_546 {ls : mj_L} {st : List Value} {σ : mj_S} {τ : mj_T} {x y : Int32} : mj_E 208 546 ls (.int y :: .int x :: st) σ τ = if x = y then mj_E 208 1448 ls st σ τ else mj_E 208 549 ls st σ τ := (mj_ifi i208_546).trans (mj_cdT rfl)
theorem i208_549 : mj_ins 208 549 = some (.iconst (0), 550) := by decide +kernel
theorem e208_549 {ls : mj_L} {st : List Value} {σ : mj_S} {τ : mj_T} : mj_E 208 549 ls st σ τ = mj_E 208 550 ls (.int (nI 0) :: st) σ τ := mj_nx i208_549 rfl
theorem i208_550 : mj_ins 208 550 = some (.ireturn, 551) := by decide +kernel
theorem e208_550 {ls : mj_L} {σ : mj_S} {τ : mj_T} {v : Int32} : mj_E 208 550 ls [.int v] σ τ = if mj_ok (some .boolean) v = true then some (some (.int v), σ, τ) else none := mj_zrt i208_550 rfl
theorem i208_551 : mj_ins 208 551 = some (.aload 1, 552) := by decide +kernel
theorem e208_551 {ls : mj_L} {st : List Value} {σ : mj_S} {τ : mj_T} {a0 : Option Value} {v : Nat} : mj_E 208 551 (a0 :: some (.ref v) :: ls) st σ τ = mj_E 208 552 (a0 :: some (.ref v) :: ls) (.ref v :: st) σ τ := mj_nx i208_551 rfl
theorem i208_552 : mj_ins 208 552 = some (.aload 0, 553) := by decide +kernel
theorem e208_552 {ls : mj_L} {st : List Value} {σ : mj_S} {τ : mj_T} {v : Nat} : mj_E 208 552 (some (.ref v) :: ls) st σ τ = mj_E 208 553 (some (.ref v) :: ls) (.ref v :: st) σ τ := mj_nx i208_552 rfl
theorem i208_553 : mj_ins 208 553 = some (.iload 3, 554) := by decide +kernel
theorem e208_553 {ls : mj_L} {st : List Value} {σ : mj_S} {τ : mj_T} {a0 a1 a2 : Option Value} {v : Int32} : mj_E 208 553 (a0 :: a1 :: a2 :: some (.int v) :: ls) st σ τ = mj_E 208 554 (a0 :: a1 :: a2 :: some (.int v) :: ls) (.int v :: st) σ τ := mj_nx i208_553 rfl
theorem i208_554 : mj_ins 208 554 = some (.iconst (1), 555) := by decide +kernel
theorem e208_554 {ls : mj_L} {st : List Value} {σ : mj_S} {τ : mj_T} : mj_E 208 554 ls st σ τ = mj_E 208 555 ls (.int (nI 1) :: st) σ τ := mj_nx i208_554 rfl
theorem i208_555 : mj_ins 208 555 = some (.iadd, 556) := by decide +kernel
theorem e208_555 {ls : mj_L} {st : List Value} {σ : mj_S} {τ : mj_T} {x y : Int32} : mj_E 208 555 ls (.int y :: .int x :: st) σ τ = mj_E 208 556 ls (.int (x + y) :: st) σ τ := mj_nx i208_555 rfl
theorem i208_556 : mj_ins 208 556 = some (.iaload, 557) := by decide +kernel
theorem e208_556 {ls : mj_L} {st : List Value} {σ : mj_S} {τ : mj_T} {x : Int32} {k : Nat} : mj_E 208 556 ls (.int x :: .ref k :: st) σ τ = if mj_ib (mj_li σ k) x = true then mj_E 208 557 ls (.int (σ k x.toNatClampNeg) :: st) σ τ else none := mj_ald i208_556
theorem i208_557 : mj_ins 208 557 = some (.aload 0, 558) := by decide +kernel
theorem e208_557 {ls : mj_L} {st : List Value} {σ : mj_S} {τ : mj_T} {v : Nat} : mj_E 208 557 (some (.ref v) :: ls) st σ τ = mj_E 208 558 (some (.ref v) :: ls) (.ref v :: st) σ τ := mj_nx i208_557 rfl
theorem i208_558 : mj_ins 208 558 = some (.iload 3, 559) := by decide +kernel
theorem e208_558 {ls : mj_L} {st : List Value} {σ : mj_S} {τ : mj_T} {a0 a1 a2 : Option Value} {v : Int32} : mj_E 208 558 (a0 :: a1 :: a2 :: some (.int v) :: ls) st σ τ = mj_E 208 559 (a0 :: a1 :: a2 :: some (.int v) :: ls) (.int v :: st) σ τ := mj_nx i208_558 rfl
theorem i208_559 : mj_ins 208 559 = some (.iconst (2), 560) := by decide +kernel
theorem e208_559 {ls : mj_L} {st : List Value} {σ : mj_S} {τ : mj_T} : mj_E 208 559 ls st σ τ = mj_E 208 560 ls (.int (nI 2) :: st) σ τ := mj_nx i208_559 rfl
theorem i208_560 : mj_ins 208 560 = some (.iadd, 561) := by decide +kernel
theorem e208_560 {ls : mj_L} {st : List Value} {σ : mj_S} {τ : mj_T} {x y : Int32} : mj_E 208 560 ls (.int y :: .int x :: st) σ τ = mj_E 208 561 ls (.int (x + y) :: st) σ τ := mj_nx i208_560 rfl
theorem i208_561 : mj_ins 208 561 = some (.iaload, 562) := by decide +kernel
theorem e208_561 {ls : mj_L} {st : List Value} {σ : mj_S} {τ : mj_T} {x : Int32} {k : Nat} : mj_E 208 561 ls (.int x :: .ref k :: st) σ τ = if mj_ib (mj_li σ k) x = true then mj_E 208 562 ls (.int (σ k x.toNatClampNeg) :: st) σ τ else none := mj_ald i208_561
theorem i208_562 : mj_ins 208 562 = some (.aload 0, 563) := by decide +kernel
theorem e208_562 {ls : mj_L} {st : List Value} {σ : mj_S} {τ : mj_T} {v : Nat} : mj_E 208 562 (some (.ref v) :: ls) st σ τ = mj_E 208 563 (some (.ref v) :: ls) (.ref v :: st) σ τ := mj_nx i208_562 rfl
theorem i208_563 : mj_ins 208 563 = some (.iload 3, 564) := by decide +kernel
theorem e208_563 {ls : mj_L} {st : List Value} {σ : mj_S} {τ : mj_T} {a0 a1 a2 : Option Value} {v : Int32} : mj_E 208 563 (a0 :: a1 :: a2 :: some (.int v) :: ls) st σ τ = mj_E 208 564 (a0 :: a1 :: a2 :: some (.int v) :: ls) (.int v :: st) σ τ := mj_nx i208_563 rfl
theorem i208_564 : mj_ins 208 564 = some (.iconst (3), 565) := by decide +kernel
theorem e208_564 {ls : mj_L} {st : List Value} {σ : mj_S} {τ : mj_T} : mj_E 208 564 ls st σ τ = mj_E 208 565 ls (.int (nI 3) :: st) σ τ := mj_nx i208_564 rfl
theorem i208_565 : mj_ins 208 565 = some (.iadd, 566) := by decide +kernel
theorem e208_565 {ls : mj_L} {st : List Value} {σ : mj_S} {τ : mj_T} {x y : Int32} : mj_E 208 565 ls (.int y :: .int x :: st) σ τ = mj_E 208 566 ls (.int (x + y) :: st) σ τ := mj_nx i208_565 rfl
theorem i208_566 : mj_ins 208 566 = some (.iaload, 567) := by decide +kernel
theorem e208_566 {ls : mj_L} {st : List Value} {σ : mj_S} {τ : mj_T} {x : Int32} {k : Nat} : mj_E 208 566 ls (.int x :: .ref k :: st) σ τ = if mj_ib (mj_li σ k) x = true then mj_E 208 567 ls (.int (σ k x.toNatClampNeg) :: st) σ τ else none := mj_ald i208_566
theorem i208_567 : mj_ins 208 567 = some (.aload 0, 568) := by decide +kernel
theorem e208_567 {ls : mj_L} {st : List Value} {σ : mj_S} {τ : mj_T} {v : Nat} : mj_E 208 567 (some (.ref v) :: ls) st σ τ = mj_E 208 568 (some (.ref v) :: ls) (.ref v :: st) σ τ := mj_nx i208_567 rfl
theorem i208_568 : mj_ins 208 568 = some (.iload 3, 569) := by decide +kernel
theorem e208_568 {ls : mj_L} {st : List Value} {σ : mj_S} {τ : mj_T} {a0 a1 a2 : Option Value} {v : Int32} : mj_E 208 568 (a0 :: a1 :: a2 :: some (.int v) :: ls) st σ τ = mj_E 208 569 (a0 :: a1 :: a2 :: some (.int v) :: ls) (.int v :: st) σ τ := mj_nx i208_568 rfl
theorem i208_569 : mj_ins 208 569 = some (.iconst (4), 570) := by decide +kernel
theorem e208_569 {ls : mj_L} {st : List Value} {σ : mj_S} {τ : mj_T} : mj_E 208 569 ls st σ τ = mj_E 208 570 ls (.int (nI 4) :: st) σ τ := mj_nx i208_569 rfl
theorem i208_570 : mj_ins 208 570 = some (.iadd, 571) := by decide +kernel
theorem e208_570 {ls : mj_L} {st : List Value} {σ : mj_S} {τ : mj_T} {x y : Int32} : mj_E 208 570 ls (.int y :: .int x :: st) σ τ = mj_E 208 571 ls (.int (x + y) :: st) σ τ := mj_nx i208_570 rfl
theorem i208_571 : mj_ins 208 571 = some (.iaload, 572) := by decide +kernel
theorem e208_571 {ls : mj_L} {st : List Value} {σ : mj_S} {τ : mj_T} {x : Int32} {k : Nat} : mj_E 208 571 ls (.int x :: .ref k :: st) σ τ = if mj_ib (mj_li σ k) x = true then mj_E 208 572 ls (.int (σ k x.toNatClampNeg) :: st) σ τ else none := mj_ald i208_571
theorem i208_572 : mj_ins 208 572 = some (.aload 0, 573) := by decide +kernel
theorem e208_572 {ls : mj_L} {st : List Value} {σ : mj_S} {τ : mj_T} {v : Nat} : mj_E 208 572 (some (.ref v) :: ls) st σ τ = mj_E 208 573 (some (.ref v) :: ls) (.ref v :: st) σ τ := mj_nx i208_572 rfl
theorem i208_573 : mj_ins 208 573 = some (.iload 3, 574) := by decide +kernel
theorem e208_573 {ls : mj_L} {st : List Value} {σ : mj_S} {τ : mj_T} {a0 a1 a2 : Option Value} {v : Int32} : mj_E 208 573 (a0 :: a1 :: a2 :: some (.int v) :: ls) st σ τ = mj_E 208 574 (a0 :: a1 :: a2 :: some (.int v) :: ls) (.int v :: st) σ τ := mj_nx i208_573 rfl
theorem i208_574 : mj_ins 208 574 = some (.iconst (5), 575) := by decide +kernel
theorem e208_574 {ls : mj_L} {st : List Value} {σ : mj_S} {τ : mj_T} : mj_E 208 574 ls st σ τ = mj_E 208 575 ls (.int (nI 5) :: st) σ τ := mj_nx i208_574 rfl
theorem i208_575 : mj_ins 208 575 = some (.iadd, 576) := by decide +kernel
theorem e208_575 {ls : mj_L} {st : List Value} {σ : mj_S} {τ : mj_T} {x y : Int32} : mj_E 208 575 ls (.int y :: .int x :: st) σ τ = mj_E 208 576 ls (.int (x + y) :: st) σ τ := mj_nx i208_575 rfl
theorem i208_576 : mj_ins 208 576 = some (.iaload, 577) := by decide +kernel
theorem e208_576 {ls : mj_L} {st : List Value} {σ : mj_S} {τ : mj_T} {x : Int32} {k : Nat} : mj_E 208 576 ls (.int x :: .ref k :: st) σ τ = if mj_ib (mj_li σ k) x = true then mj_E 208 577 ls (.int (σ k x.toNatClampNeg) :: st) σ τ else none := mj_ald i208_576
theorem i208_577 : mj_ins 208 577 = some (.invokevirtual 81, 580) := by decide +kernel
theorem e208_577 {ls : mj_L} {σ : mj_S} {τ : mj_T} {r : Nat} {x0 : Int32} {x1 : Int32} {x2 : Int32} {x3 : Int32} {x4 : Int32} : mj_E 208 577 ls [.int x4, .int x3, .int x2, .int x1, .int x0, .ref r] σ τ = if mj_rcv r 6 = true then mj_bd (mj_C 81 [.ref r, .int x0, .int x1, .int x2, .int x3, .int x4] σ τ) (mj_K 208 580 ls []) else none := mj_clV (as := [.int x0, .int x1, .int x2, .int x3, .int x4]) (r := []) i208_577 (by decide +kernel : mj_vk 208 81 5 0 6 false = true) (by decide +kernel)
theorem i208_580 : mj_ins 208 580 = some (.aload 2, 581) := by decide +kernel
theorem e208_580 {ls : mj_L} {st : List Value} {σ : mj_S} {τ : mj_T} {a0 a1 : Option Value} {v : Nat} : mj_E 208 580 (a0 :: a1 :: some (.ref v) :: ls) st σ τ = mj_E 208 581 (a0 :: a1 :: some (.ref v) :: ls) (.ref v :: st) σ τ := mj_nx i208_580 rfl
theorem i208_581 : mj_ins 208 581 = some (.aload 0, 582) := by decide +kernel
theorem e208_581 {ls : mj_L} {st : List Value} {σ : mj_S} {τ : mj_T} {v : Nat} : mj_E 208 581 (some (.ref v) :: ls) st σ τ = mj_E 208 582 (some (.ref v) :: ls) (.ref v :: st) σ τ := mj_nx i208_581 rfl
theorem i208_582 : mj_ins 208 582 = some (.iload 3, 583) := by decide +kernel
theorem e208_582 {ls : mj_L} {st : List Value} {σ : mj_S} {τ : mj_T} {a0 a1 a2 : Option Value} {v : Int32} : mj_E 208 582 (a0 :: a1 :: a2 :: some (.int v) :: ls) st σ τ = mj_E 208 583 (a0 :: a1 :: a2 :: some (.int v) :: ls) (.int v :: st) σ τ := mj_nx i208_582 rfl
theorem i208_583 : mj_ins 208 583 = some (.iconst (1), 584) := by decide +kernel
theorem e208_583 {ls : mj_L} {st : List Value} {σ : mj_S} {τ : mj_T} : mj_E 208 583 ls st σ τ = mj_E 208 584 ls (.int (nI 1) :: st) σ τ := mj_nx i208_583 rfl
theorem i208_584 : mj_ins 208 584 = some (.iadd, 585) := by decide +kernel
theorem e208_584 {ls : mj_L} {st : List Value} {σ : mj_S} {τ : mj_T} {x y : Int32} : mj_E 208 584 ls (.int y :: .int x :: st) σ τ = mj_E 208 585 ls (.int (x + y) :: st) σ τ := mj_nx i208_584 rfl
theorem i208_585 : mj_ins 208 585 = some (.iaload, 586) := by decide +kernel
theorem e208_585 {ls : mj_L} {st : List Value} {σ : mj_S} {τ : mj_T} {x : Int32} {k : Nat} : mj_E 208 585 ls (.int x :: .ref k :: st) σ τ = if mj_ib (mj_li σ k) x = true then mj_E 208 586 ls (.int (σ k x.toNatClampNeg) :: st) σ τ else none := mj_ald i208_585
theorem i208_586 : mj_ins 208 586 = some (.aload 0, 587) := by decide +kernel
theorem e208_586 {ls : mj_L} {st : List Value} {σ : mj_S} {τ : mj_T} {v : Nat} : mj_E 208 586 (some (.ref v) :: ls) st σ τ = mj_E 208 587 (some (.ref v) :: ls) (.ref v :: st) σ τ := mj_nx i208_586 rfl
theorem i208_587 : mj_ins 208 587 = some (.iload 3, 588) := by decide +kernel
theorem e208_587 {ls : mj_L} {st : List Value} {σ : mj_S} {τ : mj_T} {a0 a1 a2 : Option Value} {v : Int32} : mj_E 208 587 (a0 :: a1 :: a2 :: some (.int v) :: ls) st σ τ = mj_E 208 588 (a0 :: a1 :: a2 :: some (.int v) :: ls) (.int v :: st) σ τ := mj_nx i208_587 rfl
theorem i208_588 : mj_ins 208 588 = some (.iconst (2), 589) := by decide +kernel
theorem e208_588 {ls : mj_L} {st : List Value} {σ : mj_S} {τ : mj_T} : mj_E 208 588 ls st σ τ = mj_E 208 589 ls (.int (nI 2) :: st) σ τ := mj_nx i208_588 rfl
theorem i208_589 : mj_ins 208 589 = some (.iadd, 590) := by decide +kernel
theorem e208_589 {ls : mj_L} {st : List Value} {σ : mj_S} {τ : mj_T} {x y : Int32} : mj_E 208 589 ls (.int y :: .int x :: st) σ τ = mj_E 208 590 ls (.int (x + y) :: st) σ τ := mj_nx i208_589 rfl
theorem i208_590 : mj_ins 208 590 = some (.iaload, 591) := by decide +kernel
theorem e208_590 {ls : mj_L} {st : List Value} {σ : mj_S} {τ : mj_T} {x : Int32} {k : Nat} : mj_E 208 590 ls (.int x :: .ref k :: st) σ τ = if mj_ib (mj_li σ k) x = true then mj_E 208 591 ls (.int (σ k x.toNatClampNeg) :: st) σ τ else none := mj_ald i208_590
theorem i208_591 : mj_ins 208 591 = some (.aload 0, 592) := by decide +kernel
theorem e208_591 {ls : mj_L} {st : List Value} {σ : mj_S} {τ : mj_T} {v : Nat} : mj_E 208 591 (some (.ref v) :: ls) st σ τ = mj_E 208 592 (some (.ref v) :: ls) (.ref v :: st) σ τ := mj_nx i208_591 rfl
theorem i208_592 : mj_ins 208 592 = some (.iload 3, 593) := by decide +kernel
theorem e208_592 {ls : mj_L} {st : List Value} {σ : mj_S} {τ : mj_T} {a0 a1 a2 : Option Value} {v : Int32} : mj_E 208 592 (a0 :: a1 :: a2 :: some (.int v) :: ls) st σ τ = mj_E 208 593 (a0 :: a1 :: a2 :: some (.int v) :: ls) (.int v :: st) σ τ := mj_nx i208_592 rfl
theorem i208_593 : mj_ins 208 593 = some (.iconst (3), 594) := by decide +kernel
theorem e208_593 {ls : mj_L} {st : List Value} {σ : mj_S} {τ : mj_T} : mj_E 208 593 ls st σ τ = mj_E 208 594 ls (.int (nI 3) :: st) σ τ := mj_nx i208_593 rfl
theorem i208_594 : mj_ins 208 594 = some (.iadd, 595) := by decide +kernel
theorem e208_594 {ls : mj_L} {st : List Value} {σ : mj_S} {τ : mj_T} {x y : Int32} : mj_E 208 594 ls (.int y :: .int x :: st) σ τ = mj_E 208 595 ls (.int (x + y) :: st) σ τ := mj_nx i208_594 rfl
theorem i208_595 : mj_ins 208 595 = some (.iaload, 596) := by decide +kernel
theorem e208_595 {ls : mj_L} {st : List Value} {σ : mj_S} {τ : mj_T} {x : Int32} {k : Nat} : mj_E 208 595 ls (.int x :: .ref k :: st) σ τ = if mj_ib (mj_li σ k) x = true then mj_E 208 596 ls (.int (σ k x.toNatClampNeg) :: st) σ τ else none := mj_ald i208_595
theorem i208_596 : mj_ins 208 596 = some (.aload 0, 597) := by decide +kernel
theorem e208_596 {ls : mj_L} {st : List Value} {σ : mj_S} {τ : mj_T} {v : Nat} : mj_E 208 596 (some (.ref v) :: ls) st σ τ = mj_E 208 597 (some (.ref v) :: ls) (.ref v :: st) σ τ := mj_nx i208_596 rfl
theorem i208_597 : mj_ins 208 597 = some (.iload 3, 598) := by decide +kernel
theorem e208_597 {ls : mj_L} {st : List Value} {σ : mj_S} {τ : mj_T} {a0 a1 a2 : Option Value} {v : Int32} : mj_E 208 597 (a0 :: a1 :: a2 :: some (.int v) :: ls) st σ τ = mj_E 208 598 (a0 :: a1 :: a2 :: some (.int v) :: ls) (.int v :: st) σ τ := mj_nx i208_597 rfl
theorem i208_598 : mj_ins 208 598 = some (.iconst (4), 599) := by decide +kernel
theorem e208_598 {ls : mj_L} {st : List Value} {σ : mj_S} {τ : mj_T} : mj_E 208 598 ls st σ τ = mj_E 208 599 ls (.int (nI 4) :: st) σ τ := mj_nx i208_598 rfl
theorem i208_599 : mj_ins 208 599 = some (.iadd, 600) := by decide +kernel
theorem e208_599 {ls : mj_L} {st : List Value} {σ : mj_S} {τ : mj_T} {x y : Int32} : mj_E 208 599 ls (.int y :: .int x :: st) σ τ = mj_E 208 600 ls (.int (x + y) :: st) σ τ := mj_nx i208_599 rfl
theorem i208_600 : mj_ins 208 600 = some (.iaload, 601) := by decide +kernel
theorem e208_600 {ls : mj_L} {st : List Value} {σ : mj_S} {τ : mj_T} {x : Int32} {k : Nat} : mj_E 208 600 ls (.int x :: .ref k :: st) σ τ = if mj_ib (mj_li σ k) x = true then mj_E 208 601 ls (.int (σ k x.toNatClampNeg) :: st) σ τ else none := mj_ald i208_600
theorem i208_601 : mj_ins 208 601 = some (.aload 0, 602) := by decide +kernel
theorem e208_601 {ls : mj_L} {st : List Value} {σ : mj_S} {τ : mj_T} {v : Nat} : mj_E 208 601 (some (.ref v) :: ls) st σ τ = mj_E 208 602 (some (.ref v) :: ls) (.ref v :: st) σ τ := mj_nx i208_601 rfl
theorem i208_602 : mj_ins 208 602 = some (.iload 3, 603) := by decide +kernel
theorem e208_602 {ls : mj_L} {st : List Value} {σ : mj_S} {τ : mj_T} {a0 a1 a2 : Option Value} {v : Int32} : mj_E 208 602 (a0 :: a1 :: a2 :: some (.int v) :: ls) st σ τ = mj_E 208 603 (a0 :: a1 :: a2 :: some (.int v) :: ls) (.int v :: st) σ τ := mj_nx i208_602 rfl
theorem i208_603 : mj_ins 208 603 = some (.iconst (5), 604) := by decide +kernel
theorem e208_603 {ls : mj_L} {st : List Value} {σ : mj_S} {τ : mj_T} : mj_E 208 603 ls st σ τ = mj_E 208 604 ls (.int (nI 5) :: st) σ τ := mj_nx i208_603 rfl
theorem i208_604 : mj_ins 208 604 = some (.iadd, 605) := by decide +kernel
theorem e208_604 {ls : mj_L} {st : List Value} {σ : mj_S} {τ : mj_T} {x y : Int32} : mj_E 208 604 ls (.int y :: .int x :: st) σ τ = mj_E 208 605 ls (.int (x + y) :: st) σ τ := mj_nx i208_604 rfl
theorem i208_605 : mj_ins 208 605 = some (.iaload, 606) := by decide +kernel
theorem e208_605 {ls : mj_L} {st : List Value} {σ : mj_S} {τ : mj_T} {x : Int32} {k : Nat} : mj_E 208 605 ls (.int x :: .ref k :: st) σ τ = if mj_ib (mj_li σ k) x = true then mj_E 208 606 ls (.int (σ k x.toNatClampNeg) :: st) σ τ else none := mj_ald i208_605
theorem i208_606 : mj_ins 208 606 = some (.invokevirtual 135, 609) := by decide +kernel
theorem e208_606 {ls : mj_L} {σ : mj_S} {τ : mj_T} {r : Nat} {x0 : Int32} {x1 : Int32} {x2 : Int32} {x3 : Int32} {x4 : Int32} {w0 : Value} : mj_E 208 606 ls [.int x4, .int x3, .int x2, .int x1, .int x0, .ref r, w0] σ τ = if mj_rcv r 7 = true then mj_bd (mj_C 135 [.ref r, .int x0, .int x1, .int x2, .int x3, .int x4] σ τ) (mj_K 208 609 ls [w0]) else none := mj_clV (as := [.int x0, .int x1, .int x2, .int x3, .int x4]) (r := [w0]) i208_606 (by decide +kernel : mj_vk 208 135 5 1 6 false = true) (by decide +kernel)
theorem i208_609 : mj_ins 208 609 = some (.if_icmp .eq 1448, 612) := by decide +kernel
theorem e208_609 {ls : mj_L} {st : List Value} {σ : mj_S} {τ : mj_T} {x y : Int32} : mj_E 208 609 ls (.int y :: .int x :: st) σ τ = if x = y then mj_E 208 1448 ls st σ τ else mj_E 208 612 ls st σ τ := (mj_ifi i208_609).trans (mj_cdT rfl)
theorem i208_612 : mj_ins 208 612 = some (.iconst (0), 613) := by decide +kernel
theorem e208_612 {ls : mj_L} {st : List Value} {σ : mj_S} {τ : mj_T} : mj_E 208 612 ls st σ τ = mj_E 208 613 ls (.int (nI 0) :: st) σ τ := mj_nx i208_612 rfl
theorem i208_613 : mj_ins 208 613 = some (.ireturn, 614) := by decide +kernel
theorem e208_613 {ls : mj_L} {σ : mj_S} {τ : mj_T} {v : Int32} : mj_E 208 613 ls [.int v] σ τ = if mj_ok (some .boolean) v = true then some (some (.int v), σ, τ) else none := mj_zrt i208_613 rfl
theorem i208_614 : mj_ins 208 614 = some (.aload 1, 615) := by decide +kernel
theorem e208_614 {ls : mj_L} {st : List Value} {σ : mj_S} {τ : mj_T} {a0 : Option Value} {v : Nat} : mj_E 208 614 (a0 :: some (.ref v) :: ls) st σ τ = mj_E 208 615 (a0 :: some (.ref v) :: ls) (.ref v :: st) σ τ := mj_nx i208_614 rfl
theorem i208_615 : mj_ins 208 615 = some (.aload 0, 616) := by decide +kernel
theorem e208_615 {ls : mj_L} {st : List Value} {σ : mj_S} {τ : mj_T} {v : Nat} : mj_E 208 615 (some (.ref v) :: ls) st σ τ = mj_E 208 616 (some (.ref v) :: ls) (.ref v :: st) σ τ := mj_nx i208_615 rfl
theorem i208_616 : mj_ins 208 616 = some (.iload 3, 617) := by decide +kernel
theorem e208_616 {ls : mj_L} {st : List Value} {σ : mj_S} {τ : mj_T} {a0 a1 a2 : Option Value} {v : Int32} : mj_E 208 616 (a0 :: a1 :: a2 :: some (.int v) :: ls) st σ τ = mj_E 208 617 (a0 :: a1 :: a2 :: some (.int v) :: ls) (.int v :: st) σ τ := mj_nx i208_616 rfl
theorem i208_617 : mj_ins 208 617 = some (.iconst (1), 618) := by decide +kernel
theorem e208_617 {ls : mj_L} {st : List Value} {σ : mj_S} {τ : mj_T} : mj_E 208 617 ls st σ τ = mj_E 208 618 ls (.int (nI 1) :: st) σ τ := mj_nx i208_617 rfl
theorem i208_618 : mj_ins 208 618 = some (.iadd, 619) := by decide +kernel
theorem e208_618 {ls : mj_L} {st : List Value} {σ : mj_S} {τ : mj_T} {x y : Int32} : mj_E 208 618 ls (.int y :: .int x :: st) σ τ = mj_E 208 619 ls (.int (x + y) :: st) σ τ := mj_nx i208_618 rfl
theorem i208_619 : mj_ins 208 619 = some (.iaload, 620) := by decide +kernel
theorem e208_619 {ls : mj_L} {st : List Value} {σ : mj_S} {τ : mj_T} {x : Int32} {k : Nat} : mj_E 208 619 ls (.int x :: .ref k :: st) σ τ = if mj_ib (mj_li σ k) x = true then mj_E 208 620 ls (.int (σ k x.toNatClampNeg) :: st) σ τ else none := mj_ald i208_619
theorem i208_620 : mj_ins 208 620 = some (.invokevirtual 82, 623) := by decide +kernel
theorem e208_620 {ls : mj_L} {σ : mj_S} {τ : mj_T} {r : Nat} {x0 : Int32} : mj_E 208 620 ls [.int x0, .ref r] σ τ = if mj_rcv r 6 = true then mj_bd (mj_C 82 [.ref r, .int x0] σ τ) (mj_K 208 623 ls []) else none := mj_clV (as := [.int x0]) (r := []) i208_620 (by decide +kernel : mj_vk 208 82 1 0 2 false = true) (by decide +kernel)
theorem i208_623 : mj_ins 208 623 = some (.aload 2, 624) := by decide +kernel
theorem e208_623 {ls : mj_L} {st : List Value} {σ : mj_S} {τ : mj_T} {a0 a1 : Option Value} {v : Nat} : mj_E 208 623 (a0 :: a1 :: some (.ref v) :: ls) st σ τ = mj_E 208 624 (a0 :: a1 :: some (.ref v) :: ls) (.ref v :: st) σ τ := mj_nx i208_623 rfl
theorem i208_624 : mj_ins 208 624 = some (.aload 0, 625) := by decide +kernel
theorem e208_624 {ls : mj_L} {st : List Value} {σ : mj_S} {τ : mj_T} {v : Nat} : mj_E 208 624 (some (.ref v) :: ls) st σ τ = mj_E 208 625 (some (.ref v) :: ls) (.ref v :: st) σ τ := mj_nx i208_624 rfl
theorem i208_625 : mj_ins 208 625 = some (.iload 3, 626) := by decide +kernel
theorem e208_625 {ls : mj_L} {st : List Value} {σ : mj_S} {τ : mj_T} {a0 a1 a2 : Option Value} {v : Int32} : mj_E 208 625 (a0 :: a1 :: a2 :: some (.int v) :: ls) st σ τ = mj_E 208 626 (a0 :: a1 :: a2 :: some (.int v) :: ls) (.int v :: st) σ τ := mj_nx i208_625 rfl
theorem i208_626 : mj_ins 208 626 = some (.iconst (1), 627) := by decide +kernel
theorem e208_626 {ls : mj_L} {st : List Value} {σ : mj_S} {τ : mj_T} : mj_E 208 626 ls st σ τ = mj_E 208 627 ls (.int (nI 1) :: st) σ τ := mj_nx i208_626 rfl
theorem i208_627 : mj_ins 208 627 = some (.iadd, 628) := by decide +kernel
theorem e208_627 {ls : mj_L} {st : List Value} {σ : mj_S} {τ : mj_T} {x y : Int32} : mj_E 208 627 ls (.int y :: .int x :: st) σ τ = mj_E 208 628 ls (.int (x + y) :: st) σ τ := mj_nx i208_627 rfl
theorem i208_628 : mj_ins 208 628 = some (.iaload, 629) := by decide +kernel
theorem e208_628 {ls : mj_L} {st : List Value} {σ : mj_S} {τ : mj_T} {x : Int32} {k : Nat} : mj_E 208 628 ls (.int x :: .ref k :: st) σ τ = if mj_ib (mj_li σ k) x = true then mj_E 208 629 ls (.int (σ k x.toNatClampNeg) :: st) σ τ else none := mj_ald i208_628
theorem i208_629 : mj_ins 208 629 = some (.invokevirtual 136, 632) := by decide +kernel
theorem e208_629 {ls : mj_L} {σ : mj_S} {τ : mj_T} {r : Nat} {x0 : Int32} {w0 : Value} : mj_E 208 629 ls [.int x0, .ref r, w0] σ τ = if mj_rcv r 7 = true then mj_bd (mj_C 136 [.ref r, .int x0] σ τ) (mj_K 208 632 ls [w0]) else none := mj_clV (as := [.int x0]) (r := [w0]) i208_629 (by decide +kernel : mj_vk 208 136 1 1 2 false = true) (by decide +kernel)
theorem i208_632 : mj_ins 208 632 = some (.if_icmp .eq 1448, 635) := by decide +kernel
theorem e208_632 {ls : mj_L} {st : List Value} {σ : mj_S} {τ : mj_T} {x y : Int32} : mj_E 208 632 ls (.int y :: .int x :: st) σ τ = if x = y then mj_E 208 1448 ls st σ τ else mj_E 208 635 ls st σ τ := (mj_ifi i208_632).trans (mj_cdT rfl)
theorem i208_635 : mj_ins 208 635 = some (.iconst (0), 636) := by decide +kernel
theorem e208_635 {ls : mj_L} {st : List Value} {σ : mj_S} {τ : mj_T} : mj_E 208 635 ls st σ τ = mj_E 208 636 ls (.int (nI 0) :: st) σ τ := mj_nx i208_635 rfl
theorem i208_636 : mj_ins 208 636 = some (.ireturn, 637) := by decide +kernel
theorem e208_636 {ls : mj_L} {σ : mj_S} {τ : mj_T} {v : Int32} : mj_E 208 636 ls [.int v] σ τ = if mj_ok (some .boolean) v = true then some (some (.int v), σ, τ) else none := mj_zrt i208_636 rfl
theorem i208_637 : mj_ins 208 637 = some (.aload 1, 638) := by decide +kernel
theorem e208_637 {ls : mj_L} {st : List Value} {σ : mj_S} {τ : mj_T} {a0 : Option Value} {v : Nat} : mj_E 208 637 (a0 :: some (.ref v) :: ls) st σ τ = mj_E 208 638 (a0 :: some (.ref v) :: ls) (.ref v :: st) σ τ := mj_nx i208_637 rfl
theorem i208_638 : mj_ins 208 638 = some (.aload 0, 639) := by decide +kernel
theorem e208_638 {ls : mj_L} {st : List Value} {σ : mj_S} {τ : mj_T} {v : Nat} : mj_E 208 638 (some (.ref v) :: ls) st σ τ = mj_E 208 639 (some (.ref v) :: ls) (.ref v :: st) σ τ := mj_nx i208_638 rfl
theorem i208_639 : mj_ins 208 639 = some (.iload 3, 640) := by decide +kernel
theorem e208_639 {ls : mj_L} {st : List Value} {σ : mj_S} {τ : mj_T} {a0 a1 a2 : Option Value} {v : Int32} : mj_E 208 639 (a0 :: a1 :: a2 :: some (.int v) :: ls) st σ τ = mj_E 208 640 (a0 :: a1 :: a2 :: some (.int v) :: ls) (.int v :: st) σ τ := mj_nx i208_639 rfl
theorem i208_640 : mj_ins 208 640 = some (.iconst (1), 641) := by decide +kernel
theorem e208_640 {ls : mj_L} {st : List Value} {σ : mj_S} {τ : mj_T} : mj_E 208 640 ls st σ τ = mj_E 208 641 ls (.int (nI 1) :: st) σ τ := mj_nx i208_640 rfl
theorem i208_641 : mj_ins 208 641 = some (.iadd, 642) := by decide +kernel
theorem e208_641 {ls : mj_L} {st : List Value} {σ : mj_S} {τ : mj_T} {x y : Int32} : mj_E 208 641 ls (.int y :: .int x :: st) σ τ = mj_E 208 642 ls (.int (x + y) :: st) σ τ := mj_nx i208_641 rfl
theorem i208_642 : mj_ins 208 642 = some (.iaload, 643) := by decide +kernel
theorem e208_642 {ls : mj_L} {st : List Value} {σ : mj_S} {τ : mj_T} {x : Int32} {k : Nat} : mj_E 208 642 ls (.int x :: .ref k :: st) σ τ = if mj_ib (mj_li σ k) x = true then mj_E 208 643 ls (.int (σ k x.toNatClampNeg) :: st) σ τ else none := mj_ald i208_642
theorem i208_643 : mj_ins 208 643 = some (.aload 0, 644) := by decide +kernel
theorem e208_643 {ls : mj_L} {st : List Value} {σ : mj_S} {τ : mj_T} {v : Nat} : mj_E 208 643 (some (.ref v) :: ls) st σ τ = mj_E 208 644 (some (.ref v) :: ls) (.ref v :: st) σ τ := mj_nx i208_643 rfl
theorem i208_644 : mj_ins 208 644 = some (.iload 3, 645) := by decide +kernel
theorem e208_644 {ls : mj_L} {st : List Value} {σ : mj_S} {τ : mj_T} {a0 a1 a2 : Option Value} {v : Int32} : mj_E 208 644 (a0 :: a1 :: a2 :: some (.int v) :: ls) st σ τ = mj_E 208 645 (a0 :: a1 :: a2 :: some (.int v) :: ls) (.int v :: st) σ τ := mj_nx i208_644 rfl
theorem i208_645 : mj_ins 208 645 = some (.iconst (2), 646) := by decide +kernel
theorem e208_645 {ls : mj_L} {st : List Value} {σ : mj_S} {τ : mj_T} : mj_E 208 645 ls st σ τ = mj_E 208 646 ls (.int (nI 2) :: st) σ τ := mj_nx i208_645 rfl
theorem i208_646 : mj_ins 208 646 = some (.iadd, 647) := by decide +kernel
theorem e208_646 {ls : mj_L} {st : List Value} {σ : mj_S} {τ : mj_T} {x y : Int32} : mj_E 208 646 ls (.int y :: .int x :: st) σ τ = mj_E 208 647 ls (.int (x + y) :: st) σ τ := mj_nx i208_646 rfl
theorem i208_647 : mj_ins 208 647 = some (.iaload, 648) := by decide +kernel
theorem e208_647 {ls : mj_L} {st : List Value} {σ : mj_S} {τ : mj_T} {x : Int32} {k : Nat} : mj_E 208 647 ls (.int x :: .ref k :: st) σ τ = if mj_ib (mj_li σ k) x = true then mj_E 208 648 ls (.int (σ k x.toNatClampNeg) :: st) σ τ else none := mj_ald i208_647
theorem i208_648 : mj_ins 208 648 = some (.invokevirtual 83, 651) := by decide +kernel
theorem e208_648 {ls : mj_L} {σ : mj_S} {τ : mj_T} {r : Nat} {x0 : Int32} {x1 : Int32} : mj_E 208 648 ls [.int x1, .int x0, .ref r] σ τ = if mj_rcv r 6 = true then mj_bd (mj_C 83 [.ref r, .int x0, .int x1] σ τ) (mj_K 208 651 ls []) else none := mj_clV (as := [.int x0, .int x1]) (r := []) i208_648 (by decide +kernel : mj_vk 208 83 2 0 3 false = true) (by decide +kernel)
theorem i208_651 : mj_ins 208 651 = some (.aload 2, 652) := by decide +kernel
theorem e208_651 {ls : mj_L} {st : List Value} {σ : mj_S} {τ : mj_T} {a0 a1 : Option Value} {v : Nat} : mj_E 208 651 (a0 :: a1 :: some (.ref v) :: ls) st σ τ = mj_E 208 652 (a0 :: a1 :: some (.ref v) :: ls) (.ref v :: st) σ τ := mj_nx i208_651 rfl
theorem i208_652 : mj_ins 208 652 = some (.aload 0, 653) := by decide +kernel
theorem e208_652 {ls : mj_L} {st : List Value} {σ : mj_S} {τ : mj_T} {v : Nat} : mj_E 208 652 (some (.ref v) :: ls) st σ τ = mj_E 208 653 (some (.ref v) :: ls) (.ref v :: st) σ τ := mj_nx i208_652 rfl
theorem i208_653 : mj_ins 208 653 = some (.iload 3, 654) := by decide +kernel
theorem e208_653 {ls : mj_L} {st : List Value} {σ : mj_S} {τ : mj_T} {a0 a1 a2 : Option Value} {v : Int32} : mj_E 208 653 (a0 :: a1 :: a2 :: some (.int v) :: ls) st σ τ = mj_E 208 654 (a0 :: a1 :: a2 :: some (.int v) :: ls) (.int v :: st) σ τ := mj_nx i208_653 rfl
theorem i208_654 : mj_ins 208 654 = some (.iconst (1), 655) := by decide +kernel
theorem e208_654 {ls : mj_L} {st : List Value} {σ : mj_S} {τ : mj_T} : mj_E 208 654 ls st σ τ = mj_E 208 655 ls (.int (nI 1) :: st) σ τ := mj_nx i208_654 rfl
theorem i208_655 : mj_ins 208 655 = some (.iadd, 656) := by decide +kernel
theorem e208_655 {ls : mj_L} {st : List Value} {σ : mj_S} {τ : mj_T} {x y : Int32} : mj_E 208 655 ls (.int y :: .int x :: st) σ τ = mj_E 208 656 ls (.int (x + y) :: st) σ τ := mj_nx i208_655 rfl
theorem i208_656 : mj_ins 208 656 = some (.iaload, 657) := by decide +kernel
theorem e208_656 {ls : mj_L} {st : List Value} {σ : mj_S} {τ : mj_T} {x : Int32} {k : Nat} : mj_E 208 656 ls (.int x :: .ref k :: st) σ τ = if mj_ib (mj_li σ k) x = true then mj_E 208 657 ls (.int (σ k x.toNatClampNeg) :: st) σ τ else none := mj_ald i208_656
theorem i208_657 : mj_ins 208 657 = some (.aload 0, 658) := by decide +kernel
theorem e208_657 {ls : mj_L} {st : List Value} {σ : mj_S} {τ : mj_T} {v : Nat} : mj_E 208 657 (some (.ref v) :: ls) st σ τ = mj_E 208 658 (some (.ref v) :: ls) (.ref v :: st) σ τ := mj_nx i208_657 rfl
theorem i208_658 : mj_ins 208 658 = some (.iload 3, 659) := by decide +kernel
theorem e208_658 {ls : mj_L} {st : List Value} {σ : mj_S} {τ : mj_T} {a0 a1 a2 : Option Value} {v : Int32} : mj_E 208 658 (a0 :: a1 :: a2 :: some (.int v) :: ls) st σ τ = mj_E 208 659 (a0 :: a1 :: a2 :: some (.int v) :: ls) (.int v :: st) σ τ := mj_nx i208_658 rfl
theorem i208_659 : mj_ins 208 659 = some (.iconst (2), 660) := by decide +kernel
theorem e208_659 {ls : mj_L} {st : List Value} {σ : mj_S} {τ : mj_T} : mj_E 208 659 ls st σ τ = mj_E 208 660 ls (.int (nI 2) :: st) σ τ := mj_nx i208_659 rfl
theorem i208_660 : mj_ins 208 660 = some (.iadd, 661) := by decide +kernel
theorem e208_660 {ls : mj_L} {st : List Value} {σ : mj_S} {τ : mj_T} {x y : Int32} : mj_E 208 660 ls (.int y :: .int x :: st) σ τ = mj_E 208 661 ls (.int (x + y) :: st) σ τ := mj_nx i208_660 rfl
theorem i208_661 : mj_ins 208 661 = some (.iaload, 662) := by decide +kernel
theorem e208_661 {ls : mj_L} {st : List Value} {σ : mj_S} {τ : mj_T} {x : Int32} {k : Nat} : mj_E 208 661 ls (.int x :: .ref k :: st) σ τ = if mj_ib (mj_li σ k) x = true then mj_E 208 662 ls (.int (σ k x.toNatClampNeg) :: st) σ τ else none := mj_ald i208_661
theorem i208_662 : mj_ins 208 662 = some (.invokevirtual 137, 665) := by decide +kernel
theorem e208_662 {ls : mj_L} {σ : mj_S} {τ : mj_T} {r : Nat} {x0 : Int32} {x1 : Int32} {w0 : Value} : mj_E 208 662 ls [.int x1, .int x0, .ref r, w0] σ τ = if mj_rcv r 7 = true then mj_bd (mj_C 137 [.ref r, .int x0, .int x1] σ τ) (mj_K 208 665 ls [w0]) else none := mj_clV (as := [.int x0, .int x1]) (r := [w0]) i208_662 (by decide +kernel : mj_vk 208 137 2 1 3 false = true) (by decide +kernel)
theorem i208_665 : mj_ins 208 665 = some (.if_icmp .eq 1448, 668) := by decide +kernel
theorem e208_665 {ls : mj_L} {st : List Value} {σ : mj_S} {τ : mj_T} {x y : Int32} : mj_E 208 665 ls (.int y :: .int x :: st) σ τ = if x = y then mj_E 208 1448 ls st σ τ else mj_E 208 668 ls st σ τ := (mj_ifi i208_665).trans (mj_cdT rfl)
theorem i208_668 : mj_ins 208 668 = some (.iconst (0), 669) := by decide +kernel
theorem e208_668 {ls : mj_L} {st : List Value} {σ : mj_S} {τ : mj_T} : mj_E 208 668 ls st σ τ = mj_E 208 669 ls (.int (nI 0) :: st) σ τ := mj_nx i208_668 rfl
theorem i208_669 : mj_ins 208 669 = some (.ireturn, 670) := by decide +kernel
theorem e208_669 {ls : mj_L} {σ : mj_S} {τ : mj_T} {v : Int32} : mj_E 208 669 ls [.int v] σ τ = if mj_ok (some .boolean) v = true then some (some (.int v), σ, τ) else none := mj_zrt i208_669 rfl
theorem i208_670 : mj_ins 208 670 = some (.aload 1, 671) := by decide +kernel
theorem e208_670 {ls : mj_L} {st : List Value} {σ : mj_S} {τ : mj_T} {a0 : Option Value} {v : Nat} : mj_E 208 670 (a0 :: some (.ref v) :: ls) st σ τ = mj_E 208 671 (a0 :: some (.ref v) :: ls) (.ref v :: st) σ τ := mj_nx i208_670 rfl
theorem i208_671 : mj_ins 208 671 = some (.aload 0, 672) := by decide +kernel
theorem e208_671 {ls : mj_L} {st : List Value} {σ : mj_S} {τ : mj_T} {v : Nat} : mj_E 208 671 (some (.ref v) :: ls) st σ τ = mj_E 208 672 (some (.ref v) :: ls) (.ref v :: st) σ τ := mj_nx i208_671 rfl
theorem i208_672 : mj_ins 208 672 = some (.iload 3, 673) := by decide +kernel
theorem e208_672 {ls : mj_L} {st : List Value} {σ : mj_S} {τ : mj_T} {a0 a1 a2 : Option Value} {v : Int32} : mj_E 208 672 (a0 :: a1 :: a2 :: some (.int v) :: ls) st σ τ = mj_E 208 673 (a0 :: a1 :: a2 :: some (.int v) :: ls) (.int v :: st) σ τ := mj_nx i208_672 rfl
theorem i208_673 : mj_ins 208 673 = some (.iconst (1), 674) := by decide +kernel
theorem e208_673 {ls : mj_L} {st : List Value} {σ : mj_S} {τ : mj_T} : mj_E 208 673 ls st σ τ = mj_E 208 674 ls (.int (nI 1) :: st) σ τ := mj_nx i208_673 rfl
theorem i208_674 : mj_ins 208 674 = some (.iadd, 675) := by decide +kernel
theorem e208_674 {ls : mj_L} {st : List Value} {σ : mj_S} {τ : mj_T} {x y : Int32} : mj_E 208 674 ls (.int y :: .int x :: st) σ τ = mj_E 208 675 ls (.int (x + y) :: st) σ τ := mj_nx i208_674 rfl
theorem i208_675 : mj_ins 208 675 = some (.iaload, 676) := by decide +kernel
theorem e208_675 {ls : mj_L} {st : List Value} {σ : mj_S} {τ : mj_T} {x : Int32} {k : Nat} : mj_E 208 675 ls (.int x :: .ref k :: st) σ τ = if mj_ib (mj_li σ k) x = true then mj_E 208 676 ls (.int (σ k x.toNatClampNeg) :: st) σ τ else none := mj_ald i208_675
theorem i208_676 : mj_ins 208 676 = some (.aload 0, 677) := by decide +kernel
theorem e208_676 {ls : mj_L} {st : List Value} {σ : mj_S} {τ : mj_T} {v : Nat} : mj_E 208 676 (some (.ref v) :: ls) st σ τ = mj_E 208 677 (some (.ref v) :: ls) (.ref v :: st) σ τ := mj_nx i208_676 rfl
theorem i208_677 : mj_ins 208 677 = some (.iload 3, 678) := by decide +kernel
theorem e208_677 {ls : mj_L} {st : List Value} {σ : mj_S} {τ : mj_T} {a0 a1 a2 : Option Value} {v : Int32} : mj_E 208 677 (a0 :: a1 :: a2 :: some (.int v) :: ls) st σ τ = mj_E 208 678 (a0 :: a1 :: a2 :: some (.int v) :: ls) (.int v :: st) σ τ := mj_nx i208_677 rfl
theorem i208_678 : mj_ins 208 678 = some (.iconst (2), 679) := by decide +kernel
theorem e208_678 {ls : mj_L} {st : List Value} {σ : mj_S} {τ : mj_T} : mj_E 208 678 ls st σ τ = mj_E 208 679 ls (.int (nI 2) :: st) σ τ := mj_nx i208_678 rfl
theorem i208_679 : mj_ins 208 679 = some (.iadd, 680) := by decide +kernel
theorem e208_679 {ls : mj_L} {st : List Value} {σ : mj_S} {τ : mj_T} {x y : Int32} : mj_E 208 679 ls (.int y :: .int x :: st) σ τ = mj_E 208 680 ls (.int (x + y) :: st) σ τ := mj_nx i208_679 rfl
theorem i208_680 : mj_ins 208 680 = some (.iaload, 681) := by decide +kernel
theorem e208_680 {ls : mj_L} {st : List Value} {σ : mj_S} {τ : mj_T} {x : Int32} {k : Nat} : mj_E 208 680 ls (.int x :: .ref k :: st) σ τ = if mj_ib (mj_li σ k) x = true then mj_E 208 681 ls (.int (σ k x.toNatClampNeg) :: st) σ τ else none := mj_ald i208_680
theorem i208_681 : mj_ins 208 681 = some (.aload 0, 682) := by decide +kernel
theorem e208_681 {ls : mj_L} {st : List Value} {σ : mj_S} {τ : mj_T} {v : Nat} : mj_E 208 681 (some (.ref v) :: ls) st σ τ = mj_E 208 682 (some (.ref v) :: ls) (.ref v :: st) σ τ := mj_nx i208_681 rfl
theorem i208_682 : mj_ins 208 682 = some (.iload 3, 683) := by decide +kernel
theorem e208_682 {ls : mj_L} {st : List Value} {σ : mj_S} {τ : mj_T} {a0 a1 a2 : Option Value} {v : Int32} : mj_E 208 682 (a0 :: a1 :: a2 :: some (.int v) :: ls) st σ τ = mj_E 208 683 (a0 :: a1 :: a2 :: some (.int v) :: ls) (.int v :: st) σ τ := mj_nx i208_682 rfl
theorem i208_683 : mj_ins 208 683 = some (.iconst (3), 684) := by decide +kernel
theorem e208_683 {ls : mj_L} {st : List Value} {σ : mj_S} {τ : mj_T} : mj_E 208 683 ls st σ τ = mj_E 208 684 ls (.int (nI 3) :: st) σ τ := mj_nx i208_683 rfl
theorem i208_684 : mj_ins 208 684 = some (.iadd, 685) := by decide +kernel
theorem e208_684 {ls : mj_L} {st : List Value} {σ : mj_S} {τ : mj_T} {x y : Int32} : mj_E 208 684 ls (.int y :: .int x :: st) σ τ = mj_E 208 685 ls (.int (x + y) :: st) σ τ := mj_nx i208_684 rfl
theorem i208_685 : mj_ins 208 685 = some (.iaload, 686) := by decide +kernel
theorem e208_685 {ls : mj_L} {st : List Value} {σ : mj_S} {τ : mj_T} {x : Int32} {k : Nat} : mj_E 208 685 ls (.int x :: .ref k :: st) σ τ = if mj_ib (mj_li σ k) x = true then mj_E 208 686 ls (.int (σ k x.toNatClampNeg) :: st) σ τ else none := mj_ald i208_685
theorem i208_686 : mj_ins 208 686 = some (.invokevirtual 84, 689) := by decide +kernel
theorem e208_686 {ls : mj_L} {σ : mj_S} {τ : mj_T} {r : Nat} {x0 : Int32} {x1 : Int32} {x2 : Int32} : mj_E 208 686 ls [.int x2, .int x1, .int x0, .ref r] σ τ = if mj_rcv r 6 = true then mj_bd (mj_C 84 [.ref r, .int x0, .int x1, .int x2] σ τ) (mj_K 208 689 ls []) else none := mj_clV (as := [.int x0, .int x1, .int x2]) (r := []) i208_686 (by decide +kernel : mj_vk 208 84 3 0 4 false = true) (by decide +kernel)
theorem i208_689 : mj_ins 208 689 = some (.aload 2, 690) := by decide +kernel
theorem e208_689 {ls : mj_L} {st : List Value} {σ : mj_S} {τ : mj_T} {a0 a1 : Option Value} {v : Nat} : mj_E 208 689 (a0 :: a1 :: some (.ref v) :: ls) st σ τ = mj_E 208 690 (a0 :: a1 :: some (.ref v) :: ls) (.ref v :: st) σ τ := mj_nx i208_689 rfl
theorem i208_690 : mj_ins 208 690 = some (.aload 0, 691) := by decide +kernel
theorem e208_690 {ls : mj_L} {st : List Value} {σ : mj_S} {τ : mj_T} {v : Nat} : mj_E 208 690 (some (.ref v) :: ls) st σ τ = mj_E 208 691 (some (.ref v) :: ls) (.ref v :: st) σ τ := mj_nx i208_690 rfl
theorem i208_691 : mj_ins 208 691 = some (.iload 3, 692) := by decide +kernel
theorem e208_691 {ls : mj_L} {st : List Value} {σ : mj_S} {τ : mj_T} {a0 a1 a2 : Option Value} {v : Int32} : mj_E 208 691 (a0 :: a1 :: a2 :: some (.int v) :: ls) st σ τ = mj_E 208 692 (a0 :: a1 :: a2 :: some (.int v) :: ls) (.int v :: st) σ τ := mj_nx i208_691 rfl
theorem i208_692 : mj_ins 208 692 = some (.iconst (1), 693) := by decide +kernel
theorem e208_692 {ls : mj_L} {st : List Value} {σ : mj_S} {τ : mj_T} : mj_E 208 692 ls st σ τ = mj_E 208 693 ls (.int (nI 1) :: st) σ τ := mj_nx i208_692 rfl
theorem i208_693 : mj_ins 208 693 = some (.iadd, 694) := by decide +kernel
theorem e208_693 {ls : mj_L} {st : List Value} {σ : mj_S} {τ : mj_T} {x y : Int32} : mj_E 208 693 ls (.int y :: .int x :: st) σ τ = mj_E 208 694 ls (.int (x + y) :: st) σ τ := mj_nx i208_693 rfl
theorem i208_694 : mj_ins 208 694 = some (.iaload, 695) := by decide +kernel
theorem e208_694 {ls : mj_L} {st : List Value} {σ : mj_S} {τ : mj_T} {x : Int32} {k : Nat} : mj_E 208 694 ls (.int x :: .ref k :: st) σ τ = if mj_ib (mj_li σ k) x = true then mj_E 208 695 ls (.int (σ k x.toNatClampNeg) :: st) σ τ else none := mj_ald i208_694
theorem i208_695 : mj_ins 208 695 = some (.aload 0, 696) := by decide +kernel
theorem e208_695 {ls : mj_L} {st : List Value} {σ : mj_S} {τ : mj_T} {v : Nat} : mj_E 208 695 (some (.ref v) :: ls) st σ τ = mj_E 208 696 (some (.ref v) :: ls) (.ref v :: st) σ τ := mj_nx i208_695 rfl
theorem i208_696 : mj_ins 208 696 = some (.iload 3, 697) := by decide +kernel
theorem e208_696 {ls : mj_L} {st : List Value} {σ : mj_S} {τ : mj_T} {a0 a1 a2 : Option Value} {v : Int32} : mj_E 208 696 (a0 :: a1 :: a2 :: some (.int v) :: ls) st σ τ = mj_E 208 697 (a0 :: a1 :: a2 :: some (.int v) :: ls) (.int v :: st) σ τ := mj_nx i208_696 rfl
theorem i208_697 : mj_ins 208 697 = some (.iconst (2), 698) := by decide +kernel
theorem e208_697 {ls : mj_L} {st : List Value} {σ : mj_S} {τ : mj_T} : mj_E 208 697 ls st σ τ = mj_E 208 698 ls (.int (nI 2) :: st) σ τ := mj_nx i208_697 rfl
theorem i208_698 : mj_ins 208 698 = some (.iadd, 699) := by decide +kernel
theorem e208_698 {ls : mj_L} {st : List Value} {σ : mj_S} {τ : mj_T} {x y : Int32} : mj_E 208 698 ls (.int y :: .int x :: st) σ τ = mj_E 208 699 ls (.int (x + y) :: st) σ τ := mj_nx i208_698 rfl
theorem i208_699 : mj_ins 208 699 = some (.iaload, 700) := by decide +kernel
theorem e208_699 {ls : mj_L} {st : List Value} {σ : mj_S} {τ : mj_T} {x : Int32} {k : Nat} : mj_E 208 699 ls (.int x :: .ref k :: st) σ τ = if mj_ib (mj_li σ k) x = true then mj_E 208 700 ls (.int (σ k x.toNatClampNeg) :: st) σ τ else none := mj_ald i208_699
theorem i208_700 : mj_ins 208 700 = some (.aload 0, 701) := by decide +kernel
theorem e208_700 {ls : mj_L} {st : List Value} {σ : mj_S} {τ : mj_T} {v : Nat} : mj_E 208 700 (some (.ref v) :: ls) st σ τ = mj_E 208 701 (some (.ref v) :: ls) (.ref v :: st) σ τ := mj_nx i208_700 rfl
theorem i208_701 : mj_ins 208 701 = some (.iload 3, 702) := by decide +kernel
theorem e208_701 {ls : mj_L} {st : List Value} {σ : mj_S} {τ : mj_T} {a0 a1 a2 : Option Value} {v : Int32} : mj_E 208 701 (a0 :: a1 :: a2 :: some (.int v) :: ls) st σ τ = mj_E 208 702 (a0 :: a1 :: a2 :: some (.int v) :: ls) (.int v :: st) σ τ := mj_nx i208_701 rfl
theorem i208_702 : mj_ins 208 702 = some (.iconst (3), 703) := by decide +kernel
theorem e208_702 {ls : mj_L} {st : List Value} {σ : mj_S} {τ : mj_T} : mj_E 208 702 ls st σ τ = mj_E 208 703 ls (.int (nI 3) :: st) σ τ := mj_nx i208_702 rfl
theorem i208_703 : mj_ins 208 703 = some (.iadd, 704) := by decide +kernel
theorem e208_703 {ls : mj_L} {st : List Value} {σ : mj_S} {τ : mj_T} {x y : Int32} : mj_E 208 703 ls (.int y :: .int x :: st) σ τ = mj_E 208 704 ls (.int (x + y) :: st) σ τ := mj_nx i208_703 rfl
theorem i208_704 : mj_ins 208 704 = some (.iaload, 705) := by decide +kernel
theorem e208_704 {ls : mj_L} {st : List Value} {σ : mj_S} {τ : mj_T} {x : Int32} {k : Nat} : mj_E 208 704 ls (.int x :: .ref k :: st) σ τ = if mj_ib (mj_li σ k) x = true then mj_E 208 705 ls (.int (σ k x.toNatClampNeg) :: st) σ τ else none := mj_ald i208_704
theorem i208_705 : mj_ins 208 705 = some (.invokevirtual 140, 708) := by decide +kernel
theorem e208_705 {ls : mj_L} {σ : mj_S} {τ : mj_T} {r : Nat} {x0 : Int32} {x1 : Int32} {x2 : Int32} {w0 : Value} : mj_E 208 705 ls [.int x2, .int x1, .int x0, .ref r, w0] σ τ = if mj_rcv r 7 = true then mj_bd (mj_C 140 [.ref r, .int x0, .int x1, .int x2] σ τ) (mj_K 208 708 ls [w0]) else none := mj_clV (as := [.int x0, .int x1, .int x2]) (r := [w0]) i208_705 (by decide +kernel : mj_vk 208 140 3 1 4 false = true) (by decide +kernel)
theorem i208_708 : mj_ins 208 708 = some (.if_icmp .eq 1448, 711) := by decide +kernel
theorem e208_708 {ls : mj_L} {st : List Value} {σ : mj_S} {τ : mj_T} {x y : Int32} : mj_E 208 708 ls (.int y :: .int x :: st) σ τ = if x = y then mj_E 208 1448 ls st σ τ else mj_E 208 711 ls st σ τ := (mj_ifi i208_708).trans (mj_cdT rfl)
theorem i208_711 : mj_ins 208 711 = some (.iconst (0), 712) := by decide +kernel
theorem e208_711 {ls : mj_L} {st : List Value} {σ : mj_S} {τ : mj_T} : mj_E 208 711 ls st σ τ = mj_E 208 712 ls (.int (nI 0) :: st) σ τ := mj_nx i208_711 rfl
theorem i208_712 : mj_ins 208 712 = some (.ireturn, 713) := by decide +kernel
theorem e208_712 {ls : mj_L} {σ : mj_S} {τ : mj_T} {v : Int32} : mj_E 208 712 ls [.int v] σ τ = if mj_ok (some .boolean) v = true then some (some (.int v), σ, τ) else none := mj_zrt i208_712 rfl
theorem i208_713 : mj_ins 208 713 = some (.aload 1, 714) := by decide +kernel
theorem e208_713 {ls : mj_L} {st : List Value} {σ : mj_S} {τ : mj_T} {a0 : Option Value} {v : Nat} : mj_E 208 713 (a0 :: some (.ref v) :: ls) st σ τ = mj_E 208 714 (a0 :: some (.ref v) :: ls) (.ref v :: st) σ τ := mj_nx i208_713 rfl
theorem i208_714 : mj_ins 208 714 = some (.aload 0, 715) := by decide +kernel
theorem e208_714 {ls : mj_L} {st : List Value} {σ : mj_S} {τ : mj_T} {v : Nat} : mj_E 208 714 (some (.ref v) :: ls) st σ τ = mj_E 208 715 (some (.ref v) :: ls) (.ref v :: st) σ τ := mj_nx i208_714 rfl
theorem i208_715 : mj_ins 208 715 = some (.iload 3, 716) := by decide +kernel
theorem e208_715 {ls : mj_L} {st : List Value} {σ : mj_S} {τ : mj_T} {a0 a1 a2 : Option Value} {v : Int32} : mj_E 208 715 (a0 :: a1 :: a2 :: some (.int v) :: ls) st σ τ = mj_E 208 716 (a0 :: a1 :: a2 :: some (.int v) :: ls) (.int v :: st) σ τ := mj_nx i208_715 rfl
theorem i208_716 : mj_ins 208 716 = some (.iconst (1), 717) := by decide +kernel
theorem e208_716 {ls : mj_L} {st : List Value} {σ : mj_S} {τ : mj_T} : mj_E 208 716 ls st σ τ = mj_E 208 717 ls (.int (nI 1) :: st) σ τ := mj_nx i208_716 rfl
theorem i208_717 : mj_ins 208 717 = some (.iadd, 718) := by decide +kernel
theorem e208_717 {ls : mj_L} {st : List Value} {σ : mj_S} {τ : mj_T} {x y : Int32} : mj_E 208 717 ls (.int y :: .int x :: st) σ τ = mj_E 208 718 ls (.int (x + y) :: st) σ τ := mj_nx i208_717 rfl
theorem i208_718 : mj_ins 208 718 = some (.iaload, 719) := by decide +kernel
theorem e208_718 {ls : mj_L} {st : List Value} {σ : mj_S} {τ : mj_T} {x : Int32} {k : Nat} : mj_E 208 718 ls (.int x :: .ref k :: st) σ τ = if mj_ib (mj_li σ k) x = true then mj_E 208 719 ls (.int (σ k x.toNatClampNeg) :: st) σ τ else none := mj_ald i208_718
theorem i208_719 : mj_ins 208 719 = some (.aload 0, 720) := by decide +kernel
theorem e208_719 {ls : mj_L} {st : List Value} {σ : mj_S} {τ : mj_T} {v : Nat} : mj_E 208 719 (some (.ref v) :: ls) st σ τ = mj_E 208 720 (some (.ref v) :: ls) (.ref v :: st) σ τ := mj_nx i208_719 rfl
theorem i208_720 : mj_ins 208 720 = some (.iload 3, 721) := by decide +kernel
theorem e208_720 {ls : mj_L} {st : List Value} {σ : mj_S} {τ : mj_T} {a0 a1 a2 : Option Value} {v : Int32} : mj_E 208 720 (a0 :: a1 :: a2 :: some (.int v) :: ls) st σ τ = mj_E 208 721 (a0 :: a1 :: a2 :: some (.int v) :: ls) (.int v :: st) σ τ := mj_nx i208_720 rfl
theorem i208_721 : mj_ins 208 721 = some (.iconst (2), 722) := by decide +kernel
theorem e208_721 {ls : mj_L} {st : List Value} {σ : mj_S} {τ : mj_T} : mj_E 208 721 ls st σ τ = mj_E 208 722 ls (.int (nI 2) :: st) σ τ := mj_nx i208_721 rfl
theorem i208_722 : mj_ins 208 722 = some (.iadd, 723) := by decide +kernel
theorem e208_722 {ls : mj_L} {st : List Value} {σ : mj_S} {τ : mj_T} {x y : Int32} : mj_E 208 722 ls (.int y :: .int x :: st) σ τ = mj_E 208 723 ls (.int (x + y) :: st) σ τ := mj_nx i208_722 rfl
theorem i208_723 : mj_ins 208 723 = some (.iaload, 724) := by decide +kernel
theorem e208_723 {ls : mj_L} {st : List Value} {σ : mj_S} {τ : mj_T} {x : Int32} {k : Nat} : mj_E 208 723 ls (.int x :: .ref k :: st) σ τ = if mj_ib (mj_li σ k) x = true then mj_E 208 724 ls (.int (σ k x.toNatClampNeg) :: st) σ τ else none := mj_ald i208_723
theorem i208_724 : mj_ins 208 724 = some (.invokevirtual 85, 727) := by decide +kernel
theorem e208_724 {ls : mj_L} {σ : mj_S} {τ : mj_T} {r : Nat} {x0 : Int32} {x1 : Int32} : mj_E 208 724 ls [.int x1, .int x0, .ref r] σ τ = if mj_rcv r 6 = true then mj_bd (mj_C 85 [.ref r, .int x0, .int x1] σ τ) (mj_K 208 727 ls []) else none := mj_clV (as := [.int x0, .int x1]) (r := []) i208_724 (by decide +kernel : mj_vk 208 85 2 0 3 false = true) (by decide +kernel)
theorem i208_727 : mj_ins 208 727 = some (.aload 2, 728) := by decide +kernel
theorem e208_727 {ls : mj_L} {st : List Value} {σ : mj_S} {τ : mj_T} {a0 a1 : Option Value} {v : Nat} : mj_E 208 727 (a0 :: a1 :: some (.ref v) :: ls) st σ τ = mj_E 208 728 (a0 :: a1 :: some (.ref v) :: ls) (.ref v :: st) σ τ := mj_nx i208_727 rfl
theorem i208_728 : mj_ins 208 728 = some (.aload 0, 729) := by decide +kernel
theorem e208_728 {ls : mj_L} {st : List Value} {σ : mj_S} {τ : mj_T} {v : Nat} : mj_E 208 728 (some (.ref v) :: ls) st σ τ = mj_E 208 729 (some (.ref v) :: ls) (.ref v :: st) σ τ := mj_nx i208_728 rfl
theorem i208_729 : mj_ins 208 729 = some (.iload 3, 730) := by decide +kernel
theorem e208_729 {ls : mj_L} {st : List Value} {σ : mj_S} {τ : mj_T} {a0 a1 a2 : Option Value} {v : Int32} : mj_E 208 729 (a0 :: a1 :: a2 :: some (.int v) :: ls) st σ τ = mj_E 208 730 (a0 :: a1 :: a2 :: some (.int v) :: ls) (.int v :: st) σ τ := mj_nx i208_729 rfl
theorem i208_730 : mj_ins 208 730 = some (.iconst (1), 731) := by decide +kernel
theorem e208_730 {ls : mj_L} {st : List Value} {σ : mj_S} {τ : mj_T} : mj_E 208 730 ls st σ τ = mj_E 208 731 ls (.int (nI 1) :: st) σ τ := mj_nx i208_730 rfl
theorem i208_731 : mj_ins 208 731 = some (.iadd, 732) := by decide +kernel
theorem e208_731 {ls : mj_L} {st : List Value} {σ : mj_S} {τ : mj_T} {x y : Int32} : mj_E 208 731 ls (.int y :: .int x :: st) σ τ = mj_E 208 732 ls (.int (x + y) :: st) σ τ := mj_nx i208_731 rfl
theorem i208_732 : mj_ins 208 732 = some (.iaload, 733) := by decide +kernel
theorem e208_732 {ls : mj_L} {st : List Value} {σ : mj_S} {τ : mj_T} {x : Int32} {k : Nat} : mj_E 208 732 ls (.int x :: .ref k :: st) σ τ = if mj_ib (mj_li σ k) x = true then mj_E 208 733 ls (.int (σ k x.toNatClampNeg) :: st) σ τ else none := mj_ald i208_732
theorem i208_733 : mj_ins 208 733 = some (.aload 0, 734) := by decide +kernel
theorem e208_733 {ls : mj_L} {st : List Value} {σ : mj_S} {τ : mj_T} {v : Nat} : mj_E 208 733 (some (.ref v) :: ls) st σ τ = mj_E 208 734 (some (.ref v) :: ls) (.ref v :: st) σ τ := mj_nx i208_733 rfl
theorem i208_734 : mj_ins 208 734 = some (.iload 3, 735) := by decide +kernel
theorem e208_734 {ls : mj_L} {st : List Value} {σ : mj_S} {τ : mj_T} {a0 a1 a2 : Option Value} {v : Int32} : mj_E 208 734 (a0 :: a1 :: a2 :: some (.int v) :: ls) st σ τ = mj_E 208 735 (a0 :: a1 :: a2 :: some (.int v) :: ls) (.int v :: st) σ τ := mj_nx i208_734 rfl
theorem i208_735 : mj_ins 208 735 = some (.iconst (2), 736) := by decide +kernel
theorem e208_735 {ls : mj_L} {st : List Value} {σ : mj_S} {τ : mj_T} : mj_E 208 735 ls st σ τ = mj_E 208 736 ls (.int (nI 2) :: st) σ τ := mj_nx i208_735 rfl
theorem i208_736 : mj_ins 208 736 = some (.iadd, 737) := by decide +kernel
theorem e208_736 {ls : mj_L} {st : List Value} {σ : mj_S} {τ : mj_T} {x y : Int32} : mj_E 208 736 ls (.int y :: .int x :: st) σ τ = mj_E 208 737 ls (.int (x + y) :: st) σ τ := mj_nx i208_736 rfl
theorem i208_737 : mj_ins 208 737 = some (.iaload, 738) := by decide +kernel
theorem e208_737 {ls : mj_L} {st : List Value} {σ : mj_S} {τ : mj_T} {x : Int32} {k : Nat} : mj_E 208 737 ls (.int x :: .ref k :: st) σ τ = if mj_ib (mj_li σ k) x = true then mj_E 208 738 ls (.int (σ k x.toNatClampNeg) :: st) σ τ else none := mj_ald i208_737
theorem i208_738 : mj_ins 208 738 = some (.invokevirtual 142, 741) := by decide +kernel
theorem e208_738 {ls : mj_L} {σ : mj_S} {τ : mj_T} {r : Nat} {x0 : Int32} {x1 : Int32} {w0 : Value} : mj_E 208 738 ls [.int x1, .int x0, .ref r, w0] σ τ = if mj_rcv r 7 = true then mj_bd (mj_C 142 [.ref r, .int x0, .int x1] σ τ) (mj_K 208 741 ls [w0]) else none := mj_clV (as := [.int x0, .int x1]) (r := [w0]) i208_738 (by decide +kernel : mj_vk 208 142 2 1 3 false = true) (by decide +kernel)
theorem i208_741 : mj_ins 208 741 = some (.if_icmp .eq 1448, 744) := by decide +kernel
theorem e208_741 {ls : mj_L} {st : List Value} {σ : mj_S} {τ : mj_T} {x y : Int32} : mj_E 208 741 ls (.int y :: .int x :: st) σ τ = if x = y then mj_E 208 1448 ls st σ τ else mj_E 208 744 ls st σ τ := (mj_ifi i208_741).trans (mj_cdT rfl)
theorem i208_744 : mj_ins 208 744 = some (.iconst (0), 745) := by decide +kernel
theorem e208_744 {ls : mj_L} {st : List Value} {σ : mj_S} {τ : mj_T} : mj_E 208 744 ls st σ τ = mj_E 208 745 ls (.int (nI 0) :: st) σ τ := mj_nx i208_744 rfl
theorem i208_745 : mj_ins 208 745 = some (.ireturn, 746) := by decide +kernel
theorem e208_745 {ls : mj_L} {σ : mj_S} {τ : mj_T} {v : Int32} : mj_E 208 745 ls [.int v] σ τ = if mj_ok (some .boolean) v = true then some (some (.int v), σ, τ) else none := mj_zrt i208_745 rfl
theorem i208_746 : mj_ins 208 746 = some (.aload 1, 747) := by decide +kernel
theorem e208_746 {ls : mj_L} {st : List Value} {σ : mj_S} {τ : mj_T} {a0 : Option Value} {v : Nat} : mj_E 208 746 (a0 :: some (.ref v) :: ls) st σ τ = mj_E 208 747 (a0 :: some (.ref v) :: ls) (.ref v :: st) σ τ := mj_nx i208_746 rfl
theorem i208_747 : mj_ins 208 747 = some (.aload 0, 748) := by decide +kernel
theorem e208_747 {ls : mj_L} {st : List Value} {σ : mj_S} {τ : mj_T} {v : Nat} : mj_E 208 747 (some (.ref v) :: ls) st σ τ = mj_E 208 748 (some (.ref v) :: ls) (.ref v :: st) σ τ := mj_nx i208_747 rfl
theorem i208_748 : mj_ins 208 748 = some (.iload 3, 749) := by decide +kernel
theorem e208_748 {ls : mj_L} {st : List Value} {σ : mj_S} {τ : mj_T} {a0 a1 a2 : Option Value} {v : Int32} : mj_E 208 748 (a0 :: a1 :: a2 :: some (.int v) :: ls) st σ τ = mj_E 208 749 (a0 :: a1 :: a2 :: some (.int v) :: ls) (.int v :: st) σ τ := mj_nx i208_748 rfl
theorem i208_749 : mj_ins 208 749 = some (.iconst (1), 750) := by decide +kernel
theorem e208_749 {ls : mj_L} {st : List Value} {σ : mj_S} {τ : mj_T} : mj_E 208 749 ls st σ τ = mj_E 208 750 ls (.int (nI 1) :: st) σ τ := mj_nx i208_749 rfl
theorem i208_750 : mj_ins 208 750 = some (.iadd, 751) := by decide +kernel
theorem e208_750 {ls : mj_L} {st : List Value} {σ : mj_S} {τ : mj_T} {x y : Int32} : mj_E 208 750 ls (.int y :: .int x :: st) σ τ = mj_E 208 751 ls (.int (x + y) :: st) σ τ := mj_nx i208_750 rfl
theorem i208_751 : mj_ins 208 751 = some (.iaload, 752) := by decide +kernel
theorem e208_751 {ls : mj_L} {st : List Value} {σ : mj_S} {τ : mj_T} {x : Int32} {k : Nat} : mj_E 208 751 ls (.int x :: .ref k :: st) σ τ = if mj_ib (mj_li σ k) x = true then mj_E 208 752 ls (.int (σ k x.toNatClampNeg) :: st) σ τ else none := mj_ald i208_751
theorem i208_752 : mj_ins 208 752 = some (.aload 0, 753) := by decide +kernel
theorem e208_752 {ls : mj_L} {st : List Value} {σ : mj_S} {τ : mj_T} {v : Nat} : mj_E 208 752 (some (.ref v) :: ls) st σ τ = mj_E 208 753 (some (.ref v) :: ls) (.ref v :: st) σ τ := mj_nx i208_752 rfl
theorem i208_753 : mj_ins 208 753 = some (.iload 3, 754) := by decide +kernel
theorem e208_753 {ls : mj_L} {st : List Value} {σ : mj_S} {τ : mj_T} {a0 a1 a2 : Option Value} {v : Int32} : mj_E 208 753 (a0 :: a1 :: a2 :: some (.int v) :: ls) st σ τ = mj_E 208 754 (a0 :: a1 :: a2 :: some (.int v) :: ls) (.int v :: st) σ τ := mj_nx i208_753 rfl
theorem i208_754 : mj_ins 208 754 = some (.iconst (2), 755) := by decide +kernel
theorem e208_754 {ls : mj_L} {st : List Value} {σ : mj_S} {τ : mj_T} : mj_E 208 754 ls st σ τ = mj_E 208 755 ls (.int (nI 2) :: st) σ τ := mj_nx i208_754 rfl
theorem i208_755 : mj_ins 208 755 = some (.iadd, 756) := by decide +kernel
theorem e208_755 {ls : mj_L} {st : List Value} {σ : mj_S} {τ : mj_T} {x y : Int32} : mj_E 208 755 ls (.int y :: .int x :: st) σ τ = mj_E 208 756 ls (.int (x + y) :: st) σ τ := mj_nx i208_755 rfl
theorem i208_756 : mj_ins 208 756 = some (.iaload, 757) := by decide +kernel
theorem e208_756 {ls : mj_L} {st : List Value} {σ : mj_S} {τ : mj_T} {x : Int32} {k : Nat} : mj_E 208 756 ls (.int x :: .ref k :: st) σ τ = if mj_ib (mj_li σ k) x = true then mj_E 208 757 ls (.int (σ k x.toNatClampNeg) :: st) σ τ else none := mj_ald i208_756
theorem i208_757 : mj_ins 208 757 = some (.invokevirtual 86, 760) := by decide +kernel
theorem e208_757 {ls : mj_L} {σ : mj_S} {τ : mj_T} {r : Nat} {x0 : Int32} {x1 : Int32} : mj_E 208 757 ls [.int x1, .int x0, .ref r] σ τ = if mj_rcv r 6 = true then mj_bd (mj_C 86 [.ref r, .int x0, .int x1] σ τ) (mj_K 208 760 ls []) else none := mj_clV (as := [.int x0, .int x1]) (r := []) i208_757 (by decide +kernel : mj_vk 208 86 2 0 3 false = true) (by decide +kernel)
theorem i208_760 : mj_ins 208 760 = some (.aload 2, 761) := by decide +kernel
theorem e208_760 {ls : mj_L} {st : List Value} {σ : mj_S} {τ : mj_T} {a0 a1 : Option Value} {v : Nat} : mj_E 208 760 (a0 :: a1 :: some (.ref v) :: ls) st σ τ = mj_E 208 761 (a0 :: a1 :: some (.ref v) :: ls) (.ref v :: st) σ τ := mj_nx i208_760 rfl
theorem i208_761 : mj_ins 208 761 = some (.aload 0, 762) := by decide +kernel
theorem e208_761 {ls : mj_L} {st : List Value} {σ : mj_S} {τ : mj_T} {v : Nat} : mj_E 208 761 (some (.ref v) :: ls) st σ τ = mj_E 208 762 (some (.ref v) :: ls) (.ref v :: st) σ τ := mj_nx i208_761 rfl
theorem i208_762 : mj_ins 208 762 = some (.iload 3, 763) := by decide +kernel
theorem e208_762 {ls : mj_L} {st : List Value} {σ : mj_S} {τ : mj_T} {a0 a1 a2 : Option Value} {v : Int32} : mj_E 208 762 (a0 :: a1 :: a2 :: some (.int v) :: ls) st σ τ = mj_E 208 763 (a0 :: a1 :: a2 :: some (.int v) :: ls) (.int v :: st) σ τ := mj_nx i208_762 rfl
theorem i208_763 : mj_ins 208 763 = some (.iconst (1), 764) := by decide +kernel
theorem e208_763 {ls : mj_L} {st : List Value} {σ : mj_S} {τ : mj_T} : mj_E 208 763 ls st σ τ = mj_E 208 764 ls (.int (nI 1) :: st) σ τ := mj_nx i208_763 rfl
theorem i208_764 : mj_ins 208 764 = some (.iadd, 765) := by decide +kernel
theorem e208_764 {ls : mj_L} {st : List Value} {σ : mj_S} {τ : mj_T} {x y : Int32} : mj_E 208 764 ls (.int y :: .int x :: st) σ τ = mj_E 208 765 ls (.int (x + y) :: st) σ τ := mj_nx i208_764 rfl
theorem i208_765 : mj_ins 208 765 = some (.iaload, 766) := by decide +kernel
theorem e208_765 {ls : mj_L} {st : List Value} {σ : mj_S} {τ : mj_T} {x : Int32} {k : Nat} : mj_E 208 765 ls (.int x :: .ref k :: st) σ τ = if mj_ib (mj_li σ k) x = true then mj_E 208 766 ls (.int (σ k x.toNatClampNeg) :: st) σ τ else none := mj_ald i208_765
theorem i208_766 : mj_ins 208 766 = some (.aload 0, 767) := by decide +kernel
theorem e208_766 {ls : mj_L} {st : List Value} {σ : mj_S} {τ : mj_T} {v : Nat} : mj_E 208 766 (some (.ref v) :: ls) st σ τ = mj_E 208 767 (some (.ref v) :: ls) (.ref v :: st) σ τ := mj_nx i208_766 rfl
theorem i208_767 : mj_ins 208 767 = some (.iload 3, 768) := by decide +kernel
theorem e208_767 {ls : mj_L} {st : List Value} {σ : mj_S} {τ : mj_T} {a0 a1 a2 : Option Value} {v : Int32} : mj_E 208 767 (a0 :: a1 :: a2 :: some (.int v) :: ls) st σ τ = mj_E 208 768 (a0 :: a1 :: a2 :: some (.int v) :: ls) (.int v :: st) σ τ := mj_nx i208_767 rfl
theorem i208_768 : mj_ins 208 768 = some (.iconst (2), 769) := by decide +kernel
theorem e208_768 {ls : mj_L} {st : List Value} {σ : mj_S} {τ : mj_T} : mj_E 208 768 ls st σ τ = mj_E 208 769 ls (.int (nI 2) :: st) σ τ := mj_nx i208_768 rfl
theorem i208_769 : mj_ins 208 769 = some (.iadd, 770) := by decide +kernel
theorem e208_769 {ls : mj_L} {st : List Value} {σ : mj_S} {τ : mj_T} {x y : Int32} : mj_E 208 769 ls (.int y :: .int x :: st) σ τ = mj_E 208 770 ls (.int (x + y) :: st) σ τ := mj_nx i208_769 rfl
theorem i208_770 : mj_ins 208 770 = some (.iaload, 771) := by decide +kernel
theorem e208_770 {ls : mj_L} {st : List Value} {σ : mj_S} {τ : mj_T} {x : Int32} {k : Nat} : mj_E 208 770 ls (.int x :: .ref k :: st) σ τ = if mj_ib (mj_li σ k) x = true then mj_E 208 771 ls (.int (σ k x.toNatClampNeg) :: st) σ τ else none := mj_ald i208_770
theorem i208_771 : mj_ins 208 771 = some (.invokevirtual 143, 774) := by decide +kernel
theorem e208_771 {ls : mj_L} {σ : mj_S} {τ : mj_T} {r : Nat} {x0 : Int32} {x1 : Int32} {w0 : Value} : mj_E 208 771 ls [.int x1, .int x0, .ref r, w0] σ τ = if mj_rcv r 7 = true then mj_bd (mj_C 143 [.ref r, .int x0, .int x1] σ τ) (mj_K 208 774 ls [w0]) else none := mj_clV (as := [.int x0, .int x1]) (r := [w0]) i208_771 (by decide +kernel : mj_vk 208 143 2 1 3 false = true) (by decide +kernel)
theorem i208_774 : mj_ins 208 774 = some (.if_icmp .eq 1448, 777) := by decide +kernel
theorem e208_774 {ls : mj_L} {st : List Value} {σ : mj_S} {τ : mj_T} {x y : Int32} : mj_E 208 774 ls (.int y :: .int x :: st) σ τ = if x = y then mj_E 208 1448 ls st σ τ else mj_E 208 777 ls st σ τ := (mj_ifi i208_774).trans (mj_cdT rfl)
theorem i208_777 : mj_ins 208 777 = some (.iconst (0), 778) := by decide +kernel
theorem e208_777 {ls : mj_L} {st : List Value} {σ : mj_S} {τ : mj_T} : mj_E 208 777 ls st σ τ = mj_E 208 778 ls (.int (nI 0) :: st) σ τ := mj_nx i208_777 rfl
theorem i208_778 : mj_ins 208 778 = some (.ireturn, 779) := by decide +kernel
theorem e208_778 {ls : mj_L} {σ : mj_S} {τ : mj_T} {v : Int32} : mj_E 208 778 ls [.int v] σ τ = if mj_ok (some .boolean) v = true then some (some (.int v), σ, τ) else none := mj_zrt i208_778 rfl
theorem i208_779 : mj_ins 208 779 = some (.aload 1, 780) := by decide +kernel
theorem e208_779 {ls : mj_L} {st : List Value} {σ : mj_S} {τ : mj_T} {a0 : Option Value} {v : Nat} : mj_E 208 779 (a0 :: some (.ref v) :: ls) st σ τ = mj_E 208 780 (a0 :: some (.ref v) :: ls) (.ref v :: st) σ τ := mj_nx i208_779 rfl
theorem i208_780 : mj_ins 208 780 = some (.aload 0, 781) := by decide +kernel
theorem e208_780 {ls : mj_L} {st : List Value} {σ : mj_S} {τ : mj_T} {v : Nat} : mj_E 208 780 (some (.ref v) :: ls) st σ τ = mj_E 208 781 (some (.ref v) :: ls) (.ref v :: st) σ τ := mj_nx i208_780 rfl
theorem i208_781 : mj_ins 208 781 = some (.iload 3, 782) := by decide +kernel
theorem e208_781 {ls : mj_L} {st : List Value} {σ : mj_S} {τ : mj_T} {a0 a1 a2 : Option Value} {v : Int32} : mj_E 208 781 (a0 :: a1 :: a2 :: some (.int v) :: ls) st σ τ = mj_E 208 782 (a0 :: a1 :: a2 :: some (.int v) :: ls) (.int v :: st) σ τ := mj_nx i208_781 rfl
theorem i208_782 : mj_ins 208 782 = some (.iconst (1), 783) := by decide +kernel
theorem e208_782 {ls : mj_L} {st : List Value} {σ : mj_S} {τ : mj_T} : mj_E 208 782 ls st σ τ = mj_E 208 783 ls (.int (nI 1) :: st) σ τ := mj_nx i208_782 rfl
theorem i208_783 : mj_ins 208 783 = some (.iadd, 784) := by decide +kernel
theorem e208_783 {ls : mj_L} {st : List Value} {σ : mj_S} {τ : mj_T} {x y : Int32} : mj_E 208 783 ls (.int y :: .int x :: st) σ τ = mj_E 208 784 ls (.int (x + y) :: st) σ τ := mj_nx i208_783 rfl
theorem i208_784 : mj_ins 208 784 = some (.iaload, 785) := by decide +kernel
theorem e208_784 {ls : mj_L} {st : List Value} {σ : mj_S} {τ : mj_T} {x : Int32} {k : Nat} : mj_E 208 784 ls (.int x :: .ref k :: st) σ τ = if mj_ib (mj_li σ k) x = true then mj_E 208 785 ls (.int (σ k x.toNatClampNeg) :: st) σ τ else none := mj_ald i208_784
theorem i208_785 : mj_ins 208 785 = some (.aload 0, 786) := by decide +kernel
theorem e208_785 {ls : mj_L} {st : List Value} {σ : mj_S} {τ : mj_T} {v : Nat} : mj_E 208 785 (some (.ref v) :: ls) st σ τ = mj_E 208 786 (some (.ref v) :: ls) (.ref v :: st) σ τ := mj_nx i208_785 rfl
theorem i208_786 : mj_ins 208 786 = some (.iload 3, 787) := by decide +kernel
theorem e208_786 {ls : mj_L} {st : List Value} {σ : mj_S} {τ : mj_T} {a0 a1 a2 : Option Value} {v : Int32} : mj_E 208 786 (a0 :: a1 :: a2 :: some (.int v) :: ls) st σ τ = mj_E 208 787 (a0 :: a1 :: a2 :: some (.int v) :: ls) (.int v :: st) σ τ := mj_nx i208_786 rfl
theorem i208_787 : mj_ins 208 787 = some (.iconst (2), 788) := by decide +kernel
theorem e208_787 {ls : mj_L} {st : List Value} {σ : mj_S} {τ : mj_T} : mj_E 208 787 ls st σ τ = mj_E 208 788 ls (.int (nI 2) :: st) σ τ := mj_nx i208_787 rfl
theorem i208_788 : mj_ins 208 788 = some (.iadd, 789) := by decide +kernel
theorem e208_788 {ls : mj_L} {st : List Value} {σ : mj_S} {τ : mj_T} {x y : Int32} : mj_E 208 788 ls (.int y :: .int x :: st) σ τ = mj_E 208 789 ls (.int (x + y) :: st) σ τ := mj_nx i208_788 rfl
theorem i208_789 : mj_ins 208 789 = some (.iaload, 790) := by decide +kernel
theorem e208_789 {ls : mj_L} {st : List Value} {σ : mj_S} {τ : mj_T} {x : Int32} {k : Nat} : mj_E 208 789 ls (.int x :: .ref k :: st) σ τ = if mj_ib (mj_li σ k) x = true then mj_E 208 790 ls (.int (σ k x.toNatClampNeg) :: st) σ τ else none := mj_ald i208_789
theorem i208_790 : mj_ins 208 790 = some (.aload 0, 791) := by decide +kernel
theorem e208_790 {ls : mj_L} {st : List Value} {σ : mj_S} {τ : mj_T} {v : Nat} : mj_E 208 790 (some (.ref v) :: ls) st σ τ = mj_E 208 791 (some (.ref v) :: ls) (.ref v :: st) σ τ := mj_nx i208_790 rfl
theorem i208_791 : mj_ins 208 791 = some (.iload 3, 792) := by decide +kernel
theorem e208_791 {ls : mj_L} {st : List Value} {σ : mj_S} {τ : mj_T} {a0 a1 a2 : Option Value} {v : Int32} : mj_E 208 791 (a0 :: a1 :: a2 :: some (.int v) :: ls) st σ τ = mj_E 208 792 (a0 :: a1 :: a2 :: some (.int v) :: ls) (.int v :: st) σ τ := mj_nx i208_791 rfl
theorem i208_792 : mj_ins 208 792 = some (.iconst (3), 793) := by decide +kernel
theorem e208_792 {ls : mj_L} {st : List Value} {σ : mj_S} {τ : mj_T} : mj_E 208 792 ls st σ τ = mj_E 208 793 ls (.int (nI 3) :: st) σ τ := mj_nx i208_792 rfl
theorem i208_793 : mj_ins 208 793 = some (.iadd, 794) := by decide +kernel
theorem e208_793 {ls : mj_L} {st : List Value} {σ : mj_S} {τ : mj_T} {x y : Int32} : mj_E 208 793 ls (.int y :: .int x :: st) σ τ = mj_E 208 794 ls (.int (x + y) :: st) σ τ := mj_nx i208_793 rfl
theorem i208_794 : mj_ins 208 794 = some (.iaload, 795) := by decide +kernel
theorem e208_794 {ls : mj_L} {st : List Value} {σ : mj_S} {τ : mj_T} {x : Int32} {k : Nat} : mj_E 208 794 ls (.int x :: .ref k :: st) σ τ = if mj_ib (mj_li σ k) x = true then mj_E 208 795 ls (.int (σ k x.toNatClampNeg) :: st) σ τ else none := mj_ald i208_794
theorem i208_795 : mj_ins 208 795 = some (.invokevirtual 87, 798) := by decide +kernel
theorem e208_795 {ls : mj_L} {σ : mj_S} {τ : mj_T} {r : Nat} {x0 : Int32} {x1 : Int32} {x2 : Int32} : mj_E 208 795 ls [.int x2, .int x1, .int x0, .ref r] σ τ = if mj_rcv r 6 = true then mj_bd (mj_C 87 [.ref r, .int x0, .int x1, .int x2] σ τ) (mj_K 208 798 ls []) else none := mj_clV (as := [.int x0, .int x1, .int x2]) (r := []) i208_795 (by decide +kernel : mj_vk 208 87 3 0 4 false = true) (by decide +kernel)
theorem i208_798 : mj_ins 208 798 = some (.aload 2, 799) := by decide +kernel
theorem e208_798 {ls : mj_L} {st : List Value} {σ : mj_S} {τ : mj_T} {a0 a1 : Option Value} {v : Nat} : mj_E 208 798 (a0 :: a1 :: some (.ref v) :: ls) st σ τ = mj_E 208 799 (a0 :: a1 :: some (.ref v) :: ls) (.ref v :: st) σ τ := mj_nx i208_798 rfl
theorem i208_799 : mj_ins 208 799 = some (.aload 0, 800) := by decide +kernel
theorem e208_799 {ls : mj_L} {st : List Value} {σ : mj_S} {τ : mj_T} {v : Nat} : mj_E 208 799 (some (.ref v) :: ls) st σ τ = mj_E 208 800 (some (.ref v) :: ls) (.ref v :: st) σ τ := mj_nx i208_799 rfl
theorem i208_800 : mj_ins 208 800 = some (.iload 3, 801) := by decide +kernel
theorem e208_800 {ls : mj_L} {st : List Value} {σ : mj_S} {τ : mj_T} {a0 a1 a2 : Option Value} {v : Int32} : mj_E 208 800 (a0 :: a1 :: a2 :: some (.int v) :: ls) st σ τ = mj_E 208 801 (a0 :: a1 :: a2 :: some (.int v) :: ls) (.int v :: st) σ τ := mj_nx i208_800 rfl
theorem i208_801 : mj_ins 208 801 = some (.iconst (1), 802) := by decide +kernel
theorem e208_801 {ls : mj_L} {st : List Value} {σ : mj_S} {τ : mj_T} : mj_E 208 801 ls st σ τ = mj_E 208 802 ls (.int (nI 1) :: st) σ τ := mj_nx i208_801 rfl
theorem i208_802 : mj_ins 208 802 = some (.iadd, 803) := by decide +kernel
theorem e208_802 {ls : mj_L} {st : List Value} {σ : mj_S} {τ : mj_T} {x y : Int32} : mj_E 208 802 ls (.int y :: .int x :: st) σ τ = mj_E 208 803 ls (.int (x + y) :: st) σ τ := mj_nx i208_802 rfl
theorem i208_803 : mj_ins 208 803 = some (.iaload, 804) := by decide +kernel
theorem e208_803 {ls : mj_L} {st : List Value} {σ : mj_S} {τ : mj_T} {x : Int32} {k : Nat} : mj_E 208 803 ls (.int x :: .ref k :: st) σ τ = if mj_ib (mj_li σ k) x = true then mj_E 208 804 ls (.int (σ k x.toNatClampNeg) :: st) σ τ else none := mj_ald i208_803
theorem i208_804 : mj_ins 208 804 = some (.aload 0, 805) := by decide +kernel
theorem e208_804 {ls : mj_L} {st : List Value} {σ : mj_S} {τ : mj_T} {v : Nat} : mj_E 208 804 (some (.ref v) :: ls) st σ τ = mj_E 208 805 (some (.ref v) :: ls) (.ref v :: st) σ τ := mj_nx i208_804 rfl
theorem i208_805 : mj_ins 208 805 = some (.iload 3, 806) := by decide +kernel
theorem e208_805 {ls : mj_L} {st : List Value} {σ : mj_S} {τ : mj_T} {a0 a1 a2 : Option Value} {v : Int32} : mj_E 208 805 (a0 :: a1 :: a2 :: some (.int v) :: ls) st σ τ = mj_E 208 806 (a0 :: a1 :: a2 :: some (.int v) :: ls) (.int v :: st) σ τ := mj_nx i208_805 rfl
theorem i208_806 : mj_ins 208 806 = some (.iconst (2), 807) := by decide +kernel
theorem e208_806 {ls : mj_L} {st : List Value} {σ : mj_S} {τ : mj_T} : mj_E 208 806 ls st σ τ = mj_E 208 807 ls (.int (nI 2) :: st) σ τ := mj_nx i208_806 rfl
theorem i208_807 : mj_ins 208 807 = some (.iadd, 808) := by decide +kernel
theorem e208_807 {ls : mj_L} {st : List Value} {σ : mj_S} {τ : mj_T} {x y : Int32} : mj_E 208 807 ls (.int y :: .int x :: st) σ τ = mj_E 208 808 ls (.int (x + y) :: st) σ τ := mj_nx i208_807 rfl
theorem i208_808 : mj_ins 208 808 = some (.iaload, 809) := by decide +kernel
theorem e208_808 {ls : mj_L} {st : List Value} {σ : mj_S} {τ : mj_T} {x : Int32} {k : Nat} : mj_E 208 808 ls (.int x :: .ref k :: st) σ τ = if mj_ib (mj_li σ k) x = true then mj_E 208 809 ls (.int (σ k x.toNatClampNeg) :: st) σ τ else none := mj_ald i208_808
theorem i208_809 : mj_ins 208 809 = some (.aload 0, 810) := by decide +kernel
theorem e208_809 {ls : mj_L} {st : List Value} {σ : mj_S} {τ : mj_T} {v : Nat} : mj_E 208 809 (some (.ref v) :: ls) st σ τ = mj_E 208 810 (some (.ref v) :: ls) (.ref v :: st) σ τ := mj_nx i208_809 rfl
theorem i208_810 : mj_ins 208 810 = some (.iload 3, 811) := by decide +kernel
theorem e208_810 {ls : mj_L} {st : List Value} {σ : mj_S} {τ : mj_T} {a0 a1 a2 : Option Value} {v : Int32} : mj_E 208 810 (a0 :: a1 :: a2 :: some (.int v) :: ls) st σ τ = mj_E 208 811 (a0 :: a1 :: a2 :: some (.int v) :: ls) (.int v :: st) σ τ := mj_nx i208_810 rfl
theorem i208_811 : mj_ins 208 811 = some (.iconst (3), 812) := by decide +kernel
theorem e208_811 {ls : mj_L} {st : List Value} {σ : mj_S} {τ : mj_T} : mj_E 208 811 ls st σ τ = mj_E 208 812 ls (.int (nI 3) :: st) σ τ := mj_nx i208_811 rfl
theorem i208_812 : mj_ins 208 812 = some (.iadd, 813) := by decide +kernel
theorem e208_812 {ls : mj_L} {st : List Value} {σ : mj_S} {τ : mj_T} {x y : Int32} : mj_E 208 812 ls (.int y :: .int x :: st) σ τ = mj_E 208 813 ls (.int (x + y) :: st) σ τ := mj_nx i208_812 rfl
theorem i208_813 : mj_ins 208 813 = some (.iaload, 814) := by decide +kernel
theorem e208_813 {ls : mj_L} {st : List Value} {σ : mj_S} {τ : mj_T} {x : Int32} {k : Nat} : mj_E 208 813 ls (.int x :: .ref k :: st) σ τ = if mj_ib (mj_li σ k) x = true then mj_E 208 814 ls (.int (σ k x.toNatClampNeg) :: st) σ τ else none := mj_ald i208_813
theorem i208_814 : mj_ins 208 814 = some (.invokevirtual 158, 817) := by decide +kernel
theorem e208_814 {ls : mj_L} {σ : mj_S} {τ : mj_T} {r : Nat} {x0 : Int32} {x1 : Int32} {x2 : Int32} {w0 : Value} : mj_E 208 814 ls [.int x2, .int x1, .int x0, .ref r, w0] σ τ = if mj_rcv r 7 = true then mj_bd (mj_C 158 [.ref r, .int x0, .int x1, .int x2] σ τ) (mj_K 208 817 ls [w0]) else none := mj_clV (as := [.int x0, .int x1, .int x2]) (r := [w0]) i208_814 (by decide +kernel : mj_vk 208 158 3 1 4 false = true) (by decide +kernel)
theorem i208_817 : mj_ins 208 817 = some (.if_icmp .eq 1448, 820) := by decide +kernel
theorem e208_817 {ls : mj_L} {st : List Value} {σ : mj_S} {τ : mj_T} {x y : Int32} : mj_E 208 817 ls (.int y :: .int x :: st) σ τ = if x = y then mj_E 208 1448 ls st σ τ else mj_E 208 820 ls st σ τ := (mj_ifi i208_817).trans (mj_cdT rfl)
theorem i208_820 : mj_ins 208 820 = some (.iconst (0), 821) := by decide +kernel
theorem e208_820 {ls : mj_L} {st : List Value} {σ : mj_S} {τ : mj_T} : mj_E 208 820 ls st σ τ = mj_E 208 821 ls (.int (nI 0) :: st) σ τ := mj_nx i208_820 rfl
theorem i208_821 : mj_ins 208 821 = some (.ireturn, 822) := by decide +kernel
theorem e208_821 {ls : mj_L} {σ : mj_S} {τ : mj_T} {v : Int32} : mj_E 208 821 ls [.int v] σ τ = if mj_ok (some .boolean) v = true then some (some (.int v), σ, τ) else none := mj_zrt i208_821 rfl
theorem i208_822 : mj_ins 208 822 = some (.aload 1, 823) := by decide +kernel
theorem e208_822 {ls : mj_L} {st : List Value} {σ : mj_S} {τ : mj_T} {a0 : Option Value} {v : Nat} : mj_E 208 822 (a0 :: some (.ref v) :: ls) st σ τ = mj_E 208 823 (a0 :: some (.ref v) :: ls) (.ref v :: st) σ τ := mj_nx i208_822 rfl
theorem i208_823 : mj_ins 208 823 = some (.aload 0, 824) := by decide +kernel
theorem e208_823 {ls : mj_L} {st : List Value} {σ : mj_S} {τ : mj_T} {v : Nat} : mj_E 208 823 (some (.ref v) :: ls) st σ τ = mj_E 208 824 (some (.ref v) :: ls) (.ref v :: st) σ τ := mj_nx i208_823 rfl
theorem i208_824 : mj_ins 208 824 = some (.iload 3, 825) := by decide +kernel
theorem e208_824 {ls : mj_L} {st : List Value} {σ : mj_S} {τ : mj_T} {a0 a1 a2 : Option Value} {v : Int32} : mj_E 208 824 (a0 :: a1 :: a2 :: some (.int v) :: ls) st σ τ = mj_E 208 825 (a0 :: a1 :: a2 :: some (.int v) :: ls) (.int v :: st) σ τ := mj_nx i208_824 rfl
theorem i208_825 : mj_ins 208 825 = some (.iconst (1), 826) := by decide +kernel
theorem e208_825 {ls : mj_L} {st : List Value} {σ : mj_S} {τ : mj_T} : mj_E 208 825 ls st σ τ = mj_E 208 826 ls (.int (nI 1) :: st) σ τ := mj_nx i208_825 rfl
theorem i208_826 : mj_ins 208 826 = some (.iadd, 827) := by decide +kernel
theorem e208_826 {ls : mj_L} {st : List Value} {σ : mj_S} {τ : mj_T} {x y : Int32} : mj_E 208 826 ls (.int y :: .int x :: st) σ τ = mj_E 208 827 ls (.int (x + y) :: st) σ τ := mj_nx i208_826 rfl
theorem i208_827 : mj_ins 208 827 = some (.iaload, 828) := by decide +kernel
theorem e208_827 {ls : mj_L} {st : List Value} {σ : mj_S} {τ : mj_T} {x : Int32} {k : Nat} : mj_E 208 827 ls (.int x :: .ref k :: st) σ τ = if mj_ib (mj_li σ k) x = true then mj_E 208 828 ls (.int (σ k x.toNatClampNeg) :: st) σ τ else none := mj_ald i208_827
theorem i208_828 : mj_ins 208 828 = some (.invokevirtual 88, 831) := by decide +kernel
theorem e208_828 {ls : mj_L} {σ : mj_S} {τ : mj_T} {r : Nat} {x0 : Int32} : mj_E 208 828 ls [.int x0, .ref r] σ τ = if mj_rcv r 6 = true then mj_bd (mj_C 88 [.ref r, .int x0] σ τ) (mj_K 208 831 ls []) else none := mj_clV (as := [.int x0]) (r := []) i208_828 (by decide +kernel : mj_vk 208 88 1 0 2 false = true) (by decide +kernel)
theorem i208_831 : mj_ins 208 831 = some (.aload 2, 832) := by decide +kernel
theorem e208_831 {ls : mj_L} {st : List Value} {σ : mj_S} {τ : mj_T} {a0 a1 : Option Value} {v : Nat} : mj_E 208 831 (a0 :: a1 :: some (.ref v) :: ls) st σ τ = mj_E 208 832 (a0 :: a1 :: some (.ref v) :: ls) (.ref v :: st) σ τ := mj_nx i208_831 rfl
theorem i208_832 : mj_ins 208 832 = some (.aload 0, 833) := by decide +kernel
theorem e208_832 {ls : mj_L} {st : List Value} {σ : mj_S} {τ : mj_T} {v : Nat} : mj_E 208 832 (some (.ref v) :: ls) st σ τ = mj_E 208 833 (some (.ref v) :: ls) (.ref v :: st) σ τ := mj_nx i208_832 rfl
theorem i208_833 : mj_ins 208 833 = some (.iload 3, 834) := by decide +kernel
theorem e208_833 {ls : mj_L} {st : List Value} {σ : mj_S} {τ : mj_T} {a0 a1 a2 : Option Value} {v : Int32} : mj_E 208 833 (a0 :: a1 :: a2 :: some (.int v) :: ls) st σ τ = mj_E 208 834 (a0 :: a1 :: a2 :: some (.int v) :: ls) (.int v :: st) σ τ := mj_nx i208_833 rfl
theorem i208_834 : mj_ins 208 834 = some (.iconst (1), 835) := by decide +kernel
theorem e208_834 {ls : mj_L} {st : List Value} {σ : mj_S} {τ : mj_T} : mj_E 208 834 ls st σ τ = mj_E 208 835 ls (.int (nI 1) :: st) σ τ := mj_nx i208_834 rfl
theorem i208_835 : mj_ins 208 835 = some (.iadd, 836) := by decide +kernel
theorem e208_835 {ls : mj_L} {st : List Value} {σ : mj_S} {τ : mj_T} {x y : Int32} : mj_E 208 835 ls (.int y :: .int x :: st) σ τ = mj_E 208 836 ls (.int (x + y) :: st) σ τ := mj_nx i208_835 rfl
theorem i208_836 : mj_ins 208 836 = some (.iaload, 837) := by decide +kernel
theorem e208_836 {ls : mj_L} {st : List Value} {σ : mj_S} {τ : mj_T} {x : Int32} {k : Nat} : mj_E 208 836 ls (.int x :: .ref k :: st) σ τ = if mj_ib (mj_li σ k) x = true then mj_E 208 837 ls (.int (σ k x.toNatClampNeg) :: st) σ τ else none := mj_ald i208_836
theorem i208_837 : mj_ins 208 837 = some (.invokevirtual 153, 840) := by decide +kernel
theorem e208_837 {ls : mj_L} {σ : mj_S} {τ : mj_T} {r : Nat} {x0 : Int32} {w0 : Value} : mj_E 208 837 ls [.int x0, .ref r, w0] σ τ = if mj_rcv r 7 = true then mj_bd (mj_C 153 [.ref r, .int x0] σ τ) (mj_K 208 840 ls [w0]) else none := mj_clV (as := [.int x0]) (r := [w0]) i208_837 (by decide +kernel : mj_vk 208 153 1 1 2 false = true) (by decide +kernel)
theorem i208_840 : mj_ins 208 840 = some (.if_icmp .eq 1448, 843) := by decide +kernel
theorem e208_840 {ls : mj_L} {st : List Value} {σ : mj_S} {τ : mj_T} {x y : Int32} : mj_E 208 840 ls (.int y :: .int x :: st) σ τ = if x = y then mj_E 208 1448 ls st σ τ else mj_E 208 843 ls st σ τ := (mj_ifi i208_840).trans (mj_cdT rfl)
theorem i208_843 : mj_ins 208 843 = some (.iconst (0), 844) := by decide +kernel
theorem e208_843 {ls : mj_L} {st : List Value} {σ : mj_S} {τ : mj_T} : mj_E 208 843 ls st σ τ = mj_E 208 844 ls (.int (nI 0) :: st) σ τ := mj_nx i208_843 rfl
theorem i208_844 : mj_ins 208 844 = some (.ireturn, 845) := by decide +kernel
theorem e208_844 {ls : mj_L} {σ : mj_S} {τ : mj_T} {v : Int32} : mj_E 208 844 ls [.int v] σ τ = if mj_ok (some .boolean) v = true then some (some (.int v), σ, τ) else none := mj_zrt i208_844 rfl
theorem i208_845 : mj_ins 208 845 = some (.aload 1, 846) := by decide +kernel
theorem e208_845 {ls : mj_L} {st : List Value} {σ : mj_S} {τ : mj_T} {a0 : Option Value} {v : Nat} : mj_E 208 845 (a0 :: some (.ref v) :: ls) st σ τ = mj_E 208 846 (a0 :: some (.ref v) :: ls) (.ref v :: st) σ τ := mj_nx i208_845 rfl
theorem i208_846 : mj_ins 208 846 = some (.invokevirtual 89, 849) := by decide +kernel
theorem e208_846 {ls : mj_L} {σ : mj_S} {τ : mj_T} {r : Nat} : mj_E 208 846 ls [.ref r] σ τ = if mj_rcv r 6 = true then mj_bd (mj_C 89 [.ref r] σ τ) (mj_K 208 849 ls []) else none := mj_clV (as := []) (r := []) i208_846 (by decide +kernel : mj_vk 208 89 0 0 1 false = true) (by decide +kernel)
theorem i208_849 : mj_ins 208 849 = some (.aload 2, 850) := by decide +kernel
theorem e208_849 {ls : mj_L} {st : List Value} {σ : mj_S} {τ : mj_T} {a0 a1 : Option Value} {v : Nat} : mj_E 208 849 (a0 :: a1 :: some (.ref v) :: ls) st σ τ = mj_E 208 850 (a0 :: a1 :: some (.ref v) :: ls) (.ref v :: st) σ τ := mj_nx i208_849 rfl
theorem i208_850 : mj_ins 208 850 = some (.invokevirtual 154, 853) := by decide +kernel
theorem e208_850 {ls : mj_L} {σ : mj_S} {τ : mj_T} {r : Nat} {w0 : Value} : mj_E 208 850 ls [.ref r, w0] σ τ = if mj_rcv r 7 = true then mj_bd (mj_C 154 [.ref r] σ τ) (mj_K 208 853 ls [w0]) else none := mj_clV (as := []) (r := [w0]) i208_850 (by decide +kernel : mj_vk 208 154 0 1 1 false = true) (by decide +kernel)
theorem i208_853 : mj_ins 208 853 = some (.if_icmp .eq 1448, 856) := by decide +kernel
theorem e208_853 {ls : mj_L} {st : List Value} {σ : mj_S} {τ : mj_T} {x y : Int32} : mj_E 208 853 ls (.int y :: .int x :: st) σ τ = if x = y then mj_E 208 1448 ls st σ τ else mj_E 208 856 ls st σ τ := (mj_ifi i208_853).trans (mj_cdT rfl)
theorem i208_856 : mj_ins 208 856 = some (.iconst (0), 857) := by decide +kernel
theorem e208_856 {ls : mj_L} {st : List Value} {σ : mj_S} {τ : mj_T} : mj_E 208 856 ls st σ τ = mj_E 208 857 ls (.int (nI 0) :: st) σ τ := mj_nx i208_856 rfl
theorem i208_857 : mj_ins 208 857 = some (.ireturn, 858) := by decide +kernel
theorem e208_857 {ls : mj_L} {σ : mj_S} {τ : mj_T} {v : Int32} : mj_E 208 857 ls [.int v] σ τ = if mj_ok (some .boolean) v = true then some (some (.int v), σ, τ) else none := mj_zrt i208_857 rfl
theorem i208_858 : mj_ins 208 858 = some (.aload 1, 859) := by decide +kernel
theorem e208_858 {ls : mj_L} {st : List Value} {σ : mj_S} {τ : mj_T} {a0 : Option Value} {v : Nat} : mj_E 208 858 (a0 :: some (.ref v) :: ls) st σ τ = mj_E 208 859 (a0 :: some (.ref v) :: ls) (.ref v :: st) σ τ := mj_nx i208_858 rfl
theorem i208_859 : mj_ins 208 859 = some (.aload 0, 860) := by decide +kernel
theorem e208_859 {ls : mj_L} {st : List Value} {σ : mj_S} {τ : mj_T} {v : Nat} : mj_E 208 859 (some (.ref v) :: ls) st σ τ = mj_E 208 860 (some (.ref v) :: ls) (.ref v :: st) σ τ := mj_nx i208_859 rfl
theorem i208_860 : mj_ins 208 860 = some (.iload 3, 861) := by decide +kernel
theorem e208_860 {ls : mj_L} {st : List Value} {σ : mj_S} {τ : mj_T} {a0 a1 a2 : Option Value} {v : Int32} : mj_E 208 860 (a0 :: a1 :: a2 :: some (.int v) :: ls) st σ τ = mj_E 208 861 (a0 :: a1 :: a2 :: some (.int v) :: ls) (.int v :: st) σ τ := mj_nx i208_860 rfl
theorem i208_861 : mj_ins 208 861 = some (.iconst (1), 862) := by decide +kernel
theorem e208_861 {ls : mj_L} {st : List Value} {σ : mj_S} {τ : mj_T} : mj_E 208 861 ls st σ τ = mj_E 208 862 ls (.int (nI 1) :: st) σ τ := mj_nx i208_861 rfl
theorem i208_862 : mj_ins 208 862 = some (.iadd, 863) := by decide +kernel
theorem e208_862 {ls : mj_L} {st : List Value} {σ : mj_S} {τ : mj_T} {x y : Int32} : mj_E 208 862 ls (.int y :: .int x :: st) σ τ = mj_E 208 863 ls (.int (x + y) :: st) σ τ := mj_nx i208_862 rfl
theorem i208_863 : mj_ins 208 863 = some (.iaload, 864) := by decide +kernel
theorem e208_863 {ls : mj_L} {st : List Value} {σ : mj_S} {τ : mj_T} {x : Int32} {k : Nat} : mj_E 208 863 ls (.int x :: .ref k :: st) σ τ = if mj_ib (mj_li σ k) x = true then mj_E 208 864 ls (.int (σ k x.toNatClampNeg) :: st) σ τ else none := mj_ald i208_863
theorem i208_864 : mj_ins 208 864 = some (.aload 0, 865) := by decide +kernel
theorem e208_864 {ls : mj_L} {st : List Value} {σ : mj_S} {τ : mj_T} {v : Nat} : mj_E 208 864 (some (.ref v) :: ls) st σ τ = mj_E 208 865 (some (.ref v) :: ls) (.ref v :: st) σ τ := mj_nx i208_864 rfl
theorem i208_865 : mj_ins 208 865 = some (.iload 3, 866) := by decide +kernel
theorem e208_865 {ls : mj_L} {st : List Value} {σ : mj_S} {τ : mj_T} {a0 a1 a2 : Option Value} {v : Int32} : mj_E 208 865 (a0 :: a1 :: a2 :: some (.int v) :: ls) st σ τ = mj_E 208 866 (a0 :: a1 :: a2 :: some (.int v) :: ls) (.int v :: st) σ τ := mj_nx i208_865 rfl
theorem i208_866 : mj_ins 208 866 = some (.iconst (2), 867) := by decide +kernel
theorem e208_866 {ls : mj_L} {st : List Value} {σ : mj_S} {τ : mj_T} : mj_E 208 866 ls st σ τ = mj_E 208 867 ls (.int (nI 2) :: st) σ τ := mj_nx i208_866 rfl
theorem i208_867 : mj_ins 208 867 = some (.iadd, 868) := by decide +kernel
theorem e208_867 {ls : mj_L} {st : List Value} {σ : mj_S} {τ : mj_T} {x y : Int32} : mj_E 208 867 ls (.int y :: .int x :: st) σ τ = mj_E 208 868 ls (.int (x + y) :: st) σ τ := mj_nx i208_867 rfl
theorem i208_868 : mj_ins 208 868 = some (.iaload, 869) := by decide +kernel
theorem e208_868 {ls : mj_L} {st : List Value} {σ : mj_S} {τ : mj_T} {x : Int32} {k : Nat} : mj_E 208 868 ls (.int x :: .ref k :: st) σ τ = if mj_ib (mj_li σ k) x = true then mj_E 208 869 ls (.int (σ k x.toNatClampNeg) :: st) σ τ else none := mj_ald i208_868
theorem i208_869 : mj_ins 208 869 = some (.invokevirtual 90, 872) := by decide +kernel
theorem e208_869 {ls : mj_L} {σ : mj_S} {τ : mj_T} {r : Nat} {x0 : Int32} {x1 : Int32} : mj_E 208 869 ls [.int x1, .int x0, .ref r] σ τ = if mj_rcv r 6 = true then mj_bd (mj_C 90 [.ref r, .int x0, .int x1] σ τ) (mj_K 208 872 ls []) else none := mj_clV (as := [.int x0, .int x1]) (r := []) i208_869 (by decide +kernel : mj_vk 208 90 2 0 3 false = true) (by decide +kernel)
theorem i208_872 : mj_ins 208 872 = some (.aload 2, 873) := by decide +kernel
theorem e208_872 {ls : mj_L} {st : List Value} {σ : mj_S} {τ : mj_T} {a0 a1 : Option Value} {v : Nat} : mj_E 208 872 (a0 :: a1 :: some (.ref v) :: ls) st σ τ = mj_E 208 873 (a0 :: a1 :: some (.ref v) :: ls) (.ref v :: st) σ τ := mj_nx i208_872 rfl
theorem i208_873 : mj_ins 208 873 = some (.aload 0, 874) := by decide +kernel
theorem e208_873 {ls : mj_L} {st : List Value} {σ : mj_S} {τ : mj_T} {v : Nat} : mj_E 208 873 (some (.ref v) :: ls) st σ τ = mj_E 208 874 (some (.ref v) :: ls) (.ref v :: st) σ τ := mj_nx i208_873 rfl
theorem i208_874 : mj_ins 208 874 = some (.iload 3, 875) := by decide +kernel
theorem e208_874 {ls : mj_L} {st : List Value} {σ : mj_S} {τ : mj_T} {a0 a1 a2 : Option Value} {v : Int32} : mj_E 208 874 (a0 :: a1 :: a2 :: some (.int v) :: ls) st σ τ = mj_E 208 875 (a0 :: a1 :: a2 :: some (.int v) :: ls) (.int v :: st) σ τ := mj_nx i208_874 rfl
theorem i208_875 : mj_ins 208 875 = some (.iconst (1), 876) := by decide +kernel
theorem e208_875 {ls : mj_L} {st : List Value} {σ : mj_S} {τ : mj_T} : mj_E 208 875 ls st σ τ = mj_E 208 876 ls (.int (nI 1) :: st) σ τ := mj_nx i208_875 rfl
theorem i208_876 : mj_ins 208 876 = some (.iadd, 877) := by decide +kernel
theorem e208_876 {ls : mj_L} {st : List Value} {σ : mj_S} {τ : mj_T} {x y : Int32} : mj_E 208 876 ls (.int y :: .int x :: st) σ τ = mj_E 208 877 ls (.int (x + y) :: st) σ τ := mj_nx i208_876 rfl
theorem i208_877 : mj_ins 208 877 = some (.iaload, 878) := by decide +kernel
theorem e208_877 {ls : mj_L} {st : List Value} {σ : mj_S} {τ : mj_T} {x : Int32} {k : Nat} : mj_E 208 877 ls (.int x :: .ref k :: st) σ τ = if mj_ib (mj_li σ k) x = true then mj_E 208 878 ls (.int (σ k x.toNatClampNeg) :: st) σ τ else none := mj_ald i208_877
theorem i208_878 : mj_ins 208 878 = some (.aload 0, 879) := by decide +kernel
theorem e208_878 {ls : mj_L} {st : List Value} {σ : mj_S} {τ : mj_T} {v : Nat} : mj_E 208 878 (some (.ref v) :: ls) st σ τ = mj_E 208 879 (some (.ref v) :: ls) (.ref v :: st) σ τ := mj_nx i208_878 rfl
theorem i208_879 : mj_ins 208 879 = some (.iload 3, 880) := by decide +kernel
theorem e208_879 {ls : mj_L} {st : List Value} {σ : mj_S} {τ : mj_T} {a0 a1 a2 : Option Value} {v : Int32} : mj_E 208 879 (a0 :: a1 :: a2 :: some (.int v) :: ls) st σ τ = mj_E 208 880 (a0 :: a1 :: a2 :: some (.int v) :: ls) (.int v :: st) σ τ := mj_nx i208_879 rfl
theorem i208_880 : mj_ins 208 880 = some (.iconst (2), 881) := by decide +kernel
theorem e208_880 {ls : mj_L} {st : List Value} {σ : mj_S} {τ : mj_T} : mj_E 208 880 ls st σ τ = mj_E 208 881 ls (.int (nI 2) :: st) σ τ := mj_nx i208_880 rfl
theorem i208_881 : mj_ins 208 881 = some (.iadd, 882) := by decide +kernel
theorem e208_881 {ls : mj_L} {st : List Value} {σ : mj_S} {τ : mj_T} {x y : Int32} : mj_E 208 881 ls (.int y :: .int x :: st) σ τ = mj_E 208 882 ls (.int (x + y) :: st) σ τ := mj_nx i208_881 rfl
theorem i208_882 : mj_ins 208 882 = some (.iaload, 883) := by decide +kernel
theorem e208_882 {ls : mj_L} {st : List Value} {σ : mj_S} {τ : mj_T} {x : Int32} {k : Nat} : mj_E 208 882 ls (.int x :: .ref k :: st) σ τ = if mj_ib (mj_li σ k) x = true then mj_E 208 883 ls (.int (σ k x.toNatClampNeg) :: st) σ τ else none := mj_ald i208_882
theorem i208_883 : mj_ins 208 883 = some (.invokevirtual 160, 886) := by decide +kernel
theorem e208_883 {ls : mj_L} {σ : mj_S} {τ : mj_T} {r : Nat} {x0 : Int32} {x1 : Int32} {w0 : Value} : mj_E 208 883 ls [.int x1, .int x0, .ref r, w0] σ τ = if mj_rcv r 7 = true then mj_bd (mj_C 160 [.ref r, .int x0, .int x1] σ τ) (mj_K 208 886 ls [w0]) else none := mj_clV (as := [.int x0, .int x1]) (r := [w0]) i208_883 (by decide +kernel : mj_vk 208 160 2 1 3 false = true) (by decide +kernel)
theorem i208_886 : mj_ins 208 886 = some (.if_icmp .eq 1448, 889) := by decide +kernel
theorem e208_886 {ls : mj_L} {st : List Value} {σ : mj_S} {τ : mj_T} {x y : Int32} : mj_E 208 886 ls (.int y :: .int x :: st) σ τ = if x = y then mj_E 208 1448 ls st σ τ else mj_E 208 889 ls st σ τ := (mj_ifi i208_886).trans (mj_cdT rfl)
theorem i208_889 : mj_ins 208 889 = some (.iconst (0), 890) := by decide +kernel
theorem e208_889 {ls : mj_L} {st : List Value} {σ : mj_S} {τ : mj_T} : mj_E 208 889 ls st σ τ = mj_E 208 890 ls (.int (nI 0) :: st) σ τ := mj_nx i208_889 rfl
theorem i208_890 : mj_ins 208 890 = some (.ireturn, 891) := by decide +kernel
theorem e208_890 {ls : mj_L} {σ : mj_S} {τ : mj_T} {v : Int32} : mj_E 208 890 ls [.int v] σ τ = if mj_ok (some .boolean) v = true then some (some (.int v), σ, τ) else none := mj_zrt i208_890 rfl
theorem i208_891 : mj_ins 208 891 = some (.aload 1, 892) := by decide +kernel
theorem e208_891 {ls : mj_L} {st : List Value} {σ : mj_S} {τ : mj_T} {a0 : Option Value} {v : Nat} : mj_E 208 891 (a0 :: some (.ref v) :: ls) st σ τ = mj_E 208 892 (a0 :: some (.ref v) :: ls) (.ref v :: st) σ τ := mj_nx i208_891 rfl
theorem i208_892 : mj_ins 208 892 = some (.aload 0, 893) := by decide +kernel
theorem e208_892 {ls : mj_L} {st : List Value} {σ : mj_S} {τ : mj_T} {v : Nat} : mj_E 208 892 (some (.ref v) :: ls) st σ τ = mj_E 208 893 (some (.ref v) :: ls) (.ref v :: st) σ τ := mj_nx i208_892 rfl
theorem i208_893 : mj_ins 208 893 = some (.iload 3, 894) := by decide +kernel
theorem e208_893 {ls : mj_L} {st : List Value} {σ : mj_S} {τ : mj_T} {a0 a1 a2 : Option Value} {v : Int32} : mj_E 208 893 (a0 :: a1 :: a2 :: some (.int v) :: ls) st σ τ = mj_E 208 894 (a0 :: a1 :: a2 :: some (.int v) :: ls) (.int v :: st) σ τ := mj_nx i208_893 rfl
theorem i208_894 : mj_ins 208 894 = some (.iconst (1), 895) := by decide +kernel
theorem e208_894 {ls : mj_L} {st : List Value} {σ : mj_S} {τ : mj_T} : mj_E 208 894 ls st σ τ = mj_E 208 895 ls (.int (nI 1) :: st) σ τ := mj_nx i208_894 rfl
theorem i208_895 : mj_ins 208 895 = some (.iadd, 896) := by decide +kernel
theorem e208_895 {ls : mj_L} {st : List Value} {σ : mj_S} {τ : mj_T} {x y : Int32} : mj_E 208 895 ls (.int y :: .int x :: st) σ τ = mj_E 208 896 ls (.int (x + y) :: st) σ τ := mj_nx i208_895 rfl
theorem i208_896 : mj_ins 208 896 = some (.iaload, 897) := by decide +kernel
theorem e208_896 {ls : mj_L} {st : List Value} {σ : mj_S} {τ : mj_T} {x : Int32} {k : Nat} : mj_E 208 896 ls (.int x :: .ref k :: st) σ τ = if mj_ib (mj_li σ k) x = true then mj_E 208 897 ls (.int (σ k x.toNatClampNeg) :: st) σ τ else none := mj_ald i208_896
theorem i208_897 : mj_ins 208 897 = some (.aload 0, 898) := by decide +kernel
theorem e208_897 {ls : mj_L} {st : List Value} {σ : mj_S} {τ : mj_T} {v : Nat} : mj_E 208 897 (some (.ref v) :: ls) st σ τ = mj_E 208 898 (some (.ref v) :: ls) (.ref v :: st) σ τ := mj_nx i208_897 rfl
theorem i208_898 : mj_ins 208 898 = some (.iload 3, 899) := by decide +kernel
theorem e208_898 {ls : mj_L} {st : List Value} {σ : mj_S} {τ : mj_T} {a0 a1 a2 : Option Value} {v : Int32} : mj_E 208 898 (a0 :: a1 :: a2 :: some (.int v) :: ls) st σ τ = mj_E 208 899 (a0 :: a1 :: a2 :: some (.int v) :: ls) (.int v :: st) σ τ := mj_nx i208_898 rfl
theorem i208_899 : mj_ins 208 899 = some (.iconst (2), 900) := by decide +kernel
theorem e208_899 {ls : mj_L} {st : List Value} {σ : mj_S} {τ : mj_T} : mj_E 208 899 ls st σ τ = mj_E 208 900 ls (.int (nI 2) :: st) σ τ := mj_nx i208_899 rfl
theorem i208_900 : mj_ins 208 900 = some (.iadd, 901) := by decide +kernel
theorem e208_900 {ls : mj_L} {st : List Value} {σ : mj_S} {τ : mj_T} {x y : Int32} : mj_E 208 900 ls (.int y :: .int x :: st) σ τ = mj_E 208 901 ls (.int (x + y) :: st) σ τ := mj_nx i208_900 rfl
theorem i208_901 : mj_ins 208 901 = some (.iaload, 902) := by decide +kernel
theorem e208_901 {ls : mj_L} {st : List Value} {σ : mj_S} {τ : mj_T} {x : Int32} {k : Nat} : mj_E 208 901 ls (.int x :: .ref k :: st) σ τ = if mj_ib (mj_li σ k) x = true then mj_E 208 902 ls (.int (σ k x.toNatClampNeg) :: st) σ τ else none := mj_ald i208_901
theorem i208_902 : mj_ins 208 902 = some (.invokevirtual 91, 905) := by decide +kernel
theorem e208_902 {ls : mj_L} {σ : mj_S} {τ : mj_T} {r : Nat} {x0 : Int32} {x1 : Int32} : mj_E 208 902 ls [.int x1, .int x0, .ref r] σ τ = if mj_rcv r 6 = true then mj_bd (mj_C 91 [.ref r, .int x0, .int x1] σ τ) (mj_K 208 905 ls []) else none := mj_clV (as := [.int x0, .int x1]) (r := []) i208_902 (by decide +kernel : mj_vk 208 91 2 0 3 false = true) (by decide +kernel)
theorem i208_905 : mj_ins 208 905 = some (.aload 2, 906) := by decide +kernel
theorem e208_905 {ls : mj_L} {st : List Value} {σ : mj_S} {τ : mj_T} {a0 a1 : Option Value} {v : Nat} : mj_E 208 905 (a0 :: a1 :: some (.ref v) :: ls) st σ τ = mj_E 208 906 (a0 :: a1 :: some (.ref v) :: ls) (.ref v :: st) σ τ := mj_nx i208_905 rfl
theorem i208_906 : mj_ins 208 906 = some (.aload 0, 907) := by decide +kernel
theorem e208_906 {ls : mj_L} {st : List Value} {σ : mj_S} {τ : mj_T} {v : Nat} : mj_E 208 906 (some (.ref v) :: ls) st σ τ = mj_E 208 907 (some (.ref v) :: ls) (.ref v :: st) σ τ := mj_nx i208_906 rfl
theorem i208_907 : mj_ins 208 907 = some (.iload 3, 908) := by decide +kernel
theorem e208_907 {ls : mj_L} {st : List Value} {σ : mj_S} {τ : mj_T} {a0 a1 a2 : Option Value} {v : Int32} : mj_E 208 907 (a0 :: a1 :: a2 :: some (.int v) :: ls) st σ τ = mj_E 208 908 (a0 :: a1 :: a2 :: some (.int v) :: ls) (.int v :: st) σ τ := mj_nx i208_907 rfl
theorem i208_908 : mj_ins 208 908 = some (.iconst (1), 909) := by decide +kernel
theorem e208_908 {ls : mj_L} {st : List Value} {σ : mj_S} {τ : mj_T} : mj_E 208 908 ls st σ τ = mj_E 208 909 ls (.int (nI 1) :: st) σ τ := mj_nx i208_908 rfl
theorem i208_909 : mj_ins 208 909 = some (.iadd, 910) := by decide +kernel
theorem e208_909 {ls : mj_L} {st : List Value} {σ : mj_S} {τ : mj_T} {x y : Int32} : mj_E 208 909 ls (.int y :: .int x :: st) σ τ = mj_E 208 910 ls (.int (x + y) :: st) σ τ := mj_nx i208_909 rfl
theorem i208_910 : mj_ins 208 910 = some (.iaload, 911) := by decide +kernel
theorem e208_910 {ls : mj_L} {st : List Value} {σ : mj_S} {τ : mj_T} {x : Int32} {k : Nat} : mj_E 208 910 ls (.int x :: .ref k :: st) σ τ = if mj_ib (mj_li σ k) x = true then mj_E 208 911 ls (.int (σ k x.toNatClampNeg) :: st) σ τ else none := mj_ald i208_910
theorem i208_911 : mj_ins 208 911 = some (.aload 0, 912) := by decide +kernel
theorem e208_911 {ls : mj_L} {st : List Value} {σ : mj_S} {τ : mj_T} {v : Nat} : mj_E 208 911 (some (.ref v) :: ls) st σ τ = mj_E 208 912 (some (.ref v) :: ls) (.ref v :: st) σ τ := mj_nx i208_911 rfl
theorem i208_912 : mj_ins 208 912 = some (.iload 3, 913) := by decide +kernel
theorem e208_912 {ls : mj_L} {st : List Value} {σ : mj_S} {τ : mj_T} {a0 a1 a2 : Option Value} {v : Int32} : mj_E 208 912 (a0 :: a1 :: a2 :: some (.int v) :: ls) st σ τ = mj_E 208 913 (a0 :: a1 :: a2 :: some (.int v) :: ls) (.int v :: st) σ τ := mj_nx i208_912 rfl
theorem i208_913 : mj_ins 208 913 = some (.iconst (2), 914) := by decide +kernel
theorem e208_913 {ls : mj_L} {st : List Value} {σ : mj_S} {τ : mj_T} : mj_E 208 913 ls st σ τ = mj_E 208 914 ls (.int (nI 2) :: st) σ τ := mj_nx i208_913 rfl
theorem i208_914 : mj_ins 208 914 = some (.iadd, 915) := by decide +kernel
theorem e208_914 {ls : mj_L} {st : List Value} {σ : mj_S} {τ : mj_T} {x y : Int32} : mj_E 208 914 ls (.int y :: .int x :: st) σ τ = mj_E 208 915 ls (.int (x + y) :: st) σ τ := mj_nx i208_914 rfl
theorem i208_915 : mj_ins 208 915 = some (.iaload, 916) := by decide +kernel
theorem e208_915 {ls : mj_L} {st : List Value} {σ : mj_S} {τ : mj_T} {x : Int32} {k : Nat} : mj_E 208 915 ls (.int x :: .ref k :: st) σ τ = if mj_ib (mj_li σ k) x = true then mj_E 208 916 ls (.int (σ k x.toNatClampNeg) :: st) σ τ else none := mj_ald i208_915
theorem i208_916 : mj_ins 208 916 = some (.invokevirtual 164, 919) := by decide +kernel
theorem e208_916 {ls : mj_L} {σ : mj_S} {τ : mj_T} {r : Nat} {x0 : Int32} {x1 : Int32} {w0 : Value} : mj_E 208 916 ls [.int x1, .int x0, .ref r, w0] σ τ = if mj_rcv r 7 = true then mj_bd (mj_C 164 [.ref r, .int x0, .int x1] σ τ) (mj_K 208 919 ls [w0]) else none := mj_clV (as := [.int x0, .int x1]) (r := [w0]) i208_916 (by decide +kernel : mj_vk 208 164 2 1 3 false = true) (by decide +kernel)
theorem i208_919 : mj_ins 208 919 = some (.if_icmp .eq 1448, 922) := by decide +kernel
theorem e208_919 {ls : mj_L} {st : List Value} {σ : mj_S} {τ : mj_T} {x y : Int32} : mj_E 208 919 ls (.int y :: .int x :: st) σ τ = if x = y then mj_E 208 1448 ls st σ τ else mj_E 208 922 ls st σ τ := (mj_ifi i208_919).trans (mj_cdT rfl)
theorem i208_922 : mj_ins 208 922 = some (.iconst (0), 923) := by decide +kernel
theorem e208_922 {ls : mj_L} {st : List Value} {σ : mj_S} {τ : mj_T} : mj_E 208 922 ls st σ τ = mj_E 208 923 ls (.int (nI 0) :: st) σ τ := mj_nx i208_922 rfl
theorem i208_923 : mj_ins 208 923 = some (.ireturn, 924) := by decide +kernel
theorem e208_923 {ls : mj_L} {σ : mj_S} {τ : mj_T} {v : Int32} : mj_E 208 923 ls [.int v] σ τ = if mj_ok (some .boolean) v = true then some (some (.int v), σ, τ) else none := mj_zrt i208_923 rfl
theorem i208_924 : mj_ins 208 924 = some (.aload 1, 925) := by decide +kernel
theorem e208_924 {ls : mj_L} {st : List Value} {σ : mj_S} {τ : mj_T} {a0 : Option Value} {v : Nat} : mj_E 208 924 (a0 :: some (.ref v) :: ls) st σ τ = mj_E 208 925 (a0 :: some (.ref v) :: ls) (.ref v :: st) σ τ := mj_nx i208_924 rfl
theorem i208_925 : mj_ins 208 925 = some (.aload 0, 926) := by decide +kernel
theorem e208_925 {ls : mj_L} {st : List Value} {σ : mj_S} {τ : mj_T} {v : Nat} : mj_E 208 925 (some (.ref v) :: ls) st σ τ = mj_E 208 926 (some (.ref v) :: ls) (.ref v :: st) σ τ := mj_nx i208_925 rfl
theorem i208_926 : mj_ins 208 926 = some (.iload 3, 927) := by decide +kernel
theorem e208_926 {ls : mj_L} {st : List Value} {σ : mj_S} {τ : mj_T} {a0 a1 a2 : Option Value} {v : Int32} : mj_E 208 926 (a0 :: a1 :: a2 :: some (.int v) :: ls) st σ τ = mj_E 208 927 (a0 :: a1 :: a2 :: some (.int v) :: ls) (.int v :: st) σ τ := mj_nx i208_926 rfl
theorem i208_927 : mj_ins 208 927 = some (.iconst (1), 928) := by decide +kernel
theorem e208_927 {ls : mj_L} {st : List Value} {σ : mj_S} {τ : mj_T} : mj_E 208 927 ls st σ τ = mj_E 208 928 ls (.int (nI 1) :: st) σ τ := mj_nx i208_927 rfl
theorem i208_928 : mj_ins 208 928 = some (.iadd, 929) := by decide +kernel
theorem e208_928 {ls : mj_L} {st : List Value} {σ : mj_S} {τ : mj_T} {x y : Int32} : mj_E 208 928 ls (.int y :: .int x :: st) σ τ = mj_E 208 929 ls (.int (x + y) :: st) σ τ := mj_nx i208_928 rfl
theorem i208_929 : mj_ins 208 929 = some (.iaload, 930) := by decide +kernel
theorem e208_929 {ls : mj_L} {st : List Value} {σ : mj_S} {τ : mj_T} {x : Int32} {k : Nat} : mj_E 208 929 ls (.int x :: .ref k :: st) σ τ = if mj_ib (mj_li σ k) x = true then mj_E 208 930 ls (.int (σ k x.toNatClampNeg) :: st) σ τ else none := mj_ald i208_929
theorem i208_930 : mj_ins 208 930 = some (.invokevirtual 92, 933) := by decide +kernel
theorem e208_930 {ls : mj_L} {σ : mj_S} {τ : mj_T} {r : Nat} {x0 : Int32} : mj_E 208 930 ls [.int x0, .ref r] σ τ = if mj_rcv r 6 = true then mj_bd (mj_C 92 [.ref r, .int x0] σ τ) (mj_K 208 933 ls []) else none := mj_clV (as := [.int x0]) (r := []) i208_930 (by decide +kernel : mj_vk 208 92 1 0 2 false = true) (by decide +kernel)
theorem i208_933 : mj_ins 208 933 = some (.aload 2, 934) := by decide +kernel
theorem e208_933 {ls : mj_L} {st : List Value} {σ : mj_S} {τ : mj_T} {a0 a1 : Option Value} {v : Nat} : mj_E 208 933 (a0 :: a1 :: some (.ref v) :: ls) st σ τ = mj_E 208 934 (a0 :: a1 :: some (.ref v) :: ls) (.ref v :: st) σ τ := mj_nx i208_933 rfl
theorem i208_934 : mj_ins 208 934 = some (.aload 0, 935) := by decide +kernel
theorem e208_934 {ls : mj_L} {st : List Value} {σ : mj_S} {τ : mj_T} {v : Nat} : mj_E 208 934 (some (.ref v) :: ls) st σ τ = mj_E 208 935 (some (.ref v) :: ls) (.ref v :: st) σ τ := mj_nx i208_934 rfl
theorem i208_935 : mj_ins 208 935 = some (.iload 3, 936) := by decide +kernel
theorem e208_935 {ls : mj_L} {st : List Value} {σ : mj_S} {τ : mj_T} {a0 a1 a2 : Option Value} {v : Int32} : mj_E 208 935 (a0 :: a1 :: a2 :: some (.int v) :: ls) st σ τ = mj_E 208 936 (a0 :: a1 :: a2 :: some (.int v) :: ls) (.int v :: st) σ τ := mj_nx i208_935 rfl
theorem i208_936 : mj_ins 208 936 = some (.iconst (1), 937) := by decide +kernel
theorem e208_936 {ls : mj_L} {st : List Value} {σ : mj_S} {τ : mj_T} : mj_E 208 936 ls st σ τ = mj_E 208 937 ls (.int (nI 1) :: st) σ τ := mj_nx i208_936 rfl
theorem i208_937 : mj_ins 208 937 = some (.iadd, 938) := by decide +kernel
theorem e208_937 {ls : mj_L} {st : List Value} {σ : mj_S} {τ : mj_T} {x y : Int32} : mj_E 208 937 ls (.int y :: .int x :: st) σ τ = mj_E 208 938 ls (.int (x + y) :: st) σ τ := mj_nx i208_937 rfl
theorem i208_938 : mj_ins 208 938 = some (.iaload, 939) := by decide +kernel
theorem e208_938 {ls : mj_L} {st : List Value} {σ : mj_S} {τ : mj_T} {x : Int32} {k : Nat} : mj_E 208 938 ls (.int x :: .ref k :: st) σ τ = if mj_ib (mj_li σ k) x = true then mj_E 208 939 ls (.int (σ k x.toNatClampNeg) :: st) σ τ else none := mj_ald i208_938
theorem i208_939 : mj_ins 208 939 = some (.invokevirtual 165, 942) := by decide +kernel
theorem e208_939 {ls : mj_L} {σ : mj_S} {τ : mj_T} {r : Nat} {x0 : Int32} {w0 : Value} : mj_E 208 939 ls [.int x0, .ref r, w0] σ τ = if mj_rcv r 7 = true then mj_bd (mj_C 165 [.ref r, .int x0] σ τ) (mj_K 208 942 ls [w0]) else none := mj_clV (as := [.int x0]) (r := [w0]) i208_939 (by decide +kernel : mj_vk 208 165 1 1 2 false = true) (by decide +kernel)
theorem i208_942 : mj_ins 208 942 = some (.if_icmp .eq 1448, 945) := by decide +kernel
theorem e208_942 {ls : mj_L} {st : List Value} {σ : mj_S} {τ : mj_T} {x y : Int32} : mj_E 208 942 ls (.int y :: .int x :: st) σ τ = if x = y then mj_E 208 1448 ls st σ τ else mj_E 208 945 ls st σ τ := (mj_ifi i208_942).trans (mj_cdT rfl)
theorem i208_945 : mj_ins 208 945 = some (.iconst (0), 946) := by decide +kernel
theorem e208_945 {ls : mj_L} {st : List Value} {σ : mj_S} {τ : mj_T} : mj_E 208 945 ls st σ τ = mj_E 208 946 ls (.int (nI 0) :: st) σ τ := mj_nx i208_945 rfl
theorem i208_946 : mj_ins 208 946 = some (.ireturn, 947) := by decide +kernel
theorem e208_946 {ls : mj_L} {σ : mj_S} {τ : mj_T} {v : Int32} : mj_E 208 946 ls [.int v] σ τ = if mj_ok (some .boolean) v = true then some (some (.int v), σ, τ) else none := mj_zrt i208_946 rfl
theorem i208_947 : mj_ins 208 947 = some (.aload 1, 948) := by decide +kernel
theorem e208_947 {ls : mj_L} {st : List Value} {σ : mj_S} {τ : mj_T} {a0 : Option Value} {v : Nat} : mj_E 208 947 (a0 :: some (.ref v) :: ls) st σ τ = mj_E 208 948 (a0 :: some (.ref v) :: ls) (.ref v :: st) σ τ := mj_nx i208_947 rfl
theorem i208_948 : mj_ins 208 948 = some (.aload 0, 949) := by decide +kernel
theorem e208_948 {ls : mj_L} {st : List Value} {σ : mj_S} {τ : mj_T} {v : Nat} : mj_E 208 948 (some (.ref v) :: ls) st σ τ = mj_E 208 949 (some (.ref v) :: ls) (.ref v :: st) σ τ := mj_nx i208_948 rfl
theorem i208_949 : mj_ins 208 949 = some (.iload 3, 950) := by decide +kernel
theorem e208_949 {ls : mj_L} {st : List Value} {σ : mj_S} {τ : mj_T} {a0 a1 a2 : Option Value} {v : Int32} : mj_E 208 949 (a0 :: a1 :: a2 :: some (.int v) :: ls) st σ τ = mj_E 208 950 (a0 :: a1 :: a2 :: some (.int v) :: ls) (.int v :: st) σ τ := mj_nx i208_949 rfl
theorem i208_950 : mj_ins 208 950 = some (.iconst (1), 951) := by decide +kernel
theorem e208_950 {ls : mj_L} {st : List Value} {σ : mj_S} {τ : mj_T} : mj_E 208 950 ls st σ τ = mj_E 208 951 ls (.int (nI 1) :: st) σ τ := mj_nx i208_950 rfl
theorem i208_951 : mj_ins 208 951 = some (.iadd, 952) := by decide +kernel
theorem e208_951 {ls : mj_L} {st : List Value} {σ : mj_S} {τ : mj_T} {x y : Int32} : mj_E 208 951 ls (.int y :: .int x :: st) σ τ = mj_E 208 952 ls (.int (x + y) :: st) σ τ := mj_nx i208_951 rfl
theorem i208_952 : mj_ins 208 952 = some (.iaload, 953) := by decide +kernel
theorem e208_952 {ls : mj_L} {st : List Value} {σ : mj_S} {τ : mj_T} {x : Int32} {k : Nat} : mj_E 208 952 ls (.int x :: .ref k :: st) σ τ = if mj_ib (mj_li σ k) x = true then mj_E 208 953 ls (.int (σ k x.toNatClampNeg) :: st) σ τ else none := mj_ald i208_952
theorem i208_953 : mj_ins 208 953 = some (.invokevirtual 93, 956) := by decide +kernel
theorem e208_953 {ls : mj_L} {σ : mj_S} {τ : mj_T} {r : Nat} {x0 : Int32} : mj_E 208 953 ls [.int x0, .ref r] σ τ = if mj_rcv r 6 = true then mj_bd (mj_C 93 [.ref r, .int x0] σ τ) (mj_K 208 956 ls []) else none := mj_clV (as := [.int x0]) (r := []) i208_953 (by decide +kernel : mj_vk 208 93 1 0 2 false = true) (by decide +kernel)
theorem i208_956 : mj_ins 208 956 = some (.aload 2, 957) := by decide +kernel
theorem e208_956 {ls : mj_L} {st : List Value} {σ : mj_S} {τ : mj_T} {a0 a1 : Option Value} {v : Nat} : mj_E 208 956 (a0 :: a1 :: some (.ref v) :: ls) st σ τ = mj_E 208 957 (a0 :: a1 :: some (.ref v) :: ls) (.ref v :: st) σ τ := mj_nx i208_956 rfl
theorem i208_957 : mj_ins 208 957 = some (.aload 0, 958) := by decide +kernel
theorem e208_957 {ls : mj_L} {st : List Value} {σ : mj_S} {τ : mj_T} {v : Nat} : mj_E 208 957 (some (.ref v) :: ls) st σ τ = mj_E 208 958 (some (.ref v) :: ls) (.ref v :: st) σ τ := mj_nx i208_957 rfl
theorem i208_958 : mj_ins 208 958 = some (.iload 3, 959) := by decide +kernel
theorem e208_958 {ls : mj_L} {st : List Value} {σ : mj_S} {τ : mj_T} {a0 a1 a2 : Option Value} {v : Int32} : mj_E 208 958 (a0 :: a1 :: a2 :: some (.int v) :: ls) st σ τ = mj_E 208 959 (a0 :: a1 :: a2 :: some (.int v) :: ls) (.int v :: st) σ τ := mj_nx i208_958 rfl
theorem i208_959 : mj_ins 208 959 = some (.iconst (1), 960) := by decide +kernel
theorem e208_959 {ls : mj_L} {st : List Value} {σ : mj_S} {τ : mj_T} : mj_E 208 959 ls st σ τ = mj_E 208 960 ls (.int (nI 1) :: st) σ τ := mj_nx i208_959 rfl
theorem i208_960 : mj_ins 208 960 = some (.iadd, 961) := by decide +kernel
theorem e208_960 {ls : mj_L} {st : List Value} {σ : mj_S} {τ : mj_T} {x y : Int32} : mj_E 208 960 ls (.int y :: .int x :: st) σ τ = mj_E 208 961 ls (.int (x + y) :: st) σ τ := mj_nx i208_960 rfl
theorem i208_961 : mj_ins 208 961 = some (.iaload, 962) := by decide +kernel
theorem e208_961 {ls : mj_L} {st : List Value} {σ : mj_S} {τ : mj_T} {x : Int32} {k : Nat} : mj_E 208 961 ls (.int x :: .ref k :: st) σ τ = if mj_ib (mj_li σ k) x = true then mj_E 208 962 ls (.int (σ k x.toNatClampNeg) :: st) σ τ else none := mj_ald i208_961
theorem i208_962 : mj_ins 208 962 = some (.invokevirtual 170, 965) := by decide +kernel
theorem e208_962 {ls : mj_L} {σ : mj_S} {τ : mj_T} {r : Nat} {x0 : Int32} {w0 : Value} : mj_E 208 962 ls [.int x0, .ref r, w0] σ τ = if mj_rcv r 7 = true then mj_bd (mj_C 170 [.ref r, .int x0] σ τ) (mj_K 208 965 ls [w0]) else none := mj_clV (as := [.int x0]) (r := [w0]) i208_962 (by decide +kernel : mj_vk 208 170 1 1 2 false = true) (by decide +kernel)
theorem i208_965 : mj_ins 208 965 = some (.if_icmp .eq 1448, 968) := by decide +kernel
theorem e208_965 {ls : mj_L} {st : List Value} {σ : mj_S} {τ : mj_T} {x y : Int32} : mj_E 208 965 ls (.int y :: .int x :: st) σ τ = if x = y then mj_E 208 1448 ls st σ τ else mj_E 208 968 ls st σ τ := (mj_ifi i208_965).trans (mj_cdT rfl)
theorem i208_968 : mj_ins 208 968 = some (.iconst (0), 969) := by decide +kernel
theorem e208_968 {ls : mj_L} {st : List Value} {σ : mj_S} {τ : mj_T} : mj_E 208 968 ls st σ τ = mj_E 208 969 ls (.int (nI 0) :: st) σ τ := mj_nx i208_968 rfl
theorem i208_969 : mj_ins 208 969 = some (.ireturn, 970) := by decide +kernel
theorem e208_969 {ls : mj_L} {σ : mj_S} {τ : mj_T} {v : Int32} : mj_E 208 969 ls [.int v] σ τ = if mj_ok (some .boolean) v = true then some (some (.int v), σ, τ) else none := mj_zrt i208_969 rfl
theorem i208_970 : mj_ins 208 970 = some (.aload 1, 971) := by decide +kernel
theorem e208_970 {ls : mj_L} {st : List Value} {σ : mj_S} {τ : mj_T} {a0 : Option Value} {v : Nat} : mj_E 208 970 (a0 :: some (.ref v) :: ls) st σ τ = mj_E 208 971 (a0 :: some (.ref v) :: ls) (.ref v :: st) σ τ := mj_nx i208_970 rfl
theorem i208_971 : mj_ins 208 971 = some (.aload 0, 972) := by decide +kernel
theorem e208_971 {ls : mj_L} {st : List Value} {σ : mj_S} {τ : mj_T} {v : Nat} : mj_E 208 971 (some (.ref v) :: ls) st σ τ = mj_E 208 972 (some (.ref v) :: ls) (.ref v :: st) σ τ := mj_nx i208_971 rfl
theorem i208_972 : mj_ins 208 972 = some (.iload 3, 973) := by decide +kernel
theorem e208_972 {ls : mj_L} {st : List Value} {σ : mj_S} {τ : mj_T} {a0 a1 a2 : Option Value} {v : Int32} : mj_E 208 972 (a0 :: a1 :: a2 :: some (.int v) :: ls) st σ τ = mj_E 208 973 (a0 :: a1 :: a2 :: some (.int v) :: ls) (.int v :: st) σ τ := mj_nx i208_972 rfl
theorem i208_973 : mj_ins 208 973 = some (.iconst (1), 974) := by decide +kernel
theorem e208_973 {ls : mj_L} {st : List Value} {σ : mj_S} {τ : mj_T} : mj_E 208 973 ls st σ τ = mj_E 208 974 ls (.int (nI 1) :: st) σ τ := mj_nx i208_973 rfl
theorem i208_974 : mj_ins 208 974 = some (.iadd, 975) := by decide +kernel
theorem e208_974 {ls : mj_L} {st : List Value} {σ : mj_S} {τ : mj_T} {x y : Int32} : mj_E 208 974 ls (.int y :: .int x :: st) σ τ = mj_E 208 975 ls (.int (x + y) :: st) σ τ := mj_nx i208_974 rfl
theorem i208_975 : mj_ins 208 975 = some (.iaload, 976) := by decide +kernel
theorem e208_975 {ls : mj_L} {st : List Value} {σ : mj_S} {τ : mj_T} {x : Int32} {k : Nat} : mj_E 208 975 ls (.int x :: .ref k :: st) σ τ = if mj_ib (mj_li σ k) x = true then mj_E 208 976 ls (.int (σ k x.toNatClampNeg) :: st) σ τ else none := mj_ald i208_975
theorem i208_976 : mj_ins 208 976 = some (.aload 0, 977) := by decide +kernel
theorem e208_976 {ls : mj_L} {st : List Value} {σ : mj_S} {τ : mj_T} {v : Nat} : mj_E 208 976 (some (.ref v) :: ls) st σ τ = mj_E 208 977 (some (.ref v) :: ls) (.ref v :: st) σ τ := mj_nx i208_976 rfl
theorem i208_977 : mj_ins 208 977 = some (.iload 3, 978) := by decide +kernel
theorem e208_977 {ls : mj_L} {st : List Value} {σ : mj_S} {τ : mj_T} {a0 a1 a2 : Option Value} {v : Int32} : mj_E 208 977 (a0 :: a1 :: a2 :: some (.int v) :: ls) st σ τ = mj_E 208 978 (a0 :: a1 :: a2 :: some (.int v) :: ls) (.int v :: st) σ τ := mj_nx i208_977 rfl
theorem i208_978 : mj_ins 208 978 = some (.iconst (2), 979) := by decide +kernel
theorem e208_978 {ls : mj_L} {st : List Value} {σ : mj_S} {τ : mj_T} : mj_E 208 978 ls st σ τ = mj_E 208 979 ls (.int (nI 2) :: st) σ τ := mj_nx i208_978 rfl
theorem i208_979 : mj_ins 208 979 = some (.iadd, 980) := by decide +kernel
theorem e208_979 {ls : mj_L} {st : List Value} {σ : mj_S} {τ : mj_T} {x y : Int32} : mj_E 208 979 ls (.int y :: .int x :: st) σ τ = mj_E 208 980 ls (.int (x + y) :: st) σ τ := mj_nx i208_979 rfl
theorem i208_980 : mj_ins 208 980 = some (.iaload, 981) := by decide +kernel
theorem e208_980 {ls : mj_L} {st : List Value} {σ : mj_S} {τ : mj_T} {x : Int32} {k : Nat} : mj_E 208 980 ls (.int x :: .ref k :: st) σ τ = if mj_ib (mj_li σ k) x = true then mj_E 208 981 ls (.int (σ k x.toNatClampNeg) :: st) σ τ else none := mj_ald i208_980
theorem i208_981 : mj_ins 208 981 = some (.aload 0, 982) := by decide +kernel
theorem e208_981 {ls : mj_L} {st : List Value} {σ : mj_S} {τ : mj_T} {v : Nat} : mj_E 208 981 (some (.ref v) :: ls) st σ τ = mj_E 208 982 (some (.ref v) :: ls) (.ref v :: st) σ τ := mj_nx i208_981 rfl
theorem i208_982 : mj_ins 208 982 = some (.iload 3, 983) := by decide +kernel
theorem e208_982 {ls : mj_L} {st : List Value} {σ : mj_S} {τ : mj_T} {a0 a1 a2 : Option Value} {v : Int32} : mj_E 208 982 (a0 :: a1 :: a2 :: some (.int v) :: ls) st σ τ = mj_E 208 983 (a0 :: a1 :: a2 :: some (.int v) :: ls) (.int v :: st) σ τ := mj_nx i208_982 rfl
theorem i208_983 : mj_ins 208 983 = some (.iconst (3), 984) := by decide +kernel
theorem e208_983 {ls : mj_L} {st : List Value} {σ : mj_S} {τ : mj_T} : mj_E 208 983 ls st σ τ = mj_E 208 984 ls (.int (nI 3) :: st) σ τ := mj_nx i208_983 rfl
theorem i208_984 : mj_ins 208 984 = some (.iadd, 985) := by decide +kernel
theorem e208_984 {ls : mj_L} {st : List Value} {σ : mj_S} {τ : mj_T} {x y : Int32} : mj_E 208 984 ls (.int y :: .int x :: st) σ τ = mj_E 208 985 ls (.int (x + y) :: st) σ τ := mj_nx i208_984 rfl
theorem i208_985 : mj_ins 208 985 = some (.iaload, 986) := by decide +kernel
theorem e208_985 {ls : mj_L} {st : List Value} {σ : mj_S} {τ : mj_T} {x : Int32} {k : Nat} : mj_E 208 985 ls (.int x :: .ref k :: st) σ τ = if mj_ib (mj_li σ k) x = true then mj_E 208 986 ls (.int (σ k x.toNatClampNeg) :: st) σ τ else none := mj_ald i208_985
theorem i208_986 : mj_ins 208 986 = some (.invokevirtual 94, 989) := by decide +kernel
theorem e208_986 {ls : mj_L} {σ : mj_S} {τ : mj_T} {r : Nat} {x0 : Int32} {x1 : Int32} {x2 : Int32} : mj_E 208 986 ls [.int x2, .int x1, .int x0, .ref r] σ τ = if mj_rcv r 6 = true then mj_bd (mj_C 94 [.ref r, .int x0, .int x1, .int x2] σ τ) (mj_K 208 989 ls []) else none := mj_clV (as := [.int x0, .int x1, .int x2]) (r := []) i208_986 (by decide +kernel : mj_vk 208 94 3 0 4 false = true) (by decide +kernel)
theorem i208_989 : mj_ins 208 989 = some (.aload 2, 990) := by decide +kernel
theorem e208_989 {ls : mj_L} {st : List Value} {σ : mj_S} {τ : mj_T} {a0 a1 : Option Value} {v : Nat} : mj_E 208 989 (a0 :: a1 :: some (.ref v) :: ls) st σ τ = mj_E 208 990 (a0 :: a1 :: some (.ref v) :: ls) (.ref v :: st) σ τ := mj_nx i208_989 rfl
theorem i208_990 : mj_ins 208 990 = some (.aload 0, 991) := by decide +kernel
theorem e208_990 {ls : mj_L} {st : List Value} {σ : mj_S} {τ : mj_T} {v : Nat} : mj_E 208 990 (some (.ref v) :: ls) st σ τ = mj_E 208 991 (some (.ref v) :: ls) (.ref v :: st) σ τ := mj_nx i208_990 rfl
theorem i208_991 : mj_ins 208 991 = some (.iload 3, 992) := by decide +kernel
theorem e208_991 {ls : mj_L} {st : List Value} {σ : mj_S} {τ : mj_T} {a0 a1 a2 : Option Value} {v : Int32} : mj_E 208 991 (a0 :: a1 :: a2 :: some (.int v) :: ls) st σ τ = mj_E 208 992 (a0 :: a1 :: a2 :: some (.int v) :: ls) (.int v :: st) σ τ := mj_nx i208_991 rfl
theorem i208_992 : mj_ins 208 992 = some (.iconst (1), 993) := by decide +kernel
theorem e208_992 {ls : mj_L} {st : List Value} {σ : mj_S} {τ : mj_T} : mj_E 208 992 ls st σ τ = mj_E 208 993 ls (.int (nI 1) :: st) σ τ := mj_nx i208_992 rfl
theorem i208_993 : mj_ins 208 993 = some (.iadd, 994) := by decide +kernel
theorem e208_993 {ls : mj_L} {st : List Value} {σ : mj_S} {τ : mj_T} {x y : Int32} : mj_E 208 993 ls (.int y :: .int x :: st) σ τ = mj_E 208 994 ls (.int (x + y) :: st) σ τ := mj_nx i208_993 rfl
theorem i208_994 : mj_ins 208 994 = some (.iaload, 995) := by decide +kernel
theorem e208_994 {ls : mj_L} {st : List Value} {σ : mj_S} {τ : mj_T} {x : Int32} {k : Nat} : mj_E 208 994 ls (.int x :: .ref k :: st) σ τ = if mj_ib (mj_li σ k) x = true then mj_E 208 995 ls (.int (σ k x.toNatClampNeg) :: st) σ τ else none := mj_ald i208_994
theorem i208_995 : mj_ins 208 995 = some (.aload 0, 996) := by decide +kernel
theorem e208_995 {ls : mj_L} {st : List Value} {σ : mj_S} {τ : mj_T} {v : Nat} : mj_E 208 995 (some (.ref v) :: ls) st σ τ = mj_E 208 996 (some (.ref v) :: ls) (.ref v :: st) σ τ := mj_nx i208_995 rfl
theorem i208_996 : mj_ins 208 996 = some (.iload 3, 997) := by decide +kernel
theorem e208_996 {ls : mj_L} {st : List Value} {σ : mj_S} {τ : mj_T} {a0 a1 a2 : Option Value} {v : Int32} : mj_E 208 996 (a0 :: a1 :: a2 :: some (.int v) :: ls) st σ τ = mj_E 208 997 (a0 :: a1 :: a2 :: some (.int v) :: ls) (.int v :: st) σ τ := mj_nx i208_996 rfl
theorem i208_997 : mj_ins 208 997 = some (.iconst (2), 998) := by decide +kernel
theorem e208_997 {ls : mj_L} {st : List Value} {σ : mj_S} {τ : mj_T} : mj_E 208 997 ls st σ τ = mj_E 208 998 ls (.int (nI 2) :: st) σ τ := mj_nx i208_997 rfl
theorem i208_998 : mj_ins 208 998 = some (.iadd, 999) := by decide +kernel
theorem e208_998 {ls : mj_L} {st : List Value} {σ : mj_S} {τ : mj_T} {x y : Int32} : mj_E 208 998 ls (.int y :: .int x :: st) σ τ = mj_E 208 999 ls (.int (x + y) :: st) σ τ := mj_nx i208_998 rfl
theorem i208_999 : mj_ins 208 999 = some (.iaload, 1000) := by decide +kernel
theorem e208_999 {ls : mj_L} {st : List Value} {σ : mj_S} {τ : mj_T} {x : Int32} {k : Nat} : mj_E 208 999 ls (.int x :: .ref k :: st) σ τ = if mj_ib (mj_li σ k) x = true then mj_E 208 1000 ls (.int (σ k x.toNatClampNeg) :: st) σ τ else none := mj_ald i208_999
theorem i208_1000 : mj_ins 208 1000 = some (.aload 0, 1001) := by decide +kernel
theorem e208_1000 {ls : mj_L} {st : List Value} {σ : mj_S} {τ : mj_T} {v : Nat} : mj_E 208 1000 (some (.ref v) :: ls) st σ τ = mj_E 208 1001 (some (.ref v) :: ls) (.ref v :: st) σ τ := mj_nx i208_1000 rfl
theorem i208_1001 : mj_ins 208 1001 = some (.iload 3, 1002) := by decide +kernel
theorem e208_1001 {ls : mj_L} {st : List Value} {σ : mj_S} {τ : mj_T} {a0 a1 a2 : Option Value} {v : Int32} : mj_E 208 1001 (a0 :: a1 :: a2 :: some (.int v) :: ls) st σ τ = mj_E 208 1002 (a0 :: a1 :: a2 :: some (.int v) :: ls) (.int v :: st) σ τ := mj_nx i208_1001 rfl
theorem i208_1002 : mj_ins 208 1002 = some (.iconst (3), 1003) := by decide +kernel
theorem e208_1002 {ls : mj_L} {st : List Value} {σ : mj_S} {τ : mj_T} : mj_E 208 1002 ls st σ τ = mj_E 208 1003 ls (.int (nI 3) :: st) σ τ := mj_nx i208_1002 rfl
theorem i208_1003 : mj_ins 208 1003 = some (.iadd, 1004) := by decide +kernel
theorem e208_1003 {ls : mj_L} {st : List Value} {σ : mj_S} {τ : mj_T} {x y : Int32} : mj_E 208 1003 ls (.int y :: .int x :: st) σ τ = mj_E 208 1004 ls (.int (x + y) :: st) σ τ := mj_nx i208_1003 rfl
theorem i208_1004 : mj_ins 208 1004 = some (.iaload, 1005) := by decide +kernel
theorem e208_1004 {ls : mj_L} {st : List Value} {σ : mj_S} {τ : mj_T} {x : Int32} {k : Nat} : mj_E 208 1004 ls (.int x :: .ref k :: st) σ τ = if mj_ib (mj_li σ k) x = true then mj_E 208 1005 ls (.int (σ k x.toNatClampNeg) :: st) σ τ else none := mj_ald i208_1004
theorem i208_1005 : mj_ins 208 1005 = some (.invokevirtual 172, 1008) := by decide +kernel
theorem e208_1005 {ls : mj_L} {σ : mj_S} {τ : mj_T} {r : Nat} {x0 : Int32} {x1 : Int32} {x2 : Int32} {w0 : Value} : mj_E 208 1005 ls [.int x2, .int x1, .int x0, .ref r, w0] σ τ = if mj_rcv r 7 = true then mj_bd (mj_C 172 [.ref r, .int x0, .int x1, .int x2] σ τ) (mj_K 208 1008 ls [w0]) else none := mj_clV (as := [.int x0, .int x1, .int x2]) (r := [w0]) i208_1005 (by decide +kernel : mj_vk 208 172 3 1 4 false = true) (by decide +kernel)
theorem i208_1008 : mj_ins 208 1008 = some (.if_icmp .eq 1448, 1011) := by decide +kernel
theorem e208_1008 {ls : mj_L} {st : List Value} {σ : mj_S} {τ : mj_T} {x y : Int32} : mj_E 208 1008 ls (.int y :: .int x :: st) σ τ = if x = y then mj_E 208 1448 ls st σ τ else mj_E 208 1011 ls st σ τ := (mj_ifi i208_1008).trans (mj_cdT rfl)
theorem i208_1011 : mj_ins 208 1011 = some (.iconst (0), 1012) := by decide +kernel
theorem e208_1011 {ls : mj_L} {st : List Value} {σ : mj_S} {τ : mj_T} : mj_E 208 1011 ls st σ τ = mj_E 208 1012 ls (.int (nI 0) :: st) σ τ := mj_nx i208_1011 rfl
theorem i208_1012 : mj_ins 208 1012 = some (.ireturn, 1013) := by decide +kernel
theorem e208_1012 {ls : mj_L} {σ : mj_S} {τ : mj_T} {v : Int32} : mj_E 208 1012 ls [.int v] σ τ = if mj_ok (some .boolean) v = true then some (some (.int v), σ, τ) else none := mj_zrt i208_1012 rfl
theorem i208_1013 : mj_ins 208 1013 = some (.aload 1, 1014) := by decide +kernel
theorem e208_1013 {ls : mj_L} {st : List Value} {σ : mj_S} {τ : mj_T} {a0 : Option Value} {v : Nat} : mj_E 208 1013 (a0 :: some (.ref v) :: ls) st σ τ = mj_E 208 1014 (a0 :: some (.ref v) :: ls) (.ref v :: st) σ τ := mj_nx i208_1013 rfl
theorem i208_1014 : mj_ins 208 1014 = some (.aload 0, 1015) := by decide +kernel
theorem e208_1014 {ls : mj_L} {st : List Value} {σ : mj_S} {τ : mj_T} {v : Nat} : mj_E 208 1014 (some (.ref v) :: ls) st σ τ = mj_E 208 1015 (some (.ref v) :: ls) (.ref v :: st) σ τ := mj_nx i208_1014 rfl
theorem i208_1015 : mj_ins 208 1015 = some (.iload 3, 1016) := by decide +kernel
theorem e208_1015 {ls : mj_L} {st : List Value} {σ : mj_S} {τ : mj_T} {a0 a1 a2 : Option Value} {v : Int32} : mj_E 208 1015 (a0 :: a1 :: a2 :: some (.int v) :: ls) st σ τ = mj_E 208 1016 (a0 :: a1 :: a2 :: some (.int v) :: ls) (.int v :: st) σ τ := mj_nx i208_1015 rfl
theorem i208_1016 : mj_ins 208 1016 = some (.iconst (1), 1017) := by decide +kernel
theorem e208_1016 {ls : mj_L} {st : List Value} {σ : mj_S} {τ : mj_T} : mj_E 208 1016 ls st σ τ = mj_E 208 1017 ls (.int (nI 1) :: st) σ τ := mj_nx i208_1016 rfl
theorem i208_1017 : mj_ins 208 1017 = some (.iadd, 1018) := by decide +kernel
theorem e208_1017 {ls : mj_L} {st : List Value} {σ : mj_S} {τ : mj_T} {x y : Int32} : mj_E 208 1017 ls (.int y :: .int x :: st) σ τ = mj_E 208 1018 ls (.int (x + y) :: st) σ τ := mj_nx i208_1017 rfl
theorem i208_1018 : mj_ins 208 1018 = some (.iaload, 1019) := by decide +kernel
theorem e208_1018 {ls : mj_L} {st : List Value} {σ : mj_S} {τ : mj_T} {x : Int32} {k : Nat} : mj_E 208 1018 ls (.int x :: .ref k :: st) σ τ = if mj_ib (mj_li σ k) x = true then mj_E 208 1019 ls (.int (σ k x.toNatClampNeg) :: st) σ τ else none := mj_ald i208_1018
theorem i208_1019 : mj_ins 208 1019 = some (.aload 0, 1020) := by decide +kernel
theorem e208_1019 {ls : mj_L} {st : List Value} {σ : mj_S} {τ : mj_T} {v : Nat} : mj_E 208 1019 (some (.ref v) :: ls) st σ τ = mj_E 208 1020 (some (.ref v) :: ls) (.ref v :: st) σ τ := mj_nx i208_1019 rfl
theorem i208_1020 : mj_ins 208 1020 = some (.iload 3, 1021) := by decide +kernel
theorem e208_1020 {ls : mj_L} {st : List Value} {σ : mj_S} {τ : mj_T} {a0 a1 a2 : Option Value} {v : Int32} : mj_E 208 1020 (a0 :: a1 :: a2 :: some (.int v) :: ls) st σ τ = mj_E 208 1021 (a0 :: a1 :: a2 :: some (.int v) :: ls) (.int v :: st) σ τ := mj_nx i208_1020 rfl
theorem i208_1021 : mj_ins 208 1021 = some (.iconst (2), 1022) := by decide +kernel
theorem e208_1021 {ls : mj_L} {st : List Value} {σ : mj_S} {τ : mj_T} : mj_E 208 1021 ls st σ τ = mj_E 208 1022 ls (.int (nI 2) :: st) σ τ := mj_nx i208_1021 rfl
theorem i208_1022 : mj_ins 208 1022 = some (.iadd, 1023) := by decide +kernel
theorem e208_1022 {ls : mj_L} {st : List Value} {σ : mj_S} {τ : mj_T} {x y : Int32} : mj_E 208 1022 ls (.int y :: .int x :: st) σ τ = mj_E 208 1023 ls (.int (x + y) :: st) σ τ := mj_nx i208_1022 rfl
theorem i208_1023 : mj_ins 208 1023 = some (.iaload, 1024) := by decide +kernel
theorem e208_1023 {ls : mj_L} {st : List Value} {σ : mj_S} {τ : mj_T} {x : Int32} {k : Nat} : mj_E 208 1023 ls (.int x :: .ref k :: st) σ τ = if mj_ib (mj_li σ k) x = true then mj_E 208 1024 ls (.int (σ k x.toNatClampNeg) :: st) σ τ else none := mj_ald i208_1023
theorem i208_1024 : mj_ins 208 1024 = some (.aload 0, 1025) := by decide +kernel
theorem e208_1024 {ls : mj_L} {st : List Value} {σ : mj_S} {τ : mj_T} {v : Nat} : mj_E 208 1024 (some (.ref v) :: ls) st σ τ = mj_E 208 1025 (some (.ref v) :: ls) (.ref v :: st) σ τ := mj_nx i208_1024 rfl
theorem i208_1025 : mj_ins 208 1025 = some (.iload 3, 1026) := by decide +kernel
theorem e208_1025 {ls : mj_L} {st : List Value} {σ : mj_S} {τ : mj_T} {a0 a1 a2 : Option Value} {v : Int32} : mj_E 208 1025 (a0 :: a1 :: a2 :: some (.int v) :: ls) st σ τ = mj_E 208 1026 (a0 :: a1 :: a2 :: some (.int v) :: ls) (.int v :: st) σ τ := mj_nx i208_1025 rfl
theorem i208_1026 : mj_ins 208 1026 = some (.iconst (3), 1027) := by decide +kernel
theorem e208_1026 {ls : mj_L} {st : List Value} {σ : mj_S} {τ : mj_T} : mj_E 208 1026 ls st σ τ = mj_E 208 1027 ls (.int (nI 3) :: st) σ τ := mj_nx i208_1026 rfl
theorem i208_1027 : mj_ins 208 1027 = some (.iadd, 1028) := by decide +kernel
theorem e208_1027 {ls : mj_L} {st : List Value} {σ : mj_S} {τ : mj_T} {x y : Int32} : mj_E 208 1027 ls (.int y :: .int x :: st) σ τ = mj_E 208 1028 ls (.int (x + y) :: st) σ τ := mj_nx i208_1027 rfl
theorem i208_1028 : mj_ins 208 1028 = some (.iaload, 1029) := by decide +kernel
theorem e208_1028 {ls : mj_L} {st : List Value} {σ : mj_S} {τ : mj_T} {x : Int32} {k : Nat} : mj_E 208 1028 ls (.int x :: .ref k :: st) σ τ = if mj_ib (mj_li σ k) x = true then mj_E 208 1029 ls (.int (σ k x.toNatClampNeg) :: st) σ τ else none := mj_ald i208_1028
theorem i208_1029 : mj_ins 208 1029 = some (.aload 0, 1030) := by decide +kernel
theorem e208_1029 {ls : mj_L} {st : List Value} {σ : mj_S} {τ : mj_T} {v : Nat} : mj_E 208 1029 (some (.ref v) :: ls) st σ τ = mj_E 208 1030 (some (.ref v) :: ls) (.ref v :: st) σ τ := mj_nx i208_1029 rfl
theorem i208_1030 : mj_ins 208 1030 = some (.iload 3, 1031) := by decide +kernel
theorem e208_1030 {ls : mj_L} {st : List Value} {σ : mj_S} {τ : mj_T} {a0 a1 a2 : Option Value} {v : Int32} : mj_E 208 1030 (a0 :: a1 :: a2 :: some (.int v) :: ls) st σ τ = mj_E 208 1031 (a0 :: a1 :: a2 :: some (.int v) :: ls) (.int v :: st) σ τ := mj_nx i208_1030 rfl
theorem i208_1031 : mj_ins 208 1031 = some (.iconst (4), 1032) := by decide +kernel
theorem e208_1031 {ls : mj_L} {st : List Value} {σ : mj_S} {τ : mj_T} : mj_E 208 1031 ls st σ τ = mj_E 208 1032 ls (.int (nI 4) :: st) σ τ := mj_nx i208_1031 rfl
theorem i208_1032 : mj_ins 208 1032 = some (.iadd, 1033) := by decide +kernel
theorem e208_1032 {ls : mj_L} {st : List Value} {σ : mj_S} {τ : mj_T} {x y : Int32} : mj_E 208 1032 ls (.int y :: .int x :: st) σ τ = mj_E 208 1033 ls (.int (x + y) :: st) σ τ := mj_nx i208_1032 rfl
theorem i208_1033 : mj_ins 208 1033 = some (.iaload, 1034) := by decide +kernel
theorem e208_1033 {ls : mj_L} {st : List Value} {σ : mj_S} {τ : mj_T} {x : Int32} {k : Nat} : mj_E 208 1033 ls (.int x :: .ref k :: st) σ τ = if mj_ib (mj_li σ k) x = true then mj_E 208 1034 ls (.int (σ k x.toNatClampNeg) :: st) σ τ else none := mj_ald i208_1033
theorem i208_1034 : mj_ins 208 1034 = some (.invokevirtual 95, 1037) := by decide +kernel
theorem e208_1034 {ls : mj_L} {σ : mj_S} {τ : mj_T} {r : Nat} {x0 : Int32} {x1 : Int32} {x2 : Int32} {x3 : Int32} : mj_E 208 1034 ls [.int x3, .int x2, .int x1, .int x0, .ref r] σ τ = if mj_rcv r 6 = true then mj_bd (mj_C 95 [.ref r, .int x0, .int x1, .int x2, .int x3] σ τ) (mj_K 208 1037 ls []) else none := mj_clV (as := [.int x0, .int x1, .int x2, .int x3]) (r := []) i208_1034 (by decide +kernel : mj_vk 208 95 4 0 5 false = true) (by decide +kernel)
theorem i208_1037 : mj_ins 208 1037 = some (.aload 2, 1038) := by decide +kernel
theorem e208_1037 {ls : mj_L} {st : List Value} {σ : mj_S} {τ : mj_T} {a0 a1 : Option Value} {v : Nat} : mj_E 208 1037 (a0 :: a1 :: some (.ref v) :: ls) st σ τ = mj_E 208 1038 (a0 :: a1 :: some (.ref v) :: ls) (.ref v :: st) σ τ := mj_nx i208_1037 rfl
theorem i208_1038 : mj_ins 208 1038 = some (.aload 0, 1039) := by decide +kernel
theorem e208_1038 {ls : mj_L} {st : List Value} {σ : mj_S} {τ : mj_T} {v : Nat} : mj_E 208 1038 (some (.ref v) :: ls) st σ τ = mj_E 208 1039 (some (.ref v) :: ls) (.ref v :: st) σ τ := mj_nx i208_1038 rfl
theorem i208_1039 : mj_ins 208 1039 = some (.iload 3, 1040) := by decide +kernel
theorem e208_1039 {ls : mj_L} {st : List Value} {σ : mj_S} {τ : mj_T} {a0 a1 a2 : Option Value} {v : Int32} : mj_E 208 1039 (a0 :: a1 :: a2 :: some (.int v) :: ls) st σ τ = mj_E 208 1040 (a0 :: a1 :: a2 :: some (.int v) :: ls) (.int v :: st) σ τ := mj_nx i208_1039 rfl
theorem i208_1040 : mj_ins 208 1040 = some (.iconst (1), 1041) := by decide +kernel
theorem e208_1040 {ls : mj_L} {st : List Value} {σ : mj_S} {τ : mj_T} : mj_E 208 1040 ls st σ τ = mj_E 208 1041 ls (.int (nI 1) :: st) σ τ := mj_nx i208_1040 rfl
theorem i208_1041 : mj_ins 208 1041 = some (.iadd, 1042) := by decide +kernel
theorem e208_1041 {ls : mj_L} {st : List Value} {σ : mj_S} {τ : mj_T} {x y : Int32} : mj_E 208 1041 ls (.int y :: .int x :: st) σ τ = mj_E 208 1042 ls (.int (x + y) :: st) σ τ := mj_nx i208_1041 rfl
theorem i208_1042 : mj_ins 208 1042 = some (.iaload, 1043) := by decide +kernel
theorem e208_1042 {ls : mj_L} {st : List Value} {σ : mj_S} {τ : mj_T} {x : Int32} {k : Nat} : mj_E 208 1042 ls (.int x :: .ref k :: st) σ τ = if mj_ib (mj_li σ k) x = true then mj_E 208 1043 ls (.int (σ k x.toNatClampNeg) :: st) σ τ else none := mj_ald i208_1042
theorem i208_1043 : mj_ins 208 1043 = some (.aload 0, 1044) := by decide +kernel
theorem e208_1043 {ls : mj_L} {st : List Value} {σ : mj_S} {τ : mj_T} {v : Nat} : mj_E 208 1043 (some (.ref v) :: ls) st σ τ = mj_E 208 1044 (some (.ref v) :: ls) (.ref v :: st) σ τ := mj_nx i208_1043 rfl
theorem i208_1044 : mj_ins 208 1044 = some (.iload 3, 1045) := by decide +kernel
theorem e208_1044 {ls : mj_L} {st : List Value} {σ : mj_S} {τ : mj_T} {a0 a1 a2 : Option Value} {v : Int32} : mj_E 208 1044 (a0 :: a1 :: a2 :: some (.int v) :: ls) st σ τ = mj_E 208 1045 (a0 :: a1 :: a2 :: some (.int v) :: ls) (.int v :: st) σ τ := mj_nx i208_1044 rfl
theorem i208_1045 : mj_ins 208 1045 = some (.iconst (2), 1046) := by decide +kernel
theorem e208_1045 {ls : mj_L} {st : List Value} {σ : mj_S} {τ : mj_T} : mj_E 208 1045 ls st σ τ = mj_E 208 1046 ls (.int (nI 2) :: st) σ τ := mj_nx i208_1045 rfl
theorem i208_1046 : mj_ins 208 1046 = some (.iadd, 1047) := by decide +kernel
theorem e208_1046 {ls : mj_L} {st : List Value} {σ : mj_S} {τ : mj_T} {x y : Int32} : mj_E 208 1046 ls (.int y :: .int x :: st) σ τ = mj_E 208 1047 ls (.int (x + y) :: st) σ τ := mj_nx i208_1046 rfl
theorem i208_1047 : mj_ins 208 1047 = some (.iaload, 1048) := by decide +kernel
theorem e208_1047 {ls : mj_L} {st : List Value} {σ : mj_S} {τ : mj_T} {x : Int32} {k : Nat} : mj_E 208 1047 ls (.int x :: .ref k :: st) σ τ = if mj_ib (mj_li σ k) x = true then mj_E 208 1048 ls (.int (σ k x.toNatClampNeg) :: st) σ τ else none := mj_ald i208_1047
theorem i208_1048 : mj_ins 208 1048 = some (.aload 0, 1049) := by decide +kernel
theorem e208_1048 {ls : mj_L} {st : List Value} {σ : mj_S} {τ : mj_T} {v : Nat} : mj_E 208 1048 (some (.ref v) :: ls) st σ τ = mj_E 208 1049 (some (.ref v) :: ls) (.ref v :: st) σ τ := mj_nx i208_1048 rfl
theorem i208_1049 : mj_ins 208 1049 = some (.iload 3, 1050) := by decide +kernel
theorem e208_1049 {ls : mj_L} {st : List Value} {σ : mj_S} {τ : mj_T} {a0 a1 a2 : Option Value} {v : Int32} : mj_E 208 1049 (a0 :: a1 :: a2 :: some (.int v) :: ls) st σ τ = mj_E 208 1050 (a0 :: a1 :: a2 :: some (.int v) :: ls) (.int v :: st) σ τ := mj_nx i208_1049 rfl
theorem i208_1050 : mj_ins 208 1050 = some (.iconst (3), 1051) := by decide +kernel
theorem e208_1050 {ls : mj_L} {st : List Value} {σ : mj_S} {τ : mj_T} : mj_E 208 1050 ls st σ τ = mj_E 208 1051 ls (.int (nI 3) :: st) σ τ := mj_nx i208_1050 rfl
theorem i208_1051 : mj_ins 208 1051 = some (.iadd, 1052) := by decide +kernel
theorem e208_1051 {ls : mj_L} {st : List Value} {σ : mj_S} {τ : mj_T} {x y : Int32} : mj_E 208 1051 ls (.int y :: .int x :: st) σ τ = mj_E 208 1052 ls (.int (x + y) :: st) σ τ := mj_nx i208_1051 rfl
theorem i208_1052 : mj_ins 208 1052 = some (.iaload, 1053) := by decide +kernel
theorem e208_1052 {ls : mj_L} {st : List Value} {σ : mj_S} {τ : mj_T} {x : Int32} {k : Nat} : mj_E 208 1052 ls (.int x :: .ref k :: st) σ τ = if mj_ib (mj_li σ k) x = true then mj_E 208 1053 ls (.int (σ k x.toNatClampNeg) :: st) σ τ else none := mj_ald i208_1052
theorem i208_1053 : mj_ins 208 1053 = some (.aload 0, 1054) := by decide +kernel
theorem e208_1053 {ls : mj_L} {st : List Value} {σ : mj_S} {τ : mj_T} {v : Nat} : mj_E 208 1053 (some (.ref v) :: ls) st σ τ = mj_E 208 1054 (some (.ref v) :: ls) (.ref v :: st) σ τ := mj_nx i208_1053 rfl
theorem i208_1054 : mj_ins 208 1054 = some (.iload 3, 1055) := by decide +kernel
theorem e208_1054 {ls : mj_L} {st : List Value} {σ : mj_S} {τ : mj_T} {a0 a1 a2 : Option Value} {v : Int32} : mj_E 208 1054 (a0 :: a1 :: a2 :: some (.int v) :: ls) st σ τ = mj_E 208 1055 (a0 :: a1 :: a2 :: some (.int v) :: ls) (.int v :: st) σ τ := mj_nx i208_1054 rfl
theorem i208_1055 : mj_ins 208 1055 = some (.iconst (4), 1056) := by decide +kernel
theorem e208_1055 {ls : mj_L} {st : List Value} {σ : mj_S} {τ : mj_T} : mj_E 208 1055 ls st σ τ = mj_E 208 1056 ls (.int (nI 4) :: st) σ τ := mj_nx i208_1055 rfl
theorem i208_1056 : mj_ins 208 1056 = some (.iadd, 1057) := by decide +kernel
theorem e208_1056 {ls : mj_L} {st : List Value} {σ : mj_S} {τ : mj_T} {x y : Int32} : mj_E 208 1056 ls (.int y :: .int x :: st) σ τ = mj_E 208 1057 ls (.int (x + y) :: st) σ τ := mj_nx i208_1056 rfl
theorem i208_1057 : mj_ins 208 1057 = some (.iaload, 1058) := by decide +kernel
theorem e208_1057 {ls : mj_L} {st : List Value} {σ : mj_S} {τ : mj_T} {x : Int32} {k : Nat} : mj_E 208 1057 ls (.int x :: .ref k :: st) σ τ = if mj_ib (mj_li σ k) x = true then mj_E 208 1058 ls (.int (σ k x.toNatClampNeg) :: st) σ τ else none := mj_ald i208_1057
theorem i208_1058 : mj_ins 208 1058 = some (.invokevirtual 175, 1061) := by decide +kernel
theorem e208_1058 {ls : mj_L} {σ : mj_S} {τ : mj_T} {r : Nat} {x0 : Int32} {x1 : Int32} {x2 : Int32} {x3 : Int32} {w0 : Value} : mj_E 208 1058 ls [.int x3, .int x2, .int x1, .int x0, .ref r, w0] σ τ = if mj_rcv r 7 = true then mj_bd (mj_C 175 [.ref r, .int x0, .int x1, .int x2, .int x3] σ τ) (mj_K 208 1061 ls [w0]) else none := mj_clV (as := [.int x0, .int x1, .int x2, .int x3]) (r := [w0]) i208_1058 (by decide +kernel : mj_vk 208 175 4 1 5 false = true) (by decide +kernel)
theorem i208_1061 : mj_ins 208 1061 = some (.if_icmp .eq 1448, 1064) := by decide +kernel
theorem e208_1061 {ls : mj_L} {st : List Value} {σ : mj_S} {τ : mj_T} {x y : Int32} : mj_E 208 1061 ls (.int y :: .int x :: st) σ τ = if x = y then mj_E 208 1448 ls st σ τ else mj_E 208 1064 ls st σ τ := (mj_ifi i208_1061).trans (mj_cdT rfl)
theorem i208_1064 : mj_ins 208 1064 = some (.iconst (0), 1065) := by decide +kernel
theorem e208_1064 {ls : mj_L} {st : List Value} {σ : mj_S} {τ : mj_T} : mj_E 208 1064 ls st σ τ = mj_E 208 1065 ls (.int (nI 0) :: st) σ τ := mj_nx i208_1064 rfl
theorem i208_1065 : mj_ins 208 1065 = some (.ireturn, 1066) := by decide +kernel
theorem e208_1065 {ls : mj_L} {σ : mj_S} {τ : mj_T} {v : Int32} : mj_E 208 1065 ls [.int v] σ τ = if mj_ok (some .boolean) v = true then some (some (.int v), σ, τ) else none := mj_zrt i208_1065 rfl
theorem i208_1066 : mj_ins 208 1066 = some (.aload 1, 1067) := by decide +kernel
theorem e208_1066 {ls : mj_L} {st : List Value} {σ : mj_S} {τ : mj_T} {a0 : Option Value} {v : Nat} : mj_E 208 1066 (a0 :: some (.ref v) :: ls) st σ τ = mj_E 208 1067 (a0 :: some (.ref v) :: ls) (.ref v :: st) σ τ := mj_nx i208_1066 rfl
theorem i208_1067 : mj_ins 208 1067 = some (.aload 0, 1068) := by decide +kernel
theorem e208_1067 {ls : mj_L} {st : List Value} {σ : mj_S} {τ : mj_T} {v : Nat} : mj_E 208 1067 (some (.ref v) :: ls) st σ τ = mj_E 208 1068 (some (.ref v) :: ls) (.ref v :: st) σ τ := mj_nx i208_1067 rfl
theorem i208_1068 : mj_ins 208 1068 = some (.iload 3, 1069) := by decide +kernel
theorem e208_1068 {ls : mj_L} {st : List Value} {σ : mj_S} {τ : mj_T} {a0 a1 a2 : Option Value} {v : Int32} : mj_E 208 1068 (a0 :: a1 :: a2 :: some (.int v) :: ls) st σ τ = mj_E 208 1069 (a0 :: a1 :: a2 :: some (.int v) :: ls) (.int v :: st) σ τ := mj_nx i208_1068 rfl
theorem i208_1069 : mj_ins 208 1069 = some (.iconst (1), 1070) := by decide +kernel
theorem e208_1069 {ls : mj_L} {st : List Value} {σ : mj_S} {τ : mj_T} : mj_E 208 1069 ls st σ τ = mj_E 208 1070 ls (.int (nI 1) :: st) σ τ := mj_nx i208_1069 rfl
theorem i208_1070 : mj_ins 208 1070 = some (.iadd, 1071) := by decide +kernel
theorem e208_1070 {ls : mj_L} {st : List Value} {σ : mj_S} {τ : mj_T} {x y : Int32} : mj_E 208 1070 ls (.int y :: .int x :: st) σ τ = mj_E 208 1071 ls (.int (x + y) :: st) σ τ := mj_nx i208_1070 rfl
theorem i208_1071 : mj_ins 208 1071 = some (.iaload, 1072) := by decide +kernel
theorem e208_1071 {ls : mj_L} {st : List Value} {σ : mj_S} {τ : mj_T} {x : Int32} {k : Nat} : mj_E 208 1071 ls (.int x :: .ref k :: st) σ τ = if mj_ib (mj_li σ k) x = true then mj_E 208 1072 ls (.int (σ k x.toNatClampNeg) :: st) σ τ else none := mj_ald i208_1071
theorem i208_1072 : mj_ins 208 1072 = some (.aload 0, 1073) := by decide +kernel
theorem e208_1072 {ls : mj_L} {st : List Value} {σ : mj_S} {τ : mj_T} {v : Nat} : mj_E 208 1072 (some (.ref v) :: ls) st σ τ = mj_E 208 1073 (some (.ref v) :: ls) (.ref v :: st) σ τ := mj_nx i208_1072 rfl
theorem i208_1073 : mj_ins 208 1073 = some (.iload 3, 1074) := by decide +kernel
theorem e208_1073 {ls : mj_L} {st : List Value} {σ : mj_S} {τ : mj_T} {a0 a1 a2 : Option Value} {v : Int32} : mj_E 208 1073 (a0 :: a1 :: a2 :: some (.int v) :: ls) st σ τ = mj_E 208 1074 (a0 :: a1 :: a2 :: some (.int v) :: ls) (.int v :: st) σ τ := mj_nx i208_1073 rfl
theorem i208_1074 : mj_ins 208 1074 = some (.iconst (2), 1075) := by decide +kernel
theorem e208_1074 {ls : mj_L} {st : List Value} {σ : mj_S} {τ : mj_T} : mj_E 208 1074 ls st σ τ = mj_E 208 1075 ls (.int (nI 2) :: st) σ τ := mj_nx i208_1074 rfl
theorem i208_1075 : mj_ins 208 1075 = some (.iadd, 1076) := by decide +kernel
theorem e208_1075 {ls : mj_L} {st : List Value} {σ : mj_S} {τ : mj_T} {x y : Int32} : mj_E 208 1075 ls (.int y :: .int x :: st) σ τ = mj_E 208 1076 ls (.int (x + y) :: st) σ τ := mj_nx i208_1075 rfl
theorem i208_1076 : mj_ins 208 1076 = some (.iaload, 1077) := by decide +kernel
theorem e208_1076 {ls : mj_L} {st : List Value} {σ : mj_S} {τ : mj_T} {x : Int32} {k : Nat} : mj_E 208 1076 ls (.int x :: .ref k :: st) σ τ = if mj_ib (mj_li σ k) x = true then mj_E 208 1077 ls (.int (σ k x.toNatClampNeg) :: st) σ τ else none := mj_ald i208_1076
theorem i208_1077 : mj_ins 208 1077 = some (.aload 0, 1078) := by decide +kernel
theorem e208_1077 {ls : mj_L} {st : List Value} {σ : mj_S} {τ : mj_T} {v : Nat} : mj_E 208 1077 (some (.ref v) :: ls) st σ τ = mj_E 208 1078 (some (.ref v) :: ls) (.ref v :: st) σ τ := mj_nx i208_1077 rfl
theorem i208_1078 : mj_ins 208 1078 = some (.iload 3, 1079) := by decide +kernel
theorem e208_1078 {ls : mj_L} {st : List Value} {σ : mj_S} {τ : mj_T} {a0 a1 a2 : Option Value} {v : Int32} : mj_E 208 1078 (a0 :: a1 :: a2 :: some (.int v) :: ls) st σ τ = mj_E 208 1079 (a0 :: a1 :: a2 :: some (.int v) :: ls) (.int v :: st) σ τ := mj_nx i208_1078 rfl
theorem i208_1079 : mj_ins 208 1079 = some (.iconst (3), 1080) := by decide +kernel
theorem e208_1079 {ls : mj_L} {st : List Value} {σ : mj_S} {τ : mj_T} : mj_E 208 1079 ls st σ τ = mj_E 208 1080 ls (.int (nI 3) :: st) σ τ := mj_nx i208_1079 rfl
theorem i208_1080 : mj_ins 208 1080 = some (.iadd, 1081) := by decide +kernel
theorem e208_1080 {ls : mj_L} {st : List Value} {σ : mj_S} {τ : mj_T} {x y : Int32} : mj_E 208 1080 ls (.int y :: .int x :: st) σ τ = mj_E 208 1081 ls (.int (x + y) :: st) σ τ := mj_nx i208_1080 rfl
theorem i208_1081 : mj_ins 208 1081 = some (.iaload, 1082) := by decide +kernel
theorem e208_1081 {ls : mj_L} {st : List Value} {σ : mj_S} {τ : mj_T} {x : Int32} {k : Nat} : mj_E 208 1081 ls (.int x :: .ref k :: st) σ τ = if mj_ib (mj_li σ k) x = true then mj_E 208 1082 ls (.int (σ k x.toNatClampNeg) :: st) σ τ else none := mj_ald i208_1081
theorem i208_1082 : mj_ins 208 1082 = some (.aload 0, 1083) := by decide +kernel
theorem e208_1082 {ls : mj_L} {st : List Value} {σ : mj_S} {τ : mj_T} {v : Nat} : mj_E 208 1082 (some (.ref v) :: ls) st σ τ = mj_E 208 1083 (some (.ref v) :: ls) (.ref v :: st) σ τ := mj_nx i208_1082 rfl
theorem i208_1083 : mj_ins 208 1083 = some (.iload 3, 1084) := by decide +kernel
theorem e208_1083 {ls : mj_L} {st : List Value} {σ : mj_S} {τ : mj_T} {a0 a1 a2 : Option Value} {v : Int32} : mj_E 208 1083 (a0 :: a1 :: a2 :: some (.int v) :: ls) st σ τ = mj_E 208 1084 (a0 :: a1 :: a2 :: some (.int v) :: ls) (.int v :: st) σ τ := mj_nx i208_1083 rfl
theorem i208_1084 : mj_ins 208 1084 = some (.iconst (4), 1085) := by decide +kernel
theorem e208_1084 {ls : mj_L} {st : List Value} {σ : mj_S} {τ : mj_T} : mj_E 208 1084 ls st σ τ = mj_E 208 1085 ls (.int (nI 4) :: st) σ τ := mj_nx i208_1084 rfl
theorem i208_1085 : mj_ins 208 1085 = some (.iadd, 1086) := by decide +kernel
theorem e208_1085 {ls : mj_L} {st : List Value} {σ : mj_S} {τ : mj_T} {x y : Int32} : mj_E 208 1085 ls (.int y :: .int x :: st) σ τ = mj_E 208 1086 ls (.int (x + y) :: st) σ τ := mj_nx i208_1085 rfl
theorem i208_1086 : mj_ins 208 1086 = some (.iaload, 1087) := by decide +kernel
theorem e208_1086 {ls : mj_L} {st : List Value} {σ : mj_S} {τ : mj_T} {x : Int32} {k : Nat} : mj_E 208 1086 ls (.int x :: .ref k :: st) σ τ = if mj_ib (mj_li σ k) x = true then mj_E 208 1087 ls (.int (σ k x.toNatClampNeg) :: st) σ τ else none := mj_ald i208_1086
theorem i208_1087 : mj_ins 208 1087 = some (.invokevirtual 97, 1090) := by decide +kernel
theorem e208_1087 {ls : mj_L} {σ : mj_S} {τ : mj_T} {r : Nat} {x0 : Int32} {x1 : Int32} {x2 : Int32} {x3 : Int32} : mj_E 208 1087 ls [.int x3, .int x2, .int x1, .int x0, .ref r] σ τ = if mj_rcv r 6 = true then mj_bd (mj_C 97 [.ref r, .int x0, .int x1, .int x2, .int x3] σ τ) (mj_K 208 1090 ls []) else none := mj_clV (as := [.int x0, .int x1, .int x2, .int x3]) (r := []) i208_1087 (by decide +kernel : mj_vk 208 97 4 0 5 false = true) (by decide +kernel)
theorem i208_1090 : mj_ins 208 1090 = some (.aload 2, 1091) := by decide +kernel
theorem e208_1090 {ls : mj_L} {st : List Value} {σ : mj_S} {τ : mj_T} {a0 a1 : Option Value} {v : Nat} : mj_E 208 1090 (a0 :: a1 :: some (.ref v) :: ls) st σ τ = mj_E 208 1091 (a0 :: a1 :: some (.ref v) :: ls) (.ref v :: st) σ τ := mj_nx i208_1090 rfl
theorem i208_1091 : mj_ins 208 1091 = some (.aload 0, 1092) := by decide +kernel
theorem e208_1091 {ls : mj_L} {st : List Value} {σ : mj_S} {τ : mj_T} {v : Nat} : mj_E 208 1091 (some (.ref v) :: ls) st σ τ = mj_E 208 1092 (some (.ref v) :: ls) (.ref v :: st) σ τ := mj_nx i208_1091 rfl
theorem i208_1092 : mj_ins 208 1092 = some (.iload 3, 1093) := by decide +kernel
theorem e208_1092 {ls : mj_L} {st : List Value} {σ : mj_S} {τ : mj_T} {a0 a1 a2 : Option Value} {v : Int32} : mj_E 208 1092 (a0 :: a1 :: a2 :: some (.int v) :: ls) st σ τ = mj_E 208 1093 (a0 :: a1 :: a2 :: some (.int v) :: ls) (.int v :: st) σ τ := mj_nx i208_1092 rfl
theorem i208_1093 : mj_ins 208 1093 = some (.iconst (1), 1094) := by decide +kernel
theorem e208_1093 {ls : mj_L} {st : List Value} {σ : mj_S} {τ : mj_T} : mj_E 208 1093 ls st σ τ = mj_E 208 1094 ls (.int (nI 1) :: st) σ τ := mj_nx i208_1093 rfl
theorem i208_1094 : mj_ins 208 1094 = some (.iadd, 1095) := by decide +kernel
theorem e208_1094 {ls : mj_L} {st : List Value} {σ : mj_S} {τ : mj_T} {x y : Int32} : mj_E 208 1094 ls (.int y :: .int x :: st) σ τ = mj_E 208 1095 ls (.int (x + y) :: st) σ τ := mj_nx i208_1094 rfl
theorem i208_1095 : mj_ins 208 1095 = some (.iaload, 1096) := by decide +kernel
theorem e208_1095 {ls : mj_L} {st : List Value} {σ : mj_S} {τ : mj_T} {x : Int32} {k : Nat} : mj_E 208 1095 ls (.int x :: .ref k :: st) σ τ = if mj_ib (mj_li σ k) x = true then mj_E 208 1096 ls (.int (σ k x.toNatClampNeg) :: st) σ τ else none := mj_ald i208_1095
theorem i208_1096 : mj_ins 208 1096 = some (.aload 0, 1097) := by decide +kernel
theorem e208_1096 {ls : mj_L} {st : List Value} {σ : mj_S} {τ : mj_T} {v : Nat} : mj_E 208 1096 (some (.ref v) :: ls) st σ τ = mj_E 208 1097 (some (.ref v) :: ls) (.ref v :: st) σ τ := mj_nx i208_1096 rfl
theorem i208_1097 : mj_ins 208 1097 = some (.iload 3, 1098) := by decide +kernel
theorem e208_1097 {ls : mj_L} {st : List Value} {σ : mj_S} {τ : mj_T} {a0 a1 a2 : Option Value} {v : Int32} : mj_E 208 1097 (a0 :: a1 :: a2 :: some (.int v) :: ls) st σ τ = mj_E 208 1098 (a0 :: a1 :: a2 :: some (.int v) :: ls) (.int v :: st) σ τ := mj_nx i208_1097 rfl
theorem i208_1098 : mj_ins 208 1098 = some (.iconst (2), 1099) := by decide +kernel
theorem e208_1098 {ls : mj_L} {st : List Value} {σ : mj_S} {τ : mj_T} : mj_E 208 1098 ls st σ τ = mj_E 208 1099 ls (.int (nI 2) :: st) σ τ := mj_nx i208_1098 rfl
theorem i208_1099 : mj_ins 208 1099 = some (.iadd, 1100) := by decide +kernel
theorem e208_1099 {ls : mj_L} {st : List Value} {σ : mj_S} {τ : mj_T} {x y : Int32} : mj_E 208 1099 ls (.int y :: .int x :: st) σ τ = mj_E 208 1100 ls (.int (x + y) :: st) σ τ := mj_nx i208_1099 rfl
theorem i208_1100 : mj_ins 208 1100 = some (.iaload, 1101) := by decide +kernel
theorem e208_1100 {ls : mj_L} {st : List Value} {σ : mj_S} {τ : mj_T} {x : Int32} {k : Nat} : mj_E 208 1100 ls (.int x :: .ref k :: st) σ τ = if mj_ib (mj_li σ k) x = true then mj_E 208 1101 ls (.int (σ k x.toNatClampNeg) :: st) σ τ else none := mj_ald i208_1100
theorem i208_1101 : mj_ins 208 1101 = some (.aload 0, 1102) := by decide +kernel
theorem e208_1101 {ls : mj_L} {st : List Value} {σ : mj_S} {τ : mj_T} {v : Nat} : mj_E 208 1101 (some (.ref v) :: ls) st σ τ = mj_E 208 1102 (some (.ref v) :: ls) (.ref v :: st) σ τ := mj_nx i208_1101 rfl
theorem i208_1102 : mj_ins 208 1102 = some (.iload 3, 1103) := by decide +kernel
theorem e208_1102 {ls : mj_L} {st : List Value} {σ : mj_S} {τ : mj_T} {a0 a1 a2 : Option Value} {v : Int32} : mj_E 208 1102 (a0 :: a1 :: a2 :: some (.int v) :: ls) st σ τ = mj_E 208 1103 (a0 :: a1 :: a2 :: some (.int v) :: ls) (.int v :: st) σ τ := mj_nx i208_1102 rfl
theorem i208_1103 : mj_ins 208 1103 = some (.iconst (3), 1104) := by decide +kernel
theorem e208_1103 {ls : mj_L} {st : List Value} {σ : mj_S} {τ : mj_T} : mj_E 208 1103 ls st σ τ = mj_E 208 1104 ls (.int (nI 3) :: st) σ τ := mj_nx i208_1103 rfl
theorem i208_1104 : mj_ins 208 1104 = some (.iadd, 1105) := by decide +kernel
theorem e208_1104 {ls : mj_L} {st : List Value} {σ : mj_S} {τ : mj_T} {x y : Int32} : mj_E 208 1104 ls (.int y :: .int x :: st) σ τ = mj_E 208 1105 ls (.int (x + y) :: st) σ τ := mj_nx i208_1104 rfl
theorem i208_1105 : mj_ins 208 1105 = some (.iaload, 1106) := by decide +kernel
theorem e208_1105 {ls : mj_L} {st : List Value} {σ : mj_S} {τ : mj_T} {x : Int32} {k : Nat} : mj_E 208 1105 ls (.int x :: .ref k :: st) σ τ = if mj_ib (mj_li σ k) x = true then mj_E 208 1106 ls (.int (σ k x.toNatClampNeg) :: st) σ τ else none := mj_ald i208_1105
theorem i208_1106 : mj_ins 208 1106 = some (.aload 0, 1107) := by decide +kernel
theorem e208_1106 {ls : mj_L} {st : List Value} {σ : mj_S} {τ : mj_T} {v : Nat} : mj_E 208 1106 (some (.ref v) :: ls) st σ τ = mj_E 208 1107 (some (.ref v) :: ls) (.ref v :: st) σ τ := mj_nx i208_1106 rfl
theorem i208_1107 : mj_ins 208 1107 = some (.iload 3, 1108) := by decide +kernel
theorem e208_1107 {ls : mj_L} {st : List Value} {σ : mj_S} {τ : mj_T} {a0 a1 a2 : Option Value} {v : Int32} : mj_E 208 1107 (a0 :: a1 :: a2 :: some (.int v) :: ls) st σ τ = mj_E 208 1108 (a0 :: a1 :: a2 :: some (.int v) :: ls) (.int v :: st) σ τ := mj_nx i208_1107 rfl
theorem i208_1108 : mj_ins 208 1108 = some (.iconst (4), 1109) := by decide +kernel
theorem e208_1108 {ls : mj_L} {st : List Value} {σ : mj_S} {τ : mj_T} : mj_E 208 1108 ls st σ τ = mj_E 208 1109 ls (.int (nI 4) :: st) σ τ := mj_nx i208_1108 rfl
theorem i208_1109 : mj_ins 208 1109 = some (.iadd, 1110) := by decide +kernel
theorem e208_1109 {ls : mj_L} {st : List Value} {σ : mj_S} {τ : mj_T} {x y : Int32} : mj_E 208 1109 ls (.int y :: .int x :: st) σ τ = mj_E 208 1110 ls (.int (x + y) :: st) σ τ := mj_nx i208_1109 rfl
theorem i208_1110 : mj_ins 208 1110 = some (.iaload, 1111) := by decide +kernel
theorem e208_1110 {ls : mj_L} {st : List Value} {σ : mj_S} {τ : mj_T} {x : Int32} {k : Nat} : mj_E 208 1110 ls (.int x :: .ref k :: st) σ τ = if mj_ib (mj_li σ k) x = true then mj_E 208 1111 ls (.int (σ k x.toNatClampNeg) :: st) σ τ else none := mj_ald i208_1110
theorem i208_1111 : mj_ins 208 1111 = some (.invokevirtual 176, 1114) := by decide +kernel
theorem e208_1111 {ls : mj_L} {σ : mj_S} {τ : mj_T} {r : Nat} {x0 : Int32} {x1 : Int32} {x2 : Int32} {x3 : Int32} {w0 : Value} : mj_E 208 1111 ls [.int x3, .int x2, .int x1, .int x0, .ref r, w0] σ τ = if mj_rcv r 7 = true then mj_bd (mj_C 176 [.ref r, .int x0, .int x1, .int x2, .int x3] σ τ) (mj_K 208 1114 ls [w0]) else none := mj_clV (as := [.int x0, .int x1, .int x2, .int x3]) (r := [w0]) i208_1111 (by decide +kernel : mj_vk 208 176 4 1 5 false = true) (by decide +kernel)
theorem i208_1114 : mj_ins 208 1114 = some (.if_icmp .eq 1448, 1117) := by decide +kernel
theorem e208_1114 {ls : mj_L} {st : List Value} {σ : mj_S} {τ : mj_T} {x y : Int32} : mj_E 208 1114 ls (.int y :: .int x :: st) σ τ = if x = y then mj_E 208 1448 ls st σ τ else mj_E 208 1117 ls st σ τ := (mj_ifi i208_1114).trans (mj_cdT rfl)
theorem i208_1117 : mj_ins 208 1117 = some (.iconst (0), 1118) := by decide +kernel
theorem e208_1117 {ls : mj_L} {st : List Value} {σ : mj_S} {τ : mj_T} : mj_E 208 1117 ls st σ τ = mj_E 208 1118 ls (.int (nI 0) :: st) σ τ := mj_nx i208_1117 rfl
theorem i208_1118 : mj_ins 208 1118 = some (.ireturn, 1119) := by decide +kernel
theorem e208_1118 {ls : mj_L} {σ : mj_S} {τ : mj_T} {v : Int32} : mj_E 208 1118 ls [.int v] σ τ = if mj_ok (some .boolean) v = true then some (some (.int v), σ, τ) else none := mj_zrt i208_1118 rfl
theorem i208_1119 : mj_ins 208 1119 = some (.aload 1, 1120) := by decide +kernel
theorem e208_1119 {ls : mj_L} {st : List Value} {σ : mj_S} {τ : mj_T} {a0 : Option Value} {v : Nat} : mj_E 208 1119 (a0 :: some (.ref v) :: ls) st σ τ = mj_E 208 1120 (a0 :: some (.ref v) :: ls) (.ref v :: st) σ τ := mj_nx i208_1119 rfl
theorem i208_1120 : mj_ins 208 1120 = some (.aload 0, 1121) := by decide +kernel
theorem e208_1120 {ls : mj_L} {st : List Value} {σ : mj_S} {τ : mj_T} {v : Nat} : mj_E 208 1120 (some (.ref v) :: ls) st σ τ = mj_E 208 1121 (some (.ref v) :: ls) (.ref v :: st) σ τ := mj_nx i208_1120 rfl
theorem i208_1121 : mj_ins 208 1121 = some (.iload 3, 1122) := by decide +kernel
theorem e208_1121 {ls : mj_L} {st : List Value} {σ : mj_S} {τ : mj_T} {a0 a1 a2 : Option Value} {v : Int32} : mj_E 208 1121 (a0 :: a1 :: a2 :: some (.int v) :: ls) st σ τ = mj_E 208 1122 (a0 :: a1 :: a2 :: some (.int v) :: ls) (.int v :: st) σ τ := mj_nx i208_1121 rfl
theorem i208_1122 : mj_ins 208 1122 = some (.iconst (1), 1123) := by decide +kernel
theorem e208_1122 {ls : mj_L} {st : List Value} {σ : mj_S} {τ : mj_T} : mj_E 208 1122 ls st σ τ = mj_E 208 1123 ls (.int (nI 1) :: st) σ τ := mj_nx i208_1122 rfl
theorem i208_1123 : mj_ins 208 1123 = some (.iadd, 1124) := by decide +kernel
theorem e208_1123 {ls : mj_L} {st : List Value} {σ : mj_S} {τ : mj_T} {x y : Int32} : mj_E 208 1123 ls (.int y :: .int x :: st) σ τ = mj_E 208 1124 ls (.int (x + y) :: st) σ τ := mj_nx i208_1123 rfl
theorem i208_1124 : mj_ins 208 1124 = some (.iaload, 1125) := by decide +kernel
theorem e208_1124 {ls : mj_L} {st : List Value} {σ : mj_S} {τ : mj_T} {x : Int32} {k : Nat} : mj_E 208 1124 ls (.int x :: .ref k :: st) σ τ = if mj_ib (mj_li σ k) x = true then mj_E 208 1125 ls (.int (σ k x.toNatClampNeg) :: st) σ τ else none := mj_ald i208_1124
theorem i208_1125 : mj_ins 208 1125 = some (.invokevirtual 98, 1128) := by decide +kernel
theorem e208_1125 {ls : mj_L} {σ : mj_S} {τ : mj_T} {r : Nat} {x0 : Int32} : mj_E 208 1125 ls [.int x0, .ref r] σ τ = if mj_rcv r 6 = true then mj_bd (mj_C 98 [.ref r, .int x0] σ τ) (mj_K 208 1128 ls []) else none := mj_clV (as := [.int x0]) (r := []) i208_1125 (by decide +kernel : mj_vk 208 98 1 0 2 false = true) (by decide +kernel)
theorem i208_1128 : mj_ins 208 1128 = some (.aload 2, 1129) := by decide +kernel
theorem e208_1128 {ls : mj_L} {st : List Value} {σ : mj_S} {τ : mj_T} {a0 a1 : Option Value} {v : Nat} : mj_E 208 1128 (a0 :: a1 :: some (.ref v) :: ls) st σ τ = mj_E 208 1129 (a0 :: a1 :: some (.ref v) :: ls) (.ref v :: st) σ τ := mj_nx i208_1128 rfl
theorem i208_1129 : mj_ins 208 1129 = some (.aload 0, 1130) := by decide +kernel
theorem e208_1129 {ls : mj_L} {st : List Value} {σ : mj_S} {τ : mj_T} {v : Nat} : mj_E 208 1129 (some (.ref v) :: ls) st σ τ = mj_E 208 1130 (some (.ref v) :: ls) (.ref v :: st) σ τ := mj_nx i208_1129 rfl
theorem i208_1130 : mj_ins 208 1130 = some (.iload 3, 1131) := by decide +kernel
theorem e208_1130 {ls : mj_L} {st : List Value} {σ : mj_S} {τ : mj_T} {a0 a1 a2 : Option Value} {v : Int32} : mj_E 208 1130 (a0 :: a1 :: a2 :: some (.int v) :: ls) st σ τ = mj_E 208 1131 (a0 :: a1 :: a2 :: some (.int v) :: ls) (.int v :: st) σ τ := mj_nx i208_1130 rfl
theorem i208_1131 : mj_ins 208 1131 = some (.iconst (1), 1132) := by decide +kernel
theorem e208_1131 {ls : mj_L} {st : List Value} {σ : mj_S} {τ : mj_T} : mj_E 208 1131 ls st σ τ = mj_E 208 1132 ls (.int (nI 1) :: st) σ τ := mj_nx i208_1131 rfl
theorem i208_1132 : mj_ins 208 1132 = some (.iadd, 1133) := by decide +kernel
theorem e208_1132 {ls : mj_L} {st : List Value} {σ : mj_S} {τ : mj_T} {x y : Int32} : mj_E 208 1132 ls (.int y :: .int x :: st) σ τ = mj_E 208 1133 ls (.int (x + y) :: st) σ τ := mj_nx i208_1132 rfl
theorem i208_1133 : mj_ins 208 1133 = some (.iaload, 1134) := by decide +kernel
theorem e208_1133 {ls : mj_L} {st : List Value} {σ : mj_S} {τ : mj_T} {x : Int32} {k : Nat} : mj_E 208 1133 ls (.int x :: .ref k :: st) σ τ = if mj_ib (mj_li σ k) x = true then mj_E 208 1134 ls (.int (σ k x.toNatClampNeg) :: st) σ τ else none := mj_ald i208_1133
theorem i208_1134 : mj_ins 208 1134 = some (.invokevirtual 178, 1137) := by decide +kernel
theorem e208_1134 {ls : mj_L} {σ : mj_S} {τ : mj_T} {r : Nat} {x0 : Int32} {w0 : Value} : mj_E 208 1134 ls [.int x0, .ref r, w0] σ τ = if mj_rcv r 7 = true then mj_bd (mj_C 178 [.ref r, .int x0] σ τ) (mj_K 208 1137 ls [w0]) else none := mj_clV (as := [.int x0]) (r := [w0]) i208_1134 (by decide +kernel : mj_vk 208 178 1 1 2 false = true) (by decide +kernel)
theorem i208_1137 : mj_ins 208 1137 = some (.if_icmp .eq 1448, 1140) := by decide +kernel
theorem e208_1137 {ls : mj_L} {st : List Value} {σ : mj_S} {τ : mj_T} {x y : Int32} : mj_E 208 1137 ls (.int y :: .int x :: st) σ τ = if x = y then mj_E 208 1448 ls st σ τ else mj_E 208 1140 ls st σ τ := (mj_ifi i208_1137).trans (mj_cdT rfl)
theorem i208_1140 : mj_ins 208 1140 = some (.iconst (0), 1141) := by decide +kernel
theorem e208_1140 {ls : mj_L} {st : List Value} {σ : mj_S} {τ : mj_T} : mj_E 208 1140 ls st σ τ = mj_E 208 1141 ls (.int (nI 0) :: st) σ τ := mj_nx i208_1140 rfl
theorem i208_1141 : mj_ins 208 1141 = some (.ireturn, 1142) := by decide +kernel
theorem e208_1141 {ls : mj_L} {σ : mj_S} {τ : mj_T} {v : Int32} : mj_E 208 1141 ls [.int v] σ τ = if mj_ok (some .boolean) v = true then some (some (.int v), σ, τ) else none := mj_zrt i208_1141 rfl
theorem i208_1142 : mj_ins 208 1142 = some (.aload 1, 1143) := by decide +kernel
theorem e208_1142 {ls : mj_L} {st : List Value} {σ : mj_S} {τ : mj_T} {a0 : Option Value} {v : Nat} : mj_E 208 1142 (a0 :: some (.ref v) :: ls) st σ τ = mj_E 208 1143 (a0 :: some (.ref v) :: ls) (.ref v :: st) σ τ := mj_nx i208_1142 rfl
theorem i208_1143 : mj_ins 208 1143 = some (.aload 0, 1144) := by decide +kernel
theorem e208_1143 {ls : mj_L} {st : List Value} {σ : mj_S} {τ : mj_T} {v : Nat} : mj_E 208 1143 (some (.ref v) :: ls) st σ τ = mj_E 208 1144 (some (.ref v) :: ls) (.ref v :: st) σ τ := mj_nx i208_1143 rfl
theorem i208_1144 : mj_ins 208 1144 = some (.iload 3, 1145) := by decide +kernel
theorem e208_1144 {ls : mj_L} {st : List Value} {σ : mj_S} {τ : mj_T} {a0 a1 a2 : Option Value} {v : Int32} : mj_E 208 1144 (a0 :: a1 :: a2 :: some (.int v) :: ls) st σ τ = mj_E 208 1145 (a0 :: a1 :: a2 :: some (.int v) :: ls) (.int v :: st) σ τ := mj_nx i208_1144 rfl
theorem i208_1145 : mj_ins 208 1145 = some (.iconst (1), 1146) := by decide +kernel
theorem e208_1145 {ls : mj_L} {st : List Value} {σ : mj_S} {τ : mj_T} : mj_E 208 1145 ls st σ τ = mj_E 208 1146 ls (.int (nI 1) :: st) σ τ := mj_nx i208_1145 rfl
theorem i208_1146 : mj_ins 208 1146 = some (.iadd, 1147) := by decide +kernel
theorem e208_1146 {ls : mj_L} {st : List Value} {σ : mj_S} {τ : mj_T} {x y : Int32} : mj_E 208 1146 ls (.int y :: .int x :: st) σ τ = mj_E 208 1147 ls (.int (x + y) :: st) σ τ := mj_nx i208_1146 rfl
theorem i208_1147 : mj_ins 208 1147 = some (.iaload, 1148) := by decide +kernel
theorem e208_1147 {ls : mj_L} {st : List Value} {σ : mj_S} {τ : mj_T} {x : Int32} {k : Nat} : mj_E 208 1147 ls (.int x :: .ref k :: st) σ τ = if mj_ib (mj_li σ k) x = true then mj_E 208 1148 ls (.int (σ k x.toNatClampNeg) :: st) σ τ else none := mj_ald i208_1147
theorem i208_1148 : mj_ins 208 1148 = some (.aload 0, 1149) := by decide +kernel
theorem e208_1148 {ls : mj_L} {st : List Value} {σ : mj_S} {τ : mj_T} {v : Nat} : mj_E 208 1148 (some (.ref v) :: ls) st σ τ = mj_E 208 1149 (some (.ref v) :: ls) (.ref v :: st) σ τ := mj_nx i208_1148 rfl
theorem i208_1149 : mj_ins 208 1149 = some (.iload 3, 1150) := by decide +kernel
theorem e208_1149 {ls : mj_L} {st : List Value} {σ : mj_S} {τ : mj_T} {a0 a1 a2 : Option Value} {v : Int32} : mj_E 208 1149 (a0 :: a1 :: a2 :: some (.int v) :: ls) st σ τ = mj_E 208 1150 (a0 :: a1 :: a2 :: some (.int v) :: ls) (.int v :: st) σ τ := mj_nx i208_1149 rfl
theorem i208_1150 : mj_ins 208 1150 = some (.iconst (2), 1151) := by decide +kernel
theorem e208_1150 {ls : mj_L} {st : List Value} {σ : mj_S} {τ : mj_T} : mj_E 208 1150 ls st σ τ = mj_E 208 1151 ls (.int (nI 2) :: st) σ τ := mj_nx i208_1150 rfl
theorem i208_1151 : mj_ins 208 1151 = some (.iadd, 1152) := by decide +kernel
theorem e208_1151 {ls : mj_L} {st : List Value} {σ : mj_S} {τ : mj_T} {x y : Int32} : mj_E 208 1151 ls (.int y :: .int x :: st) σ τ = mj_E 208 1152 ls (.int (x + y) :: st) σ τ := mj_nx i208_1151 rfl
theorem i208_1152 : mj_ins 208 1152 = some (.iaload, 1153) := by decide +kernel
theorem e208_1152 {ls : mj_L} {st : List Value} {σ : mj_S} {τ : mj_T} {x : Int32} {k : Nat} : mj_E 208 1152 ls (.int x :: .ref k :: st) σ τ = if mj_ib (mj_li σ k) x = true then mj_E 208 1153 ls (.int (σ k x.toNatClampNeg) :: st) σ τ else none := mj_ald i208_1152
theorem i208_1153 : mj_ins 208 1153 = some (.aload 0, 1154) := by decide +kernel
theorem e208_1153 {ls : mj_L} {st : List Value} {σ : mj_S} {τ : mj_T} {v : Nat} : mj_E 208 1153 (some (.ref v) :: ls) st σ τ = mj_E 208 1154 (some (.ref v) :: ls) (.ref v :: st) σ τ := mj_nx i208_1153 rfl
theorem i208_1154 : mj_ins 208 1154 = some (.iload 3, 1155) := by decide +kernel
theorem e208_1154 {ls : mj_L} {st : List Value} {σ : mj_S} {τ : mj_T} {a0 a1 a2 : Option Value} {v : Int32} : mj_E 208 1154 (a0 :: a1 :: a2 :: some (.int v) :: ls) st σ τ = mj_E 208 1155 (a0 :: a1 :: a2 :: some (.int v) :: ls) (.int v :: st) σ τ := mj_nx i208_1154 rfl
theorem i208_1155 : mj_ins 208 1155 = some (.iconst (3), 1156) := by decide +kernel
theorem e208_1155 {ls : mj_L} {st : List Value} {σ : mj_S} {τ : mj_T} : mj_E 208 1155 ls st σ τ = mj_E 208 1156 ls (.int (nI 3) :: st) σ τ := mj_nx i208_1155 rfl
theorem i208_1156 : mj_ins 208 1156 = some (.iadd, 1157) := by decide +kernel
theorem e208_1156 {ls : mj_L} {st : List Value} {σ : mj_S} {τ : mj_T} {x y : Int32} : mj_E 208 1156 ls (.int y :: .int x :: st) σ τ = mj_E 208 1157 ls (.int (x + y) :: st) σ τ := mj_nx i208_1156 rfl
theorem i208_1157 : mj_ins 208 1157 = some (.iaload, 1158) := by decide +kernel
theorem e208_1157 {ls : mj_L} {st : List Value} {σ : mj_S} {τ : mj_T} {x : Int32} {k : Nat} : mj_E 208 1157 ls (.int x :: .ref k :: st) σ τ = if mj_ib (mj_li σ k) x = true then mj_E 208 1158 ls (.int (σ k x.toNatClampNeg) :: st) σ τ else none := mj_ald i208_1157
theorem i208_1158 : mj_ins 208 1158 = some (.invokevirtual 99, 1161) := by decide +kernel
theorem e208_1158 {ls : mj_L} {σ : mj_S} {τ : mj_T} {r : Nat} {x0 : Int32} {x1 : Int32} {x2 : Int32} : mj_E 208 1158 ls [.int x2, .int x1, .int x0, .ref r] σ τ = if mj_rcv r 6 = true then mj_bd (mj_C 99 [.ref r, .int x0, .int x1, .int x2] σ τ) (mj_K 208 1161 ls []) else none := mj_clV (as := [.int x0, .int x1, .int x2]) (r := []) i208_1158 (by decide +kernel : mj_vk 208 99 3 0 4 false = true) (by decide +kernel)
theorem i208_1161 : mj_ins 208 1161 = some (.aload 2, 1162) := by decide +kernel
theorem e208_1161 {ls : mj_L} {st : List Value} {σ : mj_S} {τ : mj_T} {a0 a1 : Option Value} {v : Nat} : mj_E 208 1161 (a0 :: a1 :: some (.ref v) :: ls) st σ τ = mj_E 208 1162 (a0 :: a1 :: some (.ref v) :: ls) (.ref v :: st) σ τ := mj_nx i208_1161 rfl
theorem i208_1162 : mj_ins 208 1162 = some (.aload 0, 1163) := by decide +kernel
theorem e208_1162 {ls : mj_L} {st : List Value} {σ : mj_S} {τ : mj_T} {v : Nat} : mj_E 208 1162 (some (.ref v) :: ls) st σ τ = mj_E 208 1163 (some (.ref v) :: ls) (.ref v :: st) σ τ := mj_nx i208_1162 rfl
theorem i208_1163 : mj_ins 208 1163 = some (.iload 3, 1164) := by decide +kernel
theorem e208_1163 {ls : mj_L} {st : List Value} {σ : mj_S} {τ : mj_T} {a0 a1 a2 : Option Value} {v : Int32} : mj_E 208 1163 (a0 :: a1 :: a2 :: some (.int v) :: ls) st σ τ = mj_E 208 1164 (a0 :: a1 :: a2 :: some (.int v) :: ls) (.int v :: st) σ τ := mj_nx i208_1163 rfl
theorem i208_1164 : mj_ins 208 1164 = some (.iconst (1), 1165) := by decide +kernel
theorem e208_1164 {ls : mj_L} {st : List Value} {σ : mj_S} {τ : mj_T} : mj_E 208 1164 ls st σ τ = mj_E 208 1165 ls (.int (nI 1) :: st) σ τ := mj_nx i208_1164 rfl
theorem i208_1165 : mj_ins 208 1165 = some (.iadd, 1166) := by decide +kernel
theorem e208_1165 {ls : mj_L} {st : List Value} {σ : mj_S} {τ : mj_T} {x y : Int32} : mj_E 208 1165 ls (.int y :: .int x :: st) σ τ = mj_E 208 1166 ls (.int (x + y) :: st) σ τ := mj_nx i208_1165 rfl
theorem i208_1166 : mj_ins 208 1166 = some (.iaload, 1167) := by decide +kernel
theorem e208_1166 {ls : mj_L} {st : List Value} {σ : mj_S} {τ : mj_T} {x : Int32} {k : Nat} : mj_E 208 1166 ls (.int x :: .ref k :: st) σ τ = if mj_ib (mj_li σ k) x = true then mj_E 208 1167 ls (.int (σ k x.toNatClampNeg) :: st) σ τ else none := mj_ald i208_1166
theorem i208_1167 : mj_ins 208 1167 = some (.aload 0, 1168) := by decide +kernel
theorem e208_1167 {ls : mj_L} {st : List Value} {σ : mj_S} {τ : mj_T} {v : Nat} : mj_E 208 1167 (some (.ref v) :: ls) st σ τ = mj_E 208 1168 (some (.ref v) :: ls) (.ref v :: st) σ τ := mj_nx i208_1167 rfl
theorem i208_1168 : mj_ins 208 1168 = some (.iload 3, 1169) := by decide +kernel
theorem e208_1168 {ls : mj_L} {st : List Value} {σ : mj_S} {τ : mj_T} {a0 a1 a2 : Option Value} {v : Int32} : mj_E 208 1168 (a0 :: a1 :: a2 :: some (.int v) :: ls) st σ τ = mj_E 208 1169 (a0 :: a1 :: a2 :: some (.int v) :: ls) (.int v :: st) σ τ := mj_nx i208_1168 rfl
theorem i208_1169 : mj_ins 208 1169 = some (.iconst (2), 1170) := by decide +kernel
theorem e208_1169 {ls : mj_L} {st : List Value} {σ : mj_S} {τ : mj_T} : mj_E 208 1169 ls st σ τ = mj_E 208 1170 ls (.int (nI 2) :: st) σ τ := mj_nx i208_1169 rfl
theorem i208_1170 : mj_ins 208 1170 = some (.iadd, 1171) := by decide +kernel
theorem e208_1170 {ls : mj_L} {st : List Value} {σ : mj_S} {τ : mj_T} {x y : Int32} : mj_E 208 1170 ls (.int y :: .int x :: st) σ τ = mj_E 208 1171 ls (.int (x + y) :: st) σ τ := mj_nx i208_1170 rfl
theorem i208_1171 : mj_ins 208 1171 = some (.iaload, 1172) := by decide +kernel
theorem e208_1171 {ls : mj_L} {st : List Value} {σ : mj_S} {τ : mj_T} {x : Int32} {k : Nat} : mj_E 208 1171 ls (.int x :: .ref k :: st) σ τ = if mj_ib (mj_li σ k) x = true then mj_E 208 1172 ls (.int (σ k x.toNatClampNeg) :: st) σ τ else none := mj_ald i208_1171
theorem i208_1172 : mj_ins 208 1172 = some (.aload 0, 1173) := by decide +kernel
theorem e208_1172 {ls : mj_L} {st : List Value} {σ : mj_S} {τ : mj_T} {v : Nat} : mj_E 208 1172 (some (.ref v) :: ls) st σ τ = mj_E 208 1173 (some (.ref v) :: ls) (.ref v :: st) σ τ := mj_nx i208_1172 rfl
theorem i208_1173 : mj_ins 208 1173 = some (.iload 3, 1174) := by decide +kernel
theorem e208_1173 {ls : mj_L} {st : List Value} {σ : mj_S} {τ : mj_T} {a0 a1 a2 : Option Value} {v : Int32} : mj_E 208 1173 (a0 :: a1 :: a2 :: some (.int v) :: ls) st σ τ = mj_E 208 1174 (a0 :: a1 :: a2 :: some (.int v) :: ls) (.int v :: st) σ τ := mj_nx i208_1173 rfl
theorem i208_1174 : mj_ins 208 1174 = some (.iconst (3), 1175) := by decide +kernel
theorem e208_1174 {ls : mj_L} {st : List Value} {σ : mj_S} {τ : mj_T} : mj_E 208 1174 ls st σ τ = mj_E 208 1175 ls (.int (nI 3) :: st) σ τ := mj_nx i208_1174 rfl
theorem i208_1175 : mj_ins 208 1175 = some (.iadd, 1176) := by decide +kernel
theorem e208_1175 {ls : mj_L} {st : List Value} {σ : mj_S} {τ : mj_T} {x y : Int32} : mj_E 208 1175 ls (.int y :: .int x :: st) σ τ = mj_E 208 1176 ls (.int (x + y) :: st) σ τ := mj_nx i208_1175 rfl
theorem i208_1176 : mj_ins 208 1176 = some (.iaload, 1177) := by decide +kernel
theorem e208_1176 {ls : mj_L} {st : List Value} {σ : mj_S} {τ : mj_T} {x : Int32} {k : Nat} : mj_E 208 1176 ls (.int x :: .ref k :: st) σ τ = if mj_ib (mj_li σ k) x = true then mj_E 208 1177 ls (.int (σ k x.toNatClampNeg) :: st) σ τ else none := mj_ald i208_1176
theorem i208_1177 : mj_ins 208 1177 = some (.invokevirtual 181, 1180) := by decide +kernel
theorem e208_1177 {ls : mj_L} {σ : mj_S} {τ : mj_T} {r : Nat} {x0 : Int32} {x1 : Int32} {x2 : Int32} {w0 : Value} : mj_E 208 1177 ls [.int x2, .int x1, .int x0, .ref r, w0] σ τ = if mj_rcv r 7 = true then mj_bd (mj_C 181 [.ref r, .int x0, .int x1, .int x2] σ τ) (mj_K 208 1180 ls [w0]) else none := mj_clV (as := [.int x0, .int x1, .int x2]) (r := [w0]) i208_1177 (by decide +kernel : mj_vk 208 181 3 1 4 false = true) (by decide +kernel)
theorem i208_1180 : mj_ins 208 1180 = some (.if_icmp .eq 1448, 1183) := by decide +kernel
theorem e208_1180 {ls : mj_L} {st : List Value} {σ : mj_S} {τ : mj_T} {x y : Int32} : mj_E 208 1180 ls (.int y :: .int x :: st) σ τ = if x = y then mj_E 208 1448 ls st σ τ else mj_E 208 1183 ls st σ τ := (mj_ifi i208_1180).trans (mj_cdT rfl)
theorem i208_1183 : mj_ins 208 1183 = some (.iconst (0), 1184) := by decide +kernel
theorem e208_1183 {ls : mj_L} {st : List Value} {σ : mj_S} {τ : mj_T} : mj_E 208 1183 ls st σ τ = mj_E 208 1184 ls (.int (nI 0) :: st) σ τ := mj_nx i208_1183 rfl
theorem i208_1184 : mj_ins 208 1184 = some (.ireturn, 1185) := by decide +kernel
theorem e208_1184 {ls : mj_L} {σ : mj_S} {τ : mj_T} {v : Int32} : mj_E 208 1184 ls [.int v] σ τ = if mj_ok (some .boolean) v = true then some (some (.int v), σ, τ) else none := mj_zrt i208_1184 rfl
theorem i208_1185 : mj_ins 208 1185 = some (.aload 1, 1186) := by decide +kernel
theorem e208_1185 {ls : mj_L} {st : List Value} {σ : mj_S} {τ : mj_T} {a0 : Option Value} {v : Nat} : mj_E 208 1185 (a0 :: some (.ref v) :: ls) st σ τ = mj_E 208 1186 (a0 :: some (.ref v) :: ls) (.ref v :: st) σ τ := mj_nx i208_1185 rfl
theorem i208_1186 : mj_ins 208 1186 = some (.aload 0, 1187) := by decide +kernel
theorem e208_1186 {ls : mj_L} {st : List Value} {σ : mj_S} {τ : mj_T} {v : Nat} : mj_E 208 1186 (some (.ref v) :: ls) st σ τ = mj_E 208 1187 (some (.ref v) :: ls) (.ref v :: st) σ τ := mj_nx i208_1186 rfl
theorem i208_1187 : mj_ins 208 1187 = some (.iload 3, 1188) := by decide +kernel
theorem e208_1187 {ls : mj_L} {st : List Value} {σ : mj_S} {τ : mj_T} {a0 a1 a2 : Option Value} {v : Int32} : mj_E 208 1187 (a0 :: a1 :: a2 :: some (.int v) :: ls) st σ τ = mj_E 208 1188 (a0 :: a1 :: a2 :: some (.int v) :: ls) (.int v :: st) σ τ := mj_nx i208_1187 rfl
theorem i208_1188 : mj_ins 208 1188 = some (.iconst (1), 1189) := by decide +kernel
theorem e208_1188 {ls : mj_L} {st : List Value} {σ : mj_S} {τ : mj_T} : mj_E 208 1188 ls st σ τ = mj_E 208 1189 ls (.int (nI 1) :: st) σ τ := mj_nx i208_1188 rfl
theorem i208_1189 : mj_ins 208 1189 = some (.iadd, 1190) := by decide +kernel
theorem e208_1189 {ls : mj_L} {st : List Value} {σ : mj_S} {τ : mj_T} {x y : Int32} : mj_E 208 1189 ls (.int y :: .int x :: st) σ τ = mj_E 208 1190 ls (.int (x + y) :: st) σ τ := mj_nx i208_1189 rfl
theorem i208_1190 : mj_ins 208 1190 = some (.iaload, 1191) := by decide +kernel
theorem e208_1190 {ls : mj_L} {st : List Value} {σ : mj_S} {τ : mj_T} {x : Int32} {k : Nat} : mj_E 208 1190 ls (.int x :: .ref k :: st) σ τ = if mj_ib (mj_li σ k) x = true then mj_E 208 1191 ls (.int (σ k x.toNatClampNeg) :: st) σ τ else none := mj_ald i208_1190
theorem i208_1191 : mj_ins 208 1191 = some (.aload 0, 1192) := by decide +kernel
theorem e208_1191 {ls : mj_L} {st : List Value} {σ : mj_S} {τ : mj_T} {v : Nat} : mj_E 208 1191 (some (.ref v) :: ls) st σ τ = mj_E 208 1192 (some (.ref v) :: ls) (.ref v :: st) σ τ := mj_nx i208_1191 rfl
theorem i208_1192 : mj_ins 208 1192 = some (.iload 3, 1193) := by decide +kernel
theorem e208_1192 {ls : mj_L} {st : List Value} {σ : mj_S} {τ : mj_T} {a0 a1 a2 : Option Value} {v : Int32} : mj_E 208 1192 (a0 :: a1 :: a2 :: some (.int v) :: ls) st σ τ = mj_E 208 1193 (a0 :: a1 :: a2 :: some (.int v) :: ls) (.int v :: st) σ τ := mj_nx i208_1192 rfl
theorem i208_1193 : mj_ins 208 1193 = some (.iconst (2), 1194) := by decide +kernel
theorem e208_1193 {ls : mj_L} {st : List Value} {σ : mj_S} {τ : mj_T} : mj_E 208 1193 ls st σ τ = mj_E 208 1194 ls (.int (nI 2) :: st) σ τ := mj_nx i208_1193 rfl
theorem i208_1194 : mj_ins 208 1194 = some (.iadd, 1195) := by decide +kernel
theorem e208_1194 {ls : mj_L} {st : List Value} {σ : mj_S} {τ : mj_T} {x y : Int32} : mj_E 208 1194 ls (.int y :: .int x :: st) σ τ = mj_E 208 1195 ls (.int (x + y) :: st) σ τ := mj_nx i208_1194 rfl
theorem i208_1195 : mj_ins 208 1195 = some (.iaload, 1196) := by decide +kernel
theorem e208_1195 {ls : mj_L} {st : List Value} {σ : mj_S} {τ : mj_T} {x : Int32} {k : Nat} : mj_E 208 1195 ls (.int x :: .ref k :: st) σ τ = if mj_ib (mj_li σ k) x = true then mj_E 208 1196 ls (.int (σ k x.toNatClampNeg) :: st) σ τ else none := mj_ald i208_1195
theorem i208_1196 : mj_ins 208 1196 = some (.invokevirtual 100, 1199) := by decide +kernel
theorem e208_1196 {ls : mj_L} {σ : mj_S} {τ : mj_T} {r : Nat} {x0 : Int32} {x1 : Int32} : mj_E 208 1196 ls [.int x1, .int x0, .ref r] σ τ = if mj_rcv r 6 = true then mj_bd (mj_C 100 [.ref r, .int x0, .int x1] σ τ) (mj_K 208 1199 ls []) else none := mj_clV (as := [.int x0, .int x1]) (r := []) i208_1196 (by decide +kernel : mj_vk 208 100 2 0 3 false = true) (by decide +kernel)
theorem i208_1199 : mj_ins 208 1199 = some (.aload 2, 1200) := by decide +kernel
theorem e208_1199 {ls : mj_L} {st : List Value} {σ : mj_S} {τ : mj_T} {a0 a1 : Option Value} {v : Nat} : mj_E 208 1199 (a0 :: a1 :: some (.ref v) :: ls) st σ τ = mj_E 208 1200 (a0 :: a1 :: some (.ref v) :: ls) (.ref v :: st) σ τ := mj_nx i208_1199 rfl
theorem i208_1200 : mj_ins 208 1200 = some (.aload 0, 1201) := by decide +kernel
theorem e208_1200 {ls : mj_L} {st : List Value} {σ : mj_S} {τ : mj_T} {v : Nat} : mj_E 208 1200 (some (.ref v) :: ls) st σ τ = mj_E 208 1201 (some (.ref v) :: ls) (.ref v :: st) σ τ := mj_nx i208_1200 rfl
theorem i208_1201 : mj_ins 208 1201 = some (.iload 3, 1202) := by decide +kernel
theorem e208_1201 {ls : mj_L} {st : List Value} {σ : mj_S} {τ : mj_T} {a0 a1 a2 : Option Value} {v : Int32} : mj_E 208 1201 (a0 :: a1 :: a2 :: some (.int v) :: ls) st σ τ = mj_E 208 1202 (a0 :: a1 :: a2 :: some (.int v) :: ls) (.int v :: st) σ τ := mj_nx i208_1201 rfl
theorem i208_1202 : mj_ins 208 1202 = some (.iconst (1), 1203) := by decide +kernel
theorem e208_1202 {ls : mj_L} {st : List Value} {σ : mj_S} {τ : mj_T} : mj_E 208 1202 ls st σ τ = mj_E 208 1203 ls (.int (nI 1) :: st) σ τ := mj_nx i208_1202 rfl
theorem i208_1203 : mj_ins 208 1203 = some (.iadd, 1204) := by decide +kernel
theorem e208_1203 {ls : mj_L} {st : List Value} {σ : mj_S} {τ : mj_T} {x y : Int32} : mj_E 208 1203 ls (.int y :: .int x :: st) σ τ = mj_E 208 1204 ls (.int (x + y) :: st) σ τ := mj_nx i208_1203 rfl
theorem i208_1204 : mj_ins 208 1204 = some (.iaload, 1205) := by decide +kernel
theorem e208_1204 {ls : mj_L} {st : List Value} {σ : mj_S} {τ : mj_T} {x : Int32} {k : Nat} : mj_E 208 1204 ls (.int x :: .ref k :: st) σ τ = if mj_ib (mj_li σ k) x = true then mj_E 208 1205 ls (.int (σ k x.toNatClampNeg) :: st) σ τ else none := mj_ald i208_1204
theorem i208_1205 : mj_ins 208 1205 = some (.aload 0, 1206) := by decide +kernel
theorem e208_1205 {ls : mj_L} {st : List Value} {σ : mj_S} {τ : mj_T} {v : Nat} : mj_E 208 1205 (some (.ref v) :: ls) st σ τ = mj_E 208 1206 (some (.ref v) :: ls) (.ref v :: st) σ τ := mj_nx i208_1205 rfl
theorem i208_1206 : mj_ins 208 1206 = some (.iload 3, 1207) := by decide +kernel
theorem e208_1206 {ls : mj_L} {st : List Value} {σ : mj_S} {τ : mj_T} {a0 a1 a2 : Option Value} {v : Int32} : mj_E 208 1206 (a0 :: a1 :: a2 :: some (.int v) :: ls) st σ τ = mj_E 208 1207 (a0 :: a1 :: a2 :: some (.int v) :: ls) (.int v :: st) σ τ := mj_nx i208_1206 rfl
theorem i208_1207 : mj_ins 208 1207 = some (.iconst (2), 1208) := by decide +kernel
theorem e208_1207 {ls : mj_L} {st : List Value} {σ : mj_S} {τ : mj_T} : mj_E 208 1207 ls st σ τ = mj_E 208 1208 ls (.int (nI 2) :: st) σ τ := mj_nx i208_1207 rfl
theorem i208_1208 : mj_ins 208 1208 = some (.iadd, 1209) := by decide +kernel
theorem e208_1208 {ls : mj_L} {st : List Value} {σ : mj_S} {τ : mj_T} {x y : Int32} : mj_E 208 1208 ls (.int y :: .int x :: st) σ τ = mj_E 208 1209 ls (.int (x + y) :: st) σ τ := mj_nx i208_1208 rfl
theorem i208_1209 : mj_ins 208 1209 = some (.iaload, 1210) := by decide +kernel
theorem e208_1209 {ls : mj_L} {st : List Value} {σ : mj_S} {τ : mj_T} {x : Int32} {k : Nat} : mj_E 208 1209 ls (.int x :: .ref k :: st) σ τ = if mj_ib (mj_li σ k) x = true then mj_E 208 1210 ls (.int (σ k x.toNatClampNeg) :: st) σ τ else none := mj_ald i208_1209
theorem i208_1210 : mj_ins 208 1210 = some (.invokevirtual 182, 1213) := by decide +kernel
theorem e208_1210 {ls : mj_L} {σ : mj_S} {τ : mj_T} {r : Nat} {x0 : Int32} {x1 : Int32} {w0 : Value} : mj_E 208 1210 ls [.int x1, .int x0, .ref r, w0] σ τ = if mj_rcv r 7 = true then mj_bd (mj_C 182 [.ref r, .int x0, .int x1] σ τ) (mj_K 208 1213 ls [w0]) else none := mj_clV (as := [.int x0, .int x1]) (r := [w0]) i208_1210 (by decide +kernel : mj_vk 208 182 2 1 3 false = true) (by decide +kernel)
theorem i208_1213 : mj_ins 208 1213 = some (.if_icmp .eq 1448, 1216) := by decide +kernel
theorem e208_1213 {ls : mj_L} {st : List Value} {σ : mj_S} {τ : mj_T} {x y : Int32} : mj_E 208 1213 ls (.int y :: .int x :: st) σ τ = if x = y then mj_E 208 1448 ls st σ τ else mj_E 208 1216 ls st σ τ := (mj_ifi i208_1213).trans (mj_cdT rfl)
theorem i208_1216 : mj_ins 208 1216 = some (.iconst (0), 1217) := by decide +kernel
theorem e208_1216 {ls : mj_L} {st : List Value} {σ : mj_S} {τ : mj_T} : mj_E 208 1216 ls st σ τ = mj_E 208 1217 ls (.int (nI 0) :: st) σ τ := mj_nx i208_1216 rfl
theorem i208_1217 : mj_ins 208 1217 = some (.ireturn, 1218) := by decide +kernel
theorem e208_1217 {ls : mj_L} {σ : mj_S} {τ : mj_T} {v : Int32} : mj_E 208 1217 ls [.int v] σ τ = if mj_ok (some .boolean) v = true then some (some (.int v), σ, τ) else none := mj_zrt i208_1217 rfl
theorem i208_1218 : mj_ins 208 1218 = some (.aload 1, 1219) := by decide +kernel
theorem e208_1218 {ls : mj_L} {st : List Value} {σ : mj_S} {τ : mj_T} {a0 : Option Value} {v : Nat} : mj_E 208 1218 (a0 :: some (.ref v) :: ls) st σ τ = mj_E 208 1219 (a0 :: some (.ref v) :: ls) (.ref v :: st) σ τ := mj_nx i208_1218 rfl
theorem i208_1219 : mj_ins 208 1219 = some (.aload 0, 1220) := by decide +kernel
theorem e208_1219 {ls : mj_L} {st : List Value} {σ : mj_S} {τ : mj_T} {v : Nat} : mj_E 208 1219 (some (.ref v) :: ls) st σ τ = mj_E 208 1220 (some (.ref v) :: ls) (.ref v :: st) σ τ := mj_nx i208_1219 rfl
theorem i208_1220 : mj_ins 208 1220 = some (.iload 3, 1221) := by decide +kernel
theorem e208_1220 {ls : mj_L} {st : List Value} {σ : mj_S} {τ : mj_T} {a0 a1 a2 : Option Value} {v : Int32} : mj_E 208 1220 (a0 :: a1 :: a2 :: some (.int v) :: ls) st σ τ = mj_E 208 1221 (a0 :: a1 :: a2 :: some (.int v) :: ls) (.int v :: st) σ τ := mj_nx i208_1220 rfl
theorem i208_1221 : mj_ins 208 1221 = some (.iconst (1), 1222) := by decide +kernel
theorem e208_1221 {ls : mj_L} {st : List Value} {σ : mj_S} {τ : mj_T} : mj_E 208 1221 ls st σ τ = mj_E 208 1222 ls (.int (nI 1) :: st) σ τ := mj_nx i208_1221 rfl
theorem i208_1222 : mj_ins 208 1222 = some (.iadd, 1223) := by decide +kernel
theorem e208_1222 {ls : mj_L} {st : List Value} {σ : mj_S} {τ : mj_T} {x y : Int32} : mj_E 208 1222 ls (.int y :: .int x :: st) σ τ = mj_E 208 1223 ls (.int (x + y) :: st) σ τ := mj_nx i208_1222 rfl
theorem i208_1223 : mj_ins 208 1223 = some (.iaload, 1224) := by decide +kernel
theorem e208_1223 {ls : mj_L} {st : List Value} {σ : mj_S} {τ : mj_T} {x : Int32} {k : Nat} : mj_E 208 1223 ls (.int x :: .ref k :: st) σ τ = if mj_ib (mj_li σ k) x = true then mj_E 208 1224 ls (.int (σ k x.toNatClampNeg) :: st) σ τ else none := mj_ald i208_1223
theorem i208_1224 : mj_ins 208 1224 = some (.invokevirtual 101, 1227) := by decide +kernel
theorem e208_1224 {ls : mj_L} {σ : mj_S} {τ : mj_T} {r : Nat} {x0 : Int32} : mj_E 208 1224 ls [.int x0, .ref r] σ τ = if mj_rcv r 6 = true then mj_bd (mj_C 101 [.ref r, .int x0] σ τ) (mj_K 208 1227 ls []) else none := mj_clV (as := [.int x0]) (r := []) i208_1224 (by decide +kernel : mj_vk 208 101 1 0 2 false = true) (by decide +kernel)
theorem i208_1227 : mj_ins 208 1227 = some (.aload 2, 1228) := by decide +kernel
theorem e208_1227 {ls : mj_L} {st : List Value} {σ : mj_S} {τ : mj_T} {a0 a1 : Option Value} {v : Nat} : mj_E 208 1227 (a0 :: a1 :: some (.ref v) :: ls) st σ τ = mj_E 208 1228 (a0 :: a1 :: some (.ref v) :: ls) (.ref v :: st) σ τ := mj_nx i208_1227 rfl
theorem i208_1228 : mj_ins 208 1228 = some (.aload 0, 1229) := by decide +kernel
theorem e208_1228 {ls : mj_L} {st : List Value} {σ : mj_S} {τ : mj_T} {v : Nat} : mj_E 208 1228 (some (.ref v) :: ls) st σ τ = mj_E 208 1229 (some (.ref v) :: ls) (.ref v :: st) σ τ := mj_nx i208_1228 rfl
theorem i208_1229 : mj_ins 208 1229 = some (.iload 3, 1230) := by decide +kernel
theorem e208_1229 {ls : mj_L} {st : List Value} {σ : mj_S} {τ : mj_T} {a0 a1 a2 : Option Value} {v : Int32} : mj_E 208 1229 (a0 :: a1 :: a2 :: some (.int v) :: ls) st σ τ = mj_E 208 1230 (a0 :: a1 :: a2 :: some (.int v) :: ls) (.int v :: st) σ τ := mj_nx i208_1229 rfl
theorem i208_1230 : mj_ins 208 1230 = some (.iconst (1), 1231) := by decide +kernel
theorem e208_1230 {ls : mj_L} {st : List Value} {σ : mj_S} {τ : mj_T} : mj_E 208 1230 ls st σ τ = mj_E 208 1231 ls (.int (nI 1) :: st) σ τ := mj_nx i208_1230 rfl
theorem i208_1231 : mj_ins 208 1231 = some (.iadd, 1232) := by decide +kernel
theorem e208_1231 {ls : mj_L} {st : List Value} {σ : mj_S} {τ : mj_T} {x y : Int32} : mj_E 208 1231 ls (.int y :: .int x :: st) σ τ = mj_E 208 1232 ls (.int (x + y) :: st) σ τ := mj_nx i208_1231 rfl
theorem i208_1232 : mj_ins 208 1232 = some (.iaload, 1233) := by decide +kernel
theorem e208_1232 {ls : mj_L} {st : List Value} {σ : mj_S} {τ : mj_T} {x : Int32} {k : Nat} : mj_E 208 1232 ls (.int x :: .ref k :: st) σ τ = if mj_ib (mj_li σ k) x = true then mj_E 208 1233 ls (.int (σ k x.toNatClampNeg) :: st) σ τ else none := mj_ald i208_1232
theorem i208_1233 : mj_ins 208 1233 = some (.invokevirtual 183, 1236) := by decide +kernel
theorem e208_1233 {ls : mj_L} {σ : mj_S} {τ : mj_T} {r : Nat} {x0 : Int32} {w0 : Value} : mj_E 208 1233 ls [.int x0, .ref r, w0] σ τ = if mj_rcv r 7 = true then mj_bd (mj_C 183 [.ref r, .int x0] σ τ) (mj_K 208 1236 ls [w0]) else none := mj_clV (as := [.int x0]) (r := [w0]) i208_1233 (by decide +kernel : mj_vk 208 183 1 1 2 false = true) (by decide +kernel)
theorem i208_1236 : mj_ins 208 1236 = some (.if_icmp .eq 1448, 1239) := by decide +kernel
theorem e208_1236 {ls : mj_L} {st : List Value} {σ : mj_S} {τ : mj_T} {x y : Int32} : mj_E 208 1236 ls (.int y :: .int x :: st) σ τ = if x = y then mj_E 208 1448 ls st σ τ else mj_E 208 1239 ls st σ τ := (mj_ifi i208_1236).trans (mj_cdT rfl)
theorem i208_1239 : mj_ins 208 1239 = some (.iconst (0), 1240) := by decide +kernel
theorem e208_1239 {ls : mj_L} {st : List Value} {σ : mj_S} {τ : mj_T} : mj_E 208 1239 ls st σ τ = mj_E 208 1240 ls (.int (nI 0) :: st) σ τ := mj_nx i208_1239 rfl
theorem i208_1240 : mj_ins 208 1240 = some (.ireturn, 1241) := by decide +kernel
theorem e208_1240 {ls : mj_L} {σ : mj_S} {τ : mj_T} {v : Int32} : mj_E 208 1240 ls [.int v] σ τ = if mj_ok (some .boolean) v = true then some (some (.int v), σ, τ) else none := mj_zrt i208_1240 rfl
theorem i208_1241 : mj_ins 208 1241 = some (.aload 1, 1242) := by decide +kernel
theorem e208_1241 {ls : mj_L} {st : List Value} {σ : mj_S} {τ : mj_T} {a0 : Option Value} {v : Nat} : mj_E 208 1241 (a0 :: some (.ref v) :: ls) st σ τ = mj_E 208 1242 (a0 :: some (.ref v) :: ls) (.ref v :: st) σ τ := mj_nx i208_1241 rfl
theorem i208_1242 : mj_ins 208 1242 = some (.aload 0, 1243) := by decide +kernel
theorem e208_1242 {ls : mj_L} {st : List Value} {σ : mj_S} {τ : mj_T} {v : Nat} : mj_E 208 1242 (some (.ref v) :: ls) st σ τ = mj_E 208 1243 (some (.ref v) :: ls) (.ref v :: st) σ τ := mj_nx i208_1242 rfl
theorem i208_1243 : mj_ins 208 1243 = some (.iload 3, 1244) := by decide +kernel
theorem e208_1243 {ls : mj_L} {st : List Value} {σ : mj_S} {τ : mj_T} {a0 a1 a2 : Option Value} {v : Int32} : mj_E 208 1243 (a0 :: a1 :: a2 :: some (.int v) :: ls) st σ τ = mj_E 208 1244 (a0 :: a1 :: a2 :: some (.int v) :: ls) (.int v :: st) σ τ := mj_nx i208_1243 rfl
theorem i208_1244 : mj_ins 208 1244 = some (.iconst (1), 1245) := by decide +kernel
theorem e208_1244 {ls : mj_L} {st : List Value} {σ : mj_S} {τ : mj_T} : mj_E 208 1244 ls st σ τ = mj_E 208 1245 ls (.int (nI 1) :: st) σ τ := mj_nx i208_1244 rfl
theorem i208_1245 : mj_ins 208 1245 = some (.iadd, 1246) := by decide +kernel
theorem e208_1245 {ls : mj_L} {st : List Value} {σ : mj_S} {τ : mj_T} {x y : Int32} : mj_E 208 1245 ls (.int y :: .int x :: st) σ τ = mj_E 208 1246 ls (.int (x + y) :: st) σ τ := mj_nx i208_1245 rfl
theorem i208_1246 : mj_ins 208 1246 = some (.iaload, 1247) := by decide +kernel
theorem e208_1246 {ls : mj_L} {st : List Value} {σ : mj_S} {τ : mj_T} {x : Int32} {k : Nat} : mj_E 208 1246 ls (.int x :: .ref k :: st) σ τ = if mj_ib (mj_li σ k) x = true then mj_E 208 1247 ls (.int (σ k x.toNatClampNeg) :: st) σ τ else none := mj_ald i208_1246
theorem i208_1247 : mj_ins 208 1247 = some (.invokevirtual 102, 1250) := by decide +kernel
theorem e208_1247 {ls : mj_L} {σ : mj_S} {τ : mj_T} {r : Nat} {x0 : Int32} : mj_E 208 1247 ls [.int x0, .ref r] σ τ = if mj_rcv r 6 = true then mj_bd (mj_C 102 [.ref r, .int x0] σ τ) (mj_K 208 1250 ls []) else none := mj_clV (as := [.int x0]) (r := []) i208_1247 (by decide +kernel : mj_vk 208 102 1 0 2 false = true) (by decide +kernel)
theorem i208_1250 : mj_ins 208 1250 = some (.aload 2, 1251) := by decide +kernel
theorem e208_1250 {ls : mj_L} {st : List Value} {σ : mj_S} {τ : mj_T} {a0 a1 : Option Value} {v : Nat} : mj_E 208 1250 (a0 :: a1 :: some (.ref v) :: ls) st σ τ = mj_E 208 1251 (a0 :: a1 :: some (.ref v) :: ls) (.ref v :: st) σ τ := mj_nx i208_1250 rfl
theorem i208_1251 : mj_ins 208 1251 = some (.aload 0, 1252) := by decide +kernel
theorem e208_1251 {ls : mj_L} {st : List Value} {σ : mj_S} {τ : mj_T} {v : Nat} : mj_E 208 1251 (some (.ref v) :: ls) st σ τ = mj_E 208 1252 (some (.ref v) :: ls) (.ref v :: st) σ τ := mj_nx i208_1251 rfl
theorem i208_1252 : mj_ins 208 1252 = some (.iload 3, 1253) := by decide +kernel
theorem e208_1252 {ls : mj_L} {st : List Value} {σ : mj_S} {τ : mj_T} {a0 a1 a2 : Option Value} {v : Int32} : mj_E 208 1252 (a0 :: a1 :: a2 :: some (.int v) :: ls) st σ τ = mj_E 208 1253 (a0 :: a1 :: a2 :: some (.int v) :: ls) (.int v :: st) σ τ := mj_nx i208_1252 rfl
theorem i208_1253 : mj_ins 208 1253 = some (.iconst (1), 1254) := by decide +kernel
theorem e208_1253 {ls : mj_L} {st : List Value} {σ : mj_S} {τ : mj_T} : mj_E 208 1253 ls st σ τ = mj_E 208 1254 ls (.int (nI 1) :: st) σ τ := mj_nx i208_1253 rfl
theorem i208_1254 : mj_ins 208 1254 = some (.iadd, 1255) := by decide +kernel
theorem e208_1254 {ls : mj_L} {st : List Value} {σ : mj_S} {τ : mj_T} {x y : Int32} : mj_E 208 1254 ls (.int y :: .int x :: st) σ τ = mj_E 208 1255 ls (.int (x + y) :: st) σ τ := mj_nx i208_1254 rfl
theorem i208_1255 : mj_ins 208 1255 = some (.iaload, 1256) := by decide +kernel
theorem e208_1255 {ls : mj_L} {st : List Value} {σ : mj_S} {τ : mj_T} {x : Int32} {k : Nat} : mj_E 208 1255 ls (.int x :: .ref k :: st) σ τ = if mj_ib (mj_li σ k) x = true then mj_E 208 1256 ls (.int (σ k x.toNatClampNeg) :: st) σ τ else none := mj_ald i208_1255
theorem i208_1256 : mj_ins 208 1256 = some (.invokevirtual 184, 1259) := by decide +kernel
theorem e208_1256 {ls : mj_L} {σ : mj_S} {τ : mj_T} {r : Nat} {x0 : Int32} {w0 : Value} : mj_E 208 1256 ls [.int x0, .ref r, w0] σ τ = if mj_rcv r 7 = true then mj_bd (mj_C 184 [.ref r, .int x0] σ τ) (mj_K 208 1259 ls [w0]) else none := mj_clV (as := [.int x0]) (r := [w0]) i208_1256 (by decide +kernel : mj_vk 208 184 1 1 2 false = true) (by decide +kernel)
theorem i208_1259 : mj_ins 208 1259 = some (.if_icmp .eq 1448, 1262) := by decide +kernel
theorem e208_1259 {ls : mj_L} {st : List Value} {σ : mj_S} {τ : mj_T} {x y : Int32} : mj_E 208 1259 ls (.int y :: .int x :: st) σ τ = if x = y then mj_E 208 1448 ls st σ τ else mj_E 208 1262 ls st σ τ := (mj_ifi i208_1259).trans (mj_cdT rfl)
theorem i208_1262 : mj_ins 208 1262 = some (.iconst (0), 1263) := by decide +kernel
theorem e208_1262 {ls : mj_L} {st : List Value} {σ : mj_S} {τ : mj_T} : mj_E 208 1262 ls st σ τ = mj_E 208 1263 ls (.int (nI 0) :: st) σ τ := mj_nx i208_1262 rfl
theorem i208_1263 : mj_ins 208 1263 = some (.ireturn, 1264) := by decide +kernel
theorem e208_1263 {ls : mj_L} {σ : mj_S} {τ : mj_T} {v : Int32} : mj_E 208 1263 ls [.int v] σ τ = if mj_ok (some .boolean) v = true then some (some (.int v), σ, τ) else none := mj_zrt i208_1263 rfl
theorem i208_1264 : mj_ins 208 1264 = some (.aload 1, 1265) := by decide +kernel
theorem e208_1264 {ls : mj_L} {st : List Value} {σ : mj_S} {τ : mj_T} {a0 : Option Value} {v : Nat} : mj_E 208 1264 (a0 :: some (.ref v) :: ls) st σ τ = mj_E 208 1265 (a0 :: some (.ref v) :: ls) (.ref v :: st) σ τ := mj_nx i208_1264 rfl
theorem i208_1265 : mj_ins 208 1265 = some (.aload 0, 1266) := by decide +kernel
theorem e208_1265 {ls : mj_L} {st : List Value} {σ : mj_S} {τ : mj_T} {v : Nat} : mj_E 208 1265 (some (.ref v) :: ls) st σ τ = mj_E 208 1266 (some (.ref v) :: ls) (.ref v :: st) σ τ := mj_nx i208_1265 rfl
theorem i208_1266 : mj_ins 208 1266 = some (.iload 3, 1267) := by decide +kernel
theorem e208_1266 {ls : mj_L} {st : List Value} {σ : mj_S} {τ : mj_T} {a0 a1 a2 : Option Value} {v : Int32} : mj_E 208 1266 (a0 :: a1 :: a2 :: some (.int v) :: ls) st σ τ = mj_E 208 1267 (a0 :: a1 :: a2 :: some (.int v) :: ls) (.int v :: st) σ τ := mj_nx i208_1266 rfl
theorem i208_1267 : mj_ins 208 1267 = some (.iconst (1), 1268) := by decide +kernel
theorem e208_1267 {ls : mj_L} {st : List Value} {σ : mj_S} {τ : mj_T} : mj_E 208 1267 ls st σ τ = mj_E 208 1268 ls (.int (nI 1) :: st) σ τ := mj_nx i208_1267 rfl
theorem i208_1268 : mj_ins 208 1268 = some (.iadd, 1269) := by decide +kernel
theorem e208_1268 {ls : mj_L} {st : List Value} {σ : mj_S} {τ : mj_T} {x y : Int32} : mj_E 208 1268 ls (.int y :: .int x :: st) σ τ = mj_E 208 1269 ls (.int (x + y) :: st) σ τ := mj_nx i208_1268 rfl
theorem i208_1269 : mj_ins 208 1269 = some (.iaload, 1270) := by decide +kernel
theorem e208_1269 {ls : mj_L} {st : List Value} {σ : mj_S} {τ : mj_T} {x : Int32} {k : Nat} : mj_E 208 1269 ls (.int x :: .ref k :: st) σ τ = if mj_ib (mj_li σ k) x = true then mj_E 208 1270 ls (.int (σ k x.toNatClampNeg) :: st) σ τ else none := mj_ald i208_1269
theorem i208_1270 : mj_ins 208 1270 = some (.invokevirtual 103, 1273) := by decide +kernel
theorem e208_1270 {ls : mj_L} {σ : mj_S} {τ : mj_T} {r : Nat} {x0 : Int32} : mj_E 208 1270 ls [.int x0, .ref r] σ τ = if mj_rcv r 6 = true then mj_bd (mj_C 103 [.ref r, .int x0] σ τ) (mj_K 208 1273 ls []) else none := mj_clV (as := [.int x0]) (r := []) i208_1270 (by decide +kernel : mj_vk 208 103 1 0 2 false = true) (by decide +kernel)
theorem i208_1273 : mj_ins 208 1273 = some (.aload 2, 1274) := by decide +kernel
theorem e208_1273 {ls : mj_L} {st : List Value} {σ : mj_S} {τ : mj_T} {a0 a1 : Option Value} {v : Nat} : mj_E 208 1273 (a0 :: a1 :: some (.ref v) :: ls) st σ τ = mj_E 208 1274 (a0 :: a1 :: some (.ref v) :: ls) (.ref v :: st) σ τ := mj_nx i208_1273 rfl
theorem i208_1274 : mj_ins 208 1274 = some (.aload 0, 1275) := by decide +kernel
theorem e208_1274 {ls : mj_L} {st : List Value} {σ : mj_S} {τ : mj_T} {v : Nat} : mj_E 208 1274 (some (.ref v) :: ls) st σ τ = mj_E 208 1275 (some (.ref v) :: ls) (.ref v :: st) σ τ := mj_nx i208_1274 rfl
theorem i208_1275 : mj_ins 208 1275 = some (.iload 3, 1276) := by decide +kernel
theorem e208_1275 {ls : mj_L} {st : List Value} {σ : mj_S} {τ : mj_T} {a0 a1 a2 : Option Value} {v : Int32} : mj_E 208 1275 (a0 :: a1 :: a2 :: some (.int v) :: ls) st σ τ = mj_E 208 1276 (a0 :: a1 :: a2 :: some (.int v) :: ls) (.int v :: st) σ τ := mj_nx i208_1275 rfl
theorem i208_1276 : mj_ins 208 1276 = some (.iconst (1), 1277) := by decide +kernel
theorem e208_1276 {ls : mj_L} {st : List Value} {σ : mj_S} {τ : mj_T} : mj_E 208 1276 ls st σ τ = mj_E 208 1277 ls (.int (nI 1) :: st) σ τ := mj_nx i208_1276 rfl
theorem i208_1277 : mj_ins 208 1277 = some (.iadd, 1278) := by decide +kernel
theorem e208_1277 {ls : mj_L} {st : List Value} {σ : mj_S} {τ : mj_T} {x y : Int32} : mj_E 208 1277 ls (.int y :: .int x :: st) σ τ = mj_E 208 1278 ls (.int (x + y) :: st) σ τ := mj_nx i208_1277 rfl
theorem i208_1278 : mj_ins 208 1278 = some (.iaload, 1279) := by decide +kernel
theorem e208_1278 {ls : mj_L} {st : List Value} {σ : mj_S} {τ : mj_T} {x : Int32} {k : Nat} : mj_E 208 1278 ls (.int x :: .ref k :: st) σ τ = if mj_ib (mj_li σ k) x = true then mj_E 208 1279 ls (.int (σ k x.toNatClampNeg) :: st) σ τ else none := mj_ald i208_1278
theorem i208_1279 : mj_ins 208 1279 = some (.invokevirtual 185, 1282) := by decide +kernel
theorem e208_1279 {ls : mj_L} {σ : mj_S} {τ : mj_T} {r : Nat} {x0 : Int32} {w0 : Value} : mj_E 208 1279 ls [.int x0, .ref r, w0] σ τ = if mj_rcv r 7 = true then mj_bd (mj_C 185 [.ref r, .int x0] σ τ) (mj_K 208 1282 ls [w0]) else none := mj_clV (as := [.int x0]) (r := [w0]) i208_1279 (by decide +kernel : mj_vk 208 185 1 1 2 false = true) (by decide +kernel)
theorem i208_1282 : mj_ins 208 1282 = some (.if_icmp .eq 1448, 1285) := by decide +kernel
theorem e208_1282 {ls : mj_L} {st : List Value} {σ : mj_S} {τ : mj_T} {x y : Int32} : mj_E 208 1282 ls (.int y :: .int x :: st) σ τ = if x = y then mj_E 208 1448 ls st σ τ else mj_E 208 1285 ls st σ τ := (mj_ifi i208_1282).trans (mj_cdT rfl)
theorem i208_1285 : mj_ins 208 1285 = some (.iconst (0), 1286) := by decide +kernel
theorem e208_1285 {ls : mj_L} {st : List Value} {σ : mj_S} {τ : mj_T} : mj_E 208 1285 ls st σ τ = mj_E 208 1286 ls (.int (nI 0) :: st) σ τ := mj_nx i208_1285 rfl
theorem i208_1286 : mj_ins 208 1286 = some (.ireturn, 1287) := by decide +kernel
theorem e208_1286 {ls : mj_L} {σ : mj_S} {τ : mj_T} {v : Int32} : mj_E 208 1286 ls [.int v] σ τ = if mj_ok (some .boolean) v = true then some (some (.int v), σ, τ) else none := mj_zrt i208_1286 rfl
theorem i208_1287 : mj_ins 208 1287 = some (.aload 1, 1288) := by decide +kernel
theorem e208_1287 {ls : mj_L} {st : List Value} {σ : mj_S} {τ : mj_T} {a0 : Option Value} {v : Nat} : mj_E 208 1287 (a0 :: some (.ref v) :: ls) st σ τ = mj_E 208 1288 (a0 :: some (.ref v) :: ls) (.ref v :: st) σ τ := mj_nx i208_1287 rfl
theorem i208_1288 : mj_ins 208 1288 = some (.aload 0, 1289) := by decide +kernel
theorem e208_1288 {ls : mj_L} {st : List Value} {σ : mj_S} {τ : mj_T} {v : Nat} : mj_E 208 1288 (some (.ref v) :: ls) st σ τ = mj_E 208 1289 (some (.ref v) :: ls) (.ref v :: st) σ τ := mj_nx i208_1288 rfl
theorem i208_1289 : mj_ins 208 1289 = some (.iload 3, 1290) := by decide +kernel
theorem e208_1289 {ls : mj_L} {st : List Value} {σ : mj_S} {τ : mj_T} {a0 a1 a2 : Option Value} {v : Int32} : mj_E 208 1289 (a0 :: a1 :: a2 :: some (.int v) :: ls) st σ τ = mj_E 208 1290 (a0 :: a1 :: a2 :: some (.int v) :: ls) (.int v :: st) σ τ := mj_nx i208_1289 rfl
theorem i208_1290 : mj_ins 208 1290 = some (.iconst (1), 1291) := by decide +kernel
theorem e208_1290 {ls : mj_L} {st : List Value} {σ : mj_S} {τ : mj_T} : mj_E 208 1290 ls st σ τ = mj_E 208 1291 ls (.int (nI 1) :: st) σ τ := mj_nx i208_1290 rfl
theorem i208_1291 : mj_ins 208 1291 = some (.iadd, 1292) := by decide +kernel
theorem e208_1291 {ls : mj_L} {st : List Value} {σ : mj_S} {τ : mj_T} {x y : Int32} : mj_E 208 1291 ls (.int y :: .int x :: st) σ τ = mj_E 208 1292 ls (.int (x + y) :: st) σ τ := mj_nx i208_1291 rfl
theorem i208_1292 : mj_ins 208 1292 = some (.iaload, 1293) := by decide +kernel
theorem e208_1292 {ls : mj_L} {st : List Value} {σ : mj_S} {τ : mj_T} {x : Int32} {k : Nat} : mj_E 208 1292 ls (.int x :: .ref k :: st) σ τ = if mj_ib (mj_li σ k) x = true then mj_E 208 1293 ls (.int (σ k x.toNatClampNeg) :: st) σ τ else none := mj_ald i208_1292
theorem i208_1293 : mj_ins 208 1293 = some (.invokevirtual 104, 1296) := by decide +kernel
theorem e208_1293 {ls : mj_L} {σ : mj_S} {τ : mj_T} {r : Nat} {x0 : Int32} : mj_E 208 1293 ls [.int x0, .ref r] σ τ = if mj_rcv r 6 = true then mj_bd (mj_C 104 [.ref r, .int x0] σ τ) (mj_K 208 1296 ls []) else none := mj_clV (as := [.int x0]) (r := []) i208_1293 (by decide +kernel : mj_vk 208 104 1 0 2 false = true) (by decide +kernel)
theorem i208_1296 : mj_ins 208 1296 = some (.aload 2, 1297) := by decide +kernel
theorem e208_1296 {ls : mj_L} {st : List Value} {σ : mj_S} {τ : mj_T} {a0 a1 : Option Value} {v : Nat} : mj_E 208 1296 (a0 :: a1 :: some (.ref v) :: ls) st σ τ = mj_E 208 1297 (a0 :: a1 :: some (.ref v) :: ls) (.ref v :: st) σ τ := mj_nx i208_1296 rfl
theorem i208_1297 : mj_ins 208 1297 = some (.aload 0, 1298) := by decide +kernel
theorem e208_1297 {ls : mj_L} {st : List Value} {σ : mj_S} {τ : mj_T} {v : Nat} : mj_E 208 1297 (some (.ref v) :: ls) st σ τ = mj_E 208 1298 (some (.ref v) :: ls) (.ref v :: st) σ τ := mj_nx i208_1297 rfl
theorem i208_1298 : mj_ins 208 1298 = some (.iload 3, 1299) := by decide +kernel
theorem e208_1298 {ls : mj_L} {st : List Value} {σ : mj_S} {τ : mj_T} {a0 a1 a2 : Option Value} {v : Int32} : mj_E 208 1298 (a0 :: a1 :: a2 :: some (.int v) :: ls) st σ τ = mj_E 208 1299 (a0 :: a1 :: a2 :: some (.int v) :: ls) (.int v :: st) σ τ := mj_nx i208_1298 rfl
theorem i208_1299 : mj_ins 208 1299 = some (.iconst (1), 1300) := by decide +kernel
theorem e208_1299 {ls : mj_L} {st : List Value} {σ : mj_S} {τ : mj_T} : mj_E 208 1299 ls st σ τ = mj_E 208 1300 ls (.int (nI 1) :: st) σ τ := mj_nx i208_1299 rfl
theorem i208_1300 : mj_ins 208 1300 = some (.iadd, 1301) := by decide +kernel
theorem e208_1300 {ls : mj_L} {st : List Value} {σ : mj_S} {τ : mj_T} {x y : Int32} : mj_E 208 1300 ls (.int y :: .int x :: st) σ τ = mj_E 208 1301 ls (.int (x + y) :: st) σ τ := mj_nx i208_1300 rfl
theorem i208_1301 : mj_ins 208 1301 = some (.iaload, 1302) := by decide +kernel
theorem e208_1301 {ls : mj_L} {st : List Value} {σ : mj_S} {τ : mj_T} {x : Int32} {k : Nat} : mj_E 208 1301 ls (.int x :: .ref k :: st) σ τ = if mj_ib (mj_li σ k) x = true then mj_E 208 1302 ls (.int (σ k x.toNatClampNeg) :: st) σ τ else none := mj_ald i208_1301
theorem i208_1302 : mj_ins 208 1302 = some (.invokevirtual 188, 1305) := by decide +kernel
theorem e208_1302 {ls : mj_L} {σ : mj_S} {τ : mj_T} {r : Nat} {x0 : Int32} {w0 : Value} : mj_E 208 1302 ls [.int x0, .ref r, w0] σ τ = if mj_rcv r 7 = true then mj_bd (mj_C 188 [.ref r, .int x0] σ τ) (mj_K 208 1305 ls [w0]) else none := mj_clV (as := [.int x0]) (r := [w0]) i208_1302 (by decide +kernel : mj_vk 208 188 1 1 2 false = true) (by decide +kernel)
theorem i208_1305 : mj_ins 208 1305 = some (.if_icmp .eq 1448, 1308) := by decide +kernel
theorem e208_1305 {ls : mj_L} {st : List Value} {σ : mj_S} {τ : mj_T} {x y : Int32} : mj_E 208 1305 ls (.int y :: .int x :: st) σ τ = if x = y then mj_E 208 1448 ls st σ τ else mj_E 208 1308 ls st σ τ := (mj_ifi i208_1305).trans (mj_cdT rfl)
theorem i208_1308 : mj_ins 208 1308 = some (.iconst (0), 1309) := by decide +kernel
theorem e208_1308 {ls : mj_L} {st : List Value} {σ : mj_S} {τ : mj_T} : mj_E 208 1308 ls st σ τ = mj_E 208 1309 ls (.int (nI 0) :: st) σ τ := mj_nx i208_1308 rfl
theorem i208_1309 : mj_ins 208 1309 = some (.ireturn, 1310) := by decide +kernel
theorem e208_1309 {ls : mj_L} {σ : mj_S} {τ : mj_T} {v : Int32} : mj_E 208 1309 ls [.int v] σ τ = if mj_ok (some .boolean) v = true then some (some (.int v), σ, τ) else none := mj_zrt i208_1309 rfl
theorem i208_1310 : mj_ins 208 1310 = some (.aload 1, 1311) := by decide +kernel
theorem e208_1310 {ls : mj_L} {st : List Value} {σ : mj_S} {τ : mj_T} {a0 : Option Value} {v : Nat} : mj_E 208 1310 (a0 :: some (.ref v) :: ls) st σ τ = mj_E 208 1311 (a0 :: some (.ref v) :: ls) (.ref v :: st) σ τ := mj_nx i208_1310 rfl
theorem i208_1311 : mj_ins 208 1311 = some (.aload 0, 1312) := by decide +kernel
theorem e208_1311 {ls : mj_L} {st : List Value} {σ : mj_S} {τ : mj_T} {v : Nat} : mj_E 208 1311 (some (.ref v) :: ls) st σ τ = mj_E 208 1312 (some (.ref v) :: ls) (.ref v :: st) σ τ := mj_nx i208_1311 rfl
theorem i208_1312 : mj_ins 208 1312 = some (.iload 3, 1313) := by decide +kernel
theorem e208_1312 {ls : mj_L} {st : List Value} {σ : mj_S} {τ : mj_T} {a0 a1 a2 : Option Value} {v : Int32} : mj_E 208 1312 (a0 :: a1 :: a2 :: some (.int v) :: ls) st σ τ = mj_E 208 1313 (a0 :: a1 :: a2 :: some (.int v) :: ls) (.int v :: st) σ τ := mj_nx i208_1312 rfl
theorem i208_1313 : mj_ins 208 1313 = some (.iconst (1), 1314) := by decide +kernel
theorem e208_1313 {ls : mj_L} {st : List Value} {σ : mj_S} {τ : mj_T} : mj_E 208 1313 ls st σ τ = mj_E 208 1314 ls (.int (nI 1) :: st) σ τ := mj_nx i208_1313 rfl
theorem i208_1314 : mj_ins 208 1314 = some (.iadd, 1315) := by decide +kernel
theorem e208_1314 {ls : mj_L} {st : List Value} {σ : mj_S} {τ : mj_T} {x y : Int32} : mj_E 208 1314 ls (.int y :: .int x :: st) σ τ = mj_E 208 1315 ls (.int (x + y) :: st) σ τ := mj_nx i208_1314 rfl
theorem i208_1315 : mj_ins 208 1315 = some (.iaload, 1316) := by decide +kernel
theorem e208_1315 {ls : mj_L} {st : List Value} {σ : mj_S} {τ : mj_T} {x : Int32} {k : Nat} : mj_E 208 1315 ls (.int x :: .ref k :: st) σ τ = if mj_ib (mj_li σ k) x = true then mj_E 208 1316 ls (.int (σ k x.toNatClampNeg) :: st) σ τ else none := mj_ald i208_1315
theorem i208_1316 : mj_ins 208 1316 = some (.invokevirtual 105, 1319) := by decide +kernel
theorem e208_1316 {ls : mj_L} {σ : mj_S} {τ : mj_T} {r : Nat} {x0 : Int32} : mj_E 208 1316 ls [.int x0, .ref r] σ τ = if mj_rcv r 6 = true then mj_bd (mj_C 105 [.ref r, .int x0] σ τ) (mj_K 208 1319 ls []) else none := mj_clV (as := [.int x0]) (r := []) i208_1316 (by decide +kernel : mj_vk 208 105 1 0 2 false = true) (by decide +kernel)
theorem i208_1319 : mj_ins 208 1319 = some (.aload 2, 1320) := by decide +kernel
theorem e208_1319 {ls : mj_L} {st : List Value} {σ : mj_S} {τ : mj_T} {a0 a1 : Option Value} {v : Nat} : mj_E 208 1319 (a0 :: a1 :: some (.ref v) :: ls) st σ τ = mj_E 208 1320 (a0 :: a1 :: some (.ref v) :: ls) (.ref v :: st) σ τ := mj_nx i208_1319 rfl
theorem i208_1320 : mj_ins 208 1320 = some (.aload 0, 1321) := by decide +kernel
theorem e208_1320 {ls : mj_L} {st : List Value} {σ : mj_S} {τ : mj_T} {v : Nat} : mj_E 208 1320 (some (.ref v) :: ls) st σ τ = mj_E 208 1321 (some (.ref v) :: ls) (.ref v :: st) σ τ := mj_nx i208_1320 rfl
theorem i208_1321 : mj_ins 208 1321 = some (.iload 3, 1322) := by decide +kernel
theorem e208_1321 {ls : mj_L} {st : List Value} {σ : mj_S} {τ : mj_T} {a0 a1 a2 : Option Value} {v : Int32} : mj_E 208 1321 (a0 :: a1 :: a2 :: some (.int v) :: ls) st σ τ = mj_E 208 1322 (a0 :: a1 :: a2 :: some (.int v) :: ls) (.int v :: st) σ τ := mj_nx i208_1321 rfl
theorem i208_1322 : mj_ins 208 1322 = some (.iconst (1), 1323) := by decide +kernel
theorem e208_1322 {ls : mj_L} {st : List Value} {σ : mj_S} {τ : mj_T} : mj_E 208 1322 ls st σ τ = mj_E 208 1323 ls (.int (nI 1) :: st) σ τ := mj_nx i208_1322 rfl
theorem i208_1323 : mj_ins 208 1323 = some (.iadd, 1324) := by decide +kernel
theorem e208_1323 {ls : mj_L} {st : List Value} {σ : mj_S} {τ : mj_T} {x y : Int32} : mj_E 208 1323 ls (.int y :: .int x :: st) σ τ = mj_E 208 1324 ls (.int (x + y) :: st) σ τ := mj_nx i208_1323 rfl
theorem i208_1324 : mj_ins 208 1324 = some (.iaload, 1325) := by decide +kernel
theorem e208_1324 {ls : mj_L} {st : List Value} {σ : mj_S} {τ : mj_T} {x : Int32} {k : Nat} : mj_E 208 1324 ls (.int x :: .ref k :: st) σ τ = if mj_ib (mj_li σ k) x = true then mj_E 208 1325 ls (.int (σ k x.toNatClampNeg) :: st) σ τ else none := mj_ald i208_1324
theorem i208_1325 : mj_ins 208 1325 = some (.invokevirtual 189, 1328) := by decide +kernel
theorem e208_1325 {ls : mj_L} {σ : mj_S} {τ : mj_T} {r : Nat} {x0 : Int32} {w0 : Value} : mj_E 208 1325 ls [.int x0, .ref r, w0] σ τ = if mj_rcv r 7 = true then mj_bd (mj_C 189 [.ref r, .int x0] σ τ) (mj_K 208 1328 ls [w0]) else none := mj_clV (as := [.int x0]) (r := [w0]) i208_1325 (by decide +kernel : mj_vk 208 189 1 1 2 false = true) (by decide +kernel)
theorem i208_1328 : mj_ins 208 1328 = some (.if_icmp .eq 1448, 1331) := by decide +kernel
theorem e208_1328 {ls : mj_L} {st : List Value} {σ : mj_S} {τ : mj_T} {x y : Int32} : mj_E 208 1328 ls (.int y :: .int x :: st) σ τ = if x = y then mj_E 208 1448 ls st σ τ else mj_E 208 1331 ls st σ τ := (mj_ifi i208_1328).trans (mj_cdT rfl)
theorem i208_1331 : mj_ins 208 1331 = some (.iconst (0), 1332) := by decide +kernel
theorem e208_1331 {ls : mj_L} {st : List Value} {σ : mj_S} {τ : mj_T} : mj_E 208 1331 ls st σ τ = mj_E 208 1332 ls (.int (nI 0) :: st) σ τ := mj_nx i208_1331 rfl
theorem i208_1332 : mj_ins 208 1332 = some (.ireturn, 1333) := by decide +kernel
theorem e208_1332 {ls : mj_L} {σ : mj_S} {τ : mj_T} {v : Int32} : mj_E 208 1332 ls [.int v] σ τ = if mj_ok (some .boolean) v = true then some (some (.int v), σ, τ) else none := mj_zrt i208_1332 rfl
theorem i208_1333 : mj_ins 208 1333 = some (.aload 1, 1334) := by decide +kernel
theorem e208_1333 {ls : mj_L} {st : List Value} {σ : mj_S} {τ : mj_T} {a0 : Option Value} {v : Nat} : mj_E 208 1333 (a0 :: some (.ref v) :: ls) st σ τ = mj_E 208 1334 (a0 :: some (.ref v) :: ls) (.ref v :: st) σ τ := mj_nx i208_1333 rfl
theorem i208_1334 : mj_ins 208 1334 = some (.aload 0, 1335) := by decide +kernel
theorem e208_1334 {ls : mj_L} {st : List Value} {σ : mj_S} {τ : mj_T} {v : Nat} : mj_E 208 1334 (some (.ref v) :: ls) st σ τ = mj_E 208 1335 (some (.ref v) :: ls) (.ref v :: st) σ τ := mj_nx i208_1334 rfl
theorem i208_1335 : mj_ins 208 1335 = some (.iload 3, 1336) := by decide +kernel
theorem e208_1335 {ls : mj_L} {st : List Value} {σ : mj_S} {τ : mj_T} {a0 a1 a2 : Option Value} {v : Int32} : mj_E 208 1335 (a0 :: a1 :: a2 :: some (.int v) :: ls) st σ τ = mj_E 208 1336 (a0 :: a1 :: a2 :: some (.int v) :: ls) (.int v :: st) σ τ := mj_nx i208_1335 rfl
theorem i208_1336 : mj_ins 208 1336 = some (.iconst (1), 1337) := by decide +kernel
theorem e208_1336 {ls : mj_L} {st : List Value} {σ : mj_S} {τ : mj_T} : mj_E 208 1336 ls st σ τ = mj_E 208 1337 ls (.int (nI 1) :: st) σ τ := mj_nx i208_1336 rfl
theorem i208_1337 : mj_ins 208 1337 = some (.iadd, 1338) := by decide +kernel
theorem e208_1337 {ls : mj_L} {st : List Value} {σ : mj_S} {τ : mj_T} {x y : Int32} : mj_E 208 1337 ls (.int y :: .int x :: st) σ τ = mj_E 208 1338 ls (.int (x + y) :: st) σ τ := mj_nx i208_1337 rfl
theorem i208_1338 : mj_ins 208 1338 = some (.iaload, 1339) := by decide +kernel
theorem e208_1338 {ls : mj_L} {st : List Value} {σ : mj_S} {τ : mj_T} {x : Int32} {k : Nat} : mj_E 208 1338 ls (.int x :: .ref k :: st) σ τ = if mj_ib (mj_li σ k) x = true then mj_E 208 1339 ls (.int (σ k x.toNatClampNeg) :: st) σ τ else none := mj_ald i208_1338
theorem i208_1339 : mj_ins 208 1339 = some (.aload 0, 1340) := by decide +kernel
theorem e208_1339 {ls : mj_L} {st : List Value} {σ : mj_S} {τ : mj_T} {v : Nat} : mj_E 208 1339 (some (.ref v) :: ls) st σ τ = mj_E 208 1340 (some (.ref v) :: ls) (.ref v :: st) σ τ := mj_nx i208_1339 rfl
theorem i208_1340 : mj_ins 208 1340 = some (.iload 3, 1341) := by decide +kernel
theorem e208_1340 {ls : mj_L} {st : List Value} {σ : mj_S} {τ : mj_T} {a0 a1 a2 : Option Value} {v : Int32} : mj_E 208 1340 (a0 :: a1 :: a2 :: some (.int v) :: ls) st σ τ = mj_E 208 1341 (a0 :: a1 :: a2 :: some (.int v) :: ls) (.int v :: st) σ τ := mj_nx i208_1340 rfl
theorem i208_1341 : mj_ins 208 1341 = some (.iconst (2), 1342) := by decide +kernel
theorem e208_1341 {ls : mj_L} {st : List Value} {σ : mj_S} {τ : mj_T} : mj_E 208 1341 ls st σ τ = mj_E 208 1342 ls (.int (nI 2) :: st) σ τ := mj_nx i208_1341 rfl
theorem i208_1342 : mj_ins 208 1342 = some (.iadd, 1343) := by decide +kernel
theorem e208_1342 {ls : mj_L} {st : List Value} {σ : mj_S} {τ : mj_T} {x y : Int32} : mj_E 208 1342 ls (.int y :: .int x :: st) σ τ = mj_E 208 1343 ls (.int (x + y) :: st) σ τ := mj_nx i208_1342 rfl
theorem i208_1343 : mj_ins 208 1343 = some (.iaload, 1344) := by decide +kernel
theorem e208_1343 {ls : mj_L} {st : List Value} {σ : mj_S} {τ : mj_T} {x : Int32} {k : Nat} : mj_E 208 1343 ls (.int x :: .ref k :: st) σ τ = if mj_ib (mj_li σ k) x = true then mj_E 208 1344 ls (.int (σ k x.toNatClampNeg) :: st) σ τ else none := mj_ald i208_1343
theorem i208_1344 : mj_ins 208 1344 = some (.aload 0, 1345) := by decide +kernel
theorem e208_1344 {ls : mj_L} {st : List Value} {σ : mj_S} {τ : mj_T} {v : Nat} : mj_E 208 1344 (some (.ref v) :: ls) st σ τ = mj_E 208 1345 (some (.ref v) :: ls) (.ref v :: st) σ τ := mj_nx i208_1344 rfl
theorem i208_1345 : mj_ins 208 1345 = some (.iload 3, 1346) := by decide +kernel
theorem e208_1345 {ls : mj_L} {st : List Value} {σ : mj_S} {τ : mj_T} {a0 a1 a2 : Option Value} {v : Int32} : mj_E 208 1345 (a0 :: a1 :: a2 :: some (.int v) :: ls) st σ τ = mj_E 208 1346 (a0 :: a1 :: a2 :: some (.int v) :: ls) (.int v :: st) σ τ := mj_nx i208_1345 rfl
theorem i208_1346 : mj_ins 208 1346 = some (.iconst (3), 1347) := by decide +kernel
theorem e208_1346 {ls : mj_L} {st : List Value} {σ : mj_S} {τ : mj_T} : mj_E 208 1346 ls st σ τ = mj_E 208 1347 ls (.int (nI 3) :: st) σ τ := mj_nx i208_1346 rfl
theorem i208_1347 : mj_ins 208 1347 = some (.iadd, 1348) := by decide +kernel
theorem e208_1347 {ls : mj_L} {st : List Value} {σ : mj_S} {τ : mj_T} {x y : Int32} : mj_E 208 1347 ls (.int y :: .int x :: st) σ τ = mj_E 208 1348 ls (.int (x + y) :: st) σ τ := mj_nx i208_1347 rfl
theorem i208_1348 : mj_ins 208 1348 = some (.iaload, 1349) := by decide +kernel
theorem e208_1348 {ls : mj_L} {st : List Value} {σ : mj_S} {τ : mj_T} {x : Int32} {k : Nat} : mj_E 208 1348 ls (.int x :: .ref k :: st) σ τ = if mj_ib (mj_li σ k) x = true then mj_E 208 1349 ls (.int (σ k x.toNatClampNeg) :: st) σ τ else none := mj_ald i208_1348
theorem i208_1349 : mj_ins 208 1349 = some (.invokevirtual 106, 1352) := by decide +kernel
theorem e208_1349 {ls : mj_L} {σ : mj_S} {τ : mj_T} {r : Nat} {x0 : Int32} {x1 : Int32} {x2 : Int32} : mj_E 208 1349 ls [.int x2, .int x1, .int x0, .ref r] σ τ = if mj_rcv r 6 = true then mj_bd (mj_C 106 [.ref r, .int x0, .int x1, .int x2] σ τ) (mj_K 208 1352 ls []) else none := mj_clV (as := [.int x0, .int x1, .int x2]) (r := []) i208_1349 (by decide +kernel : mj_vk 208 106 3 0 4 false = true) (by decide +kernel)
theorem i208_1352 : mj_ins 208 1352 = some (.aload 2, 1353) := by decide +kernel
theorem e208_1352 {ls : mj_L} {st : List Value} {σ : mj_S} {τ : mj_T} {a0 a1 : Option Value} {v : Nat} : mj_E 208 1352 (a0 :: a1 :: some (.ref v) :: ls) st σ τ = mj_E 208 1353 (a0 :: a1 :: some (.ref v) :: ls) (.ref v :: st) σ τ := mj_nx i208_1352 rfl
theorem i208_1353 : mj_ins 208 1353 = some (.aload 0, 1354) := by decide +kernel
theorem e208_1353 {ls : mj_L} {st : List Value} {σ : mj_S} {τ : mj_T} {v : Nat} : mj_E 208 1353 (some (.ref v) :: ls) st σ τ = mj_E 208 1354 (some (.ref v) :: ls) (.ref v :: st) σ τ := mj_nx i208_1353 rfl
theorem i208_1354 : mj_ins 208 1354 = some (.iload 3, 1355) := by decide +kernel
theorem e208_1354 {ls : mj_L} {st : List Value} {σ : mj_S} {τ : mj_T} {a0 a1 a2 : Option Value} {v : Int32} : mj_E 208 1354 (a0 :: a1 :: a2 :: some (.int v) :: ls) st σ τ = mj_E 208 1355 (a0 :: a1 :: a2 :: some (.int v) :: ls) (.int v :: st) σ τ := mj_nx i208_1354 rfl
theorem i208_1355 : mj_ins 208 1355 = some (.iconst (1), 1356) := by decide +kernel
theorem e208_1355 {ls : mj_L} {st : List Value} {σ : mj_S} {τ : mj_T} : mj_E 208 1355 ls st σ τ = mj_E 208 1356 ls (.int (nI 1) :: st) σ τ := mj_nx i208_1355 rfl
theorem i208_1356 : mj_ins 208 1356 = some (.iadd, 1357) := by decide +kernel
theorem e208_1356 {ls : mj_L} {st : List Value} {σ : mj_S} {τ : mj_T} {x y : Int32} : mj_E 208 1356 ls (.int y :: .int x :: st) σ τ = mj_E 208 1357 ls (.int (x + y) :: st) σ τ := mj_nx i208_1356 rfl
theorem i208_1357 : mj_ins 208 1357 = some (.iaload, 1358) := by decide +kernel
theorem e208_1357 {ls : mj_L} {st : List Value} {σ : mj_S} {τ : mj_T} {x : Int32} {k : Nat} : mj_E 208 1357 ls (.int x :: .ref k :: st) σ τ = if mj_ib (mj_li σ k) x = true then mj_E 208 1358 ls (.int (σ k x.toNatClampNeg) :: st) σ τ else none := mj_ald i208_1357
theorem i208_1358 : mj_ins 208 1358 = some (.aload 0, 1359) := by decide +kernel
theorem e208_1358 {ls : mj_L} {st : List Value} {σ : mj_S} {τ : mj_T} {v : Nat} : mj_E 208 1358 (some (.ref v) :: ls) st σ τ = mj_E 208 1359 (some (.ref v) :: ls) (.ref v :: st) σ τ := mj_nx i208_1358 rfl
theorem i208_1359 : mj_ins 208 1359 = some (.iload 3, 1360) := by decide +kernel
theorem e208_1359 {ls : mj_L} {st : List Value} {σ : mj_S} {τ : mj_T} {a0 a1 a2 : Option Value} {v : Int32} : mj_E 208 1359 (a0 :: a1 :: a2 :: some (.int v) :: ls) st σ τ = mj_E 208 1360 (a0 :: a1 :: a2 :: some (.int v) :: ls) (.int v :: st) σ τ := mj_nx i208_1359 rfl
theorem i208_1360 : mj_ins 208 1360 = some (.iconst (2), 1361) := by decide +kernel
theorem e208_1360 {ls : mj_L} {st : List Value} {σ : mj_S} {τ : mj_T} : mj_E 208 1360 ls st σ τ = mj_E 208 1361 ls (.int (nI 2) :: st) σ τ := mj_nx i208_1360 rfl
theorem i208_1361 : mj_ins 208 1361 = some (.iadd, 1362) := by decide +kernel
theorem e208_1361 {ls : mj_L} {st : List Value} {σ : mj_S} {τ : mj_T} {x y : Int32} : mj_E 208 1361 ls (.int y :: .int x :: st) σ τ = mj_E 208 1362 ls (.int (x + y) :: st) σ τ := mj_nx i208_1361 rfl
theorem i208_1362 : mj_ins 208 1362 = some (.iaload, 1363) := by decide +kernel
theorem e208_1362 {ls : mj_L} {st : List Value} {σ : mj_S} {τ : mj_T} {x : Int32} {k : Nat} : mj_E 208 1362 ls (.int x :: .ref k :: st) σ τ = if mj_ib (mj_li σ k) x = true then mj_E 208 1363 ls (.int (σ k x.toNatClampNeg) :: st) σ τ else none := mj_ald i208_1362
theorem i208_1363 : mj_ins 208 1363 = some (.aload 0, 1364) := by decide +kernel
theorem e208_1363 {ls : mj_L} {st : List Value} {σ : mj_S} {τ : mj_T} {v : Nat} : mj_E 208 1363 (some (.ref v) :: ls) st σ τ = mj_E 208 1364 (some (.ref v) :: ls) (.ref v :: st) σ τ := mj_nx i208_1363 rfl
theorem i208_1364 : mj_ins 208 1364 = some (.iload 3, 1365) := by decide +kernel
theorem e208_1364 {ls : mj_L} {st : List Value} {σ : mj_S} {τ : mj_T} {a0 a1 a2 : Option Value} {v : Int32} : mj_E 208 1364 (a0 :: a1 :: a2 :: some (.int v) :: ls) st σ τ = mj_E 208 1365 (a0 :: a1 :: a2 :: some (.int v) :: ls) (.int v :: st) σ τ := mj_nx i208_1364 rfl
theorem i208_1365 : mj_ins 208 1365 = some (.iconst (3), 1366) := by decide +kernel
theorem e208_1365 {ls : mj_L} {st : List Value} {σ : mj_S} {τ : mj_T} : mj_E 208 1365 ls st σ τ = mj_E 208 1366 ls (.int (nI 3) :: st) σ τ := mj_nx i208_1365 rfl
theorem i208_1366 : mj_ins 208 1366 = some (.iadd, 1367) := by decide +kernel
theorem e208_1366 {ls : mj_L} {st : List Value} {σ : mj_S} {τ : mj_T} {x y : Int32} : mj_E 208 1366 ls (.int y :: .int x :: st) σ τ = mj_E 208 1367 ls (.int (x + y) :: st) σ τ := mj_nx i208_1366 rfl
theorem i208_1367 : mj_ins 208 1367 = some (.iaload, 1368) := by decide +kernel
theorem e208_1367 {ls : mj_L} {st : List Value} {σ : mj_S} {τ : mj_T} {x : Int32} {k : Nat} : mj_E 208 1367 ls (.int x :: .ref k :: st) σ τ = if mj_ib (mj_li σ k) x = true then mj_E 208 1368 ls (.int (σ k x.toNatClampNeg) :: st) σ τ else none := mj_ald i208_1367
theorem i208_1368 : mj_ins 208 1368 = some (.invokevirtual 194, 1371) := by decide +kernel
theorem e208_1368 {ls : mj_L} {σ : mj_S} {τ : mj_T} {r : Nat} {x0 : Int32} {x1 : Int32} {x2 : Int32} {w0 : Value} : mj_E 208 1368 ls [.int x2, .int x1, .int x0, .ref r, w0] σ τ = if mj_rcv r 7 = true then mj_bd (mj_C 194 [.ref r, .int x0, .int x1, .int x2] σ τ) (mj_K 208 1371 ls [w0]) else none := mj_clV (as := [.int x0, .int x1, .int x2]) (r := [w0]) i208_1368 (by decide +kernel : mj_vk 208 194 3 1 4 false = true) (by decide +kernel)
theorem i208_1371 : mj_ins 208 1371 = some (.if_icmp .eq 1448, 1374) := by decide +kernel
theorem e208_1371 {ls : mj_L} {st : List Value} {σ : mj_S} {τ : mj_T} {x y : Int32} : mj_E 208 1371 ls (.int y :: .int x :: st) σ τ = if x = y then mj_E 208 1448 ls st σ τ else mj_E 208 1374 ls st σ τ := (mj_ifi i208_1371).trans (mj_cdT rfl)
theorem i208_1374 : mj_ins 208 1374 = some (.iconst (0), 1375) := by decide +kernel
theorem e208_1374 {ls : mj_L} {st : List Value} {σ : mj_S} {τ : mj_T} : mj_E 208 1374 ls st σ τ = mj_E 208 1375 ls (.int (nI 0) :: st) σ τ := mj_nx i208_1374 rfl
theorem i208_1375 : mj_ins 208 1375 = some (.ireturn, 1376) := by decide +kernel
theorem e208_1375 {ls : mj_L} {σ : mj_S} {τ : mj_T} {v : Int32} : mj_E 208 1375 ls [.int v] σ τ = if mj_ok (some .boolean) v = true then some (some (.int v), σ, τ) else none := mj_zrt i208_1375 rfl
theorem i208_1376 : mj_ins 208 1376 = some (.aload 1, 1377) := by decide +kernel
theorem e208_1376 {ls : mj_L} {st : List Value} {σ : mj_S} {τ : mj_T} {a0 : Option Value} {v : Nat} : mj_E 208 1376 (a0 :: some (.ref v) :: ls) st σ τ = mj_E 208 1377 (a0 :: some (.ref v) :: ls) (.ref v :: st) σ τ := mj_nx i208_1376 rfl
theorem i208_1377 : mj_ins 208 1377 = some (.aload 0, 1378) := by decide +kernel
theorem e208_1377 {ls : mj_L} {st : List Value} {σ : mj_S} {τ : mj_T} {v : Nat} : mj_E 208 1377 (some (.ref v) :: ls) st σ τ = mj_E 208 1378 (some (.ref v) :: ls) (.ref v :: st) σ τ := mj_nx i208_1377 rfl
theorem i208_1378 : mj_ins 208 1378 = some (.iload 3, 1379) := by decide +kernel
theorem e208_1378 {ls : mj_L} {st : List Value} {σ : mj_S} {τ : mj_T} {a0 a1 a2 : Option Value} {v : Int32} : mj_E 208 1378 (a0 :: a1 :: a2 :: some (.int v) :: ls) st σ τ = mj_E 208 1379 (a0 :: a1 :: a2 :: some (.int v) :: ls) (.int v :: st) σ τ := mj_nx i208_1378 rfl
theorem i208_1379 : mj_ins 208 1379 = some (.iconst (1), 1380) := by decide +kernel
theorem e208_1379 {ls : mj_L} {st : List Value} {σ : mj_S} {τ : mj_T} : mj_E 208 1379 ls st σ τ = mj_E 208 1380 ls (.int (nI 1) :: st) σ τ := mj_nx i208_1379 rfl
theorem i208_1380 : mj_ins 208 1380 = some (.iadd, 1381) := by decide +kernel
theorem e208_1380 {ls : mj_L} {st : List Value} {σ : mj_S} {τ : mj_T} {x y : Int32} : mj_E 208 1380 ls (.int y :: .int x :: st) σ τ = mj_E 208 1381 ls (.int (x + y) :: st) σ τ := mj_nx i208_1380 rfl
theorem i208_1381 : mj_ins 208 1381 = some (.iaload, 1382) := by decide +kernel
theorem e208_1381 {ls : mj_L} {st : List Value} {σ : mj_S} {τ : mj_T} {x : Int32} {k : Nat} : mj_E 208 1381 ls (.int x :: .ref k :: st) σ τ = if mj_ib (mj_li σ k) x = true then mj_E 208 1382 ls (.int (σ k x.toNatClampNeg) :: st) σ τ else none := mj_ald i208_1381
theorem i208_1382 : mj_ins 208 1382 = some (.invokevirtual 107, 1385) := by decide +kernel
theorem e208_1382 {ls : mj_L} {σ : mj_S} {τ : mj_T} {r : Nat} {x0 : Int32} : mj_E 208 1382 ls [.int x0, .ref r] σ τ = if mj_rcv r 6 = true then mj_bd (mj_C 107 [.ref r, .int x0] σ τ) (mj_K 208 1385 ls []) else none := mj_clV (as := [.int x0]) (r := []) i208_1382 (by decide +kernel : mj_vk 208 107 1 0 2 false = true) (by decide +kernel)
theorem i208_1385 : mj_ins 208 1385 = some (.aload 2, 1386) := by decide +kernel
theorem e208_1385 {ls : mj_L} {st : List Value} {σ : mj_S} {τ : mj_T} {a0 a1 : Option Value} {v : Nat} : mj_E 208 1385 (a0 :: a1 :: some (.ref v) :: ls) st σ τ = mj_E 208 1386 (a0 :: a1 :: some (.ref v) :: ls) (.ref v :: st) σ τ := mj_nx i208_1385 rfl
theorem i208_1386 : mj_ins 208 1386 = some (.aload 0, 1387) := by decide +kernel
theorem e208_1386 {ls : mj_L} {st : List Value} {σ : mj_S} {τ : mj_T} {v : Nat} : mj_E 208 1386 (some (.ref v) :: ls) st σ τ = mj_E 208 1387 (some (.ref v) :: ls) (.ref v :: st) σ τ := mj_nx i208_1386 rfl
theorem i208_1387 : mj_ins 208 1387 = some (.iload 3, 1388) := by decide +kernel
theorem e208_1387 {ls : mj_L} {st : List Value} {σ : mj_S} {τ : mj_T} {a0 a1 a2 : Option Value} {v : Int32} : mj_E 208 1387 (a0 :: a1 :: a2 :: some (.int v) :: ls) st σ τ = mj_E 208 1388 (a0 :: a1 :: a2 :: some (.int v) :: ls) (.int v :: st) σ τ := mj_nx i208_1387 rfl
theorem i208_1388 : mj_ins 208 1388 = some (.iconst (1), 1389) := by decide +kernel
theorem e208_1388 {ls : mj_L} {st : List Value} {σ : mj_S} {τ : mj_T} : mj_E 208 1388 ls st σ τ = mj_E 208 1389 ls (.int (nI 1) :: st) σ τ := mj_nx i208_1388 rfl
theorem i208_1389 : mj_ins 208 1389 = some (.iadd, 1390) := by decide +kernel
theorem e208_1389 {ls : mj_L} {st : List Value} {σ : mj_S} {τ : mj_T} {x y : Int32} : mj_E 208 1389 ls (.int y :: .int x :: st) σ τ = mj_E 208 1390 ls (.int (x + y) :: st) σ τ := mj_nx i208_1389 rfl
theorem i208_1390 : mj_ins 208 1390 = some (.iaload, 1391) := by decide +kernel
theorem e208_1390 {ls : mj_L} {st : List Value} {σ : mj_S} {τ : mj_T} {x : Int32} {k : Nat} : mj_E 208 1390 ls (.int x :: .ref k :: st) σ τ = if mj_ib (mj_li σ k) x = true then mj_E 208 1391 ls (.int (σ k x.toNatClampNeg) :: st) σ τ else none := mj_ald i208_1390
theorem i208_1391 : mj_ins 208 1391 = some (.invokevirtual 195, 1394) := by decide +kernel
theorem e208_1391 {ls : mj_L} {σ : mj_S} {τ : mj_T} {r : Nat} {x0 : Int32} {w0 : Value} : mj_E 208 1391 ls [.int x0, .ref r, w0] σ τ = if mj_rcv r 7 = true then mj_bd (mj_C 195 [.ref r, .int x0] σ τ) (mj_K 208 1394 ls [w0]) else none := mj_clV (as := [.int x0]) (r := [w0]) i208_1391 (by decide +kernel : mj_vk 208 195 1 1 2 false = true) (by decide +kernel)
theorem i208_1394 : mj_ins 208 1394 = some (.if_icmp .eq 1448, 1397) := by decide +kernel
theorem e208_1394 {ls : mj_L} {st : List Value} {σ : mj_S} {τ : mj_T} {x y : Int32} : mj_E 208 1394 ls (.int y :: .int x :: st) σ τ = if x = y then mj_E 208 1448 ls st σ τ else mj_E 208 1397 ls st σ τ := (mj_ifi i208_1394).trans (mj_cdT rfl)
theorem i208_1397 : mj_ins 208 1397 = some (.iconst (0), 1398) := by decide +kernel
theorem e208_1397 {ls : mj_L} {st : List Value} {σ : mj_S} {τ : mj_T} : mj_E 208 1397 ls st σ τ = mj_E 208 1398 ls (.int (nI 0) :: st) σ τ := mj_nx i208_1397 rfl
theorem i208_1398 : mj_ins 208 1398 = some (.ireturn, 1399) := by decide +kernel
theorem e208_1398 {ls : mj_L} {σ : mj_S} {τ : mj_T} {v : Int32} : mj_E 208 1398 ls [.int v] σ τ = if mj_ok (some .boolean) v = true then some (some (.int v), σ, τ) else none := mj_zrt i208_1398 rfl
theorem i208_1399 : mj_ins 208 1399 = some (.aload 1, 1400) := by decide +kernel
theorem e208_1399 {ls : mj_L} {st : List Value} {σ : mj_S} {τ : mj_T} {a0 : Option Value} {v : Nat} : mj_E 208 1399 (a0 :: some (.ref v) :: ls) st σ τ = mj_E 208 1400 (a0 :: some (.ref v) :: ls) (.ref v :: st) σ τ := mj_nx i208_1399 rfl
theorem i208_1400 : mj_ins 208 1400 = some (.invokevirtual 108, 1403) := by decide +kernel
theorem e208_1400 {ls : mj_L} {σ : mj_S} {τ : mj_T} {r : Nat} : mj_E 208 1400 ls [.ref r] σ τ = if mj_rcv r 6 = true then mj_bd (mj_C 108 [.ref r] σ τ) (mj_K 208 1403 ls []) else none := mj_clV (as := []) (r := []) i208_1400 (by decide +kernel : mj_vk 208 108 0 0 1 false = true) (by decide +kernel)
theorem i208_1403 : mj_ins 208 1403 = some (.aload 2, 1404) := by decide +kernel
theorem e208_1403 {ls : mj_L} {st : List Value} {σ : mj_S} {τ : mj_T} {a0 a1 : Option Value} {v : Nat} : mj_E 208 1403 (a0 :: a1 :: some (.ref v) :: ls) st σ τ = mj_E 208 1404 (a0 :: a1 :: some (.ref v) :: ls) (.ref v :: st) σ τ := mj_nx i208_1403 rfl
theorem i208_1404 : mj_ins 208 1404 = some (.invokevirtual 196, 1407) := by decide +kernel
theorem e208_1404 {ls : mj_L} {σ : mj_S} {τ : mj_T} {r : Nat} {w0 : Value} : mj_E 208 1404 ls [.ref r, w0] σ τ = if mj_rcv r 7 = true then mj_bd (mj_C 196 [.ref r] σ τ) (mj_K 208 1407 ls [w0]) else none := mj_clV (as := []) (r := [w0]) i208_1404 (by decide +kernel : mj_vk 208 196 0 1 1 false = true) (by decide +kernel)
theorem i208_1407 : mj_ins 208 1407 = some (.if_icmp .eq 1448, 1410) := by decide +kernel
theorem e208_1407 {ls : mj_L} {st : List Value} {σ : mj_S} {τ : mj_T} {x y : Int32} : mj_E 208 1407 ls (.int y :: .int x :: st) σ τ = if x = y then mj_E 208 1448 ls st σ τ else mj_E 208 1410 ls st σ τ := (mj_ifi i208_1407).trans (mj_cdT rfl)
theorem i208_1410 : mj_ins 208 1410 = some (.iconst (0), 1411) := by decide +kernel
theorem e208_1410 {ls : mj_L} {st : List Value} {σ : mj_S} {τ : mj_T} : mj_E 208 1410 ls st σ τ = mj_E 208 1411 ls (.int (nI 0) :: st) σ τ := mj_nx i208_1410 rfl
theorem i208_1411 : mj_ins 208 1411 = some (.ireturn, 1412) := by decide +kernel
theorem e208_1411 {ls : mj_L} {σ : mj_S} {τ : mj_T} {v : Int32} : mj_E 208 1411 ls [.int v] σ τ = if mj_ok (some .boolean) v = true then some (some (.int v), σ, τ) else none := mj_zrt i208_1411 rfl
theorem i208_1412 : mj_ins 208 1412 = some (.aload 1, 1413) := by decide +kernel
theorem e208_1412 {ls : mj_L} {st : List Value} {σ : mj_S} {τ : mj_T} {a0 : Option Value} {v : Nat} : mj_E 208 1412 (a0 :: some (.ref v) :: ls) st σ τ = mj_E 208 1413 (a0 :: some (.ref v) :: ls) (.ref v :: st) σ τ := mj_nx i208_1412 rfl
theorem i208_1413 : mj_ins 208 1413 = some (.invokevirtual 109, 1416) := by decide +kernel
theorem e208_1413 {ls : mj_L} {σ : mj_S} {τ : mj_T} {r : Nat} : mj_E 208 1413 ls [.ref r] σ τ = if mj_rcv r 6 = true then mj_bd (mj_C 109 [.ref r] σ τ) (mj_K 208 1416 ls []) else none := mj_clV (as := []) (r := []) i208_1413 (by decide +kernel : mj_vk 208 109 0 0 1 false = true) (by decide +kernel)
theorem i208_1416 : mj_ins 208 1416 = some (.aload 2, 1417) := by decide +kernel
theorem e208_1416 {ls : mj_L} {st : List Value} {σ : mj_S} {τ : mj_T} {a0 a1 : Option Value} {v : Nat} : mj_E 208 1416 (a0 :: a1 :: some (.ref v) :: ls) st σ τ = mj_E 208 1417 (a0 :: a1 :: some (.ref v) :: ls) (.ref v :: st) σ τ := mj_nx i208_1416 rfl
theorem i208_1417 : mj_ins 208 1417 = some (.invokevirtual 197, 1420) := by decide +kernel
theorem e208_1417 {ls : mj_L} {σ : mj_S} {τ : mj_T} {r : Nat} {w0 : Value} : mj_E 208 1417 ls [.ref r, w0] σ τ = if mj_rcv r 7 = true then mj_bd (mj_C 197 [.ref r] σ τ) (mj_K 208 1420 ls [w0]) else none := mj_clV (as := []) (r := [w0]) i208_1417 (by decide +kernel : mj_vk 208 197 0 1 1 false = true) (by decide +kernel)
theorem i208_1420 : mj_ins 208 1420 = some (.if_icmp .eq 1448, 1423) := by decide +kernel
theorem e208_1420 {ls : mj_L} {st : List Value} {σ : mj_S} {τ : mj_T} {x y : Int32} : mj_E 208 1420 ls (.int y :: .int x :: st) σ τ = if x = y then mj_E 208 1448 ls st σ τ else mj_E 208 1423 ls st σ τ := (mj_ifi i208_1420).trans (mj_cdT rfl)
theorem i208_1423 : mj_ins 208 1423 = some (.iconst (0), 1424) := by decide +kernel
theorem e208_1423 {ls : mj_L} {st : List Value} {σ : mj_S} {τ : mj_T} : mj_E 208 1423 ls st σ τ = mj_E 208 1424 ls (.int (nI 0) :: st) σ τ := mj_nx i208_1423 rfl
theorem i208_1424 : mj_ins 208 1424 = some (.ireturn, 1425) := by decide +kernel
theorem e208_1424 {ls : mj_L} {σ : mj_S} {τ : mj_T} {v : Int32} : mj_E 208 1424 ls [.int v] σ τ = if mj_ok (some .boolean) v = true then some (some (.int v), σ, τ) else none := mj_zrt i208_1424 rfl
theorem i208_1425 : mj_ins 208 1425 = some (.aload 1, 1426) := by decide +kernel
theorem e208_1425 {ls : mj_L} {st : List Value} {σ : mj_S} {τ : mj_T} {a0 : Option Value} {v : Nat} : mj_E 208 1425 (a0 :: some (.ref v) :: ls) st σ τ = mj_E 208 1426 (a0 :: some (.ref v) :: ls) (.ref v :: st) σ τ := mj_nx i208_1425 rfl
theorem i208_1426 : mj_ins 208 1426 = some (.aload 0, 1427) := by decide +kernel
theorem e208_1426 {ls : mj_L} {st : List Value} {σ : mj_S} {τ : mj_T} {v : Nat} : mj_E 208 1426 (some (.ref v) :: ls) st σ τ = mj_E 208 1427 (some (.ref v) :: ls) (.ref v :: st) σ τ := mj_nx i208_1426 rfl
theorem i208_1427 : mj_ins 208 1427 = some (.iload 3, 1428) := by decide +kernel
theorem e208_1427 {ls : mj_L} {st : List Value} {σ : mj_S} {τ : mj_T} {a0 a1 a2 : Option Value} {v : Int32} : mj_E 208 1427 (a0 :: a1 :: a2 :: some (.int v) :: ls) st σ τ = mj_E 208 1428 (a0 :: a1 :: a2 :: some (.int v) :: ls) (.int v :: st) σ τ := mj_nx i208_1427 rfl
theorem i208_1428 : mj_ins 208 1428 = some (.iconst (1), 1429) := by decide +kernel
theorem e208_1428 {ls : mj_L} {st : List Value} {σ : mj_S} {τ : mj_T} : mj_E 208 1428 ls st σ τ = mj_E 208 1429 ls (.int (nI 1) :: st) σ τ := mj_nx i208_1428 rfl
theorem i208_1429 : mj_ins 208 1429 = some (.iadd, 1430) := by decide +kernel
theorem e208_1429 {ls : mj_L} {st : List Value} {σ : mj_S} {τ : mj_T} {x y : Int32} : mj_E 208 1429 ls (.int y :: .int x :: st) σ τ = mj_E 208 1430 ls (.int (x + y) :: st) σ τ := mj_nx i208_1429 rfl
theorem i208_1430 : mj_ins 208 1430 = some (.iaload, 1431) := by decide +kernel
theorem e208_1430 {ls : mj_L} {st : List Value} {σ : mj_S} {τ : mj_T} {x : Int32} {k : Nat} : mj_E 208 1430 ls (.int x :: .ref k :: st) σ τ = if mj_ib (mj_li σ k) x = true then mj_E 208 1431 ls (.int (σ k x.toNatClampNeg) :: st) σ τ else none := mj_ald i208_1430
theorem i208_1431 : mj_ins 208 1431 = some (.invokevirtual 110, 1434) := by decide +kernel
theorem e208_1431 {ls : mj_L} {σ : mj_S} {τ : mj_T} {r : Nat} {x0 : Int32} : mj_E 208 1431 ls [.int x0, .ref r] σ τ = if mj_rcv r 6 = true then mj_bd (mj_C 110 [.ref r, .int x0] σ τ) (mj_K 208 1434 ls []) else none := mj_clV (as := [.int x0]) (r := []) i208_1431 (by decide +kernel : mj_vk 208 110 1 0 2 false = true) (by decide +kernel)
theorem i208_1434 : mj_ins 208 1434 = some (.aload 2, 1435) := by decide +kernel
theorem e208_1434 {ls : mj_L} {st : List Value} {σ : mj_S} {τ : mj_T} {a0 a1 : Option Value} {v : Nat} : mj_E 208 1434 (a0 :: a1 :: some (.ref v) :: ls) st σ τ = mj_E 208 1435 (a0 :: a1 :: some (.ref v) :: ls) (.ref v :: st) σ τ := mj_nx i208_1434 rfl
theorem i208_1435 : mj_ins 208 1435 = some (.aload 0, 1436) := by decide +kernel
theorem e208_1435 {ls : mj_L} {st : List Value} {σ : mj_S} {τ : mj_T} {v : Nat} : mj_E 208 1435 (some (.ref v) :: ls) st σ τ = mj_E 208 1436 (some (.ref v) :: ls) (.ref v :: st) σ τ := mj_nx i208_1435 rfl
theorem i208_1436 : mj_ins 208 1436 = some (.iload 3, 1437) := by decide +kernel
theorem e208_1436 {ls : mj_L} {st : List Value} {σ : mj_S} {τ : mj_T} {a0 a1 a2 : Option Value} {v : Int32} : mj_E 208 1436 (a0 :: a1 :: a2 :: some (.int v) :: ls) st σ τ = mj_E 208 1437 (a0 :: a1 :: a2 :: some (.int v) :: ls) (.int v :: st) σ τ := mj_nx i208_1436 rfl
theorem i208_1437 : mj_ins 208 1437 = some (.iconst (1), 1438) := by decide +kernel
theorem e208_1437 {ls : mj_L} {st : List Value} {σ : mj_S} {τ : mj_T} : mj_E 208 1437 ls st σ τ = mj_E 208 1438 ls (.int (nI 1) :: st) σ τ := mj_nx i208_1437 rfl
theorem i208_1438 : mj_ins 208 1438 = some (.iadd, 1439) := by decide +kernel
theorem e208_1438 {ls : mj_L} {st : List Value} {σ : mj_S} {τ : mj_T} {x y : Int32} : mj_E 208 1438 ls (.int y :: .int x :: st) σ τ = mj_E 208 1439 ls (.int (x + y) :: st) σ τ := mj_nx i208_1438 rfl
theorem i208_1439 : mj_ins 208 1439 = some (.iaload, 1440) := by decide +kernel
theorem e208_1439 {ls : mj_L} {st : List Value} {σ : mj_S} {τ : mj_T} {x : Int32} {k : Nat} : mj_E 208 1439 ls (.int x :: .ref k :: st) σ τ = if mj_ib (mj_li σ k) x = true then mj_E 208 1440 ls (.int (σ k x.toNatClampNeg) :: st) σ τ else none := mj_ald i208_1439
theorem i208_1440 : mj_ins 208 1440 = some (.invokevirtual 199, 1443) := by decide +kernel
theorem e208_1440 {ls : mj_L} {σ : mj_S} {τ : mj_T} {r : Nat} {x0 : Int32} {w0 : Value} : mj_E 208 1440 ls [.int x0, .ref r, w0] σ τ = if mj_rcv r 7 = true then mj_bd (mj_C 199 [.ref r, .int x0] σ τ) (mj_K 208 1443 ls [w0]) else none := mj_clV (as := [.int x0]) (r := [w0]) i208_1440 (by decide +kernel : mj_vk 208 199 1 1 2 false = true) (by decide +kernel)
theorem i208_1443 : mj_ins 208 1443 = some (.if_icmp .eq 1448, 1446) := by decide +kernel
theorem e208_1443 {ls : mj_L} {st : List Value} {σ : mj_S} {τ : mj_T} {x y : Int32} : mj_E 208 1443 ls (.int y :: .int x :: st) σ τ = if x = y then mj_E 208 1448 ls st σ τ else mj_E 208 1446 ls st σ τ := (mj_ifi i208_1443).trans (mj_cdT rfl)
theorem i208_1446 : mj_ins 208 1446 = some (.iconst (0), 1447) := by decide +kernel
theorem e208_1446 {ls : mj_L} {st : List Value} {σ : mj_S} {τ : mj_T} : mj_E 208 1446 ls st σ τ = mj_E 208 1447 ls (.int (nI 0) :: st) σ τ := mj_nx i208_1446 rfl
theorem i208_1447 : mj_ins 208 1447 = some (.ireturn, 1448) := by decide +kernel
theorem e208_1447 {ls : mj_L} {σ : mj_S} {τ : mj_T} {v : Int32} : mj_E 208 1447 ls [.int v] σ τ = if mj_ok (some .boolean) v = true then some (some (.int v), σ, τ) else none := mj_zrt i208_1447 rfl
theorem i208_1448 : mj_ins 208 1448 = some (.iinc 3 (6), 1451) := by decide +kernel
theorem e208_1448 {ls : mj_L} {st : List Value} {σ : mj_S} {τ : mj_T} {a0 a1 a2 : Option Value} {v : Int32} : mj_E 208 1448 (a0 :: a1 :: a2 :: some (.int v) :: ls) st σ τ = mj_E 208 1451 (a0 :: a1 :: a2 :: some (.int (v + nI 6)) :: ls) st σ τ := mj_nx i208_1448 rfl
theorem i208_1451 : mj_ins 208 1451 = some (.goto 18, 1454) := by decide +kernel
theorem e208_1451 {ls : mj_L} {st : List Value} {σ : mj_S} {τ : mj_T} : mj_E 208 1451 ls st σ τ = mj_E 208 18 ls st σ τ := mj_nx i208_1451 rfl
theorem i208_1454 : mj_ins 208 1454 = some (.iconst (1), 1455) := by decide +kernel
theorem e208_1454 {ls : mj_L} {st : List Value} {σ : mj_S} {τ : mj_T} : mj_E 208 1454 ls st σ τ = mj_E 208 1455 ls (.int (nI 1) :: st) σ τ := mj_nx i208_1454 rfl
theorem i208_1455 : mj_ins 208 1455 = some (.ireturn, 1456) := by decide +kernel
theorem e208_1455 {ls : mj_L} {σ : mj_S} {τ : mj_T} {v : Int32} : mj_E 208 1455 ls [.int v] σ τ = if mj_ok (some .boolean) v = true then some (some (.int v), σ, τ) else none := mj_zrt i208_1455 rfl
