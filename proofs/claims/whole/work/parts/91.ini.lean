/-! THE CONSTRUCTORS, by the kit's rows: what they stand on, and the small ones -/
def mk_PD (D : va_G) (A : Nat → Prop) (ws : va_W) (H : Heap) : Prop := va_P D vwCl ws H ∧ va_D A ws
theorem mk_good {w : Cond} (h : w ∈ mj_tbl) : GoodIn mj_tbl (w :: mj_tbl) := fun w' hw => by
  rcases List.mem_cons.mp hw with rfl | hw
  · exact mj_good1 h
  · exact mj_good1 hw
/-- the links between mates, and the row of shelves -/
def mk_N (U : State) : Prop := va_Nw (.methodLinkNest RX7 9 yX2_init "ChosenBackAtNine") U ∧ va_Nw (.methodLinkNest RX2 60 yX0_init "ChosenBackAtNine") U ∧ va_Nw (.methodLinkNest RX7 34 yX3_init "ChosenBackAtNine") U ∧ va_Nw (.methodLinkNest RX7 41 yX4_init "ChosenBackAtNine") U ∧ va_Nw (.methodLinkNest RX7 48 yX6_init "ChosenBackAtNine") U ∧ va_Nw (.methodLinkNest RX7 61 yX5_init "ChosenBackAtNine") U ∧ va_AO "ChosenBackAtNine$Shelf" U
theorem mk_N0 {U : State} (h : mk_N U) : va_Nw (.methodLinkNest RX7 9 yX2_init "ChosenBackAtNine") U := h.1
theorem mk_N1 {U : State} (h : mk_N U) : va_Nw (.methodLinkNest RX2 60 yX0_init "ChosenBackAtNine") U := h.2.1
theorem mk_N2 {U : State} (h : mk_N U) : va_Nw (.methodLinkNest RX7 34 yX3_init "ChosenBackAtNine") U := h.2.2.1
theorem mk_N3 {U : State} (h : mk_N U) : va_Nw (.methodLinkNest RX7 41 yX4_init "ChosenBackAtNine") U := h.2.2.2.1
theorem mk_N4 {U : State} (h : mk_N U) : va_Nw (.methodLinkNest RX7 48 yX6_init "ChosenBackAtNine") U := h.2.2.2.2.1
theorem mk_N5 {U : State} (h : mk_N U) : va_Nw (.methodLinkNest RX7 61 yX5_init "ChosenBackAtNine") U := h.2.2.2.2.2.1
theorem mk_NA {U : State} (h : mk_N U) : va_AO "ChosenBackAtNine$Shelf" U := h.2.2.2.2.2.2
theorem mk_N.same {u U : State} (hv : u.vm = U.vm) (h : mk_N u) : mk_N U := ⟨(mk_N0 h).same rfl hv, (mk_N1 h).same rfl hv, (mk_N2 h).same rfl hv, (mk_N3 h).same rfl hv, (mk_N4 h).same rfl hv, (mk_N5 h).same rfl hv, (mk_NA h).moved (by rw [hv]; exact Vm.Alike.refl U.vm)⟩
theorem mk_N.warm {u U : State} (hW : u.WarmedH U.vm) (h : mk_N u) : mk_N U := ⟨va_Nw.warmM hW (mk_N0 h), va_Nw.warmM hW (mk_N1 h), va_Nw.warmM hW (mk_N2 h), va_Nw.warmM hW (mk_N3 h), va_Nw.warmM hW (mk_N4 h), va_Nw.warmM hW (mk_N5 h), (mk_NA h).moved hW.alike⟩
def mk_wv (L : List Int32) (k : Nat) : Nat → Int32 := fun j => if j < k then L.getD j 0 else 0
theorem mk_wv0 {L : List Int32} : ∀ j, mk_wv L 0 j = 0 := fun j => by simp [mk_wv]
theorem mk_wvs {L : List Int32} {k : Nat} {x : Int32} (h : L.getD k 0 = x) : upd (mk_wv L k) k x = mk_wv L (k + 1) := by
  funext j
  unfold upd mk_wv
  by_cases hj : j = k
  · subst hj; simp [← h]
  · by_cases h2 : j < k
    · rw [if_neg hj, if_pos h2, if_pos (by omega)]
    · rw [if_neg hj, if_neg h2, if_neg (by omega)]
def mk_L0 : List Int32 := mj_wds
def mk_L1 : List Int32 := [4, 5, 3, 2, 1]
def mk_L2 : List Int32 := [6, 9, 60, 9]
theorem mk_RA {U : State} {c1 c2 : ClassId} {ty : FieldType} (h1 : va_RA U c1 ty) (h2 : va_RA U c2 ty) : c1 = c2 := by
  cases ty with
  | object C =>
    obtain ⟨_, _, _, _, _, a4⟩ := h1
    obtain ⟨_, _, _, _, _, b4⟩ := h2
    exact Option.some.inj (a4.symm.trans b4)
  | _ => exact Option.some.inj (h1.symm.trans h2)
section
variable {p : Program} {l : Launch} {e : Env} {R : Room} {s : State} {m : MethodId} {args : Array Value} {below : List Frame} {meth : Method} {c : Code} {H : Heap} {locs : List Loc} {cells slots : Nat} {Q : State → Prop}
variable {cc : ByteArray} {pc : Nat} {ls : Array Slot} {rest : List Value} {D : va_G} {cy : Nat → ClassId} {A : Nat → Prop} {a : Nat} {ws : va_W} {H0 : Heap}
theorem mk_newI (hexec : p.tables.exec = Jvm.exec) (hb : c.code = cc) (harr : (Cond.arrayClass .int).before args s = true) (hK : va_K D vwCl (mj_tys cy) s) (hP : va_P D vwCl ws H) (hD : va_D A ws) (hS : va_S A H0 H locs) (hA : ∀ q, H0.size ≤ q → A q)
    {f0 : Nat → Int32} (h0 : ∀ j, f0 j = 0) {n : Int32} {N' : Nat} (hn : ¬ n < 0) (hN : n.toNatClampNeg = N') (hbytes : N' * componentBytes .int ≤ 536870912) (hcells : cells + 1 ≤ R.cells) (hslots : slots + N' ≤ R.slots) (hdg : decode cc pc = .ok (.newarray .int, 2))
    (kk : ∀ (q : Nat) (H1 : Heap), va_P D vwCl (ws ++ [(q, .inl (cy 0, N', .inl f0))]) H1 → va_D A (ws ++ [(q, .inl (cy 0, N', .inl f0))]) → va_S A H0 H1 locs →
      W p l e R s m args below meth c H1 locs (cells + 1) (slots + N') Q (F0 m (pc + 2) ls (.ref q :: rest))) : W p l e R s m args below meth c H locs cells slots Q (F0 m pc ls (.int n :: rest)) := by
  refine va_newa (atype := .int) (ty := .int) (a0 := (N', .inl f0)) hexec hb harr rfl hK hP hD hS hA (fun cA => ?_) hn hN hbytes hcells hslots hdg (fun q cA H1 hK1 hP1 hD1 hS1 => ?_)
  · rw [vp_cell_i]
    exact congrArg (arrV cA N') (funext fun j => by rw [h0]; rfl)
  · have e1 : cA = cy 0 := mk_RA (hK1.2 3 (cA, .int) rfl).2 (hK.2 0 (cy 0, .int) rfl).2
    subst e1
    exact kk q H1 hP1 hD1 hS1
theorem mk_newL (hexec : p.tables.exec = Jvm.exec) (hb : c.code = cc) (harr : (Cond.arrayClass .long).before args s = true) (hK : va_K D vwCl (mj_tys cy) s) (hP : va_P D vwCl ws H) (hD : va_D A ws) (hS : va_S A H0 H locs) (hA : ∀ q, H0.size ≤ q → A q)
    {n : Int32} {N' : Nat} (hn : ¬ n < 0) (hN : n.toNatClampNeg = N') (hbytes : N' * componentBytes .long ≤ 536870912) (hcells : cells + 1 ≤ R.cells) (hslots : slots + N' ≤ R.slots) (hdg : decode cc pc = .ok (.newarray .long, 2))
    (kk : ∀ (q : Nat) (H1 : Heap), va_P D vwCl (ws ++ [(q, .inl (cy 1, N', .inr (.inl (fun _ => 0))))]) H1 → va_D A (ws ++ [(q, .inl (cy 1, N', .inr (.inl (fun _ => 0))))]) → va_S A H0 H1 locs →
      W p l e R s m args below meth c H1 locs (cells + 1) (slots + N') Q (F0 m (pc + 2) ls (.ref q :: rest))) : W p l e R s m args below meth c H locs cells slots Q (F0 m pc ls (.int n :: rest)) := by
  refine va_newa (atype := .long) (ty := .long) (a0 := (N', .inr (.inl (fun _ => 0)))) hexec hb harr rfl hK hP hD hS hA (fun cA => ?_) hn hN hbytes hcells hslots hdg (fun q cA H1 hK1 hP1 hD1 hS1 => ?_)
  · rw [vp_cell_l]
    rfl
  · have e1 : cA = cy 1 := mk_RA (hK1.2 3 (cA, .long) rfl).2 (hK.2 1 (cy 1, .long) rfl).2
    subst e1
    exact kk q H1 hP1 hD1 hS1
theorem mk_newq (hexec : p.tables.exec = Jvm.exec) (hb : c.code = cc) {own : String} {index : Nat} (hown : s.vm.findClass own = some m.cls) (hclink : (Cond.classLink own index "ChosenBackAtNine$Shelf").before args s = true) (hover : va_AO "ChosenBackAtNine$Shelf" s) (hK : va_K D vwCl (mj_tys cy) s) (hP : va_P D vwCl ws H) (hD : va_D A ws) (hS : va_S A H0 H locs) (hA : ∀ q, H0.size ≤ q → A q)
    {n : Int32} {N' : Nat} (hn : ¬ n < 0) (hN : n.toNatClampNeg = N') (hbytes : N' * 4 ≤ 536870912) (hcells : cells + 1 ≤ R.cells) (hslots : slots + N' ≤ R.slots) (hdg : decode cc pc = .ok (.anewarray index, 3))
    (kk : ∀ (q : Nat) (H1 : Heap), va_P D vwCl (ws ++ [(q, .inl (cy 2, N', .inr (.inr (.inr (.inr (fun _ => none))))))]) H1 → va_D A (ws ++ [(q, .inl (cy 2, N', .inr (.inr (.inr (.inr (fun _ => none))))))]) → va_S A H0 H1 locs →
      W p l e R s m args below meth c H1 locs (cells + 1) (slots + N') Q (F0 m (pc + 3) ls (.ref q :: rest))) : W p l e R s m args below meth c H locs cells slots Q (F0 m pc ls (.int n :: rest)) := by
  refine va_newq hexec hb hown hclink hover hK hP hD hS hA hn hN hbytes hcells hslots hdg (fun q cA H1 hK1 hP1 hD1 hS1 => ?_)
  have e1 : cA = cy 2 := mk_RA (hK1.2 3 (cA, .object "ChosenBackAtNine$Shelf") rfl).2 (hK.2 2 (cy 2, .object "ChosenBackAtNine$Shelf") rfl).2
  subst e1
  exact kk q H1 hP1 hD1 hS1
theorem mk_iast (hexec : p.tables.exec = Jvm.exec) (hb : c.code = cc) (hK : va_K D vwCl (mj_tys cy) s) (hP : va_P D vwCl ws H) (hD : va_D A ws) (hS : va_S A H0 H locs) (q0 : Nat) {n k : Nat} {L : List Int32} (ha : ws[q0]? = some (a, .inl (cy 0, n, .inl (mk_wv L k)))) {i : Int32} {x : Int32} (hin : vp_in i n) (hi : i.toNatClampNeg = k) (hx : L.getD k 0 = x) (hdg : decode cc pc = .ok (.iastore, 1))
    (kk : ∀ (H1 : Heap) (locs1 : List Loc), va_P D vwCl (ws.set q0 (a, .inl (cy 0, n, .inl (mk_wv L (k + 1))))) H1 → va_D A (ws.set q0 (a, .inl (cy 0, n, .inl (mk_wv L (k + 1))))) → va_S A H0 H1 locs1 → W p l e R s m args below meth c H1 locs1 cells slots Q (F0 m (pc + 1) ls rest)) : W p l e R s m args below meth c H locs cells slots Q (F0 m pc ls (.int x :: .int i :: .ref a :: rest)) := by
  refine va_iast hexec hb hK hP hD hS q0 0 ha rfl hin hdg (fun H1 locs1 h1 h2 h3 => ?_)
  rw [hi, mk_wvs hx] at h1 h2
  exact kk H1 locs1 h1 h2 h3
end
theorem mk_w0 : Cond.methodLink RX0 3 objectInit ∈ mj_tbl := mj_inT_mem (p := 108) (by decide +kernel)
theorem mk_w1 : Cond.instanceMethod objectInit ∈ mj_tbl := mj_inT_mem (p := 95) (by decide +kernel)
theorem mk_w2 : Cond.code objectInit ⟨#[0xb1]⟩ 1 none ∈ mj_tbl := mj_inT_mem (p := 96) (by decide +kernel)
theorem mk_w3 : Cond.fieldLink RX0 9 RX0 "given" "I" ∈ mj_tbl := mj_inT_mem (p := 109) (by decide +kernel)
theorem mk_w4 : Cond.fieldLink RX0 15 RX0 "kept" "I" ∈ mj_tbl := mj_inT_mem (p := 112) (by decide +kernel)
theorem mk_w5 : Cond.fieldLink RX0 18 RX0 "taken" "I" ∈ mj_tbl := mj_inT_mem (p := 115) (by decide +kernel)
theorem mk_w6 : Cond.fieldLink RX0 21 RX0 "three" "I" ∈ mj_tbl := mj_inT_mem (p := 118) (by decide +kernel)
theorem mk_w7 : Cond.methodLink RX3 3 objectInit ∈ mj_tbl := mj_inT_mem (p := 211) (by decide +kernel)
theorem mk_w8 : Cond.arrayClass .int ∈ mj_tbl := mj_inT_mem (p := 129) (by decide +kernel)
theorem mk_w9 : Cond.fieldLink RX3 11 RX3 "places" "[I" ∈ mj_tbl := mj_inT_mem (p := 212) (by decide +kernel)
theorem mk_w10 : Cond.fieldLink RX3 17 RX3 "refusedBy" "[I" ∈ mj_tbl := mj_inT_mem (p := 214) (by decide +kernel)
theorem mk_w11 : Cond.methodLink RX4 3 objectInit ∈ mj_tbl := mj_inT_mem (p := 225) (by decide +kernel)
theorem mk_w12 : Cond.fieldLink RX4 9 RX4 "fault" "I" ∈ mj_tbl := mj_inT_mem (p := 226) (by decide +kernel)
theorem mk_w13 : Cond.fieldLink RX4 15 RX4 "told" "[I" ∈ mj_tbl := mj_inT_mem (p := 228) (by decide +kernel)
theorem mk_w14 : Cond.fieldLink RX4 19 RX4 "place" "I" ∈ mj_tbl := mj_inT_mem (p := 229) (by decide +kernel)
theorem mk_w15 : Cond.methodLink RX5 3 objectInit ∈ mj_tbl := mj_inT_mem (p := 264) (by decide +kernel)
theorem mk_w16 : Cond.fieldLink RX5 9 RX5 "sort" "I" ∈ mj_tbl := mj_inT_mem (p := 265) (by decide +kernel)
theorem mk_w17 : Cond.fieldLink RX5 15 RX5 "grown" "I" ∈ mj_tbl := mj_inT_mem (p := 267) (by decide +kernel)
theorem mk_w18 : Cond.fieldLink RX5 18 RX5 "size" "I" ∈ mj_tbl := mj_inT_mem (p := 269) (by decide +kernel)
theorem mk_w19 : Cond.arrayClass .long ∈ mj_tbl := mj_inT_mem (p := 282) (by decide +kernel)
theorem mk_w20 : Cond.fieldLink RX5 21 RX5 "elements" "[J" ∈ mj_tbl := mj_inT_mem (p := 271) (by decide +kernel)
theorem mk_w21 : Cond.methodLink RX6 3 objectInit ∈ mj_tbl := mj_inT_mem (p := 242) (by decide +kernel)
theorem mk_w22 : Cond.fieldLink RX6 9 RX6 "ran" "I" ∈ mj_tbl := mj_inT_mem (p := 243) (by decide +kernel)
theorem mk_w23 : Cond.fieldLink RX6 15 RX6 "kept" "[I" ∈ mj_tbl := mj_inT_mem (p := 245) (by decide +kernel)
theorem mk_w24 : Cond.fieldLink RX6 19 RX6 "kind" "I" ∈ mj_tbl := mj_inT_mem (p := 246) (by decide +kernel)
theorem mk_w25 : Cond.fieldLink RX6 22 RX6 "m" "I" ∈ mj_tbl := mj_inT_mem (p := 247) (by decide +kernel)
theorem mk_w26 : Cond.fieldLink RX6 25 RX6 "k" "I" ∈ mj_tbl := mj_inT_mem (p := 248) (by decide +kernel)
theorem mk_w27 : Cond.methodLink RX2 3 objectInit ∈ mj_tbl := mj_inT_mem (p := 102) (by decide +kernel)
theorem mk_w28 : Cond.fieldLink RX2 9 RX2 "grownCount" "I" ∈ mj_tbl := mj_inT_mem (p := 130) (by decide +kernel)
theorem mk_w29 : Cond.fieldLink RX2 15 RX2 "childCount" "I" ∈ mj_tbl := mj_inT_mem (p := 135) (by decide +kernel)
theorem mk_w30 : Cond.fieldLink RX2 18 RX2 "flood" "I" ∈ mj_tbl := mj_inT_mem (p := 139) (by decide +kernel)
theorem mk_w31 : Cond.fieldLink RX2 21 RX2 "year" "I" ∈ mj_tbl := mj_inT_mem (p := 142) (by decide +kernel)
theorem mk_w32 : Cond.fieldLink RX2 24 RX2 "seed" "I" ∈ mj_tbl := mj_inT_mem (p := 144) (by decide +kernel)
theorem mk_w33 : Cond.fieldLink RX2 27 RX2 "kinds" "[I" ∈ mj_tbl := mj_inT_mem (p := 146) (by decide +kernel)
theorem mk_w34 : Cond.fieldLink RX2 31 RX2 "as" "[I" ∈ mj_tbl := mj_inT_mem (p := 149) (by decide +kernel)
theorem mk_w35 : Cond.fieldLink RX2 34 RX2 "means" "[I" ∈ mj_tbl := mj_inT_mem (p := 152) (by decide +kernel)
theorem mk_w36 : Cond.fieldLink RX2 37 RX2 "tricks" "[I" ∈ mj_tbl := mj_inT_mem (p := 154) (by decide +kernel)
theorem mk_w37 : Cond.fieldLink RX2 40 RX2 "dropped" "[I" ∈ mj_tbl := mj_inT_mem (p := 156) (by decide +kernel)
theorem mk_w38 : Cond.fieldLink RX2 43 RX2 "tastes" "[I" ∈ mj_tbl := mj_inT_mem (p := 158) (by decide +kernel)
theorem mk_w39 : Cond.fieldLink RX2 46 RX2 "greeds" "[I" ∈ mj_tbl := mj_inT_mem (p := 160) (by decide +kernel)
theorem mk_w40 : Cond.fieldLink RX2 49 RX2 "ages" "[I" ∈ mj_tbl := mj_inT_mem (p := 162) (by decide +kernel)
theorem mk_w41 : Cond.fieldLink RX2 52 RX2 "godparents" "[I" ∈ mj_tbl := mj_inT_mem (p := 165) (by decide +kernel)
theorem mk_w42 : Cond.fieldLink RX2 55 RX2 "likings" "[I" ∈ mj_tbl := mj_inT_mem (p := 169) (by decide +kernel)
theorem mk_w43 : Cond.classLink RX2 58 RX0 ∈ mj_tbl := mj_inT_mem (p := 103) (by decide +kernel)
theorem mk_w44 : Cond.instantiable RX0 4 ∈ mj_tbl := mj_inT_mem (p := 104) (by decide +kernel)
theorem mk_w45 : Cond.initialized RX0 ∈ mj_tbl := mj_inT_mem (p := 75) (by decide +kernel)
theorem mk_w46 : Cond.code yX0_init cX0_init 1 none ∈ mj_tbl := mj_inT_mem (p := 107) (by decide +kernel)
theorem mk_w47 : Cond.instanceMethod yX0_init ∈ mj_tbl := mj_inT_mem (p := 106) (by decide +kernel)
theorem mk_w48 : Cond.fieldLink RX2 61 RX2 "choice" "LChosenBackAtNine$Choice;" ∈ mj_tbl := mj_inT_mem (p := 170) (by decide +kernel)
theorem dX0_init_0 : decode cX0_init 0 = .ok (.aload_n 0, 1) := by decide +kernel
theorem dX0_init_1 : decode cX0_init 1 = .ok (.invokespecial 3, 3) := by decide +kernel
theorem dX0_init_4 : decode cX0_init 4 = .ok (.aload_n 0, 1) := by decide +kernel
theorem dX0_init_5 : decode cX0_init 5 = .ok (.iconst (-1), 1) := by decide +kernel
theorem dX0_init_6 : decode cX0_init 6 = .ok (.putfield 9, 3) := by decide +kernel
theorem dX0_init_9 : decode cX0_init 9 = .ok (.aload_n 0, 1) := by decide +kernel
theorem dX0_init_10 : decode cX0_init 10 = .ok (.iconst (-1), 1) := by decide +kernel
theorem dX0_init_11 : decode cX0_init 11 = .ok (.putfield 15, 3) := by decide +kernel
theorem dX0_init_14 : decode cX0_init 14 = .ok (.aload_n 0, 1) := by decide +kernel
theorem dX0_init_15 : decode cX0_init 15 = .ok (.iconst (-1), 1) := by decide +kernel
theorem dX0_init_16 : decode cX0_init 16 = .ok (.putfield 18, 3) := by decide +kernel
theorem dX0_init_19 : decode cX0_init 19 = .ok (.aload_n 0, 1) := by decide +kernel
theorem dX0_init_20 : decode cX0_init 20 = .ok (.iconst 0, 1) := by decide +kernel
theorem dX0_init_21 : decode cX0_init 21 = .ok (.putfield 21, 3) := by decide +kernel
theorem dX0_init_24 : decode cX0_init 24 = .ok (.return_, 1) := by decide +kernel
theorem dX3_init_0 : decode cX3_init 0 = .ok (.aload_n 0, 1) := by decide +kernel
theorem dX3_init_1 : decode cX3_init 1 = .ok (.invokespecial 3, 3) := by decide +kernel
theorem dX3_init_4 : decode cX3_init 4 = .ok (.aload_n 0, 1) := by decide +kernel
theorem dX3_init_5 : decode cX3_init 5 = .ok (.bipush 6, 2) := by decide +kernel
theorem dX3_init_7 : decode cX3_init 7 = .ok (.newarray .int, 2) := by decide +kernel
theorem dX3_init_9 : decode cX3_init 9 = .ok (.putfield 11, 3) := by decide +kernel
theorem dX3_init_12 : decode cX3_init 12 = .ok (.aload_n 0, 1) := by decide +kernel
theorem dX3_init_13 : decode cX3_init 13 = .ok (.bipush 6, 2) := by decide +kernel
theorem dX3_init_15 : decode cX3_init 15 = .ok (.newarray .int, 2) := by decide +kernel
theorem dX3_init_17 : decode cX3_init 17 = .ok (.putfield 17, 3) := by decide +kernel
theorem dX3_init_20 : decode cX3_init 20 = .ok (.return_, 1) := by decide +kernel
theorem dX4_init_0 : decode cX4_init 0 = .ok (.aload_n 0, 1) := by decide +kernel
theorem dX4_init_1 : decode cX4_init 1 = .ok (.invokespecial 3, 3) := by decide +kernel
theorem dX4_init_4 : decode cX4_init 4 = .ok (.aload_n 0, 1) := by decide +kernel
theorem dX4_init_5 : decode cX4_init 5 = .ok (.iconst (-1), 1) := by decide +kernel
theorem dX4_init_6 : decode cX4_init 6 = .ok (.putfield 9, 3) := by decide +kernel
theorem dX4_init_9 : decode cX4_init 9 = .ok (.aload_n 0, 1) := by decide +kernel
theorem dX4_init_10 : decode cX4_init 10 = .ok (.iconst 5, 1) := by decide +kernel
theorem dX4_init_11 : decode cX4_init 11 = .ok (.newarray .int, 2) := by decide +kernel
theorem dX4_init_13 : decode cX4_init 13 = .ok (.putfield 15, 3) := by decide +kernel
theorem dX4_init_16 : decode cX4_init 16 = .ok (.aload_n 0, 1) := by decide +kernel
theorem dX4_init_17 : decode cX4_init 17 = .ok (.iconst 0, 1) := by decide +kernel
theorem dX4_init_18 : decode cX4_init 18 = .ok (.putfield 19, 3) := by decide +kernel
theorem dX4_init_21 : decode cX4_init 21 = .ok (.return_, 1) := by decide +kernel
theorem dX5_init_0 : decode cX5_init 0 = .ok (.aload_n 0, 1) := by decide +kernel
theorem dX5_init_1 : decode cX5_init 1 = .ok (.invokespecial 3, 3) := by decide +kernel
theorem dX5_init_4 : decode cX5_init 4 = .ok (.aload_n 0, 1) := by decide +kernel
theorem dX5_init_5 : decode cX5_init 5 = .ok (.iconst (-1), 1) := by decide +kernel
theorem dX5_init_6 : decode cX5_init 6 = .ok (.putfield 9, 3) := by decide +kernel
theorem dX5_init_9 : decode cX5_init 9 = .ok (.aload_n 0, 1) := by decide +kernel
theorem dX5_init_10 : decode cX5_init 10 = .ok (.iconst (-1), 1) := by decide +kernel
theorem dX5_init_11 : decode cX5_init 11 = .ok (.putfield 15, 3) := by decide +kernel
theorem dX5_init_14 : decode cX5_init 14 = .ok (.aload_n 0, 1) := by decide +kernel
theorem dX5_init_15 : decode cX5_init 15 = .ok (.iconst 0, 1) := by decide +kernel
theorem dX5_init_16 : decode cX5_init 16 = .ok (.putfield 18, 3) := by decide +kernel
theorem dX5_init_19 : decode cX5_init 19 = .ok (.aload_n 0, 1) := by decide +kernel
theorem dX5_init_20 : decode cX5_init 20 = .ok (.sipush 160, 3) := by decide +kernel
theorem dX5_init_23 : decode cX5_init 23 = .ok (.newarray .long, 2) := by decide +kernel
theorem dX5_init_25 : decode cX5_init 25 = .ok (.putfield 21, 3) := by decide +kernel
theorem dX5_init_28 : decode cX5_init 28 = .ok (.return_, 1) := by decide +kernel
theorem dX6_init_0 : decode cX6_init 0 = .ok (.aload_n 0, 1) := by decide +kernel
theorem dX6_init_1 : decode cX6_init 1 = .ok (.invokespecial 3, 3) := by decide +kernel
theorem dX6_init_4 : decode cX6_init 4 = .ok (.aload_n 0, 1) := by decide +kernel
theorem dX6_init_5 : decode cX6_init 5 = .ok (.iconst 0, 1) := by decide +kernel
theorem dX6_init_6 : decode cX6_init 6 = .ok (.putfield 9, 3) := by decide +kernel
theorem dX6_init_9 : decode cX6_init 9 = .ok (.aload_n 0, 1) := by decide +kernel
theorem dX6_init_10 : decode cX6_init 10 = .ok (.bipush 20, 2) := by decide +kernel
theorem dX6_init_12 : decode cX6_init 12 = .ok (.newarray .int, 2) := by decide +kernel
theorem dX6_init_14 : decode cX6_init 14 = .ok (.putfield 15, 3) := by decide +kernel
theorem dX6_init_17 : decode cX6_init 17 = .ok (.aload_n 0, 1) := by decide +kernel
theorem dX6_init_18 : decode cX6_init 18 = .ok (.iconst (-1), 1) := by decide +kernel
theorem dX6_init_19 : decode cX6_init 19 = .ok (.putfield 19, 3) := by decide +kernel
theorem dX6_init_22 : decode cX6_init 22 = .ok (.aload_n 0, 1) := by decide +kernel
theorem dX6_init_23 : decode cX6_init 23 = .ok (.iconst 0, 1) := by decide +kernel
theorem dX6_init_24 : decode cX6_init 24 = .ok (.putfield 22, 3) := by decide +kernel
theorem dX6_init_27 : decode cX6_init 27 = .ok (.aload_n 0, 1) := by decide +kernel
theorem dX6_init_28 : decode cX6_init 28 = .ok (.iconst 0, 1) := by decide +kernel
theorem dX6_init_29 : decode cX6_init 29 = .ok (.putfield 25, 3) := by decide +kernel
theorem dX6_init_32 : decode cX6_init 32 = .ok (.return_, 1) := by decide +kernel
theorem dX2_init_0 : decode cX2_init 0 = .ok (.aload_n 0, 1) := by decide +kernel
theorem dX2_init_1 : decode cX2_init 1 = .ok (.invokespecial 3, 3) := by decide +kernel
theorem dX2_init_4 : decode cX2_init 4 = .ok (.aload_n 0, 1) := by decide +kernel
theorem dX2_init_5 : decode cX2_init 5 = .ok (.iconst 0, 1) := by decide +kernel
theorem dX2_init_6 : decode cX2_init 6 = .ok (.putfield 9, 3) := by decide +kernel
theorem dX2_init_9 : decode cX2_init 9 = .ok (.aload_n 0, 1) := by decide +kernel
theorem dX2_init_10 : decode cX2_init 10 = .ok (.iconst 0, 1) := by decide +kernel
theorem dX2_init_11 : decode cX2_init 11 = .ok (.putfield 15, 3) := by decide +kernel
theorem dX2_init_14 : decode cX2_init 14 = .ok (.aload_n 0, 1) := by decide +kernel
theorem dX2_init_15 : decode cX2_init 15 = .ok (.iconst 0, 1) := by decide +kernel
theorem dX2_init_16 : decode cX2_init 16 = .ok (.putfield 18, 3) := by decide +kernel
theorem dX2_init_19 : decode cX2_init 19 = .ok (.aload_n 0, 1) := by decide +kernel
theorem dX2_init_20 : decode cX2_init 20 = .ok (.iconst 0, 1) := by decide +kernel
theorem dX2_init_21 : decode cX2_init 21 = .ok (.putfield 21, 3) := by decide +kernel
theorem dX2_init_24 : decode cX2_init 24 = .ok (.aload_n 0, 1) := by decide +kernel
theorem dX2_init_25 : decode cX2_init 25 = .ok (.iconst 1, 1) := by decide +kernel
theorem dX2_init_26 : decode cX2_init 26 = .ok (.putfield 24, 3) := by decide +kernel
theorem dX2_init_29 : decode cX2_init 29 = .ok (.aload_n 0, 1) := by decide +kernel
theorem dX2_init_30 : decode cX2_init 30 = .ok (.bipush 8, 2) := by decide +kernel
theorem dX2_init_32 : decode cX2_init 32 = .ok (.newarray .int, 2) := by decide +kernel
theorem dX2_init_34 : decode cX2_init 34 = .ok (.putfield 27, 3) := by decide +kernel
theorem dX2_init_37 : decode cX2_init 37 = .ok (.aload_n 0, 1) := by decide +kernel
theorem dX2_init_38 : decode cX2_init 38 = .ok (.bipush 8, 2) := by decide +kernel
theorem dX2_init_40 : decode cX2_init 40 = .ok (.newarray .int, 2) := by decide +kernel
theorem dX2_init_42 : decode cX2_init 42 = .ok (.putfield 31, 3) := by decide +kernel
theorem dX2_init_45 : decode cX2_init 45 = .ok (.aload_n 0, 1) := by decide +kernel
theorem dX2_init_46 : decode cX2_init 46 = .ok (.bipush 8, 2) := by decide +kernel
theorem dX2_init_48 : decode cX2_init 48 = .ok (.newarray .int, 2) := by decide +kernel
theorem dX2_init_50 : decode cX2_init 50 = .ok (.putfield 34, 3) := by decide +kernel
theorem dX2_init_53 : decode cX2_init 53 = .ok (.aload_n 0, 1) := by decide +kernel
theorem dX2_init_54 : decode cX2_init 54 = .ok (.bipush 8, 2) := by decide +kernel
theorem dX2_init_56 : decode cX2_init 56 = .ok (.newarray .int, 2) := by decide +kernel
theorem dX2_init_58 : decode cX2_init 58 = .ok (.putfield 37, 3) := by decide +kernel
theorem dX2_init_61 : decode cX2_init 61 = .ok (.aload_n 0, 1) := by decide +kernel
theorem dX2_init_62 : decode cX2_init 62 = .ok (.bipush 8, 2) := by decide +kernel
theorem dX2_init_64 : decode cX2_init 64 = .ok (.newarray .int, 2) := by decide +kernel
theorem dX2_init_66 : decode cX2_init 66 = .ok (.putfield 40, 3) := by decide +kernel
theorem dX2_init_69 : decode cX2_init 69 = .ok (.aload_n 0, 1) := by decide +kernel
theorem dX2_init_70 : decode cX2_init 70 = .ok (.bipush 6, 2) := by decide +kernel
theorem dX2_init_72 : decode cX2_init 72 = .ok (.newarray .int, 2) := by decide +kernel
theorem dX2_init_74 : decode cX2_init 74 = .ok (.putfield 43, 3) := by decide +kernel
theorem dX2_init_77 : decode cX2_init 77 = .ok (.aload_n 0, 1) := by decide +kernel
theorem dX2_init_78 : decode cX2_init 78 = .ok (.bipush 6, 2) := by decide +kernel
theorem dX2_init_80 : decode cX2_init 80 = .ok (.newarray .int, 2) := by decide +kernel
theorem dX2_init_82 : decode cX2_init 82 = .ok (.putfield 46, 3) := by decide +kernel
theorem dX2_init_85 : decode cX2_init 85 = .ok (.aload_n 0, 1) := by decide +kernel
theorem dX2_init_86 : decode cX2_init 86 = .ok (.bipush 6, 2) := by decide +kernel
theorem dX2_init_88 : decode cX2_init 88 = .ok (.newarray .int, 2) := by decide +kernel
theorem dX2_init_90 : decode cX2_init 90 = .ok (.putfield 49, 3) := by decide +kernel
theorem dX2_init_93 : decode cX2_init 93 = .ok (.aload_n 0, 1) := by decide +kernel
theorem dX2_init_94 : decode cX2_init 94 = .ok (.bipush 6, 2) := by decide +kernel
theorem dX2_init_96 : decode cX2_init 96 = .ok (.newarray .int, 2) := by decide +kernel
theorem dX2_init_98 : decode cX2_init 98 = .ok (.putfield 52, 3) := by decide +kernel
theorem dX2_init_101 : decode cX2_init 101 = .ok (.aload_n 0, 1) := by decide +kernel
theorem dX2_init_102 : decode cX2_init 102 = .ok (.bipush 48, 2) := by decide +kernel
theorem dX2_init_104 : decode cX2_init 104 = .ok (.newarray .int, 2) := by decide +kernel
theorem dX2_init_106 : decode cX2_init 106 = .ok (.putfield 55, 3) := by decide +kernel
theorem dX2_init_109 : decode cX2_init 109 = .ok (.aload_n 0, 1) := by decide +kernel
theorem dX2_init_110 : decode cX2_init 110 = .ok (.new 58, 3) := by decide +kernel
theorem dX2_init_113 : decode cX2_init 113 = .ok (.dup, 1) := by decide +kernel
theorem dX2_init_114 : decode cX2_init 114 = .ok (.invokespecial 60, 3) := by decide +kernel
theorem dX2_init_117 : decode cX2_init 117 = .ok (.putfield 61, 3) := by decide +kernel
theorem dX2_init_120 : decode cX2_init 120 = .ok (.return_, 1) := by decide +kernel
def mk_wlX0 : List Cond := .code yX0_init cX0_init 1 none :: mj_tbl
theorem mk_fX0 : ∀ j, j < 4 → defaultValue (tyX0 j) = vp_V [.int 0, .int 0, .int 0, .int 0] j := by
  intro j hj
  rcases (show j = 0 ∨ j = 1 ∨ j = 2 ∨ j = 3 by omega) with rfl | rfl | rfl | rfl <;> rfl
set_option maxHeartbeats 8000000 in
set_option maxRecDepth 100000 in
theorem mk_cX0 (l : Launch) (D : va_G) (cy : Nat → ClassId) (h0 sz : Nat) : Met l yX0_init mk_wlX0 ({ frames := 1, cells := 0, slots := 0, locals := 20 } : Room) (va_Pc [.ref h0] (fun U => U.heap.size = sz ∧ va_P D vwCl [(h0, .inr (0, [.int 0, .int 0, .int 0, .int 0]))] U.heap ∧ va_K D vwCl (mj_tys cy) U ∧ va_D (fun _ => True) [(h0, .inr (0, [.int 0, .int 0, .int 0, .int 0]))] ∧ mk_N U)) (va_Qv (fun _ : Unit => True) (fun _ t => va_P D vwCl [(h0, .inr (0, [.int (-1), .int (-1), .int (-1), .int 0]))] t.heap ∧ va_D (va_A [(h0, .inr (0, [.int 0, .int 0, .int 0, .int 0]))] sz) [(h0, .inr (0, [.int (-1), .int (-1), .int (-1), .int 0]))]) (va_A [(h0, .inr (0, [.int 0, .int 0, .int 0, .int 0]))] sz)) 0 0 (va_A [(h0, .inr (0, [.int 0, .int 0, .int 0, .int 0]))] sz) := by
  refine Met.ofW (cc := cX0_init) (maxL := 1) (ret := none) (by decide +kernel) rfl ?_
  intro p e s m args below meth c s₁ B hml hv
  obtain ⟨rfl, hsz, hP, hK, hD0, hN⟩ := hv
  have hx := B.exec
  have hb := B.bytes
  have hr := B.returns
  have htw := atoms_spec (ws := mk_wlX0) B.pre
  have hts := fun (w : Cond) (hw : w ∈ mj_tbl) => htw w (List.mem_cons_of_mem _ hw)
  have hown : s.vm.findClass RX0 = some m.cls := findClass_of_methodNamed B.named
  have hlocks := B.notSynchronized
  have hin : meth.name = "<init>" := (name_of_methodNamed B.named B.method).1
  subst hsz
  have hD := hD0.self (sz := s.heap.size)
  generalize hAe : va_A [(h0, .inr (0, [.int 0, .int 0, .int 0, .int 0]))] s.heap.size = A at hD ⊢
  have hA : ∀ q : Nat, s.heap.size ≤ q → A q := fun q h => by rw [← hAe]; exact Or.inr h
  have hS : va_S A s.heap s.heap [] := va_S.rf
  have hl := lv_entry ([.ref h0]) (n := 1) (Nat.le_of_ble_eq_true rfl)
  rw [lg_entry_eq]
  generalize (lg_sl ([.ref h0]) ++ List.replicate (1 - (lg_sl ([.ref h0])).length) Slot.unset).toArray = ls at hl ⊢
  have hl : lv_has ls 1 [(0, .ref h0)] := hl
  refine lv_aload_n hx hb dX0_init_0 rfl (lv_at hl 0 rfl) ?_
  refine W.objInit hx hb hown (hts _ mk_w0) (hts _ mk_w1) (hts _ mk_w2) rfl (by rw [hml]; exact hl.1) rfl dX0_init_1 (Nat.le_of_ble_eq_true rfl) (Nat.le_of_ble_eq_true rfl) ?_
  refine W.eq (g2 := F0 m 4 ls []) rfl ?_
  refine lv_aload_n hx hb dX0_init_4 rfl (lv_at hl 0 rfl) ?_
  refine lv_iconst (v := -1) hx hb dX0_init_5 (by decide) ?_
  refine va_put (D := D) (ci := 0) (v := .int (-1)) (ty := tyX0 0) (C := RX0) (T := TX0) (N := 4) hx hb hts mj_uv_0 tyX0 tyX0_ok nmX0 hown hK hP hD hS 0 rfl rfl 0 (by decide) (hts _ mk_w3) (fun _ h9 => h9) rfl (tyX0_ok 0 (by decide)) rfl rfl (Nat.le_of_ble_eq_true rfl) dX0_init_6 (fun H locs hP hD hS => ?_)
  obtain ⟨hP, hD⟩ : mk_PD D A [(h0, .inr (0, [.int (-1), .int 0, .int 0, .int 0]))] H := ⟨hP, hD⟩
  refine lv_aload_n hx hb dX0_init_9 rfl (lv_at hl 0 rfl) ?_
  refine lv_iconst (v := -1) hx hb dX0_init_10 (by decide) ?_
  refine va_put (D := D) (ci := 0) (v := .int (-1)) (ty := tyX0 1) (C := RX0) (T := TX0) (N := 4) hx hb hts mj_uv_0 tyX0 tyX0_ok nmX0 hown hK hP hD hS 0 rfl rfl 1 (by decide) (hts _ mk_w4) (fun _ h9 => h9) rfl (tyX0_ok 1 (by decide)) rfl rfl (Nat.le_of_ble_eq_true rfl) dX0_init_11 (fun H locs hP hD hS => ?_)
  obtain ⟨hP, hD⟩ : mk_PD D A [(h0, .inr (0, [.int (-1), .int (-1), .int 0, .int 0]))] H := ⟨hP, hD⟩
  refine lv_aload_n hx hb dX0_init_14 rfl (lv_at hl 0 rfl) ?_
  refine lv_iconst (v := -1) hx hb dX0_init_15 (by decide) ?_
  refine va_put (D := D) (ci := 0) (v := .int (-1)) (ty := tyX0 2) (C := RX0) (T := TX0) (N := 4) hx hb hts mj_uv_0 tyX0 tyX0_ok nmX0 hown hK hP hD hS 0 rfl rfl 2 (by decide) (hts _ mk_w5) (fun _ h9 => h9) rfl (tyX0_ok 2 (by decide)) rfl rfl (Nat.le_of_ble_eq_true rfl) dX0_init_16 (fun H locs hP hD hS => ?_)
  obtain ⟨hP, hD⟩ : mk_PD D A [(h0, .inr (0, [.int (-1), .int (-1), .int (-1), .int 0]))] H := ⟨hP, hD⟩
  refine lv_aload_n hx hb dX0_init_19 rfl (lv_at hl 0 rfl) ?_
  refine lv_iconst (v := 0) hx hb dX0_init_20 (by decide) ?_
  refine va_put (D := D) (ci := 0) (v := .int 0) (ty := tyX0 3) (C := RX0) (T := TX0) (N := 4) hx hb hts mj_uv_0 tyX0 tyX0_ok nmX0 hown hK hP hD hS 0 rfl rfl 3 (by decide) (hts _ mk_w6) (fun _ h9 => h9) rfl (tyX0_ok 3 (by decide)) rfl rfl (Nat.le_of_ble_eq_true rfl) dX0_init_21 (fun H locs hP hD hS => ?_)
  obtain ⟨hP, hD⟩ : mk_PD D A [(h0, .inr (0, [.int (-1), .int (-1), .int (-1), .int 0]))] H := ⟨hP, hD⟩
  exact W.vret hx hb hr (fun t ht hW => ⟨⟨(), rfl, trivial, by rw [ht]; exact hP, hD⟩, hS.F ht⟩) hS.2.2 dX0_init_24
def mk_wlX3 : List Cond := .code yX3_init cX3_init 1 none :: mj_tbl
theorem mk_fX3 : ∀ j, j < 2 → defaultValue (tyX3 j) = vp_V [.null, .null] j := by
  intro j hj
  rcases (show j = 0 ∨ j = 1 by omega) with rfl | rfl <;> rfl
set_option maxHeartbeats 8000000 in
set_option maxRecDepth 100000 in
theorem mk_cX3 (l : Launch) (D : va_G) (cy : Nat → ClassId) (h0 sz : Nat) : Met l yX3_init mk_wlX3 ({ frames := 1, cells := 2, slots := 12, locals := 20 } : Room) (va_Pc [.ref h0] (fun U => U.heap.size = sz ∧ va_P D vwCl [(h0, .inr (2, [.null, .null]))] U.heap ∧ va_K D vwCl (mj_tys cy) U ∧ va_D (fun _ => True) [(h0, .inr (2, [.null, .null]))] ∧ mk_N U)) (va_Qv (fun _ : Unit => True) (fun _ t => ∃ r7 r15 : Nat, va_P D vwCl [(h0, .inr (2, [.ref r7, .ref r15])), (r7, .inl (cy 0, 6, .inl (fun _ => 0))), (r15, .inl (cy 0, 6, .inl (fun _ => 0)))] t.heap ∧ va_D (va_A [(h0, .inr (2, [.null, .null]))] sz) [(h0, .inr (2, [.ref r7, .ref r15])), (r7, .inl (cy 0, 6, .inl (fun _ => 0))), (r15, .inl (cy 0, 6, .inl (fun _ => 0)))]) (va_A [(h0, .inr (2, [.null, .null]))] sz)) 2 12 (va_A [(h0, .inr (2, [.null, .null]))] sz) := by
  refine Met.ofW (cc := cX3_init) (maxL := 1) (ret := none) (by decide +kernel) rfl ?_
  intro p e s m args below meth c s₁ B hml hv
  obtain ⟨rfl, hsz, hP, hK, hD0, hN⟩ := hv
  have hx := B.exec
  have hb := B.bytes
  have hr := B.returns
  have htw := atoms_spec (ws := mk_wlX3) B.pre
  have hts := fun (w : Cond) (hw : w ∈ mj_tbl) => htw w (List.mem_cons_of_mem _ hw)
  have hown : s.vm.findClass RX3 = some m.cls := findClass_of_methodNamed B.named
  have hlocks := B.notSynchronized
  have hin : meth.name = "<init>" := (name_of_methodNamed B.named B.method).1
  subst hsz
  have hD := hD0.self (sz := s.heap.size)
  generalize hAe : va_A [(h0, .inr (2, [.null, .null]))] s.heap.size = A at hD ⊢
  have hA : ∀ q : Nat, s.heap.size ≤ q → A q := fun q h => by rw [← hAe]; exact Or.inr h
  have hS : va_S A s.heap s.heap [] := va_S.rf
  have hl := lv_entry ([.ref h0]) (n := 1) (Nat.le_of_ble_eq_true rfl)
  rw [lg_entry_eq]
  generalize (lg_sl ([.ref h0]) ++ List.replicate (1 - (lg_sl ([.ref h0])).length) Slot.unset).toArray = ls at hl ⊢
  have hl : lv_has ls 1 [(0, .ref h0)] := hl
  refine lv_aload_n hx hb dX3_init_0 rfl (lv_at hl 0 rfl) ?_
  refine W.objInit hx hb hown (hts _ mk_w7) (hts _ mk_w1) (hts _ mk_w2) rfl (by rw [hml]; exact hl.1) rfl dX3_init_1 (Nat.le_of_ble_eq_true rfl) (Nat.le_of_ble_eq_true rfl) ?_
  refine W.eq (g2 := F0 m 4 ls []) rfl ?_
  refine lv_aload_n hx hb dX3_init_4 rfl (lv_at hl 0 rfl) ?_
  refine lv_bipush (v := 6) hx hb dX3_init_5 (by decide) ?_
  refine mk_newI (cy := cy) (f0 := fun _ => 0) hx hb (hts _ mk_w8) hK hP hD hS hA (by first | exact fun _ => rfl | exact mk_wv0) (n := 6) (N' := 6) (by decide) (by decide) (Nat.le_of_ble_eq_true rfl) (Nat.le_of_ble_eq_true rfl) (Nat.le_of_ble_eq_true rfl) dX3_init_7 (fun r7 H hP hD hS => ?_)
  obtain ⟨hP, hD⟩ : mk_PD D A [(h0, .inr (2, [.null, .null])), (r7, .inl (cy 0, 6, .inl (fun _ => 0)))] H := ⟨hP, hD⟩
  refine W.widen (k := 1) (n := 6) (Nat.le_of_ble_eq_true rfl) (Nat.le_of_ble_eq_true rfl) ?_
  refine va_putF (D := D) (ci := 2) (v := .ref r7) (ty := tyX3 0) (C := RX3) (T := TX3) (N := 2) hx hb hts mj_uv_2 tyX3 tyX3_ok nmX3 hown hK hP hD hS 0 rfl rfl 0 (by decide) (hts _ mk_w9) (fun _ h9 => h9) rfl hin rfl (tyX3_ok 0 (by decide)) rfl rfl (Nat.le_of_ble_eq_true rfl) dX3_init_9 (fun H locs hP hD hS => ?_)
  obtain ⟨hP, hD⟩ : mk_PD D A [(h0, .inr (2, [.ref r7, .null])), (r7, .inl (cy 0, 6, .inl (fun _ => 0)))] H := ⟨hP, hD⟩
  refine lv_aload_n hx hb dX3_init_12 rfl (lv_at hl 0 rfl) ?_
  refine lv_bipush (v := 6) hx hb dX3_init_13 (by decide) ?_
  refine mk_newI (cy := cy) (f0 := fun _ => 0) hx hb (hts _ mk_w8) hK hP hD hS hA (by first | exact fun _ => rfl | exact mk_wv0) (n := 6) (N' := 6) (by decide) (by decide) (Nat.le_of_ble_eq_true rfl) (Nat.le_of_ble_eq_true rfl) (Nat.le_of_ble_eq_true rfl) dX3_init_15 (fun r15 H hP hD hS => ?_)
  obtain ⟨hP, hD⟩ : mk_PD D A [(h0, .inr (2, [.ref r7, .null])), (r7, .inl (cy 0, 6, .inl (fun _ => 0))), (r15, .inl (cy 0, 6, .inl (fun _ => 0)))] H := ⟨hP, hD⟩
  refine W.widen (k := 2) (n := 12) (Nat.le_of_ble_eq_true rfl) (Nat.le_of_ble_eq_true rfl) ?_
  refine va_putF (D := D) (ci := 2) (v := .ref r15) (ty := tyX3 1) (C := RX3) (T := TX3) (N := 2) hx hb hts mj_uv_2 tyX3 tyX3_ok nmX3 hown hK hP hD hS 0 rfl rfl 1 (by decide) (hts _ mk_w10) (fun _ h9 => h9) rfl hin rfl (tyX3_ok 1 (by decide)) rfl rfl (Nat.le_of_ble_eq_true rfl) dX3_init_17 (fun H locs hP hD hS => ?_)
  obtain ⟨hP, hD⟩ : mk_PD D A [(h0, .inr (2, [.ref r7, .ref r15])), (r7, .inl (cy 0, 6, .inl (fun _ => 0))), (r15, .inl (cy 0, 6, .inl (fun _ => 0)))] H := ⟨hP, hD⟩
  exact W.vret hx hb hr (fun t ht hW => ⟨⟨(), rfl, trivial, r7, r15, by rw [ht]; exact hP, hD⟩, hS.F ht⟩) hS.2.2 dX3_init_20
def mk_wlX4 : List Cond := .code yX4_init cX4_init 1 none :: mj_tbl
theorem mk_fX4 : ∀ j, j < 3 → defaultValue (tyX4 j) = vp_V [.int 0, .null, .int 0] j := by
  intro j hj
  rcases (show j = 0 ∨ j = 1 ∨ j = 2 by omega) with rfl | rfl | rfl <;> rfl
set_option maxHeartbeats 8000000 in
set_option maxRecDepth 100000 in
theorem mk_cX4 (l : Launch) (D : va_G) (cy : Nat → ClassId) (h0 sz : Nat) : Met l yX4_init mk_wlX4 ({ frames := 1, cells := 1, slots := 5, locals := 20 } : Room) (va_Pc [.ref h0] (fun U => U.heap.size = sz ∧ va_P D vwCl [(h0, .inr (3, [.int 0, .null, .int 0]))] U.heap ∧ va_K D vwCl (mj_tys cy) U ∧ va_D (fun _ => True) [(h0, .inr (3, [.int 0, .null, .int 0]))] ∧ mk_N U)) (va_Qv (fun _ : Unit => True) (fun _ t => ∃ r11 : Nat, va_P D vwCl [(h0, .inr (3, [.int (-1), .ref r11, .int 0])), (r11, .inl (cy 0, 5, .inl (fun _ => 0)))] t.heap ∧ va_D (va_A [(h0, .inr (3, [.int 0, .null, .int 0]))] sz) [(h0, .inr (3, [.int (-1), .ref r11, .int 0])), (r11, .inl (cy 0, 5, .inl (fun _ => 0)))]) (va_A [(h0, .inr (3, [.int 0, .null, .int 0]))] sz)) 1 5 (va_A [(h0, .inr (3, [.int 0, .null, .int 0]))] sz) := by
  refine Met.ofW (cc := cX4_init) (maxL := 1) (ret := none) (by decide +kernel) rfl ?_
  intro p e s m args below meth c s₁ B hml hv
  obtain ⟨rfl, hsz, hP, hK, hD0, hN⟩ := hv
  have hx := B.exec
  have hb := B.bytes
  have hr := B.returns
  have htw := atoms_spec (ws := mk_wlX4) B.pre
  have hts := fun (w : Cond) (hw : w ∈ mj_tbl) => htw w (List.mem_cons_of_mem _ hw)
  have hown : s.vm.findClass RX4 = some m.cls := findClass_of_methodNamed B.named
  have hlocks := B.notSynchronized
  have hin : meth.name = "<init>" := (name_of_methodNamed B.named B.method).1
  subst hsz
  have hD := hD0.self (sz := s.heap.size)
  generalize hAe : va_A [(h0, .inr (3, [.int 0, .null, .int 0]))] s.heap.size = A at hD ⊢
  have hA : ∀ q : Nat, s.heap.size ≤ q → A q := fun q h => by rw [← hAe]; exact Or.inr h
  have hS : va_S A s.heap s.heap [] := va_S.rf
  have hl := lv_entry ([.ref h0]) (n := 1) (Nat.le_of_ble_eq_true rfl)
  rw [lg_entry_eq]
  generalize (lg_sl ([.ref h0]) ++ List.replicate (1 - (lg_sl ([.ref h0])).length) Slot.unset).toArray = ls at hl ⊢
  have hl : lv_has ls 1 [(0, .ref h0)] := hl
  refine lv_aload_n hx hb dX4_init_0 rfl (lv_at hl 0 rfl) ?_
  refine W.objInit hx hb hown (hts _ mk_w11) (hts _ mk_w1) (hts _ mk_w2) rfl (by rw [hml]; exact hl.1) rfl dX4_init_1 (Nat.le_of_ble_eq_true rfl) (Nat.le_of_ble_eq_true rfl) ?_
  refine W.eq (g2 := F0 m 4 ls []) rfl ?_
  refine lv_aload_n hx hb dX4_init_4 rfl (lv_at hl 0 rfl) ?_
  refine lv_iconst (v := -1) hx hb dX4_init_5 (by decide) ?_
  refine va_put (D := D) (ci := 3) (v := .int (-1)) (ty := tyX4 0) (C := RX4) (T := TX4) (N := 3) hx hb hts mj_uv_3 tyX4 tyX4_ok nmX4 hown hK hP hD hS 0 rfl rfl 0 (by decide) (hts _ mk_w12) (fun _ h9 => h9) rfl (tyX4_ok 0 (by decide)) rfl rfl (Nat.le_of_ble_eq_true rfl) dX4_init_6 (fun H locs hP hD hS => ?_)
  obtain ⟨hP, hD⟩ : mk_PD D A [(h0, .inr (3, [.int (-1), .null, .int 0]))] H := ⟨hP, hD⟩
  refine lv_aload_n hx hb dX4_init_9 rfl (lv_at hl 0 rfl) ?_
  refine lv_iconst (v := 5) hx hb dX4_init_10 (by decide) ?_
  refine mk_newI (cy := cy) (f0 := fun _ => 0) hx hb (hts _ mk_w8) hK hP hD hS hA (by first | exact fun _ => rfl | exact mk_wv0) (n := 5) (N' := 5) (by decide) (by decide) (Nat.le_of_ble_eq_true rfl) (Nat.le_of_ble_eq_true rfl) (Nat.le_of_ble_eq_true rfl) dX4_init_11 (fun r11 H hP hD hS => ?_)
  obtain ⟨hP, hD⟩ : mk_PD D A [(h0, .inr (3, [.int (-1), .null, .int 0])), (r11, .inl (cy 0, 5, .inl (fun _ => 0)))] H := ⟨hP, hD⟩
  refine W.widen (k := 1) (n := 5) (Nat.le_of_ble_eq_true rfl) (Nat.le_of_ble_eq_true rfl) ?_
  refine va_putF (D := D) (ci := 3) (v := .ref r11) (ty := tyX4 1) (C := RX4) (T := TX4) (N := 3) hx hb hts mj_uv_3 tyX4 tyX4_ok nmX4 hown hK hP hD hS 0 rfl rfl 1 (by decide) (hts _ mk_w13) (fun _ h9 => h9) rfl hin rfl (tyX4_ok 1 (by decide)) rfl rfl (Nat.le_of_ble_eq_true rfl) dX4_init_13 (fun H locs hP hD hS => ?_)
  obtain ⟨hP, hD⟩ : mk_PD D A [(h0, .inr (3, [.int (-1), .ref r11, .int 0])), (r11, .inl (cy 0, 5, .inl (fun _ => 0)))] H := ⟨hP, hD⟩
  refine lv_aload_n hx hb dX4_init_16 rfl (lv_at hl 0 rfl) ?_
  refine lv_iconst (v := 0) hx hb dX4_init_17 (by decide) ?_
  refine va_put (D := D) (ci := 3) (v := .int 0) (ty := tyX4 2) (C := RX4) (T := TX4) (N := 3) hx hb hts mj_uv_3 tyX4 tyX4_ok nmX4 hown hK hP hD hS 0 rfl rfl 2 (by decide) (hts _ mk_w14) (fun _ h9 => h9) rfl (tyX4_ok 2 (by decide)) rfl rfl (Nat.le_of_ble_eq_true rfl) dX4_init_18 (fun H locs hP hD hS => ?_)
  obtain ⟨hP, hD⟩ : mk_PD D A [(h0, .inr (3, [.int (-1), .ref r11, .int 0])), (r11, .inl (cy 0, 5, .inl (fun _ => 0)))] H := ⟨hP, hD⟩
  exact W.vret hx hb hr (fun t ht hW => ⟨⟨(), rfl, trivial, r11, by rw [ht]; exact hP, hD⟩, hS.F ht⟩) hS.2.2 dX4_init_21
def mk_wlX5 : List Cond := .code yX5_init cX5_init 1 none :: mj_tbl
theorem mk_fX5 : ∀ j, j < 4 → defaultValue (tyX5 j) = vp_V [.int 0, .int 0, .int 0, .null] j := by
  intro j hj
  rcases (show j = 0 ∨ j = 1 ∨ j = 2 ∨ j = 3 by omega) with rfl | rfl | rfl | rfl <;> rfl
set_option maxHeartbeats 8000000 in
set_option maxRecDepth 100000 in
theorem mk_cX5 (l : Launch) (D : va_G) (cy : Nat → ClassId) (h0 sz : Nat) : Met l yX5_init mk_wlX5 ({ frames := 1, cells := 1, slots := 160, locals := 20 } : Room) (va_Pc [.ref h0] (fun U => U.heap.size = sz ∧ va_P D vwCl [(h0, .inr (4, [.int 0, .int 0, .int 0, .null]))] U.heap ∧ va_K D vwCl (mj_tys cy) U ∧ va_D (fun _ => True) [(h0, .inr (4, [.int 0, .int 0, .int 0, .null]))] ∧ mk_N U)) (va_Qv (fun _ : Unit => True) (fun _ t => ∃ r23 : Nat, va_P D vwCl [(h0, .inr (4, [.int (-1), .int (-1), .int 0, .ref r23])), (r23, .inl (cy 1, 160, .inr (.inl (fun _ => 0))))] t.heap ∧ va_D (va_A [(h0, .inr (4, [.int 0, .int 0, .int 0, .null]))] sz) [(h0, .inr (4, [.int (-1), .int (-1), .int 0, .ref r23])), (r23, .inl (cy 1, 160, .inr (.inl (fun _ => 0))))]) (va_A [(h0, .inr (4, [.int 0, .int 0, .int 0, .null]))] sz)) 1 160 (va_A [(h0, .inr (4, [.int 0, .int 0, .int 0, .null]))] sz) := by
  refine Met.ofW (cc := cX5_init) (maxL := 1) (ret := none) (by decide +kernel) rfl ?_
  intro p e s m args below meth c s₁ B hml hv
  obtain ⟨rfl, hsz, hP, hK, hD0, hN⟩ := hv
  have hx := B.exec
  have hb := B.bytes
  have hr := B.returns
  have htw := atoms_spec (ws := mk_wlX5) B.pre
  have hts := fun (w : Cond) (hw : w ∈ mj_tbl) => htw w (List.mem_cons_of_mem _ hw)
  have hown : s.vm.findClass RX5 = some m.cls := findClass_of_methodNamed B.named
  have hlocks := B.notSynchronized
  have hin : meth.name = "<init>" := (name_of_methodNamed B.named B.method).1
  subst hsz
  have hD := hD0.self (sz := s.heap.size)
  generalize hAe : va_A [(h0, .inr (4, [.int 0, .int 0, .int 0, .null]))] s.heap.size = A at hD ⊢
  have hA : ∀ q : Nat, s.heap.size ≤ q → A q := fun q h => by rw [← hAe]; exact Or.inr h
  have hS : va_S A s.heap s.heap [] := va_S.rf
  have hl := lv_entry ([.ref h0]) (n := 1) (Nat.le_of_ble_eq_true rfl)
  rw [lg_entry_eq]
  generalize (lg_sl ([.ref h0]) ++ List.replicate (1 - (lg_sl ([.ref h0])).length) Slot.unset).toArray = ls at hl ⊢
  have hl : lv_has ls 1 [(0, .ref h0)] := hl
  refine lv_aload_n hx hb dX5_init_0 rfl (lv_at hl 0 rfl) ?_
  refine W.objInit hx hb hown (hts _ mk_w15) (hts _ mk_w1) (hts _ mk_w2) rfl (by rw [hml]; exact hl.1) rfl dX5_init_1 (Nat.le_of_ble_eq_true rfl) (Nat.le_of_ble_eq_true rfl) ?_
  refine W.eq (g2 := F0 m 4 ls []) rfl ?_
  refine lv_aload_n hx hb dX5_init_4 rfl (lv_at hl 0 rfl) ?_
  refine lv_iconst (v := -1) hx hb dX5_init_5 (by decide) ?_
  refine va_put (D := D) (ci := 4) (v := .int (-1)) (ty := tyX5 0) (C := RX5) (T := TX5) (N := 4) hx hb hts mj_uv_4 tyX5 tyX5_ok nmX5 hown hK hP hD hS 0 rfl rfl 0 (by decide) (hts _ mk_w16) (fun _ h9 => h9) rfl (tyX5_ok 0 (by decide)) rfl rfl (Nat.le_of_ble_eq_true rfl) dX5_init_6 (fun H locs hP hD hS => ?_)
  obtain ⟨hP, hD⟩ : mk_PD D A [(h0, .inr (4, [.int (-1), .int 0, .int 0, .null]))] H := ⟨hP, hD⟩
  refine lv_aload_n hx hb dX5_init_9 rfl (lv_at hl 0 rfl) ?_
  refine lv_iconst (v := -1) hx hb dX5_init_10 (by decide) ?_
  refine va_put (D := D) (ci := 4) (v := .int (-1)) (ty := tyX5 1) (C := RX5) (T := TX5) (N := 4) hx hb hts mj_uv_4 tyX5 tyX5_ok nmX5 hown hK hP hD hS 0 rfl rfl 1 (by decide) (hts _ mk_w17) (fun _ h9 => h9) rfl (tyX5_ok 1 (by decide)) rfl rfl (Nat.le_of_ble_eq_true rfl) dX5_init_11 (fun H locs hP hD hS => ?_)
  obtain ⟨hP, hD⟩ : mk_PD D A [(h0, .inr (4, [.int (-1), .int (-1), .int 0, .null]))] H := ⟨hP, hD⟩
  refine lv_aload_n hx hb dX5_init_14 rfl (lv_at hl 0 rfl) ?_
  refine lv_iconst (v := 0) hx hb dX5_init_15 (by decide) ?_
  refine va_put (D := D) (ci := 4) (v := .int 0) (ty := tyX5 2) (C := RX5) (T := TX5) (N := 4) hx hb hts mj_uv_4 tyX5 tyX5_ok nmX5 hown hK hP hD hS 0 rfl rfl 2 (by decide) (hts _ mk_w18) (fun _ h9 => h9) rfl (tyX5_ok 2 (by decide)) rfl rfl (Nat.le_of_ble_eq_true rfl) dX5_init_16 (fun H locs hP hD hS => ?_)
  obtain ⟨hP, hD⟩ : mk_PD D A [(h0, .inr (4, [.int (-1), .int (-1), .int 0, .null]))] H := ⟨hP, hD⟩
  refine lv_aload_n hx hb dX5_init_19 rfl (lv_at hl 0 rfl) ?_
  refine lv_sipush (v := 160) hx hb dX5_init_20 (by decide) ?_
  refine mk_newL (cy := cy) hx hb (hts _ mk_w19) hK hP hD hS hA (n := 160) (N' := 160) (by decide) (by decide) (Nat.le_of_ble_eq_true rfl) (Nat.le_of_ble_eq_true rfl) (Nat.le_of_ble_eq_true rfl) dX5_init_23 (fun r23 H hP hD hS => ?_)
  obtain ⟨hP, hD⟩ : mk_PD D A [(h0, .inr (4, [.int (-1), .int (-1), .int 0, .null])), (r23, .inl (cy 1, 160, .inr (.inl (fun _ => 0))))] H := ⟨hP, hD⟩
  refine W.widen (k := 1) (n := 160) (Nat.le_of_ble_eq_true rfl) (Nat.le_of_ble_eq_true rfl) ?_
  refine va_putF (D := D) (ci := 4) (v := .ref r23) (ty := tyX5 3) (C := RX5) (T := TX5) (N := 4) hx hb hts mj_uv_4 tyX5 tyX5_ok nmX5 hown hK hP hD hS 0 rfl rfl 3 (by decide) (hts _ mk_w20) (fun _ h9 => h9) rfl hin rfl (tyX5_ok 3 (by decide)) rfl rfl (Nat.le_of_ble_eq_true rfl) dX5_init_25 (fun H locs hP hD hS => ?_)
  obtain ⟨hP, hD⟩ : mk_PD D A [(h0, .inr (4, [.int (-1), .int (-1), .int 0, .ref r23])), (r23, .inl (cy 1, 160, .inr (.inl (fun _ => 0))))] H := ⟨hP, hD⟩
  exact W.vret hx hb hr (fun t ht hW => ⟨⟨(), rfl, trivial, r23, by rw [ht]; exact hP, hD⟩, hS.F ht⟩) hS.2.2 dX5_init_28
def mk_wlX6 : List Cond := .code yX6_init cX6_init 1 none :: mj_tbl
theorem mk_fX6 : ∀ j, j < 5 → defaultValue (tyX6 j) = vp_V [.int 0, .null, .int 0, .int 0, .int 0] j := by
  intro j hj
  rcases (show j = 0 ∨ j = 1 ∨ j = 2 ∨ j = 3 ∨ j = 4 by omega) with rfl | rfl | rfl | rfl | rfl <;> rfl
set_option maxHeartbeats 8000000 in
set_option maxRecDepth 100000 in
theorem mk_cX6 (l : Launch) (D : va_G) (cy : Nat → ClassId) (h0 sz : Nat) : Met l yX6_init mk_wlX6 ({ frames := 1, cells := 1, slots := 20, locals := 20 } : Room) (va_Pc [.ref h0] (fun U => U.heap.size = sz ∧ va_P D vwCl [(h0, .inr (5, [.int 0, .null, .int 0, .int 0, .int 0]))] U.heap ∧ va_K D vwCl (mj_tys cy) U ∧ va_D (fun _ => True) [(h0, .inr (5, [.int 0, .null, .int 0, .int 0, .int 0]))] ∧ mk_N U)) (va_Qv (fun _ : Unit => True) (fun _ t => ∃ r12 : Nat, va_P D vwCl [(h0, .inr (5, [.int 0, .ref r12, .int (-1), .int 0, .int 0])), (r12, .inl (cy 0, 20, .inl (fun _ => 0)))] t.heap ∧ va_D (va_A [(h0, .inr (5, [.int 0, .null, .int 0, .int 0, .int 0]))] sz) [(h0, .inr (5, [.int 0, .ref r12, .int (-1), .int 0, .int 0])), (r12, .inl (cy 0, 20, .inl (fun _ => 0)))]) (va_A [(h0, .inr (5, [.int 0, .null, .int 0, .int 0, .int 0]))] sz)) 1 20 (va_A [(h0, .inr (5, [.int 0, .null, .int 0, .int 0, .int 0]))] sz) := by
  refine Met.ofW (cc := cX6_init) (maxL := 1) (ret := none) (by decide +kernel) rfl ?_
  intro p e s m args below meth c s₁ B hml hv
  obtain ⟨rfl, hsz, hP, hK, hD0, hN⟩ := hv
  have hx := B.exec
  have hb := B.bytes
  have hr := B.returns
  have htw := atoms_spec (ws := mk_wlX6) B.pre
  have hts := fun (w : Cond) (hw : w ∈ mj_tbl) => htw w (List.mem_cons_of_mem _ hw)
  have hown : s.vm.findClass RX6 = some m.cls := findClass_of_methodNamed B.named
  have hlocks := B.notSynchronized
  have hin : meth.name = "<init>" := (name_of_methodNamed B.named B.method).1
  subst hsz
  have hD := hD0.self (sz := s.heap.size)
  generalize hAe : va_A [(h0, .inr (5, [.int 0, .null, .int 0, .int 0, .int 0]))] s.heap.size = A at hD ⊢
  have hA : ∀ q : Nat, s.heap.size ≤ q → A q := fun q h => by rw [← hAe]; exact Or.inr h
  have hS : va_S A s.heap s.heap [] := va_S.rf
  have hl := lv_entry ([.ref h0]) (n := 1) (Nat.le_of_ble_eq_true rfl)
  rw [lg_entry_eq]
  generalize (lg_sl ([.ref h0]) ++ List.replicate (1 - (lg_sl ([.ref h0])).length) Slot.unset).toArray = ls at hl ⊢
  have hl : lv_has ls 1 [(0, .ref h0)] := hl
  refine lv_aload_n hx hb dX6_init_0 rfl (lv_at hl 0 rfl) ?_
  refine W.objInit hx hb hown (hts _ mk_w21) (hts _ mk_w1) (hts _ mk_w2) rfl (by rw [hml]; exact hl.1) rfl dX6_init_1 (Nat.le_of_ble_eq_true rfl) (Nat.le_of_ble_eq_true rfl) ?_
  refine W.eq (g2 := F0 m 4 ls []) rfl ?_
  refine lv_aload_n hx hb dX6_init_4 rfl (lv_at hl 0 rfl) ?_
  refine lv_iconst (v := 0) hx hb dX6_init_5 (by decide) ?_
  refine va_put (D := D) (ci := 5) (v := .int 0) (ty := tyX6 0) (C := RX6) (T := TX6) (N := 5) hx hb hts mj_uv_5 tyX6 tyX6_ok nmX6 hown hK hP hD hS 0 rfl rfl 0 (by decide) (hts _ mk_w22) (fun _ h9 => h9) rfl (tyX6_ok 0 (by decide)) rfl rfl (Nat.le_of_ble_eq_true rfl) dX6_init_6 (fun H locs hP hD hS => ?_)
  obtain ⟨hP, hD⟩ : mk_PD D A [(h0, .inr (5, [.int 0, .null, .int 0, .int 0, .int 0]))] H := ⟨hP, hD⟩
  refine lv_aload_n hx hb dX6_init_9 rfl (lv_at hl 0 rfl) ?_
  refine lv_bipush (v := 20) hx hb dX6_init_10 (by decide) ?_
  refine mk_newI (cy := cy) (f0 := fun _ => 0) hx hb (hts _ mk_w8) hK hP hD hS hA (by first | exact fun _ => rfl | exact mk_wv0) (n := 20) (N' := 20) (by decide) (by decide) (Nat.le_of_ble_eq_true rfl) (Nat.le_of_ble_eq_true rfl) (Nat.le_of_ble_eq_true rfl) dX6_init_12 (fun r12 H hP hD hS => ?_)
  obtain ⟨hP, hD⟩ : mk_PD D A [(h0, .inr (5, [.int 0, .null, .int 0, .int 0, .int 0])), (r12, .inl (cy 0, 20, .inl (fun _ => 0)))] H := ⟨hP, hD⟩
  refine W.widen (k := 1) (n := 20) (Nat.le_of_ble_eq_true rfl) (Nat.le_of_ble_eq_true rfl) ?_
  refine va_putF (D := D) (ci := 5) (v := .ref r12) (ty := tyX6 1) (C := RX6) (T := TX6) (N := 5) hx hb hts mj_uv_5 tyX6 tyX6_ok nmX6 hown hK hP hD hS 0 rfl rfl 1 (by decide) (hts _ mk_w23) (fun _ h9 => h9) rfl hin rfl (tyX6_ok 1 (by decide)) rfl rfl (Nat.le_of_ble_eq_true rfl) dX6_init_14 (fun H locs hP hD hS => ?_)
  obtain ⟨hP, hD⟩ : mk_PD D A [(h0, .inr (5, [.int 0, .ref r12, .int 0, .int 0, .int 0])), (r12, .inl (cy 0, 20, .inl (fun _ => 0)))] H := ⟨hP, hD⟩
  refine lv_aload_n hx hb dX6_init_17 rfl (lv_at hl 0 rfl) ?_
  refine lv_iconst (v := -1) hx hb dX6_init_18 (by decide) ?_
  refine va_put (D := D) (ci := 5) (v := .int (-1)) (ty := tyX6 2) (C := RX6) (T := TX6) (N := 5) hx hb hts mj_uv_5 tyX6 tyX6_ok nmX6 hown hK hP hD hS 0 rfl rfl 2 (by decide) (hts _ mk_w24) (fun _ h9 => h9) rfl (tyX6_ok 2 (by decide)) rfl rfl (Nat.le_of_ble_eq_true rfl) dX6_init_19 (fun H locs hP hD hS => ?_)
  obtain ⟨hP, hD⟩ : mk_PD D A [(h0, .inr (5, [.int 0, .ref r12, .int (-1), .int 0, .int 0])), (r12, .inl (cy 0, 20, .inl (fun _ => 0)))] H := ⟨hP, hD⟩
  refine lv_aload_n hx hb dX6_init_22 rfl (lv_at hl 0 rfl) ?_
  refine lv_iconst (v := 0) hx hb dX6_init_23 (by decide) ?_
  refine va_put (D := D) (ci := 5) (v := .int 0) (ty := tyX6 3) (C := RX6) (T := TX6) (N := 5) hx hb hts mj_uv_5 tyX6 tyX6_ok nmX6 hown hK hP hD hS 0 rfl rfl 3 (by decide) (hts _ mk_w25) (fun _ h9 => h9) rfl (tyX6_ok 3 (by decide)) rfl rfl (Nat.le_of_ble_eq_true rfl) dX6_init_24 (fun H locs hP hD hS => ?_)
  obtain ⟨hP, hD⟩ : mk_PD D A [(h0, .inr (5, [.int 0, .ref r12, .int (-1), .int 0, .int 0])), (r12, .inl (cy 0, 20, .inl (fun _ => 0)))] H := ⟨hP, hD⟩
  refine lv_aload_n hx hb dX6_init_27 rfl (lv_at hl 0 rfl) ?_
  refine lv_iconst (v := 0) hx hb dX6_init_28 (by decide) ?_
  refine va_put (D := D) (ci := 5) (v := .int 0) (ty := tyX6 4) (C := RX6) (T := TX6) (N := 5) hx hb hts mj_uv_5 tyX6 tyX6_ok nmX6 hown hK hP hD hS 0 rfl rfl 4 (by decide) (hts _ mk_w26) (fun _ h9 => h9) rfl (tyX6_ok 4 (by decide)) rfl rfl (Nat.le_of_ble_eq_true rfl) dX6_init_29 (fun H locs hP hD hS => ?_)
  obtain ⟨hP, hD⟩ : mk_PD D A [(h0, .inr (5, [.int 0, .ref r12, .int (-1), .int 0, .int 0])), (r12, .inl (cy 0, 20, .inl (fun _ => 0)))] H := ⟨hP, hD⟩
  exact W.vret hx hb hr (fun t ht hW => ⟨⟨(), rfl, trivial, r12, by rw [ht]; exact hP, hD⟩, hS.F ht⟩) hS.2.2 dX6_init_32
def mk_wlX2 : List Cond := .code yX2_init cX2_init 1 none :: mj_tbl
theorem mk_fX2 : ∀ j, j < 16 → defaultValue (tyX2 j) = vp_V [.int 0, .int 0, .int 0, .int 0, .int 0, .null, .null, .null, .null, .null, .null, .null, .null, .null, .null, .null] j := by
  intro j hj
  rcases (show j = 0 ∨ j = 1 ∨ j = 2 ∨ j = 3 ∨ j = 4 ∨ j = 5 ∨ j = 6 ∨ j = 7 ∨ j = 8 ∨ j = 9 ∨ j = 10 ∨ j = 11 ∨ j = 12 ∨ j = 13 ∨ j = 14 ∨ j = 15 by omega) with rfl | rfl | rfl | rfl | rfl | rfl | rfl | rfl | rfl | rfl | rfl | rfl | rfl | rfl | rfl | rfl <;> rfl
set_option maxHeartbeats 8000000 in
set_option maxRecDepth 100000 in
theorem mk_cX2 (l : Launch) (D : va_G) (cy : Nat → ClassId) (h0 sz : Nat) : Met l yX2_init mk_wlX2 ({ frames := 2, cells := 11, slots := 116, locals := 60 } : Room) (va_Pc [.ref h0] (fun U => U.heap.size = sz ∧ va_P D vwCl [(h0, .inr (1, [.int 0, .int 0, .int 0, .int 0, .int 0, .null, .null, .null, .null, .null, .null, .null, .null, .null, .null, .null]))] U.heap ∧ va_K D vwCl (mj_tys cy) U ∧ va_D (fun _ => True) [(h0, .inr (1, [.int 0, .int 0, .int 0, .int 0, .int 0, .null, .null, .null, .null, .null, .null, .null, .null, .null, .null, .null]))] ∧ mk_N U)) (va_Qv (fun _ : Unit => True) (fun _ t => ∃ r32 r40 r48 r56 r64 r72 r80 r88 r96 r104 r110 : Nat, va_P D vwCl ((h0, .inr (1, [.int 0, .int 0, .int 0, .int 0, .int 1, .ref r32, .ref r40, .ref r48, .ref r56, .ref r64, .ref r72, .ref r80, .ref r88, .ref r96, .ref r104, .ref r110])) :: (r32, .inl (cy 0, 8, .inl (fun _ => 0))) :: (r40, .inl (cy 0, 8, .inl (fun _ => 0))) :: (r48, .inl (cy 0, 8, .inl (fun _ => 0))) :: (r56, .inl (cy 0, 8, .inl (fun _ => 0))) :: (r64, .inl (cy 0, 8, .inl (fun _ => 0))) :: (r72, .inl (cy 0, 6, .inl (fun _ => 0))) :: (r80, .inl (cy 0, 6, .inl (fun _ => 0))) :: (r88, .inl (cy 0, 6, .inl (fun _ => 0))) :: (r96, .inl (cy 0, 6, .inl (fun _ => 0))) :: (r104, .inl (cy 0, 48, .inl (fun _ => 0))) :: (r110, .inr (0, [.int (-1), .int (-1), .int (-1), .int 0])) :: [] : va_W) t.heap ∧ va_D (va_A [(h0, .inr (1, [.int 0, .int 0, .int 0, .int 0, .int 0, .null, .null, .null, .null, .null, .null, .null, .null, .null, .null, .null]))] sz) ((h0, .inr (1, [.int 0, .int 0, .int 0, .int 0, .int 1, .ref r32, .ref r40, .ref r48, .ref r56, .ref r64, .ref r72, .ref r80, .ref r88, .ref r96, .ref r104, .ref r110])) :: (r32, .inl (cy 0, 8, .inl (fun _ => 0))) :: (r40, .inl (cy 0, 8, .inl (fun _ => 0))) :: (r48, .inl (cy 0, 8, .inl (fun _ => 0))) :: (r56, .inl (cy 0, 8, .inl (fun _ => 0))) :: (r64, .inl (cy 0, 8, .inl (fun _ => 0))) :: (r72, .inl (cy 0, 6, .inl (fun _ => 0))) :: (r80, .inl (cy 0, 6, .inl (fun _ => 0))) :: (r88, .inl (cy 0, 6, .inl (fun _ => 0))) :: (r96, .inl (cy 0, 6, .inl (fun _ => 0))) :: (r104, .inl (cy 0, 48, .inl (fun _ => 0))) :: (r110, .inr (0, [.int (-1), .int (-1), .int (-1), .int 0])) :: [] : va_W)) (va_A [(h0, .inr (1, [.int 0, .int 0, .int 0, .int 0, .int 0, .null, .null, .null, .null, .null, .null, .null, .null, .null, .null, .null]))] sz)) 11 116 (va_A [(h0, .inr (1, [.int 0, .int 0, .int 0, .int 0, .int 0, .null, .null, .null, .null, .null, .null, .null, .null, .null, .null, .null]))] sz) := by
  refine Met.ofW (cc := cX2_init) (maxL := 1) (ret := none) (by decide +kernel) rfl ?_
  intro p e s m args below meth c s₁ B hml hv
  obtain ⟨rfl, hsz, hP, hK, hD0, hN⟩ := hv
  have hx := B.exec
  have hb := B.bytes
  have hr := B.returns
  have htw := atoms_spec (ws := mk_wlX2) B.pre
  have hts := fun (w : Cond) (hw : w ∈ mj_tbl) => htw w (List.mem_cons_of_mem _ hw)
  have hown : s.vm.findClass RX2 = some m.cls := findClass_of_methodNamed B.named
  have hlocks := B.notSynchronized
  have hin : meth.name = "<init>" := (name_of_methodNamed B.named B.method).1
  subst hsz
  have hD := hD0.self (sz := s.heap.size)
  generalize hAe : va_A [(h0, .inr (1, [.int 0, .int 0, .int 0, .int 0, .int 0, .null, .null, .null, .null, .null, .null, .null, .null, .null, .null, .null]))] s.heap.size = A at hD ⊢
  have hA : ∀ q : Nat, s.heap.size ≤ q → A q := fun q h => by rw [← hAe]; exact Or.inr h
  have hS : va_S A s.heap s.heap [] := va_S.rf
  have hl := lv_entry ([.ref h0]) (n := 1) (Nat.le_of_ble_eq_true rfl)
  rw [lg_entry_eq]
  generalize (lg_sl ([.ref h0]) ++ List.replicate (1 - (lg_sl ([.ref h0])).length) Slot.unset).toArray = ls at hl ⊢
  have hl : lv_has ls 1 [(0, .ref h0)] := hl
  refine lv_aload_n hx hb dX2_init_0 rfl (lv_at hl 0 rfl) ?_
  refine W.objInit hx hb hown (hts _ mk_w27) (hts _ mk_w1) (hts _ mk_w2) rfl (by rw [hml]; exact hl.1) rfl dX2_init_1 (Nat.le_of_ble_eq_true rfl) (Nat.le_of_ble_eq_true rfl) ?_
  refine W.eq (g2 := F0 m 4 ls []) rfl ?_
  refine lv_aload_n hx hb dX2_init_4 rfl (lv_at hl 0 rfl) ?_
  refine lv_iconst (v := 0) hx hb dX2_init_5 (by decide) ?_
  refine va_put (D := D) (ci := 1) (v := .int 0) (ty := tyX2 0) (C := RX2) (T := TX2) (N := 16) hx hb hts mj_uv_1 tyX2 tyX2_ok nmX2 hown hK hP hD hS 0 rfl rfl 0 (by decide) (hts _ mk_w28) (fun _ h9 => h9) rfl (tyX2_ok 0 (by decide)) rfl rfl (Nat.le_of_ble_eq_true rfl) dX2_init_6 (fun H locs hP hD hS => ?_)
  obtain ⟨hP, hD⟩ : mk_PD D A [(h0, .inr (1, [.int 0, .int 0, .int 0, .int 0, .int 0, .null, .null, .null, .null, .null, .null, .null, .null, .null, .null, .null]))] H := ⟨hP, hD⟩
  refine lv_aload_n hx hb dX2_init_9 rfl (lv_at hl 0 rfl) ?_
  refine lv_iconst (v := 0) hx hb dX2_init_10 (by decide) ?_
  refine va_put (D := D) (ci := 1) (v := .int 0) (ty := tyX2 1) (C := RX2) (T := TX2) (N := 16) hx hb hts mj_uv_1 tyX2 tyX2_ok nmX2 hown hK hP hD hS 0 rfl rfl 1 (by decide) (hts _ mk_w29) (fun _ h9 => h9) rfl (tyX2_ok 1 (by decide)) rfl rfl (Nat.le_of_ble_eq_true rfl) dX2_init_11 (fun H locs hP hD hS => ?_)
  obtain ⟨hP, hD⟩ : mk_PD D A [(h0, .inr (1, [.int 0, .int 0, .int 0, .int 0, .int 0, .null, .null, .null, .null, .null, .null, .null, .null, .null, .null, .null]))] H := ⟨hP, hD⟩
  refine lv_aload_n hx hb dX2_init_14 rfl (lv_at hl 0 rfl) ?_
  refine lv_iconst (v := 0) hx hb dX2_init_15 (by decide) ?_
  refine va_put (D := D) (ci := 1) (v := .int 0) (ty := tyX2 2) (C := RX2) (T := TX2) (N := 16) hx hb hts mj_uv_1 tyX2 tyX2_ok nmX2 hown hK hP hD hS 0 rfl rfl 2 (by decide) (hts _ mk_w30) (fun _ h9 => h9) rfl (tyX2_ok 2 (by decide)) rfl rfl (Nat.le_of_ble_eq_true rfl) dX2_init_16 (fun H locs hP hD hS => ?_)
  obtain ⟨hP, hD⟩ : mk_PD D A [(h0, .inr (1, [.int 0, .int 0, .int 0, .int 0, .int 0, .null, .null, .null, .null, .null, .null, .null, .null, .null, .null, .null]))] H := ⟨hP, hD⟩
  refine lv_aload_n hx hb dX2_init_19 rfl (lv_at hl 0 rfl) ?_
  refine lv_iconst (v := 0) hx hb dX2_init_20 (by decide) ?_
  refine va_put (D := D) (ci := 1) (v := .int 0) (ty := tyX2 3) (C := RX2) (T := TX2) (N := 16) hx hb hts mj_uv_1 tyX2 tyX2_ok nmX2 hown hK hP hD hS 0 rfl rfl 3 (by decide) (hts _ mk_w31) (fun _ h9 => h9) rfl (tyX2_ok 3 (by decide)) rfl rfl (Nat.le_of_ble_eq_true rfl) dX2_init_21 (fun H locs hP hD hS => ?_)
  obtain ⟨hP, hD⟩ : mk_PD D A [(h0, .inr (1, [.int 0, .int 0, .int 0, .int 0, .int 0, .null, .null, .null, .null, .null, .null, .null, .null, .null, .null, .null]))] H := ⟨hP, hD⟩
  refine lv_aload_n hx hb dX2_init_24 rfl (lv_at hl 0 rfl) ?_
  refine lv_iconst (v := 1) hx hb dX2_init_25 (by decide) ?_
  refine va_put (D := D) (ci := 1) (v := .int 1) (ty := tyX2 4) (C := RX2) (T := TX2) (N := 16) hx hb hts mj_uv_1 tyX2 tyX2_ok nmX2 hown hK hP hD hS 0 rfl rfl 4 (by decide) (hts _ mk_w32) (fun _ h9 => h9) rfl (tyX2_ok 4 (by decide)) rfl rfl (Nat.le_of_ble_eq_true rfl) dX2_init_26 (fun H locs hP hD hS => ?_)
  obtain ⟨hP, hD⟩ : mk_PD D A [(h0, .inr (1, [.int 0, .int 0, .int 0, .int 0, .int 1, .null, .null, .null, .null, .null, .null, .null, .null, .null, .null, .null]))] H := ⟨hP, hD⟩
  refine lv_aload_n hx hb dX2_init_29 rfl (lv_at hl 0 rfl) ?_
  refine lv_bipush (v := 8) hx hb dX2_init_30 (by decide) ?_
  refine mk_newI (cy := cy) (f0 := fun _ => 0) hx hb (hts _ mk_w8) hK hP hD hS hA (by first | exact fun _ => rfl | exact mk_wv0) (n := 8) (N' := 8) (by decide) (by decide) (Nat.le_of_ble_eq_true rfl) (Nat.le_of_ble_eq_true rfl) (Nat.le_of_ble_eq_true rfl) dX2_init_32 (fun r32 H hP hD hS => ?_)
  obtain ⟨hP, hD⟩ : mk_PD D A [(h0, .inr (1, [.int 0, .int 0, .int 0, .int 0, .int 1, .null, .null, .null, .null, .null, .null, .null, .null, .null, .null, .null])), (r32, .inl (cy 0, 8, .inl (fun _ => 0)))] H := ⟨hP, hD⟩
  refine W.widen (k := 1) (n := 8) (Nat.le_of_ble_eq_true rfl) (Nat.le_of_ble_eq_true rfl) ?_
  refine va_putF (D := D) (ci := 1) (v := .ref r32) (ty := tyX2 5) (C := RX2) (T := TX2) (N := 16) hx hb hts mj_uv_1 tyX2 tyX2_ok nmX2 hown hK hP hD hS 0 rfl rfl 5 (by decide) (hts _ mk_w33) (fun _ h9 => h9) rfl hin rfl (tyX2_ok 5 (by decide)) rfl rfl (Nat.le_of_ble_eq_true rfl) dX2_init_34 (fun H locs hP hD hS => ?_)
  obtain ⟨hP, hD⟩ : mk_PD D A [(h0, .inr (1, [.int 0, .int 0, .int 0, .int 0, .int 1, .ref r32, .null, .null, .null, .null, .null, .null, .null, .null, .null, .null])), (r32, .inl (cy 0, 8, .inl (fun _ => 0)))] H := ⟨hP, hD⟩
  refine lv_aload_n hx hb dX2_init_37 rfl (lv_at hl 0 rfl) ?_
  refine lv_bipush (v := 8) hx hb dX2_init_38 (by decide) ?_
  refine mk_newI (cy := cy) (f0 := fun _ => 0) hx hb (hts _ mk_w8) hK hP hD hS hA (by first | exact fun _ => rfl | exact mk_wv0) (n := 8) (N' := 8) (by decide) (by decide) (Nat.le_of_ble_eq_true rfl) (Nat.le_of_ble_eq_true rfl) (Nat.le_of_ble_eq_true rfl) dX2_init_40 (fun r40 H hP hD hS => ?_)
  obtain ⟨hP, hD⟩ : mk_PD D A [(h0, .inr (1, [.int 0, .int 0, .int 0, .int 0, .int 1, .ref r32, .null, .null, .null, .null, .null, .null, .null, .null, .null, .null])), (r32, .inl (cy 0, 8, .inl (fun _ => 0))), (r40, .inl (cy 0, 8, .inl (fun _ => 0)))] H := ⟨hP, hD⟩
  refine W.widen (k := 2) (n := 16) (Nat.le_of_ble_eq_true rfl) (Nat.le_of_ble_eq_true rfl) ?_
  refine va_putF (D := D) (ci := 1) (v := .ref r40) (ty := tyX2 6) (C := RX2) (T := TX2) (N := 16) hx hb hts mj_uv_1 tyX2 tyX2_ok nmX2 hown hK hP hD hS 0 rfl rfl 6 (by decide) (hts _ mk_w34) (fun _ h9 => h9) rfl hin rfl (tyX2_ok 6 (by decide)) rfl rfl (Nat.le_of_ble_eq_true rfl) dX2_init_42 (fun H locs hP hD hS => ?_)
  obtain ⟨hP, hD⟩ : mk_PD D A [(h0, .inr (1, [.int 0, .int 0, .int 0, .int 0, .int 1, .ref r32, .ref r40, .null, .null, .null, .null, .null, .null, .null, .null, .null])), (r32, .inl (cy 0, 8, .inl (fun _ => 0))), (r40, .inl (cy 0, 8, .inl (fun _ => 0)))] H := ⟨hP, hD⟩
  refine lv_aload_n hx hb dX2_init_45 rfl (lv_at hl 0 rfl) ?_
  refine lv_bipush (v := 8) hx hb dX2_init_46 (by decide) ?_
  refine mk_newI (cy := cy) (f0 := fun _ => 0) hx hb (hts _ mk_w8) hK hP hD hS hA (by first | exact fun _ => rfl | exact mk_wv0) (n := 8) (N' := 8) (by decide) (by decide) (Nat.le_of_ble_eq_true rfl) (Nat.le_of_ble_eq_true rfl) (Nat.le_of_ble_eq_true rfl) dX2_init_48 (fun r48 H hP hD hS => ?_)
  obtain ⟨hP, hD⟩ : mk_PD D A [(h0, .inr (1, [.int 0, .int 0, .int 0, .int 0, .int 1, .ref r32, .ref r40, .null, .null, .null, .null, .null, .null, .null, .null, .null])), (r32, .inl (cy 0, 8, .inl (fun _ => 0))), (r40, .inl (cy 0, 8, .inl (fun _ => 0))), (r48, .inl (cy 0, 8, .inl (fun _ => 0)))] H := ⟨hP, hD⟩
  refine W.widen (k := 3) (n := 24) (Nat.le_of_ble_eq_true rfl) (Nat.le_of_ble_eq_true rfl) ?_
  refine va_putF (D := D) (ci := 1) (v := .ref r48) (ty := tyX2 7) (C := RX2) (T := TX2) (N := 16) hx hb hts mj_uv_1 tyX2 tyX2_ok nmX2 hown hK hP hD hS 0 rfl rfl 7 (by decide) (hts _ mk_w35) (fun _ h9 => h9) rfl hin rfl (tyX2_ok 7 (by decide)) rfl rfl (Nat.le_of_ble_eq_true rfl) dX2_init_50 (fun H locs hP hD hS => ?_)
  obtain ⟨hP, hD⟩ : mk_PD D A [(h0, .inr (1, [.int 0, .int 0, .int 0, .int 0, .int 1, .ref r32, .ref r40, .ref r48, .null, .null, .null, .null, .null, .null, .null, .null])), (r32, .inl (cy 0, 8, .inl (fun _ => 0))), (r40, .inl (cy 0, 8, .inl (fun _ => 0))), (r48, .inl (cy 0, 8, .inl (fun _ => 0)))] H := ⟨hP, hD⟩
  refine lv_aload_n hx hb dX2_init_53 rfl (lv_at hl 0 rfl) ?_
  refine lv_bipush (v := 8) hx hb dX2_init_54 (by decide) ?_
  refine mk_newI (cy := cy) (f0 := fun _ => 0) hx hb (hts _ mk_w8) hK hP hD hS hA (by first | exact fun _ => rfl | exact mk_wv0) (n := 8) (N' := 8) (by decide) (by decide) (Nat.le_of_ble_eq_true rfl) (Nat.le_of_ble_eq_true rfl) (Nat.le_of_ble_eq_true rfl) dX2_init_56 (fun r56 H hP hD hS => ?_)
  obtain ⟨hP, hD⟩ : mk_PD D A [(h0, .inr (1, [.int 0, .int 0, .int 0, .int 0, .int 1, .ref r32, .ref r40, .ref r48, .null, .null, .null, .null, .null, .null, .null, .null])), (r32, .inl (cy 0, 8, .inl (fun _ => 0))), (r40, .inl (cy 0, 8, .inl (fun _ => 0))), (r48, .inl (cy 0, 8, .inl (fun _ => 0))), (r56, .inl (cy 0, 8, .inl (fun _ => 0)))] H := ⟨hP, hD⟩
  refine W.widen (k := 4) (n := 32) (Nat.le_of_ble_eq_true rfl) (Nat.le_of_ble_eq_true rfl) ?_
  refine va_putF (D := D) (ci := 1) (v := .ref r56) (ty := tyX2 8) (C := RX2) (T := TX2) (N := 16) hx hb hts mj_uv_1 tyX2 tyX2_ok nmX2 hown hK hP hD hS 0 rfl rfl 8 (by decide) (hts _ mk_w36) (fun _ h9 => h9) rfl hin rfl (tyX2_ok 8 (by decide)) rfl rfl (Nat.le_of_ble_eq_true rfl) dX2_init_58 (fun H locs hP hD hS => ?_)
  obtain ⟨hP, hD⟩ : mk_PD D A [(h0, .inr (1, [.int 0, .int 0, .int 0, .int 0, .int 1, .ref r32, .ref r40, .ref r48, .ref r56, .null, .null, .null, .null, .null, .null, .null])), (r32, .inl (cy 0, 8, .inl (fun _ => 0))), (r40, .inl (cy 0, 8, .inl (fun _ => 0))), (r48, .inl (cy 0, 8, .inl (fun _ => 0))), (r56, .inl (cy 0, 8, .inl (fun _ => 0)))] H := ⟨hP, hD⟩
  refine lv_aload_n hx hb dX2_init_61 rfl (lv_at hl 0 rfl) ?_
  refine lv_bipush (v := 8) hx hb dX2_init_62 (by decide) ?_
  refine mk_newI (cy := cy) (f0 := fun _ => 0) hx hb (hts _ mk_w8) hK hP hD hS hA (by first | exact fun _ => rfl | exact mk_wv0) (n := 8) (N' := 8) (by decide) (by decide) (Nat.le_of_ble_eq_true rfl) (Nat.le_of_ble_eq_true rfl) (Nat.le_of_ble_eq_true rfl) dX2_init_64 (fun r64 H hP hD hS => ?_)
  obtain ⟨hP, hD⟩ : mk_PD D A [(h0, .inr (1, [.int 0, .int 0, .int 0, .int 0, .int 1, .ref r32, .ref r40, .ref r48, .ref r56, .null, .null, .null, .null, .null, .null, .null])), (r32, .inl (cy 0, 8, .inl (fun _ => 0))), (r40, .inl (cy 0, 8, .inl (fun _ => 0))), (r48, .inl (cy 0, 8, .inl (fun _ => 0))), (r56, .inl (cy 0, 8, .inl (fun _ => 0))), (r64, .inl (cy 0, 8, .inl (fun _ => 0)))] H := ⟨hP, hD⟩
  refine W.widen (k := 5) (n := 40) (Nat.le_of_ble_eq_true rfl) (Nat.le_of_ble_eq_true rfl) ?_
  refine va_putF (D := D) (ci := 1) (v := .ref r64) (ty := tyX2 9) (C := RX2) (T := TX2) (N := 16) hx hb hts mj_uv_1 tyX2 tyX2_ok nmX2 hown hK hP hD hS 0 rfl rfl 9 (by decide) (hts _ mk_w37) (fun _ h9 => h9) rfl hin rfl (tyX2_ok 9 (by decide)) rfl rfl (Nat.le_of_ble_eq_true rfl) dX2_init_66 (fun H locs hP hD hS => ?_)
  obtain ⟨hP, hD⟩ : mk_PD D A [(h0, .inr (1, [.int 0, .int 0, .int 0, .int 0, .int 1, .ref r32, .ref r40, .ref r48, .ref r56, .ref r64, .null, .null, .null, .null, .null, .null])), (r32, .inl (cy 0, 8, .inl (fun _ => 0))), (r40, .inl (cy 0, 8, .inl (fun _ => 0))), (r48, .inl (cy 0, 8, .inl (fun _ => 0))), (r56, .inl (cy 0, 8, .inl (fun _ => 0))), (r64, .inl (cy 0, 8, .inl (fun _ => 0)))] H := ⟨hP, hD⟩
  refine lv_aload_n hx hb dX2_init_69 rfl (lv_at hl 0 rfl) ?_
  refine lv_bipush (v := 6) hx hb dX2_init_70 (by decide) ?_
  refine mk_newI (cy := cy) (f0 := fun _ => 0) hx hb (hts _ mk_w8) hK hP hD hS hA (by first | exact fun _ => rfl | exact mk_wv0) (n := 6) (N' := 6) (by decide) (by decide) (Nat.le_of_ble_eq_true rfl) (Nat.le_of_ble_eq_true rfl) (Nat.le_of_ble_eq_true rfl) dX2_init_72 (fun r72 H hP hD hS => ?_)
  obtain ⟨hP, hD⟩ : mk_PD D A [(h0, .inr (1, [.int 0, .int 0, .int 0, .int 0, .int 1, .ref r32, .ref r40, .ref r48, .ref r56, .ref r64, .null, .null, .null, .null, .null, .null])), (r32, .inl (cy 0, 8, .inl (fun _ => 0))), (r40, .inl (cy 0, 8, .inl (fun _ => 0))), (r48, .inl (cy 0, 8, .inl (fun _ => 0))), (r56, .inl (cy 0, 8, .inl (fun _ => 0))), (r64, .inl (cy 0, 8, .inl (fun _ => 0))), (r72, .inl (cy 0, 6, .inl (fun _ => 0)))] H := ⟨hP, hD⟩
  refine W.widen (k := 6) (n := 46) (Nat.le_of_ble_eq_true rfl) (Nat.le_of_ble_eq_true rfl) ?_
  refine va_putF (D := D) (ci := 1) (v := .ref r72) (ty := tyX2 10) (C := RX2) (T := TX2) (N := 16) hx hb hts mj_uv_1 tyX2 tyX2_ok nmX2 hown hK hP hD hS 0 rfl rfl 10 (by decide) (hts _ mk_w38) (fun _ h9 => h9) rfl hin rfl (tyX2_ok 10 (by decide)) rfl rfl (Nat.le_of_ble_eq_true rfl) dX2_init_74 (fun H locs hP hD hS => ?_)
  obtain ⟨hP, hD⟩ : mk_PD D A [(h0, .inr (1, [.int 0, .int 0, .int 0, .int 0, .int 1, .ref r32, .ref r40, .ref r48, .ref r56, .ref r64, .ref r72, .null, .null, .null, .null, .null])), (r32, .inl (cy 0, 8, .inl (fun _ => 0))), (r40, .inl (cy 0, 8, .inl (fun _ => 0))), (r48, .inl (cy 0, 8, .inl (fun _ => 0))), (r56, .inl (cy 0, 8, .inl (fun _ => 0))), (r64, .inl (cy 0, 8, .inl (fun _ => 0))), (r72, .inl (cy 0, 6, .inl (fun _ => 0)))] H := ⟨hP, hD⟩
  refine lv_aload_n hx hb dX2_init_77 rfl (lv_at hl 0 rfl) ?_
  refine lv_bipush (v := 6) hx hb dX2_init_78 (by decide) ?_
  refine mk_newI (cy := cy) (f0 := fun _ => 0) hx hb (hts _ mk_w8) hK hP hD hS hA (by first | exact fun _ => rfl | exact mk_wv0) (n := 6) (N' := 6) (by decide) (by decide) (Nat.le_of_ble_eq_true rfl) (Nat.le_of_ble_eq_true rfl) (Nat.le_of_ble_eq_true rfl) dX2_init_80 (fun r80 H hP hD hS => ?_)
  obtain ⟨hP, hD⟩ : mk_PD D A [(h0, .inr (1, [.int 0, .int 0, .int 0, .int 0, .int 1, .ref r32, .ref r40, .ref r48, .ref r56, .ref r64, .ref r72, .null, .null, .null, .null, .null])), (r32, .inl (cy 0, 8, .inl (fun _ => 0))), (r40, .inl (cy 0, 8, .inl (fun _ => 0))), (r48, .inl (cy 0, 8, .inl (fun _ => 0))), (r56, .inl (cy 0, 8, .inl (fun _ => 0))), (r64, .inl (cy 0, 8, .inl (fun _ => 0))), (r72, .inl (cy 0, 6, .inl (fun _ => 0))), (r80, .inl (cy 0, 6, .inl (fun _ => 0)))] H := ⟨hP, hD⟩
  refine W.widen (k := 7) (n := 52) (Nat.le_of_ble_eq_true rfl) (Nat.le_of_ble_eq_true rfl) ?_
  refine va_putF (D := D) (ci := 1) (v := .ref r80) (ty := tyX2 11) (C := RX2) (T := TX2) (N := 16) hx hb hts mj_uv_1 tyX2 tyX2_ok nmX2 hown hK hP hD hS 0 rfl rfl 11 (by decide) (hts _ mk_w39) (fun _ h9 => h9) rfl hin rfl (tyX2_ok 11 (by decide)) rfl rfl (Nat.le_of_ble_eq_true rfl) dX2_init_82 (fun H locs hP hD hS => ?_)
  obtain ⟨hP, hD⟩ : mk_PD D A [(h0, .inr (1, [.int 0, .int 0, .int 0, .int 0, .int 1, .ref r32, .ref r40, .ref r48, .ref r56, .ref r64, .ref r72, .ref r80, .null, .null, .null, .null])), (r32, .inl (cy 0, 8, .inl (fun _ => 0))), (r40, .inl (cy 0, 8, .inl (fun _ => 0))), (r48, .inl (cy 0, 8, .inl (fun _ => 0))), (r56, .inl (cy 0, 8, .inl (fun _ => 0))), (r64, .inl (cy 0, 8, .inl (fun _ => 0))), (r72, .inl (cy 0, 6, .inl (fun _ => 0))), (r80, .inl (cy 0, 6, .inl (fun _ => 0)))] H := ⟨hP, hD⟩
  refine lv_aload_n hx hb dX2_init_85 rfl (lv_at hl 0 rfl) ?_
  refine lv_bipush (v := 6) hx hb dX2_init_86 (by decide) ?_
  refine mk_newI (cy := cy) (f0 := fun _ => 0) hx hb (hts _ mk_w8) hK hP hD hS hA (by first | exact fun _ => rfl | exact mk_wv0) (n := 6) (N' := 6) (by decide) (by decide) (Nat.le_of_ble_eq_true rfl) (Nat.le_of_ble_eq_true rfl) (Nat.le_of_ble_eq_true rfl) dX2_init_88 (fun r88 H hP hD hS => ?_)
  obtain ⟨hP, hD⟩ : mk_PD D A [(h0, .inr (1, [.int 0, .int 0, .int 0, .int 0, .int 1, .ref r32, .ref r40, .ref r48, .ref r56, .ref r64, .ref r72, .ref r80, .null, .null, .null, .null])), (r32, .inl (cy 0, 8, .inl (fun _ => 0))), (r40, .inl (cy 0, 8, .inl (fun _ => 0))), (r48, .inl (cy 0, 8, .inl (fun _ => 0))), (r56, .inl (cy 0, 8, .inl (fun _ => 0))), (r64, .inl (cy 0, 8, .inl (fun _ => 0))), (r72, .inl (cy 0, 6, .inl (fun _ => 0))), (r80, .inl (cy 0, 6, .inl (fun _ => 0))), (r88, .inl (cy 0, 6, .inl (fun _ => 0)))] H := ⟨hP, hD⟩
  refine W.widen (k := 8) (n := 58) (Nat.le_of_ble_eq_true rfl) (Nat.le_of_ble_eq_true rfl) ?_
  refine va_putF (D := D) (ci := 1) (v := .ref r88) (ty := tyX2 12) (C := RX2) (T := TX2) (N := 16) hx hb hts mj_uv_1 tyX2 tyX2_ok nmX2 hown hK hP hD hS 0 rfl rfl 12 (by decide) (hts _ mk_w40) (fun _ h9 => h9) rfl hin rfl (tyX2_ok 12 (by decide)) rfl rfl (Nat.le_of_ble_eq_true rfl) dX2_init_90 (fun H locs hP hD hS => ?_)
  obtain ⟨hP, hD⟩ : mk_PD D A [(h0, .inr (1, [.int 0, .int 0, .int 0, .int 0, .int 1, .ref r32, .ref r40, .ref r48, .ref r56, .ref r64, .ref r72, .ref r80, .ref r88, .null, .null, .null])), (r32, .inl (cy 0, 8, .inl (fun _ => 0))), (r40, .inl (cy 0, 8, .inl (fun _ => 0))), (r48, .inl (cy 0, 8, .inl (fun _ => 0))), (r56, .inl (cy 0, 8, .inl (fun _ => 0))), (r64, .inl (cy 0, 8, .inl (fun _ => 0))), (r72, .inl (cy 0, 6, .inl (fun _ => 0))), (r80, .inl (cy 0, 6, .inl (fun _ => 0))), (r88, .inl (cy 0, 6, .inl (fun _ => 0)))] H := ⟨hP, hD⟩
  refine lv_aload_n hx hb dX2_init_93 rfl (lv_at hl 0 rfl) ?_
  refine lv_bipush (v := 6) hx hb dX2_init_94 (by decide) ?_
  refine mk_newI (cy := cy) (f0 := fun _ => 0) hx hb (hts _ mk_w8) hK hP hD hS hA (by first | exact fun _ => rfl | exact mk_wv0) (n := 6) (N' := 6) (by decide) (by decide) (Nat.le_of_ble_eq_true rfl) (Nat.le_of_ble_eq_true rfl) (Nat.le_of_ble_eq_true rfl) dX2_init_96 (fun r96 H hP hD hS => ?_)
  obtain ⟨hP, hD⟩ : mk_PD D A [(h0, .inr (1, [.int 0, .int 0, .int 0, .int 0, .int 1, .ref r32, .ref r40, .ref r48, .ref r56, .ref r64, .ref r72, .ref r80, .ref r88, .null, .null, .null])), (r32, .inl (cy 0, 8, .inl (fun _ => 0))), (r40, .inl (cy 0, 8, .inl (fun _ => 0))), (r48, .inl (cy 0, 8, .inl (fun _ => 0))), (r56, .inl (cy 0, 8, .inl (fun _ => 0))), (r64, .inl (cy 0, 8, .inl (fun _ => 0))), (r72, .inl (cy 0, 6, .inl (fun _ => 0))), (r80, .inl (cy 0, 6, .inl (fun _ => 0))), (r88, .inl (cy 0, 6, .inl (fun _ => 0))), (r96, .inl (cy 0, 6, .inl (fun _ => 0)))] H := ⟨hP, hD⟩
  refine W.widen (k := 9) (n := 64) (Nat.le_of_ble_eq_true rfl) (Nat.le_of_ble_eq_true rfl) ?_
  refine va_putF (D := D) (ci := 1) (v := .ref r96) (ty := tyX2 13) (C := RX2) (T := TX2) (N := 16) hx hb hts mj_uv_1 tyX2 tyX2_ok nmX2 hown hK hP hD hS 0 rfl rfl 13 (by decide) (hts _ mk_w41) (fun _ h9 => h9) rfl hin rfl (tyX2_ok 13 (by decide)) rfl rfl (Nat.le_of_ble_eq_true rfl) dX2_init_98 (fun H locs hP hD hS => ?_)
  obtain ⟨hP, hD⟩ : mk_PD D A [(h0, .inr (1, [.int 0, .int 0, .int 0, .int 0, .int 1, .ref r32, .ref r40, .ref r48, .ref r56, .ref r64, .ref r72, .ref r80, .ref r88, .ref r96, .null, .null])), (r32, .inl (cy 0, 8, .inl (fun _ => 0))), (r40, .inl (cy 0, 8, .inl (fun _ => 0))), (r48, .inl (cy 0, 8, .inl (fun _ => 0))), (r56, .inl (cy 0, 8, .inl (fun _ => 0))), (r64, .inl (cy 0, 8, .inl (fun _ => 0))), (r72, .inl (cy 0, 6, .inl (fun _ => 0))), (r80, .inl (cy 0, 6, .inl (fun _ => 0))), (r88, .inl (cy 0, 6, .inl (fun _ => 0))), (r96, .inl (cy 0, 6, .inl (fun _ => 0)))] H := ⟨hP, hD⟩
  refine lv_aload_n hx hb dX2_init_101 rfl (lv_at hl 0 rfl) ?_
  refine lv_bipush (v := 48) hx hb dX2_init_102 (by decide) ?_
  refine mk_newI (cy := cy) (f0 := fun _ => 0) hx hb (hts _ mk_w8) hK hP hD hS hA (by first | exact fun _ => rfl | exact mk_wv0) (n := 48) (N' := 48) (by decide) (by decide) (Nat.le_of_ble_eq_true rfl) (Nat.le_of_ble_eq_true rfl) (Nat.le_of_ble_eq_true rfl) dX2_init_104 (fun r104 H hP hD hS => ?_)
  obtain ⟨hP, hD⟩ : mk_PD D A [(h0, .inr (1, [.int 0, .int 0, .int 0, .int 0, .int 1, .ref r32, .ref r40, .ref r48, .ref r56, .ref r64, .ref r72, .ref r80, .ref r88, .ref r96, .null, .null])), (r32, .inl (cy 0, 8, .inl (fun _ => 0))), (r40, .inl (cy 0, 8, .inl (fun _ => 0))), (r48, .inl (cy 0, 8, .inl (fun _ => 0))), (r56, .inl (cy 0, 8, .inl (fun _ => 0))), (r64, .inl (cy 0, 8, .inl (fun _ => 0))), (r72, .inl (cy 0, 6, .inl (fun _ => 0))), (r80, .inl (cy 0, 6, .inl (fun _ => 0))), (r88, .inl (cy 0, 6, .inl (fun _ => 0))), (r96, .inl (cy 0, 6, .inl (fun _ => 0))), (r104, .inl (cy 0, 48, .inl (fun _ => 0)))] H := ⟨hP, hD⟩
  refine W.widen (k := 10) (n := 112) (Nat.le_of_ble_eq_true rfl) (Nat.le_of_ble_eq_true rfl) ?_
  refine va_putF (D := D) (ci := 1) (v := .ref r104) (ty := tyX2 14) (C := RX2) (T := TX2) (N := 16) hx hb hts mj_uv_1 tyX2 tyX2_ok nmX2 hown hK hP hD hS 0 rfl rfl 14 (by decide) (hts _ mk_w42) (fun _ h9 => h9) rfl hin rfl (tyX2_ok 14 (by decide)) rfl rfl (Nat.le_of_ble_eq_true rfl) dX2_init_106 (fun H locs hP hD hS => ?_)
  obtain ⟨hP, hD⟩ : mk_PD D A [(h0, .inr (1, [.int 0, .int 0, .int 0, .int 0, .int 1, .ref r32, .ref r40, .ref r48, .ref r56, .ref r64, .ref r72, .ref r80, .ref r88, .ref r96, .ref r104, .null])), (r32, .inl (cy 0, 8, .inl (fun _ => 0))), (r40, .inl (cy 0, 8, .inl (fun _ => 0))), (r48, .inl (cy 0, 8, .inl (fun _ => 0))), (r56, .inl (cy 0, 8, .inl (fun _ => 0))), (r64, .inl (cy 0, 8, .inl (fun _ => 0))), (r72, .inl (cy 0, 6, .inl (fun _ => 0))), (r80, .inl (cy 0, 6, .inl (fun _ => 0))), (r88, .inl (cy 0, 6, .inl (fun _ => 0))), (r96, .inl (cy 0, 6, .inl (fun _ => 0))), (r104, .inl (cy 0, 48, .inl (fun _ => 0)))] H := ⟨hP, hD⟩
  refine lv_aload_n hx hb dX2_init_109 rfl (lv_at hl 0 rfl) ?_
  refine va_new (ci := 0) (fs := [.int 0, .int 0, .int 0, .int 0]) (C := RX0) (T := TX0) (N := 4) hx hb hts mj_uv_0 tyX0 tyX0_ok hown (hts _ mk_w43) (hts _ mk_w44) (hts _ mk_w45) hK hP hD hS hA rfl mk_fX0 (Nat.le_of_ble_eq_true rfl) (Nat.le_of_ble_eq_true rfl) dX2_init_110 (fun r110 H hP hD hS => ?_)
  obtain ⟨hP, hD⟩ : mk_PD D A ((h0, .inr (1, [.int 0, .int 0, .int 0, .int 0, .int 1, .ref r32, .ref r40, .ref r48, .ref r56, .ref r64, .ref r72, .ref r80, .ref r88, .ref r96, .ref r104, .null])) :: (r32, .inl (cy 0, 8, .inl (fun _ => 0))) :: (r40, .inl (cy 0, 8, .inl (fun _ => 0))) :: (r48, .inl (cy 0, 8, .inl (fun _ => 0))) :: (r56, .inl (cy 0, 8, .inl (fun _ => 0))) :: (r64, .inl (cy 0, 8, .inl (fun _ => 0))) :: (r72, .inl (cy 0, 6, .inl (fun _ => 0))) :: (r80, .inl (cy 0, 6, .inl (fun _ => 0))) :: (r88, .inl (cy 0, 6, .inl (fun _ => 0))) :: (r96, .inl (cy 0, 6, .inl (fun _ => 0))) :: (r104, .inl (cy 0, 48, .inl (fun _ => 0))) :: (r110, .inr (0, [.int 0, .int 0, .int 0, .int 0])) :: [] : va_W) H := ⟨hP, hD⟩
  refine W.widen (k := 11) (n := 116) (Nat.le_of_ble_eq_true rfl) (Nat.le_of_ble_eq_true rfl) ?_
  refine lv_dup hx hb dX2_init_113 rfl ?_
  have hPc := hP.sub (ws' := [(r110, .inr (0, [.int 0, .int 0, .int 0, .int 0]))]) [11] rfl
  have hDc := hD.sub (ws' := [(r110, .inr (0, [.int 0, .int 0, .int 0, .int 0]))]) [11] (by decide) rfl
  have hFc := va_free (wc := [(r110, .inr (0, [.int 0, .int 0, .int 0, .int 0]))]) hD hS hA [11] rfl
  refine va_callv (va_runIN (As := []) (rest := [Value.ref r110, Value.ref h0]) ⟨hx, hb, hml, hown, hts⟩ (mk_cX0 l D cy r110 H.size) ⟨va_cnB (Ts := mj_tbl) 0 hts (mk_good mk_w46) rfl rfl rfl (mk_N1 hN) (hts _ mk_w45) ⟨by decide +kernel, by decide +kernel, by decide +kernel⟩ ⟨Nat.le_of_ble_eq_true rfl, Nat.le_of_ble_eq_true rfl⟩, rfl, hts _ mk_w47⟩ ⟨fun a U g mk q => by obtain ⟨q0, q1, qP, qK, qD, qN⟩ := q; exact ⟨q0, q1, qP, va_K.moved (u := U) (U := U.calling g mk a) (Vm.Alike.refl U.vm) qK, qD, mk_N.same (U := U.calling g mk a) rfl qN⟩, fun U hU hW => ⟨rfl, by rw [hU], by rw [hU]; exact hPc, va_K.moved hW.alike hK, hDc.weaken (fun _ _ _ _ => trivial), hN.warm hW⟩⟩ rfl rfl hl.1 rfl (lv_room (Nat.le_of_ble_eq_true rfl)) dX2_init_114 ⟨Nat.le_of_ble_eq_true rfl, Nat.le_of_ble_eq_true rfl⟩) hS (fun q _ h => hFc q h) hFc (fun u t H1 locs ht hvm hw hB hz1 hk1 hS => ?_)
  obtain ⟨hP1, hD1⟩ := hB
  rw [ht] at hP1
  obtain ⟨hP, hD⟩ := va_join (wr := [(h0, .inr (1, [.int 0, .int 0, .int 0, .int 0, .int 1, .ref r32, .ref r40, .ref r48, .ref r56, .ref r64, .ref r72, .ref r80, .ref r88, .ref r96, .ref r104, .null])), (r32, .inl (cy 0, 8, .inl (fun _ => 0))), (r40, .inl (cy 0, 8, .inl (fun _ => 0))), (r48, .inl (cy 0, 8, .inl (fun _ => 0))), (r56, .inl (cy 0, 8, .inl (fun _ => 0))), (r64, .inl (cy 0, 8, .inl (fun _ => 0))), (r72, .inl (cy 0, 6, .inl (fun _ => 0))), (r80, .inl (cy 0, 6, .inl (fun _ => 0))), (r88, .inl (cy 0, 6, .inl (fun _ => 0))), (r96, .inl (cy 0, 6, .inl (fun _ => 0))), (r104, .inl (cy 0, 48, .inl (fun _ => 0)))]) (w1 := [(r110, .inr (0, [.int (-1), .int (-1), .int (-1), .int 0]))]) hP hD [11] [0, 1, 2, 3, 4, 5, 6, 7, 8, 9, 10] rfl rfl (by decide) (by decide) hk1 hFc hP1 hD1
  generalize H1 = H at hP hS ⊢
  obtain ⟨hP, hD⟩ : mk_PD D A ((h0, .inr (1, [.int 0, .int 0, .int 0, .int 0, .int 1, .ref r32, .ref r40, .ref r48, .ref r56, .ref r64, .ref r72, .ref r80, .ref r88, .ref r96, .ref r104, .null])) :: (r32, .inl (cy 0, 8, .inl (fun _ => 0))) :: (r40, .inl (cy 0, 8, .inl (fun _ => 0))) :: (r48, .inl (cy 0, 8, .inl (fun _ => 0))) :: (r56, .inl (cy 0, 8, .inl (fun _ => 0))) :: (r64, .inl (cy 0, 8, .inl (fun _ => 0))) :: (r72, .inl (cy 0, 6, .inl (fun _ => 0))) :: (r80, .inl (cy 0, 6, .inl (fun _ => 0))) :: (r88, .inl (cy 0, 6, .inl (fun _ => 0))) :: (r96, .inl (cy 0, 6, .inl (fun _ => 0))) :: (r104, .inl (cy 0, 48, .inl (fun _ => 0))) :: (r110, .inr (0, [.int (-1), .int (-1), .int (-1), .int 0])) :: [] : va_W) H := ⟨hP, hD⟩
  refine W.widen (k := 11) (n := 116) (Nat.le_of_ble_eq_true rfl) (Nat.le_of_ble_eq_true rfl) ?_
  refine va_putF (D := D) (ci := 1) (v := .ref r110) (ty := tyX2 15) (C := RX2) (T := TX2) (N := 16) hx hb hts mj_uv_1 tyX2 tyX2_ok nmX2 hown hK hP hD hS 0 rfl rfl 15 (by decide) (hts _ mk_w48) (fun _ h9 => h9) rfl hin rfl (tyX2_ok 15 (by decide)) rfl rfl (Nat.le_of_ble_eq_true rfl) dX2_init_117 (fun H locs hP hD hS => ?_)
  obtain ⟨hP, hD⟩ : mk_PD D A ((h0, .inr (1, [.int 0, .int 0, .int 0, .int 0, .int 1, .ref r32, .ref r40, .ref r48, .ref r56, .ref r64, .ref r72, .ref r80, .ref r88, .ref r96, .ref r104, .ref r110])) :: (r32, .inl (cy 0, 8, .inl (fun _ => 0))) :: (r40, .inl (cy 0, 8, .inl (fun _ => 0))) :: (r48, .inl (cy 0, 8, .inl (fun _ => 0))) :: (r56, .inl (cy 0, 8, .inl (fun _ => 0))) :: (r64, .inl (cy 0, 8, .inl (fun _ => 0))) :: (r72, .inl (cy 0, 6, .inl (fun _ => 0))) :: (r80, .inl (cy 0, 6, .inl (fun _ => 0))) :: (r88, .inl (cy 0, 6, .inl (fun _ => 0))) :: (r96, .inl (cy 0, 6, .inl (fun _ => 0))) :: (r104, .inl (cy 0, 48, .inl (fun _ => 0))) :: (r110, .inr (0, [.int (-1), .int (-1), .int (-1), .int 0])) :: [] : va_W) H := ⟨hP, hD⟩
  exact W.vret hx hb hr (fun t ht hW => ⟨⟨(), rfl, trivial, r32, r40, r48, r56, r64, r72, r80, r88, r96, r104, r110, by rw [ht]; exact hP, hD⟩, hS.F ht⟩) hS.2.2 dX2_init_120
