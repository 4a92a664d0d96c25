/-! WHAT THE KIT NEEDS OF THE CLASSES, at the law's entry -/
set_option maxRecDepth 100000
theorem mk_w115 : Cond.classLink RL 7 RX7 ∈ mj_tbl := mj_inT_mem (p := 89) (by decide +kernel)
theorem mk_w116 : Cond.instantiable RX7 10 ∈ mj_tbl := mj_inT_mem (p := 90) (by decide +kernel)
theorem mk_w117 : Cond.initialized RX7 ∈ mj_tbl := mj_inT_mem (p := 73) (by decide +kernel)
theorem mk_w118 : Cond.code yX7_init cX7_init 2 none ∈ mj_tbl := mj_inT_mem (p := 93) (by decide +kernel)
theorem mk_w119 : Cond.methodLink RL 9 yX7_init ∈ mj_tbl := mj_inT_mem (p := 91) (by decide +kernel)
theorem mk_w120 : Cond.instanceMethod yX7_init ∈ mj_tbl := mj_inT_mem (p := 92) (by decide +kernel)
theorem mk_w121 : Cond.classLink RL 10 RX8 ∈ mj_tbl := mj_inT_mem (p := 877) (by decide +kernel)
theorem mk_w122 : Cond.instantiable RX8 43 ∈ mj_tbl := mj_inT_mem (p := 878) (by decide +kernel)
theorem mk_w123 : Cond.initialized RX8 ∈ mj_tbl := mj_inT_mem (p := 80) (by decide +kernel)
theorem mk_w124 : Cond.code yX8_init cX8_init 1 none ∈ mj_tbl := mj_inT_mem (p := 881) (by decide +kernel)
theorem mk_w125 : Cond.methodLink RL 12 yX8_init ∈ mj_tbl := mj_inT_mem (p := 879) (by decide +kernel)
theorem mk_w126 : Cond.instanceMethod yX8_init ∈ mj_tbl := mj_inT_mem (p := 880) (by decide +kernel)
theorem dL_law_0 : decode cL_law 0 = .ok (.new 7, 3) := by decide +kernel
theorem dL_law_3 : decode cL_law 3 = .ok (.dup, 1) := by decide +kernel
theorem dL_law_4 : decode cL_law 4 = .ok (.invokespecial 9, 3) := by decide +kernel
theorem dL_law_7 : decode cL_law 7 = .ok (.astore_n 1, 1) := by decide +kernel
theorem dL_law_8 : decode cL_law 8 = .ok (.new 10, 3) := by decide +kernel
theorem dL_law_11 : decode cL_law 11 = .ok (.dup, 1) := by decide +kernel
theorem dL_law_12 : decode cL_law 12 = .ok (.invokespecial 12, 3) := by decide +kernel
theorem dL_law_15 : decode cL_law 15 = .ok (.astore_n 2, 1) := by decide +kernel
theorem dL_law_16 : decode cL_law 16 = .ok (.iconst 0, 1) := by decide +kernel
theorem dL_law_17 : decode cL_law 17 = .ok (.istore_n 3, 1) := by decide +kernel
def mk_ad (T : Nat → Nat) (l : List Nat) : Nat → Nat := fun k => l.getD k (T k)
theorem mk_ad9 {T : Nat → Nat} {l : List Nat} (h : l.length = 90) : ∀ k, 90 ≤ k → mk_ad T l k = T k := by
  intro k hk
  unfold mk_ad
  rw [List.getD_eq_getElem?_getD, List.getElem?_eq_none_iff.mpr (by omega)]
  rfl
theorem mk_Nst {s : State} {args : Array Value} (hts : ∀ w ∈ lw_tbl, w.before args s = true) : mk_N s := ⟨va_Nw.of rfl (hts (.methodLinkNest RX7 9 yX2_init "ChosenBackAtNine") (List.mem_of_getElem? (i := 99) (by decide +kernel))), va_Nw.of rfl (hts (.methodLinkNest RX2 60 yX0_init "ChosenBackAtNine") (List.mem_of_getElem? (i := 105) (by decide +kernel))), va_Nw.of rfl (hts (.methodLinkNest RX7 34 yX3_init "ChosenBackAtNine") (List.mem_of_getElem? (i := 208) (by decide +kernel))), va_Nw.of rfl (hts (.methodLinkNest RX7 41 yX4_init "ChosenBackAtNine") (List.mem_of_getElem? (i := 222) (by decide +kernel))), va_Nw.of rfl (hts (.methodLinkNest RX7 48 yX6_init "ChosenBackAtNine") (List.mem_of_getElem? (i := 239) (by decide +kernel))), va_Nw.of rfl (hts (.methodLinkNest RX7 61 yX5_init "ChosenBackAtNine") (List.mem_of_getElem? (i := 261) (by decide +kernel))), va_AO.of (hts (.arrayOver (.object "ChosenBackAtNine$Shelf")) (List.mem_of_getElem? (i := 205) (by decide +kernel)))⟩
theorem mk_K0 {s : State} {args : Array Value} (hts : ∀ w ∈ mj_tbl, w.before args s = true) (hAO : va_AO "ChosenBackAtNine$Shelf" s) : ∃ (D : va_G) (cy : Nat → ClassId), va_K D vwCl (mj_tys cy) s := by
  have h : ∀ k : Nat, ∃ d : ClassId × (Nat → Nat), ∀ q, vwCl[k]? = some q → u_Kn s q.1 q.2.1 q.2.2 d.1 d.2 := by
    intro k
    by_cases hk : k < 8
    · rcases (show k = 0 ∨ k = 1 ∨ k = 2 ∨ k = 3 ∨ k = 4 ∨ k = 5 ∨ k = 6 ∨ k = 7 by omega) with rfl | rfl | rfl | rfl | rfl | rfl | rfl | rfl
      · obtain ⟨c, i, h⟩ := u_known (C := RX0) (T := TX0) (N := 4) (n := 4) hts mj_uv_0 (hts _ mk_w44)
        exact ⟨(c, i), fun q hq => by cases hq; exact h⟩
      · obtain ⟨c, i, h⟩ := u_known (C := RX2) (T := TX2) (N := 16) (n := 16) hts mj_uv_1 (hts _ mk_w51)
        exact ⟨(c, i), fun q hq => by cases hq; exact h⟩
      · obtain ⟨c, i, h⟩ := u_known (C := RX3) (T := TX3) (N := 2) (n := 2) hts mj_uv_2 (hts _ mk_w62)
        exact ⟨(c, i), fun q hq => by cases hq; exact h⟩
      · obtain ⟨c, i, h⟩ := u_known (C := RX4) (T := TX4) (N := 3) (n := 3) hts mj_uv_3 (hts _ mk_w68)
        exact ⟨(c, i), fun q hq => by cases hq; exact h⟩
      · obtain ⟨c, i, h⟩ := u_known (C := RX5) (T := TX5) (N := 4) (n := 4) hts mj_uv_4 (hts _ mk_w81)
        exact ⟨(c, i), fun q hq => by cases hq; exact h⟩
      · obtain ⟨c, i, h⟩ := u_known (C := RX6) (T := TX6) (N := 5) (n := 5) hts mj_uv_5 (hts _ mk_w74)
        exact ⟨(c, i), fun q hq => by cases hq; exact h⟩
      · obtain ⟨c, i, h⟩ := u_known (C := RX7) (T := TX7) (N := 10) (n := 10) hts mj_uv_6 (hts _ mk_w116)
        exact ⟨(c, i), fun q hq => by cases hq; exact h⟩
      · obtain ⟨c, i, h⟩ := u_known (C := RX8) (T := TX8) (N := 43) (n := 43) hts mj_uv_7 (hts _ mk_w122)
        exact ⟨(c, i), fun q hq => by cases hq; exact h⟩
    · exact ⟨((0 : Nat), fun _ => 0), fun q hq => absurd (List.getElem?_eq_some_iff.mp hq).1 (by show ¬ k < 8; exact hk)⟩
  obtain ⟨d, hd⟩ := Classical.axiomOfChoice h
  obtain ⟨c0, k0, m0, a1, a2, a3⟩ := Cond.arrayClass_spec (hts _ mk_w8)
  obtain ⟨c1, k1, m1, b1, b2, b3⟩ := Cond.arrayClass_spec (hts _ mk_w19)
  obtain ⟨m2, c2, k2, d1, d2, d3, d4, d5⟩ := Cond.arrayOver_spec hAO
  refine ⟨(fun k => (d k).1, fun k => (d k).2), fun k => if k = 0 then c0 else if k = 1 then c1 else c2, fun k q hq => hd k q hq, fun k q hq => ?_⟩
  have hk : k < 3 := (List.getElem?_eq_some_iff.mp hq).1
  rcases (show k = 0 ∨ k = 1 ∨ k = 2 by omega) with rfl | rfl | rfl
  · cases hq
    exact ⟨fun n z => ⟨fun k h => (by cases h), k0, a2, m0, a3⟩, a1⟩
  · cases hq
    exact ⟨fun n z => ⟨fun k h => (by cases h), k1, b2, m1, b3⟩, b1⟩
  · cases hq
    exact ⟨fun n z => ⟨fun k h => (by cases h), k2, d3, m2, d4⟩, k2, m2, d3, d4, d1, d5⟩
