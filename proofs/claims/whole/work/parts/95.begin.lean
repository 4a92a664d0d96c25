/-! THE START: what the Statement says of the class's own tables, of the words, of the script -/
set_option maxHeartbeats 8000000 in
set_option maxRecDepth 100000 in
theorem mk_sf {s : State} {b L : Nat} {xs : Nat → Int32} (hL : L ≤ 3072) (hts : ∀ w ∈ lw_tbl, w.before #[Value.ref b] s = true) (hX : va_X b L xs s s.heap) (hbl : b < s.heap.size) (hgv : (Jvm.Cond.and given_1 narrow_1).before #[Value.ref b] s = true) :
    ∃ (T : Nat → Nat) (z0 : Value), ∀ ad : Nat → Nat, (∀ k, 90 ≤ k → ad k = T k) → mj_sf ad z0 (mk_cs L xs) (fun q => s.heap.size ≤ q) s s.heap ∧ ad 98 = b := by
  have hs := flat_of_before _ hgv
  have hA : ∀ a : Nat, a < s.heap.size → ¬ (fun q : Nat => s.heap.size ≤ q) a := fun a h => Nat.not_le.mpr h
  have el90 : ∀ j : Nat, j < 7 → (Term.elem (Term.static "ChosenBackAtNine$Kinds" "ABOVE" "[I") (.int (Int32.ofNat j))).eval #[Value.ref b] s none [] s = some (.int ((mj_sc.getD 0 []).getD j 0)) := by
    intro j hj
    rcases (show j = 0 ∨ j = 1 ∨ j = 2 ∨ j = 3 ∨ j = 4 ∨ j = 5 ∨ j = 6 by omega) with rfl | rfl | rfl | rfl | rfl | rfl | rfl <;> exact va_eqt (hs _ (by decide +kernel))
  obtain ⟨t90, ht90, hT90⟩ := va_Tof (tm := (Term.static "ChosenBackAtNine$Kinds" "ABOVE" "[I")) (ty := .int) (N := 7) (f := fun j => .int ((mj_sc.getD 0 []).getD j 0)) (by decide) (hs _ (by decide +kernel)) (va_eqt (z := Int32.ofNat 7) (hs _ (by decide +kernel))) el90 hA
  have hZ90 := va_Zof (hts (.laysStatic "ChosenBackAtNine$Kinds" "ABOVE" "[I") (List.mem_of_getElem? (i := 403) (by decide +kernel))) (hts (.initialized "ChosenBackAtNine$Kinds") (List.mem_of_getElem? (i := 82) (by decide +kernel))) ht90 hA
  have el91 : ∀ j : Nat, j < 21 → (Term.elem (Term.static "ChosenBackAtNine$Stage" "BODIES" "[I") (.int (Int32.ofNat j))).eval #[Value.ref b] s none [] s = some (.int ((mj_sc.getD 1 []).getD j 0)) := by
    intro j hj
    rcases (show j = 0 ∨ j = 1 ∨ j = 2 ∨ j = 3 ∨ j = 4 ∨ j = 5 ∨ j = 6 ∨ j = 7 ∨ j = 8 ∨ j = 9 ∨ j = 10 ∨ j = 11 ∨ j = 12 ∨ j = 13 ∨ j = 14 ∨ j = 15 ∨ j = 16 ∨ j = 17 ∨ j = 18 ∨ j = 19 ∨ j = 20 by omega) with rfl | rfl | rfl | rfl | rfl | rfl | rfl | rfl | rfl | rfl | rfl | rfl | rfl | rfl | rfl | rfl | rfl | rfl | rfl | rfl | rfl <;> exact va_eqt (hs _ (by decide +kernel))
  obtain ⟨t91, ht91, hT91⟩ := va_Tof (tm := (Term.static "ChosenBackAtNine$Stage" "BODIES" "[I")) (ty := .int) (N := 21) (f := fun j => .int ((mj_sc.getD 1 []).getD j 0)) (by decide) (hs _ (by decide +kernel)) (va_eqt (z := Int32.ofNat 21) (hs _ (by decide +kernel))) el91 hA
  have hZ91 := va_Zof (hts (.laysStatic "ChosenBackAtNine$Stage" "BODIES" "[I") (List.mem_of_getElem? (i := 843) (by decide +kernel))) (hts (.initialized "ChosenBackAtNine$Stage") (List.mem_of_getElem? (i := 78) (by decide +kernel))) ht91 hA
  have el92 : ∀ j : Nat, j < 5 → (Term.elem (Term.static "ChosenBackAtNine$Reader" "HOW_MANY_NUMBERS" "[I") (.int (Int32.ofNat j))).eval #[Value.ref b] s none [] s = some (.int ((mj_sc.getD 2 []).getD j 0)) := by
    intro j hj
    rcases (show j = 0 ∨ j = 1 ∨ j = 2 ∨ j = 3 ∨ j = 4 by omega) with rfl | rfl | rfl | rfl | rfl <;> exact va_eqt (hs _ (by decide +kernel))
  obtain ⟨t92, ht92, hT92⟩ := va_Tof (tm := (Term.static "ChosenBackAtNine$Reader" "HOW_MANY_NUMBERS" "[I")) (ty := .int) (N := 5) (f := fun j => .int ((mj_sc.getD 2 []).getD j 0)) (by decide) (hs _ (by decide +kernel)) (va_eqt (z := Int32.ofNat 5) (hs _ (by decide +kernel))) el92 hA
  have hZ92 := va_Zof (hts (.laysStatic "ChosenBackAtNine$Reader" "HOW_MANY_NUMBERS" "[I") (List.mem_of_getElem? (i := 597) (by decide +kernel))) (hts (.initialized "ChosenBackAtNine$Reader") (List.mem_of_getElem? (i := 77) (by decide +kernel))) ht92 hA
  have hZ1 := va_Zof (hts (.laysStatic "java/lang/String" "COMPACT_STRINGS" "Z") (List.mem_of_getElem? (i := 541) (by decide +kernel))) (hts (.initialized "java/lang/String") (List.mem_of_getElem? (i := 84) (by decide +kernel))) (va_eqi (z := 1) (hs _ (by decide +kernel))) hA
  have hZ2 := va_Zqof (hts (.laysStatic "jdk/internal/util/Preconditions" "SIOOBE_FORMATTER" "Ljava/util/function/BiFunction;") (List.mem_of_getElem? (i := 563) (by decide +kernel))) (hts (.initialized "jdk/internal/util/Preconditions") (List.mem_of_getElem? (i := 86) (by decide +kernel))) (hs _ (by decide +kernel)) hA
  obtain ⟨z0, hz0, hZ2⟩ : ∃ z0 : Value, (z0 = .null ∨ ∃ a, z0 = .ref a) ∧ va_Z "jdk/internal/util/Preconditions" "SIOOBE_FORMATTER" "Ljava/util/function/BiFunction;" z0 (fun q => s.heap.size ≤ q) s s.heap := by
    rcases hZ2 with h | ⟨t, h⟩
    · exact ⟨_, Or.inl rfl, h⟩
    · exact ⟨_, Or.inr ⟨t, rfl⟩, h⟩
  have hel : ∀ i : Nat, i < 5 → ∀ j : Nat, j < ([5, 5, 4, 3, 5] : List Nat).getD i 0 → (Cond.eq (.elem (.field (.string "ChosenBackAtNine$Reader" (89 + 2 * i)) "java/lang/String" "value" "[B") (.int (Int32.ofNat j))) (.int ((mj_tx.getD i []).getD j 0))).before #[Value.ref b] s = true := by
    intro i hi
    rcases (show i = 0 ∨ i = 1 ∨ i = 2 ∨ i = 3 ∨ i = 4 by omega) with rfl | rfl | rfl | rfl | rfl
    · intro j hj
      have hj : j < 5 := hj
      rcases (show j = 0 ∨ j = 1 ∨ j = 2 ∨ j = 3 ∨ j = 4 by omega) with rfl | rfl | rfl | rfl | rfl <;> exact hs _ (by decide +kernel)
    · intro j hj
      have hj : j < 5 := hj
      rcases (show j = 0 ∨ j = 1 ∨ j = 2 ∨ j = 3 ∨ j = 4 by omega) with rfl | rfl | rfl | rfl | rfl <;> exact hs _ (by decide +kernel)
    · intro j hj
      have hj : j < 4 := hj
      rcases (show j = 0 ∨ j = 1 ∨ j = 2 ∨ j = 3 by omega) with rfl | rfl | rfl | rfl <;> exact hs _ (by decide +kernel)
    · intro j hj
      have hj : j < 3 := hj
      rcases (show j = 0 ∨ j = 1 ∨ j = 2 by omega) with rfl | rfl | rfl <;> exact hs _ (by decide +kernel)
    · intro j hj
      have hj : j < 5 := hj
      rcases (show j = 0 ∨ j = 1 ∨ j = 2 ∨ j = 3 ∨ j = 4 by omega) with rfl | rfl | rfl | rfl | rfl <;> exact hs _ (by decide +kernel)
  have hne : ∀ i j : Nat, i < 5 → j < 5 → i ≠ j → (Cond.not (Cond.eq (.string "ChosenBackAtNine$Reader" (89 + 2 * i)) (.string "ChosenBackAtNine$Reader" (89 + 2 * j)))).before #[Value.ref b] s = true ∨ (Cond.not (Cond.eq (.string "ChosenBackAtNine$Reader" (89 + 2 * j)) (.string "ChosenBackAtNine$Reader" (89 + 2 * i)))).before #[Value.ref b] s = true := by
    intro i j hi hj hij
    rcases (show i = 0 ∨ i = 1 ∨ i = 2 ∨ i = 3 ∨ i = 4 by omega) with rfl | rfl | rfl | rfl | rfl <;> rcases (show j = 0 ∨ j = 1 ∨ j = 2 ∨ j = 3 ∨ j = 4 by omega) with rfl | rfl | rfl | rfl | rfl <;> first | exact absurd rfl hij | exact Or.inl (hs _ (by decide +kernel)) | exact Or.inr (hs _ (by decide +kernel))
  obtain ⟨adK, adV, hSt, hRf⟩ := vk_Sof (N := 5) (tm := fun i => .string "ChosenBackAtNine$Reader" (89 + 2 * i)) (len := [5, 5, 4, 3, 5]) (byt := mj_tx) (A := fun q => s.heap.size ≤ q) (s := s) (args := #[Value.ref b]) (fun i hi => by rcases (show i = 0 ∨ i = 1 ∨ i = 2 ∨ i = 3 ∨ i = 4 by omega) with rfl | rfl | rfl | rfl | rfl <;> decide) (fun i hi => by rcases (show i = 0 ∨ i = 1 ∨ i = 2 ∨ i = 3 ∨ i = 4 by omega) with rfl | rfl | rfl | rfl | rfl <;> exact hs _ (by decide +kernel)) (fun i hi => by rcases (show i = 0 ∨ i = 1 ∨ i = 2 ∨ i = 3 ∨ i = 4 by omega) with rfl | rfl | rfl | rfl | rfl <;> exact hs _ (by decide +kernel)) (fun i hi => by rcases (show i = 0 ∨ i = 1 ∨ i = 2 ∨ i = 3 ∨ i = 4 by omega) with rfl | rfl | rfl | rfl | rfl <;> exact hs _ (by decide +kernel)) (fun i hi => by rcases (show i = 0 ∨ i = 1 ∨ i = 2 ∨ i = 3 ∨ i = 4 by omega) with rfl | rfl | rfl | rfl | rfl <;> exact hs _ (by decide +kernel)) hel hne hA
  refine ⟨fun k => if k = 90 then t90 else if k = 91 then t91 else if k = 92 then t92 else if k = 98 then b else if k < 98 then adK (k - 93) else adV (k - 100), z0, fun ad had => ?_⟩
  have e90 : ad 90 = t90 := had 90 (by decide)
  have e91 : ad 91 = t91 := had 91 (by decide)
  have e92 : ad 92 = t92 := had 92 (by decide)
  have e98 : ad 98 = b := had 98 (by decide)
  have eK : ∀ i, i < 5 → ad (93 + i) = adK i := by
    intro i hi
    rw [had _ (by omega)]
    dsimp only
    rw [if_neg (by omega), if_neg (by omega), if_neg (by omega), if_neg (by omega), if_pos (by omega), Nat.add_sub_cancel_left]
  have eV : ∀ i, i < 5 → ad (100 + i) = adV i := by
    intro i hi
    rw [had _ (by omega)]
    dsimp only
    rw [if_neg (by omega), if_neg (by omega), if_neg (by omega), if_neg (by omega), if_neg (by omega), Nat.add_sub_cancel_left]
  refine ⟨⟨?_, hZ1, hZ2, ?_, ⟨?_, ?_⟩, ?_, ⟨?_, ?_, ?_⟩, hz0⟩, e98⟩
  · intro q hq
    rcases hq with rfl | rfl | rfl
    · rw [e90]; exact ⟨hZ90, hT90⟩
    · rw [e91]; exact ⟨hZ91, hT91⟩
    · rw [e92]; exact ⟨hZ92, hT92⟩
  · intro q hq
    simp only [mj_csL, List.mem_cons, List.not_mem_nil, or_false] at hq
    rcases hq with rfl | rfl | rfl | rfl | rfl
    · exact vk_R.of (A := #[Value.ref b]) (hts (.stringRef "ChosenBackAtNine$Reader" 89 "grown") (List.mem_of_getElem? (i := 523) (by decide +kernel))) ((hRf 0 (by decide)).trans (congrArg (fun a => some (Value.ref a)) (eK 0 (by decide)).symm))
    · exact vk_R.of (A := #[Value.ref b]) (hts (.stringRef "ChosenBackAtNine$Reader" 91 "child") (List.mem_of_getElem? (i := 524) (by decide +kernel))) ((hRf 1 (by decide)).trans (congrArg (fun a => some (Value.ref a)) (eK 1 (by decide)).symm))
    · exact vk_R.of (A := #[Value.ref b]) (hts (.stringRef "ChosenBackAtNine$Reader" 93 "gift") (List.mem_of_getElem? (i := 525) (by decide +kernel))) ((hRf 2 (by decide)).trans (congrArg (fun a => some (Value.ref a)) (eK 2 (by decide)).symm))
    · exact vk_R.of (A := #[Value.ref b]) (hts (.stringRef "ChosenBackAtNine$Reader" 95 "age") (List.mem_of_getElem? (i := 526) (by decide +kernel))) ((hRf 3 (by decide)).trans (congrArg (fun a => some (Value.ref a)) (eK 3 (by decide)).symm))
    · exact vk_R.of (A := #[Value.ref b]) (hts (.stringRef "ChosenBackAtNine$Reader" 97 "flood") (List.mem_of_getElem? (i := 527) (by decide +kernel))) ((hRf 4 (by decide)).trans (congrArg (fun a => some (Value.ref a)) (eK 4 (by decide)).symm))
  · intro i hi
    dsimp only
    rw [eK i hi, eV i hi]
    exact hSt.1 i hi
  · intro i j hi hj e
    dsimp only at e
    rw [eK i hi, eK j hj] at e
    exact hSt.2 i j hi hj e
  · intro q hq
    simp only [mj_nsL, List.mem_cons, List.not_mem_nil, or_false] at hq
    subst hq
    exact va_Nw.of rfl (hts (.methodLinkNest "ChosenBackAtNine$Kinds" 11 ⟨"ChosenBackAtNine", "isWithin", "(II)Z"⟩ "ChosenBackAtNine") (List.mem_of_getElem? (i := 394) (by decide +kernel)))
  · rw [e98]
    have h1 : (mk_cs L xs 99 0).toNatClampNeg = L := nI_clamp (by omega)
    rw [h1]
    exact hX
  · rw [e98]; exact hbl
  · rw [e98]; exact Nat.not_le.mpr hbl
