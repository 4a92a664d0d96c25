/-! THE FIRST MEMORY, behind the constructors -/
def mk_z : Nat → Int32 := fun _ => 0
def mk_l (L : List Int32) : Nat → Int32 := fun j => L.getD j 0
def mk_tb : List (Nat → Int32) := (mk_l [0, 0, 0, 0, 0, 0, 0, 0, 0, -1] ::
  mk_l [0, 0, 0, 0, 1] ::
  mk_l [0, 0, 0, 0, 1] ::
  mk_l [0, 0, 0, 0, 1] ::
  mk_l [-1, -1, -1, 0] ::
  mk_l [-1, -1, -1, 0] ::
  mk_l [-1, -1, -1, 0] ::
  mk_z ::
  mk_z ::
  mk_l [-1, 0, 0] ::
  mk_z ::
  mk_z ::
  mk_z ::
  mk_z ::
  mk_z ::
  mk_z ::
  mk_z ::
  mk_z ::
  mk_z ::
  mk_z ::
  mk_z ::
  mk_z ::
  mk_z ::
  mk_z ::
  mk_z ::
  mk_z ::
  mk_z ::
  mk_z ::
  mk_z ::
  mk_z ::
  mk_z ::
  mk_z ::
  mk_z ::
  mk_z ::
  mk_z ::
  mk_z ::
  mk_z ::
  mk_z ::
  mk_z ::
  mk_z ::
  mk_l [-1, -1, 0] ::
  mk_l [-1, -1, 0] ::
  mk_l [-1, -1, 0] ::
  mk_l [-1, -1, 0] ::
  mk_l [-1, -1, 0] ::
  mk_l [-1, -1, 0] ::
  mk_l [-1, -1, 0] ::
  mk_l [-1, -1, 0] ::
  mk_z ::
  mk_z ::
  mk_z ::
  mk_z ::
  mk_z ::
  mk_z ::
  mk_z ::
  mk_z ::
  mk_z ::
  mk_z ::
  mk_z ::
  mk_l [0, 0, -1, 0, 0] ::
  mk_z ::
  mk_z ::
  mk_l [0, 0, 0, 0, 1, -1] ::
  mk_z ::
  mk_z ::
  mk_z ::
  mk_z ::
  mk_z ::
  mk_z ::
  mk_z ::
  mk_z ::
  mk_z ::
  mk_z ::
  mk_z ::
  mk_z ::
  mk_z ::
  mk_z ::
  mk_z ::
  mk_z ::
  mk_z ::
  mk_wv mk_L0 32 ::
  mk_wv mk_L1 5 ::
  mk_wv mk_L2 4 ::
  mk_z ::
  mk_z ::
  mk_z ::
  mk_z ::
  mk_z ::
  mk_z ::
  mk_z :: [] : List (Nat → Int32))
def mk_cs (L : Nat) (xs : Nat → Int32) : mj_S := fun k => if k = 98 then xs else if k = 99 then (fun _ => nI L) else fun j => (mj_sc.getD (k - 90) []).getD j 0
def mk_σ (L : Nat) (xs : Nat → Int32) : mj_S := fun k => mk_tb.getD k (mk_cs L xs k)
def mk_τ : mj_T := fun _ _ => 0
def mk_π : Nat → Nat → Int32 := fun j i => if j < 10 then 0 else if i < 5 then mk_l [0, 0, 0, 0, 1] i else 0
def mk_A : mj_A := (mk_π, fun _ => 0, -1, none, fun _ _ => 0, fun _ _ => 0, 0, fun _ => 0)
theorem mk_tblen : mk_tb.length = 90 := by decide +kernel
theorem mk_σ9 {L : Nat} {xs : Nat → Int32} {k : Nat} (h : 90 ≤ k) : mk_σ L xs k = mk_cs L xs k := by
  unfold mk_σ
  rw [List.getD_eq_getElem?_getD, List.getElem?_eq_none_iff.mpr (by rw [mk_tblen]; exact h)]
  rfl
theorem mk_pv {B O : Nat} {σ : mj_S} (h1 : ∀ j, j < 10 → σ (B + j) = fun _ => 0) (h2 : ∀ i, i < 5 → σ O i = mk_l [0, 0, 0, 0, 1] i) : mj_pv B O σ = mk_π := by
  funext j i
  unfold mj_pv mk_π
  split
  · rename_i hj; rw [h1 j hj]
  · split
    · rename_i hi; exact h2 i hi
    · rfl
theorem mk_pvs {L : Nat} {xs : Nat → Int32} : mj_pv (10 * 1) 1 (mk_σ L xs) = mk_π ∧ mj_pv (10 * 2) 2 (mk_σ L xs) = mk_π ∧ mj_pv (10 * 3) 3 (mk_σ L xs) = mk_π ∧ mj_pv 64 62 (mk_σ L xs) = mk_π := by
  refine ⟨mk_pv (fun j hj => ?_) (fun i hi => rfl), mk_pv (fun j hj => ?_) (fun i hi => rfl), mk_pv (fun j hj => ?_) (fun i hi => rfl), mk_pv (fun j hj => ?_) (fun i hi => ?_)⟩
  · rcases (show j = 0 ∨ j = 1 ∨ j = 2 ∨ j = 3 ∨ j = 4 ∨ j = 5 ∨ j = 6 ∨ j = 7 ∨ j = 8 ∨ j = 9 by omega) with rfl | rfl | rfl | rfl | rfl | rfl | rfl | rfl | rfl | rfl <;> rfl
  · rcases (show j = 0 ∨ j = 1 ∨ j = 2 ∨ j = 3 ∨ j = 4 ∨ j = 5 ∨ j = 6 ∨ j = 7 ∨ j = 8 ∨ j = 9 by omega) with rfl | rfl | rfl | rfl | rfl | rfl | rfl | rfl | rfl | rfl <;> rfl
  · rcases (show j = 0 ∨ j = 1 ∨ j = 2 ∨ j = 3 ∨ j = 4 ∨ j = 5 ∨ j = 6 ∨ j = 7 ∨ j = 8 ∨ j = 9 by omega) with rfl | rfl | rfl | rfl | rfl | rfl | rfl | rfl | rfl | rfl <;> rfl
  · rcases (show j = 0 ∨ j = 1 ∨ j = 2 ∨ j = 3 ∨ j = 4 ∨ j = 5 ∨ j = 6 ∨ j = 7 ∨ j = 8 ∨ j = 9 by omega) with rfl | rfl | rfl | rfl | rfl | rfl | rfl | rfl | rfl | rfl <;> rfl
  · rcases (show i = 0 ∨ i = 1 ∨ i = 2 ∨ i = 3 ∨ i = 4 by omega) with rfl | rfl | rfl | rfl | rfl <;> rfl
theorem mk_to0 {n : Nat} : mj_to 0 n := ⟨0, Nat.zero_le _, rfl⟩
theorem mk_wf : mj_wf mk_π 0 0 := by
  have z : ∀ j i, j < 10 → mk_π j i = 0 := fun j i h => by unfold mk_π; rw [if_pos h]
  have t : ∀ j i n, j < 10 → mj_to (mk_π j i) n := fun j i n h => by rw [z j i h]; exact mk_to0
  refine ⟨⟨by decide, by decide, rfl, rfl, mk_to0⟩, fun g _ => ⟨t _ _ _ (by decide), t _ _ _ (by decide), t _ _ _ (by decide), t _ _ _ (by decide), t _ _ _ (by decide)⟩, fun c _ => ⟨t _ _ _ (by decide), t _ _ _ (by decide), t _ _ _ (by decide), t _ _ _ (by decide)⟩, fun i _ => t _ _ _ (by decide), fun c h => absurd h (Nat.not_lt_zero c), ?_⟩
  refine ⟨fun g _ _ => ⟨z _ _ (by decide), fun c _ => z _ _ (by decide)⟩, fun c _ _ => ⟨z _ _ (by decide), fun g _ => z _ _ (by decide)⟩, fun j i h _ => z j i h, fun j i h => ?_⟩
  unfold mk_π
  rw [if_neg (by omega), if_neg (by decide : ¬ (10 : Nat) < 10)]
  by_cases hi : i < 5
  · rw [if_pos hi, if_pos hi]
  · rw [if_neg hi, if_neg hi]
theorem mk_IX {L : Nat} {xs : Nat → Int32} : mj_IX (mk_σ L xs) mk_τ mk_A 0 0 := by
  refine ⟨mk_wf, mk_pvs.1, fun s _ => Or.inl rfl, ⟨0, 0, by rw [mk_pvs.2.1]; exact mk_wf⟩, ⟨0, 0, by rw [mk_pvs.2.2.1]; exact mk_wf⟩, rfl, rfl, Or.inl ⟨rfl, rfl⟩, fun s hs => Or.inl ?_, fun s _ i _ => rfl, rfl, mk_to0, rfl, fun j _ => rfl, fun j _ => rfl, fun j _ => rfl⟩
  rcases (show s = 0 ∨ s = 1 ∨ s = 2 ∨ s = 3 ∨ s = 4 ∨ s = 5 ∨ s = 6 ∨ s = 7 by omega) with rfl | rfl | rfl | rfl | rfl | rfl | rfl | rfl <;> exact ⟨rfl, rfl, rfl, rfl⟩
theorem mk_ne01 : (nI 0 : Int32) ≠ nI 1 ∧ (nI 0 : Int32) ≠ nI 2 := by decide
theorem mk_IM {L : Nat} {xs : Nat → Int32} : mj_IM (mk_σ L xs) mk_τ mk_A 0 0 := by
  refine ⟨mk_wf, mk_pvs.2.2.2, fun s _ => Or.inl rfl, rfl, rfl, Or.inl ⟨rfl, rfl⟩, fun s _ => ⟨rfl, fun h => absurd h mk_ne01.1, fun h => absurd h mk_ne01.2⟩, fun s _ i _ => rfl, rfl, mk_to0, rfl, fun i hi => ?_, fun i hi => ?_, fun i hi => ?_⟩
  · show (if i < 32 then mk_L0.getD i 0 else 0) = _
    rw [if_pos hi]; rfl
  · show (if i < 5 then mk_L1.getD i 0 else 0) = _
    rw [if_pos hi]; rfl
  · show (if i < 4 then mk_L2.getD i 0 else 0) = _
    rw [if_pos hi]; rfl
