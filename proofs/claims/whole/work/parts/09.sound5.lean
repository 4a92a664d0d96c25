section
variable {p : Program} {l : Launch} {e : Env} {R : Room} {s : State} {m : MethodId} {args : Array Value} {below : List Frame} {meth : Method} {c : Code} {cells slots : Nat} {QQ : State → Prop}
variable {D : va_G} {cy : Nat → ClassId} {ad : Nat → Nat} {z0 : Value} {cs : mj_S} {A : Nat → Prop} {mid : Nat} {M : mj_M}
variable {pc pc' : Nat} {ls ls' : mj_L} {st st' : List Value} {σ σ' : mj_S} {τ τ' : mj_T}
theorem mj_mtQ {c x t : Nat} (h : mj_lk mj_mtL c x = some t) : Cond.methodLink (mj_own c) x (mj_eT t).1 ∈ mj_tbl ∧ t < mj_law := by
  obtain ⟨p, hp⟩ := mj_allP (f := fun (q : Nat × Nat × Nat) (p : Nat) => mj_inT p (.methodLink (mj_own q.1) q.2.1 (mj_eT q.2.2).1) && decide (q.2.2 < mj_law)) mj_mt_len mj_mt_chk (mj_lk_mem h)
  simp only [Bool.and_eq_true, decide_eq_true_eq] at hp
  exact ⟨mj_inT_mem hp.1, hp.2⟩
theorem mj_eT_e {t : Nat} {Mt : mj_M} (h : mj_e t = some Mt) : mj_eT (mj_base t) = Mt := by
  unfold mj_eT
  rw [List.getD_eq_getElem?_getD, show mj_mL[mj_base t]? = some Mt from h]
  rfl
theorem mj_base_lt {t : Nat} (h : t < mj_law) : mj_base t = t := by
  unfold mj_base
  have h1 : mj_law < 1000 := (by decide)
  rw [if_neg (by omega)]
theorem mj_linkE {c x t t' : Nat} {Mt : mj_M} (hl : mj_lk mj_mtL c x = some t) (hb : t' = t ∧ t ≠ mj_RUN ∨ t = mj_RUN ∧ mj_base t' = mj_RUN) (h : mj_e t' = some Mt) : Cond.methodLink (mj_own c) x Mt.1 ∈ mj_tbl := by
  obtain ⟨h1, h2⟩ := mj_mtQ hl
  rw [← mj_eT_e h]
  rcases hb with ⟨rfl, -⟩ | ⟨rfl, hb⟩
  · rw [mj_base_lt h2]; exact h1
  · rw [hb]; exact h1
theorem mj_nsQ {c x t : Nat} (h : mj_lk mj_nsL c x = some t) : (c, x, t) ∈ mj_nsL ∧ t < mj_law := by
  have h1 := mj_lk_mem h
  refine ⟨h1, ?_⟩
  have h2 : ∀ q ∈ mj_nsL, q.2.2 < mj_law := by decide +kernel
  exact h2 _ h1
def mj_rcv (b kind : Nat) : Bool := if kind = 20 then decide (93 ≤ b) && decide (b < 98) else (match mj_sh b with | some (.inl (c, _)) => c == kind | _ => false)
theorem mj_sound_cl (F : mj_fr p l R s m args meth c cells slots D cy ad z0 cs A mid M) {t np : Nat} {as r : List Value} (hs : mj_stp mid pc ls st σ τ = some (.inr (.inr (t, as, np, r)))) : np = pc + 3 ∧ ∃ (x : Nat) (Mt : mj_M), mj_e t = some Mt ∧ mj_base t ≠ mj_law ∧ 1 ≤ mj_h t ∧ mj_h t < mj_h mid ∧ ¬ 4 < r.length ∧ (mj_lay as).length ≤ Mt.2.2.1 ∧ (mj_lg t = false → ∀ v ∈ as, v.category = 1) ∧
    ((∃ b as', decode c.code pc = .ok (.invokevirtual x, 3) ∧ Cond.methodLink (mj_own M.2.2.2.2.1) x Mt.1 ∈ mj_tbl ∧ as = .ref b :: as' ∧ st = as'.reverse ++ .ref b :: r ∧ as'.length = Mt.2.2.2.2.2.1 ∧ Mt.2.2.2.2.2.2.1 ≠ 30 ∧ mj_rcv b Mt.2.2.2.2.2.2.1 = true) ∨
     (decode c.code pc = .ok (.invokestatic x, 3) ∧ Mt.2.2.2.2.2.2.1 = 30 ∧ st = as.reverse ++ r ∧ as.length = Mt.2.2.2.2.2.1 ∧ (Cond.methodLink (mj_own M.2.2.2.2.1) x Mt.1 ∈ mj_tbl ∨ va_Nw (.methodLinkNest (mj_own M.2.2.2.2.1) x Mt.1 "ChosenBackAtNine") s))) := by
  have hcat : ∀ v : Value, v.category = 1 ∨ v.category = 2 := lv_cat
  obtain ⟨i, raw, n, np', hd, hi, hs⟩ := mj_stpP F hs
  obtain ⟨rfl, rfl, hk⟩ := mj_tr_kd2 hi (mj_kdP hs)
  have stat : ∀ (t' x : Nat), mj_do mid (.invokestatic t') (pc + 3) ls st σ τ = some (.inr (.inr (t, as, np, r))) → decode c.code pc = .ok (.invokestatic x, 3) → (∀ Mt, mj_e t' = some Mt → (Cond.methodLink (mj_own M.2.2.2.2.1) x Mt.1 ∈ mj_tbl ∨ va_Nw (.methodLinkNest (mj_own M.2.2.2.2.1) x Mt.1 "ChosenBackAtNine") s)) → np = pc + 3 ∧ ∃ (x : Nat) (Mt : mj_M), mj_e t = some Mt ∧ mj_base t ≠ mj_law ∧ 1 ≤ mj_h t ∧ mj_h t < mj_h mid ∧ ¬ 4 < r.length ∧ (mj_lay as).length ≤ Mt.2.2.1 ∧ (mj_lg t = false → ∀ v ∈ as, v.category = 1) ∧
     (decode c.code pc = .ok (.invokestatic x, 3) ∧ Mt.2.2.2.2.2.2.1 = 30 ∧ st = as.reverse ++ r ∧ as.length = Mt.2.2.2.2.2.1 ∧ (Cond.methodLink (mj_own M.2.2.2.2.1) x Mt.1 ∈ mj_tbl ∨ va_Nw (.methodLinkNest (mj_own M.2.2.2.2.1) x Mt.1 "ChosenBackAtNine") s)) := by
    intro t' x hs hd hw
    simp only [mj_do] at hs
    split at hs
    · rename_i Mt he
      split at hs
      · cases hs
      · rename_i hc
        simp only [not_or, Decidable.not_not, not_and] at hc
        obtain ⟨c1, c2, c3', c4, c5, c6, c7⟩ := hc
        have c3 : 1 ≤ mj_h t' ∧ mj_h t' < mj_h mid := Decidable.byContradiction (fun z => c3' (fun a b => z ⟨a, b⟩))
        cases hs
        refine ⟨rfl, x, Mt, he, c4, c3.1, c3.2, c5, Nat.le_of_not_lt c6, fun q v hv => ?_, hd, c1, ?_, ?_, hw Mt he⟩
        · have h7 := c7 q
          rcases hcat v with z | z
          · exact z
          · exact absurd (List.any_eq_true.mpr ⟨v, hv, by rw [z]; rfl⟩) h7
        · rw [List.reverse_reverse, List.take_append_drop]
        · rw [List.length_reverse, List.length_take]; omega
    · cases hs
  rcases hk with ⟨x, t0, t', rfl, rfl, hl, hb⟩ | ⟨x, t0, t', rfl, rfl, hl, hb⟩ | ⟨x, t', rfl, rfl, hl⟩
  · simp only [mj_do] at hs
    split at hs
    · rename_i Mt he
      split at hs
      · cases hs
      · rename_i hc
        simp only [not_or, Decidable.not_not, not_and] at hc
        obtain ⟨c1, c2, c3', c4, c5, c6, c7⟩ := hc
        have c3 : 1 ≤ mj_h t' ∧ mj_h t' < mj_h mid := Decidable.byContradiction (fun z => c3' (fun a b => z ⟨a, b⟩))
        split at hs
        · rename_i b as' heq
          obtain ⟨hr, hs⟩ := mj_if hs
          cases hs
          rw [heq] at c6 c7
          refine ⟨rfl, x, Mt, he, c4, c3.1, c3.2, c5, Nat.le_of_not_lt c6, fun q v hv => ?_, Or.inl ⟨b, as', hd, mj_linkE hl hb he, rfl, ?_, ?_, c1, hr⟩⟩
          · have h7 := c7 q
            rcases hcat v with z | z
            · exact z
            · exact absurd (List.any_eq_true.mpr ⟨v, hv, by rw [z]; rfl⟩) h7
          · have h1 := congrArg List.reverse heq
            rw [List.reverse_reverse, List.reverse_cons] at h1
            have h2 := List.take_append_drop (Mt.2.2.2.2.2.1 + 1) st
            rw [h1, List.append_assoc] at h2
            exact h2.symm
          · have h1 := congrArg List.length heq
            rw [List.length_reverse, List.length_take, List.length_cons] at h1
            omega
        · cases hs
    · cases hs
  · obtain ⟨h1, x, Mt, g1, g2, g3, g4, g5, g6, g7, g8⟩ := stat t' x hs hd (fun Mt he => Or.inl (mj_linkE hl hb he))
    exact ⟨h1, x, Mt, g1, g2, g3, g4, g5, g6, g7, Or.inr g8⟩
  · obtain ⟨h1, x, Mt, g1, g2, g3, g4, g5, g6, g7, g8⟩ := stat t' x hs hd (fun Mt he => Or.inr (by
      have h2 := F.2.2.2.2.2.2.2.1.2.2.2.2.2.1 _ (mj_nsQ hl).1
      have h3 := mj_eT_e he
      rw [mj_base_lt (mj_nsQ hl).2] at h3
      rw [← h3]
      exact h2))
    exact ⟨h1, x, Mt, g1, g2, g3, g4, g5, g6, g7, Or.inr g8⟩
/-- the callee's locals -/
theorem mj_cvcat {ad : Nat → Nat} {z0 v : Value} (hz : z0 = .null ∨ ∃ a, z0 = .ref a) : (mj_cv ad z0 v).category = v.category := by
  cases v <;> first | rfl | (rcases hz with rfl | ⟨a, rfl⟩ <;> rfl)
theorem mj_lay_sl {ad : Nat → Nat} {z0 : Value} (hz : z0 = .null ∨ ∃ a, z0 = .ref a) : ∀ as : List Value, (mj_lay as).length = (lg_sl (as.map (mj_cv ad z0))).length ∧ ∀ (i : Nat) (v : Value), (mj_lay as)[i]? = some (some v) → (lg_sl (as.map (mj_cv ad z0)))[i]? = some (.val (mj_cv ad z0 v)) ∧ v ∈ as := by
  intro as
  induction as with
  | nil => exact ⟨rfl, fun i v h => by simp [mj_lay] at h⟩
  | cons a r ih =>
    have e1 : lg_sl ((a :: r).map (mj_cv ad z0)) = (if a.category = 2 then [.val (mj_cv ad z0 a), .second] else [.val (mj_cv ad z0 a)]) ++ lg_sl (r.map (mj_cv ad z0)) := by
      simp only [lg_sl, List.map_cons, List.flatMap_cons, mj_cvcat hz]
    rw [e1]
    unfold mj_lay
    by_cases h2 : a.category = 2
    · rw [if_pos h2, if_pos h2]
      refine ⟨by simp [ih.1], fun i v h => ?_⟩
      match i, h with
      | 0, h => simp at h; subst h; exact ⟨rfl, List.mem_cons_self⟩
      | 1, h => simp at h
      | i + 2, h =>
        simp only [List.getElem?_cons_succ] at h
        obtain ⟨q1, q2⟩ := ih.2 i v h
        exact ⟨by simpa using q1, List.mem_cons_of_mem _ q2⟩
    · rw [if_neg h2, if_neg h2]
      refine ⟨by simp [ih.1], fun i v h => ?_⟩
      match i, h with
      | 0, h => simp at h; subst h; exact ⟨rfl, List.mem_cons_self⟩
      | i + 1, h =>
        simp only [List.getElem?_cons_succ] at h
        obtain ⟨q1, q2⟩ := ih.2 i v h
        exact ⟨by simpa using q1, List.mem_cons_of_mem _ q2⟩
theorem mj_ent_lr {ad : Nat → Nat} {z0 : Value} (hz : z0 = .null ∨ ∃ a, z0 = .ref a) {as : List Value} {n : Nat} (h : (mj_lay as).length ≤ n) : mj_lr ad z0 ((lg_sl (as.map (mj_cv ad z0)) ++ List.replicate (n - (lg_sl (as.map (mj_cv ad z0))).length) Slot.unset).toArray) (mj_ent n as) ∧ (mj_ent n as).length = n ∧ ∀ (i : Nat) (v : Value), (mj_ent n as)[i]? = some (some v) → v ∈ as := by
  obtain ⟨h1, h2⟩ := mj_lay_sl (ad := ad) hz as
  have hl := lv_entry (as.map (mj_cv ad z0)) (n := n) (by rw [← h1]; exact h)
  have hlen : (mj_ent n as).length = n := by unfold mj_ent; rw [List.length_append, List.length_replicate]; omega
  have key : ∀ (i : Nat) (v : Value), (mj_ent n as)[i]? = some (some v) → (mj_lay as)[i]? = some (some v) := by
    intro i v hv
    unfold mj_ent at hv
    by_cases hi : i < (mj_lay as).length
    · rwa [List.getElem?_append_left hi] at hv
    · rw [List.getElem?_append_right (by omega), List.getElem?_replicate] at hv
      split at hv <;> cases hv
  refine ⟨⟨by rw [hlen]; exact hl.1, hl.2.1, fun i v hv => ?_⟩, hlen, fun i v hv => (h2 i v (key i v hv)).2⟩
  have h3 := (h2 i v (key i v hv)).1
  rw [List.getElem?_toArray, List.getElem?_append_left (List.getElem?_eq_some_iff.mp h3).1]
  exact h3
end
