section
variable {p : Program} {l : Launch} {e : Env} {R : Room} {s : State} {m : MethodId} {args : Array Value} {below : List Frame} {meth : Method} {c : Code} {cells slots : Nat} {QQ : State → Prop}
variable {D : va_G} {cy : Nat → ClassId} {ad : Nat → Nat} {z0 : Value} {cs : mj_S} {A : Nat → Prop} {mid : Nat} {M : mj_M}
variable {pc pc' : Nat} {ls ls' : mj_L} {st st' : List Value} {σ σ' : mj_S} {τ τ' : mj_T}
theorem mj_if {α : Type} {q : Prop} [Decidable q] {a b : α} (h : (if q then some a else none) = some b) : q ∧ a = b := by
  split at h
  · rename_i hq; exact ⟨hq, Option.some.inj h⟩
  · cases h
theorem mj_tgP {pc : Nat} {o : Int} {α : Type} {f : Int → α} {b : α} (h : (mj_tg pc o).map f = some b) : 0 ≤ (pc : Int) + o ∧ f ((pc : Int) + o) = b := by
  obtain ⟨t, e1, e2⟩ := Option.map_eq_some_iff.mp h
  obtain ⟨h0, rfl⟩ := mj_if e1
  exact ⟨h0, e2⟩
theorem mj_noret_ireturn {mid : Nat} {ls : mj_L} {st : List Value} {σ : mj_S} {τ : mj_T} (np : Nat) (x : Nat × mj_L × List Value × mj_S × mj_T) : mj_do mid .ireturn np ls st σ τ ≠ some (.inl x) := by
  intro h
  simp only [mj_do] at h
  split at h
  all_goals first | (cases h; done) | (split at h <;> cases h)
theorem mj_noret_lreturn {mid : Nat} {ls : mj_L} {st : List Value} {σ : mj_S} {τ : mj_T} (np : Nat) (x : Nat × mj_L × List Value × mj_S × mj_T) : mj_do mid .lreturn np ls st σ τ ≠ some (.inl x) := by
  intro h
  simp only [mj_do] at h
  split at h
  all_goals first | (cases h; done) | (split at h <;> cases h)
theorem mj_noret_areturn {mid : Nat} {ls : mj_L} {st : List Value} {σ : mj_S} {τ : mj_T} (np : Nat) (x : Nat × mj_L × List Value × mj_S × mj_T) : mj_do mid .areturn np ls st σ τ ≠ some (.inl x) := by
  intro h
  simp only [mj_do] at h
  split at h
  all_goals first | (cases h; done) | (split at h <;> cases h)
theorem mj_noret_return_ {mid : Nat} {ls : mj_L} {st : List Value} {σ : mj_S} {τ : mj_T} (np : Nat) (x : Nat × mj_L × List Value × mj_S × mj_T) : mj_do mid .return_ np ls st σ τ ≠ some (.inl x) := by
  intro h
  simp only [mj_do] at h
  split at h
  all_goals first | (cases h; done) | (split at h <;> cases h)
theorem mj_nocall_invokevirtual {mid t : Nat} {ls : mj_L} {st : List Value} {σ : mj_S} {τ : mj_T} (np : Nat) (x : Nat × mj_L × List Value × mj_S × mj_T) : mj_do mid (.invokevirtual t) np ls st σ τ ≠ some (.inl x) := by
  intro h
  simp only [mj_do] at h
  split at h
  · split at h
    · cases h
    · split at h
      · obtain ⟨-, q⟩ := mj_if h
        cases q
      · cases h
  · cases h
theorem mj_nocall_invokestatic {mid t : Nat} {ls : mj_L} {st : List Value} {σ : mj_S} {τ : mj_T} (np : Nat) (x : Nat × mj_L × List Value × mj_S × mj_T) : mj_do mid (.invokestatic t) np ls st σ τ ≠ some (.inl x) := by
  intro h
  simp only [mj_do] at h
  split at h
  · split at h
    · cases h
    · cases h
  · cases h
theorem mj_nocall_invokespecial {mid t : Nat} {ls : mj_L} {st : List Value} {σ : mj_S} {τ : mj_T} (np : Nat) (x : Nat × mj_L × List Value × mj_S × mj_T) : mj_do mid (.invokespecial t) np ls st σ τ ≠ some (.inl x) := by
  intro h
  simp only [mj_do] at h
  split at h
  · split at h
    · cases h
    · cases h
  · cases h
theorem mj_ifm {α : Type} {q : Prop} [Decidable q] {a : Option α} {b : α} (h : (if q then a else none) = some b) : q ∧ a = some b := by
  split at h
  · rename_i hq; exact ⟨hq, h⟩
  · cases h
/-- what mj_stp rests on -/
theorem mj_stpP (F : mj_fr p l R s m args meth c cells slots D cy ad z0 cs A mid M) {x : mj_O} (hs : mj_stp mid pc ls st σ τ = some x) : ∃ (i raw : Instr) (n np : Nat), decode c.code pc = .ok (raw, n) ∧ mj_tr mid M.2.2.2.2.1 pc n raw = some (i, np) ∧ mj_do mid i np ls st σ τ = some x := by
  unfold mj_stp at hs
  split at hs
  · rename_i i np hi
    unfold mj_ins at hi
    rw [F.1] at hi
    dsimp only at hi
    split at hi
    · rename_i raw n hd
      exact ⟨i, raw, n, np, by rw [F.2.2.1]; exact hd, hi, hs⟩
    · cases hi
  · cases hs
set_option maxHeartbeats 4000000 in
theorem mj_sound_nx (F : mj_fr p l R s m args meth c cells slots D cy ad z0 cs A mid M) (hs : mj_stp mid pc ls st σ τ = some (.inl (pc', ls', st', σ', τ'))) (k : mj_W p l e R s m args below meth c cells slots D cy ad z0 cs A QQ mid pc' ls' st' σ' τ') : mj_W p l e R s m args below meth c cells slots D cy ad z0 cs A QQ mid pc ls st σ τ := by
  obtain ⟨i, raw, n, np, hd, hi, hs⟩ := mj_stpP F hs
  cases raw with
    | iadd =>
      obtain ⟨rfl, hx⟩ := mj_if hi
      cases hx
      exact mj_s_iadd F hd hs k
    | isub =>
      obtain ⟨rfl, hx⟩ := mj_if hi
      cases hx
      exact mj_s_isub F hd hs k
    | imul =>
      obtain ⟨rfl, hx⟩ := mj_if hi
      cases hx
      exact mj_s_imul F hd hs k
    | idiv =>
      obtain ⟨rfl, hx⟩ := mj_if hi
      cases hx
      exact mj_s_idiv F hd hs k
    | irem =>
      obtain ⟨rfl, hx⟩ := mj_if hi
      cases hx
      exact mj_s_irem F hd hs k
    | ineg =>
      obtain ⟨rfl, hx⟩ := mj_if hi
      cases hx
      exact mj_s_ineg F hd hs k
    | iand =>
      obtain ⟨rfl, hx⟩ := mj_if hi
      cases hx
      exact mj_s_iand F hd hs k
    | ior =>
      obtain ⟨rfl, hx⟩ := mj_if hi
      cases hx
      exact mj_s_ior F hd hs k
    | ixor =>
      obtain ⟨rfl, hx⟩ := mj_if hi
      cases hx
      exact mj_s_ixor F hd hs k
    | ishl =>
      obtain ⟨rfl, hx⟩ := mj_if hi
      cases hx
      exact mj_s_ishl F hd hs k
    | ishr =>
      obtain ⟨rfl, hx⟩ := mj_if hi
      cases hx
      exact mj_s_ishr F hd hs k
    | iushr =>
      obtain ⟨rfl, hx⟩ := mj_if hi
      cases hx
      exact mj_s_iushr F hd hs k
    | i2l =>
      obtain ⟨rfl, hx⟩ := mj_if hi
      cases hx
      exact mj_s_i2l F hd hs k
    | l2i =>
      obtain ⟨rfl, hx⟩ := mj_if hi
      cases hx
      exact mj_s_l2i F hd hs k
    | i2b =>
      obtain ⟨rfl, hx⟩ := mj_if hi
      cases hx
      exact mj_s_i2b F hd hs k
    | i2s =>
      obtain ⟨rfl, hx⟩ := mj_if hi
      cases hx
      exact mj_s_i2s F hd hs k
    | i2c =>
      obtain ⟨rfl, hx⟩ := mj_if hi
      cases hx
      exact mj_s_i2c F hd hs k
    | land =>
      obtain ⟨rfl, hx⟩ := mj_if hi
      cases hx
      exact mj_s_land F hd hs k
    | lor =>
      obtain ⟨rfl, hx⟩ := mj_if hi
      cases hx
      exact mj_s_lor F hd hs k
    | lcmp =>
      obtain ⟨rfl, hx⟩ := mj_if hi
      cases hx
      exact mj_s_lcmp F hd hs k
    | lshl =>
      obtain ⟨rfl, hx⟩ := mj_if hi
      cases hx
      exact mj_s_lshl F hd hs k
    | dup =>
      obtain ⟨rfl, hx⟩ := mj_if hi
      cases hx
      exact mj_s_dup F hd hs k
    | dup2 =>
      obtain ⟨rfl, hx⟩ := mj_if hi
      cases hx
      exact mj_s_dup2 F hd hs k
    | dup_x1 =>
      obtain ⟨rfl, hx⟩ := mj_if hi
      cases hx
      exact mj_s_dup_x1 F hd hs k
    | pop =>
      obtain ⟨rfl, hx⟩ := mj_if hi
      cases hx
      exact mj_s_pop F hd hs k
    | iaload =>
      obtain ⟨rfl, hx⟩ := mj_if hi
      cases hx
      exact mj_s_iald F hd hs k
    | iastore =>
      obtain ⟨rfl, hx⟩ := mj_if hi
      cases hx
      exact mj_s_iast F hd hs k
    | laload =>
      obtain ⟨rfl, hx⟩ := mj_if hi
      cases hx
      exact mj_s_lald F hd hs k
    | lastore =>
      obtain ⟨rfl, hx⟩ := mj_if hi
      cases hx
      exact mj_s_last F hd hs k
    | aaload =>
      obtain ⟨rfl, hx⟩ := mj_if hi
      cases hx
      exact mj_s_aald F hd hs k
    | baload =>
      obtain ⟨rfl, hx⟩ := mj_if hi
      cases hx
      exact mj_s_bald F hd hs k
    | arraylength =>
      obtain ⟨rfl, hx⟩ := mj_if hi
      cases hx
      exact mj_s_alen F hd hs k
    | aconst_null =>
      obtain ⟨rfl, hx⟩ := mj_if hi
      cases hx
      exact mj_s_null F hd hs k
    | iconst z =>
      obtain ⟨rfl, hx⟩ := mj_if hi
      cases hx
      exact mj_s_iconst F hd hs k
    | lconst z =>
      obtain ⟨rfl, hx⟩ := mj_if hi
      cases hx
      exact mj_s_lconst F hd hs k
    | bipush z =>
      obtain ⟨⟨rfl, hz⟩, hx⟩ := mj_if hi
      cases hx
      exact mj_s_bipush F hz hd hs k
    | sipush z =>
      obtain ⟨⟨rfl, hz⟩, hx⟩ := mj_if hi
      cases hx
      exact mj_s_sipush F hz hd hs k
    | iload x =>
      obtain ⟨rfl, hx⟩ := mj_if hi
      cases hx
      exact mj_s_iload F hd hs k
    | iload_n x =>
      obtain ⟨rfl, hx⟩ := mj_if hi
      cases hx
      exact mj_s_iload_n F hd hs k
    | aload x =>
      obtain ⟨rfl, hx⟩ := mj_if hi
      cases hx
      exact mj_s_aload F hd hs k
    | aload_n x =>
      obtain ⟨rfl, hx⟩ := mj_if hi
      cases hx
      exact mj_s_aload_n F hd hs k
    | lload_n x =>
      obtain ⟨rfl, hx⟩ := mj_if hi
      cases hx
      exact mj_s_lload_n F hd hs k
    | istore x =>
      obtain ⟨rfl, hx⟩ := mj_if hi
      cases hx
      exact mj_s_istore F hd hs k
    | istore_n x =>
      obtain ⟨rfl, hx⟩ := mj_if hi
      cases hx
      exact mj_s_istore_n F hd hs k
    | astore x =>
      obtain ⟨rfl, hx⟩ := mj_if hi
      cases hx
      exact mj_s_astore F hd hs k
    | astore_n x =>
      obtain ⟨rfl, hx⟩ := mj_if hi
      cases hx
      exact mj_s_astore_n F hd hs k
    | iinc x z =>
      obtain ⟨rfl, hx⟩ := mj_if hi
      cases hx
      exact mj_s_iinc F hd hs k
    | goto o =>
      obtain ⟨rfl, hx⟩ := mj_ifm hi
      obtain ⟨h0, hx⟩ := mj_tgP hx
      cases hx
      exact mj_s_goto F h0 hd hs k
    | ifCond q o =>
      obtain ⟨rfl, hx⟩ := mj_ifm hi
      obtain ⟨h0, hx⟩ := mj_tgP hx
      cases hx
      cases q
      · exact mj_s_if_eq F h0 hd hs k
      · exact mj_s_if_ne F h0 hd hs k
      · exact mj_s_if_lt F h0 hd hs k
      · exact mj_s_if_ge F h0 hd hs k
      · exact mj_s_if_gt F h0 hd hs k
      · exact mj_s_if_le F h0 hd hs k
    | if_icmp q o =>
      obtain ⟨rfl, hx⟩ := mj_ifm hi
      obtain ⟨h0, hx⟩ := mj_tgP hx
      cases hx
      cases q
      · exact mj_s_icmp_eq F h0 hd hs k
      · exact mj_s_icmp_ne F h0 hd hs k
      · exact mj_s_icmp_lt F h0 hd hs k
      · exact mj_s_icmp_ge F h0 hd hs k
      · exact mj_s_icmp_gt F h0 hd hs k
      · exact mj_s_icmp_le F h0 hd hs k
    | ifnull o =>
      obtain ⟨rfl, hx⟩ := mj_ifm hi
      obtain ⟨h0, hx⟩ := mj_tgP hx
      cases hx
      exact mj_s_ifnull F h0 hd hs k
    | ifnonnull o =>
      obtain ⟨rfl, hx⟩ := mj_ifm hi
      obtain ⟨h0, hx⟩ := mj_tgP hx
      cases hx
      exact mj_s_ifnonnull F h0 hd hs k
    | tableswitch d lo hi2 os =>
      obtain ⟨⟨h0, hos⟩, hx⟩ := mj_if hi
      cases hx
      exact mj_s_table F h0 (fun o ho => of_decide_eq_true (List.all_eq_true.mp hos o ho)) hd hs k
    | lookupswitch d ps =>
      obtain ⟨⟨⟨h0, hos⟩, hso⟩, hx⟩ := mj_if hi
      cases hx
      exact mj_s_lookup F h0 (fun o ho => of_decide_eq_true (List.all_eq_true.mp hos o ho)) hso hd hs k
    | getfield x =>
      obtain ⟨rfl, hx⟩ := mj_ifm hi
      split at hx
      · rename_i ci j hl
        cases hx
        exact mj_s_getf F hl hd hs k
      · obtain ⟨j, e1, e2⟩ := Option.map_eq_some_iff.mp hx
        cases e2
        exact mj_s_gets_f F e1 hd hs k
    | putfield x =>
      obtain ⟨rfl, hx⟩ := mj_ifm hi
      obtain ⟨⟨ci, j⟩, e1, e2⟩ := Option.map_eq_some_iff.mp hx
      cases e2
      exact mj_s_putf F e1 hd hs k
    | getstatic x =>
      obtain ⟨rfl, hx⟩ := mj_ifm hi
      obtain ⟨j, e1, e2⟩ := Option.map_eq_some_iff.mp hx
      cases e2
      exact mj_s_getst F e1 hd hs k
    | ldc x =>
      obtain ⟨rfl, hx⟩ := mj_ifm hi
      split at hx
      · rename_i q hl
        cases hx
        exact mj_s_ldcs F hl hd hs k
      · obtain ⟨j, e1, e2⟩ := Option.map_eq_some_iff.mp hx
        cases e2
        exact mj_s_ldci F e1 hd hs k
    | ldc_w x =>
      obtain ⟨rfl, hx⟩ := mj_ifm hi
      obtain ⟨j, e1, e2⟩ := Option.map_eq_some_iff.mp hx
      cases e2
      exact mj_s_ldcw F e1 hd hs k
    | ldc2_w x =>
      obtain ⟨⟨rfl, h10, rfl⟩, hx⟩ := mj_if hi
      cases hx
      exact mj_s_ldc2 F h10 hd hs k
    | ireturn =>
      obtain ⟨rfl, hx⟩ := mj_if hi
      cases hx
      exact absurd hs (mj_noret_ireturn _ _)
    | lreturn =>
      obtain ⟨rfl, hx⟩ := mj_if hi
      cases hx
      exact absurd hs (mj_noret_lreturn _ _)
    | areturn =>
      obtain ⟨rfl, hx⟩ := mj_if hi
      cases hx
      exact absurd hs (mj_noret_areturn _ _)
    | return_ =>
      obtain ⟨rfl, hx⟩ := mj_if hi
      cases hx
      exact absurd hs (mj_noret_return_ _ _)
    | invokevirtual x =>
      obtain ⟨rfl, hx⟩ := mj_ifm hi
      obtain ⟨j, e1, e2⟩ := Option.map_eq_some_iff.mp hx
      unfold mj_call at e1
      split at e1
      · cases e1; cases e2; exact absurd hs (mj_nocall_invokevirtual _ _)
      · cases e1
    | invokestatic x =>
      obtain ⟨rfl, hx⟩ := mj_ifm hi
      split at hx
      · rename_i q hl
        cases hx
        simp only [mj_do] at hs
        split at hs
        · split at hs
          · cases hs
          · cases hs; exact mj_s_mmax F hl hd (by assumption) k
        · split at hs
          · cases hs
          · cases hs; exact mj_s_mmin F hl hd (by assumption) k
        · split at hs
          · cases hs
          · rename_i h1
            split at hs
            · rename_i ha hb
              split at hs
              · cases hs
              · rename_i h2; cases hs; exact mj_s_copyi F hl hd h1 ha hb h2 k
            · split at hs
              · rename_i ha hb
                split at hs
                · cases hs
                · rename_i h2; cases hs; exact mj_s_copyl F hl hd h1 ha hb h2 k
              · cases hs
        · cases hs
      · split at hx
        · cases hx; exact absurd hs (mj_nocall_invokespecial _ _)
        · obtain ⟨j, e1, e2⟩ := Option.map_eq_some_iff.mp hx
          unfold mj_call at e1
          split at e1
          · cases e1; cases e2; exact absurd hs (mj_nocall_invokestatic _ _)
          · cases e1
    | _ => cases hi
theorem mj_do_ir {np : Nat} {v : Option Value} (hM : mj_e mid = some M) (h : mj_do mid .ireturn np ls st σ τ = some (.inr (.inl v))) : ∃ x, st = [.int x] ∧ v = some (.int x) ∧ mj_ok M.2.2.2.1 x = true := by
  rcases st with _ | ⟨w, _ | ⟨w2, r⟩⟩
  · simp [mj_do, hM] at h
  · cases w <;> simp [mj_do, hM] at h
    exact ⟨_, rfl, h.2.symm, h.1⟩
  · cases w <;> simp [mj_do, hM] at h
theorem mj_do_lr {np : Nat} {v : Option Value} (hM : mj_e mid = some M) (h : mj_do mid .lreturn np ls st σ τ = some (.inr (.inl v))) : ∃ x, st = [.long x] ∧ v = some (.long x) ∧ M.2.2.2.1 = some .long := by
  rcases st with _ | ⟨w, _ | ⟨w2, r⟩⟩
  · simp [mj_do, hM] at h
  · cases w <;> simp [mj_do, hM] at h
    exact ⟨_, rfl, h.2.symm, h.1⟩
  · cases w <;> simp [mj_do, hM] at h
theorem mj_do_ar {np : Nat} {v : Option Value} (hM : mj_e mid = some M) (h : mj_do mid .areturn np ls st σ τ = some (.inr (.inl v))) : ∃ x, st = [x] ∧ v = some x ∧ mj_isR M.2.2.2.1 = true ∧ (x = .null ∨ ∃ q, x = .ref q) := by
  rcases st with _ | ⟨w, _ | ⟨w2, r⟩⟩
  · simp [mj_do, hM] at h
  · cases w <;> simp [mj_do, hM] at h
    · exact ⟨_, rfl, h.2.symm, h.1, Or.inl rfl⟩
    · exact ⟨_, rfl, h.2.symm, h.1, Or.inr ⟨_, rfl⟩⟩
  · cases w <;> simp [mj_do, hM] at h
theorem mj_do_vr {np : Nat} {v : Option Value} (hM : mj_e mid = some M) (h : mj_do mid .return_ np ls st σ τ = some (.inr (.inl v))) : st = [] ∧ v = none ∧ M.2.2.2.1 = none := by
  rcases st with _ | ⟨w, _ | ⟨w2, r⟩⟩
  · simp [mj_do, hM] at h
    exact ⟨rfl, h.2.symm, h.1⟩
  · cases w <;> simp [mj_do, hM] at h
    
  · cases w <;> simp [mj_do, hM] at h
set_option maxHeartbeats 4000000 in
theorem mj_do_inr {i : Instr} {np : Nat} {y : (Option Value) ⊕ (Nat × List Value × Nat × List Value)} (h : mj_do mid i np ls st σ τ = some (.inr y)) : (i = .ireturn ∨ i = .lreturn ∨ i = .areturn ∨ i = .return_) ∨ ∃ t, i = .invokevirtual t ∨ i = .invokestatic t ∨ i = .invokespecial t := by
  cases i with
  | ireturn => exact Or.inl (Or.inl rfl)
  | lreturn => exact Or.inl (Or.inr (Or.inl rfl))
  | areturn => exact Or.inl (Or.inr (Or.inr (Or.inl rfl)))
  | return_ => exact Or.inl (Or.inr (Or.inr (Or.inr rfl)))
  | invokevirtual t => exact Or.inr ⟨t, Or.inl rfl⟩
  | invokestatic t => exact Or.inr ⟨t, Or.inr (Or.inl rfl)⟩
  | invokespecial t => exact Or.inr ⟨t, Or.inr (Or.inr rfl)⟩
  | _ =>
    exfalso
    simp only [mj_do] at h
    first
      | (cases h; done)
      | (split at h <;> first | (cases h; done) | (split at h <;> first | (cases h; done) | (split at h <;> first | (cases h; done) | (split at h <;> first | (cases h; done) | (split at h <;> cases h)))))
def mj_kd : Instr → Nat
  | .ireturn | .lreturn | .areturn | .return_ => 1
  | .invokevirtual _ | .invokestatic _ | .invokespecial _ => 2
  | _ => 0
def mj_ky (y : (Option Value) ⊕ (Nat × List Value × Nat × List Value)) : Nat := match y with
  | .inl _ => 1
  | .inr _ => 2
theorem mj_kdP {i : Instr} {np : Nat} {y : (Option Value) ⊕ (Nat × List Value × Nat × List Value)} (h : mj_do mid i np ls st σ τ = some (.inr y)) : mj_kd i = mj_ky y := by
  rcases mj_do_inr h with (rfl | rfl | rfl | rfl) | ⟨t, rfl | rfl | rfl⟩
  · simp only [mj_do] at h
    split at h
    · obtain ⟨-, q⟩ := mj_if h; cases q; rfl
    · cases h
  · simp only [mj_do] at h
    split at h
    · obtain ⟨-, q⟩ := mj_if h; cases q; rfl
    · cases h
  · simp only [mj_do] at h
    split at h
    · obtain ⟨-, q⟩ := mj_if h; cases q; rfl
    · obtain ⟨-, q⟩ := mj_if h; cases q; rfl
    · cases h
  · simp only [mj_do] at h
    split at h
    · obtain ⟨-, q⟩ := mj_if h; cases q; rfl
    · cases h
  · simp only [mj_do] at h
    split at h
    · split at h
      · cases h
      · split at h
        · obtain ⟨-, q⟩ := mj_if h; cases q; rfl
        · cases h
    · cases h
  · simp only [mj_do] at h
    split at h
    · split at h
      · cases h
      · cases h; rfl
    · cases h
  · simp only [mj_do] at h
    split at h
    · split at h
      · cases h
      · cases h; rfl
    · cases h
theorem mj_callP {m c x : Nat} {f : Nat → Instr} {i : Instr} (h : mj_call m c x f = some i) : ∃ t t', mj_lk mj_mtL c x = some t ∧ i = f t' ∧ (t' = t ∧ t ≠ mj_RUN ∨ t = mj_RUN ∧ mj_base t' = mj_RUN) := by
  unfold mj_call at h
  split at h
  · rename_i t ht
    cases h
    refine ⟨t, _, ht, rfl, ?_⟩
    split
    · rename_i q; refine Or.inr ⟨q.1, ?_⟩; unfold mj_base; rw [if_pos (by omega)]
    · split
      · rename_i q; exact Or.inr ⟨q, by decide⟩
      · rename_i q; exact Or.inl ⟨rfl, q⟩
  · cases h
theorem mj_tr_kd1 {mi cn n np : Nat} {raw i : Instr} (hi : mj_tr mi cn pc n raw = some (i, np)) (hk : mj_kd i = 1) : raw = i ∧ n = 1 ∧ np = pc + 1 := by
  cases raw with
  | invokevirtual x =>
    obtain ⟨h1, h2⟩ := mj_ifm hi
    obtain ⟨t, e1, e2⟩ := Option.map_eq_some_iff.mp h2
    obtain ⟨t, t', -, rfl, -⟩ := mj_callP e1
    cases e2; cases hk
  | invokestatic x =>
    obtain ⟨h1, h2⟩ := mj_ifm hi
    split at h2
    · cases h2; cases hk
    · split at h2
      · cases h2; cases hk
      · obtain ⟨t, e1, e2⟩ := Option.map_eq_some_iff.mp h2
        obtain ⟨t, t', -, rfl, -⟩ := mj_callP e1
        cases e2; cases hk
  | _ =>
    simp only [mj_tr] at hi
    first
      | (cases hi; done)
      | (obtain ⟨h1, h2⟩ := mj_if hi; cases h2; first | (cases hk; done) | (subst h1; exact ⟨rfl, rfl, rfl⟩))
      | (obtain ⟨h1, h2⟩ := mj_ifm hi; obtain ⟨t, e1, e2⟩ := Option.map_eq_some_iff.mp h2; cases e2; cases hk; done)
      | (obtain ⟨h1, h2⟩ := mj_ifm hi; split at h2 <;> first | (cases h2; cases hk; done) | (obtain ⟨t, e1, e2⟩ := Option.map_eq_some_iff.mp h2; cases e2; cases hk; done))
theorem mj_tr_kd2 {mi cn n np : Nat} {raw i : Instr} (hi : mj_tr mi cn pc n raw = some (i, np)) (hk : mj_kd i = 2) : n = 3 ∧ np = pc + 3 ∧
    ((∃ x t t', raw = .invokevirtual x ∧ i = .invokevirtual t' ∧ mj_lk mj_mtL cn x = some t ∧ (t' = t ∧ t ≠ mj_RUN ∨ t = mj_RUN ∧ mj_base t' = mj_RUN)) ∨
     (∃ x t t', raw = .invokestatic x ∧ i = .invokestatic t' ∧ mj_lk mj_mtL cn x = some t ∧ (t' = t ∧ t ≠ mj_RUN ∨ t = mj_RUN ∧ mj_base t' = mj_RUN)) ∨
     (∃ x t, raw = .invokestatic x ∧ i = .invokespecial t ∧ mj_lk mj_nsL cn x = some t)) := by
  cases raw with
  | invokevirtual x =>
    obtain ⟨h1, h2⟩ := mj_ifm hi
    obtain ⟨t, e1, e2⟩ := Option.map_eq_some_iff.mp h2
    obtain ⟨t, t', ht, rfl, hb⟩ := mj_callP e1
    cases e2
    exact ⟨h1, rfl, Or.inl ⟨x, t, t', rfl, rfl, ht, hb⟩⟩
  | invokestatic x =>
    obtain ⟨h1, h2⟩ := mj_ifm hi
    split at h2
    · cases h2; cases hk
    · split at h2
      · rename_i ht
        cases h2
        exact ⟨h1, rfl, Or.inr (Or.inr ⟨x, _, rfl, rfl, ht⟩)⟩
      · obtain ⟨t, e1, e2⟩ := Option.map_eq_some_iff.mp h2
        obtain ⟨t, t', ht, rfl, hb⟩ := mj_callP e1
        cases e2
        exact ⟨h1, rfl, Or.inr (Or.inl ⟨x, t, t', rfl, rfl, ht, hb⟩)⟩
  | _ =>
    simp only [mj_tr] at hi
    first
      | (cases hi; done)
      | (obtain ⟨h1, h2⟩ := mj_if hi; cases h2; cases hk; done)
      | (obtain ⟨h1, h2⟩ := mj_ifm hi; obtain ⟨t, e1, e2⟩ := Option.map_eq_some_iff.mp h2; cases e2; cases hk; done)
      | (obtain ⟨h1, h2⟩ := mj_ifm hi; split at h2 <;> first | (cases h2; cases hk; done) | (obtain ⟨t, e1, e2⟩ := Option.map_eq_some_iff.mp h2; cases e2; cases hk; done))
/-- an answer -/
def mj_ri (c : Code) (M : mj_M) (v : Option Value) (pc : Nat) : Prop :=
  (∃ x, v = some (.int x) ∧ decode c.code pc = .ok (.ireturn, 1) ∧ mj_ok M.2.2.2.1 x = true) ∨ (∃ x, v = some (.long x) ∧ decode c.code pc = .ok (.lreturn, 1) ∧ M.2.2.2.1 = some .long) ∨
  (∃ w, v = some w ∧ decode c.code pc = .ok (.areturn, 1) ∧ mj_isR M.2.2.2.1 = true ∧ (w = .null ∨ ∃ q, w = .ref q)) ∨ (v = none ∧ decode c.code pc = .ok (.return_, 1) ∧ M.2.2.2.1 = none)
theorem mj_sound_rt (F : mj_fr p l R s m args meth c cells slots D cy ad z0 cs A mid M) {v : Option Value} (hs : mj_stp mid pc ls st σ τ = some (.inr (.inl v))) : st = v.toList ∧ mj_ri c M v pc := by
  obtain ⟨i, raw, n, np, hd, hi, hs⟩ := mj_stpP F hs
  obtain ⟨rfl, rfl, rfl⟩ := mj_tr_kd1 hi (mj_kdP hs)
  rcases mj_do_inr hs with (rfl | rfl | rfl | rfl) | ⟨t, rfl | rfl | rfl⟩
  · obtain ⟨x, rfl, rfl, ho⟩ := mj_do_ir F.1 hs
    exact ⟨rfl, Or.inl ⟨_, rfl, hd, ho⟩⟩
  · obtain ⟨x, rfl, rfl, ho⟩ := mj_do_lr F.1 hs
    exact ⟨rfl, Or.inr (Or.inl ⟨_, rfl, hd, ho⟩)⟩
  · obtain ⟨x, rfl, rfl, ho, hw⟩ := mj_do_ar F.1 hs
    exact ⟨rfl, Or.inr (Or.inr (Or.inl ⟨_, rfl, hd, ho, hw⟩))⟩
  · obtain ⟨rfl, rfl, ho⟩ := mj_do_vr F.1 hs
    exact ⟨rfl, Or.inr (Or.inr (Or.inr ⟨rfl, hd, ho⟩))⟩
  · exact absurd (show (2 : Nat) = 1 from mj_kdP hs) (by decide)
  · exact absurd (show (2 : Nat) = 1 from mj_kdP hs) (by decide)
  · exact absurd (show (2 : Nat) = 1 from mj_kdP hs) (by decide)
end
