/-! THE SMALL MACHINE IS SOUND: what it does, the machine of the claim does (each instruction by the kit's row) -/
def mj_cv (ad : Nat → Nat) (z0 : Value) : Value → Value
  | .ref k => .ref (ad k)
  | .retAddr _ => z0
  | v => v
def mj_vf (ad : Nat → Nat) (v : Int32) (f : Option Nat) : Value := match f with
  | some q => .ref (ad q)
  | none => .int v
def mj_cell (ad : Nat → Nat) (cy : Nat → ClassId) (σ : mj_S) (τ : mj_T) (k : Nat) : va_E := match mj_sh k with
  | some (.inl (c, fs)) => .inr (c, fs.mapIdx (fun j f => mj_vf ad (σ k j) f))
  | some (.inr (0, n)) => .inl (cy 0, n, .inl (σ k))
  | some (.inr (1, n)) => .inl (cy 1, n, .inr (.inl (τ k)))
  | some (.inr (_, n)) => .inl (cy 2, n, .inr (.inr (.inr (.inr (fun i => some (ad (40 + i)))))))
  | none => .inl (cy 0, 0, .inl (σ k))
def mj_ws (ad : Nat → Nat) (cy : Nat → ClassId) (σ : mj_S) (τ : mj_T) : va_W := (List.range 90).map (fun k => (ad k, mj_cell ad cy σ τ k))
theorem mj_ws_get {ad : Nat → Nat} {cy : Nat → ClassId} {σ : mj_S} {τ : mj_T} {k : Nat} (h : k < 90) : (mj_ws ad cy σ τ)[k]? = some (ad k, mj_cell ad cy σ τ k) := by
  simp [mj_ws, h]
theorem mj_ws_set {ad : Nat → Nat} {cy : Nat → ClassId} {σ σ' : mj_S} {τ τ' : mj_T} {k : Nat} {e : va_E} (h1 : ∀ j, j ≠ k → mj_cell ad cy σ' τ' j = mj_cell ad cy σ τ j) (h2 : mj_cell ad cy σ' τ' k = e) : (mj_ws ad cy σ τ).set k (ad k, e) = mj_ws ad cy σ' τ' := by
  apply List.ext_getElem?
  intro i
  rw [List.getElem?_set]
  by_cases hi : i < 90
  · by_cases hk : k = i
    · subst hk
      rw [if_pos rfl, mj_ws_get hi, if_pos (by simp [mj_ws, hi]), h2]
    · rw [if_neg hk, mj_ws_get hi, mj_ws_get hi, h1 i (fun q => hk q.symm)]
  · have l1 : (mj_ws ad cy σ τ).length = 90 := by simp [mj_ws]
    have l2 : (mj_ws ad cy σ' τ').length = 90 := by simp [mj_ws]
    have n1 : (mj_ws ad cy σ τ)[i]? = none := by rw [List.getElem?_eq_none_iff]; omega
    have n2 : (mj_ws ad cy σ' τ')[i]? = none := by rw [List.getElem?_eq_none_iff]; omega
    rw [n1, n2]
    by_cases hk : k = i
    · rw [if_pos hk, if_neg (by omega)]
    · rw [if_neg hk]
def mj_sl (q : Nat) : Nat := if q = 90 then 7 else if q = 91 then 21 else 5
def mj_tys (cy : Nat → ClassId) : List (ClassId × FieldType) := [(cy 0, .int), (cy 1, .long), (cy 2, .object "ChosenBackAtNine$Shelf")]
/-- what is never written: the class's own tables, the words, the script -/
def mj_sf (ad : Nat → Nat) (z0 : Value) (cs : mj_S) (A : Nat → Prop) (U : State) (H : Heap) : Prop :=
  (∀ q, q = 90 ∨ q = 91 ∨ q = 92 → va_Z (mj_stN q).1 (mj_stN q).2.1 (mj_stN q).2.2 (.ref (ad q)) A U H ∧ va_T .int (ad q) (mj_sl q) (fun j => .int (cs q j)) A U H) ∧
  va_Z (mj_stN 1).1 (mj_stN 1).2.1 (mj_stN 1).2.2 (.int 1) A U H ∧ va_Z (mj_stN 2).1 (mj_stN 2).2.1 (mj_stN 2).2.2 z0 A U H ∧
  (∀ q, q ∈ mj_csL → vk_R (mj_own q.1) q.2.1 (mj_txs.getD (q.2.2 - 93) "") (ad q.2.2) U) ∧
  vk_S 5 [5, 5, 4, 3, 5] mj_tx (fun i => ad (93 + i)) (fun i => ad (100 + i)) A U H ∧
  (∀ q, q ∈ mj_nsL → va_Nw (.methodLinkNest (mj_own q.1) q.2.1 (mj_eT q.2.2).1 "ChosenBackAtNine") U) ∧
  (va_X (ad 98) (cs 99 0).toNatClampNeg (cs 98) U H ∧ ad 98 < H.size ∧ ¬ A (ad 98)) ∧ (z0 = .null ∨ ∃ a, z0 = .ref a)
theorem mj_sf.moved {ad : Nat → Nat} {z0 : Value} {cs : mj_S} {A : Nat → Prop} {u U : State} {H : Heap} (hW : u.WarmedH U.vm) (h : mj_sf ad z0 cs A u H) : mj_sf ad z0 cs A U H :=
  ⟨fun q hq => ⟨(h.1 q hq).1.moved hW.alike, (h.1 q hq).2.moved hW.alike⟩, h.2.1.moved hW.alike, h.2.2.1.moved hW.alike, fun q hq => (h.2.2.2.1 q hq).warm hW, h.2.2.2.2.1.moved hW.alike, fun q hq => va_Nw.warmM hW (h.2.2.2.2.2.1 q hq), ⟨h.2.2.2.2.2.2.1.1.moved hW.alike, h.2.2.2.2.2.2.1.2⟩, h.2.2.2.2.2.2.2⟩
theorem mj_sf.same {ad : Nat → Nat} {z0 : Value} {cs : mj_S} {A : Nat → Prop} {u U : State} {H : Heap} (hv : U.vm = u.vm) (h : mj_sf ad z0 cs A u H) : mj_sf ad z0 cs A U H := by
  have ha : u.vm.Alike U.vm := by rw [hv]; exact Vm.Alike.refl u.vm
  exact ⟨fun q hq => ⟨(h.1 q hq).1.moved ha, (h.1 q hq).2.moved ha⟩, h.2.1.moved ha, h.2.2.1.moved ha, fun q hq => (h.2.2.2.1 q hq).same hv, h.2.2.2.2.1.moved ha, fun q hq => va_Nw.same rfl hv.symm (h.2.2.2.2.2.1 q hq), ⟨h.2.2.2.2.2.2.1.1.moved ha, h.2.2.2.2.2.2.1.2⟩, h.2.2.2.2.2.2.2⟩
theorem mj_sf.kept {ad : Nat → Nat} {z0 : Value} {cs : mj_S} {A : Nat → Prop} {U : State} {H H1 : Heap} (h : mj_sf ad z0 cs A U H) (hz : H.size ≤ H1.size) (hq : ∀ a : Nat, a < H.size → ¬ A a → H1[a]? = H[a]?) : mj_sf ad z0 cs A U H1 :=
  ⟨fun q h1 => ⟨(h.1 q h1).1.kept hq, (h.1 q h1).2.kept hq⟩, h.2.1.kept hq, h.2.2.1.kept hq, h.2.2.2.1, h.2.2.2.2.1.kept hq, h.2.2.2.2.2.1, ⟨h.2.2.2.2.2.2.1.1.kept (hq _ h.2.2.2.2.2.2.1.2.1 h.2.2.2.2.2.2.1.2.2), Nat.lt_of_lt_of_le h.2.2.2.2.2.2.1.2.1 hz, h.2.2.2.2.2.2.1.2.2⟩, h.2.2.2.2.2.2.2⟩
theorem mj_sf.narrow {ad : Nat → Nat} {z0 : Value} {cs : mj_S} {A B : Nat → Prop} {U : State} {H : Heap} (h : mj_sf ad z0 cs A U H) (hAB : ∀ q, B q → A q) : mj_sf ad z0 cs B U H :=
  ⟨fun q h1 => ⟨(h.1 q h1).1.narrow hAB, (h.1 q h1).2.narrow hAB⟩, h.2.1.narrow hAB, h.2.2.1.narrow hAB, h.2.2.2.1, h.2.2.2.2.1.narrow hAB, h.2.2.2.2.2.1, ⟨h.2.2.2.2.2.2.1.1, h.2.2.2.2.2.2.1.2.1, fun q => h.2.2.2.2.2.2.1.2.2 (hAB _ q)⟩, h.2.2.2.2.2.2.2⟩
/-- the heap holds the numbers -/
def mj_rel (D : va_G) (cy : Nat → ClassId) (ad : Nat → Nat) (cs : mj_S) (A : Nat → Prop) (s : State) (H : Heap) (locs : List Loc) (σ : mj_S) (τ : mj_T) : Prop :=
  va_P D vwCl (mj_ws ad cy σ τ) H ∧ va_D A (mj_ws ad cy σ τ) ∧ va_S A s.heap H locs ∧ ∀ k, 90 ≤ k → σ k = cs k
def mj_lr (ad : Nat → Nat) (z0 : Value) (la : Array Slot) (ls : mj_L) : Prop := la.size = ls.length ∧ lv_wf la ∧ ∀ (i : Nat) (v : Value), ls[i]? = some (some v) → la[i]? = some (.val (mj_cv ad z0 v))
/-- a frame of the method mid -/
def mj_fr (p : Program) (l : Launch) (R : Room) (s : State) (m : MethodId) (args : Array Value) (meth : Method) (c : Code) (cells slots : Nat) (D : va_G) (cy : Nat → ClassId) (ad : Nat → Nat) (z0 : Value) (cs : mj_S) (A : Nat → Prop) (mid : Nat) (M : mj_M) : Prop :=
  mj_e mid = some M ∧ p.tables.exec = Jvm.exec ∧ c.code = M.2.1 ∧ c.maxLocals = M.2.2.1 ∧ s.vm.findClass (mj_own M.2.2.2.2.1) = some m.cls ∧ (∀ w ∈ mj_tbl, w.before args s = true) ∧ va_K D vwCl (mj_tys cy) s ∧ mj_sf ad z0 cs A s s.heap ∧ (∀ q, s.heap.size ≤ q → A q) ∧
  (1 ≤ mj_h mid ∧ mj_h mid ≤ R.frames ∧ 100 * mj_h mid ≤ R.locals) ∧ cells ≤ R.cells ∧ slots ≤ R.slots
/-- from every heap that holds the numbers, the frame comes to QQ -/
def mj_W (p : Program) (l : Launch) (e : Env) (R : Room) (s : State) (m : MethodId) (args : Array Value) (below : List Frame) (meth : Method) (c : Code) (cells slots : Nat) (D : va_G) (cy : Nat → ClassId) (ad : Nat → Nat) (z0 : Value) (cs : mj_S) (A : Nat → Prop) (QQ : State → Prop) (mid : Nat) (pc : Nat) (ls : mj_L) (st : List Value) (σ : mj_S) (τ : mj_T) : Prop :=
  ∀ (H : Heap) (locs : List Loc) (la : Array Slot), mj_rel D cy ad cs A s H locs σ τ → mj_lr ad z0 la ls → (ls.length = c.maxLocals ∧ (mj_lg mid = false → ∀ (i : Nat) (v : Value), ls[i]? = some (some v) → v.category = 1)) → W p l e R s m args below meth c H locs cells slots QQ (F0 m pc la (st.map (mj_cv ad z0)))
section
variable {p : Program} {l : Launch} {e : Env} {R : Room} {s : State} {m : MethodId} {args : Array Value} {below : List Frame} {meth : Method} {c : Code} {cells slots : Nat} {QQ : State → Prop}
variable {D : va_G} {cy : Nat → ClassId} {ad : Nat → Nat} {z0 : Value} {cs : mj_S} {A : Nat → Prop} {mid : Nat} {M : mj_M}
variable {pc pc' : Nat} {ls ls' : mj_L} {st st' : List Value} {σ σ' : mj_S} {τ τ' : mj_T}

/-- the locals as the kit lists them -/
def mj_as (ad : Nat → Nat) (z0 : Value) (ls : mj_L) : List (Nat × Value) := (List.range ls.length).filterMap (fun i => match ls[i]? with | some (some v) => some (i, mj_cv ad z0 v) | _ => none)
theorem mj_as_mem {ad : Nat → Nat} {z0 : Value} {ls : mj_L} {i : Nat} {v : Value} (h : ls[i]? = some (some v)) : (i, mj_cv ad z0 v) ∈ mj_as ad z0 ls := by
  refine List.mem_filterMap.mpr ⟨i, List.mem_range.mpr (List.getElem?_eq_some_iff.mp h).1, ?_⟩
  rw [h]
theorem mj_as_has {ad : Nat → Nat} {z0 : Value} {la : Array Slot} {ls : mj_L} (h : mj_lr ad z0 la ls) : lv_has la ls.length (mj_as ad z0 ls) := by
  refine ⟨h.1, h.2.1, fun q hq => ?_⟩
  obtain ⟨i, hi, e⟩ := List.mem_filterMap.mp hq
  split at e
  · rename_i v hv
    cases e
    exact h.2.2 i v hv
  · cases e
/-- a store: the place before holds no long -/
def mj_cat (ls : mj_L) (i : Nat) : Prop := ∀ j v, j + 1 = i → ls[j]? = some (some v) → v.category = 1
theorem mj_as_set {ad : Nat → Nat} {z0 : Value} {la : Array Slot} {ls : mj_L} {i nL : Nat} {v : Value} (hz : z0 = .null ∨ ∃ a, z0 = .ref a) (hi : i < ls.length) (hc : mj_cat ls i) (h : lv_has la nL ((i, mj_cv ad z0 v) :: (mj_as ad z0 ls).filter (fun q => !(q.1 == i) && !(q.1 + 1 == i && q.2.category == 2)))) (hn : nL = ls.length) : mj_lr ad z0 la (ls.set i (some v)) := by
  refine ⟨by rw [h.1, hn, List.length_set], h.2.1, fun j w hw => ?_⟩
  rw [List.getElem?_set] at hw
  by_cases hj : i = j
  · subst hj
    rw [if_pos rfl, if_pos hi] at hw
    cases hw
    exact h.2.2 (i, mj_cv ad z0 v) List.mem_cons_self
  · rw [if_neg hj] at hw
    refine h.2.2 (j, mj_cv ad z0 w) (List.mem_cons_of_mem _ (List.mem_filter.mpr ⟨mj_as_mem hw, ?_⟩))
    have h1 : (j == i) = false := by simp; omega
    by_cases hji : j + 1 = i
    · have h2 := hc j w hji hw
      have h3 : (mj_cv ad z0 w).category = 1 := by
        cases w <;> first | exact h2 | rfl | (rcases hz with rfl | ⟨a, rfl⟩ <;> rfl)
      simp [h1, h3]
    · have h4 : (j + 1 == i) = false := by simp; omega
      simp [h1, h4]

theorem mj_s_iadd (F : mj_fr p l R s m args meth c cells slots D cy ad z0 cs A mid M) (hd : decode c.code pc = .ok (.iadd, 1)) (h : mj_do mid (.iadd) (pc + 1) ls st σ τ = some (.inl (pc', ls', st', σ', τ'))) (k : mj_W p l e R s m args below meth c cells slots D cy ad z0 cs A QQ mid pc' ls' st' σ' τ') : mj_W p l e R s m args below meth c cells slots D cy ad z0 cs A QQ mid pc ls st σ τ := by
  simp only [mj_do] at h
  split at h
  · cases h
    intro H locs la hr hl hn
    exact lv_iadd F.2.1 rfl hd (k H locs la hr hl hn)
  · cases h
theorem mj_s_isub (F : mj_fr p l R s m args meth c cells slots D cy ad z0 cs A mid M) (hd : decode c.code pc = .ok (.isub, 1)) (h : mj_do mid (.isub) (pc + 1) ls st σ τ = some (.inl (pc', ls', st', σ', τ'))) (k : mj_W p l e R s m args below meth c cells slots D cy ad z0 cs A QQ mid pc' ls' st' σ' τ') : mj_W p l e R s m args below meth c cells slots D cy ad z0 cs A QQ mid pc ls st σ τ := by
  simp only [mj_do] at h
  split at h
  · cases h
    intro H locs la hr hl hn
    exact lv_isub F.2.1 rfl hd (k H locs la hr hl hn)
  · cases h
theorem mj_s_imul (F : mj_fr p l R s m args meth c cells slots D cy ad z0 cs A mid M) (hd : decode c.code pc = .ok (.imul, 1)) (h : mj_do mid (.imul) (pc + 1) ls st σ τ = some (.inl (pc', ls', st', σ', τ'))) (k : mj_W p l e R s m args below meth c cells slots D cy ad z0 cs A QQ mid pc' ls' st' σ' τ') : mj_W p l e R s m args below meth c cells slots D cy ad z0 cs A QQ mid pc ls st σ τ := by
  simp only [mj_do] at h
  split at h
  · cases h
    intro H locs la hr hl hn
    exact lv_imul F.2.1 rfl hd (k H locs la hr hl hn)
  · cases h
theorem mj_s_iand (F : mj_fr p l R s m args meth c cells slots D cy ad z0 cs A mid M) (hd : decode c.code pc = .ok (.iand, 1)) (h : mj_do mid (.iand) (pc + 1) ls st σ τ = some (.inl (pc', ls', st', σ', τ'))) (k : mj_W p l e R s m args below meth c cells slots D cy ad z0 cs A QQ mid pc' ls' st' σ' τ') : mj_W p l e R s m args below meth c cells slots D cy ad z0 cs A QQ mid pc ls st σ τ := by
  simp only [mj_do] at h
  split at h
  · cases h
    intro H locs la hr hl hn
    exact lv_iand F.2.1 rfl hd (k H locs la hr hl hn)
  · cases h
theorem mj_s_ior (F : mj_fr p l R s m args meth c cells slots D cy ad z0 cs A mid M) (hd : decode c.code pc = .ok (.ior, 1)) (h : mj_do mid (.ior) (pc + 1) ls st σ τ = some (.inl (pc', ls', st', σ', τ'))) (k : mj_W p l e R s m args below meth c cells slots D cy ad z0 cs A QQ mid pc' ls' st' σ' τ') : mj_W p l e R s m args below meth c cells slots D cy ad z0 cs A QQ mid pc ls st σ τ := by
  simp only [mj_do] at h
  split at h
  · cases h
    intro H locs la hr hl hn
    exact lv_ior F.2.1 rfl hd (k H locs la hr hl hn)
  · cases h
theorem mj_s_ixor (F : mj_fr p l R s m args meth c cells slots D cy ad z0 cs A mid M) (hd : decode c.code pc = .ok (.ixor, 1)) (h : mj_do mid (.ixor) (pc + 1) ls st σ τ = some (.inl (pc', ls', st', σ', τ'))) (k : mj_W p l e R s m args below meth c cells slots D cy ad z0 cs A QQ mid pc' ls' st' σ' τ') : mj_W p l e R s m args below meth c cells slots D cy ad z0 cs A QQ mid pc ls st σ τ := by
  simp only [mj_do] at h
  split at h
  · cases h
    intro H locs la hr hl hn
    exact lv_ixor F.2.1 rfl hd (k H locs la hr hl hn)
  · cases h
theorem mj_s_ishl (F : mj_fr p l R s m args meth c cells slots D cy ad z0 cs A mid M) (hd : decode c.code pc = .ok (.ishl, 1)) (h : mj_do mid (.ishl) (pc + 1) ls st σ τ = some (.inl (pc', ls', st', σ', τ'))) (k : mj_W p l e R s m args below meth c cells slots D cy ad z0 cs A QQ mid pc' ls' st' σ' τ') : mj_W p l e R s m args below meth c cells slots D cy ad z0 cs A QQ mid pc ls st σ τ := by
  simp only [mj_do] at h
  split at h
  · cases h
    intro H locs la hr hl hn
    exact lv_ishl F.2.1 rfl hd (k H locs la hr hl hn)
  · cases h
theorem mj_s_ishr (F : mj_fr p l R s m args meth c cells slots D cy ad z0 cs A mid M) (hd : decode c.code pc = .ok (.ishr, 1)) (h : mj_do mid (.ishr) (pc + 1) ls st σ τ = some (.inl (pc', ls', st', σ', τ'))) (k : mj_W p l e R s m args below meth c cells slots D cy ad z0 cs A QQ mid pc' ls' st' σ' τ') : mj_W p l e R s m args below meth c cells slots D cy ad z0 cs A QQ mid pc ls st σ τ := by
  simp only [mj_do] at h
  split at h
  · cases h
    intro H locs la hr hl hn
    exact lv_ishr F.2.1 rfl hd (k H locs la hr hl hn)
  · cases h
theorem mj_s_land (F : mj_fr p l R s m args meth c cells slots D cy ad z0 cs A mid M) (hd : decode c.code pc = .ok (.land, 1)) (h : mj_do mid (.land) (pc + 1) ls st σ τ = some (.inl (pc', ls', st', σ', τ'))) (k : mj_W p l e R s m args below meth c cells slots D cy ad z0 cs A QQ mid pc' ls' st' σ' τ') : mj_W p l e R s m args below meth c cells slots D cy ad z0 cs A QQ mid pc ls st σ τ := by
  simp only [mj_do] at h
  split at h
  · cases h
    intro H locs la hr hl hn
    exact lv_land F.2.1 rfl hd (k H locs la hr hl hn)
  · cases h
theorem mj_s_lor (F : mj_fr p l R s m args meth c cells slots D cy ad z0 cs A mid M) (hd : decode c.code pc = .ok (.lor, 1)) (h : mj_do mid (.lor) (pc + 1) ls st σ τ = some (.inl (pc', ls', st', σ', τ'))) (k : mj_W p l e R s m args below meth c cells slots D cy ad z0 cs A QQ mid pc' ls' st' σ' τ') : mj_W p l e R s m args below meth c cells slots D cy ad z0 cs A QQ mid pc ls st σ τ := by
  simp only [mj_do] at h
  split at h
  · cases h
    intro H locs la hr hl hn
    exact lv_lor F.2.1 rfl hd (k H locs la hr hl hn)
  · cases h
theorem mj_s_ineg (F : mj_fr p l R s m args meth c cells slots D cy ad z0 cs A mid M) (hd : decode c.code pc = .ok (.ineg, 1)) (h : mj_do mid (.ineg) (pc + 1) ls st σ τ = some (.inl (pc', ls', st', σ', τ'))) (k : mj_W p l e R s m args below meth c cells slots D cy ad z0 cs A QQ mid pc' ls' st' σ' τ') : mj_W p l e R s m args below meth c cells slots D cy ad z0 cs A QQ mid pc ls st σ τ := by
  simp only [mj_do] at h
  split at h
  · cases h
    intro H locs la hr hl hn
    exact lv_ineg F.2.1 rfl hd (k H locs la hr hl hn)
  · cases h
theorem mj_s_iushr (F : mj_fr p l R s m args meth c cells slots D cy ad z0 cs A mid M) (hd : decode c.code pc = .ok (.iushr, 1)) (h : mj_do mid (.iushr) (pc + 1) ls st σ τ = some (.inl (pc', ls', st', σ', τ'))) (k : mj_W p l e R s m args below meth c cells slots D cy ad z0 cs A QQ mid pc' ls' st' σ' τ') : mj_W p l e R s m args below meth c cells slots D cy ad z0 cs A QQ mid pc ls st σ τ := by
  simp only [mj_do] at h
  split at h
  · cases h
    intro H locs la hr hl hn
    exact lv_iushr F.2.1 rfl hd rfl (k H locs la hr hl hn)
  · cases h
theorem mj_s_i2l (F : mj_fr p l R s m args meth c cells slots D cy ad z0 cs A mid M) (hd : decode c.code pc = .ok (.i2l, 1)) (h : mj_do mid (.i2l) (pc + 1) ls st σ τ = some (.inl (pc', ls', st', σ', τ'))) (k : mj_W p l e R s m args below meth c cells slots D cy ad z0 cs A QQ mid pc' ls' st' σ' τ') : mj_W p l e R s m args below meth c cells slots D cy ad z0 cs A QQ mid pc ls st σ τ := by
  simp only [mj_do] at h
  split at h
  · cases h
    intro H locs la hr hl hn
    exact lv_i2l F.2.1 rfl hd rfl (k H locs la hr hl hn)
  · cases h
theorem mj_s_l2i (F : mj_fr p l R s m args meth c cells slots D cy ad z0 cs A mid M) (hd : decode c.code pc = .ok (.l2i, 1)) (h : mj_do mid (.l2i) (pc + 1) ls st σ τ = some (.inl (pc', ls', st', σ', τ'))) (k : mj_W p l e R s m args below meth c cells slots D cy ad z0 cs A QQ mid pc' ls' st' σ' τ') : mj_W p l e R s m args below meth c cells slots D cy ad z0 cs A QQ mid pc ls st σ τ := by
  simp only [mj_do] at h
  split at h
  · cases h
    intro H locs la hr hl hn
    exact lv_l2i F.2.1 rfl hd rfl (k H locs la hr hl hn)
  · cases h
theorem mj_s_i2b (F : mj_fr p l R s m args meth c cells slots D cy ad z0 cs A mid M) (hd : decode c.code pc = .ok (.i2b, 1)) (h : mj_do mid (.i2b) (pc + 1) ls st σ τ = some (.inl (pc', ls', st', σ', τ'))) (k : mj_W p l e R s m args below meth c cells slots D cy ad z0 cs A QQ mid pc' ls' st' σ' τ') : mj_W p l e R s m args below meth c cells slots D cy ad z0 cs A QQ mid pc ls st σ τ := by
  simp only [mj_do] at h
  split at h
  · cases h
    intro H locs la hr hl hn
    exact lv_i2b F.2.1 rfl hd rfl (k H locs la hr hl hn)
  · cases h
theorem mj_s_i2s (F : mj_fr p l R s m args meth c cells slots D cy ad z0 cs A mid M) (hd : decode c.code pc = .ok (.i2s, 1)) (h : mj_do mid (.i2s) (pc + 1) ls st σ τ = some (.inl (pc', ls', st', σ', τ'))) (k : mj_W p l e R s m args below meth c cells slots D cy ad z0 cs A QQ mid pc' ls' st' σ' τ') : mj_W p l e R s m args below meth c cells slots D cy ad z0 cs A QQ mid pc ls st σ τ := by
  simp only [mj_do] at h
  split at h
  · cases h
    intro H locs la hr hl hn
    exact lv_i2s F.2.1 rfl hd rfl (k H locs la hr hl hn)
  · cases h
theorem mj_s_i2c (F : mj_fr p l R s m args meth c cells slots D cy ad z0 cs A mid M) (hd : decode c.code pc = .ok (.i2c, 1)) (h : mj_do mid (.i2c) (pc + 1) ls st σ τ = some (.inl (pc', ls', st', σ', τ'))) (k : mj_W p l e R s m args below meth c cells slots D cy ad z0 cs A QQ mid pc' ls' st' σ' τ') : mj_W p l e R s m args below meth c cells slots D cy ad z0 cs A QQ mid pc ls st σ τ := by
  simp only [mj_do] at h
  split at h
  · cases h
    intro H locs la hr hl hn
    exact lv_i2c F.2.1 rfl hd rfl (k H locs la hr hl hn)
  · cases h
theorem mj_s_lshl (F : mj_fr p l R s m args meth c cells slots D cy ad z0 cs A mid M) (hd : decode c.code pc = .ok (.lshl, 1)) (h : mj_do mid (.lshl) (pc + 1) ls st σ τ = some (.inl (pc', ls', st', σ', τ'))) (k : mj_W p l e R s m args below meth c cells slots D cy ad z0 cs A QQ mid pc' ls' st' σ' τ') : mj_W p l e R s m args below meth c cells slots D cy ad z0 cs A QQ mid pc ls st σ τ := by
  simp only [mj_do] at h
  split at h
  · cases h
    intro H locs la hr hl hn
    exact lv_lshl F.2.1 rfl hd rfl (k H locs la hr hl hn)
  · cases h
theorem mj_s_lcmp (F : mj_fr p l R s m args meth c cells slots D cy ad z0 cs A mid M) (hd : decode c.code pc = .ok (.lcmp, 1)) (h : mj_do mid (.lcmp) (pc + 1) ls st σ τ = some (.inl (pc', ls', st', σ', τ'))) (k : mj_W p l e R s m args below meth c cells slots D cy ad z0 cs A QQ mid pc' ls' st' σ' τ') : mj_W p l e R s m args below meth c cells slots D cy ad z0 cs A QQ mid pc ls st σ τ := by
  simp only [mj_do] at h
  split at h
  · cases h
    intro H locs la hr hl hn
    exact W.lcmp F.2.1 rfl hd (k H locs la hr hl hn)
  · cases h
theorem mj_s_idiv (F : mj_fr p l R s m args meth c cells slots D cy ad z0 cs A mid M) (hd : decode c.code pc = .ok (.idiv, 1)) (h : mj_do mid (.idiv) (pc + 1) ls st σ τ = some (.inl (pc', ls', st', σ', τ'))) (k : mj_W p l e R s m args below meth c cells slots D cy ad z0 cs A QQ mid pc' ls' st' σ' τ') : mj_W p l e R s m args below meth c cells slots D cy ad z0 cs A QQ mid pc ls st σ τ := by
  simp only [mj_do] at h
  split at h
  · split at h
    · cases h
    · rename_i h0
      cases h
      intro H locs la hr hl hn
      exact lv_idiv F.2.1 rfl hd h0 (k H locs la hr hl hn)
  · cases h
theorem mj_s_irem (F : mj_fr p l R s m args meth c cells slots D cy ad z0 cs A mid M) (hd : decode c.code pc = .ok (.irem, 1)) (h : mj_do mid (.irem) (pc + 1) ls st σ τ = some (.inl (pc', ls', st', σ', τ'))) (k : mj_W p l e R s m args below meth c cells slots D cy ad z0 cs A QQ mid pc' ls' st' σ' τ') : mj_W p l e R s m args below meth c cells slots D cy ad z0 cs A QQ mid pc ls st σ τ := by
  simp only [mj_do] at h
  split at h
  · split at h
    · cases h
    · rename_i h0
      cases h
      intro H locs la hr hl hn
      exact lv_irem F.2.1 rfl hd h0 (k H locs la hr hl hn)
  · cases h
theorem mj_s_dup (F : mj_fr p l R s m args meth c cells slots D cy ad z0 cs A mid M) (hd : decode c.code pc = .ok (.dup, 1)) (h : mj_do mid (.dup) (pc + 1) ls st σ τ = some (.inl (pc', ls', st', σ', τ'))) (k : mj_W p l e R s m args below meth c cells slots D cy ad z0 cs A QQ mid pc' ls' st' σ' τ') : mj_W p l e R s m args below meth c cells slots D cy ad z0 cs A QQ mid pc ls st σ τ := by
  simp only [mj_do] at h
  split at h
  · cases h
    intro H locs la hr hl hn
    exact lv_dup F.2.1 rfl hd rfl (k H locs la hr hl hn)
  · cases h
    intro H locs la hr hl hn
    exact lv_dup F.2.1 rfl hd rfl (k H locs la hr hl hn)
  · cases h
theorem mj_s_pop (F : mj_fr p l R s m args meth c cells slots D cy ad z0 cs A mid M) (hd : decode c.code pc = .ok (.pop, 1)) (h : mj_do mid (.pop) (pc + 1) ls st σ τ = some (.inl (pc', ls', st', σ', τ'))) (k : mj_W p l e R s m args below meth c cells slots D cy ad z0 cs A QQ mid pc' ls' st' σ' τ') : mj_W p l e R s m args below meth c cells slots D cy ad z0 cs A QQ mid pc ls st σ τ := by
  simp only [mj_do] at h
  split at h
  · cases h
    intro H locs la hr hl hn
    exact lv_pop F.2.1 rfl hd rfl (k H locs la hr hl hn)
  · cases h
    intro H locs la hr hl hn
    exact lv_pop F.2.1 rfl hd rfl (k H locs la hr hl hn)
  · cases h
theorem mj_s_dup2 (F : mj_fr p l R s m args meth c cells slots D cy ad z0 cs A mid M) (hd : decode c.code pc = .ok (.dup2, 1)) (h : mj_do mid (.dup2) (pc + 1) ls st σ τ = some (.inl (pc', ls', st', σ', τ'))) (k : mj_W p l e R s m args below meth c cells slots D cy ad z0 cs A QQ mid pc' ls' st' σ' τ') : mj_W p l e R s m args below meth c cells slots D cy ad z0 cs A QQ mid pc ls st σ τ := by
  simp only [mj_do] at h
  split at h
  · cases h
    intro H locs la hr hl hn
    exact lv_dup2_11 F.2.1 rfl hd rfl rfl (k H locs la hr hl hn)
  · cases h
theorem mj_s_dup_x1 (F : mj_fr p l R s m args meth c cells slots D cy ad z0 cs A mid M) (hd : decode c.code pc = .ok (.dup_x1, 1)) (h : mj_do mid (.dup_x1) (pc + 1) ls st σ τ = some (.inl (pc', ls', st', σ', τ'))) (k : mj_W p l e R s m args below meth c cells slots D cy ad z0 cs A QQ mid pc' ls' st' σ' τ') : mj_W p l e R s m args below meth c cells slots D cy ad z0 cs A QQ mid pc ls st σ τ := by
  simp only [mj_do] at h
  split at h
  · cases h
    intro H locs la hr hl hn
    exact lv_dup_x1 F.2.1 rfl hd rfl rfl (k H locs la hr hl hn)
  · cases h
theorem mj_s_iconst (F : mj_fr p l R s m args meth c cells slots D cy ad z0 cs A mid M) {z : Int} (hd : decode c.code pc = .ok (.iconst z, 1)) (h : mj_do mid (.iconst z) (pc + 1) ls st σ τ = some (.inl (pc', ls', st', σ', τ'))) (k : mj_W p l e R s m args below meth c cells slots D cy ad z0 cs A QQ mid pc' ls' st' σ' τ') : mj_W p l e R s m args below meth c cells slots D cy ad z0 cs A QQ mid pc ls st σ τ := by
  simp only [mj_do] at h
  cases h
  intro H locs la hr hl hn
  exact lv_iconst F.2.1 rfl hd rfl (k H locs la hr hl hn)
theorem mj_s_bipush (F : mj_fr p l R s m args meth c cells slots D cy ad z0 cs A mid M) {z : Int} (hz : (Int8.ofInt z).toInt32 = Int32.ofInt z) (hd : decode c.code pc = .ok (.bipush z, 2)) (h : mj_do mid (.iconst z) (pc + 2) ls st σ τ = some (.inl (pc', ls', st', σ', τ'))) (k : mj_W p l e R s m args below meth c cells slots D cy ad z0 cs A QQ mid pc' ls' st' σ' τ') : mj_W p l e R s m args below meth c cells slots D cy ad z0 cs A QQ mid pc ls st σ τ := by
  simp only [mj_do] at h
  cases h
  intro H locs la hr hl hn
  exact lv_bipush F.2.1 rfl hd hz (k H locs la hr hl hn)
theorem mj_s_sipush (F : mj_fr p l R s m args meth c cells slots D cy ad z0 cs A mid M) {z : Int} (hz : (Int16.ofInt z).toInt32 = Int32.ofInt z) (hd : decode c.code pc = .ok (.sipush z, 3)) (h : mj_do mid (.iconst z) (pc + 3) ls st σ τ = some (.inl (pc', ls', st', σ', τ'))) (k : mj_W p l e R s m args below meth c cells slots D cy ad z0 cs A QQ mid pc' ls' st' σ' τ') : mj_W p l e R s m args below meth c cells slots D cy ad z0 cs A QQ mid pc ls st σ τ := by
  simp only [mj_do] at h
  cases h
  intro H locs la hr hl hn
  exact lv_sipush F.2.1 rfl hd hz (k H locs la hr hl hn)
theorem mj_s_lconst (F : mj_fr p l R s m args meth c cells slots D cy ad z0 cs A mid M) {z : Fin 2} (hd : decode c.code pc = .ok (.lconst z, 1)) (h : mj_do mid (.lconst z) (pc + 1) ls st σ τ = some (.inl (pc', ls', st', σ', τ'))) (k : mj_W p l e R s m args below meth c cells slots D cy ad z0 cs A QQ mid pc' ls' st' σ' τ') : mj_W p l e R s m args below meth c cells slots D cy ad z0 cs A QQ mid pc ls st σ τ := by
  simp only [mj_do] at h
  cases h
  intro H locs la hr hl hn
  exact lv_lconst F.2.1 rfl hd rfl (k H locs la hr hl hn)
theorem mj_s_null (F : mj_fr p l R s m args meth c cells slots D cy ad z0 cs A mid M) (hd : decode c.code pc = .ok (.aconst_null, 1)) (h : mj_do mid (.aconst_null) (pc + 1) ls st σ τ = some (.inl (pc', ls', st', σ', τ'))) (k : mj_W p l e R s m args below meth c cells slots D cy ad z0 cs A QQ mid pc' ls' st' σ' τ') : mj_W p l e R s m args below meth c cells slots D cy ad z0 cs A QQ mid pc ls st σ τ := by
  simp only [mj_do] at h
  cases h
  intro H locs la hr hl hn
  exact lv_null F.2.1 rfl hd (k H locs la hr hl hn)
theorem mj_s_iload_n (F : mj_fr p l R s m args meth c cells slots D cy ad z0 cs A mid M) {x : Fin 4} (hd : decode c.code pc = .ok (.iload_n x, 1)) (h : mj_do mid (.iload x.val) (pc + 1) ls st σ τ = some (.inl (pc', ls', st', σ', τ'))) (k : mj_W p l e R s m args below meth c cells slots D cy ad z0 cs A QQ mid pc' ls' st' σ' τ') : mj_W p l e R s m args below meth c cells slots D cy ad z0 cs A QQ mid pc ls st σ τ := by
  simp only [mj_do] at h
  split at h
  · rename_i he
    cases h
    intro H locs la hr hl hn
    exact lv_iload_n F.2.1 rfl hd rfl (hl.2.2 _ _ he) (k H locs la hr hl hn)
  · cases h
theorem mj_s_iload (F : mj_fr p l R s m args meth c cells slots D cy ad z0 cs A mid M) {x : Nat} (hd : decode c.code pc = .ok (.iload x, 2)) (h : mj_do mid (.iload x) (pc + 2) ls st σ τ = some (.inl (pc', ls', st', σ', τ'))) (k : mj_W p l e R s m args below meth c cells slots D cy ad z0 cs A QQ mid pc' ls' st' σ' τ') : mj_W p l e R s m args below meth c cells slots D cy ad z0 cs A QQ mid pc ls st σ τ := by
  simp only [mj_do] at h
  split at h
  · rename_i he
    cases h
    intro H locs la hr hl hn
    exact lv_iload F.2.1 rfl hd (hl.2.2 _ _ he) (k H locs la hr hl hn)
  · cases h
theorem mj_s_lload_n (F : mj_fr p l R s m args meth c cells slots D cy ad z0 cs A mid M) {x : Fin 4} (hd : decode c.code pc = .ok (.lload_n x, 1)) (h : mj_do mid (.lload x.val) (pc + 1) ls st σ τ = some (.inl (pc', ls', st', σ', τ'))) (k : mj_W p l e R s m args below meth c cells slots D cy ad z0 cs A QQ mid pc' ls' st' σ' τ') : mj_W p l e R s m args below meth c cells slots D cy ad z0 cs A QQ mid pc ls st σ τ := by
  simp only [mj_do] at h
  split at h
  · rename_i he
    cases h
    intro H locs la hr hl hn
    exact lv_lload_n F.2.1 rfl hd rfl (hl.2.2 _ _ he) (k H locs la hr hl hn)
  · cases h
theorem mj_s_aload_n (F : mj_fr p l R s m args meth c cells slots D cy ad z0 cs A mid M) {x : Fin 4} (hd : decode c.code pc = .ok (.aload_n x, 1)) (h : mj_do mid (.aload x.val) (pc + 1) ls st σ τ = some (.inl (pc', ls', st', σ', τ'))) (k : mj_W p l e R s m args below meth c cells slots D cy ad z0 cs A QQ mid pc' ls' st' σ' τ') : mj_W p l e R s m args below meth c cells slots D cy ad z0 cs A QQ mid pc ls st σ τ := by
  simp only [mj_do] at h
  split at h
  · rename_i he
    cases h
    intro H locs la hr hl hn
    exact lv_aload_n F.2.1 rfl hd rfl (hl.2.2 _ _ he) (k H locs la hr hl hn)
  · rename_i he
    cases h
    intro H locs la hr hl hn
    exact lv_aload_nN F.2.1 rfl hd rfl (hl.2.2 _ _ he) (k H locs la hr hl hn)
  · cases h
theorem mj_s_aload (F : mj_fr p l R s m args meth c cells slots D cy ad z0 cs A mid M) {x : Nat} (hd : decode c.code pc = .ok (.aload x, 2)) (h : mj_do mid (.aload x) (pc + 2) ls st σ τ = some (.inl (pc', ls', st', σ', τ'))) (k : mj_W p l e R s m args below meth c cells slots D cy ad z0 cs A QQ mid pc' ls' st' σ' τ') : mj_W p l e R s m args below meth c cells slots D cy ad z0 cs A QQ mid pc ls st σ τ := by
  simp only [mj_do] at h
  split at h
  · rename_i he
    cases h
    intro H locs la hr hl hn
    exact lv_aload F.2.1 rfl hd (hl.2.2 _ _ he) (k H locs la hr hl hn)
  · rename_i he
    cases h
    intro H locs la hr hl hn
    exact lv_aloadN F.2.1 rfl hd (hl.2.2 _ _ he) (k H locs la hr hl hn)
  · cases h
theorem mj_nolong {ls : mj_L} {i : Nat} (h : ∀ (j : Nat) (v : Value), ls[j]? = some (some v) → v.category = 1) : mj_cat ls i := fun j v _ hv => h j v hv
theorem mj_nlcat {ls : mj_L} {i : Nat} (h : (∀ (j : Nat) (v : Value), ls[j]? = some (some v) → v.category = 1) ∨ mj_nlb ls i = true) : mj_cat ls i := by
  rcases h with h | h
  · exact mj_nolong h
  · intro j v hj hv
    subst hj
    simp only [mj_nlb, hv, beq_iff_eq] at h
    exact h
theorem mj_nl_set {ls : mj_L} {i : Nat} {v : Value} (hv : v.category = 1) (h : ∀ (j : Nat) (w : Value), ls[j]? = some (some w) → w.category = 1) : ∀ (j : Nat) (w : Value), (ls.set i (some v))[j]? = some (some w) → w.category = 1 := by
  intro j w hw
  rw [List.getElem?_set] at hw
  split at hw
  · split at hw
    · cases hw; exact hv
    · cases hw
  · exact h j w hw
theorem mj_s_istore_n (F : mj_fr p l R s m args meth c cells slots D cy ad z0 cs A mid M) {x : Fin 4} (hd : decode c.code pc = .ok (.istore_n x, 1)) (h : mj_do mid (.istore x.val) (pc + 1) ls st σ τ = some (.inl (pc', ls', st', σ', τ'))) (k : mj_W p l e R s m args below meth c cells slots D cy ad z0 cs A QQ mid pc' ls' st' σ' τ') : mj_W p l e R s m args below meth c cells slots D cy ad z0 cs A QQ mid pc ls st σ τ := by
  simp only [mj_do] at h
  split at h
  · split at h
    · rename_i hc
      cases h
      intro H locs la hr hl hn
      exact lv_istore_n F.2.1 rfl hd rfl (mj_as_has hl) hc.1 rfl (fun la' hl' => k H locs la' hr (mj_as_set (v := .int _) F.2.2.2.2.2.2.2.1.2.2.2.2.2.2.2 hc.1 (mj_nlcat (hc.2.imp hn.2 id)) hl' rfl) ⟨by rw [List.length_set]; exact hn.1, fun q => mj_nl_set rfl (hn.2 q)⟩)
    · cases h
  · cases h
theorem mj_s_istore (F : mj_fr p l R s m args meth c cells slots D cy ad z0 cs A mid M) {x : Nat} (hd : decode c.code pc = .ok (.istore x, 2)) (h : mj_do mid (.istore x) (pc + 2) ls st σ τ = some (.inl (pc', ls', st', σ', τ'))) (k : mj_W p l e R s m args below meth c cells slots D cy ad z0 cs A QQ mid pc' ls' st' σ' τ') : mj_W p l e R s m args below meth c cells slots D cy ad z0 cs A QQ mid pc ls st σ τ := by
  simp only [mj_do] at h
  split at h
  · split at h
    · rename_i hc
      cases h
      intro H locs la hr hl hn
      exact lv_istore F.2.1 rfl hd (mj_as_has hl) hc.1 rfl (fun la' hl' => k H locs la' hr (mj_as_set (v := .int _) F.2.2.2.2.2.2.2.1.2.2.2.2.2.2.2 hc.1 (mj_nlcat (hc.2.imp hn.2 id)) hl' rfl) ⟨by rw [List.length_set]; exact hn.1, fun q => mj_nl_set rfl (hn.2 q)⟩)
    · cases h
  · cases h
theorem mj_s_astore_n (F : mj_fr p l R s m args meth c cells slots D cy ad z0 cs A mid M) {x : Fin 4} (hd : decode c.code pc = .ok (.astore_n x, 1)) (h : mj_do mid (.astore x.val) (pc + 1) ls st σ τ = some (.inl (pc', ls', st', σ', τ'))) (k : mj_W p l e R s m args below meth c cells slots D cy ad z0 cs A QQ mid pc' ls' st' σ' τ') : mj_W p l e R s m args below meth c cells slots D cy ad z0 cs A QQ mid pc ls st σ τ := by
  simp only [mj_do] at h
  split at h
  · split at h
    · rename_i hc
      cases h
      intro H locs la hr hl hn
      exact lv_astore_n F.2.1 rfl hd rfl (mj_as_has hl) hc.1 rfl (fun la' hl' => k H locs la' hr (mj_as_set (v := .ref _) F.2.2.2.2.2.2.2.1.2.2.2.2.2.2.2 hc.1 (mj_nlcat (hc.2.imp hn.2 id)) hl' rfl) ⟨by rw [List.length_set]; exact hn.1, fun q => mj_nl_set rfl (hn.2 q)⟩)
    · cases h
  · split at h
    · rename_i hc
      cases h
      intro H locs la hr hl hn
      exact lv_astore_nN F.2.1 rfl hd rfl (mj_as_has hl) hc.1 rfl (fun la' hl' => k H locs la' hr (mj_as_set (v := .null) F.2.2.2.2.2.2.2.1.2.2.2.2.2.2.2 hc.1 (mj_nlcat (hc.2.imp hn.2 id)) hl' rfl) ⟨by rw [List.length_set]; exact hn.1, fun q => mj_nl_set rfl (hn.2 q)⟩)
    · cases h
  · cases h
theorem mj_s_astore (F : mj_fr p l R s m args meth c cells slots D cy ad z0 cs A mid M) {x : Nat} (hd : decode c.code pc = .ok (.astore x, 2)) (h : mj_do mid (.astore x) (pc + 2) ls st σ τ = some (.inl (pc', ls', st', σ', τ'))) (k : mj_W p l e R s m args below meth c cells slots D cy ad z0 cs A QQ mid pc' ls' st' σ' τ') : mj_W p l e R s m args below meth c cells slots D cy ad z0 cs A QQ mid pc ls st σ τ := by
  simp only [mj_do] at h
  split at h
  · split at h
    · rename_i hc
      cases h
      intro H locs la hr hl hn
      exact lv_astore F.2.1 rfl hd (mj_as_has hl) hc.1 rfl (fun la' hl' => k H locs la' hr (mj_as_set (v := .ref _) F.2.2.2.2.2.2.2.1.2.2.2.2.2.2.2 hc.1 (mj_nlcat (hc.2.imp hn.2 id)) hl' rfl) ⟨by rw [List.length_set]; exact hn.1, fun q => mj_nl_set rfl (hn.2 q)⟩)
    · cases h
  · split at h
    · rename_i hc
      cases h
      intro H locs la hr hl hn
      exact lv_astoreN F.2.1 rfl hd (mj_as_has hl) hc.1 rfl (fun la' hl' => k H locs la' hr (mj_as_set (v := .null) F.2.2.2.2.2.2.2.1.2.2.2.2.2.2.2 hc.1 (mj_nlcat (hc.2.imp hn.2 id)) hl' rfl) ⟨by rw [List.length_set]; exact hn.1, fun q => mj_nl_set rfl (hn.2 q)⟩)
    · cases h
  · cases h
theorem mj_s_iinc (F : mj_fr p l R s m args meth c cells slots D cy ad z0 cs A mid M) {x : Nat} {z : Int} (hd : decode c.code pc = .ok (.iinc x z, 3)) (h : mj_do mid (.iinc x z) (pc + 3) ls st σ τ = some (.inl (pc', ls', st', σ', τ'))) (k : mj_W p l e R s m args below meth c cells slots D cy ad z0 cs A QQ mid pc' ls' st' σ' τ') : mj_W p l e R s m args below meth c cells slots D cy ad z0 cs A QQ mid pc ls st σ τ := by
  simp only [mj_do] at h
  split at h
  · rename_i y he
    split at h
    · cases h
    · rename_i hc
      cases h
      intro H locs la hr hl hn
      have hlt := (List.getElem?_eq_some_iff.mp he).1
      obtain ⟨q, hq⟩ := List.getElem?_of_mem (mj_as_mem (ad := ad) (z0 := z0) he)
      have hlg : mj_lg mid = false := by simpa using hc
      exact lv_iinc F.2.1 rfl hd (mj_as_has hl) hq rfl hlt rfl (fun la' hl' => k H locs la' hr (mj_as_set (v := .int _) F.2.2.2.2.2.2.2.1.2.2.2.2.2.2.2 hlt (mj_nolong (hn.2 hlg)) hl' rfl) ⟨by rw [List.length_set]; exact hn.1, fun q => mj_nl_set rfl (hn.2 q)⟩)
  · cases h
theorem mj_s_goto (F : mj_fr p l R s m args meth c cells slots D cy ad z0 cs A mid M) {o : Int} (ho : 0 ≤ (pc : Int) + o) (hd : decode c.code pc = .ok (.goto o, 3)) (h : mj_do mid (.goto ((pc : Int) + o)) (pc + 3) ls st σ τ = some (.inl (pc', ls', st', σ', τ'))) (k : mj_W p l e R s m args below meth c cells slots D cy ad z0 cs A QQ mid pc' ls' st' σ' τ') : mj_W p l e R s m args below meth c cells slots D cy ad z0 cs A QQ mid pc ls st σ τ := by
  simp only [mj_do] at h
  cases h
  intro H locs la hr hl hn
  exact lv_goto F.2.1 rfl hd (by omega) (k H locs la hr hl hn)
theorem mj_s_if_eq (F : mj_fr p l R s m args meth c cells slots D cy ad z0 cs A mid M) {o : Int} (ho : 0 ≤ (pc : Int) + o) (hd : decode c.code pc = .ok (.ifCond .eq o, 3)) (h : mj_do mid (.ifCond .eq ((pc : Int) + o)) (pc + 3) ls st σ τ = some (.inl (pc', ls', st', σ', τ'))) (k : mj_W p l e R s m args below meth c cells slots D cy ad z0 cs A QQ mid pc' ls' st' σ' τ') : mj_W p l e R s m args below meth c cells slots D cy ad z0 cs A QQ mid pc ls st σ τ := by
  simp only [mj_do] at h
  split at h
  · rename_i x r
    cases h
    intro H locs la hr hl hn
    refine lv_if_eq (tgt := ((pc : Int) + o).toNat) F.2.1 rfl hd (by omega) (fun hc => ?_) (fun hc => ?_)
    · have k2 := k H locs la hr hl hn
      rw [if_pos (show mj_cd .eq x 0 = true from decide_eq_true hc)] at k2
      exact k2
    · have k2 := k H locs la hr hl hn
      rw [if_neg (show ¬ mj_cd .eq x 0 = true from fun z => hc (of_decide_eq_true z))] at k2
      exact k2
  · cases h
theorem mj_s_icmp_eq (F : mj_fr p l R s m args meth c cells slots D cy ad z0 cs A mid M) {o : Int} (ho : 0 ≤ (pc : Int) + o) (hd : decode c.code pc = .ok (.if_icmp .eq o, 3)) (h : mj_do mid (.if_icmp .eq ((pc : Int) + o)) (pc + 3) ls st σ τ = some (.inl (pc', ls', st', σ', τ'))) (k : mj_W p l e R s m args below meth c cells slots D cy ad z0 cs A QQ mid pc' ls' st' σ' τ') : mj_W p l e R s m args below meth c cells slots D cy ad z0 cs A QQ mid pc ls st σ τ := by
  simp only [mj_do] at h
  split at h
  · rename_i y x r
    cases h
    intro H locs la hr hl hn
    refine lv_icmp_eq (tgt := ((pc : Int) + o).toNat) F.2.1 rfl hd (by omega) (fun hc => ?_) (fun hc => ?_)
    · have k2 := k H locs la hr hl hn
      rw [if_pos (show mj_cd .eq x y = true from decide_eq_true hc)] at k2
      exact k2
    · have k2 := k H locs la hr hl hn
      rw [if_neg (show ¬ mj_cd .eq x y = true from fun z => hc (of_decide_eq_true z))] at k2
      exact k2
  · cases h
theorem mj_s_if_ne (F : mj_fr p l R s m args meth c cells slots D cy ad z0 cs A mid M) {o : Int} (ho : 0 ≤ (pc : Int) + o) (hd : decode c.code pc = .ok (.ifCond .ne o, 3)) (h : mj_do mid (.ifCond .ne ((pc : Int) + o)) (pc + 3) ls st σ τ = some (.inl (pc', ls', st', σ', τ'))) (k : mj_W p l e R s m args below meth c cells slots D cy ad z0 cs A QQ mid pc' ls' st' σ' τ') : mj_W p l e R s m args below meth c cells slots D cy ad z0 cs A QQ mid pc ls st σ τ := by
  simp only [mj_do] at h
  split at h
  · rename_i x r
    cases h
    intro H locs la hr hl hn
    refine lv_if_ne (tgt := ((pc : Int) + o).toNat) F.2.1 rfl hd (by omega) (fun hc => ?_) (fun hc => ?_)
    · have k2 := k H locs la hr hl hn
      rw [if_pos (show mj_cd .ne x 0 = true from decide_eq_true hc)] at k2
      exact k2
    · have k2 := k H locs la hr hl hn
      rw [if_neg (show ¬ mj_cd .ne x 0 = true from fun z => (of_decide_eq_true z) hc)] at k2
      exact k2
  · cases h
theorem mj_s_icmp_ne (F : mj_fr p l R s m args meth c cells slots D cy ad z0 cs A mid M) {o : Int} (ho : 0 ≤ (pc : Int) + o) (hd : decode c.code pc = .ok (.if_icmp .ne o, 3)) (h : mj_do mid (.if_icmp .ne ((pc : Int) + o)) (pc + 3) ls st σ τ = some (.inl (pc', ls', st', σ', τ'))) (k : mj_W p l e R s m args below meth c cells slots D cy ad z0 cs A QQ mid pc' ls' st' σ' τ') : mj_W p l e R s m args below meth c cells slots D cy ad z0 cs A QQ mid pc ls st σ τ := by
  simp only [mj_do] at h
  split at h
  · rename_i y x r
    cases h
    intro H locs la hr hl hn
    refine lv_icmp_ne (tgt := ((pc : Int) + o).toNat) F.2.1 rfl hd (by omega) (fun hc => ?_) (fun hc => ?_)
    · have k2 := k H locs la hr hl hn
      rw [if_pos (show mj_cd .ne x y = true from decide_eq_true hc)] at k2
      exact k2
    · have k2 := k H locs la hr hl hn
      rw [if_neg (show ¬ mj_cd .ne x y = true from fun z => (of_decide_eq_true z) hc)] at k2
      exact k2
  · cases h
theorem mj_s_if_lt (F : mj_fr p l R s m args meth c cells slots D cy ad z0 cs A mid M) {o : Int} (ho : 0 ≤ (pc : Int) + o) (hd : decode c.code pc = .ok (.ifCond .lt o, 3)) (h : mj_do mid (.ifCond .lt ((pc : Int) + o)) (pc + 3) ls st σ τ = some (.inl (pc', ls', st', σ', τ'))) (k : mj_W p l e R s m args below meth c cells slots D cy ad z0 cs A QQ mid pc' ls' st' σ' τ') : mj_W p l e R s m args below meth c cells slots D cy ad z0 cs A QQ mid pc ls st σ τ := by
  simp only [mj_do] at h
  split at h
  · rename_i x r
    cases h
    intro H locs la hr hl hn
    refine lv_if_lt (tgt := ((pc : Int) + o).toNat) F.2.1 rfl hd (by omega) (fun hc => ?_) (fun hc => ?_)
    · have k2 := k H locs la hr hl hn
      rw [if_pos (show mj_cd .lt x 0 = true from decide_eq_true hc)] at k2
      exact k2
    · have k2 := k H locs la hr hl hn
      rw [if_neg (show ¬ mj_cd .lt x 0 = true from fun z => hc (of_decide_eq_true z))] at k2
      exact k2
  · cases h
theorem mj_s_icmp_lt (F : mj_fr p l R s m args meth c cells slots D cy ad z0 cs A mid M) {o : Int} (ho : 0 ≤ (pc : Int) + o) (hd : decode c.code pc = .ok (.if_icmp .lt o, 3)) (h : mj_do mid (.if_icmp .lt ((pc : Int) + o)) (pc + 3) ls st σ τ = some (.inl (pc', ls', st', σ', τ'))) (k : mj_W p l e R s m args below meth c cells slots D cy ad z0 cs A QQ mid pc' ls' st' σ' τ') : mj_W p l e R s m args below meth c cells slots D cy ad z0 cs A QQ mid pc ls st σ τ := by
  simp only [mj_do] at h
  split at h
  · rename_i y x r
    cases h
    intro H locs la hr hl hn
    refine lv_icmp_lt (tgt := ((pc : Int) + o).toNat) F.2.1 rfl hd (by omega) (fun hc => ?_) (fun hc => ?_)
    · have k2 := k H locs la hr hl hn
      rw [if_pos (show mj_cd .lt x y = true from decide_eq_true hc)] at k2
      exact k2
    · have k2 := k H locs la hr hl hn
      rw [if_neg (show ¬ mj_cd .lt x y = true from fun z => hc (of_decide_eq_true z))] at k2
      exact k2
  · cases h
theorem mj_s_if_ge (F : mj_fr p l R s m args meth c cells slots D cy ad z0 cs A mid M) {o : Int} (ho : 0 ≤ (pc : Int) + o) (hd : decode c.code pc = .ok (.ifCond .ge o, 3)) (h : mj_do mid (.ifCond .ge ((pc : Int) + o)) (pc + 3) ls st σ τ = some (.inl (pc', ls', st', σ', τ'))) (k : mj_W p l e R s m args below meth c cells slots D cy ad z0 cs A QQ mid pc' ls' st' σ' τ') : mj_W p l e R s m args below meth c cells slots D cy ad z0 cs A QQ mid pc ls st σ τ := by
  simp only [mj_do] at h
  split at h
  · rename_i x r
    cases h
    intro H locs la hr hl hn
    refine lv_if_ge (tgt := ((pc : Int) + o).toNat) F.2.1 rfl hd (by omega) (fun hc => ?_) (fun hc => ?_)
    · have k2 := k H locs la hr hl hn
      rw [if_pos (show mj_cd .ge x 0 = true from decide_eq_true hc)] at k2
      exact k2
    · have k2 := k H locs la hr hl hn
      rw [if_neg (show ¬ mj_cd .ge x 0 = true from fun z => hc (of_decide_eq_true z))] at k2
      exact k2
  · cases h
theorem mj_s_icmp_ge (F : mj_fr p l R s m args meth c cells slots D cy ad z0 cs A mid M) {o : Int} (ho : 0 ≤ (pc : Int) + o) (hd : decode c.code pc = .ok (.if_icmp .ge o, 3)) (h : mj_do mid (.if_icmp .ge ((pc : Int) + o)) (pc + 3) ls st σ τ = some (.inl (pc', ls', st', σ', τ'))) (k : mj_W p l e R s m args below meth c cells slots D cy ad z0 cs A QQ mid pc' ls' st' σ' τ') : mj_W p l e R s m args below meth c cells slots D cy ad z0 cs A QQ mid pc ls st σ τ := by
  simp only [mj_do] at h
  split at h
  · rename_i y x r
    cases h
    intro H locs la hr hl hn
    refine lv_icmp_ge (tgt := ((pc : Int) + o).toNat) F.2.1 rfl hd (by omega) (fun hc => ?_) (fun hc => ?_)
    · have k2 := k H locs la hr hl hn
      rw [if_pos (show mj_cd .ge x y = true from decide_eq_true hc)] at k2
      exact k2
    · have k2 := k H locs la hr hl hn
      rw [if_neg (show ¬ mj_cd .ge x y = true from fun z => hc (of_decide_eq_true z))] at k2
      exact k2
  · cases h
theorem mj_s_if_gt (F : mj_fr p l R s m args meth c cells slots D cy ad z0 cs A mid M) {o : Int} (ho : 0 ≤ (pc : Int) + o) (hd : decode c.code pc = .ok (.ifCond .gt o, 3)) (h : mj_do mid (.ifCond .gt ((pc : Int) + o)) (pc + 3) ls st σ τ = some (.inl (pc', ls', st', σ', τ'))) (k : mj_W p l e R s m args below meth c cells slots D cy ad z0 cs A QQ mid pc' ls' st' σ' τ') : mj_W p l e R s m args below meth c cells slots D cy ad z0 cs A QQ mid pc ls st σ τ := by
  simp only [mj_do] at h
  split at h
  · rename_i x r
    cases h
    intro H locs la hr hl hn
    refine lv_if_gt (tgt := ((pc : Int) + o).toNat) F.2.1 rfl hd (by omega) (fun hc => ?_) (fun hc => ?_)
    · have k2 := k H locs la hr hl hn
      rw [if_pos (show mj_cd .gt x 0 = true from decide_eq_true hc)] at k2
      exact k2
    · have k2 := k H locs la hr hl hn
      rw [if_neg (show ¬ mj_cd .gt x 0 = true from fun z => hc (of_decide_eq_true z))] at k2
      exact k2
  · cases h
theorem mj_s_icmp_gt (F : mj_fr p l R s m args meth c cells slots D cy ad z0 cs A mid M) {o : Int} (ho : 0 ≤ (pc : Int) + o) (hd : decode c.code pc = .ok (.if_icmp .gt o, 3)) (h : mj_do mid (.if_icmp .gt ((pc : Int) + o)) (pc + 3) ls st σ τ = some (.inl (pc', ls', st', σ', τ'))) (k : mj_W p l e R s m args below meth c cells slots D cy ad z0 cs A QQ mid pc' ls' st' σ' τ') : mj_W p l e R s m args below meth c cells slots D cy ad z0 cs A QQ mid pc ls st σ τ := by
  simp only [mj_do] at h
  split at h
  · rename_i y x r
    cases h
    intro H locs la hr hl hn
    refine lv_icmp_gt (tgt := ((pc : Int) + o).toNat) F.2.1 rfl hd (by omega) (fun hc => ?_) (fun hc => ?_)
    · have k2 := k H locs la hr hl hn
      rw [if_pos (show mj_cd .gt x y = true from decide_eq_true hc)] at k2
      exact k2
    · have k2 := k H locs la hr hl hn
      rw [if_neg (show ¬ mj_cd .gt x y = true from fun z => hc (of_decide_eq_true z))] at k2
      exact k2
  · cases h
theorem mj_s_if_le (F : mj_fr p l R s m args meth c cells slots D cy ad z0 cs A mid M) {o : Int} (ho : 0 ≤ (pc : Int) + o) (hd : decode c.code pc = .ok (.ifCond .le o, 3)) (h : mj_do mid (.ifCond .le ((pc : Int) + o)) (pc + 3) ls st σ τ = some (.inl (pc', ls', st', σ', τ'))) (k : mj_W p l e R s m args below meth c cells slots D cy ad z0 cs A QQ mid pc' ls' st' σ' τ') : mj_W p l e R s m args below meth c cells slots D cy ad z0 cs A QQ mid pc ls st σ τ := by
  simp only [mj_do] at h
  split at h
  · rename_i x r
    cases h
    intro H locs la hr hl hn
    refine lv_if_le (tgt := ((pc : Int) + o).toNat) F.2.1 rfl hd (by omega) (fun hc => ?_) (fun hc => ?_)
    · have k2 := k H locs la hr hl hn
      rw [if_pos (show mj_cd .le x 0 = true from decide_eq_true hc)] at k2
      exact k2
    · have k2 := k H locs la hr hl hn
      rw [if_neg (show ¬ mj_cd .le x 0 = true from fun z => hc (of_decide_eq_true z))] at k2
      exact k2
  · cases h
theorem mj_s_icmp_le (F : mj_fr p l R s m args meth c cells slots D cy ad z0 cs A mid M) {o : Int} (ho : 0 ≤ (pc : Int) + o) (hd : decode c.code pc = .ok (.if_icmp .le o, 3)) (h : mj_do mid (.if_icmp .le ((pc : Int) + o)) (pc + 3) ls st σ τ = some (.inl (pc', ls', st', σ', τ'))) (k : mj_W p l e R s m args below meth c cells slots D cy ad z0 cs A QQ mid pc' ls' st' σ' τ') : mj_W p l e R s m args below meth c cells slots D cy ad z0 cs A QQ mid pc ls st σ τ := by
  simp only [mj_do] at h
  split at h
  · rename_i y x r
    cases h
    intro H locs la hr hl hn
    refine lv_icmp_le (tgt := ((pc : Int) + o).toNat) F.2.1 rfl hd (by omega) (fun hc => ?_) (fun hc => ?_)
    · have k2 := k H locs la hr hl hn
      rw [if_pos (show mj_cd .le x y = true from decide_eq_true hc)] at k2
      exact k2
    · have k2 := k H locs la hr hl hn
      rw [if_neg (show ¬ mj_cd .le x y = true from fun z => hc (of_decide_eq_true z))] at k2
      exact k2
  · cases h
theorem mj_s_ifnull (F : mj_fr p l R s m args meth c cells slots D cy ad z0 cs A mid M) {o : Int} (ho : 0 ≤ (pc : Int) + o) (hd : decode c.code pc = .ok (.ifnull o, 3)) (h : mj_do mid (.ifnull ((pc : Int) + o)) (pc + 3) ls st σ τ = some (.inl (pc', ls', st', σ', τ'))) (k : mj_W p l e R s m args below meth c cells slots D cy ad z0 cs A QQ mid pc' ls' st' σ' τ') : mj_W p l e R s m args below meth c cells slots D cy ad z0 cs A QQ mid pc ls st σ τ := by
  simp only [mj_do] at h
  split at h
  · cases h
    intro H locs la hr hl hn
    exact lv_ifnullN F.2.1 rfl hd (by omega) (k H locs la hr hl hn)
  · cases h
    intro H locs la hr hl hn
    exact lv_ifnull F.2.1 rfl hd (k H locs la hr hl hn)
  · cases h
theorem mj_s_ifnonnull (F : mj_fr p l R s m args meth c cells slots D cy ad z0 cs A mid M) {o : Int} (ho : 0 ≤ (pc : Int) + o) (hd : decode c.code pc = .ok (.ifnonnull o, 3)) (h : mj_do mid (.ifnonnull ((pc : Int) + o)) (pc + 3) ls st σ τ = some (.inl (pc', ls', st', σ', τ'))) (k : mj_W p l e R s m args below meth c cells slots D cy ad z0 cs A QQ mid pc' ls' st' σ' τ') : mj_W p l e R s m args below meth c cells slots D cy ad z0 cs A QQ mid pc ls st σ τ := by
  simp only [mj_do] at h
  split at h
  · cases h
    intro H locs la hr hl hn
    exact lv_ifnonnull F.2.1 rfl hd (by omega) (k H locs la hr hl hn)
  · cases h
    intro H locs la hr hl hn
    exact lv_ifnonnullN F.2.1 rfl hd (k H locs la hr hl hn)
  · cases h
theorem mj_s_table (F : mj_fr p l R s m args meth c cells slots D cy ad z0 cs A mid M) {d lo hi : Int} {os : Array Int} {n : Nat} (h0 : 0 ≤ (pc : Int) + d) (hos : ∀ o ∈ os.toList, 0 ≤ (pc : Int) + o) (hd : decode c.code pc = .ok (.tableswitch d lo hi os, n)) (h : mj_do mid (.tableswitch ((pc : Int) + d) lo hi (os.map (fun o => (pc : Int) + o))) (pc) ls st σ τ = some (.inl (pc', ls', st', σ', τ'))) (k : mj_W p l e R s m args below meth c cells slots D cy ad z0 cs A QQ mid pc' ls' st' σ' τ') : mj_W p l e R s m args below meth c cells slots D cy ad z0 cs A QQ mid pc ls st σ τ := by
  simp only [mj_do] at h
  split at h
  · split at h
    · rename_i hc
      cases h
      intro H locs la hr hl hn
      exact lv_tableOut F.2.1 rfl hd hc (by omega) (k H locs la hr hl hn)
    · rename_i hc
      split at h
      · rename_i t ht
        cases h
        intro H locs la hr hl hn
        rw [Array.getElem?_map] at ht
        obtain ⟨o, e1, e2⟩ := Option.map_eq_some_iff.mp ht
        subst e2
        have h0 : 0 ≤ (pc : Int) + o := hos o (by rw [← Array.getElem?_toList] at e1; exact List.mem_of_getElem? e1)
        exact lv_tableIn F.2.1 rfl hd (fun q => hc (Or.inl q)) (fun q => hc (Or.inr q)) e1 (by omega) (k H locs la hr hl hn)
      · cases h
  · cases h
theorem mj_off {ps : List (Int × Int)} {d x : Int} {q : Int → Prop} (hd : q d) (h : ∀ a ∈ ps, q a.2) : q (Op.lookupswitch.offset ps d x) := by
  induction ps with
  | nil => exact hd
  | cons a r ih =>
    obtain ⟨a1, a2⟩ := a
    rw [Op.lookupswitch.offset]
    split
    · exact h (a1, a2) List.mem_cons_self
    · exact ih (fun b hb => h b (List.mem_cons_of_mem _ hb))
theorem mj_s_lookup (F : mj_fr p l R s m args meth c cells slots D cy ad z0 cs A mid M) {d : Int} {ps : Array (Int × Int)} {n : Nat} (h0 : 0 ≤ (pc : Int) + d) (hps : ∀ a ∈ ps.toList, 0 ≤ (pc : Int) + a.2) (hso : (ps.toList.zip (ps.toList.drop 1)).all (fun (a, next) => a.1 < next.1) = true) (hd : decode c.code pc = .ok (.lookupswitch d ps, n)) (h : mj_do mid (.lookupswitch d ps) (pc) ls st σ τ = some (.inl (pc', ls', st', σ', τ'))) (k : mj_W p l e R s m args below meth c cells slots D cy ad z0 cs A QQ mid pc' ls' st' σ' τ') : mj_W p l e R s m args below meth c cells slots D cy ad z0 cs A QQ mid pc ls st σ τ := by
  simp only [mj_do] at h
  split at h
  · rename_i x r
    cases h
    intro H locs la hr hl hn
    have h3 : 0 ≤ (pc : Int) + Op.lookupswitch.offset ps.toList d x.toInt := mj_off (q := fun o => 0 ≤ (pc : Int) + o) h0 hps
    exact lv_lookup F.2.1 rfl hd hso rfl (by omega) (k H locs la hr hl hn)
  · cases h
end
