section
variable {p : Program} {l : Launch} {e : Env} {R : Room} {s : State} {m : MethodId} {args : Array Value} {below : List Frame} {meth : Method} {c : Code} {cells slots : Nat} {QQ : State → Prop}
variable {D : va_G} {cy : Nat → ClassId} {ad : Nat → Nat} {z0 : Value} {cs : mj_S} {A : Nat → Prop} {mid : Nat} {M : mj_M}
variable {pc pc' : Nat} {ls ls' : mj_L} {st st' : List Value} {σ σ' : mj_S} {τ τ' : mj_T}
def mj_rm (t : Nat) : Room := { frames := mj_h t, cells := 0, slots := 0, locals := 100 * mj_h t }
def mj_wY (Mt : mj_M) : List Cond := mj_cW Mt :: mj_tbl
def mj_PC (D : va_G) (cy : Nat → ClassId) (ad : Nat → Nat) (z0 : Value) (cs : mj_S) (as : List Value) (σ : mj_S) (τ : mj_T) (sz : Nat) : Array Value → State → Prop :=
  va_Pc (as.map (mj_cv ad z0)) (fun U => U.heap.size = sz ∧ va_P D vwCl (mj_ws ad cy σ τ) U.heap ∧ va_K D vwCl (mj_tys cy) U ∧ va_D (fun _ => True) (mj_ws ad cy σ τ) ∧ mj_sf ad z0 cs (va_A (mj_ws ad cy σ τ) sz) U U.heap ∧ ∀ k, 90 ≤ k → σ k = cs k)
def mj_QC (D : va_G) (cy : Nat → ClassId) (ad : Nat → Nat) (z0 : Value) (cs : mj_S) (v : Option Value) (σ : mj_S) (τ : mj_T) (A : Nat → Prop) : Array Value → State → Outcome → State → Prop :=
  fun _ st oc t => (oc = .returned (v.map (mj_cv ad z0)) ∧ va_P D vwCl (mj_ws ad cy σ τ) t.heap ∧ va_D A (mj_ws ad cy σ τ) ∧ ∀ k, 90 ≤ k → σ k = cs k) ∧ va_F A st t
def mj_snd (l : Launch) (D : va_G) (cy : Nat → ClassId) (ad : Nat → Nat) (z0 : Value) (cs : mj_S) (n : Nat) : Prop :=
  ∀ (mid pc : Nat) (ls : mj_L) (st : List Value) (σ : mj_S) (τ : mj_T) (v : Option Value) (σ' : mj_S) (τ' : mj_T), mj_run n mid pc ls st σ τ = some (v, σ', τ') →
  ∀ (p : Program) (e : Env) (R : Room) (s : State) (m : MethodId) (args : Array Value) (below : List Frame) (meth : Method) (c : Code) (cells slots : Nat) (A : Nat → Prop) (M : mj_M) (QQ : State → Prop), mj_fr p l R s m args meth c cells slots D cy ad z0 cs A mid M →
  (∀ (pc' : Nat) (H : Heap) (locs : List Loc) (la : Array Slot), mj_rel D cy ad cs A s H locs σ' τ' → mj_ri c M v pc' → W p l e R s m args below meth c H locs cells slots QQ (F0 m pc' la (v.toList.map (mj_cv ad z0)))) →
  mj_W p l e R s m args below meth c cells slots D cy ad z0 cs A QQ mid pc ls st σ τ
theorem mj_okP {ret : Option FieldType} {x : Int32} (h : mj_ok ret x = true) : ∃ ty, ret = some ty ∧ narrow ty (.int x) = .int x := by
  unfold mj_ok at h
  split at h
  · exact ⟨_, rfl, vp_nar_int x⟩
  · refine ⟨_, rfl, ?_⟩
    simp only [Bool.or_eq_true, beq_iff_eq] at h
    rcases h with rfl | rfl <;> rfl
  · refine ⟨_, rfl, ?_⟩
    simp only [Bool.and_eq_true, decide_eq_true_eq] at h
    have h0 : ¬ x < 0 := by rw [Int32.lt_iff_toInt_lt, Int32.toInt_zero]; omega
    obtain ⟨j, hj, rfl⟩ := nI_of h0
    rw [nI_toInt hj] at h
    exact (pk_charN (by omega)).1
  · refine ⟨_, rfl, ?_⟩
    simp only [Bool.and_eq_true, decide_eq_true_eq] at h
    show Value.int x.toInt8.toInt32 = .int x
    refine congrArg Value.int (Int32.toInt_inj.mp ?_)
    rw [Int8.toInt_toInt32, Int32.toInt_toInt8]
    have e8 : ((2 ^ 8 : Nat) : Int) = 256 := rfl
    simp only [Int.bmod, e8]
    split <;> omega
  · cases h
theorem mj_isRP {ret : Option FieldType} (h : mj_isR ret = true) : ∃ rt, ret = some rt ∧ ((∃ n, rt = .object n) ∨ ∃ t, rt = .array t) := by
  unfold mj_isR at h
  split at h
  · exact ⟨_, rfl, Or.inl ⟨_, rfl⟩⟩
  · exact ⟨_, rfl, Or.inr ⟨_, rfl⟩⟩
  · cases h
theorem mj_mWP {e : mj_M} {ps : List Nat} (h : mj_mW e ps = true) : Cond.initialized e.1.cls ∈ mj_tbl ∧ e.1.cls = mj_own e.2.2.2.2.1 ∧ plainName e.1.cls = true ∧ (e.1.cls ≠ "java/lang/invoke/MethodHandle" ∧ e.1.cls ≠ "java/lang/invoke/VarHandle") ∧ e.2.2.1 ≤ 21 ∧
    (parseMethodDescriptor e.1.desc).map (fun d => d.parameters.length) = some e.2.2.2.2.2.1 ∧ (e.2.2.2.2.2.2.1 = 30 → Cond.static e.1 ∈ mj_tbl) ∧ (e.2.2.2.2.2.2.1 ≠ 30 → Cond.instanceMethod e.1 ∈ mj_tbl ∧ Cond.selects e.1.cls e.1 e.1 ∈ mj_tbl ∧ (e.2.2.2.2.2.2.1 = 20 → e.1.cls = "java/lang/String") ∧ (e.2.2.2.2.2.2.1 ≠ 20 → e.1.cls = mj_clR e.2.2.2.2.2.2.1 ∧ e.2.2.2.2.2.2.1 < 8)) := by
  unfold mj_mW at h
  simp only [Bool.and_eq_true, decide_eq_true_eq] at h
  obtain ⟨⟨⟨⟨⟨⟨⟨h1, h2⟩, h3⟩, h4⟩, h5⟩, h6⟩, h7⟩, h8⟩ := h
  refine ⟨mj_inT_mem h1, h2, h3, h4, h5, h6, fun q => ?_, fun q => ?_⟩
  · rw [if_pos q] at h8; exact mj_inT_mem h8
  · rw [if_neg q] at h8
    simp only [Bool.and_eq_true] at h8
    refine ⟨mj_inT_mem h8.1.1, mj_inT_mem h8.1.2, fun z => ?_, fun z => ?_⟩
    · have := h8.2; rw [if_pos z] at this; exact of_decide_eq_true this
    · have := h8.2; rw [if_neg z] at this
      simp only [Bool.and_eq_true, decide_eq_true_eq] at this
      exact this
theorem mj_met (hz : z0 = .null ∨ ∃ a, z0 = .ref a) {n : Nat} (ih : mj_snd l D cy ad z0 cs n) {t : Nat} {Mt : mj_M} {as : List Value} {v : Option Value} (he : mj_e t = some Mt) (hl : mj_base t ≠ mj_law) (h1 : 1 ≤ mj_h t) (hlay : (mj_lay as).length ≤ Mt.2.2.1) (hlg : mj_lg t = false → ∀ w ∈ as, w.category = 1)
    (h : mj_run n t 0 (mj_ent (mj_ml t) as) [] σ τ = some (v, σ', τ')) (sz : Nat) : Met l Mt.1 (mj_wY Mt) (mj_rm t) (mj_PC D cy ad z0 cs as σ τ sz) (mj_QC D cy ad z0 cs v σ' τ' (va_A (mj_ws ad cy σ τ) sz)) 0 0 (va_A (mj_ws ad cy σ τ) sz) := by
  obtain ⟨hcw, ps, hps⟩ := mj_gM he hl
  obtain ⟨-, hcls, hpl, -⟩ := mj_mWP hps
  refine Met.ofW (cc := Mt.2.1) (maxL := Mt.2.2.1) (ret := Mt.2.2.2.1) hpl rfl ?_
  intro p e s m args below meth c s₁ B hml hv
  obtain ⟨rfl, hsz, hP, hK, hD0, hsf, hcs⟩ := hv
  subst hsz
  have hts := atoms_spec (ws := mj_wY Mt) B.pre
  have hown : s.vm.findClass (mj_own Mt.2.2.2.2.1) = some m.cls := by rw [← hcls]; exact findClass_of_methodNamed B.named
  have hlocks : meth.locks = false := B.notSynchronized
  rw [lg_entry_eq]
  obtain ⟨hlr, hlen, hmem⟩ := mj_ent_lr (ad := ad) hz (as := as) (n := Mt.2.2.1) hlay
  have hml2 : mj_ml t = Mt.2.2.1 := by unfold mj_ml; rw [he]
  rw [hml2] at h
  have F : mj_fr p l (mj_rm t) s m (as.map (mj_cv ad z0)).toArray meth c 0 0 D cy ad z0 cs (va_A (mj_ws ad cy σ τ) s.heap.size) t Mt :=
    ⟨he, B.exec, B.bytes, hml, hown, fun w hw => hts w (List.mem_cons_of_mem _ hw), hK, hsf, fun q hq => Or.inr hq, ⟨h1, Nat.le_refl _, Nat.le_refl _⟩, Nat.le_refl _, Nat.le_refl _⟩
  refine ih t 0 _ [] σ τ v σ' τ' h p e (mj_rm t) s m _ below meth c 0 0 _ Mt _ F ?_ s.heap [] _ ⟨hP, hD0.self, va_S.rf, hcs⟩ hlr ⟨by rw [hlen, hml], fun q i w hw => hlg q w (hmem i w hw)⟩
  intro pc' H locs la hr hri
  rcases hri with ⟨x, rfl, hd, ho⟩ | ⟨x, rfl, hd, ho⟩ | ⟨w, rfl, hd, ho, hw⟩ | ⟨rfl, hd, ho⟩
  · obtain ⟨ty, e1, e2⟩ := mj_okP ho
    exact W.zret (ty := ty) B.exec rfl (B.returns.trans e1) e2 (fun t ht hW => ⟨⟨rfl, by rw [ht]; exact hr.1, hr.2.1, hr.2.2.2⟩, hr.2.2.1.F ht⟩) hr.2.2.1.2.2 hd hlocks
  · exact W.lret B.exec rfl (B.returns.trans ho) (fun t ht hW => ⟨⟨rfl, by rw [ht]; exact hr.1, hr.2.1, hr.2.2.2⟩, hr.2.2.1.F ht⟩) hr.2.2.1.2.2 hd hlocks
  · obtain ⟨rt, e1, e2⟩ := mj_isRP ho
    refine W.aret B.exec rfl (B.returns.trans e1) e2 ?_ (fun t ht hW => ⟨⟨rfl, by rw [ht]; exact hr.1, hr.2.1, hr.2.2.2⟩, hr.2.2.1.F ht⟩) hr.2.2.1.2.2 hd hlocks
    rcases hw with rfl | ⟨q, rfl⟩
    · exact Or.inl rfl
    · exact Or.inr ⟨_, rfl⟩
  · exact W.vret B.exec rfl (B.returns.trans ho) (fun t ht hW => ⟨⟨rfl, by rw [ht]; exact hr.1, hr.2.1, hr.2.2.2⟩, hr.2.2.1.F ht⟩) hr.2.2.1.2.2 hd hlocks
theorem mj_after {H : Heap} {locs : List Loc} {la : Array Slot} {st0 rest : List Value} {a : Array Value} {v : Option Value} {A1 : Nat → Prop} (hr : va_Run p l e R s m args below meth c H locs cells slots 0 0 (F0 m pc la st0) rest (mj_QC D cy ad z0 cs v σ' τ' A1 a) A1) (hS : va_S A s.heap H locs) (hA : ∀ q, A1 q → A q)
    (hD : va_D A (mj_ws ad cy σ τ)) (kk : ∀ (H1 : Heap) (locs1 : List Loc), mj_rel D cy ad cs A s H1 locs1 σ' τ' → W p l e R s m args below meth c H1 locs1 cells slots QQ (F0 m (pc + 3) la ((v.map (mj_cv ad z0)).toList ++ rest))) : W p l e R s m args below meth c H locs cells slots QQ (F0 m pc la st0) := by
  intro T hT X
  obtain ⟨v', st₀, t, T', L, h0, X', hL, e1, e2, ⟨⟨hv, hp, hb, hcs⟩, hz, hk⟩, st⟩ := hr T hT X
  cases hv
  rw [h0] at hz hk
  obtain ⟨t2, a1, b1⟩ := kk T'.heap (locs ++ L) ⟨by rw [e1]; exact hp, hb.weaken (fun _ _ _ z => hA _ z), ⟨Nat.le_trans hS.1 (by rw [e1]; exact hz), fun q h1 h2 => by rw [e1, hk q (Nat.lt_of_lt_of_le h1 hS.1) (fun z => h2 (hA q z))]; exact hS.2.1 q h1 h2, fun q hq => by
      rcases List.mem_append.mp hq with h | h
      · exact hS.2.2 q h
      · exact hA _ (hL q h)⟩, hcs⟩ T' rfl X'
  exact ⟨t2, st t2 a1, b1⟩
theorem mj_good1 {w : Cond} (h : w ∈ mj_tbl) : w ∈ mj_tbl ∧ ((w.onTables && w.keeps) = true ∨ ∃ ty, w = .arrayClass ty) := ⟨h, mj_tbl_good w h⟩
theorem mj_wYgood {Mt : mj_M} (h : mj_cW Mt ∈ mj_tbl) : GoodIn mj_tbl (mj_wY Mt) := fun w hw => by
  rcases List.mem_cons.mp hw with rfl | hw
  · exact mj_good1 h
  · exact mj_good1 hw
theorem mj_PCblind {as : List Value} {sz : Nat} : FrameBlind (mj_PC D cy ad z0 cs as σ τ sz) := by
  intro a U g mk q
  obtain ⟨q0, q1, qP, qK, qD, qs, qc⟩ := q
  exact ⟨q0, q1, qP, va_K.moved (u := U) (U := U.calling g mk a) (Vm.Alike.refl U.vm) qK, qD, qs.same (U := U.calling g mk a) rfl, qc⟩
theorem mj_PCof (F : mj_fr p l R s m args meth c cells slots D cy ad z0 cs A mid M) {H : Heap} {locs : List Loc} (hr : mj_rel D cy ad cs A s H locs σ τ) {as : List Value} (U : State) (hU : U.heap = H) (hW : s.WarmedH U.vm) : mj_PC D cy ad z0 cs as σ τ H.size (as.map (mj_cv ad z0)).toArray U := by
  refine ⟨rfl, by rw [hU], by rw [hU]; exact hr.1, va_K.moved hW.alike F.2.2.2.2.2.2.1, hr.2.1.weaken (fun _ _ _ _ => trivial), ?_, hr.2.2.2⟩
  have h1 : mj_sf ad z0 cs A s H := F.2.2.2.2.2.2.2.1.kept hr.2.2.1.1 hr.2.2.1.2.1
  have h2 : mj_sf ad z0 cs (va_A (mj_ws ad cy σ τ) H.size) s H := h1.narrow (fun q hq => by
    rcases hq with ⟨k, e, hk⟩ | hq
    · exact hr.2.1.2 k _ hk
    · exact F.2.2.2.2.2.2.2.2.1 q (Nat.le_trans hr.2.2.1.1 hq))
  rw [hU]
  exact h2.moved hW
set_option maxHeartbeats 2000000 in
theorem mj_sound (hz : z0 = .null ∨ ∃ a, z0 = .ref a) : ∀ n, mj_snd l D cy ad z0 cs n := by
  intro n
  induction n with
  | zero => intro mid pc ls st σ τ v σ' τ' h; simp [mj_run] at h
  | succ n ih =>
    intro mid pc ls st σ τ v σ' τ' h p e R s m args below meth c cells slots A M QQ F hret
    rw [mj_run] at h
    split at h <;> rename_i hs
    · cases h
    · exact mj_sound_nx F hs (ih _ _ _ _ _ _ _ _ _ h p e R s m args below meth c cells slots A M QQ F hret)
    · cases h
      obtain ⟨hst, hri⟩ := mj_sound_rt F hs
      intro H locs la hr hl hn
      rw [hst]
      exact hret pc H locs la hr hri
    · rename_i t as np r
      split at h
      · cases h
      · rename_i v1 σ1 τ1 q
        obtain ⟨rfl, x, Mt, g1, g2, g3, g4, g5, g6, g7, g8⟩ := mj_sound_cl F hs
        obtain ⟨hcw, ps, hps⟩ := mj_gM g1 g2
        obtain ⟨w1, w2, w3, w4, w5, w6, w7, w8⟩ := mj_mWP hps
        intro H locs la hr hl hn
        have hM := mj_met (D := D) (cy := cy) (ad := ad) (cs := cs) (l := l) hz ih g1 g2 g3 g6 g7 q H.size
        have hA1 : ∀ a, va_A (mj_ws ad cy σ τ) H.size a → A a := fun a ha => by
          rcases ha with ⟨k, e, hk⟩ | ha
          · exact hr.2.1.2 k _ hk
          · exact F.2.2.2.2.2.2.2.2.1 a (Nat.le_trans hr.2.2.1.1 ha)
        have kk : ∀ (H1 : Heap) (locs1 : List Loc), mj_rel D cy ad cs A s H1 locs1 σ1 τ1 → W p l e R s m args below meth c H1 locs1 cells slots QQ (F0 m (pc + 3) la ((v1.map (mj_cv ad z0)).toList ++ r.map (mj_cv ad z0))) := by
          intro H1 locs1 r1
          have k1 := ih mid (pc + 3) ls (v1.toList ++ r) σ1 τ1 v σ' τ' h p e R s m args below meth c cells slots A M QQ F hret H1 locs1 la r1 hl hn
          rw [List.map_append] at k1
          cases v1 <;> exact k1
        have hfix : CallFix p m c c.code la.size s args mj_tbl (mj_own M.2.2.2.2.1) := ⟨F.2.1, rfl, by rw [← hn.1]; exact hl.1.symm, F.2.2.2.2.1, F.2.2.2.2.2.1⟩
        obtain ⟨z1, z2, z3⟩ := F.2.2.2.2.2.2.2.2.2.1
        have hroom : (mj_rm t).frames + 1 ≤ R.frames ∧ 8 + (Mt.2.2.1 + 11) + (mj_rm t).locals ≤ R.locals := by
          refine ⟨?_, ?_⟩
          · show mj_h t + 1 ≤ R.frames; omega
          · show 8 + (Mt.2.2.1 + 11) + 100 * mj_h t ≤ R.locals; omega
        have h8 := mj_sum4 (r := r.map (mj_cv ad z0)) (by rw [List.length_map]; exact g5)
        have hcs : cells + 0 ≤ R.cells ∧ slots + 0 ≤ R.slots := F.2.2.2.2.2.2.2.2.2.2
        rcases g8 with ⟨b, as', d1, d2, rfl, rfl, d5, d6, d7⟩ | ⟨d1, d2, rfl, d4, d5⟩
        · obtain ⟨e1, e2, e3, e4⟩ := w8 d6
          have hrecv : ∃ cellB : Cell, H[ad b]? = some cellB ∧ cellB.vm.isStatics = false ∧ s.vm.findClass Mt.1.cls = some cellB.cls := by
            unfold mj_rcv at d7
            by_cases hk : Mt.2.2.2.2.2.2.1 = 20
            · rw [if_pos hk] at d7
              simp only [Bool.and_eq_true, decide_eq_true_eq] at d7
              obtain ⟨i, rfl⟩ := Nat.exists_eq_add_of_le d7.1
              rw [e3 hk]
              exact vk_recv F.2.2.2.2.2.2.2.1.2.2.2.2.1 (i := i) (by omega) hr.2.2.1
            · rw [if_neg hk] at d7
              obtain ⟨f1, f2⟩ := e4 hk
              split at d7
              · rename_i c0 fs hsh
                have hc0 := beq_iff_eq.mp d7
                subst hc0
                have he := mj_ws_get (ad := ad) (cy := cy) (σ := σ) (τ := τ) (mj_sh_lt hsh)
                rw [mj_cell_o hsh] at he
                have := va_recv F.2.2.2.2.2.2.1 hr.1 (mj_cl_at f2) he
                rw [f1]
                exact this
              · cases d7
          have hcwV : CallW R s args (mj_own M.2.2.2.2.1) Mt.1.cls x Mt.1 Mt.2.1 Mt.2.2.1 Mt.2.2.2.1 (mj_wY Mt) (mj_rm t) 0 0 Mt.2.2.2.2.2.1 :=
            cwV (Ts := mj_tbl) _ F.2.2.2.2.2.1 (fun w hw => by
              rcases List.mem_append.mp hw with hw | hw
              · simp only [List.mem_cons, List.not_mem_nil, or_false] at hw
                rcases hw with rfl | rfl | rfl | rfl
                · exact mj_good1 d2
                · exact mj_good1 e1
                · exact mj_good1 e2
                · exact mj_good1 w1
              · exact mj_wYgood hcw w hw) rfl rfl rfl ⟨rfl, w4.1, w4.2, w6⟩ hroom
          have hrun := va_runV (cells := cells) (slots := slots) (locs := locs) (below := below) (meth := meth) (e := e) (g := F0 m pc la ((as'.reverse ++ .ref b :: r).map (mj_cv ad z0))) (b := ad b) (As := as'.map (mj_cv ad z0)) (rest := r.map (mj_cv ad z0)) hfix hM hcwV ⟨mj_PCblind, hrecv, fun U hU hW => mj_PCof F hr (as := .ref b :: as') U hU hW⟩ rfl (by rw [List.length_map]; exact d5) rfl (by simp [mj_cv]) (lv_room h8) d1 hcs
          exact mj_after hrun hr.2.2.1 hA1 hr.2.1 kk
        · have hst := w7 d2
          rcases d5 with d5 | d5
          · have hcwS := va_cwS (R := R) (s := s) (args := args) (own := mj_own M.2.2.2.2.1) (index := x) (y := Mt.1) (bytes := Mt.2.1) (maxL := Mt.2.2.1) (ret := Mt.2.2.2.1) (ws := mj_wY Mt) (rm := mj_rm t) (mc := 0) (ms := 0) (Ts := mj_tbl) _ F.2.2.2.2.2.1 (fun w hw => by
              rcases List.mem_append.mp hw with hw | hw
              · simp only [List.mem_cons, List.not_mem_nil, or_false] at hw
                rcases hw with rfl | rfl | rfl
                · exact mj_good1 d5
                · exact mj_good1 hst
                · exact mj_good1 w1
              · exact mj_wYgood hcw w hw) rfl rfl rfl ⟨w4.1, w4.2, w6⟩ hroom
            have hrun := va_runS (cells := cells) (slots := slots) (locs := locs) (below := below) (meth := meth) (e := e) (g := F0 m pc la ((as.reverse ++ r).map (mj_cv ad z0))) (As := as.map (mj_cv ad z0)) (rest := r.map (mj_cv ad z0)) hfix hM hcwS ⟨mj_PCblind, fun U hU hW => mj_PCof F hr U hU hW⟩ rfl (by rw [List.length_map]; exact d4) rfl (by simp) (lv_room h8) d1 hcs
            exact mj_after hrun hr.2.2.1 hA1 hr.2.1 kk
          · have hcn := va_cnB (R := R) (s := s) (args := args) (own := mj_own M.2.2.2.2.1) (index := x) (y := Mt.1) (bytes := Mt.2.1) (maxL := Mt.2.2.1) (ret := Mt.2.2.2.1) (ws := mj_wY Mt) (rm := mj_rm t) (mc := 0) (ms := 0) (Ts := mj_tbl) _ F.2.2.2.2.2.1 (mj_wYgood hcw) rfl rfl rfl d5 (F.2.2.2.2.2.1 _ w1) ⟨w4.1, w4.2, w6⟩ hroom
            have hrun := va_runSN (cells := cells) (slots := slots) (locs := locs) (below := below) (meth := meth) (e := e) (g := F0 m pc la ((as.reverse ++ r).map (mj_cv ad z0))) (As := as.map (mj_cv ad z0)) (rest := r.map (mj_cv ad z0)) hfix hM ⟨hcn, F.2.2.2.2.2.1 _ hst, trivial⟩ ⟨mj_PCblind, fun U hU hW => mj_PCof F hr U hU hW⟩ rfl (by rw [List.length_map]; exact d4) rfl (by simp) (lv_room h8) d1 hcs
            exact mj_after hrun hr.2.2.1 hA1 hr.2.1 kk
end
