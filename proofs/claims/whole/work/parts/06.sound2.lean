section
variable {p : Program} {l : Launch} {e : Env} {R : Room} {s : State} {m : MethodId} {args : Array Value} {below : List Frame} {meth : Method} {c : Code} {cells slots : Nat} {QQ : State → Prop}
variable {D : va_G} {cy : Nat → ClassId} {ad : Nat → Nat} {z0 : Value} {cs : mj_S} {A : Nat → Prop} {mid : Nat} {M : mj_M}
variable {pc pc' : Nat} {ls ls' : mj_L} {st st' : List Value} {σ σ' : mj_S} {τ τ' : mj_T}
theorem mj_sh_in {k : Nat} {x} (h : mj_sh k = some x) : x ∈ mj_shL := List.mem_of_getElem? h
theorem mj_sh_o {k ci : Nat} {fs : List (Option Nat)} (h : mj_sh k = some (.inl (ci, fs))) : ci < 8 ∧ fs.length = mj_clN ci ∧ ∀ j, fs[j]? = some none → mj_fok ci j = true := by
  have h1 := List.all_eq_true.mp mj_sh_chk _ (mj_sh_in h)
  simp only [Bool.and_eq_true, decide_eq_true_eq, beq_iff_eq, List.all_eq_true, List.mem_range, Bool.or_eq_true, bne_iff_ne] at h1
  obtain ⟨⟨⟨a, b⟩, c⟩, -⟩ := h1
  refine ⟨a, b, fun j hj => ?_⟩
  rcases c j (List.getElem?_eq_some_iff.mp hj).1 with q | q
  · exact absurd hj q
  · exact q
theorem mj_cell_o {k ci : Nat} {fs : List (Option Nat)} (h : mj_sh k = some (.inl (ci, fs))) : mj_cell ad cy σ τ k = .inr (ci, fs.mapIdx (fun j f => mj_vf ad (σ k j) f)) := by
  simp only [mj_cell, h]
theorem mj_cell_i {k n : Nat} (h : mj_sh k = some (.inr (0, n))) : mj_cell ad cy σ τ k = .inl (cy 0, n, .inl (σ k)) := by
  simp only [mj_cell, h]
theorem mj_cell_l {k n : Nat} (h : mj_sh k = some (.inr (1, n))) : mj_cell ad cy σ τ k = .inl (cy 1, n, .inr (.inl (τ k))) := by
  simp only [mj_cell, h]
theorem mj_cell_ne {σ2 : mj_S} {τ2 : mj_T} {j : Nat} (h1 : σ2 j = σ j) (h2 : τ2 j = τ j) : mj_cell ad cy σ2 τ2 j = mj_cell ad cy σ τ j := by
  unfold mj_cell
  split
  · simp only [h1]
  · simp only [h1]
  · simp only [h2]
  · rfl
  · simp only [h1]
theorem mj_up_ne {k i j : Nat} {v : Int32} (h : j ≠ k) : mj_up σ k i v j = σ j := by funext x; simp [mj_up, h]
theorem mj_uq_ne {k i j : Nat} {v : Int64} (h : j ≠ k) : mj_uq τ k i v j = τ j := by funext x; simp [mj_uq, h]
theorem mj_up_k {k i : Nat} {v : Int32} : mj_up σ k i v k = upd (σ k) i v := by funext x; simp [mj_up, upd]
theorem mj_uq_k {k i : Nat} {v : Int64} : mj_uq τ k i v k = vp_updL (τ k) i v := by funext x; simp [mj_uq, vp_updL]
theorem mj_clP {c x ci j : Nat} (h : mj_lk (mj_ftL.map (fun q => (q.1, q.2.1, q.2.2))) c x = some (ci, j)) : Cond.fieldLink (mj_own c) x (mj_clT ci j).1 (mj_clT ci j).2.1 (mj_clT ci j).2.2.1 ∈ mj_tbl ∧ ci < 8 ∧ j < mj_clN ci := by
  obtain ⟨q, hq, e⟩ := List.mem_map.mp (mj_lk_mem h)
  obtain ⟨a, b, c2, d⟩ := q
  cases e
  obtain ⟨p, hp⟩ := mj_allP (f := fun (q : Nat × Nat × Nat × Nat) (p : Nat) => mj_inT p (mj_ftW q) && decide (q.2.2.1 < 8) && decide (q.2.2.2 < mj_clN q.2.2.1)) mj_ft_len mj_ft_chk hq
  simp only [Bool.and_eq_true, decide_eq_true_eq] at hp
  exact ⟨mj_inT_mem hp.1.1, hp.1.2, hp.2⟩
theorem mj_code {a b : Nat} (hb : b < 100) : (100 * a + b) / 100 = a ∧ (100 * a + b) % 100 = b := by omega
theorem mj_s_getf (F : mj_fr p l R s m args meth c cells slots D cy ad z0 cs A mid M) {x ci j : Nat} (hx : mj_lk (mj_ftL.map (fun q => (q.1, q.2.1, q.2.2))) M.2.2.2.2.1 x = some (ci, j)) (hd : decode c.code pc = .ok (.getfield x, 3)) (h : mj_do mid (.getfield (100 * ci + j)) (pc + 3) ls st σ τ = some (.inl (pc', ls', st', σ', τ'))) (k : mj_W p l e R s m args below meth c cells slots D cy ad z0 cs A QQ mid pc' ls' st' σ' τ') : mj_W p l e R s m args below meth c cells slots D cy ad z0 cs A QQ mid pc ls st σ τ := by
  obtain ⟨hw, hci, hj⟩ := mj_clP hx
  have hN := mj_cl_N hci
  obtain ⟨e1, e2⟩ := mj_code (a := ci) (b := j) (by omega)
  simp only [mj_do, e1, e2] at h
  split at h
  · rename_i q r
    split at h
    · rename_i v hv
      cases h
      intro H locs la hr hl hn
      unfold mj_fv at hv
      rw [if_neg (by omega)] at hv
      split at hv
      · rename_i c0 fs hs
        split at hv
        · rename_i hc0
          subst hc0
          have hk := mj_sh_lt hs
          have he := mj_ws_get (ad := ad) (cy := cy) (σ := σ) (τ := τ) hk
          rw [mj_cell_o hs] at he
          refine va_get (D := D) F.2.1 rfl F.2.2.2.2.2.1 (mj_cl_in hci) F.2.2.2.2.1 F.2.2.2.2.2.2.1 hr.1 q he (mj_cl_at hci) j hj (F.2.2.2.2.2.1 _ hw) (fun _ z => z) (v := mj_cv ad z0 v) ?_ hd (k H locs la hr hl hn)
          rw [List.getElem?_mapIdx]
          split at hv
          · rename_i q2 hq; rw [hq]; cases hv; rfl
          · rename_i hq; rw [hq]; cases hv; rfl
          · cases hv
        · cases hv
      · cases hv
    · cases h
  · cases h
theorem mj_s_putf (F : mj_fr p l R s m args meth c cells slots D cy ad z0 cs A mid M) {x ci j : Nat} (hx : mj_lk (mj_ftL.map (fun q => (q.1, q.2.1, q.2.2))) M.2.2.2.2.1 x = some (ci, j)) (hd : decode c.code pc = .ok (.putfield x, 3)) (h : mj_do mid (.putfield (100 * ci + j)) (pc + 3) ls st σ τ = some (.inl (pc', ls', st', σ', τ'))) (k : mj_W p l e R s m args below meth c cells slots D cy ad z0 cs A QQ mid pc' ls' st' σ' τ') : mj_W p l e R s m args below meth c cells slots D cy ad z0 cs A QQ mid pc ls st σ τ := by
  obtain ⟨hw, hci, hj⟩ := mj_clP hx
  have hN := mj_cl_N hci
  obtain ⟨e1, e2⟩ := mj_code (a := ci) (b := j) (by omega)
  simp only [mj_do, e1, e2] at h
  split at h
  · rename_i v q r
    split at h
    · rename_i hv
      cases h
      intro H locs la hr hl hn
      simp only [Bool.and_eq_true, Bool.or_eq_true, Bool.not_eq_true', beq_iff_eq] at hv
      obtain ⟨hf, hb⟩ := hv
      unfold mj_fw at hf
      split at hf
      · rename_i c0 fs hs
        simp only [Bool.and_eq_true, beq_iff_eq] at hf
        obtain ⟨hc0, hfj⟩ := hf
        subst hc0
        have hk := mj_sh_lt hs
        have he := mj_ws_get (ad := ad) (cy := cy) (σ := σ) (τ := τ) hk
        rw [mj_cell_o hs] at he
        obtain ⟨-, hlen, hok⟩ := mj_sh_o hs
        have hok := hok j hfj
        simp only [mj_fok, Bool.and_eq_true, beq_iff_eq] at hok
        obtain ⟨hfin, hty⟩ := hok
        have hnf : narrow (mj_clY c0 j) (.int v) = .int v ∧ fits (mj_clY c0 j) (.int v) = true := by
          by_cases hb2 : mj_fb c0 j = true
          · rw [if_pos hb2] at hty
            rw [beq_iff_eq.mp hty]
            rcases hb with (q | q) | q
            · rw [hb2] at q; cases q
            · rw [q]; exact ⟨rfl, rfl⟩
            · rw [q]; exact ⟨rfl, rfl⟩
          · rw [if_neg hb2] at hty
            rw [beq_iff_eq.mp hty]
            exact ⟨vp_nar_int v, rfl⟩
        have hset : (mj_ws ad cy σ τ).set q (ad q, .inr (c0, (fs.mapIdx (fun j f => mj_vf ad (σ q j) f)).set j (.int v))) = mj_ws ad cy (mj_up σ q j v) τ := by
          refine mj_ws_set (fun i hi => mj_cell_ne (mj_up_ne hi) rfl) ?_
          rw [mj_cell_o hs]
          refine congrArg (fun z => Sum.inr (c0, z)) ?_
          apply List.ext_getElem?
          intro i
          rw [List.getElem?_set, List.getElem?_mapIdx, List.getElem?_mapIdx, List.length_mapIdx]
          by_cases hi : j = i
          · subst hi
            rw [if_pos rfl, if_pos (by rw [hlen]; exact hj), hfj]
            simp [mj_up, mj_vf]
          · rw [if_neg hi]
            cases hfi : fs[i]? with
            | none => rfl
            | some f => cases f <;> simp [mj_up, mj_vf] <;> (intro z; exact absurd z.symm hi)
        refine va_put (D := D) (A := A) F.2.1 rfl F.2.2.2.2.2.1 (mj_cl_in hci) (mj_clY c0) (mj_cl_ty hci) (mj_cl_nm hci) F.2.2.2.2.1 F.2.2.2.2.2.2.1 hr.1 hr.2.1 hr.2.2.1 q he (mj_cl_at hci) j hj (F.2.2.2.2.2.1 _ hw) (fun _ z => z) hfin (ty := mj_clY c0 j) (mj_cl_ty hci j hj) hnf.1 hnf.2 (by rw [List.length_mapIdx, hlen]; exact hj) hd (fun H1 locs1 p1 p2 p3 => ?_)
        rw [show mj_cv ad z0 (Value.int v) = Value.int v from rfl, hset] at p1 p2
        exact k H1 locs1 la ⟨p1, p2, p3, fun i hi => by rw [mj_up_ne (by omega)]; exact hr.2.2.2 i hi⟩ hl hn
      · cases hf
    · cases h
  · cases h
theorem mj_fsP_ {c x j : Nat} (h : mj_lk mj_fsL c x = some j) : Cond.fieldLink (mj_own c) x "java/lang/String" (if j = 0 then "value" else "coder") (if j = 0 then "[B" else "B") ∈ mj_tbl ∧ j < 2 := by
  obtain ⟨p, hp⟩ := mj_allP (f := fun (q : Nat × Nat × Nat) (p : Nat) => mj_inT p (.fieldLink (mj_own q.1) q.2.1 "java/lang/String" (if q.2.2 = 0 then "value" else "coder") (if q.2.2 = 0 then "[B" else "B")) && decide (q.2.2 < 2)) mj_fs_len mj_fs_chk (mj_lk_mem h)
  simp only [Bool.and_eq_true, decide_eq_true_eq] at hp
  exact ⟨mj_inT_mem hp.1, hp.2⟩
theorem mj_gsP_ {c x j : Nat} (h : mj_lk mj_gsL c x = some j) : Cond.fieldLink (mj_own c) x (mj_stN j).1 (mj_stN j).2.1 (mj_stN j).2.2 ∈ mj_tbl := by
  obtain ⟨p, hp⟩ := mj_allP (f := fun (q : Nat × Nat × Nat) (p : Nat) => mj_inT p (.fieldLink (mj_own q.1) q.2.1 (mj_stN q.2.2).1 (mj_stN q.2.2).2.1 (mj_stN q.2.2).2.2) && mj_stOk q.2.2) mj_gs_len mj_gs_chk (mj_lk_mem h)
  simp only [Bool.and_eq_true] at hp
  exact mj_inT_mem hp.1
theorem mj_s_gets_f (F : mj_fr p l R s m args meth c cells slots D cy ad z0 cs A mid M) {x j : Nat} (hx : mj_lk mj_fsL M.2.2.2.2.1 x = some j) (hd : decode c.code pc = .ok (.getfield x, 3)) (h : mj_do mid (.getfield (2000 + j)) (pc + 3) ls st σ τ = some (.inl (pc', ls', st', σ', τ'))) (k : mj_W p l e R s m args below meth c cells slots D cy ad z0 cs A QQ mid pc' ls' st' σ' τ') : mj_W p l e R s m args below meth c cells slots D cy ad z0 cs A QQ mid pc ls st σ τ := by
  obtain ⟨hw, hj⟩ := mj_fsP_ hx
  have e1 : (2000 + j) / 100 = 20 := by omega
  have e2 : (2000 + j) % 100 = j := by omega
  simp only [mj_do, e1, e2] at h
  split at h
  · rename_i q r
    split at h
    · rename_i v hv
      cases h
      intro H locs la hr hl hn
      unfold mj_fv at hv
      rw [if_pos rfl] at hv
      split at hv
      · rename_i hq
        obtain ⟨i, hi⟩ := Nat.exists_eq_add_of_le hq.1
        subst hi
        have hS := (F.2.2.2.2.2.2.2.1.2.2.2.2.1).1 i (by have := hq.2; omega)
        have e7 : 93 + i + 7 = 100 + i := by omega
        split at hv
        · rename_i hj0
          subst hj0
          rw [if_pos rfl, if_pos rfl] at hw
          rw [e7] at hv
          cases hv
          exact vk_getf F.2.1 rfl hS.2.2.1 hr.2.2.1 F.2.2.2.2.1 (F.2.2.2.2.2.1 _ hw) (fun _ z => z) hd (k H locs la hr hl hn)
        · split at hv
          · rename_i hj0
            subst hj0
            rw [if_neg (by decide), if_neg (by decide)] at hw
            cases hv
            exact vk_getf F.2.1 rfl hS.2.1 hr.2.2.1 F.2.2.2.2.1 (F.2.2.2.2.2.1 _ hw) (fun _ z => z) hd (k H locs la hr hl hn)
          · cases hv
      · cases hv
    · cases h
  · cases h
theorem mj_s_getst (F : mj_fr p l R s m args meth c cells slots D cy ad z0 cs A mid M) {x j : Nat} (hx : mj_lk mj_gsL M.2.2.2.2.1 x = some j) (hd : decode c.code pc = .ok (.getstatic x, 3)) (h : mj_do mid (.getstatic j) (pc + 3) ls st σ τ = some (.inl (pc', ls', st', σ', τ'))) (k : mj_W p l e R s m args below meth c cells slots D cy ad z0 cs A QQ mid pc' ls' st' σ' τ') : mj_W p l e R s m args below meth c cells slots D cy ad z0 cs A QQ mid pc ls st σ τ := by
  have hw := mj_gsP_ hx
  simp only [mj_do] at h
  split at h
  · rename_i hj
    subst hj
    cases h
    intro H locs la hr hl hn
    exact va_gets F.2.1 rfl F.2.2.2.2.2.2.2.1.2.1 hr.2.2.1 F.2.2.2.2.1 (F.2.2.2.2.2.1 _ hw) (fun _ z => z) hd (k H locs la hr hl hn)
  · split at h
    · rename_i hj
      subst hj
      cases h
      intro H locs la hr hl hn
      exact va_gets F.2.1 rfl F.2.2.2.2.2.2.2.1.2.2.1 hr.2.2.1 F.2.2.2.2.1 (F.2.2.2.2.2.1 _ hw) (fun _ z => z) hd (k H locs la hr hl hn)
    · split at h
      · rename_i hj
        cases h
        intro H locs la hr hl hn
        exact va_gets F.2.1 rfl (F.2.2.2.2.2.2.2.1.1 j hj).1 hr.2.2.1 F.2.2.2.2.1 (F.2.2.2.2.2.1 _ hw) (fun _ z => z) hd (k H locs la hr hl hn)
      · cases h
theorem mj_s_ldcs (F : mj_fr p l R s m args meth c cells slots D cy ad z0 cs A mid M) {x q : Nat} (hx : mj_lk mj_csL M.2.2.2.2.1 x = some q) (hd : decode c.code pc = .ok (.ldc x, 2)) (h : mj_do mid (.ldc q) (pc + 2) ls st σ τ = some (.inl (pc', ls', st', σ', τ'))) (k : mj_W p l e R s m args below meth c cells slots D cy ad z0 cs A QQ mid pc' ls' st' σ' τ') : mj_W p l e R s m args below meth c cells slots D cy ad z0 cs A QQ mid pc ls st σ τ := by
  simp only [mj_do] at h
  cases h
  intro H locs la hr hl hn
  have hZ : vk_R (mj_own M.2.2.2.2.1) x (mj_txs.getD (q - 93) "") (ad q) s := F.2.2.2.2.2.2.2.1.2.2.2.1 (M.2.2.2.2.1, x, q) (mj_lk_mem hx)
  have kk := k H locs la hr hl hn
  exact va_ldcS F.2.1 rfl F.2.2.2.2.1 hZ hd kk
theorem mj_ctP_ {c x : Nat} {z : Int} (h : mj_lk mj_ctL c x = some z) : Cond.constant (mj_own c) x (Int32.ofInt z) ∈ mj_tbl := by
  obtain ⟨p, hp⟩ := mj_allP (f := fun (q : Nat × Nat × Int) (p : Nat) => mj_inT p (.constant (mj_own q.1) q.2.1 (Int32.ofInt q.2.2))) mj_ct_len mj_ct_chk (mj_lk_mem h)
  exact mj_inT_mem hp
theorem mj_s_ldci (F : mj_fr p l R s m args meth c cells slots D cy ad z0 cs A mid M) {x : Nat} {z : Int} (hx : mj_lk mj_ctL M.2.2.2.2.1 x = some z) (hd : decode c.code pc = .ok (.ldc x, 2)) (h : mj_do mid (.iconst z) (pc + 2) ls st σ τ = some (.inl (pc', ls', st', σ', τ'))) (k : mj_W p l e R s m args below meth c cells slots D cy ad z0 cs A QQ mid pc' ls' st' σ' τ') : mj_W p l e R s m args below meth c cells slots D cy ad z0 cs A QQ mid pc ls st σ τ := by
  simp only [mj_do] at h
  cases h
  intro H locs la hr hl hn
  exact lv_ldc F.2.1 rfl F.2.2.2.2.1 (F.2.2.2.2.2.1 _ (mj_ctP_ hx)) hd (k H locs la hr hl hn)
theorem mj_s_ldcw (F : mj_fr p l R s m args meth c cells slots D cy ad z0 cs A mid M) {x : Nat} {z : Int} (hx : mj_lk mj_ctL M.2.2.2.2.1 x = some z) (hd : decode c.code pc = .ok (.ldc_w x, 3)) (h : mj_do mid (.iconst z) (pc + 3) ls st σ τ = some (.inl (pc', ls', st', σ', τ'))) (k : mj_W p l e R s m args below meth c cells slots D cy ad z0 cs A QQ mid pc' ls' st' σ' τ') : mj_W p l e R s m args below meth c cells slots D cy ad z0 cs A QQ mid pc ls st σ τ := by
  simp only [mj_do] at h
  cases h
  intro H locs la hr hl hn
  exact lv_ldcw F.2.1 rfl F.2.2.2.2.1 (F.2.2.2.2.2.1 _ (mj_ctP_ hx)) hd (k H locs la hr hl hn)
theorem mj_s_ldc2 (F : mj_fr p l R s m args meth c cells slots D cy ad z0 cs A mid M) (hx : M.2.2.2.2.1 = 10) (hd : decode c.code pc = .ok (.ldc2_w 18, 3)) (h : mj_do mid (.ldc2_w 0) (pc + 3) ls st σ τ = some (.inl (pc', ls', st', σ', τ'))) (k : mj_W p l e R s m args below meth c cells slots D cy ad z0 cs A QQ mid pc' ls' st' σ' τ') : mj_W p l e R s m args below meth c cells slots D cy ad z0 cs A QQ mid pc ls st σ τ := by
  simp only [mj_do] at h
  cases h
  intro H locs la hr hl hn
  refine lv_ldc2 F.2.1 rfl F.2.2.2.2.1 (F.2.2.2.2.2.1 _ ?_) hd (k H locs la hr hl hn)
  rw [hx]
  exact mj_clong
end
