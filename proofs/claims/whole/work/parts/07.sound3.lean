section
variable {p : Program} {l : Launch} {e : Env} {R : Room} {s : State} {m : MethodId} {args : Array Value} {below : List Frame} {meth : Method} {c : Code} {cells slots : Nat} {QQ : State → Prop}
variable {D : va_G} {cy : Nat → ClassId} {ad : Nat → Nat} {z0 : Value} {cs : mj_S} {A : Nat → Prop} {mid : Nat} {M : mj_M}
variable {pc pc' : Nat} {ls ls' : mj_L} {st st' : List Value} {σ σ' : mj_S} {τ τ' : mj_T}
theorem mj_lwP {k n : Nat} (h : mj_lw k = some n) : mj_sh k = some (.inr (0, n)) := by
  unfold mj_lw at h
  split at h
  · rename_i q; cases h; exact q
  · cases h
theorem mj_llP {k n : Nat} (h : mj_ll k = some n) : mj_sh k = some (.inr (1, n)) := by
  unfold mj_ll at h
  split at h
  · rename_i q; cases h; exact q
  · cases h
theorem mj_liP {k n : Nat} (h : mj_li σ k = some n) : (k = 98 ∧ n = (σ 99 0).toNatClampNeg) ∨ ((k = 90 ∨ k = 91 ∨ k = 92) ∧ n = mj_sl k) ∨ mj_sh k = some (.inr (0, n)) := by
  unfold mj_li at h
  split at h
  · cases h; exact Or.inl ⟨by assumption, rfl⟩
  · split at h
    · rename_i q; cases h; subst q; exact Or.inr (Or.inl ⟨Or.inl rfl, rfl⟩)
    · split at h
      · rename_i q; cases h; subst q; exact Or.inr (Or.inl ⟨Or.inr (Or.inl rfl), rfl⟩)
      · split at h
        · rename_i q; cases h; subst q; exact Or.inr (Or.inl ⟨Or.inr (Or.inr rfl), rfl⟩)
        · split at h
          · rename_i q; cases h; exact Or.inr (Or.inr q)
          · cases h
theorem mj_bcP {k n : Nat} (h : mj_bl k = some n) : ∃ i, i < 5 ∧ k = 100 + i ∧ n = ([5, 5, 4, 3, 5] : List Nat).getD i 0 := by
  unfold mj_bl at h
  split at h
  · rename_i hk
    obtain ⟨i, hi⟩ := Nat.exists_eq_add_of_le hk
    subst hi
    rw [Nat.add_sub_cancel_left] at h
    have h5 : i < 5 := by
      obtain ⟨a, ha, -⟩ := Option.map_eq_some_iff.mp h
      exact (List.getElem?_eq_some_iff.mp ha).1
    refine ⟨i, h5, rfl, ?_⟩
    match i, h5, h with
    | 0, _, h => cases h; rfl
    | 1, _, h => cases h; rfl
    | 2, _, h => cases h; rfl
    | 3, _, h => cases h; rfl
    | 4, _, h => cases h; rfl
  · cases h
theorem mj_t0 : (mj_tys cy)[0]? = some (cy 0, .int) := rfl
theorem mj_t1_ : (mj_tys cy)[1]? = some (cy 1, .long) := rfl
theorem mj_t2_ : (mj_tys cy)[2]? = some (cy 2, .object "ChosenBackAtNine$Shelf") := rfl
theorem mj_s_alen (F : mj_fr p l R s m args meth c cells slots D cy ad z0 cs A mid M) (hd : decode c.code pc = .ok (.arraylength, 1)) (h : mj_do mid (.arraylength) (pc + 1) ls st σ τ = some (.inl (pc', ls', st', σ', τ'))) (k : mj_W p l e R s m args below meth c cells slots D cy ad z0 cs A QQ mid pc' ls' st' σ' τ') : mj_W p l e R s m args below meth c cells slots D cy ad z0 cs A QQ mid pc ls st σ τ := by
  simp only [mj_do] at h
  split at h
  · rename_i q r
    split at h
    · rename_i n hn0
      cases h
      intro H locs la hr hl hn
      rcases mj_liP hn0 with ⟨rfl, rfl⟩ | ⟨h3, rfl⟩ | hs
      · have hX := F.2.2.2.2.2.2.2.1.2.2.2.2.2.2.1
        have kk := k H locs la hr hl hn
        rw [hr.2.2.2 99 (by omega)] at kk
        exact va_slen F.2.1 rfl hX.1 hX.2.1 hX.2.2 hr.2.2.1 hd kk
      · exact va_tlen F.2.1 rfl (F.2.2.2.2.2.2.2.1.1 q h3).2 hr.2.2.1 rfl hd (k H locs la hr hl hn)
      · have he := mj_ws_get (ad := ad) (cy := cy) (σ := σ) (τ := τ) (mj_sh_lt hs)
        rw [mj_cell_i hs] at he
        exact va_alen F.2.1 rfl F.2.2.2.2.2.2.1 hr.1 q 0 he mj_t0 rfl hd (k H locs la hr hl hn)
    · split at h
      · rename_i n hn0
        cases h
        intro H locs la hr hl hn
        obtain ⟨i, hi, rfl, rfl⟩ := mj_bcP hn0
        exact va_tlen F.2.1 rfl ((F.2.2.2.2.2.2.2.1.2.2.2.2.1).1 i hi).2.2.2 hr.2.2.1 rfl hd (k H locs la hr hl hn)
      · cases h
  · cases h
theorem mj_s_iald (F : mj_fr p l R s m args meth c cells slots D cy ad z0 cs A mid M) (hd : decode c.code pc = .ok (.iaload, 1)) (h : mj_do mid (.iaload) (pc + 1) ls st σ τ = some (.inl (pc', ls', st', σ', τ'))) (k : mj_W p l e R s m args below meth c cells slots D cy ad z0 cs A QQ mid pc' ls' st' σ' τ') : mj_W p l e R s m args below meth c cells slots D cy ad z0 cs A QQ mid pc ls st σ τ := by
  simp only [mj_do] at h
  split at h
  · rename_i x q r
    split at h
    · rename_i n hn0
      split at h
      · cases h
      · rename_i hin
        cases h
        intro H locs la hr hl hn
        rcases mj_liP hn0 with ⟨rfl, rfl⟩ | ⟨h3, rfl⟩ | hs
        · have hX := F.2.2.2.2.2.2.2.1.2.2.2.2.2.2.1
          have kk := k H locs la hr hl hn
          rw [hr.2.2.2 98 (by omega)] at kk
          rw [hr.2.2.2 99 (by omega)] at hin
          exact va_sld F.2.1 rfl hX.1 hX.2.1 hX.2.2 hr.2.2.1 hin hd kk
        · have kk := k H locs la hr hl hn
          rw [hr.2.2.2 q (by omega)] at kk
          exact va_ti F.2.1 rfl (F.2.2.2.2.2.2.2.1.1 q h3).2 hr.2.2.1 hin rfl hd kk
        · have he := mj_ws_get (ad := ad) (cy := cy) (σ := σ) (τ := τ) (mj_sh_lt hs)
          rw [mj_cell_i hs] at he
          exact va_iald F.2.1 rfl F.2.2.2.2.2.2.1 hr.1 q 0 he mj_t0 hin hd (k H locs la hr hl hn)
    · cases h
  · cases h
theorem mj_s_iast (F : mj_fr p l R s m args meth c cells slots D cy ad z0 cs A mid M) (hd : decode c.code pc = .ok (.iastore, 1)) (h : mj_do mid (.iastore) (pc + 1) ls st σ τ = some (.inl (pc', ls', st', σ', τ'))) (k : mj_W p l e R s m args below meth c cells slots D cy ad z0 cs A QQ mid pc' ls' st' σ' τ') : mj_W p l e R s m args below meth c cells slots D cy ad z0 cs A QQ mid pc ls st σ τ := by
  simp only [mj_do] at h
  split at h
  · rename_i v x q r
    split at h
    · rename_i n hn0
      split at h
      · cases h
      · rename_i hin
        cases h
        intro H locs la hr hl hn
        have hs := mj_lwP hn0
        have hk := mj_sh_lt hs
        have he := mj_ws_get (ad := ad) (cy := cy) (σ := σ) (τ := τ) hk
        rw [mj_cell_i hs] at he
        have hset : (mj_ws ad cy σ τ).set q (ad q, .inl (cy 0, n, .inl (upd (σ q) x.toNatClampNeg v))) = mj_ws ad cy (mj_up σ q x.toNatClampNeg v) τ := by
          refine mj_ws_set (fun i hi => mj_cell_ne (mj_up_ne hi) rfl) ?_
          rw [mj_cell_i hs, mj_up_k]
        refine va_iast F.2.1 rfl F.2.2.2.2.2.2.1 hr.1 hr.2.1 hr.2.2.1 q 0 he mj_t0 hin hd (fun H1 locs1 p1 p2 p3 => ?_)
        rw [hset] at p1 p2
        exact k H1 locs1 la ⟨p1, p2, p3, fun i hi => by rw [mj_up_ne (by omega)]; exact hr.2.2.2 i hi⟩ hl hn
    · cases h
  · cases h
theorem mj_s_lald (F : mj_fr p l R s m args meth c cells slots D cy ad z0 cs A mid M) (hd : decode c.code pc = .ok (.laload, 1)) (h : mj_do mid (.laload) (pc + 1) ls st σ τ = some (.inl (pc', ls', st', σ', τ'))) (k : mj_W p l e R s m args below meth c cells slots D cy ad z0 cs A QQ mid pc' ls' st' σ' τ') : mj_W p l e R s m args below meth c cells slots D cy ad z0 cs A QQ mid pc ls st σ τ := by
  simp only [mj_do] at h
  split at h
  · rename_i x q r
    split at h
    · rename_i n hn0
      split at h
      · cases h
      · rename_i hin
        cases h
        intro H locs la hr hl hn
        have hs := mj_llP hn0
        have he := mj_ws_get (ad := ad) (cy := cy) (σ := σ) (τ := τ) (mj_sh_lt hs)
        rw [mj_cell_l hs] at he
        exact va_lald F.2.1 rfl F.2.2.2.2.2.2.1 hr.1 q 1 he mj_t1_ hin hd (k H locs la hr hl hn)
    · cases h
  · cases h
theorem mj_s_last (F : mj_fr p l R s m args meth c cells slots D cy ad z0 cs A mid M) (hd : decode c.code pc = .ok (.lastore, 1)) (h : mj_do mid (.lastore) (pc + 1) ls st σ τ = some (.inl (pc', ls', st', σ', τ'))) (k : mj_W p l e R s m args below meth c cells slots D cy ad z0 cs A QQ mid pc' ls' st' σ' τ') : mj_W p l e R s m args below meth c cells slots D cy ad z0 cs A QQ mid pc ls st σ τ := by
  simp only [mj_do] at h
  split at h
  · rename_i v x q r
    split at h
    · rename_i n hn0
      split at h
      · cases h
      · rename_i hin
        cases h
        intro H locs la hr hl hn
        have hs := mj_llP hn0
        have hk := mj_sh_lt hs
        have he := mj_ws_get (ad := ad) (cy := cy) (σ := σ) (τ := τ) hk
        rw [mj_cell_l hs] at he
        have hset : (mj_ws ad cy σ τ).set q (ad q, .inl (cy 1, n, .inr (.inl (vp_updL (τ q) x.toNatClampNeg v)))) = mj_ws ad cy σ (mj_uq τ q x.toNatClampNeg v) := by
          refine mj_ws_set (fun i hi => mj_cell_ne rfl (mj_uq_ne hi)) ?_
          rw [mj_cell_l hs, mj_uq_k]
        refine va_last F.2.1 rfl F.2.2.2.2.2.2.1 hr.1 hr.2.1 hr.2.2.1 q 1 he mj_t1_ hin hd (fun H1 locs1 p1 p2 p3 => ?_)
        rw [hset] at p1 p2
        exact k H1 locs1 la ⟨p1, p2, p3, hr.2.2.2⟩ hl hn
    · cases h
  · cases h
theorem mj_s_aald (F : mj_fr p l R s m args meth c cells slots D cy ad z0 cs A mid M) (hd : decode c.code pc = .ok (.aaload, 1)) (h : mj_do mid (.aaload) (pc + 1) ls st σ τ = some (.inl (pc', ls', st', σ', τ'))) (k : mj_W p l e R s m args below meth c cells slots D cy ad z0 cs A QQ mid pc' ls' st' σ' τ') : mj_W p l e R s m args below meth c cells slots D cy ad z0 cs A QQ mid pc ls st σ τ := by
  simp only [mj_do] at h
  split at h
  · rename_i x q r
    split at h
    · rename_i hq
      subst hq
      split at h
      · cases h
      · rename_i hin
        cases h
        intro H locs la hr hl hn
        have he := mj_ws_get (ad := ad) (cy := cy) (σ := σ) (τ := τ) (show 7 < 90 by decide)
        rw [show mj_cell ad cy σ τ 7 = .inl (cy 2, 8, .inr (.inr (.inr (.inr (fun i => some (ad (40 + i))))))) from rfl] at he
        exact va_aldq F.2.1 rfl F.2.2.2.2.2.2.1 hr.1 7 2 he mj_t2_ hin hd (k H locs la hr hl hn)
    · cases h
  · cases h
theorem mj_s_bald (F : mj_fr p l R s m args meth c cells slots D cy ad z0 cs A mid M) (hd : decode c.code pc = .ok (.baload, 1)) (h : mj_do mid (.baload) (pc + 1) ls st σ τ = some (.inl (pc', ls', st', σ', τ'))) (k : mj_W p l e R s m args below meth c cells slots D cy ad z0 cs A QQ mid pc' ls' st' σ' τ') : mj_W p l e R s m args below meth c cells slots D cy ad z0 cs A QQ mid pc ls st σ τ := by
  simp only [mj_do] at h
  split at h
  · rename_i x q r
    split at h
    · rename_i n hn0
      split at h
      · cases h
      · rename_i hin
        cases h
        intro H locs la hr hl hn
        obtain ⟨i, hi, rfl, rfl⟩ := mj_bcP hn0
        have kk := k H locs la hr hl hn
        rw [show mj_bc (100 + i) x.toNatClampNeg = (mj_tx.getD i []).getD x.toNatClampNeg 0 by unfold mj_bc; rw [Nat.add_sub_cancel_left]] at kk
        exact va_tb F.2.1 rfl ((F.2.2.2.2.2.2.2.1.2.2.2.2.1).1 i hi).2.2.2 hr.2.2.1 hin rfl hd kk
    · cases h
  · cases h
theorem mj_ntP_ {c x q : Nat} (h : mj_lk mj_ntL c x = some q) : Cond.methodLink (mj_own c) x (mj_ntY q) ∈ mj_tbl := by
  obtain ⟨p, hp⟩ := mj_allP (f := fun (q : Nat × Nat × Nat) (p : Nat) => mj_inT p (.methodLink (mj_own q.1) q.2.1 (mj_ntY q.2.2)) && (q.2.2 == 2 || q.2.2 == 3 || q.2.2 == 4)) mj_nt_len mj_nt_chk (mj_lk_mem h)
  simp only [Bool.and_eq_true] at hp
  exact mj_inT_mem hp.1
theorem mj_sum4 {r : List Value} (h : ¬ 4 < r.length) : (r.map fun v => v.category).sum ≤ 8 := by
  have hc : ∀ v : Value, v.category ≤ 2 := fun v => by cases v <;> simp [Value.category]
  match r, h with
  | [], _ => simp
  | [a], _ => have := hc a; simp; omega
  | [a, b], _ => have := hc a; have := hc b; simp; omega
  | [a, b, d], _ => have := hc a; have := hc b; have := hc d; simp; omega
  | [a, b, d, f], _ => have := hc a; have := hc b; have := hc d; have := hc f; simp; omega
  | _ :: _ :: _ :: _ :: _ :: _, h => simp at h
theorem mj_s_mmax (F : mj_fr p l R s m args meth c cells slots D cy ad z0 cs A mid M) {x : Nat} {a b : Int32} {r : List Value} (hx : mj_lk mj_ntL M.2.2.2.2.1 x = some 2) (hd : decode c.code pc = .ok (.invokestatic x, 3)) (h4 : ¬ 4 < r.length) (k : mj_W p l e R s m args below meth c cells slots D cy ad z0 cs A QQ mid (pc + 3) ls (.int (if a < b then b else a) :: r) σ τ) : mj_W p l e R s m args below meth c cells slots D cy ad z0 cs A QQ mid pc ls (.int b :: .int a :: r) σ τ := by
  intro H locs la hr hl hn
  have hw := F.2.2.2.2.2.1 _ (mj_ntP_ hx)
  have h8 := mj_sum4 (r := r.map (mj_cv ad z0)) (by rw [List.length_map]; exact h4)
  obtain ⟨z1, z2, z3⟩ := F.2.2.2.2.2.2.2.2.2.1
  exact va_mmax F.2.1 rfl (by rw [← hn.1]; exact hl.1.symm) F.2.2.2.2.1 hw (F.2.2.2.2.2.1 _ mj_max_st) (F.2.2.2.2.2.1 _ mj_math_in) (F.2.2.2.2.2.1 _ mj_max_co) (by omega) (by omega) F.2.2.2.2.2.2.2.2.2.2.1 F.2.2.2.2.2.2.2.2.2.2.2 hd (k H locs la hr hl hn)
theorem mj_s_mmin (F : mj_fr p l R s m args meth c cells slots D cy ad z0 cs A mid M) {x : Nat} {a b : Int32} {r : List Value} (hx : mj_lk mj_ntL M.2.2.2.2.1 x = some 3) (hd : decode c.code pc = .ok (.invokestatic x, 3)) (h4 : ¬ 4 < r.length) (k : mj_W p l e R s m args below meth c cells slots D cy ad z0 cs A QQ mid (pc + 3) ls (.int (if b < a then b else a) :: r) σ τ) : mj_W p l e R s m args below meth c cells slots D cy ad z0 cs A QQ mid pc ls (.int b :: .int a :: r) σ τ := by
  intro H locs la hr hl hn
  have hw := F.2.2.2.2.2.1 _ (mj_ntP_ hx)
  have h8 := mj_sum4 (r := r.map (mj_cv ad z0)) (by rw [List.length_map]; exact h4)
  obtain ⟨z1, z2, z3⟩ := F.2.2.2.2.2.2.2.2.2.1
  exact va_mmin F.2.1 rfl (by rw [← hn.1]; exact hl.1.symm) F.2.2.2.2.1 hw (F.2.2.2.2.2.1 _ mj_min_st) (F.2.2.2.2.2.1 _ mj_math_in) (F.2.2.2.2.2.1 _ mj_min_co) (by omega) (by omega) F.2.2.2.2.2.2.2.2.2.2.1 F.2.2.2.2.2.2.2.2.2.2.2 hd (k H locs la hr hl hn)
theorem mj_s_copyi (F : mj_fr p l R s m args meth c cells slots D cy ad z0 cs A mid M) {x a b : Nat} {n dp sp : Int32} {r : List Value} {na nb : Nat} (hx : mj_lk mj_ntL M.2.2.2.2.1 x = some 4) (hd : decode c.code pc = .ok (.invokestatic x, 3)) (h1 : ¬ (sp < 0 ∨ dp < 0 ∨ n < 0 ∨ 4 < r.length)) (ha : mj_lw a = some na) (hb : mj_lw b = some nb) (h2 : ¬ (na < sp.toNatClampNeg + n.toNatClampNeg ∨ nb < dp.toNatClampNeg + n.toNatClampNeg))
    (k : mj_W p l e R s m args below meth c cells slots D cy ad z0 cs A QQ mid (pc + 3) ls r (mj_rp σ b (va_cpy (σ a) (σ b) sp.toNatClampNeg dp.toNatClampNeg n.toNatClampNeg)) τ) : mj_W p l e R s m args below meth c cells slots D cy ad z0 cs A QQ mid pc ls (.int n :: .int dp :: .ref b :: .int sp :: .ref a :: r) σ τ := by
  intro H locs la hr hl hn
  have hw := F.2.2.2.2.2.1 _ (mj_ntP_ hx)
  have h8 := mj_sum4 (r := r.map (mj_cv ad z0)) (by rw [List.length_map]; exact fun z => h1 (Or.inr (Or.inr (Or.inr z))))
  obtain ⟨z1, z2, z3⟩ := F.2.2.2.2.2.2.2.2.2.1
  have sa := mj_lwP ha
  have sb := mj_lwP hb
  have ea := mj_ws_get (ad := ad) (cy := cy) (σ := σ) (τ := τ) (mj_sh_lt sa)
  have eb := mj_ws_get (ad := ad) (cy := cy) (σ := σ) (τ := τ) (mj_sh_lt sb)
  rw [mj_cell_i sa] at ea
  rw [mj_cell_i sb] at eb
  have hset : (mj_ws ad cy σ τ).set b (ad b, .inl (cy 0, nb, .inl (va_cpy (σ a) (σ b) sp.toNatClampNeg dp.toNatClampNeg n.toNatClampNeg))) = mj_ws ad cy (mj_rp σ b (va_cpy (σ a) (σ b) sp.toNatClampNeg dp.toNatClampNeg n.toNatClampNeg)) τ := by
    refine mj_ws_set (fun i hi => mj_cell_ne (by simp [mj_rp, hi]) rfl) ?_
    rw [mj_cell_i sb]; simp [mj_rp]
  have hf : nativeFrameWords "java/lang/System" "arraycopy" 5 + 11 ≤ 80 := by decide +kernel
  refine va_copyi F.2.1 rfl (by rw [← hn.1]; exact hl.1.symm) F.2.2.2.2.1 hw (F.2.2.2.2.2.1 _ mj_ac_na) (F.2.2.2.2.2.1 _ mj_ac_st) (F.2.2.2.2.2.1 _ mj_ac_in) F.2.2.2.2.2.2.1 hr.1 hr.2.1 hr.2.2.1 a b 0 0 ea eb mj_t0 mj_t0 rfl
    (fun z => h1 (Or.inl z)) (fun z => h1 (Or.inr (Or.inl z))) (fun z => h1 (Or.inr (Or.inr (Or.inl z)))) (by omega) (by omega) (fun _ _ => rfl) (by omega) (by omega) hd (fun H1 locs1 p1 p2 p3 => ?_)
  rw [hset] at p1 p2
  have hb90 := mj_sh_lt sb
  exact k H1 locs1 la ⟨p1, p2, p3, fun i hi => by rw [show mj_rp σ b _ i = σ i from by simp [mj_rp]; omega]; exact hr.2.2.2 i hi⟩ hl hn
theorem mj_s_copyl (F : mj_fr p l R s m args meth c cells slots D cy ad z0 cs A mid M) {x a b : Nat} {n dp sp : Int32} {r : List Value} {na nb : Nat} (hx : mj_lk mj_ntL M.2.2.2.2.1 x = some 4) (hd : decode c.code pc = .ok (.invokestatic x, 3)) (h1 : ¬ (sp < 0 ∨ dp < 0 ∨ n < 0 ∨ 4 < r.length)) (ha : mj_ll a = some na) (hb : mj_ll b = some nb) (h2 : ¬ (na < sp.toNatClampNeg + n.toNatClampNeg ∨ nb < dp.toNatClampNeg + n.toNatClampNeg))
    (k : mj_W p l e R s m args below meth c cells slots D cy ad z0 cs A QQ mid (pc + 3) ls r σ (mj_rp τ b (va_cpy (τ a) (τ b) sp.toNatClampNeg dp.toNatClampNeg n.toNatClampNeg))) : mj_W p l e R s m args below meth c cells slots D cy ad z0 cs A QQ mid pc ls (.int n :: .int dp :: .ref b :: .int sp :: .ref a :: r) σ τ := by
  intro H locs la hr hl hn
  have hw := F.2.2.2.2.2.1 _ (mj_ntP_ hx)
  have h8 := mj_sum4 (r := r.map (mj_cv ad z0)) (by rw [List.length_map]; exact fun z => h1 (Or.inr (Or.inr (Or.inr z))))
  obtain ⟨z1, z2, z3⟩ := F.2.2.2.2.2.2.2.2.2.1
  have sa := mj_llP ha
  have sb := mj_llP hb
  have ea := mj_ws_get (ad := ad) (cy := cy) (σ := σ) (τ := τ) (mj_sh_lt sa)
  have eb := mj_ws_get (ad := ad) (cy := cy) (σ := σ) (τ := τ) (mj_sh_lt sb)
  rw [mj_cell_l sa] at ea
  rw [mj_cell_l sb] at eb
  have hset : (mj_ws ad cy σ τ).set b (ad b, .inl (cy 1, nb, .inr (.inl (va_cpy (τ a) (τ b) sp.toNatClampNeg dp.toNatClampNeg n.toNatClampNeg)))) = mj_ws ad cy σ (mj_rp τ b (va_cpy (τ a) (τ b) sp.toNatClampNeg dp.toNatClampNeg n.toNatClampNeg)) := by
    refine mj_ws_set (fun i hi => mj_cell_ne rfl (by simp [mj_rp, hi])) ?_
    rw [mj_cell_l sb]; simp [mj_rp]
  have hf : nativeFrameWords "java/lang/System" "arraycopy" 5 + 11 ≤ 80 := by decide +kernel
  refine va_copyl F.2.1 rfl (by rw [← hn.1]; exact hl.1.symm) F.2.2.2.2.1 hw (F.2.2.2.2.2.1 _ mj_ac_na) (F.2.2.2.2.2.1 _ mj_ac_st) (F.2.2.2.2.2.1 _ mj_ac_in) F.2.2.2.2.2.2.1 hr.1 hr.2.1 hr.2.2.1 a b 1 1 ea eb mj_t1_ mj_t1_ rfl
    (fun z => h1 (Or.inl z)) (fun z => h1 (Or.inr (Or.inl z))) (fun z => h1 (Or.inr (Or.inr (Or.inl z)))) (by omega) (by omega) (fun _ _ => rfl) (by omega) (by omega) hd (fun H1 locs1 p1 p2 p3 => ?_)
  rw [hset] at p1 p2
  exact k H1 locs1 la ⟨p1, p2, p3, hr.2.2.2⟩ hl hn
end
