/-! ROWS: the equations of each kind of instruction -/
def mj_ov (o : Option Value) (f : Value → mj_R) : mj_R := match o with
  | some v => f v
  | none => none
def mj_ib (o : Option Nat) (x : Int32) : Bool := match o with
  | some n => !(decide (x < 0)) && decide (x.toNatClampNeg < n)
  | none => false
theorem mj_ov_some {v : Value} {f : Value → mj_R} : mj_ov (some v) f = f v := rfl
theorem mj_ib_nI {n i : Nat} (h : i < n) (hi : i < 2 ^ 31) : mj_ib (some n) (nI i) = true := by
  simp only [mj_ib, Bool.and_eq_true, Bool.not_eq_true', decide_eq_false_iff_not, decide_eq_true_eq]
  exact ⟨nI_pos hi, by rw [nI_clamp hi]; exact h⟩
theorem mj_ibP {o : Option Nat} {x : Int32} : mj_ib o x = true ↔ ∃ n, o = some n ∧ ¬ (x < 0 ∨ n ≤ x.toNatClampNeg) := by
  cases o with
  | none => simp [mj_ib]
  | some n => simp [mj_ib, not_or]
/-- what stands behind a call -/
noncomputable def mj_K (m np : Nat) (ls : mj_L) (r : List Value) : Option Value → mj_S → mj_T → mj_R := fun v σ τ => mj_E m np ls (v.toList ++ r) σ τ
theorem mj_bdK {m np : Nat} {ls : mj_L} {r : List Value} {v : Option Value} {σ : mj_S} {τ : mj_T} : mj_bd (some (v, σ, τ)) (mj_K m np ls r) = mj_E m np ls (v.toList ++ r) σ τ := rfl
section
variable {m pc np : Nat} {ls : mj_L} {st : List Value} {σ : mj_S} {τ : mj_T}
theorem mj_gf {f k : Nat} (hi : mj_ins m pc = some (.getfield f, np)) : mj_E m pc ls (.ref k :: st) σ τ = mj_ov (mj_fv (f / 100) (f % 100) σ k) (fun v => mj_E m np ls (v :: st) σ τ) := by
  cases h : mj_fv (f / 100) (f % 100) σ k with
  | some v => exact mj_nx hi (by simp only [mj_do, h])
  | none => exact mj_no hi (by simp only [mj_do, h])
theorem mj_pf {f k : Nat} {v : Int32} (hi : mj_ins m pc = some (.putfield f, np)) (hb : mj_fb (f / 100) (f % 100) = false) : mj_E m pc ls (.int v :: .ref k :: st) σ τ = if mj_fw (f / 100) (f % 100) k = true then mj_E m np ls st (mj_up σ k (f % 100) v) τ else none := by
  split
  · rename_i h; exact mj_nx hi (by simp only [mj_do, h, hb]; rfl)
  · rename_i h; exact mj_no hi (by simp only [mj_do, Bool.eq_false_iff.mpr h]; rfl)
theorem mj_pfb {f k : Nat} (hi : mj_ins m pc = some (.putfield f, np)) : mj_E m pc ls (.int (nI 1) :: .ref k :: st) σ τ = if mj_fw (f / 100) (f % 100) k = true then mj_E m np ls st (mj_up σ k (f % 100) (nI 1)) τ else none := by
  split
  · rename_i h; exact mj_nx hi (by simp only [mj_do, h, show (nI 1 == 1) = true from rfl, Bool.or_true, Bool.and_true, if_true])
  · rename_i h; exact mj_no hi (by simp only [mj_do, Bool.eq_false_iff.mpr h]; rfl)
theorem mj_ald {k : Nat} {x : Int32} (hi : mj_ins m pc = some (.iaload, np)) : mj_E m pc ls (.int x :: .ref k :: st) σ τ = if mj_ib (mj_li σ k) x = true then mj_E m np ls (.int (σ k x.toNatClampNeg) :: st) σ τ else none := by
  split
  · rename_i h
    obtain ⟨n, e, hn⟩ := mj_ibP.mp h
    exact mj_nx hi (by simp only [mj_do, e, if_neg hn])
  · rename_i h
    rw [mj_ibP] at h
    apply mj_no hi
    simp only [mj_do]
    split
    · rename_i n e; split
      · rfl
      · rename_i hn; exact absurd ⟨n, e, hn⟩ h
    · rfl
theorem mj_ast {k : Nat} {x v : Int32} (hi : mj_ins m pc = some (.iastore, np)) : mj_E m pc ls (.int v :: .int x :: .ref k :: st) σ τ = if mj_ib (mj_lw k) x = true then mj_E m np ls st (mj_up σ k x.toNatClampNeg v) τ else none := by
  split
  · rename_i h
    obtain ⟨n, e, hn⟩ := mj_ibP.mp h
    exact mj_nx hi (by simp only [mj_do, e, if_neg hn])
  · rename_i h
    rw [mj_ibP] at h
    apply mj_no hi
    simp only [mj_do]
    split
    · rename_i n e; split
      · rfl
      · rename_i hn; exact absurd ⟨n, e, hn⟩ h
    · rfl
theorem mj_lald {k : Nat} {x : Int32} (hi : mj_ins m pc = some (.laload, np)) : mj_E m pc ls (.int x :: .ref k :: st) σ τ = if mj_ib (mj_ll k) x = true then mj_E m np ls (.long (τ k x.toNatClampNeg) :: st) σ τ else none := by
  split
  · rename_i h
    obtain ⟨n, e, hn⟩ := mj_ibP.mp h
    exact mj_nx hi (by simp only [mj_do, e, if_neg hn])
  · rename_i h
    rw [mj_ibP] at h
    apply mj_no hi
    simp only [mj_do]
    split
    · rename_i n e; split
      · rfl
      · rename_i hn; exact absurd ⟨n, e, hn⟩ h
    · rfl
theorem mj_last {k : Nat} {x : Int32} {v : Int64} (hi : mj_ins m pc = some (.lastore, np)) : mj_E m pc ls (.long v :: .int x :: .ref k :: st) σ τ = if mj_ib (mj_ll k) x = true then mj_E m np ls st σ (mj_uq τ k x.toNatClampNeg v) else none := by
  split
  · rename_i h
    obtain ⟨n, e, hn⟩ := mj_ibP.mp h
    exact mj_nx hi (by simp only [mj_do, e, if_neg hn])
  · rename_i h
    rw [mj_ibP] at h
    apply mj_no hi
    simp only [mj_do]
    split
    · rename_i n e; split
      · rfl
      · rename_i hn; exact absurd ⟨n, e, hn⟩ h
    · rfl
theorem mj_aald {x : Int32} (hi : mj_ins m pc = some (.aaload, np)) : mj_E m pc ls (.int x :: .ref 7 :: st) σ τ = if mj_ib (some 8) x = true then mj_E m np ls (.ref (40 + x.toNatClampNeg) :: st) σ τ else none := by
  split
  · rename_i h
    obtain ⟨n, e, hn⟩ := mj_ibP.mp h
    cases e
    exact mj_nx hi (by simp only [mj_do, if_true, if_neg hn])
  · rename_i h
    rw [mj_ibP] at h
    apply mj_no hi
    simp only [mj_do, if_true]
    split
    · rfl
    · rename_i hn; exact absurd ⟨8, rfl, hn⟩ h
theorem mj_bald {k : Nat} {x : Int32} (hi : mj_ins m pc = some (.baload, np)) : mj_E m pc ls (.int x :: .ref k :: st) σ τ = if mj_ib (mj_bl k) x = true then mj_E m np ls (.int (mj_bc k x.toNatClampNeg) :: st) σ τ else none := by
  split
  · rename_i h
    obtain ⟨n, e, hn⟩ := mj_ibP.mp h
    exact mj_nx hi (by simp only [mj_do, e, if_neg hn])
  · rename_i h
    rw [mj_ibP] at h
    apply mj_no hi
    simp only [mj_do]
    split
    · rename_i n e; split
      · rfl
      · rename_i hn; exact absurd ⟨n, e, hn⟩ h
    · rfl
def mj_la (σ : mj_S) (k : Nat) : Option Value := match mj_li σ k with
  | some n => some (.int (nI n))
  | none => match mj_bl k with
    | some n => some (.int (nI n))
    | none => none
theorem mj_aln {k : Nat} (hi : mj_ins m pc = some (.arraylength, np)) : mj_E m pc ls (.ref k :: st) σ τ = mj_ov (mj_la σ k) (fun v => mj_E m np ls (v :: st) σ τ) := by
  unfold mj_la
  cases h : mj_li σ k with
  | some n => exact mj_nx hi (by simp only [mj_do, h])
  | none =>
    cases h2 : mj_bl k with
    | some n => exact mj_nx hi (by simp only [mj_do, h, h2])
    | none => exact mj_no hi (by simp only [mj_do, h, h2])
theorem mj_div {x y : Int32} (hi : mj_ins m pc = some (.idiv, np)) : mj_E m pc ls (.int y :: .int x :: st) σ τ = if y = 0 then none else mj_E m np ls (.int (x / y) :: st) σ τ := by
  split
  · rename_i h; exact mj_no hi (by simp only [mj_do, if_pos h])
  · rename_i h; exact mj_nx hi (by simp only [mj_do, if_neg h])
theorem mj_rem {x y : Int32} (hi : mj_ins m pc = some (.irem, np)) : mj_E m pc ls (.int y :: .int x :: st) σ τ = if y = 0 then none else mj_E m np ls (.int (x - x / y * y) :: st) σ τ := by
  split
  · rename_i h; exact mj_no hi (by simp only [mj_do, if_pos h])
  · rename_i h; exact mj_nx hi (by simp only [mj_do, if_neg h])
theorem mj_ifc {q : ClassFile.Cond} {t : Int} {x : Int32} (hi : mj_ins m pc = some (.ifCond q t, np)) : mj_E m pc ls (.int x :: st) σ τ = if mj_cd q x 0 = true then mj_E m t.toNat ls st σ τ else mj_E m np ls st σ τ := by
  rw [mj_nx (pc' := if mj_cd q x 0 then t.toNat else np) (ls' := ls) (st' := st) (σ' := σ) (τ' := τ) hi rfl]
  split <;> rfl
theorem mj_ifi {q : ClassFile.Cond} {t : Int} {x y : Int32} (hi : mj_ins m pc = some (.if_icmp q t, np)) : mj_E m pc ls (.int y :: .int x :: st) σ τ = if mj_cd q x y = true then mj_E m t.toNat ls st σ τ else mj_E m np ls st σ τ := by
  rw [mj_nx (pc' := if mj_cd q x y then t.toNat else np) (ls' := ls) (st' := st) (σ' := σ) (τ' := τ) hi rfl]
  split <;> rfl
theorem mj_cdT {q : Prop} [Decidable q] {A B : mj_R} {b : Bool} (h : b = decide q) : (if b = true then A else B) = if q then A else B := by
  subst h
  by_cases hq : q <;> simp [hq]
theorem mj_cdF {q : Prop} [Decidable q] {A B : mj_R} {b : Bool} (h : b = decide (¬ q)) : (if b = true then A else B) = if q then B else A := by
  subst h
  by_cases hq : q <;> simp [hq]
theorem mj_irt {v : Int32} (hi : mj_ins m pc = some (.ireturn, np)) (hm : (mj_e m).map (fun e => e.2.2.2.1) = some (some .int)) : mj_E m pc ls [.int v] σ τ = some (some (.int v), σ, τ) := by
  obtain ⟨e, h1, h2⟩ := Option.map_eq_some_iff.mp hm
  exact mj_rt hi (by simp only [mj_do, h1, h2, mj_ok, if_true])
theorem mj_zrt {v : Int32} {ret : Option FieldType} (hi : mj_ins m pc = some (.ireturn, np)) (hm : (mj_e m).map (fun e => e.2.2.2.1) = some ret) : mj_E m pc ls [.int v] σ τ = if mj_ok ret v = true then some (some (.int v), σ, τ) else none := by
  obtain ⟨e, h1, h2⟩ := Option.map_eq_some_iff.mp hm
  split
  · rename_i h; exact mj_rt hi (by simp only [mj_do, h1, h2, h, if_true])
  · rename_i h; exact mj_no hi (by simp only [mj_do, h1, h2, h]; rfl)
theorem mj_lrt {v : Int64} (hi : mj_ins m pc = some (.lreturn, np)) (hm : (mj_e m).map (fun e => e.2.2.2.1) = some (some .long)) : mj_E m pc ls [.long v] σ τ = some (some (.long v), σ, τ) := by
  obtain ⟨e, h1, h2⟩ := Option.map_eq_some_iff.mp hm
  exact mj_rt hi (by simp only [mj_do, h1, h2, if_true])
theorem mj_art {k : Nat} {ret : Option FieldType} (hi : mj_ins m pc = some (.areturn, np)) (hm : (mj_e m).map (fun e => e.2.2.2.1) = some ret) (hr : mj_isR ret = true) : mj_E m pc ls [.ref k] σ τ = some (some (.ref k), σ, τ) := by
  obtain ⟨e, h1, h2⟩ := Option.map_eq_some_iff.mp hm
  exact mj_rt hi (by simp only [mj_do, h1, h2, hr, if_true])
theorem mj_nrt {ret : Option FieldType} (hi : mj_ins m pc = some (.areturn, np)) (hm : (mj_e m).map (fun e => e.2.2.2.1) = some ret) (hr : mj_isR ret = true) : mj_E m pc ls [.null] σ τ = some (some .null, σ, τ) := by
  obtain ⟨e, h1, h2⟩ := Option.map_eq_some_iff.mp hm
  exact mj_rt hi (by simp only [mj_do, h1, h2, hr, if_true])
theorem mj_vrt (hi : mj_ins m pc = some (.return_, np)) (hm : (mj_e m).map (fun e => e.2.2.2.1) = some none) : mj_E m pc ls [] σ τ = some (none, σ, τ) := by
  obtain ⟨e, h1, h2⟩ := Option.map_eq_some_iff.mp hm
  exact mj_rt hi (by simp only [mj_do, h1, h2, if_true])
def mj_vk (m t na rl ll : Nat) (lng : Bool) : Bool := match mj_e t with
  | some e => decide (na = e.2.2.2.2.2.1) && decide (1 ≤ mj_h t) && decide (mj_h t < mj_h m) && decide (mj_base t ≠ mj_law) && decide (rl ≤ 4) && decide (ll ≤ e.2.2.1) && (mj_lg t || !lng)
  | none => false
def mj_kn (t : Nat) : Nat := match mj_e t with
  | some e => e.2.2.2.2.2.2.1
  | none => 99
theorem mj_clV {t b : Nat} {as r : List Value} (hi : mj_ins m pc = some (.invokevirtual t, np)) (hk : mj_vk m t as.length r.length (mj_lay (.ref b :: as)).length (as.any (fun v => v.category == 2)) = true) (hn : mj_kn t ≠ 30) :
    mj_E m pc ls (as.reverse ++ .ref b :: r) σ τ = if mj_rcv b (mj_kn t) = true then mj_bd (mj_C t (.ref b :: as) σ τ) (fun v σ' τ' => mj_E m np ls (v.toList ++ r) σ' τ') else none := by
  unfold mj_vk at hk
  split at hk
  · rename_i e he
    simp only [Bool.and_eq_true, decide_eq_true_eq, Bool.or_eq_true, Bool.not_eq_true'] at hk
    obtain ⟨⟨⟨⟨⟨⟨h1, h2⟩, h3⟩, h4⟩, h5⟩, h6⟩, h7⟩ := hk
    have hkn : mj_kn t = e.2.2.2.2.2.2.1 := by unfold mj_kn; rw [he]
    rw [hkn] at hn
    have htk : (as.reverse ++ .ref b :: r).take (e.2.2.2.2.2.1 + 1) = as.reverse ++ [.ref b] := by
      rw [List.take_append, List.length_reverse, ← h1, List.take_of_length_le (by simp), show as.length + 1 - as.length = 1 by omega]; rfl
    have hdr : (as.reverse ++ .ref b :: r).drop (e.2.2.2.2.2.1 + 1) = r := by
      rw [List.drop_append, List.length_reverse, ← h1, List.drop_of_length_le (by simp), show as.length + 1 - as.length = 1 by omega]; rfl
    have hrv : (as.reverse ++ [Value.ref b]).reverse = .ref b :: as := by simp
    have hc : ¬ (e.2.2.2.2.2.2.1 = 30 ∨ (as.reverse ++ .ref b :: r).length < e.2.2.2.2.2.1 + 1 ∨ ¬ (1 ≤ mj_h t ∧ mj_h t < mj_h m) ∨ mj_base t = mj_law ∨ 4 < r.length ∨ e.2.2.1 < (mj_lay (.ref b :: as)).length ∨ (mj_lg t = false ∧ ((.ref b :: as : List Value)).any (fun v => v.category == 2) = true)) := by
      rintro (q | q | q | q | q | q | q)
      · exact hn q
      · simp at q; omega
      · exact q ⟨h2, h3⟩
      · exact h4 q
      · omega
      · omega
      · rcases h7 with z | z
        · rw [z] at q; exact absurd q.1 (by decide)
        · simp only [List.any_cons, z, Bool.or_false] at q; exact absurd (show (false = true) from q.2) (by decide)
    have hdo : mj_do m (.invokevirtual t) np ls (as.reverse ++ .ref b :: r) σ τ = if mj_rcv b (mj_kn t) = true then some (.inr (.inr (t, .ref b :: as, np, r))) else none := by
      simp only [mj_do, he, htk, hdr, hrv, if_neg hc, hkn]
      rfl
    split
    · rename_i hr
      rw [if_pos hr] at hdo
      exact mj_cl hi hdo
    · rename_i hr
      rw [if_neg hr] at hdo
      exact mj_no hi hdo
  · cases hk
theorem mj_clS {t : Nat} {as r : List Value} (hi : mj_ins m pc = some (.invokestatic t, np)) (hk : mj_vk m t as.length r.length (mj_lay as).length (as.any (fun v => v.category == 2)) = true) (hn : mj_kn t = 30) :
    mj_E m pc ls (as.reverse ++ r) σ τ = mj_bd (mj_C t as σ τ) (fun v σ' τ' => mj_E m np ls (v.toList ++ r) σ' τ') := by
  unfold mj_vk at hk
  split at hk
  · rename_i e he
    simp only [Bool.and_eq_true, decide_eq_true_eq, Bool.or_eq_true, Bool.not_eq_true'] at hk
    obtain ⟨⟨⟨⟨⟨⟨h1, h2⟩, h3⟩, h4⟩, h5⟩, h6⟩, h7⟩ := hk
    have hkn : mj_kn t = e.2.2.2.2.2.2.1 := by unfold mj_kn; rw [he]
    rw [hkn] at hn
    have htk : (as.reverse ++ r).take e.2.2.2.2.2.1 = as.reverse := by
      rw [← h1, List.take_append, List.length_reverse, List.take_of_length_le (by simp)]; simp
    have hdr : (as.reverse ++ r).drop e.2.2.2.2.2.1 = r := by
      rw [← h1, List.drop_append, List.length_reverse, List.drop_of_length_le (by simp)]; simp
    have hc : ¬ (¬ e.2.2.2.2.2.2.1 = 30 ∨ (as.reverse ++ r).length < e.2.2.2.2.2.1 ∨ ¬ (1 ≤ mj_h t ∧ mj_h t < mj_h m) ∨ mj_base t = mj_law ∨ 4 < r.length ∨ e.2.2.1 < (mj_lay as).length ∨ (mj_lg t = false ∧ as.any (fun v => v.category == 2) = true)) := by
      rintro (q | q | q | q | q | q | q)
      · exact q hn
      · simp at q; omega
      · exact q ⟨h2, h3⟩
      · exact h4 q
      · omega
      · omega
      · rcases h7 with z | z
        · rw [z] at q; exact absurd q.1 (by decide)
        · rw [z] at q; exact absurd q.2 (by decide)
    exact mj_cl hi (by simp only [mj_do, he, htk, hdr, List.reverse_reverse, if_neg hc])
  · cases hk
theorem mj_clP_ {t : Nat} {as r : List Value} (hi : mj_ins m pc = some (.invokespecial t, np)) (hk : mj_vk m t as.length r.length (mj_lay as).length (as.any (fun v => v.category == 2)) = true) (hn : mj_kn t = 30) :
    mj_E m pc ls (as.reverse ++ r) σ τ = mj_bd (mj_C t as σ τ) (fun v σ' τ' => mj_E m np ls (v.toList ++ r) σ' τ') := by
  unfold mj_vk at hk
  split at hk
  · rename_i e he
    simp only [Bool.and_eq_true, decide_eq_true_eq, Bool.or_eq_true, Bool.not_eq_true'] at hk
    obtain ⟨⟨⟨⟨⟨⟨h1, h2⟩, h3⟩, h4⟩, h5⟩, h6⟩, h7⟩ := hk
    have hkn : mj_kn t = e.2.2.2.2.2.2.1 := by unfold mj_kn; rw [he]
    rw [hkn] at hn
    have htk : (as.reverse ++ r).take e.2.2.2.2.2.1 = as.reverse := by
      rw [← h1, List.take_append, List.length_reverse, List.take_of_length_le (by simp)]; simp
    have hdr : (as.reverse ++ r).drop e.2.2.2.2.2.1 = r := by
      rw [← h1, List.drop_append, List.length_reverse, List.drop_of_length_le (by simp)]; simp
    have hc : ¬ (¬ e.2.2.2.2.2.2.1 = 30 ∨ (as.reverse ++ r).length < e.2.2.2.2.2.1 ∨ ¬ (1 ≤ mj_h t ∧ mj_h t < mj_h m) ∨ mj_base t = mj_law ∨ 4 < r.length ∨ e.2.2.1 < (mj_lay as).length ∨ (mj_lg t = false ∧ as.any (fun v => v.category == 2) = true)) := by
      rintro (q | q | q | q | q | q | q)
      · exact q hn
      · simp at q; omega
      · exact q ⟨h2, h3⟩
      · exact h4 q
      · omega
      · omega
      · rcases h7 with z | z
        · rw [z] at q; exact absurd q.1 (by decide)
        · rw [z] at q; exact absurd q.2 (by decide)
    exact mj_cl hi (by simp only [mj_do, he, htk, hdr, List.reverse_reverse, if_neg hc])
  · cases hk
def mj_cpk (sp dp n : Int32) (a b : Option Nat) : Bool := match a, b with
  | some na, some nb => !(decide (sp < 0)) && !(decide (dp < 0)) && !(decide (n < 0)) && decide (sp.toNatClampNeg + n.toNatClampNeg ≤ na) && decide (dp.toNatClampNeg + n.toNatClampNeg ≤ nb)
  | _, _ => false
theorem mj_cpi {a b : Nat} {sp dp n : Int32} {r : List Value} (hi : mj_ins m pc = some (.invokedynamic 4, np)) (h4 : r.length ≤ 4) (h : mj_cpk sp dp n (mj_lw a) (mj_lw b) = true) : mj_E m pc ls (.int n :: .int dp :: .ref b :: .int sp :: .ref a :: r) σ τ = mj_E m np ls r (mj_rp σ b (va_cpy (σ a) (σ b) sp.toNatClampNeg dp.toNatClampNeg n.toNatClampNeg)) τ := by
  unfold mj_cpk at h
  split at h
  · rename_i na nb ea eb
    simp only [Bool.and_eq_true, Bool.not_eq_true', decide_eq_false_iff_not, decide_eq_true_eq] at h
    obtain ⟨⟨⟨⟨h1, h2⟩, h3⟩, h5⟩, h6⟩ := h
    refine mj_nx hi ?_
    simp only [mj_do, ea, eb]
    rw [if_neg (by rintro (q | q | q | q) <;> first | contradiction | omega), if_neg (by omega)]
  · cases h
theorem mj_cpl {a b : Nat} {sp dp n : Int32} {r : List Value} (hi : mj_ins m pc = some (.invokedynamic 4, np)) (h4 : r.length ≤ 4) (ha : mj_lw a = none) (h : mj_cpk sp dp n (mj_ll a) (mj_ll b) = true) : mj_E m pc ls (.int n :: .int dp :: .ref b :: .int sp :: .ref a :: r) σ τ = mj_E m np ls r σ (mj_rp τ b (va_cpy (τ a) (τ b) sp.toNatClampNeg dp.toNatClampNeg n.toNatClampNeg)) := by
  unfold mj_cpk at h
  split at h
  · rename_i na nb ea eb
    simp only [Bool.and_eq_true, Bool.not_eq_true', decide_eq_false_iff_not, decide_eq_true_eq] at h
    obtain ⟨⟨⟨⟨h1, h2⟩, h3⟩, h5⟩, h6⟩ := h
    refine mj_nx hi ?_
    simp only [mj_do, ea, eb, ha]
    rw [if_neg (by rintro (q | q | q | q) <;> first | contradiction | omega), if_neg (by omega)]
  · cases h
/-- a switch -/
def mj_sw (x : Int32) (lo : Int) (d : Nat) (f : Nat → mj_R) : List Nat → mj_R
  | [] => f d
  | t :: r => if x = Int32.ofInt lo then f t else mj_sw x (lo + 1) d f r
theorem mj_swP {x : Int32} {d : Nat} {f : Nat → mj_R} : ∀ (os : List Nat) (lo : Int), -2147483648 ≤ lo → lo + os.length ≤ 2147483647 → mj_sw x lo d f os = if x.toInt < lo ∨ lo + os.length ≤ x.toInt then f d else f (os.getD (x.toInt - lo).toNat d) := by
  intro os
  induction os with
  | nil => intro lo h1 h2; simp only [mj_sw, List.length_nil]; split <;> rfl
  | cons t r ih =>
    intro lo h1 h2
    simp only [List.length_cons] at h2
    have hof : (Int32.ofInt lo).toInt = lo := Int32.toInt_ofInt_of_le h1 (by omega)
    rw [mj_sw, ih (lo + 1) (by omega) (by omega)]
    by_cases hx : x = Int32.ofInt lo
    · have e : x.toInt = lo := by rw [hx, hof]
      rw [if_pos hx, if_neg (by simp only [List.length_cons]; omega), e, Int.sub_self]; rfl
    · have e : x.toInt ≠ lo := fun q => hx (Int32.toInt_inj.mp (by rw [hof, q]))
      rw [if_neg hx]
      by_cases h : x.toInt < lo + 1 ∨ lo + 1 + (r.length : Int) ≤ x.toInt
      · rw [if_pos h, if_pos (by simp only [List.length_cons]; omega)]
      · rw [if_neg h, if_neg (by simp only [List.length_cons]; omega)]
        obtain ⟨k, hk⟩ : ∃ k : Nat, x.toInt - (lo + 1) = k := ⟨(x.toInt - (lo + 1)).toNat, by omega⟩
        rw [show (x.toInt - lo) = ((k + 1 : Nat) : Int) by omega, hk]
        rfl
theorem mj_tsw {d lo hi2 : Int} {os : Array Int} {x : Int32} (hi : mj_ins m pc = some (.tableswitch d lo hi2 os, np)) (h1 : -2147483648 ≤ lo ∧ lo + os.toList.length ≤ 2147483647 ∧ hi2 + 1 = lo + os.toList.length) : mj_E m pc ls (.int x :: st) σ τ = mj_sw x lo d.toNat (fun t => mj_E m t ls st σ τ) (os.toList.map Int.toNat) := by
  rw [mj_swP _ _ h1.1 (by rw [List.length_map]; exact h1.2.1), List.length_map]
  split
  · rename_i h; exact mj_nx hi (by simp only [mj_do]; rw [if_pos (by omega)])
  · rename_i h
    have hlt : (x.toInt - lo).toNat < os.toList.length := by omega
    refine mj_nx hi ?_
    simp only [mj_do]
    rw [if_neg (by omega), ← Array.getElem?_toList, List.getElem?_eq_getElem hlt]
    simp [List.getD_eq_getElem?_getD, List.getElem?_eq_getElem hlt]
def mj_lsw (x : Int32) (d : Nat) (f : Nat → mj_R) : List (Int × Nat) → mj_R
  | [] => f d
  | (a, t) :: r => if x = Int32.ofInt a then f t else mj_lsw x d f r
theorem mj_lswP {x : Int32} {b : Nat} {d : Int} {f : Nat → mj_R} : ∀ (ps : List (Int × Int)), ps.all (fun q => decide (-2147483648 ≤ q.1) && decide (q.1 ≤ 2147483647)) = true → mj_lsw x ((b : Int) + d).toNat f (ps.map (fun q => (q.1, ((b : Int) + q.2).toNat))) = f (((b : Int) + Op.lookupswitch.offset ps d x.toInt).toNat) := by
  intro ps
  induction ps with
  | nil => intro _; rfl
  | cons a r ih =>
    intro h
    obtain ⟨a1, a2⟩ := a
    simp only [List.all_cons, Bool.and_eq_true, decide_eq_true_eq] at h
    have hof : (Int32.ofInt a1).toInt = a1 := Int32.toInt_ofInt_of_le h.1.1 (by omega)
    rw [List.map_cons, mj_lsw, Op.lookupswitch.offset, ih (by simpa [List.all_eq_true] using h.2)]
    by_cases hx : x = Int32.ofInt a1
    · rw [if_pos hx, if_pos (by rw [hx, hof])]
    · rw [if_neg hx, if_neg (fun q => hx (Int32.toInt_inj.mp (by rw [hof, q])))]
theorem mj_lusw {d : Int} {ps : Array (Int × Int)} {x : Int32} (hi : mj_ins m pc = some (.lookupswitch d ps, np)) (h1 : ps.toList.all (fun q => decide (-2147483648 ≤ q.1) && decide (q.1 ≤ 2147483647)) = true) : mj_E m pc ls (.int x :: st) σ τ = mj_lsw x ((np : Int) + d).toNat (fun t => mj_E m t ls st σ τ) (ps.toList.map (fun q => (q.1, ((np : Int) + q.2).toNat))) := by
  rw [mj_lswP _ h1]
  exact mj_nx hi (by simp only [mj_do])
end
