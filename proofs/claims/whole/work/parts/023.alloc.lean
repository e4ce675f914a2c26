/-! ===== new cells of a typed heap ===== -/
theorem tw_mk_ad {i : Nat → Int32} {j : Nat → Int64} {r : Nat → Option Nat} {ad ad' : Nat → Nat → Nat} {t : Nat → Nat} (h : ∀ s x, r s = some x → ad' (t s) x = ad (t s) x) : ∀ (sl : List Nat) (s : Nat), tw_mk i j r ad' t s sl = tw_mk i j r ad t s sl
  | [], s => rfl
  | kd :: sl, s => by
    have e : tw_v i j r ad' t kd s = tw_v i j r ad t kd s := by
      match kd with
      | 0 => rfl
      | 1 => rfl
      | n + 2 =>
        show va_rf ((r s).map (ad' (t s))) = va_rf ((r s).map (ad (t s)))
        cases hr : r s with
        | none => rfl
        | some x => show va_rf (some (ad' (t s) x)) = va_rf (some (ad (t s) x)); rw [h s x hr]
    show tw_v i j r ad' t kd s :: tw_mk i j r ad' t (s + 1) sl = tw_v i j r ad t kd s :: tw_mk i j r ad t (s + 1) sl
    rw [e, tw_mk_ad h sl (s + 1)]
theorem tw_row_ad {i : Nat → Int32} {j : Nat → Int64} {r : Nat → Option Nat} {ad ad' : Nat → Nat → Nat} {t : Nat → Nat} (h : ∀ s x, r s = some x → ad' (t s) x = ad (t s) x) (kd : Nat) : tw_row i j r ad' t kd = tw_row i j r ad t kd := by
  match kd with
  | 0 => rfl
  | 1 => rfl
  | n + 2 =>
    show (.inr (.inr (.inr (.inr (fun s => (r s).map (ad' (t s)))))) : (Nat → Int32) ⊕ (Nat → Int64) ⊕ (Nat → UInt32) ⊕ (Nat → UInt64) ⊕ (Nat → Option Nat)) = .inr (.inr (.inr (.inr (fun s => (r s).map (ad (t s))))))
    congr 4
    funext s
    cases hr : r s with
    | none => rfl
    | some x => show some (ad' (t s) x) = some (ad (t s) x); rw [h s x hr]
theorem tw_c_ad {ac : Nat → ClassId} {tb : Nat → tw_F} {tg : Nat → Nat → Nat} {ad ad' : Nat → Nat → Nat} {f : Nat} {i : Nat → Int32} {j : Nat → Int64} {r : Nat → Option Nat} (h : ∀ s x, r s = some x → ad' (tg f s) x = ad (tg f s) x) : tw_c ac tb tg ad' f i j r = tw_c ac tb tg ad f i j r := by
  unfold tw_c
  cases tb f with
  | inl o => exact congrArg (fun x => (Sum.inr (o.1, x) : va_E)) (tw_mk_ad h o.2 0)
  | inr a => exact congrArg (fun x => (Sum.inl (ac a.1, a.2.1, x) : va_E)) (tw_row_ad h a.2.2)
/-- the world's address book with n cells more of family f, the j-th at q j -/
def tw_ad (ad : Nat → Nat → Nat) (f b n : Nat) (q : Nat → Nat) : Nat → Nat → Nat := fun f' k' => if f' = f ∧ b ≤ k' ∧ k' < b + n then q (k' - b) else ad f' k'
def tw_le (τ : tw_T) (ad : Nat → Nat → Nat) (τ' : tw_T) (ad' : Nat → Nat → Nat) : Prop := (∀ f, gN τ f ≤ gN τ' f) ∧ ∀ f k, k < gN τ f → ad' f k = ad f k
theorem tw_le.rf {τ : tw_T} {ad : Nat → Nat → Nat} : tw_le τ ad τ ad := ⟨fun _ => Nat.le_refl _, fun _ _ _ => rfl⟩
theorem tw_le.tr {τ τ1 τ2 : tw_T} {ad ad1 ad2 : Nat → Nat → Nat} (h : tw_le τ ad τ1 ad1) (h2 : tw_le τ1 ad1 τ2 ad2) : tw_le τ ad τ2 ad2 := ⟨fun f => Nat.le_trans (h.1 f) (h2.1 f), fun f k hk => (h2.2 f k (Nat.lt_of_lt_of_le hk (h.1 f))).trans (h.2 f k hk)⟩
theorem tw_le.same {τ τ1 τ2 : tw_T} {ad ad1 : Nat → Nat → Nat} (h : tw_le τ ad τ1 ad1) (e : gN τ2 = gN τ1) : tw_le τ ad τ2 ad1 := ⟨fun f => by rw [e]; exact h.1 f, h.2⟩
section TWG
variable {D : va_G} {cl : List vw_C} {ac : Nat → ClassId} {tb : Nat → tw_F} {tg : Nat → Nat → Nat} {A : Nat → Prop} {ad : Nat → Nat → Nat} {τ τ' : tw_T} {H H1 : Heap} {f n : Nat} {q : Nat → Nat}
theorem tw_lt_heap (hP : tw_P D cl ac tb tg A ad τ H) {f k : Nat} (hf : f < 1000) (hk : k < gN τ f) : ad f k < H.size := (hP.1 f k hf hk).lt
theorem tw_ad_old {f' k' : Nat} (hk : k' < gN τ f') : tw_ad ad f (gN τ f) n q f' k' = ad f' k' := by
  unfold tw_ad
  rw [if_neg]
  rintro ⟨rfl, h, -⟩
  omega
theorem tw_ad_new {j : Nat} (hj : j < n) : tw_ad ad f (gN τ f) n q f (gN τ f + j) = q j := by
  unfold tw_ad
  rw [if_pos ⟨rfl, by omega, by omega⟩]
  congr 1
  omega
theorem tw_grow (hP : tw_P D cl ac tb tg A ad τ H) (hf : f < 1000) (hN : ∀ f', gN τ' f' = if f' = f then gN τ f + n else gN τ f')
    (hne : ∀ f' k', k' < gN τ f' → gI τ' f' k' = gI τ f' k' ∧ gJ τ' f' k' = gJ τ f' k' ∧ gR τ' f' k' = gR τ f' k')
    (hat : ∀ j, j < n → va_at D cl (q j, tw_c ac tb tg (tw_ad ad f (gN τ f) n q) f (gI τ' f (gN τ f + j)) (gJ τ' f (gN τ f + j)) (gR τ' f (gN τ f + j))) H1) (hold : ∀ a : Nat, a < H.size → H1[a]? = H[a]?)
    (hq : ∀ j, j < n → H.size ≤ q j) (hi : ∀ i j, i < n → j < n → q i = q j → i = j) (hA : ∀ j, j < n → A (q j)) (hr : ∀ j s r, j < n → gR τ' f (gN τ f + j) s = some r → r < gN τ' (tg f s)) :
    tw_P D cl ac tb tg A (tw_ad ad f (gN τ f) n q) τ' H1 ∧ tw_le τ ad τ' (tw_ad ad f (gN τ f) n q) := by
  have hle : ∀ f', gN τ f' ≤ gN τ' f' := fun f' => by
    rw [hN]
    by_cases e : f' = f
    · subst e; rw [if_pos rfl]; omega
    · rw [if_neg e]; exact Nat.le_refl _
  have hsp : ∀ f' k', k' < gN τ' f' → k' < gN τ f' ∨ (f' = f ∧ ∃ j, j < n ∧ k' = gN τ f + j) := fun f' k' h => by
    rw [hN] at h
    by_cases e : f' = f
    · subst e
      rw [if_pos rfl] at h
      by_cases h2 : k' < gN τ f'
      · exact Or.inl h2
      · exact Or.inr ⟨rfl, k' - gN τ f', by omega, by omega⟩
    · rw [if_neg e] at h
      exact Or.inl h
  refine ⟨⟨fun f' k' hf' hk' => ?_, fun f1 k1 f2 k2 h1 h2 h3 h4 h5 => ?_, fun f' k' h1 h2 => ?_, fun f' k' s r h1 h2 h3 => ?_⟩, hle, fun f' k' h => tw_ad_old h⟩
  · rcases hsp f' k' hk' with h | ⟨rfl, j, hj, rfl⟩
    · obtain ⟨a1, a2, a3⟩ := hne f' k' h
      rw [a1, a2, a3, tw_ad_old h, tw_c_ad (ad := ad) (fun s x hx => tw_ad_old (hP.2.2.2 f' k' s x hf' h hx))]
      exact (hP.1 f' k' hf' h).kept (hold _ (tw_lt_heap hP hf' h))
    · rw [tw_ad_new hj]
      exact hat j hj
  · rcases hsp f1 k1 h3 with a | ⟨rfl, i, ai, rfl⟩ <;> rcases hsp f2 k2 h4 with b | ⟨rfl, j, bj, rfl⟩
    · rw [tw_ad_old a, tw_ad_old b] at h5
      exact hP.2.1 f1 k1 f2 k2 h1 h2 a b h5
    · rw [tw_ad_old a, tw_ad_new bj] at h5
      have := tw_lt_heap hP h1 a
      have := hq j bj
      omega
    · rw [tw_ad_new ai, tw_ad_old b] at h5
      have := tw_lt_heap hP h2 b
      have := hq i ai
      omega
    · rw [tw_ad_new ai, tw_ad_new bj] at h5
      exact ⟨rfl, by rw [hi i j ai bj h5]⟩
  · rcases hsp f' k' h2 with h | ⟨rfl, j, hj, rfl⟩
    · rw [tw_ad_old h]; exact hP.2.2.1 f' k' h1 h
    · rw [tw_ad_new hj]; exact hA j hj
  · rcases hsp f' k' h2 with h | ⟨rfl, j, hj, rfl⟩
    · rw [(hne f' k' h).2.2] at h3
      exact Nat.lt_of_lt_of_le (hP.2.2.2 f' k' s r h1 h h3) (hle _)
    · exact hr j s r hj h3
/-- the heap has grown, and no cell of the world has changed -/
theorem tw_keep (hP : tw_P D cl ac tb tg A ad τ H) (hold : ∀ a : Nat, a < H.size → H1[a]? = H[a]?) : tw_P D cl ac tb tg A ad τ H1 :=
  ⟨fun f k hf hk => (hP.1 f k hf hk).kept (hold _ (tw_lt_heap hP hf hk)), hP.2⟩
theorem tw_nW_old {f' k' : Nat} (h : k' < gN τ f') : gI (nW τ f n) f' k' = gI τ f' k' ∧ gJ (nW τ f n) f' k' = gJ τ f' k' ∧ gR (nW τ f n) f' k' = gR τ f' k' := by
  refine ⟨funext fun j => ?_, funext fun j => ?_, funext fun j => ?_⟩
  · rw [gI_nW, if_neg]; rintro ⟨rfl, h2, -⟩; omega
  · rw [gJ_nW, if_neg]; rintro ⟨rfl, h2, -⟩; omega
  · rw [gR_nW, if_neg]; rintro ⟨rfl, h2, -⟩; omega
theorem tw_nW_new {j : Nat} (h : j < n) : gI (nW τ f n) f (gN τ f + j) = (fun _ => 0) ∧ gJ (nW τ f n) f (gN τ f + j) = (fun _ => 0) ∧ gR (nW τ f n) f (gN τ f + j) = (fun _ => none) := by
  refine ⟨funext fun x => ?_, funext fun x => ?_, funext fun x => ?_⟩
  · rw [gI_nW, if_pos ⟨rfl, by omega, by omega⟩]
  · rw [gJ_nW, if_pos ⟨rfl, by omega, by omega⟩]
  · rw [gR_nW, if_pos ⟨rfl, by omega, by omega⟩]
/-- one cell more, all zero -/
theorem tw_grow1 (hP : tw_P D cl ac tb tg A ad τ H) (hf : f < 1000) {a : Nat} {e : va_E} (hat : va_at D cl (a, e) H1) (he : ∀ ad', tw_c ac tb tg ad' f (fun _ => 0) (fun _ => 0) (fun _ => none) = e) (hold : ∀ x : Nat, x < H.size → H1[x]? = H[x]?) (hq : H.size ≤ a) (hA : A a) :
    tw_P D cl ac tb tg A (tw_ad ad f (gN τ f) 1 (fun _ => a)) (nW τ f 1) H1 ∧ tw_le τ ad (nW τ f 1) (tw_ad ad f (gN τ f) 1 (fun _ => a)) := by
  refine tw_grow hP hf (fun _ => rfl) (fun f' k' h => tw_nW_old h) (fun j hj => ?_) hold (fun _ _ => hq) (fun i j h1 h2 _ => by omega) (fun _ _ => hA) (fun j s r hj h => ?_)
  · obtain ⟨a1, a2, a3⟩ := tw_nW_new (τ := τ) (f := f) hj
    rw [a1, a2, a3, he]
    exact hat
  · rw [(tw_nW_new (τ := τ) (f := f) hj).2.2] at h
    cases h
end TWG
section TWN
variable {p : Program} {l : Launch} {e : Env} {R : Room} {s : State} {m : MethodId} {args : Array Value} {below : List Frame} {meth : Method} {c : Code} {H : Heap} {locs : List Loc} {cells slots : Nat} {Q : State → Prop}
variable {cc : ByteArray} {pc : Nat} {ls : Array Slot} {rest : List Value} {D : va_G} {cl : List vw_C} {A : Nat → Prop} {tys : List (ClassId × FieldType)} {H0 : Heap}
variable {ac : Nat → ClassId} {tb : Nat → tw_F} {tg : Nat → Nat → Nat} {ad : Nat → Nat → Nat} {τ τ' : tw_T} {f k : Nat}
theorem tw_new (hexec : p.tables.exec = Jvm.exec) (hb : c.code = cc) {own Cn : String} {T : u_T} {N ci index : Nat} {Ts : List Cond} (hts : ∀ w ∈ Ts, w.before args s = true) (hin : ∀ w ∈ u_ws Cn T N, w ∈ Ts) (ty : Nat → FieldType) (hty : ∀ k, k < N → parseFieldDescriptor (T k).2.2.1 = some (ty k)) (hown : s.vm.findClass own = some m.cls) (hcl : (Cond.classLink own index Cn).before args s = true) (hinst : (Cond.instantiable Cn N).before args s = true) (hini : (Cond.initialized Cn).before args s = true)
    (hK : va_K D cl tys s) (hP : tw_P D cl ac tb tg A ad τ H) (hS : va_S A H0 H locs) (hA : ∀ q, H0.size ≤ q → A q) (hf : f < 1000) {fs : List Value} (he : ∀ ad', tw_c ac tb tg ad' f (fun _ => 0) (fun _ => 0) (fun _ => none) = .inr (ci, fs)) (hc : cl[ci]? = some (Cn, T, N)) (hfs : ∀ j, j < N → defaultValue (ty j) = vp_V fs j) (hcells : cells + 1 ≤ R.cells) (hslots : slots + N ≤ R.slots) (hdg : decode cc pc = .ok (.new index, 3))
    (kk : ∀ (ad' : Nat → Nat → Nat) (H1 : Heap), tw_P D cl ac tb tg A ad' (nW τ f 1) H1 → tw_le τ ad (nW τ f 1) ad' → va_S A H0 H1 locs →
      W p l e R s m args below meth c H1 locs (cells + 1) (slots + N) Q (F0 m (pc + 3) ls (.ref (ad' f (gN τ f)) :: rest))) : W p l e R s m args below meth c H locs cells slots Q (F0 m pc ls rest) := by
  have hKn := hK.1 ci _ hc
  refine W.newcK hexec hb hown hcl hinst hini rfl hdg hcells hslots hKn.2.1 rfl fun H1 kC hkC e1 z1 o1 => ?_
  obtain ⟨g1, g2⟩ := tw_grow1 (H1 := H1) (a := H.size) (e := .inr (ci, fs)) hP hf ⟨_, hc, (u_born ty hts hin hKn hkC e1 hty).to hfs⟩ he o1 (Nat.le_refl _) (hA _ hS.1)
  have e3 : tw_ad ad f (gN τ f) 1 (fun _ => H.size) f (gN τ f) = H.size := tw_ad_new (τ := τ) (j := 0) (by omega)
  have K := kk _ H1 g1 g2 ⟨Nat.le_trans hS.1 (by omega), fun x h1 h2 => (o1 x (Nat.lt_of_lt_of_le h1 hS.1)).trans (hS.2.1 x h1 h2), hS.2.2⟩
  rw [e3] at K
  exact K
theorem tw_newa (hexec : p.tables.exec = Jvm.exec) (hb : c.code = cc) {atype : ArrayType} (harr : (Cond.arrayClass (newarray.typeOf atype)).before args s = true) (hK : va_K D cl tys s) (hP : tw_P D cl ac tb tg A ad τ H) (hS : va_S A H0 H locs) (hA : ∀ q, H0.size ≤ q → A q)
    (hf : f < 1000) {t0 n9 kd : Nat} {n : Int32} (htb : tb f = .inr (t0, n9, kd)) (hac : s.vm.findClass ("[" ++ (newarray.typeOf atype).toString) = some (ac t0)) (ha : ∀ cA : ClassId, vp_cell cA (n9, tw_row (fun _ => 0) (fun _ => 0) (fun _ => none) (fun _ _ => 0) (fun _ => 0) kd) = arrV cA n9 (fun _ => defaultValue (newarray.typeOf atype))) (hn : ¬ n < 0) (hN : n.toNatClampNeg = n9) (hbytes : n9 * componentBytes (newarray.typeOf atype) ≤ 536870912) (hcells : cells + 1 ≤ R.cells) (hslots : slots + n9 ≤ R.slots) (hdg : decode cc pc = .ok (.newarray atype, 2))
    (kk : ∀ (ad' : Nat → Nat → Nat) (H1 : Heap), tw_P D cl ac tb tg A ad' (nW τ f 1) H1 → tw_le τ ad (nW τ f 1) ad' → va_S A H0 H1 locs →
      W p l e R s m args below meth c H1 locs (cells + 1) (slots + n9) Q (F0 m (pc + 2) ls (.ref (ad' f (gN τ f)) :: rest))) : W p l e R s m args below meth c H locs cells slots Q (F0 m pc ls (.int n :: rest)) := by
  refine va_newaK hexec hb harr rfl hdg rfl hn hN hbytes hcells hslots rfl fun H1 cA e1 z1 o1 hAr hNm => ?_
  have ec : cA = ac t0 := Option.some.inj (hNm.symm.trans hac)
  subst ec
  have hrow : ∀ ad' : Nat → Nat → Nat, tw_row (fun _ => 0) (fun _ => 0) (fun _ => none) ad' (tg f) kd = tw_row (fun _ => 0) (fun _ => 0) (fun _ => none) (fun _ _ => 0) (fun _ => 0) kd := fun ad' => by
    match kd with
    | 0 => rfl
    | 1 => rfl
    | n + 2 => rfl
  obtain ⟨g1, g2⟩ := tw_grow1 (H1 := H1) (a := H.size) (e := .inl (ac t0, n9, tw_row (fun _ => 0) (fun _ => 0) (fun _ => none) (fun _ _ => 0) (fun _ => 0) kd)) hP hf (by show H1[H.size]? = some (vp_cell _ _); rw [ha]; exact e1) (fun ad' => by simp only [tw_c, htb]; rw [hrow]) o1 (Nat.le_refl _) (hA _ hS.1)
  have e3 : tw_ad ad f (gN τ f) 1 (fun _ => H.size) f (gN τ f) = H.size := tw_ad_new (τ := τ) (j := 0) (by omega)
  have K := kk _ H1 g1 g2 ⟨Nat.le_trans hS.1 (by omega), fun x h1 h2 => (o1 x (Nat.lt_of_lt_of_le h1 hS.1)).trans (hS.2.1 x h1 h2), hS.2.2⟩
  rw [e3] at K
  exact K
theorem tw_anew (hexec : p.tables.exec = Jvm.exec) (hb : c.code = cc) {own Cn : String} {index : Nat} (hown : s.vm.findClass own = some m.cls) (hclink : (Cond.classLink own index Cn).before args s = true) (hover : va_AO Cn s) (hK : va_K D cl tys s) (hP : tw_P D cl ac tb tg A ad τ H) (hS : va_S A H0 H locs) (hA : ∀ q, H0.size ≤ q → A q)
    (hf : f < 1000) {t0 n9 : Nat} {n : Int32} (htb : tb f = .inr (t0, n9, 2)) (hac : s.vm.findClass ("[" ++ (FieldType.object Cn).toString) = some (ac t0)) (hn : ¬ n < 0) (hN : n.toNatClampNeg = n9) (hbytes : n9 * 4 ≤ 536870912) (hcells : cells + 1 ≤ R.cells) (hslots : slots + n9 ≤ R.slots) (hdg : decode cc pc = .ok (.anewarray index, 3))
    (kk : ∀ (ad' : Nat → Nat → Nat) (H1 : Heap), tw_P D cl ac tb tg A ad' (nW τ f 1) H1 → tw_le τ ad (nW τ f 1) ad' → va_S A H0 H1 locs →
      W p l e R s m args below meth c H1 locs (cells + 1) (slots + n9) Q (F0 m (pc + 3) ls (.ref (ad' f (gN τ f)) :: rest))) : W p l e R s m args below meth c H locs cells slots Q (F0 m pc ls (.int n :: rest)) := by
  subst hN
  refine W.anew hexec hb hown hclink (va_AO.use hover) rfl hdg rfl hn hbytes hcells hslots fun cA kA comp f1 f2 f3 f4 => ?_
  generalize hH1 : H.push ({ cls := cA, slots := Array.replicate n.toNatClampNeg .null, vm := .none } : Cell) = H1
  have ec : cA = ac t0 := Option.some.inj (f1.symm.trans hac)
  subst ec
  have z1 : H1.size = H.size + 1 := by rw [← hH1, Array.size_push]
  have e1 : H1[H.size]? = some (arrV (ac t0) n.toNatClampNeg (fun _ => .null)) := by rw [← hH1, Array.getElem?_push_size, ← arrV_new]
  have o1 : ∀ q : Nat, q < H.size → H1[q]? = H[q]? := fun q hq => by rw [← hH1, Array.getElem?_push, if_neg (Nat.ne_of_lt hq)]
  obtain ⟨g1, g2⟩ := tw_grow1 (H1 := H1) (a := H.size) (e := .inl (ac t0, n.toNatClampNeg, .inr (.inr (.inr (.inr (fun _ => none)))))) hP hf (by show H1[H.size]? = some (vp_cell _ _); rw [vp_cell_q]; exact e1) (fun ad' => by simp only [tw_c, htb]; rfl) o1 (Nat.le_refl _) (hA _ hS.1)
  have e3 : tw_ad ad f (gN τ f) 1 (fun _ => H.size) f (gN τ f) = H.size := tw_ad_new (τ := τ) (j := 0) (by omega)
  have K := kk _ H1 g1 g2 ⟨Nat.le_trans hS.1 (by omega), fun x h1 h2 => (o1 x (Nat.lt_of_lt_of_le h1 hS.1)).trans (hS.2.1 x h1 h2), hS.2.2⟩
  rw [e3] at K
  exact K
end TWN
section TWX
variable {p : Program} {l : Launch} {e : Env} {R : Room} {s : State} {m : MethodId} {args : Array Value} {below : List Frame} {meth : Method} {c : Code} {H : Heap} {locs : List Loc} {cells slots : Nat} {Q : State → Prop}
variable {mc ms : Nat} {free : Addr → Prop} {A0 A1 : Nat → Prop} {H0 : Heap} {a : Array Value} {pc : Nat} {ls : Array Slot} {st0 rest : List Value}
/-- a call that answers a reference, or throws -/
theorem vx_callr {S SX : Type} {post : S → Prop} {px : SX → Prop} {B : S → Nat → State → Prop} {BX : String → SX → State → Prop} {AX : Nat → Prop} (hr : vx_Run p l e R s m args below meth c H locs cells slots mc ms (F0 m pc ls st0) rest (va_Qr post B A1 a) (vx_X px BX AX) free) (hS : va_S A0 H0 H locs) (hA : ∀ q, q < H.size → A1 q → A0 q) (hf : ∀ q, free q → A0 q) (hAX : ∀ q, q < H.size → AX q → A0 q)
    (kx : ∀ (E : String) (ce : Cell) (q9 : Addr) (u : SX) (t : State) (H1 : Heap) (locs1 : List Loc), t.heap = H1 → s.vm.Alike t.vm → px u → BX E u t → H.size ≤ H1.size → (∀ q : Nat, q < H.size → ¬ AX q → H1[q]? = H[q]?) → va_S A0 H0 H1 locs1 → H1[q9]? = some ce → ce.vm = .none → s.vm.findClass E = some ce.cls → vx_W p l e R s m args below meth c H1 locs1 (cells + mc) (slots + ms) Q (F0 m pc ls rest) q9)
    (kk : ∀ (u : S) (ra : Nat) (t : State) (H1 : Heap) (locs1 : List Loc), t.heap = H1 → s.vm.Alike t.vm → post u → B u ra t → H.size ≤ H1.size → (∀ q : Nat, q < H.size → ¬ A1 q → H1[q]? = H[q]?) → va_S A0 H0 H1 locs1 → W p l e R s m args below meth c H1 locs1 (cells + mc) (slots + ms) Q (F0 m (pc + 3) ls (.ref ra :: rest))) : W p l e R s m args below meth c H locs cells slots Q (F0 m pc ls st0) := by
  intro T hT X
  rcases hr T hT X with ⟨v, st₀, t, T', L, h0, X', hL, e1, e2, ⟨⟨u, ra, hv, hp, hb⟩, hF⟩, st⟩ | ⟨q, st₀, t, T', L, E, ce, h0, X', hL, e1, e2, ⟨u, hp, hb, hF⟩, hce, hcv, hcl, st⟩
  · cases hv
    obtain ⟨k1, k2, k3⟩ := vx_keep h0 e1 hS hA hf hL hF
    obtain ⟨t2, a1, b1⟩ := kk u ra t T'.heap (locs ++ L) e1.symm (by rw [← e2]; exact X'.warmed.alike) hp hb k1 k2 k3 T' rfl X'
    exact ⟨t2, st t2 a1, b1⟩
  · obtain ⟨k1, k2, k3⟩ := vx_keep h0 e1 hS hAX hf hL hF
    obtain ⟨t2, a1, b1⟩ := kx E ce q u t T'.heap (locs ++ L) e1.symm (by rw [← e2]; exact X'.warmed.alike) hp hb k1 k2 k3 (by rw [e1]; exact hce) hcv hcl T' rfl X'
    exact ⟨t2, st.trans a1, b1⟩
end TWX
def exn (k : Nat) : String := match k with
  | 0 => "java/lang/IllegalArgumentException"
  | 1 => "java/lang/IndexOutOfBoundsException"
  | 2 => "java/lang/IllegalStateException"
  | _ => "java/util/NoSuchElementException"
/-- behind a throw: what the caller has of it -/
theorem tw_thrown {dC : Nat → ClassId} {dI : Nat → Nat → Nat} {ac : Nat → ClassId} {A : Nat → Prop} {ad : Nat → Nat → Nat} {τ : tw_T} {s t : State} {H : Heap} {locs : List Loc} (hP : PX dC dI ac A ad τ H) (hS : va_S A s.heap H locs) (hz : H.size ≤ t.heap.size) (hk : ∀ q : Nat, q < H.size → t.heap[q]? = H[q]?) : PX dC dI ac A ad τ t.heap ∧ va_F A s t :=
  ⟨tw_keep hP hk, Nat.le_trans hS.1 hz, fun q h1 h2 => (hk q (Nat.lt_of_lt_of_le h1 hS.1)).trans (hS.2.1 q h1 h2)⟩
theorem tw_at {D : va_G} {cl : List vw_C} {ac : Nat → ClassId} {tb : Nat → tw_F} {tg : Nat → Nat → Nat} {A : Nat → Prop} {ad : Nat → Nat → Nat} {τ : tw_T} {H : Heap} {t : State} (hP : tw_P D cl ac tb tg A ad τ H) (ht : t.heap = H) : tw_P D cl ac tb tg A ad τ t.heap := by rw [ht]; exact hP
theorem tw_back {D : va_G} {cl : List vw_C} {ac : Nat → ClassId} {tb : Nat → tw_F} {tg : Nat → Nat → Nat} {A : Nat → Prop} {ad : Nat → Nat → Nat} {τ : tw_T} {H : Heap} {t : State} (hP : tw_P D cl ac tb tg A ad τ t.heap) (ht : t.heap = H) : tw_P D cl ac tb tg A ad τ H := by rw [← ht]; exact hP
theorem tw_ac_obj {U : State} {cA : ClassId} {Cn : String} (h : va_RA U cA (.object Cn)) : U.vm.findClass ("[" ++ (FieldType.object Cn).toString) = some cA := by
  obtain ⟨_, _, _, _, _, h4⟩ := h
  exact h4
