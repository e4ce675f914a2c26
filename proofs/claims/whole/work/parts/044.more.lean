/-! ===== more rows: arrays of arrays, the enum's constants ===== -/
section TWG2
variable {D : va_G} {cl : List vw_C} {ac : Nat → ClassId} {tb : Nat → tw_F} {tg : Nat → Nat → Nat} {A : Nat → Prop} {ad : Nat → Nat → Nat} {τ τ' : tw_T} {H H1 : Heap} {f n : Nat} {q : Nat → Nat}
/-- tw_grow, where the new addresses are but apart from the old -/
theorem tw_growF (hP : tw_P D cl ac tb tg A ad τ H) (hf : f < 1000) (hN : ∀ f', gN τ' f' = if f' = f then gN τ f + n else gN τ f')
    (hne : ∀ f' k', k' < gN τ f' → gI τ' f' k' = gI τ f' k' ∧ gJ τ' f' k' = gJ τ f' k' ∧ gR τ' f' k' = gR τ f' k')
    (hat : ∀ j, j < n → va_at D cl (q j, tw_c ac tb tg (tw_ad ad f (gN τ f) n q) f (gI τ' f (gN τ f + j)) (gJ τ' f (gN τ f + j)) (gR τ' f (gN τ f + j))) H)
    (hq : ∀ j f' k', j < n → f' < 1000 → k' < gN τ f' → ad f' k' ≠ q j) (hi : ∀ i j, i < n → j < n → q i = q j → i = j) (hA : ∀ j, j < n → A (q j)) (hr : ∀ j s r, j < n → gR τ' f (gN τ f + j) s = some r → r < gN τ' (tg f s)) :
    tw_P D cl ac tb tg A (tw_ad ad f (gN τ f) n q) τ' H ∧ tw_le τ ad τ' (tw_ad ad f (gN τ f) n q) := by
  have hle : ∀ f', gN τ f' ≤ gN τ' f' := fun f' => by
    rw [hN]
    by_cases e : f' = f
    · subst e; rw [if_pos rfl]; omega
    · rw [if_neg e]; exact Nat.le_refl _
  have hsp : ∀ f' k', k' < gN τ' f' → k' < gN τ f' ∨ (f' = f ∧ ∃ j, j < n ∧ k' = gN τ f + j) := fun f' k' h => by
    rw [hN] at h
    by_cases e : f' = f
    · subst e
      rw [if_pos rfl] at h
      by_cases h2 : k' < gN τ f'
      · exact Or.inl h2
      · exact Or.inr ⟨rfl, k' - gN τ f', by omega, by omega⟩
    · rw [if_neg e] at h
      exact Or.inl h
  refine ⟨⟨fun f' k' hf' hk' => ?_, fun f1 k1 f2 k2 h1 h2 h3 h4 h5 => ?_, fun f' k' h1 h2 => ?_, fun f' k' s r h1 h2 h3 => ?_⟩, hle, fun f' k' h => tw_ad_old h⟩
  · rcases hsp f' k' hk' with h | ⟨rfl, j, hj, rfl⟩
    · obtain ⟨a1, a2, a3⟩ := hne f' k' h
      rw [a1, a2, a3, tw_ad_old h, tw_c_ad (ad := ad) (fun s x hx => tw_ad_old (hP.2.2.2 f' k' s x hf' h hx))]
      exact hP.1 f' k' hf' h
    · rw [tw_ad_new hj]
      exact hat j hj
  · rcases hsp f1 k1 h3 with a | ⟨rfl, i, ai, rfl⟩ <;> rcases hsp f2 k2 h4 with b | ⟨rfl, j, bj, rfl⟩
    · rw [tw_ad_old a, tw_ad_old b] at h5
      exact hP.2.1 f1 k1 f2 k2 h1 h2 a b h5
    · rw [tw_ad_old a, tw_ad_new bj] at h5
      exact absurd h5 (hq j f1 k1 bj h1 a)
    · rw [tw_ad_new ai, tw_ad_old b] at h5
      exact absurd h5.symm (hq i f2 k2 ai h2 b)
    · rw [tw_ad_new ai, tw_ad_new bj] at h5
      exact ⟨rfl, by rw [hi i j ai bj h5]⟩
  · rcases hsp f' k' h2 with h | ⟨rfl, j, hj, rfl⟩
    · rw [tw_ad_old h]; exact hP.2.2.1 f' k' h1 h
    · rw [tw_ad_new hj]; exact hA j hj
  · rcases hsp f' k' h2 with h | ⟨rfl, j, hj, rfl⟩
    · rw [(hne f' k' h).2.2] at h3
      exact Nat.lt_of_lt_of_le (hP.2.2.2 f' k' s r h1 h h3) (hle _)
    · exact hr j s r hj h3
end TWG2
section TWM
variable {p : Program} {l : Launch} {e : Env} {R : Room} {s : State} {m : MethodId} {args : Array Value} {below : List Frame} {meth : Method} {c : Code} {H : Heap} {locs : List Loc} {cells slots : Nat} {Q : State → Prop}
variable {cc : ByteArray} {pc : Nat} {ls : Array Slot} {rest : List Value} {D : va_G} {cl : List vw_C} {A : Nat → Prop} {tys : List (ClassId × FieldType)} {H0 : Heap}
variable {ac : Nat → ClassId} {tb : Nat → tw_F} {tg : Nat → Nat → Nat} {ad : Nat → Nat → Nat} {τ τ' : tw_T} {f g k : Nat}
theorem tw_mna (hexec : p.tables.exec = Jvm.exec) (hb : c.code = cc) {own : String} {index : Nat} {ty : FieldType} (hown : s.vm.findClass own = some m.cls) (hclink : (Cond.classLink own index ("[" ++ (FieldType.array ty).toString)).before args s = true) (hover : va_AOA ty s) (harr : (Cond.arrayClass ty).before args s = true) (hP : tw_P D cl ac tb tg A ad τ H) (hS : va_S A H0 H locs) (hA : ∀ q, H0.size ≤ q → A q)
    (hf : f < 1000) (hg : g < 1000) (hfg : f ≠ g) {t1 t2 n9 m9 kd : Nat} (htb : tb f = .inr (t1, n9, 2)) (htb2 : tb g = .inr (t2, m9, kd)) (htg : ∀ i, tg f i = g) (hac1 : s.vm.findClass ("[" ++ (FieldType.array ty).toString) = some (ac t1)) (hac2 : s.vm.findClass (FieldType.array ty).toString = some (ac t2))
    {n k : Int32} (hn : ¬ n < 0) (hk : ¬ k < 0) (hN : n.toNatClampNeg = n9) (hM : k.toNatClampNeg = m9) (hb1 : n9 * 4 ≤ 536870912) (hb2 : m9 * componentBytes ty ≤ 536870912) (hb3 : m9 ≤ 536870912) (hdf : fits ty (defaultValue ty) = true) (hdd : (defaultValue ty).isDefault = true) (hcells : cells + (1 + n9) ≤ R.cells) (hslots : slots + (n9 + n9 * m9) ≤ R.slots)
    (hz : ∀ c : ClassId, Jvm.Free.Multi.innerC c m9 (defaultValue ty) = vp_cell c (m9, tw_row (fun _ => 0) (fun _ => 0) (fun _ => none) (fun _ _ => 0) (fun _ => 0) kd)) (hdg : decode cc pc = .ok (.multianewarray index 2, 4))
    (kk : ∀ (ad' : Nat → Nat → Nat) (H1 : Heap), tw_P D cl ac tb tg A ad' (sM (nW (nW τ g n9) f 1) f (gN τ f) (gN τ g) n9) H1 → tw_le τ ad (sM (nW (nW τ g n9) f 1) f (gN τ f) (gN τ g) n9) ad' → va_S A H0 H1 locs →
      W p l e R s m args below meth c H1 locs (cells + 1 + n9) (slots + n9 + n9 * m9) Q (F0 m (pc + 4) ls (.ref (ad' f (gN τ f)) :: rest))) : W p l e R s m args below meth c H locs cells slots Q (F0 m pc ls (.int k :: .int n :: rest)) := by
  subst hN
  subst hM
  intro T hT Xs
  obtain ⟨vm₁, cA, comp, -, fA, fC, hO, -, X', step⟩ := Xs.multianewarray2F hexec hown hclink (va_AOA.use hover) harr (g := F0 m pc ls (.int k :: .int n :: rest)) rfl (by rw [hb]; exact hdg) rfl hn hk hb1 hb2 hb3 hdf hdd hcells hslots
  have ec : ac t2 = comp := Option.some.inj (hac2.symm.trans fC)
  have ec1 : ac t1 = cA := Option.some.inj (hac1.symm.trans fA)
  subst ec
  subst ec1
  generalize hF : Jvm.Free.Multi.fill (T.setVm vm₁) (ac t1) (ac t2) n.toNatClampNeg k.toNatClampNeg (defaultValue ty) n.toNatClampNeg = F at X' step
  have hTh : (T.setVm vm₁).heap = H := hT
  obtain ⟨f1, f2, -, -⟩ := Jvm.Free.Multi.fill_facts (T.setVm vm₁) (ac t1) (ac t2) n.toNatClampNeg k.toNatClampNeg (defaultValue ty) n.toNatClampNeg
  rw [hF, hTh] at f1 f2
  have hold : ∀ x : Nat, x < H.size → F.heap[x]? = H[x]? := fun x hx => by
    have := Jvm.Free.Multi.fill_old (T.setVm vm₁) (ac t1) (ac t2) n.toNatClampNeg k.toNatClampNeg (defaultValue ty) (a := x) (by rw [hTh]; exact hx) n.toNatClampNeg
    rw [hF, hTh] at this
    exact this
  have hrow : ∀ j : Nat, j < n.toNatClampNeg → F.heap[H.size + 1 + j]? = some (vp_cell (ac t2) (k.toNatClampNeg, tw_row (fun _ => 0) (fun _ => 0) (fun _ => none) (fun _ _ => 0) (fun _ => 0) kd)) := fun j hj => by
    have := Jvm.Free.Multi.fill_inner (T.setVm vm₁) (ac t1) (ac t2) n.toNatClampNeg k.toNatClampNeg (defaultValue ty) n.toNatClampNeg j hj
    rw [hF, hTh, hz] at this
    exact this
  have hout : Jvm.Free.Multi.outerC (ac t1) n.toNatClampNeg H.size n.toNatClampNeg = vp_cell (ac t1) (n.toNatClampNeg, .inr (.inr (.inr (.inr (fun i => if i < n.toNatClampNeg then some (H.size + 1 + i) else none))))) := by
    rw [vp_cell_q]
    exact vr_outer (ac t1) n.toNatClampNeg H.size n.toNatClampNeg
  rw [hout] at f2
  have hzero : ∀ ad' : Nat → Nat → Nat, tw_row (fun _ => 0) (fun _ => 0) (fun _ => none) ad' (tg g) kd = tw_row (fun _ => 0) (fun _ => 0) (fun _ => none) (fun _ _ => 0) (fun _ => 0) kd := fun ad' => by
    match kd with
    | 0 => rfl
    | 1 => rfl
    | n + 2 => rfl
  have hAq : ∀ x : Nat, H.size ≤ x → A x := fun x h => hA x (Nat.le_trans hS.1 h)
  obtain ⟨g1, g2⟩ := tw_grow (τ' := nW τ g n.toNatClampNeg) (n := n.toNatClampNeg) (q := fun j => H.size + 1 + j) (H1 := F.heap) hP hg (fun _ => rfl) (fun f' k' h => tw_nW_old h) (fun j hj => by
      obtain ⟨a1, a2, a3⟩ := tw_nW_new (τ := τ) (f := g) hj
      rw [a1, a2, a3]
      show va_at D cl (H.size + 1 + j, tw_c ac tb tg _ g _ _ _) F.heap
      rw [show ∀ ad' : Nat → Nat → Nat, tw_c ac tb tg ad' g (fun _ => 0) (fun _ => 0) (fun _ => none) = .inl (ac t2, k.toNatClampNeg, tw_row (fun _ => 0) (fun _ => 0) (fun _ => none) (fun _ _ => 0) (fun _ => 0) kd) from fun ad' => by simp only [tw_c, htb2]; rw [hzero]]
      exact hrow j hj) hold (fun j _ => by show H.size ≤ H.size + 1 + j; omega) (fun i j _ _ h => by have h9 : H.size + 1 + i = H.size + 1 + j := h; omega) (fun j _ => hAq _ (by show H.size ≤ H.size + 1 + j; omega)) (fun j s r hj h => by rw [(tw_nW_new (τ := τ) (f := g) hj).2.2] at h; cases h)
  have hNf : gN (nW τ g n.toNatClampNeg) f = gN τ f := by rw [gN_nW, if_neg hfg]
  obtain ⟨g3, g4⟩ := tw_growF (τ' := sM (nW (nW τ g n.toNatClampNeg) f 1) f (gN τ f) (gN τ g) n.toNatClampNeg) (n := 1) (q := fun _ => H.size) g1 hf (fun f' => by rw [gN_sM, gN_nW]) (fun f' k' h => by
      obtain ⟨a1, a2, a3⟩ := tw_nW_old (f := f) (n := 1) h
      refine ⟨by rw [gI_sM]; exact a1, by rw [gJ_sM]; exact a2, ?_⟩
      rw [← a3]
      funext x
      rw [gR_sM, if_neg]
      rintro ⟨rfl, rfl⟩
      rw [hNf] at h
      exact absurd h (Nat.lt_irrefl _)) (fun j hj => by
      have hj0 : j = 0 := by omega
      subst hj0
      have e1 : gR (sM (nW (nW τ g n.toNatClampNeg) f 1) f (gN τ f) (gN τ g) n.toNatClampNeg) f (gN (nW τ g n.toNatClampNeg) f + 0) = fun x => if x < n.toNatClampNeg then some (gN τ g + x) else none := by
        funext x
        rw [gR_sM, if_pos ⟨rfl, by rw [hNf]; rfl⟩]
      rw [e1]
      show va_at D cl (H.size, tw_c ac tb tg _ f _ _ _) F.heap
      rw [show ∀ (ad' : Nat → Nat → Nat) (i9 : Nat → Int32) (j9 : Nat → Int64) (r9 : Nat → Option Nat), tw_c ac tb tg ad' f i9 j9 r9 = .inl (ac t1, n.toNatClampNeg, .inr (.inr (.inr (.inr (fun x => (r9 x).map (ad' (tg f x))))))) from fun ad' i9 j9 r9 => by simp only [tw_c, htb]; rfl]
      show F.heap[H.size]? = some (vp_cell _ _)
      rw [f2]
      congr 7
      funext x
      by_cases hx : x < n.toNatClampNeg
      · rw [if_pos hx, if_pos hx, htg]
        show some (H.size + 1 + x) = some (tw_ad (tw_ad ad g (gN τ g) n.toNatClampNeg (fun j => H.size + 1 + j)) f (gN (nW τ g n.toNatClampNeg) f) 1 (fun _ => H.size) g (gN τ g + x))
        rw [tw_ad_old (τ := nW τ g n.toNatClampNeg) (by rw [gN_nW, if_pos rfl]; omega), tw_ad_new (τ := τ) hx]
      · rw [if_neg hx, if_neg hx]; rfl) (fun j f' k' hj hf' hk' => by
      by_cases hkk : k' < gN τ f'
      · rw [tw_ad_old hkk]
        exact Nat.ne_of_lt (tw_lt_heap hP hf' hkk)
      · rw [gN_nW] at hk'
        by_cases hfe : f' = g
        · subst hfe
          rw [if_pos rfl] at hk'
          have e9 : k' = gN τ f' + (k' - gN τ f') := by omega
          rw [e9, tw_ad_new (τ := τ) (by omega)]
          show H.size + 1 + _ ≠ H.size
          omega
        · rw [if_neg hfe] at hk'
          exact absurd hk' hkk) (fun i j h1 h2 _ => by omega) (fun _ _ => hAq _ (Nat.le_refl _)) (fun j x r hj h => by
      rw [gR_sM, if_pos ⟨rfl, by rw [hNf]; omega⟩] at h
      rw [htg, gN_sM, gN_nW, if_neg (Ne.symm hfg), gN_nW, if_pos rfl]
      by_cases hx : x < n.toNatClampNeg
      · rw [if_pos hx] at h; cases h; omega
      · rw [if_neg hx] at h; cases h)
  have e3 : tw_ad (tw_ad ad g (gN τ g) n.toNatClampNeg (fun j => H.size + 1 + j)) f (gN (nW τ g n.toNatClampNeg) f) 1 (fun _ => H.size) f (gN τ f) = H.size := by
    have := tw_ad_new (ad := tw_ad ad g (gN τ g) n.toNatClampNeg (fun j => H.size + 1 + j)) (τ := nW τ g n.toNatClampNeg) (f := f) (n := 1) (q := fun _ => H.size) (j := 0) (by omega)
    rw [Nat.add_zero, hNf] at this
    rw [hNf]
    exact this
  have K := kk _ F.heap g3 (g2.tr g4) ⟨by rw [f1]; have := hS.1; omega, fun x h1 h2 => (hold x (Nat.lt_of_lt_of_le h1 hS.1)).trans (hS.2.1 x h1 h2), hS.2.2⟩
  rw [e3] at K
  obtain ⟨t, a1, b1⟩ := K F rfl X'
  refine ⟨t, step t ?_, b1⟩
  have e9 : T.heap.size = H.size := by rw [hT]
  rw [e9]
  exact a1
/-- a constant of the enum comes into an array -/
theorem tw_aastS {dC : Nat → ClassId} {dI : Nat → Nat → Nat} {sa : Nat → Nat} (hexec : p.tables.exec = Jvm.exec) (hb : c.code = cc) (hK : va_K (dC, dI) clW tys s) (hP : tw_P (dC, dI) clW ac tb tg A ad τ H) (hS : va_S A s.heap H locs) (hE : va_En RX8 "LWineCellar$Test;" zx_nm zx_F sa A s s.heap) (hf : f < 1000) (hk : k < gN τ f) {t n q : Nat} (htb : tb f = .inr (t, n, 2)) (t0 : Nat) (ht : tys[t0]? = some (ac t, .object RX8)) (htg : ∀ i, tg f i = 1000) (hq : q < 8) (h8 : 8 ≤ gN τ 1000) (hsa : ad 1000 q = sa q) {i : Int32} (hin : vp_in i n) (hdg : decode cc pc = .ok (.aastore, 1))
    (kk : ∀ (H1 : Heap) (locs1 : List Loc), tw_P (dC, dI) clW ac tb tg A ad (sR τ f k i.toNatClampNeg (some q)) H1 → va_S A s.heap H1 locs1 → W p l e R s m args below meth c H1 locs1 cells slots Q (F0 m (pc + 1) ls rest)) : W p l e R s m args below meth c H locs cells slots Q (F0 m pc ls (.ref (sa q) :: .int i :: .ref (ad f k) :: rest)) := by
  have hlt : i.toNatClampNeg < n := Nat.not_le.mp fun z => hin (Or.inr z)
  have h0 : ¬ i < 0 := fun z => hin (Or.inl z)
  have h1 : va_P (dC, dI) clW [(ad f k, .inl (ac t, n, .inr (.inr (.inr (.inr (fun s => (gR τ f k s).map (ad (tg f s))))))))] H := tw_one hP hf hk (by simp only [tw_c, htb]; rfl)
  obtain ⟨cellV, g1, g2, g3⟩ := va_recvE hE (i := q) hq hS
  obtain ⟨kA, comp, k1, k2, k3, -⟩ := (hK.2 t0 _ ht).2
  have hcv : cellV.cls = comp := (Option.some.inj (g3.symm.trans k3))
  obtain ⟨kC, hkC, -⟩ := Vm.findClass_spec k3
  refine W.aast hexec hb (h1 0 _ rfl) (fun z h => by cases h) (fun h => by cases h) k1 k2 rfl hkC ⟨h0, by show _ < (arrV _ _ _).slots.size; rw [arrV_size]; exact hlt⟩ g1 (fun z h => by rw [h] at g2; cases g2) (by rw [hcv]; exact hkC) (by rw [hcv]; show s.vm.assignableAux (255 + 1) comp comp = true; rw [Vm.assignableAux, Bool.or_eq_true, beq_iff_eq]; exact Or.inl rfl) rfl rfl hdg fun H1 e1 z oq => ?_
  refine kk H1 _ (tw_updR hP hf hk (fun r h => by cases h; rw [htg]; omega) ?_ oq) (hS.put z oq (hP.2.2.1 f k hf hk))
  rw [show tw_c ac tb tg ad f (gI τ f k) (gJ τ f k) (va_up (gR τ f k) i.toNatClampNeg (some q)) = .inl (ac t, n, .inr (.inr (.inr (.inr (fun s => (va_up (gR τ f k) i.toNatClampNeg (some q) s).map (ad (tg f s))))))) by simp only [tw_c, htb]; rfl]
  show H1[ad f k]? = some (vp_cell _ _)
  rw [e1]
  rw [vp_cell_q, vp_cell_q, arrV_store]
  congr 2
  funext x
  by_cases hx : x = i.toNatClampNeg
  · subst hx
    simp [updV, va_up, va_rf, htg, hsa]
  · simp [updV, va_up, hx]
end TWM
def zx_sort (i : Nat) : Int32 := ([-1, -1, 0, 1, 2, -1, -1, -1] : List Int32).getD i 0
def zx_meas (i : Nat) : Int32 := ([0, 0, 0, 0, 0, 1, 1, 1] : List Int32).getD i 0
