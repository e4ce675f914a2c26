/-! ===== the law's wrappers: the class's world, and the law's array of one answer beside it ===== -/
def OutAt (ac : Nat → ClassId) (o : Nat) (v : Int64) (H : Heap) : Prop := ∃ g : Nat → Int64, g 0 = v ∧ H[o]? = some (vp_cell (ac 1) (1, .inr (.inl g)))
theorem OutAt.kept {ac : Nat → ClassId} {o : Nat} {v : Int64} {H H1 : Heap} (h : OutAt ac o v H) (hq : H1[o]? = H[o]?) : OutAt ac o v H1 := by
  obtain ⟨g, h1, h2⟩ := h
  exact ⟨g, h1, hq.trans h2⟩
theorem OutAt.lt {ac : Nat → ClassId} {o : Nat} {v : Int64} {H : Heap} (h : OutAt ac o v H) : o < H.size := by
  obtain ⟨g, h1, h2⟩ := h
  exact (Array.getElem?_eq_some_iff.mp h2).1
theorem OutAt.at {ac : Nat → ClassId} {o : Nat} {v : Int64} {H : Heap} {t : State} (h : OutAt ac o v H) (ht : t.heap = H) : OutAt ac o v t.heap := by rw [ht]; exact h
def ZL (U : State) : Prop := ∀ a b, a < 4 → b < 4 → a ≠ b → va_Nc (exn a) (exn b) U
theorem ZL.moved {u U : State} (hvm : u.vm.Alike U.vm) (h : ZL u) : ZL U := fun a b h1 h2 h3 => (h a b h1 h2 h3).moved hvm
def BW (dC : Nat → ClassId) (dI : Nat → Nat → Nat) (ac : Nat → ClassId) (sa : Nat → Nat) (A : Nat → Prop) (ad : Nat → Nat → Nat) (o : Nat) (τ : tw_T) (v : Int64) (U : State) : Prop := BX dC dI ac sa A ad τ U ∧ OutAt ac o v U.heap ∧ ¬ A o ∧ ZL U
theorem BW.blind {dC : Nat → ClassId} {dI : Nat → Nat → Nat} {ac : Nat → ClassId} {sa : Nat → Nat} {A : Nat → Prop} {ad : Nat → Nat → Nat} {o : Nat} {τ : tw_T} {v : Int64} {av : List Value} : FrameBlind (va_Pc av (BW dC dI ac sa A ad o τ v)) := fun a U g mk q => ⟨q.1, (BX.blind (av := av) a U g mk ⟨q.1, q.2.1⟩).2, q.2.2.1, q.2.2.2.1, ZL.moved (u := U) (U := U.calling g mk a) (Vm.Alike.refl U.vm) q.2.2.2.2⟩
section WRL
variable {p : Program} {l : Launch} {e : Env} {R : Room} {s : State} {m : MethodId} {args : Array Value} {below : List Frame} {meth : Method} {c : Code} {H : Heap} {locs : List Loc} {cells slots : Nat} {Q : State → Prop}
variable {cc : ByteArray} {pc : Nat} {ls : Array Slot} {rest : List Value} {dC : Nat → ClassId} {dI : Nat → Nat → Nat} {ac : Nat → ClassId} {A : Nat → Prop} {ad : Nat → Nat → Nat} {τ : tw_T} {o : Nat} {v : Int64}
theorem wr_last (hexec : p.tables.exec = Jvm.exec) (hb : c.code = cc) (hK : va_K (dC, dI) clW (tyW ac) s) (hP : PX dC dI ac A ad τ H) (hO : OutAt ac o v H) (hoA : ¬ A o) (hS : va_S (fun q => A q ∨ q = o) s.heap H locs) {x : Int64} (hdg : decode cc pc = .ok (.lastore, 1))
    (kk : ∀ (H1 : Heap) (locs1 : List Loc), PX dC dI ac A ad τ H1 → OutAt ac o x H1 → va_S (fun q => A q ∨ q = o) s.heap H1 locs1 → W p l e R s m args below meth c H1 locs1 cells slots Q (F0 m (pc + 1) ls rest)) : W p l e R s m args below meth c H locs cells slots Q (F0 m pc ls (.long x :: .int 0 :: .ref o :: rest)) := by
  obtain ⟨g, hg, hc⟩ := hO
  refine W.last hexec hb hc ((hK.2 1 _ rfl).1 1 (fun j => .long (g j))) (fun q => by cases q) (by show ¬ ((0 : Int32) < 0 ∨ (arrV _ _ _).slots.size ≤ _); rw [arrV_size]; exact (by decide : ¬ ((0 : Int32) < 0 ∨ 1 ≤ (0 : Int32).toNatClampNeg))) rfl rfl hdg fun H1 e1 z oq => ?_
  refine kk H1 _ ⟨fun f k hf hk => (hP.1 f k hf hk).kept (oq _ (fun e9 => hoA (e9 ▸ hP.2.2.1 f k hf hk))), hP.2⟩ ⟨vp_updL g 0 x, by simp [vp_updL], ?_⟩ (hS.put z oq (Or.inr rfl))
  rw [e1, vp_cell_l, vp_cell_l, arrV_store]
  congr 2
  funext q
  by_cases hq : q = 0
  · subst hq
    simp [updV, vp_updL]
    try rfl
  · simp [updV, vp_updL, hq]
    try (intro h9; exact absurd h9 hq)
theorem wr_lald (hexec : p.tables.exec = Jvm.exec) (hb : c.code = cc) (hK : va_K (dC, dI) clW (tyW ac) s) (hO : OutAt ac o v H) (hdg : decode cc pc = .ok (.laload, 1))
    (kk : W p l e R s m args below meth c H locs cells slots Q (F0 m (pc + 1) ls (.long v :: rest))) : W p l e R s m args below meth c H locs cells slots Q (F0 m pc ls (.int 0 :: .ref o :: rest)) := by
  obtain ⟨g, hg, hc⟩ := hO
  subst hg
  exact W.lald (v := .long (g 0)) hexec hb hc ((hK.2 1 _ rfl).1 1 (fun j => .long (g j))) (fun q => by cases q) (by show ¬ ((0 : Int32) < 0 ∨ (arrV _ _ _).slots.size ≤ _); rw [arrV_size]; exact (by decide : ¬ ((0 : Int32) < 0 ∨ 1 ≤ (0 : Int32).toNatClampNeg))) (by show (arrV _ _ _).slots[_]? = _; exact arrV_read _ _ (show (0 : Int32).toNatClampNeg < 1 by decide)) rfl rfl hdg kk
end WRL
