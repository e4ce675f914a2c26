section TWR
variable {p : Program} {l : Launch} {e : Env} {R : Room} {s : State} {m : MethodId} {args : Array Value} {below : List Frame} {meth : Method} {c : Code} {H : Heap} {locs : List Loc} {cells slots : Nat} {Q : State → Prop}
variable {cc : ByteArray} {pc : Nat} {ls : Array Slot} {rest : List Value} {D : va_G} {cl : List vw_C} {A : Nat → Prop} {tys : List (ClassId × FieldType)} {H0 : Heap}
variable {ac : Nat → ClassId} {tb : Nat → tw_F} {tg : Nat → Nat → Nat} {ad : Nat → Nat → Nat} {τ τ' : tw_T} {f k : Nat}
/-- a field's store: what the machine does to the cell -/
theorem tw_put (hexec : p.tables.exec = Jvm.exec) (hb : c.code = cc) {own ref Cn : String} {T : u_T} {N ci index : Nat} {Ts : List Cond} (hts : ∀ w ∈ Ts, w.before args s = true) (hin : ∀ w ∈ u_ws Cn T N, w ∈ Ts) (ty0 : Nat → FieldType) (hty : ∀ k, k < N → parseFieldDescriptor (T k).2.2.1 = some (ty0 k)) (hnm : ∀ a, a < N → ∀ b, b < N → a ≠ b → (T a).2.1 ≠ (T b).2.1) (hown : s.vm.findClass own = some m.cls) (hK : va_K D cl tys s) (hP : tw_P D cl ac tb tg A ad τ H) (hS0 : va_S A H0 H locs) (hf : f < 1000) (hk : k < gN τ f) {fs : List Value} (he : tw_c ac tb tg ad f (gI τ f k) (gJ τ f k) (gR τ f k) = .inr (ci, fs)) (hc : cl[ci]? = some (Cn, T, N)) (j : Nat) (hj : j < N) (hlink : (Cond.fieldLink own index ref (T j).2.1 (T j).2.2.1).before args s = true) (hsame : ∀ x, s.fieldFound? (T j).1 (T j).2.1 (T j).2.2.1 = some x → s.fieldFound? ref (T j).2.1 (T j).2.2.1 = some x) (hfin : (T j).2.2.2 = false) {ty : FieldType} {v : Value} (hd : parseFieldDescriptor (T j).2.2.1 = some ty) (hn : narrow ty v = v) (hfit : fits ty v = true) (hl : j < fs.length)
    (hdg : decode cc pc = .ok (.putfield index, 3)) (hup : ∀ H1 : Heap, va_at D cl (ad f k, .inr (ci, fs.set j v)) H1 → (∀ q : Nat, q ≠ ad f k → H1[q]? = H[q]?) → tw_P D cl ac tb tg A ad τ' H1)
    (kk : ∀ (H1 : Heap) (locs1 : List Loc), tw_P D cl ac tb tg A ad τ' H1 → va_S A H0 H1 locs1 → W p l e R s m args below meth c H1 locs1 cells slots Q (F0 m (pc + 3) ls rest)) : W p l e R s m args below meth c H locs cells slots Q (F0 m pc ls (v :: .ref (ad f k) :: rest)) := by
  have hap := va_apart (own := own) hts hin ty0 hty hnm hK hc
  have hat := hP.1 f k hf hk
  rw [he] at hat
  obtain ⟨r, h1, cell, q1, q2, q3, q4⟩ := hat
  have hr : r = (Cn, T, N) := Option.some.inj (h1.symm.trans hc)
  subst hr
  obtain ⟨hS, hfc, kC, hkC, hkind⟩ := hK.1 ci _ hc
  obtain ⟨cf, kf, fi, fd, hi, hsl⟩ := hS j hj
  have hlay := hts _ (hin _ (u_in_lay hj))
  unfold u_lay at hlay
  rw [if_neg (by rw [hfin]; decide)] at hlay
  have hst := (u_facts hfc hkC (u_lays hts hin hj) hi).1
  have h6 := u_store hfc hkC hkind hlay hi hd hn hfit
  refine W.putK hexec hb (f := fd) ⟨hown, hlink, ⟨_, _, _, hsame _ hi⟩, hst⟩ (by rw [q2]; exact h6) q1 q3 (by rw [hsl]; exact k2_hasslot (q4 j hj)) rfl rfl hdg fun H' e1 e2 e3 => ?_
  rw [hsl] at e1 ⊢
  exact kk H' _ (hup H' ⟨_, hc, t_OB.to (V := updV (vp_V fs) j v) ⟨_, e1, q2, q3, t_set q4 hap hj v⟩ (fun i _ => vp_updV_set hl v i)⟩ e3) (hS0.put e2 e3 (hP.2.2.1 f k hf hk))
/-- the same of a final field, in a constructor -/
theorem tw_putF (hexec : p.tables.exec = Jvm.exec) (hb : c.code = cc) {own ref Cn : String} {T : u_T} {N ci index : Nat} {Ts : List Cond} (hts : ∀ w ∈ Ts, w.before args s = true) (hin : ∀ w ∈ u_ws Cn T N, w ∈ Ts) (ty0 : Nat → FieldType) (hty : ∀ k, k < N → parseFieldDescriptor (T k).2.2.1 = some (ty0 k)) (hnm : ∀ a, a < N → ∀ b, b < N → a ≠ b → (T a).2.1 ≠ (T b).2.1) (hown : s.vm.findClass own = some m.cls) (hK : va_K D cl tys s) (hP : tw_P D cl ac tb tg A ad τ H) (hS0 : va_S A H0 H locs) (hf : f < 1000) (hk : k < gN τ f) {fs : List Value} (he : tw_c ac tb tg ad f (gI τ f k) (gJ τ f k) (gR τ f k) = .inr (ci, fs)) (hc : cl[ci]? = some (Cn, T, N)) (j : Nat) (hj : j < N) (hlink : (Cond.fieldLink own index ref (T j).2.1 (T j).2.2.1).before args s = true) (hsame : ∀ x, s.fieldFound? (T j).1 (T j).2.1 (T j).2.2.1 = some x → s.fieldFound? ref (T j).2.1 (T j).2.2.1 = some x) (hfin : (T j).2.2.2 = true) (hin2 : meth.name = "<init>") (hdecl : (T j).1 = own) {ty : FieldType} {v : Value} (hd : parseFieldDescriptor (T j).2.2.1 = some ty) (hn : narrow ty v = v) (hfit : fits ty v = true) (hl : j < fs.length)
    (hdg : decode cc pc = .ok (.putfield index, 3)) (hup : ∀ H1 : Heap, va_at D cl (ad f k, .inr (ci, fs.set j v)) H1 → (∀ q : Nat, q ≠ ad f k → H1[q]? = H[q]?) → tw_P D cl ac tb tg A ad τ' H1)
    (kk : ∀ (H1 : Heap) (locs1 : List Loc), tw_P D cl ac tb tg A ad τ' H1 → va_S A H0 H1 locs1 → W p l e R s m args below meth c H1 locs1 cells slots Q (F0 m (pc + 3) ls rest)) : W p l e R s m args below meth c H locs cells slots Q (F0 m pc ls (v :: .ref (ad f k) :: rest)) := by
  have hap := va_apart (own := own) hts hin ty0 hty hnm hK hc
  have hat := hP.1 f k hf hk
  rw [he] at hat
  obtain ⟨r, h1, cell, q1, q2, q3, q4⟩ := hat
  have hr : r = (Cn, T, N) := Option.some.inj (h1.symm.trans hc)
  subst hr
  obtain ⟨hS, hfc, kC, hkC, hkind⟩ := hK.1 ci _ hc
  obtain ⟨cf, kf, fi, fd, hi, hsl⟩ := hS j hj
  have hlay := hts _ (hin _ (u_in_lay hj))
  unfold u_lay at hlay
  rw [if_pos hfin] at hlay
  have hst := (u_facts hfc hkC (u_lays hts hin hj) hi).1
  have hcf : m.cls = cf := by
    obtain ⟨_, _, c', _, _, _, -, -, hf', -, -, -, hown2, -⟩ := Cond.laysFinal_spec hlay
    have e1 : c' = cf := by have := hi.symm.trans hf'; simp at this; exact this.1.symm
    rw [hdecl] at hown2
    rw [← e1]; exact Option.some.inj (hown.symm.trans hown2)
  have h6 := u_fits hfc hkC hkind (Or.inr hlay) hi hd hn hfit
  refine W.putFinK hexec hb hown hlink (hsame _ hi) hst hcf hin2 (by rw [q2]; exact h6) q1 q3 (by rw [hsl]; exact k2_hasslot (q4 j hj)) rfl rfl hdg fun H' e1 e2 e3 => ?_
  rw [hsl] at e1 ⊢
  exact kk H' _ (hup H' ⟨_, hc, t_OB.to (V := updV (vp_V fs) j v) ⟨_, e1, q2, q3, t_set q4 hap hj v⟩ (fun i _ => vp_updV_set hl v i)⟩ e3) (hS0.put e2 e3 (hP.2.2.1 f k hf hk))
theorem tw_get (hexec : p.tables.exec = Jvm.exec) (hb : c.code = cc) {own ref Cn : String} {T : u_T} {N ci index : Nat} {Ts : List Cond} (hts : ∀ w ∈ Ts, w.before args s = true) (hin : ∀ w ∈ u_ws Cn T N, w ∈ Ts) (hown : s.vm.findClass own = some m.cls) (hK : va_K D cl tys s) (hP : tw_P D cl ac tb tg A ad τ H) (hf : f < 1000) (hk : k < gN τ f) {fs : List Value} (he : tw_c ac tb tg ad f (gI τ f k) (gJ τ f k) (gR τ f k) = .inr (ci, fs)) (hc : cl[ci]? = some (Cn, T, N)) (j : Nat) (hj : j < N) (hlink : (Cond.fieldLink own index ref (T j).2.1 (T j).2.2.1).before args s = true) (hsame : ∀ x, s.fieldFound? (T j).1 (T j).2.1 (T j).2.2.1 = some x → s.fieldFound? ref (T j).2.1 (T j).2.2.1 = some x) {v : Value} (hv : fs[j]? = some v) (hdg : decode cc pc = .ok (.getfield index, 3))
    (kk : W p l e R s m args below meth c H locs cells slots Q (F0 m (pc + 3) ls (v :: rest))) : W p l e R s m args below meth c H locs cells slots Q (F0 m pc ls (.ref (ad f k) :: rest)) :=
  va_get hexec hb hts hin hown hK (tw_one hP hf hk he) 0 rfl hc j hj hlink hsame hv hdg kk
section Arrays
variable {a n t : Nat}
theorem tw_iald (hexec : p.tables.exec = Jvm.exec) (hb : c.code = cc) (hK : va_K D cl tys s) (hP : tw_P D cl ac tb tg A ad τ H) (hf : f < 1000) (hk : k < gN τ f) (htb : tb f = .inr (t, n, 0)) (t0 : Nat) (ht : tys[t0]? = some (ac t, .int)) {i : Int32} (hin : vp_in i n) (hdg : decode cc pc = .ok (.iaload, 1))
    (kk : W p l e R s m args below meth c H locs cells slots Q (F0 m (pc + 1) ls (.int (gI τ f k i.toNatClampNeg) :: rest))) : W p l e R s m args below meth c H locs cells slots Q (F0 m pc ls (.int i :: .ref (ad f k) :: rest)) :=
  va_iald hexec hb hK (tw_one hP hf hk (e := .inl (ac t, n, .inl (gI τ f k))) (by simp only [tw_c, htb]; rfl)) 0 t0 rfl ht hin hdg kk
theorem tw_zald (hexec : p.tables.exec = Jvm.exec) (hb : c.code = cc) (hK : va_K D cl tys s) (hP : tw_P D cl ac tb tg A ad τ H) (hf : f < 1000) (hk : k < gN τ f) (htb : tb f = .inr (t, n, 0)) (t0 : Nat) (ht : tys[t0]? = some (ac t, .boolean)) {i : Int32} (hin : vp_in i n) (hdg : decode cc pc = .ok (.baload, 1))
    (kk : W p l e R s m args below meth c H locs cells slots Q (F0 m (pc + 1) ls (.int (gI τ f k i.toNatClampNeg) :: rest))) : W p l e R s m args below meth c H locs cells slots Q (F0 m pc ls (.int i :: .ref (ad f k) :: rest)) :=
  va_zald hexec hb hK (tw_one hP hf hk (e := .inl (ac t, n, .inl (gI τ f k))) (by simp only [tw_c, htb]; rfl)) 0 t0 rfl ht hin hdg kk
theorem tw_lald (hexec : p.tables.exec = Jvm.exec) (hb : c.code = cc) (hK : va_K D cl tys s) (hP : tw_P D cl ac tb tg A ad τ H) (hf : f < 1000) (hk : k < gN τ f) (htb : tb f = .inr (t, n, 1)) (t0 : Nat) (ht : tys[t0]? = some (ac t, .long)) {i : Int32} (hin : vp_in i n) (hdg : decode cc pc = .ok (.laload, 1))
    (kk : W p l e R s m args below meth c H locs cells slots Q (F0 m (pc + 1) ls (.long (gJ τ f k i.toNatClampNeg) :: rest))) : W p l e R s m args below meth c H locs cells slots Q (F0 m pc ls (.int i :: .ref (ad f k) :: rest)) :=
  va_lald hexec hb hK (tw_one hP hf hk (e := .inl (ac t, n, .inr (.inl (gJ τ f k)))) (by simp only [tw_c, htb]; rfl)) 0 t0 rfl ht hin hdg kk
theorem tw_aald (hexec : p.tables.exec = Jvm.exec) (hb : c.code = cc) (hK : va_K D cl tys s) (hP : tw_P D cl ac tb tg A ad τ H) (hf : f < 1000) (hk : k < gN τ f) (htb : tb f = .inr (t, n, 2)) (t0 : Nat) {ty : FieldType} (hty : ty.isReference = true) (ht : tys[t0]? = some (ac t, ty)) {g : Nat} (htg : ∀ i, tg f i = g) {i : Int32} (hin : vp_in i n) (hdg : decode cc pc = .ok (.aaload, 1))
    (kk : W p l e R s m args below meth c H locs cells slots Q (F0 m (pc + 1) ls (va_rf ((gR τ f k i.toNatClampNeg).map (ad g)) :: rest))) : W p l e R s m args below meth c H locs cells slots Q (F0 m pc ls (.int i :: .ref (ad f k) :: rest)) := by
  have hlt : i.toNatClampNeg < n := Nat.not_le.mp fun q => hin (Or.inr q)
  have h1 : va_P D cl [(ad f k, .inl (ac t, n, .inr (.inr (.inr (.inr (fun s => (gR τ f k s).map (ad (tg f s))))))))] H := tw_one hP hf hk (by simp only [tw_c, htb]; rfl)
  have h2 := h1 0 _ rfl
  rw [← htg i.toNatClampNeg] at kk
  exact W.aald (v := va_rf ((gR τ f k i.toNatClampNeg).map (ad (tg f i.toNatClampNeg)))) (ty := ty) hexec hb h2 ((hK.2 t0 _ ht).1 n (fun j => va_rf ((gR τ f k j).map (ad (tg f j))))) hty (fun q => by cases q) (by show ¬ (i < 0 ∨ (arrV _ _ _).slots.size ≤ _); rw [arrV_size]; exact hin) (by show (arrV _ _ _).slots[_]? = _; rw [arrV_read _ _ hlt]) rfl rfl hdg kk
theorem tw_alen (hexec : p.tables.exec = Jvm.exec) (hb : c.code = cc) (hK : va_K D cl tys s) (hP : tw_P D cl ac tb tg A ad τ H) (hf : f < 1000) (hk : k < gN τ f) {kd : Nat} (htb : tb f = .inr (t, n, kd)) (t0 : Nat) {ty : FieldType} (ht : tys[t0]? = some (ac t, ty)) {v : Int32} (hv : Int32.ofNat n = v) (hdg : decode cc pc = .ok (.arraylength, 1))
    (kk : W p l e R s m args below meth c H locs cells slots Q (F0 m (pc + 1) ls (.int v :: rest))) : W p l e R s m args below meth c H locs cells slots Q (F0 m pc ls (.ref (ad f k) :: rest)) :=
  va_alen hexec hb hK (tw_one hP hf hk (e := .inl (ac t, n, tw_row (gI τ f k) (gJ τ f k) (gR τ f k) ad (tg f) kd)) (by simp only [tw_c, htb])) 0 t0 rfl ht hv hdg kk
theorem tw_iast (hexec : p.tables.exec = Jvm.exec) (hb : c.code = cc) (hK : va_K D cl tys s) (hP : tw_P D cl ac tb tg A ad τ H) (hS : va_S A H0 H locs) (hf : f < 1000) (hk : k < gN τ f) (htb : tb f = .inr (t, n, 0)) (t0 : Nat) (ht : tys[t0]? = some (ac t, .int)) {i x : Int32} (hin : vp_in i n) (hdg : decode cc pc = .ok (.iastore, 1))
    (kk : ∀ (H1 : Heap) (locs1 : List Loc), tw_P D cl ac tb tg A ad (sI τ f k i.toNatClampNeg x) H1 → va_S A H0 H1 locs1 → W p l e R s m args below meth c H1 locs1 cells slots Q (F0 m (pc + 1) ls rest)) : W p l e R s m args below meth c H locs cells slots Q (F0 m pc ls (.int x :: .int i :: .ref (ad f k) :: rest)) := by
  have h1 : va_P D cl [(ad f k, .inl (ac t, n, .inl (gI τ f k)))] H := tw_one hP hf hk (by simp only [tw_c, htb]; rfl)
  refine W.iast hexec hb (h1 0 _ rfl) ((hK.2 t0 _ ht).1 n (fun j => .int (gI τ f k j))) (fun q => by cases q) (by show ¬ (i < 0 ∨ (arrV _ _ _).slots.size ≤ _); rw [arrV_size]; exact hin) rfl rfl hdg fun H1 e1 z oq => ?_
  refine kk H1 _ (tw_updI hP hf hk ?_ oq) (hS.put z oq (hP.2.2.1 f k hf hk))
  rw [show tw_c ac tb tg ad f (upd (gI τ f k) i.toNatClampNeg x) (gJ τ f k) (gR τ f k) = .inl (ac t, n, .inl (upd (gI τ f k) i.toNatClampNeg x)) by simp only [tw_c, htb]; rfl]
  show H1[ad f k]? = some (vp_cell _ _)
  rw [e1]
  rw [vp_cell_i, vp_cell_i, arrV_store]
  congr 2
  funext q
  by_cases hq : q = i.toNatClampNeg
  · subst hq
    simp [updV, upd]
  · simp [updV, upd, hq]
theorem tw_zast (hexec : p.tables.exec = Jvm.exec) (hb : c.code = cc) (hK : va_K D cl tys s) (hP : tw_P D cl ac tb tg A ad τ H) (hS : va_S A H0 H locs) (hf : f < 1000) (hk : k < gN τ f) (htb : tb f = .inr (t, n, 0)) (t0 : Nat) (ht : tys[t0]? = some (ac t, .boolean)) {i x : Int32} (hin : vp_in i n) (hdg : decode cc pc = .ok (.bastore, 1))
    (kk : ∀ (H1 : Heap) (locs1 : List Loc), tw_P D cl ac tb tg A ad (sI τ f k i.toNatClampNeg (vp_nar .boolean x)) H1 → va_S A H0 H1 locs1 → W p l e R s m args below meth c H1 locs1 cells slots Q (F0 m (pc + 1) ls rest)) : W p l e R s m args below meth c H locs cells slots Q (F0 m pc ls (.int x :: .int i :: .ref (ad f k) :: rest)) := by
  have h1 : va_P D cl [(ad f k, .inl (ac t, n, .inl (gI τ f k)))] H := tw_one hP hf hk (by simp only [tw_c, htb]; rfl)
  refine W.zast hexec hb (h1 0 _ rfl) ((hK.2 t0 _ ht).1 n (fun j => .int (gI τ f k j))) (fun q => by cases q) (by show ¬ (i < 0 ∨ (arrV _ _ _).slots.size ≤ _); rw [arrV_size]; exact hin) rfl rfl hdg fun H1 e1 z oq => ?_
  refine kk H1 _ (tw_updI hP hf hk ?_ oq) (hS.put z oq (hP.2.2.1 f k hf hk))
  rw [show tw_c ac tb tg ad f (upd (gI τ f k) i.toNatClampNeg (vp_nar .boolean x)) (gJ τ f k) (gR τ f k) = .inl (ac t, n, .inl (upd (gI τ f k) i.toNatClampNeg (vp_nar .boolean x))) by simp only [tw_c, htb]; rfl]
  show H1[ad f k]? = some (vp_cell _ _)
  rw [e1]
  rw [vp_cell_i, vp_cell_i, arrV_store]
  congr 2
  funext q
  by_cases hq : q = i.toNatClampNeg
  · subst hq
    simp [updV, upd, vp_nar]
    try rfl
  · simp [updV, upd, hq]
theorem tw_last (hexec : p.tables.exec = Jvm.exec) (hb : c.code = cc) (hK : va_K D cl tys s) (hP : tw_P D cl ac tb tg A ad τ H) (hS : va_S A H0 H locs) (hf : f < 1000) (hk : k < gN τ f) (htb : tb f = .inr (t, n, 1)) (t0 : Nat) (ht : tys[t0]? = some (ac t, .long)) {i : Int32} {x : Int64} (hin : vp_in i n) (hdg : decode cc pc = .ok (.lastore, 1))
    (kk : ∀ (H1 : Heap) (locs1 : List Loc), tw_P D cl ac tb tg A ad (sJ τ f k i.toNatClampNeg x) H1 → va_S A H0 H1 locs1 → W p l e R s m args below meth c H1 locs1 cells slots Q (F0 m (pc + 1) ls rest)) : W p l e R s m args below meth c H locs cells slots Q (F0 m pc ls (.long x :: .int i :: .ref (ad f k) :: rest)) := by
  have h1 : va_P D cl [(ad f k, .inl (ac t, n, .inr (.inl (gJ τ f k))))] H := tw_one hP hf hk (by simp only [tw_c, htb]; rfl)
  refine W.last hexec hb (h1 0 _ rfl) ((hK.2 t0 _ ht).1 n (fun j => .long (gJ τ f k j))) (fun q => by cases q) (by show ¬ (i < 0 ∨ (arrV _ _ _).slots.size ≤ _); rw [arrV_size]; exact hin) rfl rfl hdg fun H1 e1 z oq => ?_
  refine kk H1 _ (tw_updJ hP hf hk ?_ oq) (hS.put z oq (hP.2.2.1 f k hf hk))
  rw [show tw_c ac tb tg ad f (gI τ f k) (vp_updL (gJ τ f k) i.toNatClampNeg x) (gR τ f k) = .inl (ac t, n, .inr (.inl (vp_updL (gJ τ f k) i.toNatClampNeg x))) by simp only [tw_c, htb]; rfl]
  show H1[ad f k]? = some (vp_cell _ _)
  rw [e1]
  rw [vp_cell_l, vp_cell_l, arrV_store]
  congr 2
  funext q
  by_cases hq : q = i.toNatClampNeg
  · subst hq
    simp [updV, vp_updL]
  · simp [updV, vp_updL, hq]
/-- a reference to an object of the array's own class comes into an array -/
theorem tw_aast (hexec : p.tables.exec = Jvm.exec) (hb : c.code = cc) (hK : va_K D cl tys s) (hP : tw_P D cl ac tb tg A ad τ H) (hS : va_S A H0 H locs) (hf : f < 1000) (hk : k < gN τ f) (htb : tb f = .inr (t, n, 2)) {g ci v : Nat} {sl : List Nat} {r : vw_C} (hg : g < 1000) (hv : v < gN τ g) (htb2 : tb g = .inl (ci, sl)) (hc : cl[ci]? = some r) (t0 : Nat) (ht : tys[t0]? = some (ac t, .object r.1)) (htg : ∀ i, tg f i = g) {i : Int32} (hin : vp_in i n) (hdg : decode cc pc = .ok (.aastore, 1))
    (kk : ∀ (H1 : Heap) (locs1 : List Loc), tw_P D cl ac tb tg A ad (sR τ f k i.toNatClampNeg (some v)) H1 → va_S A H0 H1 locs1 → W p l e R s m args below meth c H1 locs1 cells slots Q (F0 m (pc + 1) ls rest)) : W p l e R s m args below meth c H locs cells slots Q (F0 m pc ls (.ref (ad g v) :: .int i :: .ref (ad f k) :: rest)) := by
  have hlt : i.toNatClampNeg < n := Nat.not_le.mp fun q => hin (Or.inr q)
  have h0 : ¬ i < 0 := fun q => hin (Or.inl q)
  have h1 : va_P D cl [(ad f k, .inl (ac t, n, .inr (.inr (.inr (.inr (fun s => (gR τ f k s).map (ad (tg f s))))))))] H := tw_one hP hf hk (by simp only [tw_c, htb]; rfl)
  have h2 : va_P D cl [(ad g v, .inr (ci, tw_mk (gI τ g v) (gJ τ g v) (gR τ g v) ad (tg g) 0 sl))] H := tw_one hP hg hv (by simp only [tw_c, htb2])
  obtain ⟨r', hr', cellV, g1, g2, g3, -⟩ := h2 0 _ rfl
  have hcls := (hK.1 ci r hc).2
  obtain ⟨kA, comp, k1, k2, k3, -⟩ := (hK.2 t0 _ ht).2
  have hcomp : comp = D.1 ci := Option.some.inj (k3.symm.trans hcls.1)
  subst hcomp
  obtain ⟨kC, hkC, -⟩ := hcls.2
  refine W.aast hexec hb (h1 0 _ rfl) (fun q h => by cases h) (fun h => by cases h) k1 k2 rfl hkC ⟨h0, by show _ < (arrV _ _ _).slots.size; rw [arrV_size]; exact hlt⟩ g1 (fun q h => by rw [g3] at h; cases h) (by rw [g2]; exact hkC) (by rw [g2]; exact va_assign hcls) rfl rfl hdg fun H1 e1 z oq => ?_
  refine kk H1 _ (tw_updR hP hf hk (fun r h => by cases h; rw [htg]; exact hv) ?_ oq) (hS.put z oq (hP.2.2.1 f k hf hk))
  rw [show tw_c ac tb tg ad f (gI τ f k) (gJ τ f k) (va_up (gR τ f k) i.toNatClampNeg (some v)) = .inl (ac t, n, .inr (.inr (.inr (.inr (fun s => (va_up (gR τ f k) i.toNatClampNeg (some v) s).map (ad (tg f s))))))) by simp only [tw_c, htb]; rfl]
  show H1[ad f k]? = some (vp_cell _ _)
  rw [e1]
  rw [vp_cell_q, vp_cell_q, arrV_store]
  congr 2
  funext q
  by_cases hq : q = i.toNatClampNeg
  · subst hq
    simp [updV, va_up, va_rf, htg]
  · simp [updV, va_up, hq]
end Arrays
end TWR
