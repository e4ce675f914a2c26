/-! ===== the two worlds: the class's (X) and the reference's (M) ===== -/
abbrev clW : List vw_C := [(RX0, TX0, 5), (RX1, TX1, 5), (RX2, TX2, 8), (RX3, TX3, 8), (RX4, TX4, 10), (RX5, TX5, 2), (RX6, TX6, 3), (RX7, TX7, 4), (RX8, TX8, 0), (RX9, TX9, 16), (RX10, TX10, 49)]
abbrev tyW (ac : Nat → ClassId) : List (ClassId × FieldType) := [(ac 0, .int), (ac 1, .long), (ac 2, .boolean), (ac 3, .object RX1), (ac 4, .object RX3), (ac 5, .object RX0), (ac 6, .object RX6), (ac 7, .object RX8), (ac 8, .array .int), (ac 9, .array .long)]
/-- the class's families: 0 the cellar, 1 to 4 its arrays of kinds, lots, dishes, sheets, 5 rack, 6 tape, 7 ledger, 8 planner, 20 kinds, 21 lots, 22 dishes, 23 sheets; their arrays -/
def tbX (f : Nat) : tw_F := match f with
  | 0 => .inl (9, [2, 2, 2, 2, 2, 2, 2, 2, 2, 2, 2, 0, 0, 0, 0, 0])
  | 1 => .inr (3, 20, 2)
  | 2 => .inr (4, 60, 2)
  | 3 => .inr (5, 20, 2)
  | 4 => .inr (6, 4, 2)
  | 5 => .inl (5, [2, 2])
  | 6 => .inl (7, [2, 0, 0, 0])
  | 7 => .inl (2, [0, 0, 0, 0, 0, 0, 0, 1])
  | 8 => .inl (4, [2, 2, 2, 2, 2, 2, 2, 0, 0, 0])
  | 9 => .inr (0, 60, 0)
  | 10 => .inr (0, 60, 0)
  | 11 => .inr (2, 60, 0)
  | 12 => .inr (0, 30, 0)
  | 13 => .inr (0, 30, 0)
  | 14 => .inr (0, 200, 0)
  | 15 => .inr (8, 30, 2)
  | 16 => .inr (8, 30, 2)
  | 17 => .inr (0, 7, 0)
  | 18 => .inr (0, 7, 0)
  | 19 => .inr (0, 7, 0)
  | 20 => .inl (1, [0, 0, 0, 0, 0])
  | 21 => .inl (3, [0, 2, 0, 0, 0, 0, 0, 0])
  | 22 => .inl (0, [2, 2, 2, 2, 0])
  | 23 => .inl (6, [2, 2, 0])
  | 24 => .inr (8, 6, 2)
  | 25 => .inr (8, 6, 2)
  | 26 => .inr (0, 7, 0)
  | 27 => .inr (0, 7, 0)
  | 28 => .inr (0, 7, 0)
  | 29 => .inr (0, 7, 0)
  | 30 => .inr (7, 12, 2)
  | 31 => .inr (0, 12, 0)
  | 32 => .inr (0, 12, 0)
  | 33 => .inr (0, 12, 0)
  | 34 => .inr (9, 10, 2)
  | 35 => .inr (0, 10, 0)
  | 36 => .inr (1, 40, 1)
  | _ => .inl (8, [])
def tgX (f j : Nat) : Nat := match f with
  | 0 => match j with | 0 => 1 | 1 => 2 | 2 => 3 | 3 => 4 | 4 => 5 | 5 => 6 | 6 => 7 | 7 => 8 | 8 => 9 | 9 => 10 | _ => 11
  | 1 => 20
  | 2 => 21
  | 3 => 22
  | 4 => 23
  | 5 => match j with | 0 => 12 | _ => 13
  | 6 => 14
  | 8 => match j with | 0 => 15 | 1 => 16 | 2 => 17 | 3 => 18 | 4 => 19 | 5 => 24 | _ => 25
  | 15 => 26
  | 16 => 27
  | 21 => 20
  | 22 => match j with | 0 => 30 | 1 => 31 | 2 => 32 | _ => 33
  | 23 => match j with | 0 => 34 | _ => 35
  | 24 => 28
  | 25 => 29
  | 30 => 1000
  | 34 => 36
  | _ => 999
/-- the reference's families: 0 the object, 1 the law's array of one answer, 100 and a field's slot: that field's array -/
def tbM (f : Nat) : tw_F := match f with
  | 0 => .inl (10, [0, 0, 0, 0, 1, 2, 2, 2, 2, 2, 2, 2, 2, 2, 2, 0, 0, 0, 0, 0, 0, 0, 0, 2, 2, 2, 2, 2, 0, 0, 0, 0, 0, 2, 2, 2, 2, 2, 2, 0, 2, 2, 2, 2, 2, 2, 2, 2, 2])
  | 1 => .inr (1, 1, 1)
  | 105 => .inr (0, 20, 0)
  | 106 => .inr (0, 20, 0)
  | 107 => .inr (0, 20, 0)
  | 108 => .inr (0, 20, 0)
  | 109 => .inr (0, 20, 0)
  | 110 => .inr (0, 60, 0)
  | 111 => .inr (0, 60, 0)
  | 112 => .inr (0, 60, 0)
  | 113 => .inr (0, 60, 0)
  | 114 => .inr (0, 60, 0)
  | 123 => .inr (0, 30, 0)
  | 124 => .inr (0, 30, 0)
  | 125 => .inr (0, 60, 0)
  | 126 => .inr (0, 60, 0)
  | 127 => .inr (0, 60, 0)
  | 133 => .inr (0, 200, 0)
  | 134 => .inr (0, 21, 0)
  | 135 => .inr (0, 252, 0)
  | 136 => .inr (0, 252, 0)
  | 137 => .inr (0, 252, 0)
  | 138 => .inr (0, 252, 0)
  | 140 => .inr (0, 4, 0)
  | 141 => .inr (0, 40, 0)
  | 142 => .inr (1, 1600, 1)
  | 143 => .inr (0, 360, 0)
  | 144 => .inr (0, 60, 0)
  | 145 => .inr (0, 6, 0)
  | 146 => .inr (0, 6, 0)
  | 147 => .inr (0, 6, 0)
  | 148 => .inr (0, 6, 0)
  | _ => .inl (8, [])
def tgM (f j : Nat) : Nat := match f with
  | 0 => 100 + j
  | _ => 999
/-- what stands outside both worlds and is only read: the enum's constants, static arrays, texts -/
def ZX (_sa : Nat → Nat) (_A : Nat → Prop) (_U : State) (_H : Heap) : Prop := True
def ZM (_sa : Nat → Nat) (_A : Nat → Prop) (_U : State) (_H : Heap) : Prop := True
theorem ZX.kept {sa : Nat → Nat} {A : Nat → Prop} {U : State} {H H1 : Heap} (h : ZX sa A U H) (_hq : ∀ a : Nat, a < H.size → ¬ A a → H1[a]? = H[a]?) : ZX sa A U H1 := trivial
theorem ZX.moved {sa : Nat → Nat} {A : Nat → Prop} {u U : State} {H : Heap} (_hvm : u.vm.Alike U.vm) (h : ZX sa A u H) : ZX sa A U H := trivial
theorem ZM.kept {sa : Nat → Nat} {A : Nat → Prop} {U : State} {H H1 : Heap} (h : ZM sa A U H) (_hq : ∀ a : Nat, a < H.size → ¬ A a → H1[a]? = H[a]?) : ZM sa A U H1 := trivial
theorem ZM.moved {sa : Nat → Nat} {A : Nat → Prop} {u U : State} {H : Heap} (_hvm : u.vm.Alike U.vm) (h : ZM sa A u H) : ZM sa A U H := trivial
abbrev PX (dC : Nat → ClassId) (dI : Nat → Nat → Nat) (ac : Nat → ClassId) (A : Nat → Prop) (ad : Nat → Nat → Nat) (τ : tw_T) (H : Heap) : Prop := tw_P (dC, dI) clW ac tbX tgX A ad τ H
abbrev PM (dC : Nat → ClassId) (dI : Nat → Nat → Nat) (ac : Nat → ClassId) (A : Nat → Prop) (ad : Nat → Nat → Nat) (τ : tw_T) (H : Heap) : Prop := tw_P (dC, dI) clW ac tbM tgM A ad τ H
def BX (dC : Nat → ClassId) (dI : Nat → Nat → Nat) (ac : Nat → ClassId) (sa : Nat → Nat) (A : Nat → Prop) (ad : Nat → Nat → Nat) (τ : tw_T) (U : State) : Prop := PX dC dI ac A ad τ U.heap ∧ va_K (dC, dI) clW (tyW ac) U ∧ (∀ q : Nat, U.heap.size ≤ q → A q) ∧ ZX sa A U U.heap
def BM (dC : Nat → ClassId) (dI : Nat → Nat → Nat) (ac : Nat → ClassId) (sa : Nat → Nat) (A : Nat → Prop) (ad : Nat → Nat → Nat) (τ : tw_T) (U : State) : Prop := PM dC dI ac A ad τ U.heap ∧ va_K (dC, dI) clW (tyW ac) U ∧ (∀ q : Nat, U.heap.size ≤ q → A q) ∧ ZM sa A U U.heap
section TWW
variable {dC : Nat → ClassId} {dI : Nat → Nat → Nat} {ac : Nat → ClassId} {sa : Nat → Nat} {A : Nat → Prop} {ad : Nat → Nat → Nat} {τ : tw_T} {s : State} {H : Heap} {locs : List Loc}
theorem BX.blind {av : List Value} : FrameBlind (va_Pc av (BX dC dI ac sa A ad τ)) := fun a U g mk q => ⟨q.1, q.2.1, va_K.moved (u := U) (U := U.calling g mk a) (Vm.Alike.refl U.vm) q.2.2.1, q.2.2.2.1, ZX.moved (u := U) (U := U.calling g mk a) (Vm.Alike.refl U.vm) q.2.2.2.2⟩
theorem BM.blind {av : List Value} : FrameBlind (va_Pc av (BM dC dI ac sa A ad τ)) := fun a U g mk q => ⟨q.1, q.2.1, va_K.moved (u := U) (U := U.calling g mk a) (Vm.Alike.refl U.vm) q.2.2.1, q.2.2.2.1, ZM.moved (u := U) (U := U.calling g mk a) (Vm.Alike.refl U.vm) q.2.2.2.2⟩
theorem BX.of (hP : PX dC dI ac A ad τ H) (hK : va_K (dC, dI) clW (tyW ac) s) (hS : va_S A s.heap H locs) (hA : ∀ q : Nat, s.heap.size ≤ q → A q) (hZ : ZX sa A s s.heap) {U : State} (hU : U.heap = H) (hW : s.vm.Alike U.vm) : BX dC dI ac sa A ad τ U :=
  ⟨by rw [hU]; exact hP, va_K.moved hW hK, fun q h => hA q (Nat.le_trans (by rw [hU] at h; exact hS.1) (by rw [hU] at h; exact h)), ZX.moved hW (hZ.kept (fun a h1 h2 => by rw [hU]; exact hS.2.1 a h1 h2))⟩
theorem BM.of (hP : PM dC dI ac A ad τ H) (hK : va_K (dC, dI) clW (tyW ac) s) (hS : va_S A s.heap H locs) (hA : ∀ q : Nat, s.heap.size ≤ q → A q) (hZ : ZM sa A s s.heap) {U : State} (hU : U.heap = H) (hW : s.vm.Alike U.vm) : BM dC dI ac sa A ad τ U :=
  ⟨by rw [hU]; exact hP, va_K.moved hW hK, fun q h => hA q (Nat.le_trans (by rw [hU] at h; exact hS.1) (by rw [hU] at h; exact h)), ZM.moved hW (hZ.kept (fun a h1 h2 => by rw [hU]; exact hS.2.1 a h1 h2))⟩
theorem BX.back {t : State} (h : BX dC dI ac sa A ad τ t) (ht : t.heap = H) : PX dC dI ac A ad τ H := by rw [← ht]; exact h.1
theorem BM.back {t : State} (h : BM dC dI ac sa A ad τ t) (ht : t.heap = H) : PM dC dI ac A ad τ H := by rw [← ht]; exact h.1
/-- the receiver of a call -/
theorem tw_recv {D : va_G} {cl : List vw_C} {tb : Nat → tw_F} {tg : Nat → Nat → Nat} {f k ci : Nat} {sl : List Nat} {q : vw_C} {tys : List (ClassId × FieldType)} (hK : va_K D cl tys s) (hP : tw_P D cl ac tb tg A ad τ H) (hf : f < 1000) (hk : k < gN τ f) (htb : tb f = .inl (ci, sl)) (hc : cl[ci]? = some q) : ∃ cell : Cell, H[ad f k]? = some cell ∧ cell.vm.isStatics = false ∧ s.vm.findClass q.1 = some cell.cls :=
  va_recv (q0 := 0) hK (tw_one hP hf hk (e := .inr (ci, tw_mk (gI τ f k) (gJ τ f k) (gR τ f k) ad (tg f) 0 sl)) (by simp only [tw_c, htb])) hc rfl
end TWW
theorem tw_lt {k a b : Nat} (h : k < a) (e : b = a) : k < b := by rw [e]; exact h
theorem tw_sw {x : Int32} {n : Int} (h : x.toInt = n) {y : Int32} (e : y.toInt = n) : x = y := Int32.toInt_inj.mp (h.trans e.symm)
/-- a boolean's int -/
def tw_b (v : Int32) : Prop := v = 0 ∨ v = 1
theorem tw_bn {v : Int32} (h : tw_b v) : narrow .boolean (.int v) = .int v := by rcases h with rfl | rfl <;> rfl
theorem tw_bf {v : Int32} (h : tw_b v) : fits .boolean (.int v) = true := by rcases h with rfl | rfl <;> rfl
