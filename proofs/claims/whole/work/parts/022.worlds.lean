/-! ===== the two worlds: the class's (X) and the reference's (M) ===== -/
abbrev clW : List vw_C := [(RX0, TX0, 5), (RX1, TX1, 5), (RX2, TX2, 8), (RX3, TX3, 8), (RX4, TX4, 10), (RX5, TX5, 2), (RX6, TX6, 3), (RX7, TX7, 4), (RX9, TX9, 0), (RX9, TX9, 16), (RX10, TX10, 49)]
abbrev tyW (ac : Nat → ClassId) : List (ClassId × FieldType) := [(ac 0, .int), (ac 1, .long), (ac 2, .boolean), (ac 3, .object RX1), (ac 4, .object RX3), (ac 5, .object RX0), (ac 6, .object RX6), (ac 7, .object RX8), (ac 8, .array .int), (ac 9, .array .long)]
/-- the class's families: 0 the cellar, 1 to 4 its arrays of kinds, lots, dishes, sheets, 5 rack, 6 tape, 7 ledger, 8 planner, 20 kinds, 21 lots, 22 dishes, 23 sheets; their arrays -/
def tbX (f : Nat) : tw_F := match f with
  | 0 => .inl (9, [2, 2, 2, 2, 2, 2, 2, 2, 2, 2, 2, 0, 0, 0, 0, 0])
  | 1 => .inr (3, 20, 2)
  | 2 => .inr (4, 60, 2)
  | 3 => .inr (5, 20, 2)
  | 4 => .inr (6, 4, 2)
  | 5 => .inl (5, [2, 2])
  | 6 => .inl (7, [2, 0, 0, 0])
  | 7 => .inl (2, [0, 0, 0, 0, 0, 0, 0, 1])
  | 8 => .inl (4, [2, 2, 2, 2, 2, 2, 2, 0, 0, 0])
  | 9 => .inr (0, 60, 0)
  | 10 => .inr (0, 60, 0)
  | 11 => .inr (2, 60, 0)
  | 12 => .inr (0, 30, 0)
  | 13 => .inr (0, 30, 0)
  | 14 => .inr (0, 200, 0)
  | 15 => .inr (8, 30, 2)
  | 16 => .inr (8, 30, 2)
  | 17 => .inr (0, 7, 0)
  | 18 => .inr (0, 7, 0)
  | 19 => .inr (0, 7, 0)
  | 20 => .inl (1, [0, 0, 0, 0, 0])
  | 21 => .inl (3, [0, 2, 0, 0, 0, 0, 0, 0])
  | 22 => .inl (0, [2, 2, 2, 2, 0])
  | 23 => .inl (6, [2, 2, 0])
  | 24 => .inr (8, 6, 2)
  | 25 => .inr (8, 6, 2)
  | 26 => .inr (0, 7, 0)
  | 27 => .inr (0, 7, 0)
  | 28 => .inr (0, 7, 0)
  | 29 => .inr (0, 7, 0)
  | 30 => .inr (7, 12, 2)
  | 31 => .inr (0, 12, 0)
  | 32 => .inr (0, 12, 0)
  | 33 => .inr (0, 12, 0)
  | 34 => .inr (9, 10, 2)
  | 35 => .inr (0, 10, 0)
  | 36 => .inr (1, 40, 1)
  | _ => .inl (8, [])
def tgX (f j : Nat) : Nat := match f with
  | 0 => match j with | 0 => 1 | 1 => 2 | 2 => 3 | 3 => 4 | 4 => 5 | 5 => 6 | 6 => 7 | 7 => 8 | 8 => 9 | 9 => 10 | _ => 11
  | 1 => 20
  | 2 => 21
  | 3 => 22
  | 4 => 23
  | 5 => match j with | 0 => 12 | _ => 13
  | 6 => 14
  | 8 => match j with | 0 => 15 | 1 => 16 | 2 => 17 | 3 => 18 | 4 => 19 | 5 => 24 | _ => 25
  | 15 => 26
  | 16 => 27
  | 21 => 20
  | 22 => match j with | 0 => 30 | 1 => 31 | 2 => 32 | _ => 33
  | 23 => match j with | 0 => 34 | _ => 35
  | 24 => 28
  | 25 => 29
  | 30 => 1000
  | 34 => 36
  | _ => 999
/-- the reference's families: 0 the object, 1 the law's array of one answer, 100 and a field's slot: that field's array -/
def tbM (f : Nat) : tw_F := match f with
  | 0 => .inl (10, [0, 0, 0, 0, 1, 2, 2, 2, 2, 2, 2, 2, 2, 2, 2, 0, 0, 0, 0, 0, 0, 0, 0, 2, 2, 2, 2, 2, 0, 0, 0, 0, 0, 2, 2, 2, 2, 2, 2, 0, 2, 2, 2, 2, 2, 2, 2, 2, 2])
  | 1 => .inr (1, 1, 1)
  | 105 => .inr (0, 20, 0)
  | 106 => .inr (0, 20, 0)
  | 107 => .inr (0, 20, 0)
  | 108 => .inr (0, 20, 0)
  | 109 => .inr (0, 20, 0)
  | 110 => .inr (0, 60, 0)
  | 111 => .inr (0, 60, 0)
  | 112 => .inr (0, 60, 0)
  | 113 => .inr (0, 60, 0)
  | 114 => .inr (0, 60, 0)
  | 123 => .inr (0, 30, 0)
  | 124 => .inr (0, 30, 0)
  | 125 => .inr (0, 60, 0)
  | 126 => .inr (0, 60, 0)
  | 127 => .inr (0, 60, 0)
  | 133 => .inr (0, 200, 0)
  | 134 => .inr (0, 21, 0)
  | 135 => .inr (0, 252, 0)
  | 136 => .inr (0, 252, 0)
  | 137 => .inr (0, 252, 0)
  | 138 => .inr (0, 252, 0)
  | 140 => .inr (0, 4, 0)
  | 141 => .inr (0, 40, 0)
  | 142 => .inr (1, 1600, 1)
  | 143 => .inr (0, 360, 0)
  | 144 => .inr (0, 60, 0)
  | 145 => .inr (0, 6, 0)
  | 146 => .inr (0, 6, 0)
  | 147 => .inr (0, 6, 0)
  | 148 => .inr (0, 6, 0)
  | _ => .inl (8, [])
def tgM (f j : Nat) : Nat := match f with
  | 0 => 100 + j
  | _ => 999
/-- what stands outside both worlds and is only read: the enum's constants, static arrays, texts, the tables' words that no list holds -/
def zx_nm : List String := ["RED", "WHITE", "IS_STILL", "IS_FIZZ", "IS_SWEET", "BODY", "AGE", "WORTH"]
def zx_F : List (String × String × String × List Int32) := [(RX8, "sort", "I", [-1, -1, 0, 1, 2, -1, -1, -1]), (RX8, "measures", "Z", [0, 0, 0, 0, 0, 1, 1, 1])]
def zx_len : List Nat := [3, 5, 5, 4, 5, 4, 3, 5]
def zx_byt : List (List Int32) := [[114, 101, 100], [119, 104, 105, 116, 101], [115, 116, 105, 108, 108], [102, 105, 122, 122], [115, 119, 101, 101, 116], [98, 111, 100, 121], [97, 103, 101], [119, 111, 114, 116, 104]]
def zx_st : List (Nat × String × Nat) := [(98, "no such sort, body or red", 26), (105, "no such young and old", 27), (112, "no such kind", 28), (122, "no such vintage or price", 29), (360, "no such lot", 30), (158, "no such what", 31), (164, "no such year", 32), (186, "no such verdict", 33), (357, "no such cell", 34), (193, "no such number of bottles", 35), (212, "no such move", 36), (256, "no such number of hours", 37), (261, "too late an hour", 38), (282, "no such number of bytes", 39), (284, "too many dishes", 40), (362, "no such dish", 41), (305, "no such width", 42), (364, "no such sheet or row", 43), (337, "no such years or bottles", 44)]
def ZXa (sa : Nat → Nat) (A : Nat → Prop) (U : State) (H : Heap) : Prop :=
  va_En RX8 "LWineCellar$Test;" zx_nm zx_F sa A U H ∧ va_Ef 8 RX8 "word" "Ljava/lang/String;" (fun i => .ref (sa (8 + i))) sa A U H ∧ vk_S 8 zx_len zx_byt (fun i => sa (8 + i)) (fun i => sa (16 + i)) A U H ∧
  va_Z RX9 "KEPT_HOURS" "[I" (.ref (sa 24)) A U H ∧ va_T .int (sa 24) 3 (fun j => .int (([48, 12, 240] : List Int32).getD j 0)) A U H ∧
  va_Z RX7 "TESTS" "[LWineCellar$Test;" (.ref (sa 25)) A U H ∧ va_T (.object RX8) (sa 25) 8 (fun j => .ref (sa j)) A U H ∧
  va_Z RJ0 "COMPACT_STRINGS" "Z" (.int 1) A U H ∧ va_Zq "jdk/internal/util/Preconditions" "SIOOBE_FORMATTER" "Ljava/util/function/BiFunction;" A U H
def ZXb (A : Nat → Prop) (U : State) (H : Heap) : Prop := vx_Zq Bundle.tN "UNASSIGNED_STACK" Bundle.steD A U H ∧ vx_Zq Bundle.tN "SUPPRESSED_SENTINEL" Bundle.listD A U H
def ZXc (sa : Nat → Nat) (U : State) : Prop := ∀ q ∈ zx_st, vk_R RX9 q.1 q.2.1 (sa q.2.2) U
def ZXd (U : State) : Prop := va_AO RX1 U ∧ va_AO RX3 U ∧ va_AO RX0 U ∧ va_AO RX6 U ∧ va_AO RX8 U ∧ va_AOA .int U ∧ va_AOA .long U
def ZXe (U : State) : Prop := va_Nw (.methodLinkNest RX9 286 yX0_init RX9) U ∧ va_Nw (.methodLinkNest RX9 42 yX7_init RX9) U ∧ va_Nw (.methodLinkNest RX9 49 yX2_init RX9) U ∧ va_Nw (.methodLinkNest RX9 56 yX4_init RX9) U ∧ va_Nw (.fieldLinkNest RX3 58 RX9 "KEPT_HOURS" "[I" RX9) U
/-- the words of a throw that no list of words holds -/
def ZXf (U : State) : Prop := va_Nw (.declares (Bundle.initS "java/lang/RuntimeException")) U ∧ va_Nw (.declares (Bundle.initS "java/lang/Exception")) U ∧ va_Nw (.declares (Bundle.initS Bundle.tN)) U ∧ va_Nw (.castable "java/lang/IllegalArgumentException" "java/lang/IllegalArgumentException") U ∧ va_Nw (.castable "java/lang/IndexOutOfBoundsException" "java/lang/IndexOutOfBoundsException") U ∧ va_Nw (.castable "java/lang/IllegalStateException" "java/lang/IllegalStateException") U ∧ va_Nw (.castable "java/util/NoSuchElementException" "java/util/NoSuchElementException") U
def ZX (sa : Nat → Nat) (A : Nat → Prop) (U : State) (H : Heap) : Prop := ZXa sa A U H ∧ ZXb A U H ∧ ZXc sa U ∧ ZXd U ∧ ZXe U ∧ ZXf U
def ZM (_sa : Nat → Nat) (_A : Nat → Prop) (_U : State) (_H : Heap) : Prop := True
theorem va_AOA.warm {ty : FieldType} {u U : State} (hW : u.WarmedH U.vm) (h : va_AOA ty u) : va_AOA ty U := by
  have h1 : (Cond.arrayOver (.array ty)).before #[] (u.setVm U.vm) = true := by rw [Cond.arrayOver_setVmC hW.alike (.array ty)]; exact h
  exact h1
theorem ZX.kept {sa : Nat → Nat} {A : Nat → Prop} {U : State} {H H1 : Heap} (h : ZX sa A U H) (hq : ∀ a : Nat, a < H.size → ¬ A a → H1[a]? = H[a]?) : ZX sa A U H1 := by
  obtain ⟨⟨a1, a2, a3, a4, a5, a6, a7, a8, a9⟩, ⟨b1, b2⟩, h3⟩ := h
  exact ⟨⟨a1.kept hq, a2.kept hq, a3.kept hq, a4.kept hq, a5.kept hq, a6.kept hq, a7.kept hq, a8.kept hq, a9.kept hq⟩, ⟨b1.kept hq, b2.kept hq⟩, h3⟩
theorem ZX.warm {sa : Nat → Nat} {A : Nat → Prop} {u U : State} {H : Heap} (hW : u.WarmedH U.vm) (h : ZX sa A u H) : ZX sa A U H := by
  obtain ⟨⟨a1, a2, a3, a4, a5, a6, a7, a8, a9⟩, ⟨b1, b2⟩, h3, ⟨d1, d2, d3, d4, d5, d6, d7⟩, ⟨e1, e2, e3, e4, e5⟩, f1, f2, f3, f4, f5, f6, f7⟩ := h
  have hm := hW.alike
  exact ⟨⟨a1.moved hm, a2.moved hm, a3.moved hm, a4.moved hm, a5.moved hm, a6.moved hm, a7.moved hm, a8.moved hm, a9.moved hm⟩, ⟨b1.moved hm, b2.moved hm⟩, fun q hq => (h3 q hq).warm hW, ⟨d1.moved hm, d2.moved hm, d3.moved hm, d4.moved hm, d5.moved hm, d6.warm hW, d7.warm hW⟩, ⟨e1.warmM hW, e2.warmM hW, e3.warmM hW, e4.warmM hW, e5.warmF hW⟩, f1.warmD hW, f2.warmD hW, f3.warmD hW, f4.warmC hW, f5.warmC hW, f6.warmC hW, f7.warmC hW⟩
theorem ZX.narrow {sa : Nat → Nat} {A B : Nat → Prop} {U : State} {H : Heap} (h : ZX sa A U H) (hAB : ∀ q, B q → A q) : ZX sa B U H := by
  obtain ⟨⟨a1, a2, a3, a4, a5, a6, a7, a8, a9⟩, ⟨b1, b2⟩, h3⟩ := h
  exact ⟨⟨a1.narrow hAB, a2.narrow hAB, a3.narrow hAB, a4.narrow hAB, a5.narrow hAB, a6.narrow hAB, a7.narrow hAB, a8.narrow hAB, a9.narrow hAB⟩, ⟨b1.narrow hAB, b2.narrow hAB⟩, h3⟩
theorem ZM.kept {sa : Nat → Nat} {A : Nat → Prop} {U : State} {H H1 : Heap} (_h : ZM sa A U H) (_hq : ∀ a : Nat, a < H.size → ¬ A a → H1[a]? = H[a]?) : ZM sa A U H1 := trivial
theorem ZM.warm {sa : Nat → Nat} {A : Nat → Prop} {u U : State} {H : Heap} (_hW : u.WarmedH U.vm) (_h : ZM sa A u H) : ZM sa A U H := trivial
abbrev PX (dC : Nat → ClassId) (dI : Nat → Nat → Nat) (ac : Nat → ClassId) (A : Nat → Prop) (ad : Nat → Nat → Nat) (τ : tw_T) (H : Heap) : Prop := tw_P (dC, dI) clW ac tbX tgX A ad τ H
abbrev PM (dC : Nat → ClassId) (dI : Nat → Nat → Nat) (ac : Nat → ClassId) (A : Nat → Prop) (ad : Nat → Nat → Nat) (τ : tw_T) (H : Heap) : Prop := tw_P (dC, dI) clW ac tbM tgM A ad τ H
def BX (dC : Nat → ClassId) (dI : Nat → Nat → Nat) (ac : Nat → ClassId) (sa : Nat → Nat) (A : Nat → Prop) (ad : Nat → Nat → Nat) (τ : tw_T) (U : State) : Prop := PX dC dI ac A ad τ U.heap ∧ va_K (dC, dI) clW (tyW ac) U ∧ (∀ q : Nat, U.heap.size ≤ q → A q) ∧ ZX sa A U U.heap
def BM (dC : Nat → ClassId) (dI : Nat → Nat → Nat) (ac : Nat → ClassId) (sa : Nat → Nat) (A : Nat → Prop) (ad : Nat → Nat → Nat) (τ : tw_T) (U : State) : Prop := PM dC dI ac A ad τ U.heap ∧ va_K (dC, dI) clW (tyW ac) U ∧ (∀ q : Nat, U.heap.size ≤ q → A q) ∧ ZM sa A U U.heap
section TWW
variable {dC : Nat → ClassId} {dI : Nat → Nat → Nat} {ac : Nat → ClassId} {sa : Nat → Nat} {A : Nat → Prop} {ad : Nat → Nat → Nat} {τ : tw_T} {s : State} {H : Heap} {locs : List Loc}
theorem BX.blind {av : List Value} : FrameBlind (va_Pc av (BX dC dI ac sa A ad τ)) := fun a U g mk q => ⟨q.1, q.2.1, va_K.moved (u := U) (U := U.calling g mk a) (Vm.Alike.refl U.vm) q.2.2.1, q.2.2.2.1, ZX.warm (u := U) (U := U.calling g mk a) (State.WarmedH.refl U) q.2.2.2.2⟩
theorem BM.blind {av : List Value} : FrameBlind (va_Pc av (BM dC dI ac sa A ad τ)) := fun a U g mk q => ⟨q.1, q.2.1, va_K.moved (u := U) (U := U.calling g mk a) (Vm.Alike.refl U.vm) q.2.2.1, q.2.2.2.1, ZM.warm (u := U) (U := U.calling g mk a) (State.WarmedH.refl U) q.2.2.2.2⟩
theorem BX.of (hP : PX dC dI ac A ad τ H) (hK : va_K (dC, dI) clW (tyW ac) s) (hS : va_S A s.heap H locs) (hA : ∀ q : Nat, s.heap.size ≤ q → A q) (hZ : ZX sa A s s.heap) {U : State} (hU : U.heap = H) (hW : s.WarmedH U.vm) : BX dC dI ac sa A ad τ U :=
  ⟨by rw [hU]; exact hP, va_K.moved hW.alike hK, fun q h => hA q (Nat.le_trans (by rw [hU] at h; exact hS.1) (by rw [hU] at h; exact h)), ZX.warm hW (hZ.kept (fun a h1 h2 => by rw [hU]; exact hS.2.1 a h1 h2))⟩
theorem BM.of (hP : PM dC dI ac A ad τ H) (hK : va_K (dC, dI) clW (tyW ac) s) (hS : va_S A s.heap H locs) (hA : ∀ q : Nat, s.heap.size ≤ q → A q) (hZ : ZM sa A s s.heap) {U : State} (hU : U.heap = H) (hW : s.WarmedH U.vm) : BM dC dI ac sa A ad τ U :=
  ⟨by rw [hU]; exact hP, va_K.moved hW.alike hK, fun q h => hA q (Nat.le_trans (by rw [hU] at h; exact hS.1) (by rw [hU] at h; exact h)), ZM.warm hW (hZ.kept (fun a h1 h2 => by rw [hU]; exact hS.2.1 a h1 h2))⟩
theorem BX.back {t : State} (h : BX dC dI ac sa A ad τ t) (ht : t.heap = H) : PX dC dI ac A ad τ H := by rw [← ht]; exact h.1
theorem BM.back {t : State} (h : BM dC dI ac sa A ad τ t) (ht : t.heap = H) : PM dC dI ac A ad τ H := by rw [← ht]; exact h.1
/-- the receiver of a call -/
theorem tw_recv {D : va_G} {cl : List vw_C} {tb : Nat → tw_F} {tg : Nat → Nat → Nat} {f k ci : Nat} {sl : List Nat} {q : vw_C} {tys : List (ClassId × FieldType)} (hK : va_K D cl tys s) (hP : tw_P D cl ac tb tg A ad τ H) (hf : f < 1000) (hk : k < gN τ f) (htb : tb f = .inl (ci, sl)) (hc : cl[ci]? = some q) : ∃ cell : Cell, H[ad f k]? = some cell ∧ cell.vm.isStatics = false ∧ s.vm.findClass q.1 = some cell.cls :=
  va_recv (q0 := 0) hK (tw_one hP hf hk (e := .inr (ci, tw_mk (gI τ f k) (gJ τ f k) (gR τ f k) ad (tg f) 0 sl)) (by simp only [tw_c, htb])) hc rfl
end TWW
theorem tw_lt {k a b : Nat} (h : k < a) (e : b = a) : k < b := by rw [e]; exact h
theorem tw_sw {x : Int32} {n : Int} (h : x.toInt = n) {y : Int32} (e : y.toInt = n) : x = y := Int32.toInt_inj.mp (h.trans e.symm)
/-- a boolean's int -/
def tw_b (v : Int32) : Prop := v = 0 ∨ v = 1
theorem tw_bn {v : Int32} (h : tw_b v) : narrow .boolean (.int v) = .int v := by rcases h with rfl | rfl <;> rfl
theorem tw_bf {v : Int32} (h : tw_b v) : fits .boolean (.int v) = true := by rcases h with rfl | rfl <;> rfl
abbrev zx_names : List String := ["java/lang/RuntimeException", "java/lang/Exception"]
def zx_B (E : String) : List Cond := [.declares (Bundle.initS "java/lang/RuntimeException"), .declares (Bundle.initS "java/lang/Exception"), .declares (Bundle.initS Bundle.tN), .castable E E]
theorem zx_bad0 : ∀ w ∈ (vx_atS RX9 100 "java/lang/IllegalArgumentException" zx_names).filter (fun w => !goodWord w), w ∈ zx_B "java/lang/IllegalArgumentException" := by decide +kernel
theorem zx_ot0 : ∀ w ∈ Cond.classLink RX9 96 "java/lang/IllegalArgumentException" :: Cond.initialized "java/lang/IllegalArgumentException" :: vx_atS RX9 100 "java/lang/IllegalArgumentException" zx_names, vx_ot w = true := by decide +kernel
theorem zx_hat0 {args : Array Value} {s : State} {ws : List Cond} (hts : ∀ w ∈ ws, w.before args s = true) (hin : ∀ w ∈ (vx_atS RX9 100 "java/lang/IllegalArgumentException" zx_names).filter goodWord, w ∈ ws) (hZ : ZXf s) : ∀ w ∈ vx_atS RX9 100 "java/lang/IllegalArgumentException" zx_names, w.before args s = true := by
  obtain ⟨f1, f2, f3, f4, f5, f6, f7⟩ := hZ
  exact vx_hat (fun w hw => hts w (hin w hw)) zx_bad0 (vx_c (va_Nw.use rfl f1) (vx_c (va_Nw.use rfl f2) (vx_c (va_Nw.use rfl f3) (vx_c (va_Nw.use rfl f4) vx_n))))
theorem zx_bad1 : ∀ w ∈ (vx_atS RX9 114 "java/lang/IndexOutOfBoundsException" zx_names).filter (fun w => !goodWord w), w ∈ zx_B "java/lang/IndexOutOfBoundsException" := by decide +kernel
theorem zx_ot1 : ∀ w ∈ Cond.classLink RX9 110 "java/lang/IndexOutOfBoundsException" :: Cond.initialized "java/lang/IndexOutOfBoundsException" :: vx_atS RX9 114 "java/lang/IndexOutOfBoundsException" zx_names, vx_ot w = true := by decide +kernel
theorem zx_hat1 {args : Array Value} {s : State} {ws : List Cond} (hts : ∀ w ∈ ws, w.before args s = true) (hin : ∀ w ∈ (vx_atS RX9 114 "java/lang/IndexOutOfBoundsException" zx_names).filter goodWord, w ∈ ws) (hZ : ZXf s) : ∀ w ∈ vx_atS RX9 114 "java/lang/IndexOutOfBoundsException" zx_names, w.before args s = true := by
  obtain ⟨f1, f2, f3, f4, f5, f6, f7⟩ := hZ
  exact vx_hat (fun w hw => hts w (hin w hw)) zx_bad1 (vx_c (va_Nw.use rfl f1) (vx_c (va_Nw.use rfl f2) (vx_c (va_Nw.use rfl f3) (vx_c (va_Nw.use rfl f5) vx_n))))
theorem zx_bad2 : ∀ w ∈ (vx_atS RX9 263 "java/lang/IllegalStateException" zx_names).filter (fun w => !goodWord w), w ∈ zx_B "java/lang/IllegalStateException" := by decide +kernel
theorem zx_ot2 : ∀ w ∈ Cond.classLink RX9 259 "java/lang/IllegalStateException" :: Cond.initialized "java/lang/IllegalStateException" :: vx_atS RX9 263 "java/lang/IllegalStateException" zx_names, vx_ot w = true := by decide +kernel
theorem zx_hat2 {args : Array Value} {s : State} {ws : List Cond} (hts : ∀ w ∈ ws, w.before args s = true) (hin : ∀ w ∈ (vx_atS RX9 263 "java/lang/IllegalStateException" zx_names).filter goodWord, w ∈ ws) (hZ : ZXf s) : ∀ w ∈ vx_atS RX9 263 "java/lang/IllegalStateException" zx_names, w.before args s = true := by
  obtain ⟨f1, f2, f3, f4, f5, f6, f7⟩ := hZ
  exact vx_hat (fun w hw => hts w (hin w hw)) zx_bad2 (vx_c (va_Nw.use rfl f1) (vx_c (va_Nw.use rfl f2) (vx_c (va_Nw.use rfl f3) (vx_c (va_Nw.use rfl f6) vx_n))))
theorem zx_bad3 : ∀ w ∈ (vx_atX RX9 359 "java/util/NoSuchElementException" 13 prog_25_method_4_code zx_names).filter (fun w => !goodWord w), w ∈ zx_B "java/util/NoSuchElementException" := by decide +kernel
theorem zx_ot3 : ∀ w ∈ Cond.classLink RX9 355 "java/util/NoSuchElementException" :: Cond.initialized "java/util/NoSuchElementException" :: vx_atX RX9 359 "java/util/NoSuchElementException" 13 prog_25_method_4_code zx_names, vx_ot w = true := by decide +kernel
theorem zx_hat3 {args : Array Value} {s : State} {ws : List Cond} (hts : ∀ w ∈ ws, w.before args s = true) (hin : ∀ w ∈ (vx_atX RX9 359 "java/util/NoSuchElementException" 13 prog_25_method_4_code zx_names).filter goodWord, w ∈ ws) (hZ : ZXf s) : ∀ w ∈ vx_atX RX9 359 "java/util/NoSuchElementException" 13 prog_25_method_4_code zx_names, w.before args s = true := by
  obtain ⟨f1, f2, f3, f4, f5, f6, f7⟩ := hZ
  exact vx_hat (fun w hw => hts w (hin w hw)) zx_bad3 (vx_c (va_Nw.use rfl f1) (vx_c (va_Nw.use rfl f2) (vx_c (va_Nw.use rfl f3) (vx_c (va_Nw.use rfl f7) vx_n))))
