/-! ===== typed heaps: the cells of a world in families; a family's k-th cell lies at ad f k and holds ints, longs and references (a number within the target's family) ===== -/
abbrev tw_T : Type := (Nat → Nat → Nat → Int32) × (Nat → Nat → Nat → Int64) × (Nat → Nat → Nat → Option Nat) × (Nat → Nat)
def gI (τ : tw_T) (f k j : Nat) : Int32 := τ.1 f k j
def gJ (τ : tw_T) (f k j : Nat) : Int64 := τ.2.1 f k j
def gR (τ : tw_T) (f k j : Nat) : Option Nat := τ.2.2.1 f k j
def gN (τ : tw_T) (f : Nat) : Nat := τ.2.2.2 f
def tw_u {α : Type} (g : Nat → Nat → Nat → α) (f k j : Nat) (v : α) : Nat → Nat → Nat → α := fun f' k' j' => if f' = f ∧ k' = k ∧ j' = j then v else g f' k' j'
def sI (τ : tw_T) (f k j : Nat) (v : Int32) : tw_T := (tw_u τ.1 f k j v, τ.2)
def sJ (τ : tw_T) (f k j : Nat) (v : Int64) : tw_T := (τ.1, tw_u τ.2.1 f k j v, τ.2.2)
def sR (τ : tw_T) (f k j : Nat) (v : Option Nat) : tw_T := (τ.1, τ.2.1, tw_u τ.2.2.1 f k j v, τ.2.2.2)
def tw_z {α : Type} (g : Nat → Nat → Nat → α) (f lo hi : Nat) (z : α) : Nat → Nat → Nat → α := fun f' k' j' => if f' = f ∧ lo ≤ k' ∧ k' < hi then z else g f' k' j'
/-- n new cells of a family, all zero -/
def nW (τ : tw_T) (f n : Nat) : tw_T := (tw_z τ.1 f (gN τ f) (gN τ f + n) 0, tw_z τ.2.1 f (gN τ f) (gN τ f + n) 0, tw_z τ.2.2.1 f (gN τ f) (gN τ f + n) none, fun f' => if f' = f then gN τ f + n else gN τ f')
/-- a row of references to cells that follow each other -/
def sM (τ : tw_T) (f k b n : Nat) : tw_T := (τ.1, τ.2.1, (fun f' k' j' => if f' = f ∧ k' = k then (if j' < n then some (b + j') else none) else τ.2.2.1 f' k' j'), τ.2.2.2)
abbrev tw_F : Type := (Nat × List Nat) ⊕ (Nat × Nat × Nat)
def tw_v (i : Nat → Int32) (j : Nat → Int64) (r : Nat → Option Nat) (ad : Nat → Nat → Nat) (t : Nat → Nat) (kd s : Nat) : Value := match kd with
  | 0 => .int (i s)
  | 1 => .long (j s)
  | _ => va_rf ((r s).map (ad (t s)))
def tw_mk (i : Nat → Int32) (j : Nat → Int64) (r : Nat → Option Nat) (ad : Nat → Nat → Nat) (t : Nat → Nat) : Nat → List Nat → List Value
  | _, [] => []
  | s, kd :: l => tw_v i j r ad t kd s :: tw_mk i j r ad t (s + 1) l
def tw_row (i : Nat → Int32) (j : Nat → Int64) (r : Nat → Option Nat) (ad : Nat → Nat → Nat) (t : Nat → Nat) (kd : Nat) : (Nat → Int32) ⊕ (Nat → Int64) ⊕ (Nat → UInt32) ⊕ (Nat → UInt64) ⊕ (Nat → Option Nat) := match kd with
  | 0 => .inl i
  | 1 => .inr (.inl j)
  | _ => .inr (.inr (.inr (.inr (fun s => (r s).map (ad (t s))))))
/-- a cell: an object (its class, its slots' kinds) or an array (its type, its length, its kind) -/
def tw_c (ac : Nat → ClassId) (tb : Nat → tw_F) (tg : Nat → Nat → Nat) (ad : Nat → Nat → Nat) (f : Nat) (i : Nat → Int32) (j : Nat → Int64) (r : Nat → Option Nat) : va_E := match tb f with
  | .inl o => .inr (o.1, tw_mk i j r ad (tg f) 0 o.2)
  | .inr a => .inl (ac a.1, a.2.1, tw_row i j r ad (tg f) a.2.2)
def tw_P (D : va_G) (cl : List vw_C) (ac : Nat → ClassId) (tb : Nat → tw_F) (tg : Nat → Nat → Nat) (A : Nat → Prop) (ad : Nat → Nat → Nat) (τ : tw_T) (H : Heap) : Prop :=
  (∀ f k, f < 1000 → k < gN τ f → va_at D cl (ad f k, tw_c ac tb tg ad f (gI τ f k) (gJ τ f k) (gR τ f k)) H) ∧
  (∀ f k f' k', f < 1000 → f' < 1000 → k < gN τ f → k' < gN τ f' → ad f k = ad f' k' → f = f' ∧ k = k') ∧
  (∀ f k, f < 1000 → k < gN τ f → A (ad f k)) ∧
  (∀ f k j r, f < 1000 → k < gN τ f → gR τ f k j = some r → r < gN τ (tg f j))
theorem gI_sI {τ : tw_T} {f k j f' k' j' : Nat} {v : Int32} : gI (sI τ f k j v) f' k' j' = if f' = f ∧ k' = k ∧ j' = j then v else gI τ f' k' j' := rfl
theorem gJ_sJ {τ : tw_T} {f k j f' k' j' : Nat} {v : Int64} : gJ (sJ τ f k j v) f' k' j' = if f' = f ∧ k' = k ∧ j' = j then v else gJ τ f' k' j' := rfl
theorem gR_sR {τ : tw_T} {f k j f' k' j' : Nat} {v : Option Nat} : gR (sR τ f k j v) f' k' j' = if f' = f ∧ k' = k ∧ j' = j then v else gR τ f' k' j' := rfl
theorem gJ_sI {τ : tw_T} {f k j : Nat} {v : Int32} : gJ (sI τ f k j v) = gJ τ := rfl
theorem gR_sI {τ : tw_T} {f k j : Nat} {v : Int32} : gR (sI τ f k j v) = gR τ := rfl
theorem gN_sI {τ : tw_T} {f k j : Nat} {v : Int32} : gN (sI τ f k j v) = gN τ := rfl
theorem gI_sJ {τ : tw_T} {f k j : Nat} {v : Int64} : gI (sJ τ f k j v) = gI τ := rfl
theorem gR_sJ {τ : tw_T} {f k j : Nat} {v : Int64} : gR (sJ τ f k j v) = gR τ := rfl
theorem gN_sJ {τ : tw_T} {f k j : Nat} {v : Int64} : gN (sJ τ f k j v) = gN τ := rfl
theorem gI_sR {τ : tw_T} {f k j : Nat} {v : Option Nat} : gI (sR τ f k j v) = gI τ := rfl
theorem gJ_sR {τ : tw_T} {f k j : Nat} {v : Option Nat} : gJ (sR τ f k j v) = gJ τ := rfl
theorem gN_sR {τ : tw_T} {f k j : Nat} {v : Option Nat} : gN (sR τ f k j v) = gN τ := rfl
theorem gI_sM {τ : tw_T} {f k b n : Nat} : gI (sM τ f k b n) = gI τ := rfl
theorem gJ_sM {τ : tw_T} {f k b n : Nat} : gJ (sM τ f k b n) = gJ τ := rfl
theorem gN_sM {τ : tw_T} {f k b n : Nat} : gN (sM τ f k b n) = gN τ := rfl
theorem gR_sM {τ : tw_T} {f k b n f' k' j' : Nat} : gR (sM τ f k b n) f' k' j' = if f' = f ∧ k' = k then (if j' < n then some (b + j') else none) else gR τ f' k' j' := rfl
theorem gI_nW {τ : tw_T} {f n f' k' j' : Nat} : gI (nW τ f n) f' k' j' = if f' = f ∧ gN τ f ≤ k' ∧ k' < gN τ f + n then 0 else gI τ f' k' j' := rfl
theorem gJ_nW {τ : tw_T} {f n f' k' j' : Nat} : gJ (nW τ f n) f' k' j' = if f' = f ∧ gN τ f ≤ k' ∧ k' < gN τ f + n then 0 else gJ τ f' k' j' := rfl
theorem gR_nW {τ : tw_T} {f n f' k' j' : Nat} : gR (nW τ f n) f' k' j' = if f' = f ∧ gN τ f ≤ k' ∧ k' < gN τ f + n then none else gR τ f' k' j' := rfl
theorem gN_nW {τ : tw_T} {f n f' : Nat} : gN (nW τ f n) f' = if f' = f then gN τ f + n else gN τ f' := rfl
theorem tw_sI_s {τ : tw_T} {f k j : Nat} {v : Int32} : gI (sI τ f k j v) f k = upd (gI τ f k) j v := by
  funext x
  rw [gI_sI]
  by_cases h : x = j
  · subst h; simp [upd]
  · simp [upd, h]
theorem tw_sI_n {τ : tw_T} {f k j f' k' : Nat} {v : Int32} (h : f' ≠ f ∨ k' ≠ k) : gI (sI τ f k j v) f' k' = gI τ f' k' := by
  funext x
  rw [gI_sI, if_neg]
  rintro ⟨a, b, -⟩
  rcases h with h | h
  · exact h a
  · exact h b
theorem tw_sJ_s {τ : tw_T} {f k j : Nat} {v : Int64} : gJ (sJ τ f k j v) f k = vp_updL (gJ τ f k) j v := by
  funext x
  rw [gJ_sJ]
  by_cases h : x = j
  · subst h; simp [vp_updL]
  · simp [vp_updL, h]
theorem tw_sJ_n {τ : tw_T} {f k j f' k' : Nat} {v : Int64} (h : f' ≠ f ∨ k' ≠ k) : gJ (sJ τ f k j v) f' k' = gJ τ f' k' := by
  funext x
  rw [gJ_sJ, if_neg]
  rintro ⟨a, b, -⟩
  rcases h with h | h
  · exact h a
  · exact h b
theorem tw_sR_s {τ : tw_T} {f k j : Nat} {v : Option Nat} : gR (sR τ f k j v) f k = va_up (gR τ f k) j v := by
  funext x
  rw [gR_sR]
  by_cases h : x = j
  · subst h; simp [va_up]
  · simp [va_up, h]
theorem tw_sR_n {τ : tw_T} {f k j f' k' : Nat} {v : Option Nat} (h : f' ≠ f ∨ k' ≠ k) : gR (sR τ f k j v) f' k' = gR τ f' k' := by
  funext x
  rw [gR_sR, if_neg]
  rintro ⟨a, b, -⟩
  rcases h with h | h
  · exact h a
  · exact h b
section TWA
variable {D : va_G} {cl : List vw_C} {ac : Nat → ClassId} {tb : Nat → tw_F} {tg : Nat → Nat → Nat} {A : Nat → Prop} {ad : Nat → Nat → Nat} {τ τ' : tw_T} {H H1 : Heap} {f k : Nat}
theorem tw_one (hP : tw_P D cl ac tb tg A ad τ H) (hf : f < 1000) (hk : k < gN τ f) {e : va_E} (he : tw_c ac tb tg ad f (gI τ f k) (gJ τ f k) (gR τ f k) = e) : va_P D cl [(ad f k, e)] H := by
  intro n q hn
  have h1 : n < 1 := (List.getElem?_eq_some_iff.mp hn).1
  rw [show n = 0 by omega] at hn
  cases hn
  rw [← he]
  exact hP.1 f k hf hk
theorem tw_upd (hP : tw_P D cl ac tb tg A ad τ H) (hf : f < 1000) (hN : ∀ f', gN τ' f' = gN τ f')
    (hne : ∀ f' k', (f' ≠ f ∨ k' ≠ k) → gI τ' f' k' = gI τ f' k' ∧ gJ τ' f' k' = gJ τ f' k' ∧ gR τ' f' k' = gR τ f' k')
    (hat : va_at D cl (ad f k, tw_c ac tb tg ad f (gI τ' f k) (gJ τ' f k) (gR τ' f k)) H1) (hk : k < gN τ f) (oq : ∀ q : Nat, q ≠ ad f k → H1[q]? = H[q]?)
    (hr : ∀ j r, gR τ' f k j = some r → r < gN τ (tg f j)) : tw_P D cl ac tb tg A ad τ' H1 := by
  refine ⟨fun f' k' hf' hk' => ?_, fun f' k' f2 k2 h1 h2 h3 h4 => ?_, fun f' k' h1 h2 => ?_, fun f' k' j r h1 h2 h3 => ?_⟩
  · rw [hN] at hk'
    by_cases h : f' = f ∧ k' = k
    · obtain ⟨rfl, rfl⟩ := h
      exact hat
    · have h' : f' ≠ f ∨ k' ≠ k := by
        by_cases h1 : f' = f
        · exact Or.inr (fun h2 => h ⟨h1, h2⟩)
        · exact Or.inl h1
      obtain ⟨a1, a2, a3⟩ := hne f' k' h'
      rw [a1, a2, a3]
      exact (hP.1 f' k' hf' hk').kept (oq _ (fun e => h (hP.2.1 f' k' f k hf' hf hk' hk e)))
  · rw [hN] at h3 h4
    exact hP.2.1 f' k' f2 k2 h1 h2 h3 h4
  · rw [hN] at h2
    exact hP.2.2.1 f' k' h1 h2
  · rw [hN] at h2 ⊢
    by_cases h : f' = f ∧ k' = k
    · obtain ⟨rfl, rfl⟩ := h
      exact hr j r h3
    · have h' : f' ≠ f ∨ k' ≠ k := by
        by_cases h1 : f' = f
        · exact Or.inr (fun h2 => h ⟨h1, h2⟩)
        · exact Or.inl h1
      rw [(hne f' k' h').2.2] at h3
      exact hP.2.2.2 f' k' j r h1 h2 h3
theorem tw_updI (hP : tw_P D cl ac tb tg A ad τ H) (hf : f < 1000) (hk : k < gN τ f) {j : Nat} {v : Int32}
    (hat : va_at D cl (ad f k, tw_c ac tb tg ad f (upd (gI τ f k) j v) (gJ τ f k) (gR τ f k)) H1) (oq : ∀ q : Nat, q ≠ ad f k → H1[q]? = H[q]?) : tw_P D cl ac tb tg A ad (sI τ f k j v) H1 :=
  tw_upd hP hf (fun _ => rfl) (fun f' k' h => ⟨tw_sI_n h, rfl, rfl⟩) (by rw [tw_sI_s]; exact hat) hk oq (fun j r h => hP.2.2.2 f k j r hf hk h)
theorem tw_updJ (hP : tw_P D cl ac tb tg A ad τ H) (hf : f < 1000) (hk : k < gN τ f) {j : Nat} {v : Int64}
    (hat : va_at D cl (ad f k, tw_c ac tb tg ad f (gI τ f k) (vp_updL (gJ τ f k) j v) (gR τ f k)) H1) (oq : ∀ q : Nat, q ≠ ad f k → H1[q]? = H[q]?) : tw_P D cl ac tb tg A ad (sJ τ f k j v) H1 :=
  tw_upd hP hf (fun _ => rfl) (fun f' k' h => ⟨rfl, tw_sJ_n h, rfl⟩) (by rw [tw_sJ_s]; exact hat) hk oq (fun j r h => hP.2.2.2 f k j r hf hk h)
theorem tw_updR (hP : tw_P D cl ac tb tg A ad τ H) (hf : f < 1000) (hk : k < gN τ f) {j : Nat} {v : Option Nat} (hv : ∀ r, v = some r → r < gN τ (tg f j))
    (hat : va_at D cl (ad f k, tw_c ac tb tg ad f (gI τ f k) (gJ τ f k) (va_up (gR τ f k) j v)) H1) (oq : ∀ q : Nat, q ≠ ad f k → H1[q]? = H[q]?) : tw_P D cl ac tb tg A ad (sR τ f k j v) H1 := by
  refine tw_upd hP hf (fun _ => rfl) (fun f' k' h => ⟨rfl, rfl, tw_sR_n h⟩) (by rw [tw_sR_s]; exact hat) hk oq (fun j' r h => ?_)
  rw [gR_sR] at h
  by_cases e : j' = j
  · subst e
    rw [if_pos ⟨rfl, rfl, rfl⟩] at h
    exact hv r h
  · rw [if_neg (fun z => e z.2.2)] at h
    exact hP.2.2.2 f k j' r hf hk h
end TWA
