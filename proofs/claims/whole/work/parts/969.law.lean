set_option maxRecDepth 16384 in
theorem lw_m18 : ∀ q ∈ zx_st, ∃ j, j < 19 ∧ q = zx_st.getD j (0, "", 0) ∧ q.2.2 = 26 + j := by decide +kernel
set_option maxRecDepth 16384 in
theorem lw_m19 : ∀ i, i < 8 → zx_len.getD i 0 < 2147483648 := by decide +kernel
set_option maxRecDepth 16384 in
set_option maxHeartbeats 4000000 in
theorem lw_Zx {b : Nat} {s : State} (hts : ∀ w ∈ lw_tbl, w.before #[Value.ref b] s = true) (hgv : (Jvm.Cond.and given_1 narrow_1).before #[Value.ref b] s = true) : ∃ sa : Nat → Nat, ZX sa (fun q => s.heap.size ≤ q) s s.heap ∧ ZL s := by
  have hs : ∀ c ∈ lwF, c.before #[Value.ref b] s = true := flat_of_before _ hgv
  have hA : ∀ a : Nat, a < s.heap.size → ¬ (fun q : Nat => s.heap.size ≤ q) a := fun a h h2 => Nat.not_le.mpr h h2
  obtain ⟨ad, hE, hEv⟩ := va_Enof2 (args := #[Value.ref b]) (s := s) (E := RX8) (d := "LWineCellar$Test;") (nm := zx_nm) (F := zx_F) (A := fun q => s.heap.size ≤ q) (fun i hi => hts _ (lw_m1 i hi)) (hts (.initialized RX8) (by decide +kernel)) (fun i hi => hs _ (lw_m2 i hi)) (fun q hq i hi => by
    rcases List.mem_cons.mp hq with rfl | hq
    · exact hs _ (lw_m3a i hi)
    · rcases List.mem_cons.mp hq with rfl | hq
      · exact hs _ (lw_m3b i hi)
      · cases hq) (fun i j hi hj h => (lw_m4 i hi j hj h).imp (hs _) (hs _)) hA
  have tev : ∀ i, i < 8 → ∃ a, (zx_t i).eval #[Value.ref b] s none [] s = some (.ref a) := fun i hi => by
    obtain ⟨a, c, cell, k, q1, -⟩ := Cond.exactly_spec (hs _ (lw_m5 i hi))
    exact ⟨a, q1⟩
  have hne : ∀ i j : Nat, i < 8 → j < 8 → i ≠ j → (Cond.not (Cond.eq (zx_t i) (zx_t j))).before #[Value.ref b] s = true := fun i j hi hj hij => by
    obtain ⟨a, ha⟩ := tev i hi
    obtain ⟨a', ha'⟩ := tev j hj
    by_cases e : a = a'
    · exfalso
      subst e
      have hv : (zx_v i).eval #[Value.ref b] s none [] s = (zx_v j).eval #[Value.ref b] s none [] s := by unfold zx_v; rw [va_fe ha, va_fe ha']
      have el : ∀ k : Nat, (Term.elem (zx_v i) (.int (Int32.ofNat k))).eval #[Value.ref b] s none [] s = (Term.elem (zx_v j) (.int (Int32.ofNat k))).eval #[Value.ref b] s none [] s := fun k => by simp only [Term.eval, hv]
      have hl : (Term.length (zx_v i)).eval #[Value.ref b] s none [] s = (Term.length (zx_v j)).eval #[Value.ref b] s none [] s := by simp only [Term.eval, hv]
      rw [va_eqt (hs _ (lw_m8 i hi)), va_eqt (hs _ (lw_m8 j hj))] at hl
      have li := lw_m17 i hi
      have lj := lw_m17 j hj
      have e0 := el 0
      have e1 := el 1
      rw [va_eqt (hs _ (lw_m9 i hi 0 (by omega))), va_eqt (hs _ (lw_m9 j hj 0 (by omega)))] at e0
      rw [va_eqt (hs _ (lw_m9 i hi 1 (by omega))), va_eqt (hs _ (lw_m9 j hj 1 (by omega)))] at e1
      exact lw_m11 i hi j hj hij ⟨i32_inj (lw_m19 i hi) (lw_m19 j hj) (Value.int.inj (Option.some.inj hl)), Value.int.inj (Option.some.inj e0), Value.int.inj (Option.some.inj e1)⟩
    · simp [Cond.before, Cond.holds, Cond.value, ha, ha', e]
  obtain ⟨adK, adV, hSt, hKv⟩ := vk_Sof (args := #[Value.ref b]) (s := s) (N := 8) (tm := zx_t) (len := zx_len) (byt := zx_byt) (A := fun q => s.heap.size ≤ q) (fun i hi => lw_m19 i hi) (fun i hi => hs _ (lw_m5 i hi)) (fun i hi => hs _ (lw_m6 i hi)) (fun i hi => hs _ (lw_m7 i hi)) (fun i hi => hs _ (lw_m8 i hi)) (fun i hi j hj => hs _ (lw_m9 i hi j hj)) (fun i j hi hj h => Or.inl (hne i j hi hj h)) hA
  have hEf : va_Ef 8 RX8 "word" "Ljava/lang/String;" (fun i => .ref (adK i)) ad (fun q => s.heap.size ≤ q) s s.heap := va_Efof (E := RX8) (d0 := "LWineCellar$Test;") (nm := zx_nm) (tm := zx_t) (fun i hi => hEv i hi) (fun i hi => hs _ (lw_m10 i hi)) hKv hA
  obtain ⟨t24, k1, k2⟩ := va_Tof (args := #[Value.ref b]) (s := s) (tm := .static RX9 "KEPT_HOURS" "[I") (ty := .int) (N := 3) (f := fun j => .int (([48, 12, 240] : List Int32).getD j 0)) (A := fun q => s.heap.size ≤ q) (by decide) (hs _ lw_s1) (va_eqt (hs _ lw_s2)) (fun j hj => va_eqt (hs _ (lw_m15 j hj))) hA
  have k3 : va_Z RX9 "KEPT_HOURS" "[I" (.ref t24) (fun q => s.heap.size ≤ q) s s.heap := va_Zref (hts (.laysStatic RX9 "KEPT_HOURS" "[I") (by decide +kernel)) (hts (.initialized RX9) (by decide +kernel)) k1 hA
  obtain ⟨t25, k4, k5⟩ := va_Tof (args := #[Value.ref b]) (s := s) (tm := .static RX7 "TESTS" "[LWineCellar$Test;") (ty := .object RX8) (N := 8) (f := fun j => .ref (ad j)) (A := fun q => s.heap.size ≤ q) (by decide) (hs _ lw_s3) (va_eqt (hs _ lw_s4)) (fun j hj => va_eqv (hs _ (lw_m16 j hj)) (hEv j hj)) hA
  have k6 : va_Z RX7 "TESTS" "[LWineCellar$Test;" (.ref t25) (fun q => s.heap.size ≤ q) s s.heap := va_Zref (hts (.laysStatic RX7 "TESTS" "[LWineCellar$Test;") (by decide +kernel)) (hts (.initialized RX7) (by decide +kernel)) k4 hA
  have k7 : va_Z RJ0 "COMPACT_STRINGS" "Z" (.int 1) (fun q => s.heap.size ≤ q) s s.heap := va_Zof (hts (.laysStatic RJ0 "COMPACT_STRINGS" "Z") (by decide +kernel)) (hts (.initialized RJ0) (by decide +kernel)) (va_eqt (hs _ lw_s5)) hA
  have k8 : va_Zq "jdk/internal/util/Preconditions" "SIOOBE_FORMATTER" "Ljava/util/function/BiFunction;" (fun q => s.heap.size ≤ q) s s.heap := va_Zqof (hts (.laysStatic "jdk/internal/util/Preconditions" "SIOOBE_FORMATTER" "Ljava/util/function/BiFunction;") (by decide +kernel)) (hts (.initialized "jdk/internal/util/Preconditions") (by decide +kernel)) (hs _ lw_s6) hA
  have k9 : ZXb (fun q => s.heap.size ≤ q) s s.heap := ⟨vx_Zqof (hts (.laysStatic Bundle.tN "UNASSIGNED_STACK" Bundle.steD) (by decide +kernel)) (hts (.initialized Bundle.tN) (by decide +kernel)) (hs _ lw_s7) hA, vx_Zqof (hts (.laysStatic Bundle.tN "SUPPRESSED_SENTINEL" Bundle.listD) (by decide +kernel)) (hts (.initialized Bundle.tN) (by decide +kernel)) (hs _ lw_s8) hA⟩
  have hsx : ∀ i : Nat, ∃ a : Nat, i < 19 → (Term.string RX9 (zx_st.getD i (0, "", 0)).1).eval #[Value.ref b] s none [] s = some (.ref a) := fun i => by
    by_cases hi : i < 19
    · obtain ⟨a, c, cell, k, q1, -⟩ := Cond.exactly_spec (hs _ (lw_m13 i hi))
      exact ⟨a, fun _ => q1⟩
    · exact ⟨0, fun h => absurd h hi⟩
  obtain ⟨aS, haS⟩ := Classical.axiomOfChoice hsx
  obtain ⟨sa, s0, s1, s2, s3, s4, s5⟩ : ∃ sa : Nat → Nat, (∀ i, i < 8 → sa i = ad i) ∧ (∀ i, i < 8 → sa (8 + i) = adK i) ∧ (∀ i, i < 8 → sa (16 + i) = adV i) ∧ sa 24 = t24 ∧ sa 25 = t25 ∧ ∀ i, sa (26 + i) = aS i := by
    refine ⟨fun k => if k < 8 then ad k else if k < 16 then adK (k - 8) else if k < 24 then adV (k - 16) else if k = 24 then t24 else if k = 25 then t25 else aS (k - 26), fun i hi => by simp only; rw [if_pos hi], fun i hi => ?_, fun i hi => ?_, rfl, rfl, fun i => ?_⟩
    · simp only; rw [if_neg (by omega), if_pos (by omega), show 8 + i - 8 = i by omega]
    · simp only; rw [if_neg (by omega), if_neg (by omega), if_pos (by omega), show 16 + i - 16 = i by omega]
    · simp only; rw [if_neg (by omega), if_neg (by omega), if_neg (by omega), if_neg (by omega), if_neg (by omega), show 26 + i - 26 = i by omega]
  refine ⟨sa, ⟨⟨⟨fun i hi => ?_, fun i j hi hj h => ?_⟩, fun i hi => ?_, ⟨fun i hi => ?_, fun i j hi hj h => ?_⟩, by rw [s3]; exact k3, by rw [s3]; exact k2, by rw [s4]; exact k6, ?_, k7, k8⟩, k9, fun q hq => ?_, ?_, ?_, ?_⟩, fun a b ha hb hab => va_Nc.of (hs _ (lw_m14 a ha b hb hab))⟩
  · rw [s0 i hi]; exact hE.1 i hi
  · rw [s0 i hi, s0 j hj] at h; exact hE.2 i j hi hj h
  · rw [s0 i hi]
    show va_OF _ _ _ (.ref (sa (8 + i))) _ _ _ _
    rw [s1 i hi]; exact hEf i hi
  · show va_O _ (sa (8 + i)) _ _ _ ∧ va_OF _ _ _ _ (sa (8 + i)) _ _ _ ∧ va_OF _ _ _ (.ref (sa (16 + i))) (sa (8 + i)) _ _ _ ∧ va_T _ (sa (16 + i)) _ _ _ _ _
    rw [s1 i hi, s2 i hi]; exact hSt.1 i hi
  · have h : sa (8 + i) = sa (8 + j) := h
    rw [s1 i hi, s1 j hj] at h; exact hSt.2 i j hi hj h
  · rw [s4]
    obtain ⟨cell, c1, c2, c3, c4, c5, c6, c7⟩ := k5
    exact ⟨cell, c1, c2, c3, c4, c5, fun j hj => by show _ = some (Value.ref (sa j)); rw [s0 j hj]; exact c6 j hj, c7⟩
  · obtain ⟨j, hj, e1, e2⟩ := lw_m18 q hq
    rw [e2, s5 j, e1]
    exact vk_R.of (hts _ (lw_m12 j hj)) (haS j hj)
  · exact ⟨va_AO.of (hts (.arrayOver (.object RX1)) (by decide +kernel)), va_AO.of (hts (.arrayOver (.object RX3)) (by decide +kernel)), va_AO.of (hts (.arrayOver (.object RX0)) (by decide +kernel)), va_AO.of (hts (.arrayOver (.object RX6)) (by decide +kernel)), va_AO.of (hts (.arrayOver (.object RX8)) (by decide +kernel)), va_AOA.of (hts (.arrayOver (.array .int)) (by decide +kernel)), va_AOA.of (hts (.arrayOver (.array .long)) (by decide +kernel))⟩
  · exact ⟨va_Nw.of rfl (hts _ (by decide +kernel)), va_Nw.of rfl (hts _ (by decide +kernel)), va_Nw.of rfl (hts _ (by decide +kernel)), va_Nw.of rfl (hts _ (by decide +kernel)), va_Nw.of rfl (hts _ (by decide +kernel))⟩
  · exact ⟨va_Nw.of rfl (hts _ (by decide +kernel)), va_Nw.of rfl (hts _ (by decide +kernel)), va_Nw.of rfl (hts _ (by decide +kernel)), va_Nw.of rfl (hts _ (by decide +kernel)), va_Nw.of rfl (hts _ (by decide +kernel)), va_Nw.of rfl (hts _ (by decide +kernel)), va_Nw.of rfl (hts _ (by decide +kernel))⟩
