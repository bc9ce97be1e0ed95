/-! ===== the context out of the tables and of what the start is given ===== -/
theorem ct_arr {args : Array Value} {s : State} {ty : FieldType} (h : (Cond.arrayClass ty).before args s = true) : ∃ cA : ClassId, ArrOfT s cA ty ∧ s.vm.findClass ("[" ++ ty.toString) = some cA := by
  obtain ⟨c, k, comp, h1, h2, h3⟩ := Cond.arrayClass_spec h
  exact ⟨c, fun n z => ⟨fun k h => (by cases h), k, h2, comp, h3⟩, h1⟩
theorem ct_arq {s : State} {C : String} (h : va_AO C s) : ∃ cA : ClassId, ArrOfT s cA (.object C) ∧ va_RA s cA (.object C) := by
  obtain ⟨comp, c, k, h1, h2, h3, h4, h5⟩ := Cond.arrayOver_spec h
  exact ⟨c, fun n z => ⟨fun k h => (by cases h), k, h3, comp, h4⟩, k, comp, h3, h4, h1, h5⟩
set_option maxRecDepth 100000 in
theorem ct_K {args : Array Value} {s : State} (hts : ∀ w ∈ lw_tbl, w.before args s = true) (ha1 : va_AO RX0 s) (ha2 : va_AO RX2 s) (X Y : Nat → Nat) (Z : Nat) : ∃ G : GT, G.2.2 = (X, Y, Z) ∧ va_K G.1 vwCl (gT G) s := by
  obtain ⟨c0, i0, h0⟩ := u_known (C := RX0) (T := TX0) (N := 4) (n := 4) hts inX0 (hts (.instantiable RX0 4) (by decide +kernel))
  obtain ⟨c1, i1, h1⟩ := u_known (C := RX1) (T := TX1) (N := 0) (n := 7) hts inX1 (hts (.instantiable RX1 7) (by decide +kernel))
  obtain ⟨c2, i2, h2⟩ := u_known (C := RX2) (T := TX2) (N := 11) (n := 11) hts inX2 (hts (.instantiable RX2 11) (by decide +kernel))
  obtain ⟨c3, i3, h3⟩ := u_known (C := RX3) (T := TX3) (N := 1) (n := 1) hts inX3 (hts (.instantiable RX3 1) (by decide +kernel))
  obtain ⟨c4, i4, h4⟩ := u_known (C := RX4) (T := TX4) (N := 18) (n := 18) hts inX4 (hts (.instantiable RX4 18) (by decide +kernel))
  obtain ⟨a0, g0, f0⟩ := ct_arr (ty := .int) (hts (.arrayClass .int) (by decide +kernel))
  obtain ⟨a1, g1, f1⟩ := ct_arr (ty := .long) (hts (.arrayClass .long) (by decide +kernel))
  obtain ⟨a2, g2, f2⟩ := ct_arr (ty := .boolean) (hts (.arrayClass .boolean) (by decide +kernel))
  obtain ⟨a3, g3, f3⟩ := ct_arq ha1
  obtain ⟨a4, g4, f4⟩ := ct_arq ha2
  refine ⟨((fun k => match k with | 0 => c0 | 1 => c1 | 2 => c2 | 3 => c3 | _ => c4, fun k => match k with | 0 => i0 | 1 => i1 | 2 => i2 | 3 => i3 | _ => i4), (fun k => match k with | 0 => a0 | 1 => a1 | 2 => a2 | 3 => a3 | _ => a4), X, Y, Z), rfl, ?_, ?_⟩
  · intro k q hq
    match k, hq with
    | 0, hq => cases hq; exact h0
    | 1, hq => cases hq; exact h1
    | 2, hq => cases hq; exact h2
    | 3, hq => cases hq; exact h3
    | 4, hq => cases hq; exact h4
    | k + 5, hq => cases hq
  · intro k q hq
    match k, hq with
    | 0, hq => cases hq; exact ⟨g0, f0⟩
    | 1, hq => cases hq; exact ⟨g1, f1⟩
    | 2, hq => cases hq; exact ⟨g2, f2⟩
    | 3, hq => cases hq; exact ⟨g3, f3⟩
    | 4, hq => cases hq; exact ⟨g4, f4⟩
    | k + 5, hq => cases hq
def soN : List String := ["INT", "LONG", "FLOAT", "DOUBLE"]
def soD : String := "LPedalBoard$Sort;"
def soT (i : Nat) : Term := .static RX1 (soN.getD i "") soD
def soA : Term := .static RX3 "SORTS" "[LPedalBoard$Sort;"
theorem ct_m0 : ∀ i, i < 4 → Cond.exactly (soT i) RX1 ∈ flatC (Jvm.Cond.and given_1 narrow_1) := by decide +kernel
theorem ct_m1 : ∀ i, i < 4 → Cond.eq (.field (soT i) RX1 "bits" "I") (.int (so_bits i)) ∈ flatC (Jvm.Cond.and given_1 narrow_1) := by decide +kernel
theorem ct_m2 : ∀ i, i < 4 → Cond.eq (.field (soT i) RX1 "fraction" "I") (.int (so_frac i)) ∈ flatC (Jvm.Cond.and given_1 narrow_1) := by decide +kernel
theorem ct_m3 : ∀ i, i < 4 → Cond.eq (.field (soT i) RX1 "bias" "I") (.int (so_bias i)) ∈ flatC (Jvm.Cond.and given_1 narrow_1) := by decide +kernel
theorem ct_m4 : ∀ i, i < 4 → Cond.eq (.field (soT i) RX1 "sizeMask" "J") (.long (so_mask i)) ∈ flatC (Jvm.Cond.and given_1 narrow_1) := by decide +kernel
theorem ct_m5 : ∀ i, i < 4 → Cond.eq (.elem soA (.int (Int32.ofNat i))) (soT i) ∈ flatC (Jvm.Cond.and given_1 narrow_1) := by decide +kernel
theorem ct_m6 : Cond.arrayOf soA (.object RX1) ∈ flatC (Jvm.Cond.and given_1 narrow_1) := by decide +kernel
theorem ct_m7 : Cond.eq (.length soA) (.int (Int32.ofNat 4)) ∈ flatC (Jvm.Cond.and given_1 narrow_1) := by decide +kernel
theorem ct_m8 : Cond.isRef (.static Bundle.tN "UNASSIGNED_STACK" Bundle.steD) ∈ flatC (Jvm.Cond.and given_1 narrow_1) := by decide +kernel
theorem ct_m9 : Cond.isRef (.static Bundle.tN "SUPPRESSED_SENTINEL" Bundle.listD) ∈ flatC (Jvm.Cond.and given_1 narrow_1) := by decide +kernel
theorem ct_ma : ∀ q ∈ sb_txs, Cond.exactly (.string RX3 q.1) "java/lang/String" ∈ flatC (Jvm.Cond.and given_1 narrow_1) := by decide +kernel
theorem ct_mb : ∀ q ∈ sb_txs, Cond.stringRef RX3 q.1 q.2 ∈ lw_tbl := by decide +kernel
theorem ct_mc : Cond.not (.castable nISE nIAE) ∈ flatC (Jvm.Cond.and given_1 narrow_1) := by decide +kernel
theorem ct_W {s : State} {b : Nat} (hts : ∀ w ∈ lw_tbl, w.before #[Value.ref b] s = true) (hs : ∀ w ∈ flatC (Jvm.Cond.and given_1 narrow_1), w.before #[Value.ref b] s = true) : Exw s :=
  ⟨ca_at.of (hts (.castable nIAE nIAE) (by decide +kernel)), ca_at.of (hts (.castable nISE nISE) (by decide +kernel)), dc_at.of (hts (.declares (Bundle.initS "java/lang/RuntimeException")) (by decide +kernel)), dc_at.of (hts (.declares (Bundle.initS "java/lang/Exception")) (by decide +kernel)), dc_at.of (hts (.declares (Bundle.initS Bundle.tN)) (by decide +kernel)), va_Nc.of (hs _ ct_mc)⟩
set_option maxRecDepth 100000 in
theorem law_ctx {s : State} {b : Nat} (hts : ∀ w ∈ lw_tbl, w.before #[Value.ref b] s = true) (hgv : (Jvm.Cond.and given_1 narrow_1).before #[Value.ref b] s = true) : ∃ G : GT, Ev G (fun q : Nat => s.heap.size ≤ q) s s.heap ∧ va_K G.1 vwCl (gT G) s ∧ va_AO RX0 s ∧ va_AO RX2 s := by
  have hs := flat_of_before _ hgv
  have hA : ∀ a : Nat, a < s.heap.size → ¬ (fun q : Nat => s.heap.size ≤ q) a := fun a h => Nat.not_le.mpr h
  have ha1 : va_AO RX0 s := va_AO.of (hts (.arrayOver (.object RX0)) (by decide +kernel))
  have ha2 : va_AO RX2 s := va_AO.of (hts (.arrayOver (.object RX2)) (by decide +kernel))
  have hev0 : ∀ i : Nat, ∃ a : Nat, i < 4 → (soT i).eval #[Value.ref b] s none [] s = some (.ref a) := by
    intro i
    by_cases hi : i < 4
    · obtain ⟨a, c, cA, kA, q1, -⟩ := Cond.exactly_spec (args := #[Value.ref b]) (first := s) (o := none) (s := s) (idx := []) (t := soT i) (cls := RX1) (hs _ (ct_m0 i hi))
      exact ⟨a, fun _ => q1⟩
    · exact ⟨0, fun h => absurd h hi⟩
  obtain ⟨ad, hev⟩ : ∃ ad : Nat → Nat, ∀ i : Nat, i < 4 → (soT i).eval #[Value.ref b] s none [] s = some (.ref (ad i)) := ⟨fun i => Classical.choose (hev0 i), fun i hi => Classical.choose_spec (hev0 i) hi⟩
  have htx0 : ∀ k : Nat, ∃ a : Nat, (∃ q ∈ sb_txs, q.1 = k) → (Term.string RX3 k).eval #[Value.ref b] s none [] s = some (.ref a) := by
    intro k
    by_cases hk : ∃ q ∈ sb_txs, q.1 = k
    · obtain ⟨q, hq, hqk⟩ := hk
      obtain ⟨a, c, cA, kA, q1, -⟩ := Cond.exactly_spec (args := #[Value.ref b]) (first := s) (o := none) (s := s) (idx := []) (t := .string RX3 q.1) (cls := "java/lang/String") (hs _ (ct_ma q hq))
      exact ⟨a, fun _ => by rw [← hqk]; exact q1⟩
    · exact ⟨0, fun h => absurd h hk⟩
  obtain ⟨tx, htx⟩ : ∃ tx : Nat → Nat, ∀ k : Nat, (∃ q ∈ sb_txs, q.1 = k) → (Term.string RX3 k).eval #[Value.ref b] s none [] s = some (.ref (tx k)) := ⟨fun k => Classical.choose (htx0 k), fun k hk => Classical.choose_spec (htx0 k) hk⟩
  obtain ⟨so, hso, hT⟩ := va_Tof (tm := soA) (ty := .object RX1) (N := 4) (f := fun j => .ref (ad j)) (A := fun q : Nat => s.heap.size ≤ q) (by decide) (hs _ ct_m6) (va_eqt (hs _ ct_m7)) (fun j hj => va_eqv (hs _ (ct_m5 j hj)) (hev j hj)) hA
  obtain ⟨G, hG, hK⟩ := ct_K hts ha1 ha2 ad tx so
  have e1 : G.2.2.1 = ad := by rw [hG]
  have e2 : G.2.2.2.1 = tx := by rw [hG]
  have e3 : G.2.2.2.2 = so := by rw [hG]
  refine ⟨G, ⟨fun i hi => ?_, ?_, ?_, ?_, ?_, ?_, ?_, ?_, ?_, fun q hq => ?_, ct_W hts hs⟩, hK, ha1, ha2⟩
  · rw [e1]; exact va_Oof (hs _ (ct_m0 i hi)) (hev i hi) hA
  · rw [e1]; exact va_Efof (E := RX1) (d0 := soD) (nm := soN) (tm := fun i => .int (so_bits i)) hev (fun i hi => hs _ (ct_m1 i hi)) (fun i hi => rfl) hA
  · rw [e1]; exact va_Efof (E := RX1) (d0 := soD) (nm := soN) (tm := fun i => .int (so_frac i)) hev (fun i hi => hs _ (ct_m2 i hi)) (fun i hi => rfl) hA
  · rw [e1]; exact va_Efof (E := RX1) (d0 := soD) (nm := soN) (tm := fun i => .int (so_bias i)) hev (fun i hi => hs _ (ct_m3 i hi)) (fun i hi => rfl) hA
  · rw [e1]; exact va_Efof (E := RX1) (d0 := soD) (nm := soN) (tm := fun i => .long (so_mask i)) hev (fun i hi => hs _ (ct_m4 i hi)) (fun i hi => rfl) hA
  · rw [e3]; exact va_Zof (hts (.laysStatic RX3 "SORTS" "[LPedalBoard$Sort;") (by decide +kernel)) (hts (.initialized RX3) (by decide +kernel)) hso hA
  · rw [e1, e3]; exact hT
  · exact vx_Zqof (hts (.laysStatic Bundle.tN "UNASSIGNED_STACK" Bundle.steD) (by decide +kernel)) (hts (.initialized Bundle.tN) (by decide +kernel)) (hs _ ct_m8) hA
  · exact vx_Zqof (hts (.laysStatic Bundle.tN "SUPPRESSED_SENTINEL" Bundle.listD) (by decide +kernel)) (hts (.initialized Bundle.tN) (by decide +kernel)) (hs _ ct_m9) hA
  · rw [e2]; exact vk_R.of (hts _ (ct_mb q hq)) (htx q.1 ⟨q, hq, rfl⟩)
