/-! ===== the law from its entry ===== -/
theorem vd0 {i : Nat} (hi : i < 4) : Vd i 0 := by
  rcases i4 hi with rfl | rfl | rfl | rfl <;> exact ⟨by decide +kernel, by decide +kernel⟩
theorem rel0 : Rel 0 (fun _ => v0) M0 := by
  refine ⟨fun i hi => ⟨⟨rfl, rfl, nI_0.symm, Nat.le_refl _, vd0 hi, vd0 hi, fun _ => rfl, fun h => absurd rfl h⟩, rfl, nI_0.symm, ⟨Nat.zero_le _, fun k hk => absurd hk (Nat.not_lt_zero k), fun _ => Or.inl rfl⟩, fun h => absurd rfl h, fun p _ => ⟨nI_0.symm, Nat.zero_le _, fun k hk => absurd hk (Nat.not_lt_zero k), fun _ => Or.inl rfl⟩⟩, fun _ => Or.inl rfl, fun _ => Or.inl rfl⟩
set_option maxHeartbeats 4000000 in
set_option maxRecDepth 100000 in
theorem law_begin {p : Program} {e : Env} {s : State} {m : MethodId} {below : List Frame} {meth : Method} {c : Code} {l : Launch} (hl9 : l.stackTraces = false) {b L : Nat} {xs : Nat → Int32} (hL : L ≤ 2560) (C0 : lw_At p s m meth c b L xs) {G : GT} {A : Nat → Prop} (hA : ∀ q : Nat, s.heap.size ≤ q → A q) (hA2 : ∀ q : Nat, A q → s.heap.size ≤ q) (hbA : ¬ A b) (hE : Ev G A s s.heap) (hK : va_K G.1 vwCl (gT G) s) (ha1 : va_AO RX0 s) (ha2 : va_AO RX2 s) : W p l e room_1 s m #[Value.ref b] below meth c s.heap [] 0 0 (lw_Z below #[Value.ref b] s) (entryFrame m ([Value.ref b] : List Value).toArray 8) := by
  obtain ⟨hx, hb, hr, hml, hown, hts, hX, hbl, hlocks, hgv⟩ := id C0
  have hts := fun w h => hts w (wsL_law_in w h)
  have hS : va_S A s.heap s.heap [] := va_S.rf
  have hP : va_P G.1 vwCl [] s.heap := fun k q h => by simp at h
  have hD : va_D A [] := ⟨fun i j p q h => by simp at h, fun k q h => by simp at h⟩
  have hl := lv_entry ([.ref b]) (n := 8) (Nat.le_of_ble_eq_true rfl)
  rw [lg_entry_eq]
  generalize (lg_sl ([.ref b]) ++ List.replicate (8 - (lg_sl ([.ref b])).length) Slot.unset).toArray = ls at hl ⊢
  have hl : lv_has ls 8 [(0, .ref b)] := hl
  refine va_new (D := G.1) (ci := 3) (fs := [.null]) (C := RX3) (T := TX3) (N := 1) hx hb hts inlX3 tyX3 tyX3_ok hown (hts (.classLink RL 8 RX3) (by decide +kernel)) (hts (.instantiable RX3 1) (by decide +kernel)) (hts (.initialized RX3) (by decide +kernel)) hK hP hD hS hA rfl (fun j hj => by rcases (show j = 0 by omega) with rfl; rfl) (Nat.le_of_ble_eq_true rfl) (Nat.le_of_ble_eq_true rfl) dL_law_0 (fun ba H hP hD hS => ?_)
  refine lv_dup hx hb dL_law_3 rfl ?_
  refine cn_s (As := []) (rest := [.ref ba]) (ws := []) ⟨hx, hb, hml, hown, hts⟩ (kX3_init l G ba) (cwI 0 hts gL_law_X3_init rfl rfl rfl (hts (.initialized RX3) (by decide +kernel)) (hts (.methodLink RL 56 yX3_init) (by decide +kernel)) (hts (.instanceMethod yX3_init) (by decide +kernel)) rfl (by decide +kernel) ⟨Nat.le_of_ble_eq_true rfl, Nat.le_of_ble_eq_true rfl⟩) ha1 ha2 hE hK hP hD hS hA hl.1 rfl rfl (Nat.le_of_ble_eq_true rfl) dL_law_4 ⟨Nat.le_of_ble_eq_true rfl, Nat.le_of_ble_eq_true rfl⟩ (fun u H locs hP hD hS => ?_)
  obtain ⟨bw, U⟩ := u
  have hP : va_P G.1 vwCl (boardW G ba bw U (fun _ => v0)) H := hP
  have hD : va_D A (boardW G ba bw U (fun _ => v0)) := hD
  refine lv_astore_n (lv' := [(1, .ref ba), (0, .ref b)]) hx hb dL_law_7 rfl hl (by decide) rfl (fun ls hl => ?_)
  refine va_new (D := G.1) (ci := 4) (fs := [.null, .null, .null, .null, .null, .null, .null, .null, .null, .null, .null, .null, .null, .null, .null, .null, .null, .int 0]) (C := RX4) (T := TX4) (N := 18) hx hb hts inlX4 tyX4 tyX4_ok hown (hts (.classLink RL 57 RX4) (by decide +kernel)) (hts (.instantiable RX4 18) (by decide +kernel)) (hts (.initialized RX4) (by decide +kernel)) hK hP hD hS hA rfl (fun j hj => by rcases (show j = 0 ∨ j = 1 ∨ j = 2 ∨ j = 3 ∨ j = 4 ∨ j = 5 ∨ j = 6 ∨ j = 7 ∨ j = 8 ∨ j = 9 ∨ j = 10 ∨ j = 11 ∨ j = 12 ∨ j = 13 ∨ j = 14 ∨ j = 15 ∨ j = 16 ∨ j = 17 by omega) with rfl | rfl | rfl | rfl | rfl | rfl | rfl | rfl | rfl | rfl | rfl | rfl | rfl | rfl | rfl | rfl | rfl | rfl <;> rfl) (Nat.le_of_ble_eq_true rfl) (Nat.le_of_ble_eq_true rfl) dL_law_8 (fun ma H hP hD hS => ?_)
  refine lv_dup hx hb dL_law_11 rfl ?_
  refine cn_v (As := []) (rest := [.ref ma]) (ws := boardW G ba bw U (fun _ => v0)) ⟨hx, hb, hml, hown, hts⟩ (kX4_init l G ma) (cwI 0 hts gL_law_X4_init rfl rfl rfl (hts (.initialized RX4) (by decide +kernel)) (hts (.methodLink RL 59 yX4_init) (by decide +kernel)) (hts (.instanceMethod yX4_init) (by decide +kernel)) rfl (by decide +kernel) ⟨Nat.le_of_ble_eq_true rfl, Nat.le_of_ble_eq_true rfl⟩) ha1 ha2 hE hK hP hD hS hA hl.1 rfl rfl (Nat.le_of_ble_eq_true rfl) dL_law_12 ⟨Nat.le_of_ble_eq_true rfl, Nat.le_of_ble_eq_true rfl⟩ (fun d H locs hP hD hS => ?_)
  have hP : va_P G.1 vwCl (boardW G ba bw U (fun _ => v0) ++ modW G ma d M0) H := hP
  have hD : va_D A (boardW G ba bw U (fun _ => v0) ++ modW G ma d M0) := hD
  refine lv_astore_n (lv' := [(2, .ref ma), (1, .ref ba), (0, .ref b)]) hx hb dL_law_15 rfl hl (by decide) rfl (fun ls hl => ?_)
  refine lv_iconst (v := (1:Int32)) hx hb dL_law_16 (by decide) ?_
  refine nw_J (N := 1) hx hb (hts (.arrayClass .long) (by decide +kernel)) hK hP hD hS hA (by decide) (by decide) (by decide) (Nat.le_of_ble_eq_true rfl) (Nat.le_of_ble_eq_true rfl) dL_law_17 (fun qo H hP hD hS => ?_)
  rw [List.append_assoc] at hP hD
  have hP : va_P G.1 vwCl (lawW G ba bw U (fun _ => v0) ma d M0 qo (fun _ => 0)) H := hP
  have hD : va_D A (lawW G ba bw U (fun _ => v0) ma d M0 qo (fun _ => 0)) := hD
  refine lv_astore_n (lv' := [(3, .ref qo), (2, .ref ma), (1, .ref ba), (0, .ref b)]) hx hb dL_law_19 rfl hl (by decide) rfl (fun ls hl => ?_)
  refine lv_iconst (v := nI 0) hx hb dL_law_20 (by decide) ?_
  refine lv_istore (lv' := [(4, .int (nI 0)), (3, .ref qo), (2, .ref ma), (1, .ref ba), (0, .ref b)]) hx hb dL_law_21 hl (by decide) rfl (fun ls hl => ?_)
  exact law_loop hl9 hL C0 hA hA2 hbA hE hK (L + 5) 0 _ _ 0 (by omega) (by omega) (by omega) (by omega) (by omega) (fun _ => v0) M0 (fun _ => 0) rel0 H locs ls hP hD hS (lv_sub hl [4, 3, 2, 1, 0] rfl)
