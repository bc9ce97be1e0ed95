set_option maxHeartbeats 4000000 in
theorem op_put {p : Program} {e : Env} {s : State} {m : MethodId} {below : List Frame} {meth : Method} {c : Code} {l : Launch} (hl9 : l.stackTraces = false) {b L : Nat} {xs : Nat → Int32} (hL : L ≤ 2560) (C0 : lw_At p s m meth c b L xs) {G : GT} {A : Nat → Prop} (hA : ∀ q : Nat, s.heap.size ≤ q → A q) (hbA : ¬ A b) (hE : Ev G A s s.heap) (hK : va_K G.1 vwCl (gT G) s) {a : Nat} (ha : a + 5 ≤ L) {ba bw ma qo : Nat} {U : Nat → Nat → Nat} {d : Nat → Nat} {cells slots K : Nat} (hc : cells + 1 ≤ room_1.cells) (hsl : slots + 6 ≤ room_1.slots) (hKK : K < 2 ^ 29) (kk : LawK p l e s m below meth c b G A ba bw U ma d qo a (cells + 1) (slots + 6) (K + 50) 1083) : LawK p l e s m below meth c b G A ba bw U ma d qo a cells slots K 108 := by
  intro V M ox hR H locs ls hP hD hS hl
  rcases wi_ex (xs (a + 1)) with hwi | ⟨i, hi4, hv⟩
  · exact cz_putX0 hl9 hL C0 hA hbA hE hK ha hc hsl hP hD hS hl (xs (a + 1)) (xs (a + 2)) (xs (a + 3)) rfl rfl rfl hwi hwi (kk _ _ _ (hR.up (by omega)))
  have r := hR.1 i hi4
  have hn := r.2.2.2.1.1
  by_cases hill : fX1_isIll i (fX1_codeOf i (xs (a + 2)) (xs (a + 3))) = 0
  · exact cz_put hl9 hL C0 hA hbA hE hK ha hc hsl hP hD hS hl i (xs (a + 2)) (xs (a + 3)) hv rfl rfl hi4 (wf_e U hi4) hill (by rw [q_code hi4, q_ill hi4 (q_fit _ _)]; exact hill) (by rw [uL_s, an_put r hi4]) (kk _ _ _ (by rw [q_code hi4]; exact sm_come hR hi4 ⟨q_fit _ _, hill⟩))
  · exact cz_putX1 hl9 hL C0 hA hbA hE hK ha hc hsl hP hD hS hl i (xs (a + 2)) (xs (a + 3)) hv rfl rfl hi4 (wf_e U hi4) hill (by rw [q_code hi4, q_ill hi4 (q_fit _ _)]; exact hill) (kk _ _ _ (Rel.self i hR))
set_option maxHeartbeats 4000000 in
theorem op_pedal {p : Program} {e : Env} {s : State} {m : MethodId} {below : List Frame} {meth : Method} {c : Code} {l : Launch} (hl9 : l.stackTraces = false) {b L : Nat} {xs : Nat → Int32} (hL : L ≤ 2560) (C0 : lw_At p s m meth c b L xs) {G : GT} {A : Nat → Prop} (hA : ∀ q : Nat, s.heap.size ≤ q → A q) (hbA : ¬ A b) (hE : Ev G A s s.heap) (hK : va_K G.1 vwCl (gT G) s) {a : Nat} (ha : a + 5 ≤ L) {ba bw ma qo : Nat} {U : Nat → Nat → Nat} {d : Nat → Nat} {cells slots K : Nat} (hc : cells + 1 ≤ room_1.cells) (hsl : slots + 6 ≤ room_1.slots) (hKK : K < 2 ^ 29) (kk : LawK p l e s m below meth c b G A ba bw U ma d qo a (cells + 1) (slots + 6) (K + 50) 1083) : LawK p l e s m below meth c b G A ba bw U ma d qo a cells slots K 195 := by
  intro V M ox hR H locs ls hP hD hS hl
  rcases wi_ex (xs (a + 1)) with hwi | ⟨i, hi4, hv⟩
  · exact cz_pedalX0 hl9 hL C0 hA hbA hE hK ha hc hsl hP hD hS hl (xs (a + 1)) (xs (a + 2)) (xs (a + 3)) (xs (a + 4)) rfl rfl rfl rfl hwi hwi (kk _ _ _ (hR.up (by omega)))
  have r := hR.1 i hi4
  have hn := r.2.2.2.1.1
  by_cases hkd : fX1_hasKind i (xs (a + 2)) = 0
  · exact cz_pedalX1 hl9 hL C0 hA hbA hE hK ha hc hsl hP hD hS hl i (xs (a + 2)) (xs (a + 3)) (xs (a + 4)) hv rfl rfl rfl hi4 (wf_e U hi4) hkd (by rw [q_kind hi4]; exact hkd) (kk _ _ _ (Rel.self i hR))
  by_cases hill : fX1_isIll i (fX1_codeOf i (xs (a + 3)) (xs (a + 4))) = 0
  · by_cases hn2 : v_n (V i) = 12
    · exact cz_pedalX3 hl9 hL C0 hA hbA hE hK ha hc hsl hP hD hS hl i (xs (a + 2)) (xs (a + 3)) (xs (a + 4)) hv rfl rfl rfl hi4 (wf_e U hi4) hkd hill hn2 r.2.2.1 hn2 (by rw [q_kind hi4]; exact hkd) (by rw [q_code hi4, q_ill hi4 (q_fit _ _)]; exact hill) (kk _ _ _ (Rel.self i hR))
    · have hn3 : v_n (V i) < 12 := by omega
      exact cz_pedal hl9 hL C0 hA hbA hE hK ha hc hsl hP hD hS hl i (xs (a + 2)) (xs (a + 3)) (xs (a + 4)) hv rfl rfl rfl hi4 (wf_e U hi4) hkd hill hn3 r.2.2.1 hn3 (by rw [q_kind hi4]; exact hkd) (by rw [q_code hi4, q_ill hi4 (q_fit _ _)]; exact hill) (uL_s _ _ _) (kk _ _ _ (by rw [q_code hi4]; exact sm_pedal hR hi4 hn3 hkd ⟨q_fit _ _, hill⟩))
  · exact cz_pedalX2 hl9 hL C0 hA hbA hE hK ha hc hsl hP hD hS hl i (xs (a + 2)) (xs (a + 3)) (xs (a + 4)) hv rfl rfl rfl hi4 (wf_e U hi4) hkd hill (by rw [q_kind hi4]; exact hkd) (by rw [q_code hi4, q_ill hi4 (q_fit _ _)]; exact hill) (kk _ _ _ (Rel.self i hR))
set_option maxHeartbeats 4000000 in
theorem op_turn {p : Program} {e : Env} {s : State} {m : MethodId} {below : List Frame} {meth : Method} {c : Code} {l : Launch} (hl9 : l.stackTraces = false) {b L : Nat} {xs : Nat → Int32} (hL : L ≤ 2560) (C0 : lw_At p s m meth c b L xs) {G : GT} {A : Nat → Prop} (hA : ∀ q : Nat, s.heap.size ≤ q → A q) (hbA : ¬ A b) (hE : Ev G A s s.heap) (hK : va_K G.1 vwCl (gT G) s) {a : Nat} (ha : a + 5 ≤ L) {ba bw ma qo : Nat} {U : Nat → Nat → Nat} {d : Nat → Nat} {cells slots K : Nat} (hc : cells + 1 ≤ room_1.cells) (hsl : slots + 6 ≤ room_1.slots) (hKK : K < 2 ^ 29) (kk : LawK p l e s m below meth c b G A ba bw U ma d qo a (cells + 1) (slots + 6) (K + 50) 1083) : LawK p l e s m below meth c b G A ba bw U ma d qo a cells slots K 287 := by
  intro V M ox hR H locs ls hP hD hS hl
  rcases wi_ex (xs (a + 1)) with hwi | ⟨i, hi4, hv⟩
  · exact cz_turnX0 hl9 hL C0 hA hbA hE hK ha hc hsl hP hD hS hl (xs (a + 1)) (xs (a + 2)) (xs (a + 3)) (xs (a + 4)) rfl rfl rfl rfl hwi hwi (kk _ _ _ (hR.up (by omega)))
  have r := hR.1 i hi4
  have hn := r.2.2.2.1.1
  rcases ha_ex hn (xs (a + 2)) with hhas | ⟨u, hu, hv2⟩
  · exact cz_turnX1 hl9 hL C0 hA hbA hE hK ha hc hsl hP hD hS hl i (xs (a + 2)) (xs (a + 3)) (xs (a + 4)) hv rfl rfl rfl hi4 (wf_e U hi4) hhas r.2.2.1 hhas (kk _ _ _ (Rel.self i hR))
  by_cases hill : fX1_isIll i (fX1_codeOf i (xs (a + 3)) (xs (a + 4))) = 0
  · exact cz_turn hl9 hL C0 hA hbA hE hK ha hc hsl hP hD hS hl i u (xs (a + 3)) (xs (a + 4)) hv hv2 rfl rfl hi4 (wf_e U hi4) hu hn hill r.2.2.1 hn hu (by rw [q_code hi4, q_ill hi4 (q_fit _ _)]; exact hill) (by rw [uL_s, an_turn r hi4 hu]) (kk _ _ _ (by rw [q_code hi4]; exact sm_turn hR hi4 hu ⟨q_fit _ _, hill⟩))
  · have hhas : ¬ fX0_has (v_n (V i)) (xs (a + 2)) = 0 := by rw [hv2]; exact ha_nI hn hu
    exact cz_turnX2 hl9 hL C0 hA hbA hE hK ha hc hsl hP hD hS hl i (xs (a + 2)) (xs (a + 3)) (xs (a + 4)) hv rfl rfl rfl hi4 (wf_e U hi4) hhas hill r.2.2.1 hhas (by rw [q_code hi4, q_ill hi4 (q_fit _ _)]; exact hill) (kk _ _ _ (Rel.self i hR))
set_option maxHeartbeats 4000000 in
theorem op_tap {p : Program} {e : Env} {s : State} {m : MethodId} {below : List Frame} {meth : Method} {c : Code} {l : Launch} (hl9 : l.stackTraces = false) {b L : Nat} {xs : Nat → Int32} (hL : L ≤ 2560) (C0 : lw_At p s m meth c b L xs) {G : GT} {A : Nat → Prop} (hA : ∀ q : Nat, s.heap.size ≤ q → A q) (hbA : ¬ A b) (hE : Ev G A s s.heap) (hK : va_K G.1 vwCl (gT G) s) {a : Nat} (ha : a + 5 ≤ L) {ba bw ma qo : Nat} {U : Nat → Nat → Nat} {d : Nat → Nat} {cells slots K : Nat} (hc : cells + 1 ≤ room_1.cells) (hsl : slots + 6 ≤ room_1.slots) (hKK : K < 2 ^ 29) (kk : LawK p l e s m below meth c b G A ba bw U ma d qo a (cells + 1) (slots + 6) (K + 50) 1083) : LawK p l e s m below meth c b G A ba bw U ma d qo a cells slots K 386 := by
  intro V M ox hR H locs ls hP hD hS hl
  rcases wi_ex (xs (a + 1)) with hwi | ⟨i, hi4, hv⟩
  · exact cz_tapX0 hl9 hL C0 hA hbA hE hK ha hc hsl hP hD hS hl (xs (a + 1)) (xs (a + 2)) rfl rfl hwi hwi (kk _ _ _ (hR.up (by omega)))
  have r := hR.1 i hi4
  have hn := r.2.2.2.1.1
  rcases ha_ex hn (xs (a + 2)) with hhas | ⟨u, hu, hv2⟩
  · exact cz_tapX1 hl9 hL C0 hA hbA hE hK ha hc hsl hP hD hS hl i (xs (a + 2)) hv rfl hi4 (wf_e U hi4) hhas r.2.2.1 hhas (kk _ _ _ (Rel.self i hR))
  · exact cz_tap hl9 hL C0 hA hbA hE hK ha hc hsl hP hD hS hl i u hv hv2 hi4 (wf_e U hi4) hu hn r.2.2.1 hn hu (by rw [uL_s, an_tap r hu]) (kk _ _ _ (sm_tap hR hi4 hu))
set_option maxHeartbeats 4000000 in
theorem op_swap {p : Program} {e : Env} {s : State} {m : MethodId} {below : List Frame} {meth : Method} {c : Code} {l : Launch} (hl9 : l.stackTraces = false) {b L : Nat} {xs : Nat → Int32} (hL : L ≤ 2560) (C0 : lw_At p s m meth c b L xs) {G : GT} {A : Nat → Prop} (hA : ∀ q : Nat, s.heap.size ≤ q → A q) (hbA : ¬ A b) (hE : Ev G A s s.heap) (hK : va_K G.1 vwCl (gT G) s) {a : Nat} (ha : a + 5 ≤ L) {ba bw ma qo : Nat} {U : Nat → Nat → Nat} {d : Nat → Nat} {cells slots K : Nat} (hc : cells + 1 ≤ room_1.cells) (hsl : slots + 6 ≤ room_1.slots) (hKK : K < 2 ^ 29) (kk : LawK p l e s m below meth c b G A ba bw U ma d qo a (cells + 1) (slots + 6) (K + 50) 1083) : LawK p l e s m below meth c b G A ba bw U ma d qo a cells slots K 461 := by
  intro V M ox hR H locs ls hP hD hS hl
  rcases wi_ex (xs (a + 1)) with hwi | ⟨i, hi4, hv⟩
  · exact cz_swapX0 hl9 hL C0 hA hbA hE hK ha hc hsl hP hD hS hl (xs (a + 1)) (xs (a + 2)) (xs (a + 3)) rfl rfl rfl hwi hwi (kk _ _ _ (hR.up (by omega)))
  have r := hR.1 i hi4
  have hn := r.2.2.2.1.1
  rcases ha_ex hn (xs (a + 2)) with hhas | ⟨u1, hu1, hv2⟩
  · exact cz_swapX1 hl9 hL C0 hA hbA hE hK ha hc hsl hP hD hS hl i (xs (a + 2)) (xs (a + 3)) hv rfl rfl hi4 (wf_e U hi4) hhas r.2.2.1 hhas (kk _ _ _ (Rel.self i hR))
  rcases ha_ex hn (xs (a + 3)) with hhas2 | ⟨u2, hu2, hv3⟩
  · have hhas : ¬ fX0_has (v_n (V i)) (xs (a + 2)) = 0 := by rw [hv2]; exact ha_nI hn hu1
    exact cz_swapX2 hl9 hL C0 hA hbA hE hK ha hc hsl hP hD hS hl i (xs (a + 2)) (xs (a + 3)) hv rfl rfl hi4 (wf_e U hi4) hhas hhas2 r.2.2.1 hhas hhas2 (kk _ _ _ (Rel.self i hR))
  · exact cz_swap hl9 hL C0 hA hbA hE hK ha hc hsl hP hD hS hl i u1 u2 hv hv2 hv3 hi4 (wf_e U hi4) hu1 hu2 hn r.2.2.2.1.2.2 r.2.2.1 hn hu1 hu2 hR.2.1 (by rw [uL_s, an_swap r hu1 hu2]) (kk _ _ _ (sm_swap hR hi4 hu1 hu2))
set_option maxHeartbeats 4000000 in
theorem op_play {p : Program} {e : Env} {s : State} {m : MethodId} {below : List Frame} {meth : Method} {c : Code} {l : Launch} (hl9 : l.stackTraces = false) {b L : Nat} {xs : Nat → Int32} (hL : L ≤ 2560) (C0 : lw_At p s m meth c b L xs) {G : GT} {A : Nat → Prop} (hA : ∀ q : Nat, s.heap.size ≤ q → A q) (hbA : ¬ A b) (hE : Ev G A s s.heap) (hK : va_K G.1 vwCl (gT G) s) {a : Nat} (ha : a + 5 ≤ L) {ba bw ma qo : Nat} {U : Nat → Nat → Nat} {d : Nat → Nat} {cells slots K : Nat} (hc : cells + 1 ≤ room_1.cells) (hsl : slots + 6 ≤ room_1.slots) (hKK : K < 2 ^ 29) (kk : LawK p l e s m below meth c b G A ba bw U ma d qo a (cells + 1) (slots + 6) (K + 50) 1083) : LawK p l e s m below meth c b G A ba bw U ma d qo a cells slots K 548 := by
  intro V M ox hR H locs ls hP hD hS hl
  rcases wi_ex (xs (a + 1)) with hwi | ⟨i, hi4, hv⟩
  · exact cz_playX0 hl9 hL C0 hA hbA hE hK ha hc hsl hP hD hS hl (xs (a + 1)) (xs (a + 2)) rfl rfl hwi hwi (kk _ _ _ (hR.up (by omega)))
  have r := hR.1 i hi4
  have hn := r.2.2.2.1.1
  by_cases hq : (xs (a + 2)) < (1:Int32)
  · exact cz_playX1 hl9 hL C0 hA hbA hE hK ha hc hsl hP hD hS hl i (xs (a + 2)) hv rfl hi4 (wf_e U hi4) hq hq (kk _ _ _ (Rel.self i hR))
  by_cases hq2 : (50:Int32) < (xs (a + 2))
  · exact cz_playX2 hl9 hL C0 hA hbA hE hK ha hc hsl hP hD hS hl i (xs (a + 2)) hv rfl hi4 (wf_e U hi4) hq hq2 hq hq2 (kk _ _ _ (Rel.self i hR))
  obtain ⟨q, hq1, hq3, hv2⟩ := sm_ex (lo := 1) (hi := 50) (by decide) (by decide) (xs (a + 2)) hq hq2
  have hp := sm_play q hq3 hKK hR hi4
  exact cz_play hl9 hL C0 hA hbA hE hK ha hc hsl hP hD hS hl i q hv hv2 hi4 (wf_e U hi4) hn hq1 hq3 r.2.2.1 hn hq1 hq3 (by rw [uL_s, hp.1]) (kk _ _ _ (hp.2 _ _ rfl rfl))
set_option maxHeartbeats 4000000 in
theorem op_code {p : Program} {e : Env} {s : State} {m : MethodId} {below : List Frame} {meth : Method} {c : Code} {l : Launch} (hl9 : l.stackTraces = false) {b L : Nat} {xs : Nat → Int32} (hL : L ≤ 2560) (C0 : lw_At p s m meth c b L xs) {G : GT} {A : Nat → Prop} (hA : ∀ q : Nat, s.heap.size ≤ q → A q) (hbA : ¬ A b) (hE : Ev G A s s.heap) (hK : va_K G.1 vwCl (gT G) s) {a : Nat} (ha : a + 5 ≤ L) {ba bw ma qo : Nat} {U : Nat → Nat → Nat} {d : Nat → Nat} {cells slots K : Nat} (hc : cells + 1 ≤ room_1.cells) (hsl : slots + 6 ≤ room_1.slots) (hKK : K < 2 ^ 29) (kk : LawK p l e s m below meth c b G A ba bw U ma d qo a (cells + 1) (slots + 6) (K + 50) 1083) : LawK p l e s m below meth c b G A ba bw U ma d qo a cells slots K 616 := by
  intro V M ox hR H locs ls hP hD hS hl
  rcases wi_ex (xs (a + 1)) with hwi | ⟨i, hi4, hv⟩
  · exact cz_codeX0 hl9 hL C0 hA hbA hE hK ha hc hsl hP hD hS hl (xs (a + 1)) (xs (a + 2)) rfl rfl hwi hwi (kk _ _ _ (hR.up (by omega)))
  have r := hR.1 i hi4
  have hn := r.2.2.2.1.1
  by_cases hq : (xs (a + 2)) < 0
  · exact cz_codeX1 hl9 hL C0 hA hbA hE hK ha hc hsl hP hD hS hl i (xs (a + 2)) hv rfl hi4 (wf_e U hi4) hq hq (kk _ _ _ (Rel.self i hR))
  by_cases hq2 : (3:Int32) < (xs (a + 2))
  · exact cz_codeX2 hl9 hL C0 hA hbA hE hK ha hc hsl hP hD hS hl i (xs (a + 2)) hv rfl hi4 (wf_e U hi4) hq hq2 hq hq2 (kk _ _ _ (Rel.self i hR))
  obtain ⟨w, -, hw, hv2⟩ := sm_ex (lo := 0) (hi := 3) (by decide) (by decide) (xs (a + 2)) hq hq2
  have hrd := r.1.2.2.2.1
  rcases (show w = 0 ∨ w = 1 ∨ w = 2 ∨ w = 3 by omega) with rfl | rfl | rfl | rfl
  · exact cz_code0 hl9 hL C0 hA hbA hE hK ha hc hsl hP hD hS hl i hv hv2 hi4 (wf_e U hi4) (by rw [uL_s]; exact r.1.1) (kk _ _ _ (Rel.self i hR))
  · exact cz_code1 hl9 hL C0 hA hbA hE hK ha hc hsl hP hD hS hl i hv hv2 hi4 (wf_e U hi4) (by rw [uL_s]; exact r.1.2.1) (kk _ _ _ (Rel.self i hR))
  · by_cases hz : v_rd (V i) = 0
    · exact cz_codeX3 hl9 hL C0 hA hbA hE hK ha hc hsl hP hD hS hl i hv hv2 hi4 (wf_e U hi4) ((hp_0 (by omega)).mpr hz) (r.1.2.2.2.2.2.2.1 hz) (kk _ _ _ (Rel.self i hR))
    · have h8 := r.1.2.2.2.2.2.2.2 hz
      exact cz_code2 hl9 hL C0 hA hbA hE hK ha hc hsl hP hD hS hl i hv hv2 hi4 (wf_e U hi4) (fun g => hz ((hp_0 (by omega)).mp g)) (by rw [h8.1]; decide) (by rw [uL_s]; exact h8.2.1) (kk _ _ _ (Rel.self i hR))
  · by_cases hz : v_rd (V i) = 0
    · exact cz_codeX4 hl9 hL C0 hA hbA hE hK ha hc hsl hP hD hS hl i hv hv2 hi4 (wf_e U hi4) ((hp_0 (by omega)).mpr hz) (r.1.2.2.2.2.2.2.1 hz) (kk _ _ _ (Rel.self i hR))
    · have h8 := r.1.2.2.2.2.2.2.2 hz
      exact cz_code3 hl9 hL C0 hA hbA hE hK ha hc hsl hP hD hS hl i hv hv2 hi4 (wf_e U hi4) (fun g => hz ((hp_0 (by omega)).mp g)) (by rw [h8.1]; decide) (by rw [uL_s]; exact h8.2.2.1) (kk _ _ _ (Rel.self i hR))
