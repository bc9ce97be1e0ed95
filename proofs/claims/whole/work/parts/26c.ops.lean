set_option maxHeartbeats 4000000 in
theorem op_trace {p : Program} {e : Env} {s : State} {m : MethodId} {below : List Frame} {meth : Method} {c : Code} {l : Launch} (hl9 : l.stackTraces = false) {b L : Nat} {xs : Nat → Int32} (hL : L ≤ 2560) (C0 : lw_At p s m meth c b L xs) {G : GT} {A : Nat → Prop} (hA : ∀ q : Nat, s.heap.size ≤ q → A q) (hbA : ¬ A b) (hE : Ev G A s s.heap) (hK : va_K G.1 vwCl (gT G) s) {a : Nat} (ha : a + 5 ≤ L) {ba bw ma qo : Nat} {U : Nat → Nat → Nat} {d : Nat → Nat} {cells slots K : Nat} (hc : cells + 1 ≤ room_1.cells) (hsl : slots + 6 ≤ room_1.slots) (hKK : K < 2 ^ 29) (kk : LawK p l e s m below meth c b G A ba bw U ma d qo a (cells + 1) (slots + 6) (K + 50) 1083) : LawK p l e s m below meth c b G A ba bw U ma d qo a cells slots K 683 := by
  intro V M ox hR H locs ls hP hD hS hl
  rcases wi_ex (xs (a + 1)) with hwi | ⟨i, hi4, hv⟩
  · exact cz_traceX0 hl9 hL C0 hA hbA hE hK ha hc hsl hP hD hS hl (xs (a + 1)) (xs (a + 2)) rfl rfl hwi hwi (kk _ _ _ (hR.up (by omega)))
  have r := hR.1 i hi4
  have hn := r.2.2.2.1.1
  rcases ha_ex hn (xs (a + 2)) with hhas | ⟨u, hu, hv2⟩
  · exact cz_traceX1 hl9 hL C0 hA hbA hE hK ha hc hsl hP hD hS hl i (xs (a + 2)) hv rfl hi4 (wf_e U hi4) hhas r.2.2.1 hhas (kk _ _ _ (Rel.self i hR))
  by_cases htr : v_tr (V i) = 0
  · have hhas : ¬ fX0_has (v_n (V i)) (xs (a + 2)) = 0 := by rw [hv2]; exact ha_nI hn hu
    exact cz_traceX2 hl9 hL C0 hA hbA hE hK ha hc hsl hP hD hS hl i (xs (a + 2)) hv rfl hi4 (wf_e U hi4) hhas htr r.2.2.1 hhas (by rw [← r.2.1]; exact htr) (kk _ _ _ (Rel.self i hR))
  · exact cz_trace hl9 hL C0 hA hbA hE hK ha hc hsl hP hD hS hl i u hv hv2 hi4 (wf_e U hi4) hu hn htr r.2.2.1 hn hu (by rw [← r.2.1]; exact htr) (by rw [uL_s]; exact (r.2.2.2.2.1 htr u hu).1) (kk _ _ _ (Rel.self i hR))
set_option maxHeartbeats 4000000 in
theorem op_against {p : Program} {e : Env} {s : State} {m : MethodId} {below : List Frame} {meth : Method} {c : Code} {l : Launch} (hl9 : l.stackTraces = false) {b L : Nat} {xs : Nat → Int32} (hL : L ≤ 2560) (C0 : lw_At p s m meth c b L xs) {G : GT} {A : Nat → Prop} (hA : ∀ q : Nat, s.heap.size ≤ q → A q) (hbA : ¬ A b) (hE : Ev G A s s.heap) (hK : va_K G.1 vwCl (gT G) s) {a : Nat} (ha : a + 5 ≤ L) {ba bw ma qo : Nat} {U : Nat → Nat → Nat} {d : Nat → Nat} {cells slots K : Nat} (hc : cells + 1 ≤ room_1.cells) (hsl : slots + 6 ≤ room_1.slots) (hKK : K < 2 ^ 29) (kk : LawK p l e s m below meth c b G A ba bw U ma d qo a (cells + 1) (slots + 6) (K + 50) 1083) : LawK p l e s m below meth c b G A ba bw U ma d qo a cells slots K 787 := by
  intro V M ox hR H locs ls hP hD hS hl
  rcases wi_ex (xs (a + 1)) with hwi | ⟨i, hi4, hv⟩
  · exact cz_againstX0 hl9 hL C0 hA hbA hE hK ha hc hsl hP hD hS hl (xs (a + 1)) rfl hwi hwi (kk _ _ _ (hR.up (by omega)))
  have r := hR.1 i hi4
  have hn := r.2.2.2.1.1
  have hag := q_ag (f0 := m_f0 M) (f1 := m_f1 M) hi4 (by rw [← r.1.1]; exact r.1.2.2.2.2.1) (by rw [← r.1.2.1]; exact r.1.2.2.2.2.2.1)
  exact cz_against hl9 hL C0 hA hbA hE hK ha hc hsl hP hD hS hl i hv hi4 (wf_e U hi4) (by rw [uL_s, hag, r.1.1, r.1.2.1]) (kk _ _ _ (Rel.self i hR))
set_option maxHeartbeats 4000000 in
theorem op_save {p : Program} {e : Env} {s : State} {m : MethodId} {below : List Frame} {meth : Method} {c : Code} {l : Launch} (hl9 : l.stackTraces = false) {b L : Nat} {xs : Nat → Int32} (hL : L ≤ 2560) (C0 : lw_At p s m meth c b L xs) {G : GT} {A : Nat → Prop} (hA : ∀ q : Nat, s.heap.size ≤ q → A q) (hbA : ¬ A b) (hE : Ev G A s s.heap) (hK : va_K G.1 vwCl (gT G) s) {a : Nat} (ha : a + 5 ≤ L) {ba bw ma qo : Nat} {U : Nat → Nat → Nat} {d : Nat → Nat} {cells slots K : Nat} (hc : cells + 1 ≤ room_1.cells) (hsl : slots + 6 ≤ room_1.slots) (hKK : K < 2 ^ 29) (kk : LawK p l e s m below meth c b G A ba bw U ma d qo a (cells + 1) (slots + 6) (K + 50) 1083) : LawK p l e s m below meth c b G A ba bw U ma d qo a cells slots K 843 := by
  intro V M ox hR H locs ls hP hD hS hl
  rcases wi_ex (xs (a + 1)) with hwi | ⟨i, hi4, hv⟩
  · exact cz_saveX0 hl9 hL C0 hA hbA hE hK ha hc hsl hP hD hS hl (xs (a + 1)) (xs (a + 2)) rfl rfl hwi hwi (kk _ _ _ (hR.up (by omega)))
  have r := hR.1 i hi4
  have hn := r.2.2.2.1.1
  by_cases hps : (xs (a + 2)) < 0
  · exact cz_saveX1 hl9 hL C0 hA hbA hE hK ha hc hsl hP hD hS hl i (xs (a + 2)) hv rfl hi4 (wf_e U hi4) hps hps (kk _ _ _ (Rel.self i hR))
  by_cases hps2 : ¬ (xs (a + 2)) < (4:Int32)
  · exact cz_saveX2 hl9 hL C0 hA hbA hE hK ha hc hsl hP hD hS hl i (xs (a + 2)) hv rfl hi4 (wf_e U hi4) hps hps2 hps (ge4.mp hps2) (kk _ _ _ (Rel.self i hR))
  obtain ⟨w, -, hw, hv2⟩ := sm_ex (lo := 0) (hi := 3) (by decide) (by decide) (xs (a + 2)) hps (fun g => hps2 (ge4.mpr g))
  rcases (show w = 0 ∨ w = 1 ∨ w = 2 ∨ w = 3 by omega) with rfl | rfl | rfl | rfl
  · have g2 := r.2.2.2.2.2 0 (by decide)
    exact cz_save_0 hl9 hL C0 hA hbA hE hK ha hc hsl hP hD hS hl i hv hv2 hi4 (wf_e U hi4) (by decide) rfl hn r.2.2.2.1.2.2 r.2.2.1 hn (by decide) hR.2.1 (uL_s _ _ _) (kk _ _ _ (sm_save 0 (by decide) hR hi4))
  · have g2 := r.2.2.2.2.2 1 (by decide)
    exact cz_save_1 hl9 hL C0 hA hbA hE hK ha hc hsl hP hD hS hl i hv hv2 hi4 (wf_e U hi4) (by decide) rfl hn r.2.2.2.1.2.2 r.2.2.1 hn (by decide) hR.2.1 (uL_s _ _ _) (kk _ _ _ (sm_save 1 (by decide) hR hi4))
  · have g2 := r.2.2.2.2.2 2 (by decide)
    exact cz_save_2 hl9 hL C0 hA hbA hE hK ha hc hsl hP hD hS hl i hv hv2 hi4 (wf_e U hi4) (by decide) rfl hn r.2.2.2.1.2.2 r.2.2.1 hn (by decide) hR.2.1 (uL_s _ _ _) (kk _ _ _ (sm_save 2 (by decide) hR hi4))
  · have g2 := r.2.2.2.2.2 3 (by decide)
    exact cz_save_3 hl9 hL C0 hA hbA hE hK ha hc hsl hP hD hS hl i hv hv2 hi4 (wf_e U hi4) (by decide) rfl hn r.2.2.2.1.2.2 r.2.2.1 hn (by decide) hR.2.1 (uL_s _ _ _) (kk _ _ _ (sm_save 3 (by decide) hR hi4))
set_option maxHeartbeats 4000000 in
theorem op_recall {p : Program} {e : Env} {s : State} {m : MethodId} {below : List Frame} {meth : Method} {c : Code} {l : Launch} (hl9 : l.stackTraces = false) {b L : Nat} {xs : Nat → Int32} (hL : L ≤ 2560) (C0 : lw_At p s m meth c b L xs) {G : GT} {A : Nat → Prop} (hA : ∀ q : Nat, s.heap.size ≤ q → A q) (hbA : ¬ A b) (hE : Ev G A s s.heap) (hK : va_K G.1 vwCl (gT G) s) {a : Nat} (ha : a + 5 ≤ L) {ba bw ma qo : Nat} {U : Nat → Nat → Nat} {d : Nat → Nat} {cells slots K : Nat} (hc : cells + 1 ≤ room_1.cells) (hsl : slots + 6 ≤ room_1.slots) (hKK : K < 2 ^ 29) (kk : LawK p l e s m below meth c b G A ba bw U ma d qo a (cells + 1) (slots + 6) (K + 50) 1083) : LawK p l e s m below meth c b G A ba bw U ma d qo a cells slots K 911 := by
  intro V M ox hR H locs ls hP hD hS hl
  rcases wi_ex (xs (a + 1)) with hwi | ⟨i, hi4, hv⟩
  · exact cz_recallX0 hl9 hL C0 hA hbA hE hK ha hc hsl hP hD hS hl (xs (a + 1)) (xs (a + 2)) rfl rfl hwi hwi (kk _ _ _ (hR.up (by omega)))
  have r := hR.1 i hi4
  have hn := r.2.2.2.1.1
  by_cases hps : (xs (a + 2)) < 0
  · exact cz_recallX1 hl9 hL C0 hA hbA hE hK ha hc hsl hP hD hS hl i (xs (a + 2)) hv rfl hi4 (wf_e U hi4) hps hps (kk _ _ _ (Rel.self i hR))
  by_cases hps2 : ¬ (xs (a + 2)) < (4:Int32)
  · exact cz_recallX2 hl9 hL C0 hA hbA hE hK ha hc hsl hP hD hS hl i (xs (a + 2)) hv rfl hi4 (wf_e U hi4) hps hps2 hps (ge4.mp hps2) (kk _ _ _ (Rel.self i hR))
  obtain ⟨w, -, hw, hv2⟩ := sm_ex (lo := 0) (hi := 3) (by decide) (by decide) (xs (a + 2)) hps (fun g => hps2 (ge4.mpr g))
  rcases (show w = 0 ∨ w = 1 ∨ w = 2 ∨ w = 3 by omega) with rfl | rfl | rfl | rfl
  · have g2 := r.2.2.2.2.2 0 (by decide)
    exact cz_recall_0 hl9 hL C0 hA hbA hE hK ha hc hsl hP hD hS hl i hv hv2 hi4 (wf_e U hi4) (by decide) rfl g2.2.1 g2.2.2.2 (by decide) g2.1 g2.2.1 hR.2.2 (uL_s _ _ _) (kk _ _ _ (by rw [setV_self (v_pn (V i)), setV_self (v_pki (V i)), setV_self (v_pkn (V i)), setV_self (v_pon (V i))]; exact sm_recall 0 (by decide) hR hi4))
  · have g2 := r.2.2.2.2.2 1 (by decide)
    exact cz_recall_1 hl9 hL C0 hA hbA hE hK ha hc hsl hP hD hS hl i hv hv2 hi4 (wf_e U hi4) (by decide) rfl g2.2.1 g2.2.2.2 (by decide) g2.1 g2.2.1 hR.2.2 (uL_s _ _ _) (kk _ _ _ (by rw [setV_self (v_pn (V i)), setV_self (v_pki (V i)), setV_self (v_pkn (V i)), setV_self (v_pon (V i))]; exact sm_recall 1 (by decide) hR hi4))
  · have g2 := r.2.2.2.2.2 2 (by decide)
    exact cz_recall_2 hl9 hL C0 hA hbA hE hK ha hc hsl hP hD hS hl i hv hv2 hi4 (wf_e U hi4) (by decide) rfl g2.2.1 g2.2.2.2 (by decide) g2.1 g2.2.1 hR.2.2 (uL_s _ _ _) (kk _ _ _ (by rw [setV_self (v_pn (V i)), setV_self (v_pki (V i)), setV_self (v_pkn (V i)), setV_self (v_pon (V i))]; exact sm_recall 2 (by decide) hR hi4))
  · have g2 := r.2.2.2.2.2 3 (by decide)
    exact cz_recall_3 hl9 hL C0 hA hbA hE hK ha hc hsl hP hD hS hl i hv hv2 hi4 (wf_e U hi4) (by decide) rfl g2.2.1 g2.2.2.2 (by decide) g2.1 g2.2.1 hR.2.2 (uL_s _ _ _) (kk _ _ _ (by rw [setV_self (v_pn (V i)), setV_self (v_pki (V i)), setV_self (v_pkn (V i)), setV_self (v_pon (V i))]; exact sm_recall 3 (by decide) hR hi4))
set_option maxHeartbeats 4000000 in
theorem op_patch {p : Program} {e : Env} {s : State} {m : MethodId} {below : List Frame} {meth : Method} {c : Code} {l : Launch} (hl9 : l.stackTraces = false) {b L : Nat} {xs : Nat → Int32} (hL : L ≤ 2560) (C0 : lw_At p s m meth c b L xs) {G : GT} {A : Nat → Prop} (hA : ∀ q : Nat, s.heap.size ≤ q → A q) (hbA : ¬ A b) (hE : Ev G A s s.heap) (hK : va_K G.1 vwCl (gT G) s) {a : Nat} (ha : a + 5 ≤ L) {ba bw ma qo : Nat} {U : Nat → Nat → Nat} {d : Nat → Nat} {cells slots K : Nat} (hc : cells + 1 ≤ room_1.cells) (hsl : slots + 6 ≤ room_1.slots) (hKK : K < 2 ^ 29) (kk : LawK p l e s m below meth c b G A ba bw U ma d qo a (cells + 1) (slots + 6) (K + 50) 1083) : LawK p l e s m below meth c b G A ba bw U ma d qo a cells slots K 979 := by
  intro V M ox hR H locs ls hP hD hS hl
  rcases wi_ex (xs (a + 1)) with hwi | ⟨i, hi4, hv⟩
  · exact cz_patchX0 hl9 hL C0 hA hbA hE hK ha hc hsl hP hD hS hl (xs (a + 1)) (xs (a + 2)) rfl rfl hwi hwi (kk _ _ _ (hR.up (by omega)))
  have r := hR.1 i hi4
  have hn := r.2.2.2.1.1
  have hVd := r.1.2.2.2.2.2.1
  rcases wi_ex (xs (a + 2)) with hwi | ⟨j, hj4, hv2⟩
  · exact cz_patchX1 hl9 hL C0 hA hbA hE hK ha hc hsl hP hD hS hl i (xs (a + 2)) hv rfl hi4 (wf_e U hi4) hwi hwi (kk _ _ _ (hR.up (by omega)))
  by_cases hij : i = j
  · subst hij
    have hq := q_cast hi4 hi4 hVd
    exact cz_patchE hl9 hL C0 hA hbA hE hK ha hc hsl hP hD hS hl i hv hv2 hi4 (wf_e U hi4) (by rw [uL_s, ← r.1.2.1, hq.1]) (kk _ _ _ (by rw [← r.1.2.1, hq.1]; exact sm_come hR hi4 hq.2))
  · have hq := q_cast hi4 hj4 hVd
    exact cz_patch hl9 hL C0 hA hbA hE hK ha hc hsl hP hD hS hl i j hv hv2 hi4 hj4 hij (wf_e U hi4) (wf_e U hj4) (by rw [uL_s, ← r.1.2.1, hq.1]) (kk _ _ _ (by rw [← r.1.2.1, hq.1]; exact sm_come hR hj4 hq.2))
set_option maxHeartbeats 4000000 in
theorem op_light {p : Program} {e : Env} {s : State} {m : MethodId} {below : List Frame} {meth : Method} {c : Code} {l : Launch} (hl9 : l.stackTraces = false) {b L : Nat} {xs : Nat → Int32} (hL : L ≤ 2560) (C0 : lw_At p s m meth c b L xs) {G : GT} {A : Nat → Prop} (hA : ∀ q : Nat, s.heap.size ≤ q → A q) (hbA : ¬ A b) (hE : Ev G A s s.heap) (hK : va_K G.1 vwCl (gT G) s) {a : Nat} (ha : a + 5 ≤ L) {ba bw ma qo : Nat} {U : Nat → Nat → Nat} {d : Nat → Nat} {cells slots K : Nat} (hc : cells + 1 ≤ room_1.cells) (hsl : slots + 6 ≤ room_1.slots) (hKK : K < 2 ^ 29) (kk : LawK p l e s m below meth c b G A ba bw U ma d qo a (cells + 1) (slots + 6) (K + 50) 1083) : LawK p l e s m below meth c b G A ba bw U ma d qo a cells slots K 750 := by
  intro V M ox hR H locs ls hP hD hS hl
  rcases wi_ex (xs (a + 1)) with hwi | ⟨i, hi4, hv⟩
  · exact cz_lightNN hl9 hL C0 hA hbA hE hK ha hc hsl hP hD hS hl (xs (a + 1)) (xs (a + 2)) rfl rfl hwi hwi (kk _ _ _ (hR.up (by omega)))
  have r := hR.1 i hi4
  have hn := r.2.2.2.1.1
  rcases ha_ex hn (xs (a + 2)) with hhas | ⟨u, hu, hv2⟩
  · exact cz_lightQ hl9 hL C0 hA hbA hE hK ha hc hsl hP hD hS hl i (xs (a + 2)) hv rfl hi4 (wf_e U hi4) hn r.2.2.1 hhas (an_lightQ hhas) (kk _ _ _ (hR.up (by omega)))
  · exact cz_light hl9 hL C0 hA hbA hE hK ha hc hsl hP hD hS hl i u hv hv2 hi4 (wf_e U hi4) hn r.2.2.1 hn hu (an_light r hu) (kk _ _ _ (hR.up (by omega)))
set_option maxHeartbeats 4000000 in
theorem op_about {p : Program} {e : Env} {s : State} {m : MethodId} {below : List Frame} {meth : Method} {c : Code} {l : Launch} (hl9 : l.stackTraces = false) {b L : Nat} {xs : Nat → Int32} (hL : L ≤ 2560) (C0 : lw_At p s m meth c b L xs) {G : GT} {A : Nat → Prop} (hA : ∀ q : Nat, s.heap.size ≤ q → A q) (hbA : ¬ A b) (hE : Ev G A s s.heap) (hK : va_K G.1 vwCl (gT G) s) {a : Nat} (ha : a + 5 ≤ L) {ba bw ma qo : Nat} {U : Nat → Nat → Nat} {d : Nat → Nat} {cells slots K : Nat} (hc : cells + 1 ≤ room_1.cells) (hsl : slots + 6 ≤ room_1.slots) (hKK : K < 2 ^ 29) (kk : LawK p l e s m below meth c b G A ba bw U ma d qo a (cells + 1) (slots + 6) (K + 50) 1083) : LawK p l e s m below meth c b G A ba bw U ma d qo a cells slots K 1046 := by
  intro V M ox hR H locs ls hP hD hS hl
  rcases wi_ex (xs (a + 1)) with hwi | ⟨i, hi4, hv⟩
  · exact cz_aboutNN hl9 hL C0 hA hbA hE hK ha hc hsl hP hD hS hl (xs (a + 1)) (xs (a + 2)) rfl rfl hwi hwi rfl (kk _ _ _ (hR.up (by omega)))
  have r := hR.1 i hi4
  have hn := r.2.2.2.1.1
  by_cases hq : (xs (a + 2)) < 0
  · exact cz_aboutM1 hl9 hL C0 hA hbA hE hK ha hc hsl hP hD hS hl i (xs (a + 2)) hv rfl hi4 (wf_e U hi4) hn hq (an_ab (Or.inl hq)) (kk _ _ _ (hR.up (by omega)))
  by_cases hq2 : (3:Int32) < (xs (a + 2))
  · exact cz_aboutM2 hl9 hL C0 hA hbA hE hK ha hc hsl hP hD hS hl i (xs (a + 2)) hv rfl hi4 (wf_e U hi4) hn hq hq2 (an_ab (Or.inr hq2)) (kk _ _ _ (hR.up (by omega)))
  obtain ⟨w, -, hw, hv2⟩ := sm_ex (lo := 0) (hi := 3) (by decide) (by decide) (xs (a + 2)) hq hq2
  rcases (show w = 0 ∨ w = 1 ∨ w = 2 ∨ w = 3 by omega) with rfl | rfl | rfl | rfl
  · exact cz_about0 hl9 hL C0 hA hbA hE hK ha hc hsl hP hD hS hl i hv hv2 hi4 (wf_e U hi4) hn r.2.2.1 (by unfold fX3_about; rw [if_pos rfl]) (kk _ _ _ (hR.up (by omega)))
  · exact cz_about1 hl9 hL C0 hA hbA hE hK ha hc hsl hP hD hS hl i hv hv2 hi4 (wf_e U hi4) hn r.2.2.1 hn (by unfold fX3_about fX0_countOn fX4_about1; rw [if_neg (by decide), if_pos rfl]; exact (an_on r _ (Nat.le_refl _)).symm) (kk _ _ _ (hR.up (by omega)))
  · exact cz_about2 hl9 hL C0 hA hbA hE hK ha hc hsl hP hD hS hl i hv hv2 hi4 (wf_e U hi4) hn r.2.2.1 hn (by unfold fX3_about fX2_countLit fX4_about2; rw [if_neg (by decide), if_neg (by decide), if_pos rfl]; exact (an_lit r _ (Nat.le_refl _)).symm) (kk _ _ _ (hR.up (by omega)))
  · exact cz_about3 hl9 hL C0 hA hbA hE hK ha hc hsl hP hD hS hl i hv hv2 hi4 (wf_e U hi4) hn (by unfold fX3_about; rw [if_neg (by decide), if_neg (by decide), if_neg (by decide), if_pos rfl]; exact r.1.2.2.1.symm) (kk _ _ _ (hR.up (by omega)))
