set_option maxHeartbeats 8000000 in
set_option maxRecDepth 100000 in
theorem cz_patchX1 {p : Program} {e : Env} {s : State} {m : MethodId} {below : List Frame} {meth : Method} {c : Code} {l : Launch} (hl9 : l.stackTraces = false) {b L : Nat} {xs : Nat → Int32} (hL : L ≤ 2560) (C0 : lw_At p s m meth c b L xs) {G : GT} {A : Nat → Prop} (hA : ∀ q : Nat, s.heap.size ≤ q → A q) (hbA : ¬ A b) (hE : Ev G A s s.heap) (hK : va_K G.1 vwCl (gT G) s) {a : Nat} (ha : a + 5 ≤ L) {ba bw ma qo : Nat} {U : Nat → Nat → Nat} {V : Nat → WV} {d : Nat → Nat} {M : MV} {ox : Nat → Int64} {cells slots : Nat} (hc : cells + 1 ≤ room_1.cells) (hsl : slots + 6 ≤ room_1.slots) {H : Heap} {locs : List Loc} {ls : Array Slot} (hP : va_P G.1 vwCl (lawW G ba bw U V ma d M qo ox) H) (hD : va_D A (lawW G ba bw U V ma d M qo ox)) (hS : va_S A s.heap H locs) (hl : lv_has ls 8 [(0, .ref b), (1, .ref ba), (2, .ref ma), (3, .ref qo), (4, .int (nI a))]) (i : Nat) (wi : Int32) (hv1 : xs (a + 1) = (nI i)) (hv2 : xs (a + 2) = wi) (hi4 : i < 4) (L_hwf : (pf4 (U 0 0) (U 1 0) (U 2 0) (U 3 0)) i = some (U i 0)) (L_hwi : fX3_isWire wi = 0) (M_hwi : fX4_isWire wi = 0)
    (kk : ∀ (H : Heap) (locs : List Loc) (ls : Array Slot), va_P G.1 vwCl (lawW G ba bw U V ma d ((m_f0 M), (m_f1 M), (m_f2 M), (m_f3 M), (m_f4 M), (m_f5 M), (m_f6 M), (m_f7 M), (m_f8 M), (m_f9 M), (m_f10 M), (m_f11 M), (m_f12 M), (m_f13 M), (m_f14 M), (m_f15 M), (m_f16 M), (1:Int32)) qo ox) H → va_D A (lawW G ba bw U V ma d ((m_f0 M), (m_f1 M), (m_f2 M), (m_f3 M), (m_f4 M), (m_f5 M), (m_f6 M), (m_f7 M), (m_f8 M), (m_f9 M), (m_f10 M), (m_f11 M), (m_f12 M), (m_f13 M), (m_f14 M), (m_f15 M), (m_f16 M), (1:Int32)) qo ox) → va_S A s.heap H locs → lv_has ls 8 [(0, .ref b), (1, .ref ba), (2, .ref ma), (3, .ref qo), (4, .int (nI a))] → W p l e room_1 s m #[Value.ref b] below meth c H locs (cells + 1) (slots + 6) (lw_Z below #[Value.ref b] s) (F0 m 1083 ls [])) : W p l e room_1 s m #[Value.ref b] below meth c H locs cells slots (lw_Z below #[Value.ref b] s) (F0 m 979 ls []) := by
  obtain ⟨hx, hb, hr, hml, hown, hts, hX, hbl, hlocks, hgv⟩ := id C0
  have hts := fun w h => hts w (wsL_law_in w h)
  have hcR : room_1.cells = 601024 := rfl
  have hsR : room_1.slots = 7293034 := rfl
  have L_hi4 := hi4
  have M_hi4 := hi4
  refine lv_aload_n hx hb dL_law_979 rfl (lv_at hl 1 rfl) ?_
  refine lv_aload_n hx hb dL_law_980 rfl (lv_at hl 0 rfl) ?_
  refine lv_iload hx hb dL_law_981 (lv_at hl 4 rfl) ?_
  refine lv_iconst (v := (1:Int32)) hx hb dL_law_983 (by decide) ?_
  refine lv_iadd hx hb dL_law_984 ?_
  refine ar_sldv (v := (nI i)) hx hb hX hbl hbA hS (a + 1) (nI_add a 1) hv1 (by omega) (by omega) dL_law_985 ?_
  refine lv_aload_n hx hb dL_law_986 rfl (lv_at hl 0 rfl) ?_
  refine lv_iload hx hb dL_law_987 (lv_at hl 4 rfl) ?_
  refine lv_iconst (v := (2:Int32)) hx hb dL_law_989 (by decide) ?_
  refine lv_iadd hx hb dL_law_990 ?_
  refine ar_sldv (v := wi) hx hb hX hbl hbA hS (a + 2) (nI_add a 2) hv2 (by omega) (by omega) dL_law_991 ?_
  refine lv_aload_n hx hb dL_law_992 rfl (lv_at hl 3 rfl) ?_
  refine lc_0 (As := [.ref ba, .int (nI i), .int wi, .ref qo]) (rest := []) ⟨hx, hb, hml, hown, hts⟩ (kL_patchX1 l hl9 G ba bw (pf4 (U 0 0) (U 1 0) (U 2 0) (U 3 0)) i (U i 0) wi qo ox L_hi4 L_hwf L_hwi) (vx_cwSW 4 hts gL_law_L_patch rfl rfl rfl (by decide +kernel) ⟨Nat.le_of_ble_eq_true rfl, Nat.le_of_ble_eq_true rfl⟩) hE hK hP hD hS hA hl.1 rfl rfl (Nat.le_of_ble_eq_true rfl) dL_law_993 ⟨hc, hsl⟩ (fun H locs hP hD hS => ?_)
  have hP : va_P G.1 vwCl (lawW G ba bw U V ma d M qo ox) H := hP
  have hD : va_D A (lawW G ba bw U V ma d M qo ox) := hD
  refine lv_istore (lv' := [(5, .int (1:Int32)), (0, .ref b), (1, .ref ba), (2, .ref ma), (3, .ref qo), (4, .int (nI a))]) hx hb dL_law_996 hl (by decide) rfl (fun ls hl => ?_)
  refine lv_aload_n hx hb dL_law_998 rfl (lv_at hl 3 rfl) ?_
  refine lv_aload_n hx hb dL_law_999 rfl (lv_at hl 1 rfl) ?_
  refine lv_iload hx hb dL_law_1000 (lv_at hl 5 rfl) ?_
  refine lv_iconst (v := (1:Int32)) hx hb dL_law_1002 (by decide) ?_
  refine lv_iadd hx hb dL_law_1003 ?_
  refine ar_sldv (v := (nI i)) hx hb hX hbl hbA hS (a + 1) (nI_add a 1) hv1 (by omega) (by omega) dL_law_1004 ?_
  refine lv_aload_n hx hb dL_law_1005 rfl (lv_at hl 1 rfl) ?_
  refine lv_iload hx hb dL_law_1006 (lv_at hl 5 rfl) ?_
  refine lv_iconst (v := (2:Int32)) hx hb dL_law_1008 (by decide) ?_
  refine lv_iadd hx hb dL_law_1009 ?_
  refine ar_sldv (v := wi) hx hb hX hbl hbA hS (a + 2) (nI_add a 2) hv2 (by omega) (by omega) dL_law_1010 ?_
  refine lc_ml (As := [.int (nI i), .int wi]) (rest := []) (w0' := [(ma, .inr (4, [.ref (d 0), .ref (d 1), .ref (d 2), .ref (d 3), .ref (d 4), .ref (d 5), .ref (d 6), .ref (d 7), .ref (d 8), .ref (d 9), .ref (d 10), .ref (d 11), .ref (d 12), .ref (d 13), .ref (d 14), .ref (d 15), .ref (d 16), .int (m_cd M)]))]) (w1' := [(ma, .inr (4, [.ref (d 0), .ref (d 1), .ref (d 2), .ref (d 3), .ref (d 4), .ref (d 5), .ref (d 6), .ref (d 7), .ref (d 8), .ref (d 9), .ref (d 10), .ref (d 11), .ref (d 12), .ref (d 13), .ref (d 14), .ref (d 15), .ref (d 16), .int (1:Int32)]))]) (M' := ((m_f0 M), (m_f1 M), (m_f2 M), (m_f3 M), (m_f4 M), (m_f5 M), (m_f6 M), (m_f7 M), (m_f8 M), (m_f9 M), (m_f10 M), (m_f11 M), (m_f12 M), (m_f13 M), (m_f14 M), (m_f15 M), (m_f16 M), (1:Int32))) ⟨hx, hb, hml, hown, hts⟩ (kX4_patchB1 l G ma (d 0) (d 1) (d 2) (d 3) (d 4) (d 5) (d 6) (d 7) (d 8) (d 9) (d 10) (d 11) (d 12) (d 13) (d 14) (d 15) (d 16) (m_cd M) i wi M_hi4 M_hwi) (cwV 2 hts gL_law_X4_patch rfl rfl rfl (by decide +kernel) ⟨Nat.le_of_ble_eq_true rfl, Nat.le_of_ble_eq_true rfl⟩) hE hK hP hD hS hA hl.1 [0] (by decide) (by decide) rfl rfl rfl rfl rfl (Nat.le_of_ble_eq_true rfl) dL_law_1011 ⟨by omega, by omega⟩ (fun H locs hP hD hS => ?_)
  have hP : va_P G.1 vwCl (lawW G ba bw U V ma d ((m_f0 M), (m_f1 M), (m_f2 M), (m_f3 M), (m_f4 M), (m_f5 M), (m_f6 M), (m_f7 M), (m_f8 M), (m_f9 M), (m_f10 M), (m_f11 M), (m_f12 M), (m_f13 M), (m_f14 M), (m_f15 M), (m_f16 M), (1:Int32)) qo ox) H := hP
  have hD : va_D A (lawW G ba bw U V ma d ((m_f0 M), (m_f1 M), (m_f2 M), (m_f3 M), (m_f4 M), (m_f5 M), (m_f6 M), (m_f7 M), (m_f8 M), (m_f9 M), (m_f10 M), (m_f11 M), (m_f12 M), (m_f13 M), (m_f14 M), (m_f15 M), (m_f16 M), (1:Int32)) qo ox) := hD
  refine lv_lstore (lv' := [(6, .long (0:Int64)), (5, .int (1:Int32)), (0, .ref b), (1, .ref ba), (2, .ref ma), (3, .ref qo), (4, .int (nI a))]) hx hb dL_law_1014 hl (by decide) rfl (fun ls hl => ?_)
  refine lv_aload_n hx hb dL_law_1016 rfl (lv_at hl 4 rfl) ?_
  refine lc_mi (As := []) (rest := []) (w0' := [(ma, .inr (4, [.ref (d 0), .ref (d 1), .ref (d 2), .ref (d 3), .ref (d 4), .ref (d 5), .ref (d 6), .ref (d 7), .ref (d 8), .ref (d 9), .ref (d 10), .ref (d 11), .ref (d 12), .ref (d 13), .ref (d 14), .ref (d 15), .ref (d 16), .int (m_cd ((m_f0 M), (m_f1 M), (m_f2 M), (m_f3 M), (m_f4 M), (m_f5 M), (m_f6 M), (m_f7 M), (m_f8 M), (m_f9 M), (m_f10 M), (m_f11 M), (m_f12 M), (m_f13 M), (m_f14 M), (m_f15 M), (m_f16 M), (1:Int32)))]))]) (w1' := [(ma, .inr (4, [.ref (d 0), .ref (d 1), .ref (d 2), .ref (d 3), .ref (d 4), .ref (d 5), .ref (d 6), .ref (d 7), .ref (d 8), .ref (d 9), .ref (d 10), .ref (d 11), .ref (d 12), .ref (d 13), .ref (d 14), .ref (d 15), .ref (d 16), .int (m_cd ((m_f0 M), (m_f1 M), (m_f2 M), (m_f3 M), (m_f4 M), (m_f5 M), (m_f6 M), (m_f7 M), (m_f8 M), (m_f9 M), (m_f10 M), (m_f11 M), (m_f12 M), (m_f13 M), (m_f14 M), (m_f15 M), (m_f16 M), (1:Int32)))]))]) (M' := ((m_f0 M), (m_f1 M), (m_f2 M), (m_f3 M), (m_f4 M), (m_f5 M), (m_f6 M), (m_f7 M), (m_f8 M), (m_f9 M), (m_f10 M), (m_f11 M), (m_f12 M), (m_f13 M), (m_f14 M), (m_f15 M), (m_f16 M), (1:Int32))) ⟨hx, hb, hml, hown, hts⟩ (kX4_thrown l G ma (d 0) (d 1) (d 2) (d 3) (d 4) (d 5) (d 6) (d 7) (d 8) (d 9) (d 10) (d 11) (d 12) (d 13) (d 14) (d 15) (d 16) (m_cd ((m_f0 M), (m_f1 M), (m_f2 M), (m_f3 M), (m_f4 M), (m_f5 M), (m_f6 M), (m_f7 M), (m_f8 M), (m_f9 M), (m_f10 M), (m_f11 M), (m_f12 M), (m_f13 M), (m_f14 M), (m_f15 M), (m_f16 M), (1:Int32)))) (cwV 0 hts gL_law_X4_thrown rfl rfl rfl (by decide +kernel) ⟨Nat.le_of_ble_eq_true rfl, Nat.le_of_ble_eq_true rfl⟩) hE hK hP hD hS hA hl.1 [0] (by decide) (by decide) rfl rfl rfl rfl rfl (Nat.le_of_ble_eq_true rfl) dL_law_1017 ⟨by omega, by omega⟩ (fun H locs hP hD hS => ?_)
  have hP : va_P G.1 vwCl (lawW G ba bw U V ma d ((m_f0 M), (m_f1 M), (m_f2 M), (m_f3 M), (m_f4 M), (m_f5 M), (m_f6 M), (m_f7 M), (m_f8 M), (m_f9 M), (m_f10 M), (m_f11 M), (m_f12 M), (m_f13 M), (m_f14 M), (m_f15 M), (m_f16 M), (1:Int32)) qo ox) H := hP
  have hD : va_D A (lawW G ba bw U V ma d ((m_f0 M), (m_f1 M), (m_f2 M), (m_f3 M), (m_f4 M), (m_f5 M), (m_f6 M), (m_f7 M), (m_f8 M), (m_f9 M), (m_f10 M), (m_f11 M), (m_f12 M), (m_f13 M), (m_f14 M), (m_f15 M), (m_f16 M), (1:Int32)) qo ox) := hD
  refine lv_iload hx hb dL_law_1020 (lv_at hl 1 rfl) ?_
  refine bi_eq (tgt := 1027) hx hb dL_law_1022 (by decide) (fun _ => ?_) (fun h9 => absurd rfl h9)
  refine lv_iload hx hb dL_law_1027 (lv_at hl 1 rfl) ?_
  refine bz_ne (tgt := 1043) hx hb dL_law_1029 (by decide) (fun h9 => absurd h9 (by decide)) (fun _ => ?_)
  refine lv_goto (tgt := 1083) hx hb dL_law_1043 (by decide) ?_
  exact kk H locs ls hP hD hS (lv_sub hl [2, 3, 4, 5, 6] rfl)
set_option maxHeartbeats 8000000 in
set_option maxRecDepth 100000 in
theorem cz_light {p : Program} {e : Env} {s : State} {m : MethodId} {below : List Frame} {meth : Method} {c : Code} {l : Launch} (hl9 : l.stackTraces = false) {b L : Nat} {xs : Nat → Int32} (hL : L ≤ 2560) (C0 : lw_At p s m meth c b L xs) {G : GT} {A : Nat → Prop} (hA : ∀ q : Nat, s.heap.size ≤ q → A q) (hbA : ¬ A b) (hE : Ev G A s s.heap) (hK : va_K G.1 vwCl (gT G) s) {a : Nat} (ha : a + 5 ≤ L) {ba bw ma qo : Nat} {U : Nat → Nat → Nat} {V : Nat → WV} {d : Nat → Nat} {M : MV} {ox : Nat → Int64} {cells slots : Nat} (hc : cells + 1 ≤ room_1.cells) (hsl : slots + 6 ≤ room_1.slots) {H : Heap} {locs : List Loc} {ls : Array Slot} (hP : va_P G.1 vwCl (lawW G ba bw U V ma d M qo ox) H) (hD : va_D A (lawW G ba bw U V ma d M qo ox)) (hS : va_S A s.heap H locs) (hl : lv_has ls 8 [(0, .ref b), (1, .ref ba), (2, .ref ma), (3, .ref qo), (4, .int (nI a))]) (i : Nat) (u : Nat) (hv1 : xs (a + 1) = (nI i)) (hv2 : xs (a + 2) = (nI u)) (hi4 : i < 4) (L_hwf : (pf4 (U 0 0) (U 1 0) (U 2 0) (U 3 0)) i = some (U i 0)) (L_hn : (v_n (V i)) ≤ 12) (M_hm : (m_f5 M) i = nI (v_n (V i))) (M_hn : (v_n (V i)) ≤ 12) (M_hu : u < (v_n (V i))) (hans : (fX3_light (v_tr (V i)) (v_n (V i)) (v_li (V i)) (nI u)) = (fX4_light (m_f6 M) (m_f12 M) i u))
    (kk : ∀ (H : Heap) (locs : List Loc) (ls : Array Slot), va_P G.1 vwCl (lawW G ba bw U V ma d ((m_f0 M), (m_f1 M), (m_f2 M), (m_f3 M), (m_f4 M), (m_f5 M), (m_f6 M), (m_f7 M), (m_f8 M), (m_f9 M), (m_f10 M), (m_f11 M), (m_f12 M), (m_f13 M), (m_f14 M), (m_f15 M), (m_f16 M), (0:Int32)) qo ox) H → va_D A (lawW G ba bw U V ma d ((m_f0 M), (m_f1 M), (m_f2 M), (m_f3 M), (m_f4 M), (m_f5 M), (m_f6 M), (m_f7 M), (m_f8 M), (m_f9 M), (m_f10 M), (m_f11 M), (m_f12 M), (m_f13 M), (m_f14 M), (m_f15 M), (m_f16 M), (0:Int32)) qo ox) → va_S A s.heap H locs → lv_has ls 8 [(0, .ref b), (1, .ref ba), (2, .ref ma), (3, .ref qo), (4, .int (nI a))] → W p l e room_1 s m #[Value.ref b] below meth c H locs (cells + 1) (slots + 6) (lw_Z below #[Value.ref b] s) (F0 m 1083 ls [])) : W p l e room_1 s m #[Value.ref b] below meth c H locs cells slots (lw_Z below #[Value.ref b] s) (F0 m 750 ls []) := by
  obtain ⟨hx, hb, hr, hml, hown, hts, hX, hbl, hlocks, hgv⟩ := id C0
  have hts := fun w h => hts w (wsL_law_in w h)
  have hcR : room_1.cells = 601024 := rfl
  have hsR : room_1.slots = 7293034 := rfl
  have L_hi4 := hi4
  have M_hi4 := hi4
  refine lv_aload_n hx hb dL_law_750 rfl (lv_at hl 1 rfl) ?_
  refine lv_aload_n hx hb dL_law_751 rfl (lv_at hl 0 rfl) ?_
  refine lv_iload hx hb dL_law_752 (lv_at hl 4 rfl) ?_
  refine lv_iconst (v := (1:Int32)) hx hb dL_law_754 (by decide) ?_
  refine lv_iadd hx hb dL_law_755 ?_
  refine ar_sldv (v := (nI i)) hx hb hX hbl hbA hS (a + 1) (nI_add a 1) hv1 (by omega) (by omega) dL_law_756 ?_
  refine lv_aload_n hx hb dL_law_757 rfl (lv_at hl 0 rfl) ?_
  refine lv_iload hx hb dL_law_758 (lv_at hl 4 rfl) ?_
  refine lv_iconst (v := (2:Int32)) hx hb dL_law_760 (by decide) ?_
  refine lv_iadd hx hb dL_law_761 ?_
  refine ar_sldv (v := (nI u)) hx hb hX hbl hbA hS (a + 2) (nI_add a 2) hv2 (by omega) (by omega) dL_law_762 ?_
  refine lc_v (As := [.int (nI i), .int (nI u)]) (rest := []) (w0' := [((U i 0), .inr (2, [.ref (G.2.2.1 i), .ref (U i 1), .ref (U i 5), .ref (U i 22), .ref (U i 23), .int (v_tr (V i)), .long (v_dr (V i)), .long (v_wt (V i)), .int (nI (v_rd (V i))), .long (v_gr (V i)), .long (v_le (V i))])), ((U i 1), .inr (0, [.ref (U i 2), .ref (U i 3), .ref (U i 4), .int (nI (v_n (V i)))])), ((U i 23), .inl (G.2.1 2, 12, .inl (v_li (V i))))]) ⟨hx, hb, hml, hown, hts⟩ (kX3_light l G ba bw (pf4 (U 0 0) (U 1 0) (U 2 0) (U 3 0)) (U i 0) i (U i 1) (U i 5) (U i 22) (U i 23) (v_tr (V i)) (v_dr (V i)) (v_wt (V i)) (v_rd (V i)) (v_gr (V i)) (v_le (V i)) (U i 2) (U i 3) (U i 4) (v_n (V i)) (v_li (V i)) (nI u) L_hi4 L_hwf L_hn) (cwV 2 hts gL_law_X3_light rfl rfl rfl (by decide +kernel) ⟨Nat.le_of_ble_eq_true rfl, Nat.le_of_ble_eq_true rfl⟩) hE hK hP hD hS hA hl.1 hi4 [0, 1, 23] (nd4v hi4 (by decide)) (by decide) rfl rfl rfl rfl (Nat.le_of_ble_eq_true rfl) dL_law_763 ⟨by omega, by omega⟩ (fun H locs hP hD hS => ?_)
  have hP : va_P G.1 vwCl (lawW G ba bw U V ma d M qo ox) H := hP
  have hD : va_D A (lawW G ba bw U V ma d M qo ox) := hD
  refine lv_aload_n hx hb dL_law_766 rfl (lv_at hl 2 rfl) ?_
  refine lv_aload_n hx hb dL_law_767 rfl (lv_at hl 0 rfl) ?_
  refine lv_iload hx hb dL_law_768 (lv_at hl 4 rfl) ?_
  refine lv_iconst (v := (1:Int32)) hx hb dL_law_770 (by decide) ?_
  refine lv_iadd hx hb dL_law_771 ?_
  refine ar_sldv (v := (nI i)) hx hb hX hbl hbA hS (a + 1) (nI_add a 1) hv1 (by omega) (by omega) dL_law_772 ?_
  refine lv_aload_n hx hb dL_law_773 rfl (lv_at hl 0 rfl) ?_
  refine lv_iload hx hb dL_law_774 (lv_at hl 4 rfl) ?_
  refine lv_iconst (v := (2:Int32)) hx hb dL_law_776 (by decide) ?_
  refine lv_iadd hx hb dL_law_777 ?_
  refine ar_sldv (v := (nI u)) hx hb hX hbl hbA hS (a + 2) (nI_add a 2) hv2 (by omega) (by omega) dL_law_778 ?_
  refine lc_mi (As := [.int (nI i), .int (nI u)]) (rest := [.int (fX3_light (v_tr (V i)) (v_n (V i)) (v_li (V i)) (nI u))]) (w0' := [(ma, .inr (4, [.ref (d 0), .ref (d 1), .ref (d 2), .ref (d 3), .ref (d 4), .ref (d 5), .ref (d 6), .ref (d 7), .ref (d 8), .ref (d 9), .ref (d 10), .ref (d 11), .ref (d 12), .ref (d 13), .ref (d 14), .ref (d 15), .ref (d 16), .int (m_cd M)])), ((d 5), .inl (G.2.1 0, 4, .inl (m_f5 M))), ((d 6), .inl (G.2.1 2, 4, .inl (m_f6 M))), ((d 12), .inl (G.2.1 2, 48, .inl (m_f12 M)))]) (w1' := [(ma, .inr (4, [.ref (d 0), .ref (d 1), .ref (d 2), .ref (d 3), .ref (d 4), .ref (d 5), .ref (d 6), .ref (d 7), .ref (d 8), .ref (d 9), .ref (d 10), .ref (d 11), .ref (d 12), .ref (d 13), .ref (d 14), .ref (d 15), .ref (d 16), .int (0:Int32)])), ((d 5), .inl (G.2.1 0, 4, .inl (m_f5 M))), ((d 6), .inl (G.2.1 2, 4, .inl (m_f6 M))), ((d 12), .inl (G.2.1 2, 48, .inl (m_f12 M)))]) (M' := ((m_f0 M), (m_f1 M), (m_f2 M), (m_f3 M), (m_f4 M), (m_f5 M), (m_f6 M), (m_f7 M), (m_f8 M), (m_f9 M), (m_f10 M), (m_f11 M), (m_f12 M), (m_f13 M), (m_f14 M), (m_f15 M), (m_f16 M), (0:Int32))) ⟨hx, hb, hml, hown, hts⟩ (kX4_light l G ma (d 0) (d 1) (d 2) (d 3) (d 4) (d 5) (d 6) (d 7) (d 8) (d 9) (d 10) (d 11) (d 12) (d 13) (d 14) (d 15) (d 16) (m_cd M) (m_f5 M) (m_f6 M) (m_f12 M) i (v_n (V i)) u M_hi4 M_hm M_hn M_hu) (cwV 2 hts gL_law_X4_light rfl rfl rfl (by decide +kernel) ⟨Nat.le_of_ble_eq_true rfl, Nat.le_of_ble_eq_true rfl⟩) hE hK hP hD hS hA hl.1 [0, 6, 7, 13] (by decide) (by decide) rfl rfl rfl rfl rfl (Nat.le_of_ble_eq_true rfl) dL_law_779 ⟨by omega, by omega⟩ (fun H locs hP hD hS => ?_)
  have hP : va_P G.1 vwCl (lawW G ba bw U V ma d ((m_f0 M), (m_f1 M), (m_f2 M), (m_f3 M), (m_f4 M), (m_f5 M), (m_f6 M), (m_f7 M), (m_f8 M), (m_f9 M), (m_f10 M), (m_f11 M), (m_f12 M), (m_f13 M), (m_f14 M), (m_f15 M), (m_f16 M), (0:Int32)) qo ox) H := hP
  have hD : va_D A (lawW G ba bw U V ma d ((m_f0 M), (m_f1 M), (m_f2 M), (m_f3 M), (m_f4 M), (m_f5 M), (m_f6 M), (m_f7 M), (m_f8 M), (m_f9 M), (m_f10 M), (m_f11 M), (m_f12 M), (m_f13 M), (m_f14 M), (m_f15 M), (m_f16 M), (0:Int32)) qo ox) := hD
  refine bi_eq (tgt := 1083) hx hb dL_law_782 (by decide) (fun _ => ?_) (fun h9 => absurd hans h9)
  refine W.widen (k := cells + 1) (n := slots + 6) (by omega) (by omega) ?_
  exact kk H locs ls hP hD hS (lv_sub hl [0, 1, 2, 3, 4] rfl)
set_option maxHeartbeats 8000000 in
set_option maxRecDepth 100000 in
theorem cz_lightQ {p : Program} {e : Env} {s : State} {m : MethodId} {below : List Frame} {meth : Method} {c : Code} {l : Launch} (hl9 : l.stackTraces = false) {b L : Nat} {xs : Nat → Int32} (hL : L ≤ 2560) (C0 : lw_At p s m meth c b L xs) {G : GT} {A : Nat → Prop} (hA : ∀ q : Nat, s.heap.size ≤ q → A q) (hbA : ¬ A b) (hE : Ev G A s s.heap) (hK : va_K G.1 vwCl (gT G) s) {a : Nat} (ha : a + 5 ≤ L) {ba bw ma qo : Nat} {U : Nat → Nat → Nat} {V : Nat → WV} {d : Nat → Nat} {M : MV} {ox : Nat → Int64} {cells slots : Nat} (hc : cells + 1 ≤ room_1.cells) (hsl : slots + 6 ≤ room_1.slots) {H : Heap} {locs : List Loc} {ls : Array Slot} (hP : va_P G.1 vwCl (lawW G ba bw U V ma d M qo ox) H) (hD : va_D A (lawW G ba bw U V ma d M qo ox)) (hS : va_S A s.heap H locs) (hl : lv_has ls 8 [(0, .ref b), (1, .ref ba), (2, .ref ma), (3, .ref qo), (4, .int (nI a))]) (i : Nat) (pl : Int32) (hv1 : xs (a + 1) = (nI i)) (hv2 : xs (a + 2) = pl) (hi4 : i < 4) (L_hwf : (pf4 (U 0 0) (U 1 0) (U 2 0) (U 3 0)) i = some (U i 0)) (L_hn : (v_n (V i)) ≤ 12) (M_hm : (m_f5 M) i = nI (v_n (V i))) (M_hpl : fX4_isPedal (v_n (V i)) pl = 0) (hans : (fX3_light (v_tr (V i)) (v_n (V i)) (v_li (V i)) pl) = (0:Int32))
    (kk : ∀ (H : Heap) (locs : List Loc) (ls : Array Slot), va_P G.1 vwCl (lawW G ba bw U V ma d ((m_f0 M), (m_f1 M), (m_f2 M), (m_f3 M), (m_f4 M), (m_f5 M), (m_f6 M), (m_f7 M), (m_f8 M), (m_f9 M), (m_f10 M), (m_f11 M), (m_f12 M), (m_f13 M), (m_f14 M), (m_f15 M), (m_f16 M), (0:Int32)) qo ox) H → va_D A (lawW G ba bw U V ma d ((m_f0 M), (m_f1 M), (m_f2 M), (m_f3 M), (m_f4 M), (m_f5 M), (m_f6 M), (m_f7 M), (m_f8 M), (m_f9 M), (m_f10 M), (m_f11 M), (m_f12 M), (m_f13 M), (m_f14 M), (m_f15 M), (m_f16 M), (0:Int32)) qo ox) → va_S A s.heap H locs → lv_has ls 8 [(0, .ref b), (1, .ref ba), (2, .ref ma), (3, .ref qo), (4, .int (nI a))] → W p l e room_1 s m #[Value.ref b] below meth c H locs (cells + 1) (slots + 6) (lw_Z below #[Value.ref b] s) (F0 m 1083 ls [])) : W p l e room_1 s m #[Value.ref b] below meth c H locs cells slots (lw_Z below #[Value.ref b] s) (F0 m 750 ls []) := by
  obtain ⟨hx, hb, hr, hml, hown, hts, hX, hbl, hlocks, hgv⟩ := id C0
  have hts := fun w h => hts w (wsL_law_in w h)
  have hcR : room_1.cells = 601024 := rfl
  have hsR : room_1.slots = 7293034 := rfl
  have L_hi4 := hi4
  have M_hi4 := hi4
  refine lv_aload_n hx hb dL_law_750 rfl (lv_at hl 1 rfl) ?_
  refine lv_aload_n hx hb dL_law_751 rfl (lv_at hl 0 rfl) ?_
  refine lv_iload hx hb dL_law_752 (lv_at hl 4 rfl) ?_
  refine lv_iconst (v := (1:Int32)) hx hb dL_law_754 (by decide) ?_
  refine lv_iadd hx hb dL_law_755 ?_
  refine ar_sldv (v := (nI i)) hx hb hX hbl hbA hS (a + 1) (nI_add a 1) hv1 (by omega) (by omega) dL_law_756 ?_
  refine lv_aload_n hx hb dL_law_757 rfl (lv_at hl 0 rfl) ?_
  refine lv_iload hx hb dL_law_758 (lv_at hl 4 rfl) ?_
  refine lv_iconst (v := (2:Int32)) hx hb dL_law_760 (by decide) ?_
  refine lv_iadd hx hb dL_law_761 ?_
  refine ar_sldv (v := pl) hx hb hX hbl hbA hS (a + 2) (nI_add a 2) hv2 (by omega) (by omega) dL_law_762 ?_
  refine lc_v (As := [.int (nI i), .int pl]) (rest := []) (w0' := [((U i 0), .inr (2, [.ref (G.2.2.1 i), .ref (U i 1), .ref (U i 5), .ref (U i 22), .ref (U i 23), .int (v_tr (V i)), .long (v_dr (V i)), .long (v_wt (V i)), .int (nI (v_rd (V i))), .long (v_gr (V i)), .long (v_le (V i))])), ((U i 1), .inr (0, [.ref (U i 2), .ref (U i 3), .ref (U i 4), .int (nI (v_n (V i)))])), ((U i 23), .inl (G.2.1 2, 12, .inl (v_li (V i))))]) ⟨hx, hb, hml, hown, hts⟩ (kX3_light l G ba bw (pf4 (U 0 0) (U 1 0) (U 2 0) (U 3 0)) (U i 0) i (U i 1) (U i 5) (U i 22) (U i 23) (v_tr (V i)) (v_dr (V i)) (v_wt (V i)) (v_rd (V i)) (v_gr (V i)) (v_le (V i)) (U i 2) (U i 3) (U i 4) (v_n (V i)) (v_li (V i)) pl L_hi4 L_hwf L_hn) (cwV 2 hts gL_law_X3_light rfl rfl rfl (by decide +kernel) ⟨Nat.le_of_ble_eq_true rfl, Nat.le_of_ble_eq_true rfl⟩) hE hK hP hD hS hA hl.1 hi4 [0, 1, 23] (nd4v hi4 (by decide)) (by decide) rfl rfl rfl rfl (Nat.le_of_ble_eq_true rfl) dL_law_763 ⟨by omega, by omega⟩ (fun H locs hP hD hS => ?_)
  have hP : va_P G.1 vwCl (lawW G ba bw U V ma d M qo ox) H := hP
  have hD : va_D A (lawW G ba bw U V ma d M qo ox) := hD
  refine lv_aload_n hx hb dL_law_766 rfl (lv_at hl 2 rfl) ?_
  refine lv_aload_n hx hb dL_law_767 rfl (lv_at hl 0 rfl) ?_
  refine lv_iload hx hb dL_law_768 (lv_at hl 4 rfl) ?_
  refine lv_iconst (v := (1:Int32)) hx hb dL_law_770 (by decide) ?_
  refine lv_iadd hx hb dL_law_771 ?_
  refine ar_sldv (v := (nI i)) hx hb hX hbl hbA hS (a + 1) (nI_add a 1) hv1 (by omega) (by omega) dL_law_772 ?_
  refine lv_aload_n hx hb dL_law_773 rfl (lv_at hl 0 rfl) ?_
  refine lv_iload hx hb dL_law_774 (lv_at hl 4 rfl) ?_
  refine lv_iconst (v := (2:Int32)) hx hb dL_law_776 (by decide) ?_
  refine lv_iadd hx hb dL_law_777 ?_
  refine ar_sldv (v := pl) hx hb hX hbl hbA hS (a + 2) (nI_add a 2) hv2 (by omega) (by omega) dL_law_778 ?_
  refine lc_mi (As := [.int (nI i), .int pl]) (rest := [.int (fX3_light (v_tr (V i)) (v_n (V i)) (v_li (V i)) pl)]) (w0' := [(ma, .inr (4, [.ref (d 0), .ref (d 1), .ref (d 2), .ref (d 3), .ref (d 4), .ref (d 5), .ref (d 6), .ref (d 7), .ref (d 8), .ref (d 9), .ref (d 10), .ref (d 11), .ref (d 12), .ref (d 13), .ref (d 14), .ref (d 15), .ref (d 16), .int (m_cd M)])), ((d 5), .inl (G.2.1 0, 4, .inl (m_f5 M)))]) (w1' := [(ma, .inr (4, [.ref (d 0), .ref (d 1), .ref (d 2), .ref (d 3), .ref (d 4), .ref (d 5), .ref (d 6), .ref (d 7), .ref (d 8), .ref (d 9), .ref (d 10), .ref (d 11), .ref (d 12), .ref (d 13), .ref (d 14), .ref (d 15), .ref (d 16), .int (0:Int32)])), ((d 5), .inl (G.2.1 0, 4, .inl (m_f5 M)))]) (M' := ((m_f0 M), (m_f1 M), (m_f2 M), (m_f3 M), (m_f4 M), (m_f5 M), (m_f6 M), (m_f7 M), (m_f8 M), (m_f9 M), (m_f10 M), (m_f11 M), (m_f12 M), (m_f13 M), (m_f14 M), (m_f15 M), (m_f16 M), (0:Int32))) ⟨hx, hb, hml, hown, hts⟩ (kX4_lightQ l G ma (d 0) (d 1) (d 2) (d 3) (d 4) (d 5) (d 6) (d 7) (d 8) (d 9) (d 10) (d 11) (d 12) (d 13) (d 14) (d 15) (d 16) (m_cd M) (m_f5 M) i (v_n (V i)) pl M_hi4 M_hm M_hpl) (cwV 2 hts gL_law_X4_light rfl rfl rfl (by decide +kernel) ⟨Nat.le_of_ble_eq_true rfl, Nat.le_of_ble_eq_true rfl⟩) hE hK hP hD hS hA hl.1 [0, 6] (by decide) (by decide) rfl rfl rfl rfl rfl (Nat.le_of_ble_eq_true rfl) dL_law_779 ⟨by omega, by omega⟩ (fun H locs hP hD hS => ?_)
  have hP : va_P G.1 vwCl (lawW G ba bw U V ma d ((m_f0 M), (m_f1 M), (m_f2 M), (m_f3 M), (m_f4 M), (m_f5 M), (m_f6 M), (m_f7 M), (m_f8 M), (m_f9 M), (m_f10 M), (m_f11 M), (m_f12 M), (m_f13 M), (m_f14 M), (m_f15 M), (m_f16 M), (0:Int32)) qo ox) H := hP
  have hD : va_D A (lawW G ba bw U V ma d ((m_f0 M), (m_f1 M), (m_f2 M), (m_f3 M), (m_f4 M), (m_f5 M), (m_f6 M), (m_f7 M), (m_f8 M), (m_f9 M), (m_f10 M), (m_f11 M), (m_f12 M), (m_f13 M), (m_f14 M), (m_f15 M), (m_f16 M), (0:Int32)) qo ox) := hD
  refine bi_eq (tgt := 1083) hx hb dL_law_782 (by decide) (fun _ => ?_) (fun h9 => absurd hans h9)
  refine W.widen (k := cells + 1) (n := slots + 6) (by omega) (by omega) ?_
  exact kk H locs ls hP hD hS (lv_sub hl [0, 1, 2, 3, 4] rfl)
set_option maxHeartbeats 8000000 in
set_option maxRecDepth 100000 in
theorem cz_lightNN {p : Program} {e : Env} {s : State} {m : MethodId} {below : List Frame} {meth : Method} {c : Code} {l : Launch} (hl9 : l.stackTraces = false) {b L : Nat} {xs : Nat → Int32} (hL : L ≤ 2560) (C0 : lw_At p s m meth c b L xs) {G : GT} {A : Nat → Prop} (hA : ∀ q : Nat, s.heap.size ≤ q → A q) (hbA : ¬ A b) (hE : Ev G A s s.heap) (hK : va_K G.1 vwCl (gT G) s) {a : Nat} (ha : a + 5 ≤ L) {ba bw ma qo : Nat} {U : Nat → Nat → Nat} {V : Nat → WV} {d : Nat → Nat} {M : MV} {ox : Nat → Int64} {cells slots : Nat} (hc : cells + 1 ≤ room_1.cells) (hsl : slots + 6 ≤ room_1.slots) {H : Heap} {locs : List Loc} {ls : Array Slot} (hP : va_P G.1 vwCl (lawW G ba bw U V ma d M qo ox) H) (hD : va_D A (lawW G ba bw U V ma d M qo ox)) (hS : va_S A s.heap H locs) (hl : lv_has ls 8 [(0, .ref b), (1, .ref ba), (2, .ref ma), (3, .ref qo), (4, .int (nI a))]) (wi : Int32) (pl : Int32) (hv1 : xs (a + 1) = wi) (hv2 : xs (a + 2) = pl) (L_hwi : fX3_isWire wi = 0) (M_hwi : fX4_isWire wi = 0)
    (kk : ∀ (H : Heap) (locs : List Loc) (ls : Array Slot), va_P G.1 vwCl (lawW G ba bw U V ma d ((m_f0 M), (m_f1 M), (m_f2 M), (m_f3 M), (m_f4 M), (m_f5 M), (m_f6 M), (m_f7 M), (m_f8 M), (m_f9 M), (m_f10 M), (m_f11 M), (m_f12 M), (m_f13 M), (m_f14 M), (m_f15 M), (m_f16 M), (0:Int32)) qo ox) H → va_D A (lawW G ba bw U V ma d ((m_f0 M), (m_f1 M), (m_f2 M), (m_f3 M), (m_f4 M), (m_f5 M), (m_f6 M), (m_f7 M), (m_f8 M), (m_f9 M), (m_f10 M), (m_f11 M), (m_f12 M), (m_f13 M), (m_f14 M), (m_f15 M), (m_f16 M), (0:Int32)) qo ox) → va_S A s.heap H locs → lv_has ls 8 [(0, .ref b), (1, .ref ba), (2, .ref ma), (3, .ref qo), (4, .int (nI a))] → W p l e room_1 s m #[Value.ref b] below meth c H locs (cells + 1) (slots + 6) (lw_Z below #[Value.ref b] s) (F0 m 1083 ls [])) : W p l e room_1 s m #[Value.ref b] below meth c H locs cells slots (lw_Z below #[Value.ref b] s) (F0 m 750 ls []) := by
  obtain ⟨hx, hb, hr, hml, hown, hts, hX, hbl, hlocks, hgv⟩ := id C0
  have hts := fun w h => hts w (wsL_law_in w h)
  have hcR : room_1.cells = 601024 := rfl
  have hsR : room_1.slots = 7293034 := rfl
  refine lv_aload_n hx hb dL_law_750 rfl (lv_at hl 1 rfl) ?_
  refine lv_aload_n hx hb dL_law_751 rfl (lv_at hl 0 rfl) ?_
  refine lv_iload hx hb dL_law_752 (lv_at hl 4 rfl) ?_
  refine lv_iconst (v := (1:Int32)) hx hb dL_law_754 (by decide) ?_
  refine lv_iadd hx hb dL_law_755 ?_
  refine ar_sldv (v := wi) hx hb hX hbl hbA hS (a + 1) (nI_add a 1) hv1 (by omega) (by omega) dL_law_756 ?_
  refine lv_aload_n hx hb dL_law_757 rfl (lv_at hl 0 rfl) ?_
  refine lv_iload hx hb dL_law_758 (lv_at hl 4 rfl) ?_
  refine lv_iconst (v := (2:Int32)) hx hb dL_law_760 (by decide) ?_
  refine lv_iadd hx hb dL_law_761 ?_
  refine ar_sldv (v := pl) hx hb hX hbl hbA hS (a + 2) (nI_add a 2) hv2 (by omega) (by omega) dL_law_762 ?_
  refine lc_v0 (As := [.int wi, .int pl]) (rest := []) ⟨hx, hb, hml, hown, hts⟩ (kX3_lightN l G ba bw (pf4 (U 0 0) (U 1 0) (U 2 0) (U 3 0)) wi pl L_hwi) (cwV 2 hts gL_law_X3_light rfl rfl rfl (by decide +kernel) ⟨Nat.le_of_ble_eq_true rfl, Nat.le_of_ble_eq_true rfl⟩) hE hK hP hD hS hA hl.1 rfl rfl (Nat.le_of_ble_eq_true rfl) dL_law_763 ⟨by omega, by omega⟩ (fun H locs hP hD hS => ?_)
  have hP : va_P G.1 vwCl (lawW G ba bw U V ma d M qo ox) H := hP
  have hD : va_D A (lawW G ba bw U V ma d M qo ox) := hD
  refine lv_aload_n hx hb dL_law_766 rfl (lv_at hl 2 rfl) ?_
  refine lv_aload_n hx hb dL_law_767 rfl (lv_at hl 0 rfl) ?_
  refine lv_iload hx hb dL_law_768 (lv_at hl 4 rfl) ?_
  refine lv_iconst (v := (1:Int32)) hx hb dL_law_770 (by decide) ?_
  refine lv_iadd hx hb dL_law_771 ?_
  refine ar_sldv (v := wi) hx hb hX hbl hbA hS (a + 1) (nI_add a 1) hv1 (by omega) (by omega) dL_law_772 ?_
  refine lv_aload_n hx hb dL_law_773 rfl (lv_at hl 0 rfl) ?_
  refine lv_iload hx hb dL_law_774 (lv_at hl 4 rfl) ?_
  refine lv_iconst (v := (2:Int32)) hx hb dL_law_776 (by decide) ?_
  refine lv_iadd hx hb dL_law_777 ?_
  refine ar_sldv (v := pl) hx hb hX hbl hbA hS (a + 2) (nI_add a 2) hv2 (by omega) (by omega) dL_law_778 ?_
  refine lc_mi (As := [.int wi, .int pl]) (rest := [.int (0:Int32)]) (w0' := [(ma, .inr (4, [.ref (d 0), .ref (d 1), .ref (d 2), .ref (d 3), .ref (d 4), .ref (d 5), .ref (d 6), .ref (d 7), .ref (d 8), .ref (d 9), .ref (d 10), .ref (d 11), .ref (d 12), .ref (d 13), .ref (d 14), .ref (d 15), .ref (d 16), .int (m_cd M)]))]) (w1' := [(ma, .inr (4, [.ref (d 0), .ref (d 1), .ref (d 2), .ref (d 3), .ref (d 4), .ref (d 5), .ref (d 6), .ref (d 7), .ref (d 8), .ref (d 9), .ref (d 10), .ref (d 11), .ref (d 12), .ref (d 13), .ref (d 14), .ref (d 15), .ref (d 16), .int (0:Int32)]))]) (M' := ((m_f0 M), (m_f1 M), (m_f2 M), (m_f3 M), (m_f4 M), (m_f5 M), (m_f6 M), (m_f7 M), (m_f8 M), (m_f9 M), (m_f10 M), (m_f11 M), (m_f12 M), (m_f13 M), (m_f14 M), (m_f15 M), (m_f16 M), (0:Int32))) ⟨hx, hb, hml, hown, hts⟩ (kX4_lightN l G ma (d 0) (d 1) (d 2) (d 3) (d 4) (d 5) (d 6) (d 7) (d 8) (d 9) (d 10) (d 11) (d 12) (d 13) (d 14) (d 15) (d 16) (m_cd M) wi pl M_hwi) (cwV 2 hts gL_law_X4_light rfl rfl rfl (by decide +kernel) ⟨Nat.le_of_ble_eq_true rfl, Nat.le_of_ble_eq_true rfl⟩) hE hK hP hD hS hA hl.1 [0] (by decide) (by decide) rfl rfl rfl rfl rfl (Nat.le_of_ble_eq_true rfl) dL_law_779 ⟨by omega, by omega⟩ (fun H locs hP hD hS => ?_)
  have hP : va_P G.1 vwCl (lawW G ba bw U V ma d ((m_f0 M), (m_f1 M), (m_f2 M), (m_f3 M), (m_f4 M), (m_f5 M), (m_f6 M), (m_f7 M), (m_f8 M), (m_f9 M), (m_f10 M), (m_f11 M), (m_f12 M), (m_f13 M), (m_f14 M), (m_f15 M), (m_f16 M), (0:Int32)) qo ox) H := hP
  have hD : va_D A (lawW G ba bw U V ma d ((m_f0 M), (m_f1 M), (m_f2 M), (m_f3 M), (m_f4 M), (m_f5 M), (m_f6 M), (m_f7 M), (m_f8 M), (m_f9 M), (m_f10 M), (m_f11 M), (m_f12 M), (m_f13 M), (m_f14 M), (m_f15 M), (m_f16 M), (0:Int32)) qo ox) := hD
  refine bi_eq (tgt := 1083) hx hb dL_law_782 (by decide) (fun _ => ?_) (fun h9 => absurd rfl h9)
  refine W.widen (k := cells + 1) (n := slots + 6) (by omega) (by omega) ?_
  exact kk H locs ls hP hD hS (lv_sub hl [0, 1, 2, 3, 4] rfl)
set_option maxHeartbeats 8000000 in
set_option maxRecDepth 100000 in
theorem cz_about0 {p : Program} {e : Env} {s : State} {m : MethodId} {below : List Frame} {meth : Method} {c : Code} {l : Launch} (hl9 : l.stackTraces = false) {b L : Nat} {xs : Nat → Int32} (hL : L ≤ 2560) (C0 : lw_At p s m meth c b L xs) {G : GT} {A : Nat → Prop} (hA : ∀ q : Nat, s.heap.size ≤ q → A q) (hbA : ¬ A b) (hE : Ev G A s s.heap) (hK : va_K G.1 vwCl (gT G) s) {a : Nat} (ha : a + 5 ≤ L) {ba bw ma qo : Nat} {U : Nat → Nat → Nat} {V : Nat → WV} {d : Nat → Nat} {M : MV} {ox : Nat → Int64} {cells slots : Nat} (hc : cells + 1 ≤ room_1.cells) (hsl : slots + 6 ≤ room_1.slots) {H : Heap} {locs : List Loc} {ls : Array Slot} (hP : va_P G.1 vwCl (lawW G ba bw U V ma d M qo ox) H) (hD : va_D A (lawW G ba bw U V ma d M qo ox)) (hS : va_S A s.heap H locs) (hl : lv_has ls 8 [(0, .ref b), (1, .ref ba), (2, .ref ma), (3, .ref qo), (4, .int (nI a))]) (i : Nat) (hv1 : xs (a + 1) = (nI i)) (hv2 : xs (a + 2) = (0:Int32)) (hi4 : i < 4) (L_hwf : (pf4 (U 0 0) (U 1 0) (U 2 0) (U 3 0)) i = some (U i 0)) (L_hn : (v_n (V i)) ≤ 12) (M_hm : (m_f5 M) i = nI (v_n (V i))) (hans : (fX3_about (v_tr (V i)) (v_rd (V i)) (v_n (V i)) (v_on (V i)) (v_li (V i)) (0:Int32)) = (nI (v_n (V i))))
    (kk : ∀ (H : Heap) (locs : List Loc) (ls : Array Slot), va_P G.1 vwCl (lawW G ba bw U V ma d ((m_f0 M), (m_f1 M), (m_f2 M), (m_f3 M), (m_f4 M), (m_f5 M), (m_f6 M), (m_f7 M), (m_f8 M), (m_f9 M), (m_f10 M), (m_f11 M), (m_f12 M), (m_f13 M), (m_f14 M), (m_f15 M), (m_f16 M), (0:Int32)) qo ox) H → va_D A (lawW G ba bw U V ma d ((m_f0 M), (m_f1 M), (m_f2 M), (m_f3 M), (m_f4 M), (m_f5 M), (m_f6 M), (m_f7 M), (m_f8 M), (m_f9 M), (m_f10 M), (m_f11 M), (m_f12 M), (m_f13 M), (m_f14 M), (m_f15 M), (m_f16 M), (0:Int32)) qo ox) → va_S A s.heap H locs → lv_has ls 8 [(0, .ref b), (1, .ref ba), (2, .ref ma), (3, .ref qo), (4, .int (nI a))] → W p l e room_1 s m #[Value.ref b] below meth c H locs (cells + 1) (slots + 6) (lw_Z below #[Value.ref b] s) (F0 m 1083 ls [])) : W p l e room_1 s m #[Value.ref b] below meth c H locs cells slots (lw_Z below #[Value.ref b] s) (F0 m 1046 ls []) := by
  obtain ⟨hx, hb, hr, hml, hown, hts, hX, hbl, hlocks, hgv⟩ := id C0
  have hts := fun w h => hts w (wsL_law_in w h)
  have hcR : room_1.cells = 601024 := rfl
  have hsR : room_1.slots = 7293034 := rfl
  have L_hi4 := hi4
  have M_hi4 := hi4
  refine lv_aload_n hx hb dL_law_1046 rfl (lv_at hl 1 rfl) ?_
  refine lv_aload_n hx hb dL_law_1047 rfl (lv_at hl 0 rfl) ?_
  refine lv_iload hx hb dL_law_1048 (lv_at hl 4 rfl) ?_
  refine lv_iconst (v := (1:Int32)) hx hb dL_law_1050 (by decide) ?_
  refine lv_iadd hx hb dL_law_1051 ?_
  refine ar_sldv (v := (nI i)) hx hb hX hbl hbA hS (a + 1) (nI_add a 1) hv1 (by omega) (by omega) dL_law_1052 ?_
  refine lv_aload_n hx hb dL_law_1053 rfl (lv_at hl 0 rfl) ?_
  refine lv_iload hx hb dL_law_1054 (lv_at hl 4 rfl) ?_
  refine lv_iconst (v := (2:Int32)) hx hb dL_law_1056 (by decide) ?_
  refine lv_iadd hx hb dL_law_1057 ?_
  refine ar_sldv (v := (0:Int32)) hx hb hX hbl hbA hS (a + 2) (nI_add a 2) hv2 (by omega) (by omega) dL_law_1058 ?_
  refine lc_v (As := [.int (nI i), .int (0:Int32)]) (rest := []) (w0' := [((U i 0), .inr (2, [.ref (G.2.2.1 i), .ref (U i 1), .ref (U i 5), .ref (U i 22), .ref (U i 23), .int (v_tr (V i)), .long (v_dr (V i)), .long (v_wt (V i)), .int (nI (v_rd (V i))), .long (v_gr (V i)), .long (v_le (V i))])), ((U i 1), .inr (0, [.ref (U i 2), .ref (U i 3), .ref (U i 4), .int (nI (v_n (V i)))])), ((U i 2), .inl (G.2.1 0, 12, .inl (v_ki (V i)))), ((U i 3), .inl (G.2.1 1, 12, .inr (.inl (v_kn (V i))))), ((U i 4), .inl (G.2.1 2, 12, .inl (v_on (V i)))), ((U i 23), .inl (G.2.1 2, 12, .inl (v_li (V i))))]) ⟨hx, hb, hml, hown, hts⟩ (kX3_about l G ba bw (pf4 (U 0 0) (U 1 0) (U 2 0) (U 3 0)) (U i 0) i (U i 1) (U i 5) (U i 22) (U i 23) (v_tr (V i)) (v_dr (V i)) (v_wt (V i)) (v_rd (V i)) (v_gr (V i)) (v_le (V i)) (U i 2) (U i 3) (U i 4) (v_n (V i)) (v_ki (V i)) (v_kn (V i)) (v_on (V i)) (v_li (V i)) (0:Int32) L_hi4 L_hwf L_hn) (cwV 2 hts gL_law_X3_about rfl rfl rfl (by decide +kernel) ⟨Nat.le_of_ble_eq_true rfl, Nat.le_of_ble_eq_true rfl⟩) hE hK hP hD hS hA hl.1 hi4 [0, 1, 2, 3, 4, 23] (nd4v hi4 (by decide)) (by decide) rfl rfl rfl rfl (Nat.le_of_ble_eq_true rfl) dL_law_1059 ⟨by omega, by omega⟩ (fun H locs hP hD hS => ?_)
  have hP : va_P G.1 vwCl (lawW G ba bw U V ma d M qo ox) H := hP
  have hD : va_D A (lawW G ba bw U V ma d M qo ox) := hD
  refine lv_aload_n hx hb dL_law_1062 rfl (lv_at hl 2 rfl) ?_
  refine lv_aload_n hx hb dL_law_1063 rfl (lv_at hl 0 rfl) ?_
  refine lv_iload hx hb dL_law_1064 (lv_at hl 4 rfl) ?_
  refine lv_iconst (v := (1:Int32)) hx hb dL_law_1066 (by decide) ?_
  refine lv_iadd hx hb dL_law_1067 ?_
  refine ar_sldv (v := (nI i)) hx hb hX hbl hbA hS (a + 1) (nI_add a 1) hv1 (by omega) (by omega) dL_law_1068 ?_
  refine lv_aload_n hx hb dL_law_1069 rfl (lv_at hl 0 rfl) ?_
  refine lv_iload hx hb dL_law_1070 (lv_at hl 4 rfl) ?_
  refine lv_iconst (v := (2:Int32)) hx hb dL_law_1072 (by decide) ?_
  refine lv_iadd hx hb dL_law_1073 ?_
  refine ar_sldv (v := (0:Int32)) hx hb hX hbl hbA hS (a + 2) (nI_add a 2) hv2 (by omega) (by omega) dL_law_1074 ?_
  refine lc_mi (As := [.int (nI i), .int (0:Int32)]) (rest := [.int (fX3_about (v_tr (V i)) (v_rd (V i)) (v_n (V i)) (v_on (V i)) (v_li (V i)) (0:Int32))]) (w0' := [(ma, .inr (4, [.ref (d 0), .ref (d 1), .ref (d 2), .ref (d 3), .ref (d 4), .ref (d 5), .ref (d 6), .ref (d 7), .ref (d 8), .ref (d 9), .ref (d 10), .ref (d 11), .ref (d 12), .ref (d 13), .ref (d 14), .ref (d 15), .ref (d 16), .int (m_cd M)])), ((d 5), .inl (G.2.1 0, 4, .inl (m_f5 M)))]) (w1' := [(ma, .inr (4, [.ref (d 0), .ref (d 1), .ref (d 2), .ref (d 3), .ref (d 4), .ref (d 5), .ref (d 6), .ref (d 7), .ref (d 8), .ref (d 9), .ref (d 10), .ref (d 11), .ref (d 12), .ref (d 13), .ref (d 14), .ref (d 15), .ref (d 16), .int (0:Int32)])), ((d 5), .inl (G.2.1 0, 4, .inl (m_f5 M)))]) (M' := ((m_f0 M), (m_f1 M), (m_f2 M), (m_f3 M), (m_f4 M), (m_f5 M), (m_f6 M), (m_f7 M), (m_f8 M), (m_f9 M), (m_f10 M), (m_f11 M), (m_f12 M), (m_f13 M), (m_f14 M), (m_f15 M), (m_f16 M), (0:Int32))) ⟨hx, hb, hml, hown, hts⟩ (kX4_about0 l G ma (d 0) (d 1) (d 2) (d 3) (d 4) (d 5) (d 6) (d 7) (d 8) (d 9) (d 10) (d 11) (d 12) (d 13) (d 14) (d 15) (d 16) (m_cd M) (m_f5 M) i (v_n (V i)) M_hi4 M_hm) (cwV 2 hts gL_law_X4_about rfl rfl rfl (by decide +kernel) ⟨Nat.le_of_ble_eq_true rfl, Nat.le_of_ble_eq_true rfl⟩) hE hK hP hD hS hA hl.1 [0, 6] (by decide) (by decide) rfl rfl rfl rfl rfl (Nat.le_of_ble_eq_true rfl) dL_law_1075 ⟨by omega, by omega⟩ (fun H locs hP hD hS => ?_)
  have hP : va_P G.1 vwCl (lawW G ba bw U V ma d ((m_f0 M), (m_f1 M), (m_f2 M), (m_f3 M), (m_f4 M), (m_f5 M), (m_f6 M), (m_f7 M), (m_f8 M), (m_f9 M), (m_f10 M), (m_f11 M), (m_f12 M), (m_f13 M), (m_f14 M), (m_f15 M), (m_f16 M), (0:Int32)) qo ox) H := hP
  have hD : va_D A (lawW G ba bw U V ma d ((m_f0 M), (m_f1 M), (m_f2 M), (m_f3 M), (m_f4 M), (m_f5 M), (m_f6 M), (m_f7 M), (m_f8 M), (m_f9 M), (m_f10 M), (m_f11 M), (m_f12 M), (m_f13 M), (m_f14 M), (m_f15 M), (m_f16 M), (0:Int32)) qo ox) := hD
  refine bi_eq (tgt := 1083) hx hb dL_law_1078 (by decide) (fun _ => ?_) (fun h9 => absurd hans h9)
  refine W.widen (k := cells + 1) (n := slots + 6) (by omega) (by omega) ?_
  exact kk H locs ls hP hD hS (lv_sub hl [0, 1, 2, 3, 4] rfl)
set_option maxHeartbeats 8000000 in
set_option maxRecDepth 100000 in
theorem cz_about1 {p : Program} {e : Env} {s : State} {m : MethodId} {below : List Frame} {meth : Method} {c : Code} {l : Launch} (hl9 : l.stackTraces = false) {b L : Nat} {xs : Nat → Int32} (hL : L ≤ 2560) (C0 : lw_At p s m meth c b L xs) {G : GT} {A : Nat → Prop} (hA : ∀ q : Nat, s.heap.size ≤ q → A q) (hbA : ¬ A b) (hE : Ev G A s s.heap) (hK : va_K G.1 vwCl (gT G) s) {a : Nat} (ha : a + 5 ≤ L) {ba bw ma qo : Nat} {U : Nat → Nat → Nat} {V : Nat → WV} {d : Nat → Nat} {M : MV} {ox : Nat → Int64} {cells slots : Nat} (hc : cells + 1 ≤ room_1.cells) (hsl : slots + 6 ≤ room_1.slots) {H : Heap} {locs : List Loc} {ls : Array Slot} (hP : va_P G.1 vwCl (lawW G ba bw U V ma d M qo ox) H) (hD : va_D A (lawW G ba bw U V ma d M qo ox)) (hS : va_S A s.heap H locs) (hl : lv_has ls 8 [(0, .ref b), (1, .ref ba), (2, .ref ma), (3, .ref qo), (4, .int (nI a))]) (i : Nat) (hv1 : xs (a + 1) = (nI i)) (hv2 : xs (a + 2) = (1:Int32)) (hi4 : i < 4) (L_hwf : (pf4 (U 0 0) (U 1 0) (U 2 0) (U 3 0)) i = some (U i 0)) (L_hn : (v_n (V i)) ≤ 12) (M_hm : (m_f5 M) i = nI (v_n (V i))) (M_hn : (v_n (V i)) ≤ 12) (hans : (fX3_about (v_tr (V i)) (v_rd (V i)) (v_n (V i)) (v_on (V i)) (v_li (V i)) (1:Int32)) = (fX4_about1 (m_f11 M) i (v_n (V i))))
    (kk : ∀ (H : Heap) (locs : List Loc) (ls : Array Slot), va_P G.1 vwCl (lawW G ba bw U V ma d ((m_f0 M), (m_f1 M), (m_f2 M), (m_f3 M), (m_f4 M), (m_f5 M), (m_f6 M), (m_f7 M), (m_f8 M), (m_f9 M), (m_f10 M), (m_f11 M), (m_f12 M), (m_f13 M), (m_f14 M), (m_f15 M), (m_f16 M), (0:Int32)) qo ox) H → va_D A (lawW G ba bw U V ma d ((m_f0 M), (m_f1 M), (m_f2 M), (m_f3 M), (m_f4 M), (m_f5 M), (m_f6 M), (m_f7 M), (m_f8 M), (m_f9 M), (m_f10 M), (m_f11 M), (m_f12 M), (m_f13 M), (m_f14 M), (m_f15 M), (m_f16 M), (0:Int32)) qo ox) → va_S A s.heap H locs → lv_has ls 8 [(0, .ref b), (1, .ref ba), (2, .ref ma), (3, .ref qo), (4, .int (nI a))] → W p l e room_1 s m #[Value.ref b] below meth c H locs (cells + 1) (slots + 6) (lw_Z below #[Value.ref b] s) (F0 m 1083 ls [])) : W p l e room_1 s m #[Value.ref b] below meth c H locs cells slots (lw_Z below #[Value.ref b] s) (F0 m 1046 ls []) := by
  obtain ⟨hx, hb, hr, hml, hown, hts, hX, hbl, hlocks, hgv⟩ := id C0
  have hts := fun w h => hts w (wsL_law_in w h)
  have hcR : room_1.cells = 601024 := rfl
  have hsR : room_1.slots = 7293034 := rfl
  have L_hi4 := hi4
  have M_hi4 := hi4
  refine lv_aload_n hx hb dL_law_1046 rfl (lv_at hl 1 rfl) ?_
  refine lv_aload_n hx hb dL_law_1047 rfl (lv_at hl 0 rfl) ?_
  refine lv_iload hx hb dL_law_1048 (lv_at hl 4 rfl) ?_
  refine lv_iconst (v := (1:Int32)) hx hb dL_law_1050 (by decide) ?_
  refine lv_iadd hx hb dL_law_1051 ?_
  refine ar_sldv (v := (nI i)) hx hb hX hbl hbA hS (a + 1) (nI_add a 1) hv1 (by omega) (by omega) dL_law_1052 ?_
  refine lv_aload_n hx hb dL_law_1053 rfl (lv_at hl 0 rfl) ?_
  refine lv_iload hx hb dL_law_1054 (lv_at hl 4 rfl) ?_
  refine lv_iconst (v := (2:Int32)) hx hb dL_law_1056 (by decide) ?_
  refine lv_iadd hx hb dL_law_1057 ?_
  refine ar_sldv (v := (1:Int32)) hx hb hX hbl hbA hS (a + 2) (nI_add a 2) hv2 (by omega) (by omega) dL_law_1058 ?_
  refine lc_v (As := [.int (nI i), .int (1:Int32)]) (rest := []) (w0' := [((U i 0), .inr (2, [.ref (G.2.2.1 i), .ref (U i 1), .ref (U i 5), .ref (U i 22), .ref (U i 23), .int (v_tr (V i)), .long (v_dr (V i)), .long (v_wt (V i)), .int (nI (v_rd (V i))), .long (v_gr (V i)), .long (v_le (V i))])), ((U i 1), .inr (0, [.ref (U i 2), .ref (U i 3), .ref (U i 4), .int (nI (v_n (V i)))])), ((U i 2), .inl (G.2.1 0, 12, .inl (v_ki (V i)))), ((U i 3), .inl (G.2.1 1, 12, .inr (.inl (v_kn (V i))))), ((U i 4), .inl (G.2.1 2, 12, .inl (v_on (V i)))), ((U i 23), .inl (G.2.1 2, 12, .inl (v_li (V i))))]) ⟨hx, hb, hml, hown, hts⟩ (kX3_about l G ba bw (pf4 (U 0 0) (U 1 0) (U 2 0) (U 3 0)) (U i 0) i (U i 1) (U i 5) (U i 22) (U i 23) (v_tr (V i)) (v_dr (V i)) (v_wt (V i)) (v_rd (V i)) (v_gr (V i)) (v_le (V i)) (U i 2) (U i 3) (U i 4) (v_n (V i)) (v_ki (V i)) (v_kn (V i)) (v_on (V i)) (v_li (V i)) (1:Int32) L_hi4 L_hwf L_hn) (cwV 2 hts gL_law_X3_about rfl rfl rfl (by decide +kernel) ⟨Nat.le_of_ble_eq_true rfl, Nat.le_of_ble_eq_true rfl⟩) hE hK hP hD hS hA hl.1 hi4 [0, 1, 2, 3, 4, 23] (nd4v hi4 (by decide)) (by decide) rfl rfl rfl rfl (Nat.le_of_ble_eq_true rfl) dL_law_1059 ⟨by omega, by omega⟩ (fun H locs hP hD hS => ?_)
  have hP : va_P G.1 vwCl (lawW G ba bw U V ma d M qo ox) H := hP
  have hD : va_D A (lawW G ba bw U V ma d M qo ox) := hD
  refine lv_aload_n hx hb dL_law_1062 rfl (lv_at hl 2 rfl) ?_
  refine lv_aload_n hx hb dL_law_1063 rfl (lv_at hl 0 rfl) ?_
  refine lv_iload hx hb dL_law_1064 (lv_at hl 4 rfl) ?_
  refine lv_iconst (v := (1:Int32)) hx hb dL_law_1066 (by decide) ?_
  refine lv_iadd hx hb dL_law_1067 ?_
  refine ar_sldv (v := (nI i)) hx hb hX hbl hbA hS (a + 1) (nI_add a 1) hv1 (by omega) (by omega) dL_law_1068 ?_
  refine lv_aload_n hx hb dL_law_1069 rfl (lv_at hl 0 rfl) ?_
  refine lv_iload hx hb dL_law_1070 (lv_at hl 4 rfl) ?_
  refine lv_iconst (v := (2:Int32)) hx hb dL_law_1072 (by decide) ?_
  refine lv_iadd hx hb dL_law_1073 ?_
  refine ar_sldv (v := (1:Int32)) hx hb hX hbl hbA hS (a + 2) (nI_add a 2) hv2 (by omega) (by omega) dL_law_1074 ?_
  refine lc_mi (As := [.int (nI i), .int (1:Int32)]) (rest := [.int (fX3_about (v_tr (V i)) (v_rd (V i)) (v_n (V i)) (v_on (V i)) (v_li (V i)) (1:Int32))]) (w0' := [(ma, .inr (4, [.ref (d 0), .ref (d 1), .ref (d 2), .ref (d 3), .ref (d 4), .ref (d 5), .ref (d 6), .ref (d 7), .ref (d 8), .ref (d 9), .ref (d 10), .ref (d 11), .ref (d 12), .ref (d 13), .ref (d 14), .ref (d 15), .ref (d 16), .int (m_cd M)])), ((d 5), .inl (G.2.1 0, 4, .inl (m_f5 M))), ((d 11), .inl (G.2.1 2, 48, .inl (m_f11 M)))]) (w1' := [(ma, .inr (4, [.ref (d 0), .ref (d 1), .ref (d 2), .ref (d 3), .ref (d 4), .ref (d 5), .ref (d 6), .ref (d 7), .ref (d 8), .ref (d 9), .ref (d 10), .ref (d 11), .ref (d 12), .ref (d 13), .ref (d 14), .ref (d 15), .ref (d 16), .int (0:Int32)])), ((d 5), .inl (G.2.1 0, 4, .inl (m_f5 M))), ((d 11), .inl (G.2.1 2, 48, .inl (m_f11 M)))]) (M' := ((m_f0 M), (m_f1 M), (m_f2 M), (m_f3 M), (m_f4 M), (m_f5 M), (m_f6 M), (m_f7 M), (m_f8 M), (m_f9 M), (m_f10 M), (m_f11 M), (m_f12 M), (m_f13 M), (m_f14 M), (m_f15 M), (m_f16 M), (0:Int32))) ⟨hx, hb, hml, hown, hts⟩ (kX4_about1 l G ma (d 0) (d 1) (d 2) (d 3) (d 4) (d 5) (d 6) (d 7) (d 8) (d 9) (d 10) (d 11) (d 12) (d 13) (d 14) (d 15) (d 16) (m_cd M) (m_f5 M) (m_f11 M) i (v_n (V i)) M_hi4 M_hm M_hn) (cwV 2 hts gL_law_X4_about rfl rfl rfl (by decide +kernel) ⟨Nat.le_of_ble_eq_true rfl, Nat.le_of_ble_eq_true rfl⟩) hE hK hP hD hS hA hl.1 [0, 6, 12] (by decide) (by decide) rfl rfl rfl rfl rfl (Nat.le_of_ble_eq_true rfl) dL_law_1075 ⟨by omega, by omega⟩ (fun H locs hP hD hS => ?_)
  have hP : va_P G.1 vwCl (lawW G ba bw U V ma d ((m_f0 M), (m_f1 M), (m_f2 M), (m_f3 M), (m_f4 M), (m_f5 M), (m_f6 M), (m_f7 M), (m_f8 M), (m_f9 M), (m_f10 M), (m_f11 M), (m_f12 M), (m_f13 M), (m_f14 M), (m_f15 M), (m_f16 M), (0:Int32)) qo ox) H := hP
  have hD : va_D A (lawW G ba bw U V ma d ((m_f0 M), (m_f1 M), (m_f2 M), (m_f3 M), (m_f4 M), (m_f5 M), (m_f6 M), (m_f7 M), (m_f8 M), (m_f9 M), (m_f10 M), (m_f11 M), (m_f12 M), (m_f13 M), (m_f14 M), (m_f15 M), (m_f16 M), (0:Int32)) qo ox) := hD
  refine bi_eq (tgt := 1083) hx hb dL_law_1078 (by decide) (fun _ => ?_) (fun h9 => absurd hans h9)
  refine W.widen (k := cells + 1) (n := slots + 6) (by omega) (by omega) ?_
  exact kk H locs ls hP hD hS (lv_sub hl [0, 1, 2, 3, 4] rfl)
set_option maxHeartbeats 8000000 in
set_option maxRecDepth 100000 in
theorem cz_about2 {p : Program} {e : Env} {s : State} {m : MethodId} {below : List Frame} {meth : Method} {c : Code} {l : Launch} (hl9 : l.stackTraces = false) {b L : Nat} {xs : Nat → Int32} (hL : L ≤ 2560) (C0 : lw_At p s m meth c b L xs) {G : GT} {A : Nat → Prop} (hA : ∀ q : Nat, s.heap.size ≤ q → A q) (hbA : ¬ A b) (hE : Ev G A s s.heap) (hK : va_K G.1 vwCl (gT G) s) {a : Nat} (ha : a + 5 ≤ L) {ba bw ma qo : Nat} {U : Nat → Nat → Nat} {V : Nat → WV} {d : Nat → Nat} {M : MV} {ox : Nat → Int64} {cells slots : Nat} (hc : cells + 1 ≤ room_1.cells) (hsl : slots + 6 ≤ room_1.slots) {H : Heap} {locs : List Loc} {ls : Array Slot} (hP : va_P G.1 vwCl (lawW G ba bw U V ma d M qo ox) H) (hD : va_D A (lawW G ba bw U V ma d M qo ox)) (hS : va_S A s.heap H locs) (hl : lv_has ls 8 [(0, .ref b), (1, .ref ba), (2, .ref ma), (3, .ref qo), (4, .int (nI a))]) (i : Nat) (hv1 : xs (a + 1) = (nI i)) (hv2 : xs (a + 2) = (2:Int32)) (hi4 : i < 4) (L_hwf : (pf4 (U 0 0) (U 1 0) (U 2 0) (U 3 0)) i = some (U i 0)) (L_hn : (v_n (V i)) ≤ 12) (M_hm : (m_f5 M) i = nI (v_n (V i))) (M_hn : (v_n (V i)) ≤ 12) (hans : (fX3_about (v_tr (V i)) (v_rd (V i)) (v_n (V i)) (v_on (V i)) (v_li (V i)) (2:Int32)) = (fX4_about2 (m_f6 M) (m_f12 M) i (v_n (V i))))
    (kk : ∀ (H : Heap) (locs : List Loc) (ls : Array Slot), va_P G.1 vwCl (lawW G ba bw U V ma d ((m_f0 M), (m_f1 M), (m_f2 M), (m_f3 M), (m_f4 M), (m_f5 M), (m_f6 M), (m_f7 M), (m_f8 M), (m_f9 M), (m_f10 M), (m_f11 M), (m_f12 M), (m_f13 M), (m_f14 M), (m_f15 M), (m_f16 M), (0:Int32)) qo ox) H → va_D A (lawW G ba bw U V ma d ((m_f0 M), (m_f1 M), (m_f2 M), (m_f3 M), (m_f4 M), (m_f5 M), (m_f6 M), (m_f7 M), (m_f8 M), (m_f9 M), (m_f10 M), (m_f11 M), (m_f12 M), (m_f13 M), (m_f14 M), (m_f15 M), (m_f16 M), (0:Int32)) qo ox) → va_S A s.heap H locs → lv_has ls 8 [(0, .ref b), (1, .ref ba), (2, .ref ma), (3, .ref qo), (4, .int (nI a))] → W p l e room_1 s m #[Value.ref b] below meth c H locs (cells + 1) (slots + 6) (lw_Z below #[Value.ref b] s) (F0 m 1083 ls [])) : W p l e room_1 s m #[Value.ref b] below meth c H locs cells slots (lw_Z below #[Value.ref b] s) (F0 m 1046 ls []) := by
  obtain ⟨hx, hb, hr, hml, hown, hts, hX, hbl, hlocks, hgv⟩ := id C0
  have hts := fun w h => hts w (wsL_law_in w h)
  have hcR : room_1.cells = 601024 := rfl
  have hsR : room_1.slots = 7293034 := rfl
  have L_hi4 := hi4
  have M_hi4 := hi4
  refine lv_aload_n hx hb dL_law_1046 rfl (lv_at hl 1 rfl) ?_
  refine lv_aload_n hx hb dL_law_1047 rfl (lv_at hl 0 rfl) ?_
  refine lv_iload hx hb dL_law_1048 (lv_at hl 4 rfl) ?_
  refine lv_iconst (v := (1:Int32)) hx hb dL_law_1050 (by decide) ?_
  refine lv_iadd hx hb dL_law_1051 ?_
  refine ar_sldv (v := (nI i)) hx hb hX hbl hbA hS (a + 1) (nI_add a 1) hv1 (by omega) (by omega) dL_law_1052 ?_
  refine lv_aload_n hx hb dL_law_1053 rfl (lv_at hl 0 rfl) ?_
  refine lv_iload hx hb dL_law_1054 (lv_at hl 4 rfl) ?_
  refine lv_iconst (v := (2:Int32)) hx hb dL_law_1056 (by decide) ?_
  refine lv_iadd hx hb dL_law_1057 ?_
  refine ar_sldv (v := (2:Int32)) hx hb hX hbl hbA hS (a + 2) (nI_add a 2) hv2 (by omega) (by omega) dL_law_1058 ?_
  refine lc_v (As := [.int (nI i), .int (2:Int32)]) (rest := []) (w0' := [((U i 0), .inr (2, [.ref (G.2.2.1 i), .ref (U i 1), .ref (U i 5), .ref (U i 22), .ref (U i 23), .int (v_tr (V i)), .long (v_dr (V i)), .long (v_wt (V i)), .int (nI (v_rd (V i))), .long (v_gr (V i)), .long (v_le (V i))])), ((U i 1), .inr (0, [.ref (U i 2), .ref (U i 3), .ref (U i 4), .int (nI (v_n (V i)))])), ((U i 2), .inl (G.2.1 0, 12, .inl (v_ki (V i)))), ((U i 3), .inl (G.2.1 1, 12, .inr (.inl (v_kn (V i))))), ((U i 4), .inl (G.2.1 2, 12, .inl (v_on (V i)))), ((U i 23), .inl (G.2.1 2, 12, .inl (v_li (V i))))]) ⟨hx, hb, hml, hown, hts⟩ (kX3_about l G ba bw (pf4 (U 0 0) (U 1 0) (U 2 0) (U 3 0)) (U i 0) i (U i 1) (U i 5) (U i 22) (U i 23) (v_tr (V i)) (v_dr (V i)) (v_wt (V i)) (v_rd (V i)) (v_gr (V i)) (v_le (V i)) (U i 2) (U i 3) (U i 4) (v_n (V i)) (v_ki (V i)) (v_kn (V i)) (v_on (V i)) (v_li (V i)) (2:Int32) L_hi4 L_hwf L_hn) (cwV 2 hts gL_law_X3_about rfl rfl rfl (by decide +kernel) ⟨Nat.le_of_ble_eq_true rfl, Nat.le_of_ble_eq_true rfl⟩) hE hK hP hD hS hA hl.1 hi4 [0, 1, 2, 3, 4, 23] (nd4v hi4 (by decide)) (by decide) rfl rfl rfl rfl (Nat.le_of_ble_eq_true rfl) dL_law_1059 ⟨by omega, by omega⟩ (fun H locs hP hD hS => ?_)
  have hP : va_P G.1 vwCl (lawW G ba bw U V ma d M qo ox) H := hP
  have hD : va_D A (lawW G ba bw U V ma d M qo ox) := hD
  refine lv_aload_n hx hb dL_law_1062 rfl (lv_at hl 2 rfl) ?_
  refine lv_aload_n hx hb dL_law_1063 rfl (lv_at hl 0 rfl) ?_
  refine lv_iload hx hb dL_law_1064 (lv_at hl 4 rfl) ?_
  refine lv_iconst (v := (1:Int32)) hx hb dL_law_1066 (by decide) ?_
  refine lv_iadd hx hb dL_law_1067 ?_
  refine ar_sldv (v := (nI i)) hx hb hX hbl hbA hS (a + 1) (nI_add a 1) hv1 (by omega) (by omega) dL_law_1068 ?_
  refine lv_aload_n hx hb dL_law_1069 rfl (lv_at hl 0 rfl) ?_
  refine lv_iload hx hb dL_law_1070 (lv_at hl 4 rfl) ?_
  refine lv_iconst (v := (2:Int32)) hx hb dL_law_1072 (by decide) ?_
  refine lv_iadd hx hb dL_law_1073 ?_
  refine ar_sldv (v := (2:Int32)) hx hb hX hbl hbA hS (a + 2) (nI_add a 2) hv2 (by omega) (by omega) dL_law_1074 ?_
  refine lc_mi (As := [.int (nI i), .int (2:Int32)]) (rest := [.int (fX3_about (v_tr (V i)) (v_rd (V i)) (v_n (V i)) (v_on (V i)) (v_li (V i)) (2:Int32))]) (w0' := [(ma, .inr (4, [.ref (d 0), .ref (d 1), .ref (d 2), .ref (d 3), .ref (d 4), .ref (d 5), .ref (d 6), .ref (d 7), .ref (d 8), .ref (d 9), .ref (d 10), .ref (d 11), .ref (d 12), .ref (d 13), .ref (d 14), .ref (d 15), .ref (d 16), .int (m_cd M)])), ((d 5), .inl (G.2.1 0, 4, .inl (m_f5 M))), ((d 6), .inl (G.2.1 2, 4, .inl (m_f6 M))), ((d 12), .inl (G.2.1 2, 48, .inl (m_f12 M)))]) (w1' := [(ma, .inr (4, [.ref (d 0), .ref (d 1), .ref (d 2), .ref (d 3), .ref (d 4), .ref (d 5), .ref (d 6), .ref (d 7), .ref (d 8), .ref (d 9), .ref (d 10), .ref (d 11), .ref (d 12), .ref (d 13), .ref (d 14), .ref (d 15), .ref (d 16), .int (0:Int32)])), ((d 5), .inl (G.2.1 0, 4, .inl (m_f5 M))), ((d 6), .inl (G.2.1 2, 4, .inl (m_f6 M))), ((d 12), .inl (G.2.1 2, 48, .inl (m_f12 M)))]) (M' := ((m_f0 M), (m_f1 M), (m_f2 M), (m_f3 M), (m_f4 M), (m_f5 M), (m_f6 M), (m_f7 M), (m_f8 M), (m_f9 M), (m_f10 M), (m_f11 M), (m_f12 M), (m_f13 M), (m_f14 M), (m_f15 M), (m_f16 M), (0:Int32))) ⟨hx, hb, hml, hown, hts⟩ (kX4_about2 l G ma (d 0) (d 1) (d 2) (d 3) (d 4) (d 5) (d 6) (d 7) (d 8) (d 9) (d 10) (d 11) (d 12) (d 13) (d 14) (d 15) (d 16) (m_cd M) (m_f5 M) (m_f6 M) (m_f12 M) i (v_n (V i)) M_hi4 M_hm M_hn) (cwV 2 hts gL_law_X4_about rfl rfl rfl (by decide +kernel) ⟨Nat.le_of_ble_eq_true rfl, Nat.le_of_ble_eq_true rfl⟩) hE hK hP hD hS hA hl.1 [0, 6, 7, 13] (by decide) (by decide) rfl rfl rfl rfl rfl (Nat.le_of_ble_eq_true rfl) dL_law_1075 ⟨by omega, by omega⟩ (fun H locs hP hD hS => ?_)
  have hP : va_P G.1 vwCl (lawW G ba bw U V ma d ((m_f0 M), (m_f1 M), (m_f2 M), (m_f3 M), (m_f4 M), (m_f5 M), (m_f6 M), (m_f7 M), (m_f8 M), (m_f9 M), (m_f10 M), (m_f11 M), (m_f12 M), (m_f13 M), (m_f14 M), (m_f15 M), (m_f16 M), (0:Int32)) qo ox) H := hP
  have hD : va_D A (lawW G ba bw U V ma d ((m_f0 M), (m_f1 M), (m_f2 M), (m_f3 M), (m_f4 M), (m_f5 M), (m_f6 M), (m_f7 M), (m_f8 M), (m_f9 M), (m_f10 M), (m_f11 M), (m_f12 M), (m_f13 M), (m_f14 M), (m_f15 M), (m_f16 M), (0:Int32)) qo ox) := hD
  refine bi_eq (tgt := 1083) hx hb dL_law_1078 (by decide) (fun _ => ?_) (fun h9 => absurd hans h9)
  refine W.widen (k := cells + 1) (n := slots + 6) (by omega) (by omega) ?_
  exact kk H locs ls hP hD hS (lv_sub hl [0, 1, 2, 3, 4] rfl)
set_option maxHeartbeats 8000000 in
set_option maxRecDepth 100000 in
theorem cz_about3 {p : Program} {e : Env} {s : State} {m : MethodId} {below : List Frame} {meth : Method} {c : Code} {l : Launch} (hl9 : l.stackTraces = false) {b L : Nat} {xs : Nat → Int32} (hL : L ≤ 2560) (C0 : lw_At p s m meth c b L xs) {G : GT} {A : Nat → Prop} (hA : ∀ q : Nat, s.heap.size ≤ q → A q) (hbA : ¬ A b) (hE : Ev G A s s.heap) (hK : va_K G.1 vwCl (gT G) s) {a : Nat} (ha : a + 5 ≤ L) {ba bw ma qo : Nat} {U : Nat → Nat → Nat} {V : Nat → WV} {d : Nat → Nat} {M : MV} {ox : Nat → Int64} {cells slots : Nat} (hc : cells + 1 ≤ room_1.cells) (hsl : slots + 6 ≤ room_1.slots) {H : Heap} {locs : List Loc} {ls : Array Slot} (hP : va_P G.1 vwCl (lawW G ba bw U V ma d M qo ox) H) (hD : va_D A (lawW G ba bw U V ma d M qo ox)) (hS : va_S A s.heap H locs) (hl : lv_has ls 8 [(0, .ref b), (1, .ref ba), (2, .ref ma), (3, .ref qo), (4, .int (nI a))]) (i : Nat) (hv1 : xs (a + 1) = (nI i)) (hv2 : xs (a + 2) = (3:Int32)) (hi4 : i < 4) (L_hwf : (pf4 (U 0 0) (U 1 0) (U 2 0) (U 3 0)) i = some (U i 0)) (L_hn : (v_n (V i)) ≤ 12) (hans : (fX3_about (v_tr (V i)) (v_rd (V i)) (v_n (V i)) (v_on (V i)) (v_li (V i)) (3:Int32)) = ((m_f4 M) i))
    (kk : ∀ (H : Heap) (locs : List Loc) (ls : Array Slot), va_P G.1 vwCl (lawW G ba bw U V ma d ((m_f0 M), (m_f1 M), (m_f2 M), (m_f3 M), (m_f4 M), (m_f5 M), (m_f6 M), (m_f7 M), (m_f8 M), (m_f9 M), (m_f10 M), (m_f11 M), (m_f12 M), (m_f13 M), (m_f14 M), (m_f15 M), (m_f16 M), (0:Int32)) qo ox) H → va_D A (lawW G ba bw U V ma d ((m_f0 M), (m_f1 M), (m_f2 M), (m_f3 M), (m_f4 M), (m_f5 M), (m_f6 M), (m_f7 M), (m_f8 M), (m_f9 M), (m_f10 M), (m_f11 M), (m_f12 M), (m_f13 M), (m_f14 M), (m_f15 M), (m_f16 M), (0:Int32)) qo ox) → va_S A s.heap H locs → lv_has ls 8 [(0, .ref b), (1, .ref ba), (2, .ref ma), (3, .ref qo), (4, .int (nI a))] → W p l e room_1 s m #[Value.ref b] below meth c H locs (cells + 1) (slots + 6) (lw_Z below #[Value.ref b] s) (F0 m 1083 ls [])) : W p l e room_1 s m #[Value.ref b] below meth c H locs cells slots (lw_Z below #[Value.ref b] s) (F0 m 1046 ls []) := by
  obtain ⟨hx, hb, hr, hml, hown, hts, hX, hbl, hlocks, hgv⟩ := id C0
  have hts := fun w h => hts w (wsL_law_in w h)
  have hcR : room_1.cells = 601024 := rfl
  have hsR : room_1.slots = 7293034 := rfl
  have L_hi4 := hi4
  have M_hi4 := hi4
  refine lv_aload_n hx hb dL_law_1046 rfl (lv_at hl 1 rfl) ?_
  refine lv_aload_n hx hb dL_law_1047 rfl (lv_at hl 0 rfl) ?_
  refine lv_iload hx hb dL_law_1048 (lv_at hl 4 rfl) ?_
  refine lv_iconst (v := (1:Int32)) hx hb dL_law_1050 (by decide) ?_
  refine lv_iadd hx hb dL_law_1051 ?_
  refine ar_sldv (v := (nI i)) hx hb hX hbl hbA hS (a + 1) (nI_add a 1) hv1 (by omega) (by omega) dL_law_1052 ?_
  refine lv_aload_n hx hb dL_law_1053 rfl (lv_at hl 0 rfl) ?_
  refine lv_iload hx hb dL_law_1054 (lv_at hl 4 rfl) ?_
  refine lv_iconst (v := (2:Int32)) hx hb dL_law_1056 (by decide) ?_
  refine lv_iadd hx hb dL_law_1057 ?_
  refine ar_sldv (v := (3:Int32)) hx hb hX hbl hbA hS (a + 2) (nI_add a 2) hv2 (by omega) (by omega) dL_law_1058 ?_
  refine lc_v (As := [.int (nI i), .int (3:Int32)]) (rest := []) (w0' := [((U i 0), .inr (2, [.ref (G.2.2.1 i), .ref (U i 1), .ref (U i 5), .ref (U i 22), .ref (U i 23), .int (v_tr (V i)), .long (v_dr (V i)), .long (v_wt (V i)), .int (nI (v_rd (V i))), .long (v_gr (V i)), .long (v_le (V i))])), ((U i 1), .inr (0, [.ref (U i 2), .ref (U i 3), .ref (U i 4), .int (nI (v_n (V i)))])), ((U i 2), .inl (G.2.1 0, 12, .inl (v_ki (V i)))), ((U i 3), .inl (G.2.1 1, 12, .inr (.inl (v_kn (V i))))), ((U i 4), .inl (G.2.1 2, 12, .inl (v_on (V i)))), ((U i 23), .inl (G.2.1 2, 12, .inl (v_li (V i))))]) ⟨hx, hb, hml, hown, hts⟩ (kX3_about l G ba bw (pf4 (U 0 0) (U 1 0) (U 2 0) (U 3 0)) (U i 0) i (U i 1) (U i 5) (U i 22) (U i 23) (v_tr (V i)) (v_dr (V i)) (v_wt (V i)) (v_rd (V i)) (v_gr (V i)) (v_le (V i)) (U i 2) (U i 3) (U i 4) (v_n (V i)) (v_ki (V i)) (v_kn (V i)) (v_on (V i)) (v_li (V i)) (3:Int32) L_hi4 L_hwf L_hn) (cwV 2 hts gL_law_X3_about rfl rfl rfl (by decide +kernel) ⟨Nat.le_of_ble_eq_true rfl, Nat.le_of_ble_eq_true rfl⟩) hE hK hP hD hS hA hl.1 hi4 [0, 1, 2, 3, 4, 23] (nd4v hi4 (by decide)) (by decide) rfl rfl rfl rfl (Nat.le_of_ble_eq_true rfl) dL_law_1059 ⟨by omega, by omega⟩ (fun H locs hP hD hS => ?_)
  have hP : va_P G.1 vwCl (lawW G ba bw U V ma d M qo ox) H := hP
  have hD : va_D A (lawW G ba bw U V ma d M qo ox) := hD
  refine lv_aload_n hx hb dL_law_1062 rfl (lv_at hl 2 rfl) ?_
  refine lv_aload_n hx hb dL_law_1063 rfl (lv_at hl 0 rfl) ?_
  refine lv_iload hx hb dL_law_1064 (lv_at hl 4 rfl) ?_
  refine lv_iconst (v := (1:Int32)) hx hb dL_law_1066 (by decide) ?_
  refine lv_iadd hx hb dL_law_1067 ?_
  refine ar_sldv (v := (nI i)) hx hb hX hbl hbA hS (a + 1) (nI_add a 1) hv1 (by omega) (by omega) dL_law_1068 ?_
  refine lv_aload_n hx hb dL_law_1069 rfl (lv_at hl 0 rfl) ?_
  refine lv_iload hx hb dL_law_1070 (lv_at hl 4 rfl) ?_
  refine lv_iconst (v := (2:Int32)) hx hb dL_law_1072 (by decide) ?_
  refine lv_iadd hx hb dL_law_1073 ?_
  refine ar_sldv (v := (3:Int32)) hx hb hX hbl hbA hS (a + 2) (nI_add a 2) hv2 (by omega) (by omega) dL_law_1074 ?_
  refine lc_mi (As := [.int (nI i), .int (3:Int32)]) (rest := [.int (fX3_about (v_tr (V i)) (v_rd (V i)) (v_n (V i)) (v_on (V i)) (v_li (V i)) (3:Int32))]) (w0' := [(ma, .inr (4, [.ref (d 0), .ref (d 1), .ref (d 2), .ref (d 3), .ref (d 4), .ref (d 5), .ref (d 6), .ref (d 7), .ref (d 8), .ref (d 9), .ref (d 10), .ref (d 11), .ref (d 12), .ref (d 13), .ref (d 14), .ref (d 15), .ref (d 16), .int (m_cd M)])), ((d 4), .inl (G.2.1 0, 4, .inl (m_f4 M)))]) (w1' := [(ma, .inr (4, [.ref (d 0), .ref (d 1), .ref (d 2), .ref (d 3), .ref (d 4), .ref (d 5), .ref (d 6), .ref (d 7), .ref (d 8), .ref (d 9), .ref (d 10), .ref (d 11), .ref (d 12), .ref (d 13), .ref (d 14), .ref (d 15), .ref (d 16), .int (0:Int32)])), ((d 4), .inl (G.2.1 0, 4, .inl (m_f4 M)))]) (M' := ((m_f0 M), (m_f1 M), (m_f2 M), (m_f3 M), (m_f4 M), (m_f5 M), (m_f6 M), (m_f7 M), (m_f8 M), (m_f9 M), (m_f10 M), (m_f11 M), (m_f12 M), (m_f13 M), (m_f14 M), (m_f15 M), (m_f16 M), (0:Int32))) ⟨hx, hb, hml, hown, hts⟩ (kX4_about3 l G ma (d 0) (d 1) (d 2) (d 3) (d 4) (d 5) (d 6) (d 7) (d 8) (d 9) (d 10) (d 11) (d 12) (d 13) (d 14) (d 15) (d 16) (m_cd M) (m_f4 M) i M_hi4) (cwV 2 hts gL_law_X4_about rfl rfl rfl (by decide +kernel) ⟨Nat.le_of_ble_eq_true rfl, Nat.le_of_ble_eq_true rfl⟩) hE hK hP hD hS hA hl.1 [0, 5] (by decide) (by decide) rfl rfl rfl rfl rfl (Nat.le_of_ble_eq_true rfl) dL_law_1075 ⟨by omega, by omega⟩ (fun H locs hP hD hS => ?_)
  have hP : va_P G.1 vwCl (lawW G ba bw U V ma d ((m_f0 M), (m_f1 M), (m_f2 M), (m_f3 M), (m_f4 M), (m_f5 M), (m_f6 M), (m_f7 M), (m_f8 M), (m_f9 M), (m_f10 M), (m_f11 M), (m_f12 M), (m_f13 M), (m_f14 M), (m_f15 M), (m_f16 M), (0:Int32)) qo ox) H := hP
  have hD : va_D A (lawW G ba bw U V ma d ((m_f0 M), (m_f1 M), (m_f2 M), (m_f3 M), (m_f4 M), (m_f5 M), (m_f6 M), (m_f7 M), (m_f8 M), (m_f9 M), (m_f10 M), (m_f11 M), (m_f12 M), (m_f13 M), (m_f14 M), (m_f15 M), (m_f16 M), (0:Int32)) qo ox) := hD
  refine bi_eq (tgt := 1083) hx hb dL_law_1078 (by decide) (fun _ => ?_) (fun h9 => absurd hans h9)
  refine W.widen (k := cells + 1) (n := slots + 6) (by omega) (by omega) ?_
  exact kk H locs ls hP hD hS (lv_sub hl [0, 1, 2, 3, 4] rfl)
set_option maxHeartbeats 8000000 in
set_option maxRecDepth 100000 in
theorem cz_aboutNN {p : Program} {e : Env} {s : State} {m : MethodId} {below : List Frame} {meth : Method} {c : Code} {l : Launch} (hl9 : l.stackTraces = false) {b L : Nat} {xs : Nat → Int32} (hL : L ≤ 2560) (C0 : lw_At p s m meth c b L xs) {G : GT} {A : Nat → Prop} (hA : ∀ q : Nat, s.heap.size ≤ q → A q) (hbA : ¬ A b) (hE : Ev G A s s.heap) (hK : va_K G.1 vwCl (gT G) s) {a : Nat} (ha : a + 5 ≤ L) {ba bw ma qo : Nat} {U : Nat → Nat → Nat} {V : Nat → WV} {d : Nat → Nat} {M : MV} {ox : Nat → Int64} {cells slots : Nat} (hc : cells + 1 ≤ room_1.cells) (hsl : slots + 6 ≤ room_1.slots) {H : Heap} {locs : List Loc} {ls : Array Slot} (hP : va_P G.1 vwCl (lawW G ba bw U V ma d M qo ox) H) (hD : va_D A (lawW G ba bw U V ma d M qo ox)) (hS : va_S A s.heap H locs) (hl : lv_has ls 8 [(0, .ref b), (1, .ref ba), (2, .ref ma), (3, .ref qo), (4, .int (nI a))]) (wi : Int32) (wt9 : Int32) (hv1 : xs (a + 1) = wi) (hv2 : xs (a + 2) = wt9) (L_hwi : fX3_isWire wi = 0) (M_hwi : fX4_isWire wi = 0) (hans : (-1:Int32) = (-1:Int32))
    (kk : ∀ (H : Heap) (locs : List Loc) (ls : Array Slot), va_P G.1 vwCl (lawW G ba bw U V ma d ((m_f0 M), (m_f1 M), (m_f2 M), (m_f3 M), (m_f4 M), (m_f5 M), (m_f6 M), (m_f7 M), (m_f8 M), (m_f9 M), (m_f10 M), (m_f11 M), (m_f12 M), (m_f13 M), (m_f14 M), (m_f15 M), (m_f16 M), (0:Int32)) qo ox) H → va_D A (lawW G ba bw U V ma d ((m_f0 M), (m_f1 M), (m_f2 M), (m_f3 M), (m_f4 M), (m_f5 M), (m_f6 M), (m_f7 M), (m_f8 M), (m_f9 M), (m_f10 M), (m_f11 M), (m_f12 M), (m_f13 M), (m_f14 M), (m_f15 M), (m_f16 M), (0:Int32)) qo ox) → va_S A s.heap H locs → lv_has ls 8 [(0, .ref b), (1, .ref ba), (2, .ref ma), (3, .ref qo), (4, .int (nI a))] → W p l e room_1 s m #[Value.ref b] below meth c H locs (cells + 1) (slots + 6) (lw_Z below #[Value.ref b] s) (F0 m 1083 ls [])) : W p l e room_1 s m #[Value.ref b] below meth c H locs cells slots (lw_Z below #[Value.ref b] s) (F0 m 1046 ls []) := by
  obtain ⟨hx, hb, hr, hml, hown, hts, hX, hbl, hlocks, hgv⟩ := id C0
  have hts := fun w h => hts w (wsL_law_in w h)
  have hcR : room_1.cells = 601024 := rfl
  have hsR : room_1.slots = 7293034 := rfl
  refine lv_aload_n hx hb dL_law_1046 rfl (lv_at hl 1 rfl) ?_
  refine lv_aload_n hx hb dL_law_1047 rfl (lv_at hl 0 rfl) ?_
  refine lv_iload hx hb dL_law_1048 (lv_at hl 4 rfl) ?_
  refine lv_iconst (v := (1:Int32)) hx hb dL_law_1050 (by decide) ?_
  refine lv_iadd hx hb dL_law_1051 ?_
  refine ar_sldv (v := wi) hx hb hX hbl hbA hS (a + 1) (nI_add a 1) hv1 (by omega) (by omega) dL_law_1052 ?_
  refine lv_aload_n hx hb dL_law_1053 rfl (lv_at hl 0 rfl) ?_
  refine lv_iload hx hb dL_law_1054 (lv_at hl 4 rfl) ?_
  refine lv_iconst (v := (2:Int32)) hx hb dL_law_1056 (by decide) ?_
  refine lv_iadd hx hb dL_law_1057 ?_
  refine ar_sldv (v := wt9) hx hb hX hbl hbA hS (a + 2) (nI_add a 2) hv2 (by omega) (by omega) dL_law_1058 ?_
  refine lc_v0 (As := [.int wi, .int wt9]) (rest := []) ⟨hx, hb, hml, hown, hts⟩ (kX3_aboutN l G ba bw (pf4 (U 0 0) (U 1 0) (U 2 0) (U 3 0)) wi wt9 L_hwi) (cwV 2 hts gL_law_X3_about rfl rfl rfl (by decide +kernel) ⟨Nat.le_of_ble_eq_true rfl, Nat.le_of_ble_eq_true rfl⟩) hE hK hP hD hS hA hl.1 rfl rfl (Nat.le_of_ble_eq_true rfl) dL_law_1059 ⟨by omega, by omega⟩ (fun H locs hP hD hS => ?_)
  have hP : va_P G.1 vwCl (lawW G ba bw U V ma d M qo ox) H := hP
  have hD : va_D A (lawW G ba bw U V ma d M qo ox) := hD
  refine lv_aload_n hx hb dL_law_1062 rfl (lv_at hl 2 rfl) ?_
  refine lv_aload_n hx hb dL_law_1063 rfl (lv_at hl 0 rfl) ?_
  refine lv_iload hx hb dL_law_1064 (lv_at hl 4 rfl) ?_
  refine lv_iconst (v := (1:Int32)) hx hb dL_law_1066 (by decide) ?_
  refine lv_iadd hx hb dL_law_1067 ?_
  refine ar_sldv (v := wi) hx hb hX hbl hbA hS (a + 1) (nI_add a 1) hv1 (by omega) (by omega) dL_law_1068 ?_
  refine lv_aload_n hx hb dL_law_1069 rfl (lv_at hl 0 rfl) ?_
  refine lv_iload hx hb dL_law_1070 (lv_at hl 4 rfl) ?_
  refine lv_iconst (v := (2:Int32)) hx hb dL_law_1072 (by decide) ?_
  refine lv_iadd hx hb dL_law_1073 ?_
  refine ar_sldv (v := wt9) hx hb hX hbl hbA hS (a + 2) (nI_add a 2) hv2 (by omega) (by omega) dL_law_1074 ?_
  refine lc_mi (As := [.int wi, .int wt9]) (rest := [.int (-1:Int32)]) (w0' := [(ma, .inr (4, [.ref (d 0), .ref (d 1), .ref (d 2), .ref (d 3), .ref (d 4), .ref (d 5), .ref (d 6), .ref (d 7), .ref (d 8), .ref (d 9), .ref (d 10), .ref (d 11), .ref (d 12), .ref (d 13), .ref (d 14), .ref (d 15), .ref (d 16), .int (m_cd M)]))]) (w1' := [(ma, .inr (4, [.ref (d 0), .ref (d 1), .ref (d 2), .ref (d 3), .ref (d 4), .ref (d 5), .ref (d 6), .ref (d 7), .ref (d 8), .ref (d 9), .ref (d 10), .ref (d 11), .ref (d 12), .ref (d 13), .ref (d 14), .ref (d 15), .ref (d 16), .int (0:Int32)]))]) (M' := ((m_f0 M), (m_f1 M), (m_f2 M), (m_f3 M), (m_f4 M), (m_f5 M), (m_f6 M), (m_f7 M), (m_f8 M), (m_f9 M), (m_f10 M), (m_f11 M), (m_f12 M), (m_f13 M), (m_f14 M), (m_f15 M), (m_f16 M), (0:Int32))) ⟨hx, hb, hml, hown, hts⟩ (kX4_aboutN l G ma (d 0) (d 1) (d 2) (d 3) (d 4) (d 5) (d 6) (d 7) (d 8) (d 9) (d 10) (d 11) (d 12) (d 13) (d 14) (d 15) (d 16) (m_cd M) wi wt9 M_hwi) (cwV 2 hts gL_law_X4_about rfl rfl rfl (by decide +kernel) ⟨Nat.le_of_ble_eq_true rfl, Nat.le_of_ble_eq_true rfl⟩) hE hK hP hD hS hA hl.1 [0] (by decide) (by decide) rfl rfl rfl rfl rfl (Nat.le_of_ble_eq_true rfl) dL_law_1075 ⟨by omega, by omega⟩ (fun H locs hP hD hS => ?_)
  have hP : va_P G.1 vwCl (lawW G ba bw U V ma d ((m_f0 M), (m_f1 M), (m_f2 M), (m_f3 M), (m_f4 M), (m_f5 M), (m_f6 M), (m_f7 M), (m_f8 M), (m_f9 M), (m_f10 M), (m_f11 M), (m_f12 M), (m_f13 M), (m_f14 M), (m_f15 M), (m_f16 M), (0:Int32)) qo ox) H := hP
  have hD : va_D A (lawW G ba bw U V ma d ((m_f0 M), (m_f1 M), (m_f2 M), (m_f3 M), (m_f4 M), (m_f5 M), (m_f6 M), (m_f7 M), (m_f8 M), (m_f9 M), (m_f10 M), (m_f11 M), (m_f12 M), (m_f13 M), (m_f14 M), (m_f15 M), (m_f16 M), (0:Int32)) qo ox) := hD
  refine bi_eq (tgt := 1083) hx hb dL_law_1078 (by decide) (fun _ => ?_) (fun h9 => absurd hans h9)
  refine W.widen (k := cells + 1) (n := slots + 6) (by omega) (by omega) ?_
  exact kk H locs ls hP hD hS (lv_sub hl [0, 1, 2, 3, 4] rfl)
set_option maxHeartbeats 8000000 in
set_option maxRecDepth 100000 in
theorem cz_aboutM1 {p : Program} {e : Env} {s : State} {m : MethodId} {below : List Frame} {meth : Method} {c : Code} {l : Launch} (hl9 : l.stackTraces = false) {b L : Nat} {xs : Nat → Int32} (hL : L ≤ 2560) (C0 : lw_At p s m meth c b L xs) {G : GT} {A : Nat → Prop} (hA : ∀ q : Nat, s.heap.size ≤ q → A q) (hbA : ¬ A b) (hE : Ev G A s s.heap) (hK : va_K G.1 vwCl (gT G) s) {a : Nat} (ha : a + 5 ≤ L) {ba bw ma qo : Nat} {U : Nat → Nat → Nat} {V : Nat → WV} {d : Nat → Nat} {M : MV} {ox : Nat → Int64} {cells slots : Nat} (hc : cells + 1 ≤ room_1.cells) (hsl : slots + 6 ≤ room_1.slots) {H : Heap} {locs : List Loc} {ls : Array Slot} (hP : va_P G.1 vwCl (lawW G ba bw U V ma d M qo ox) H) (hD : va_D A (lawW G ba bw U V ma d M qo ox)) (hS : va_S A s.heap H locs) (hl : lv_has ls 8 [(0, .ref b), (1, .ref ba), (2, .ref ma), (3, .ref qo), (4, .int (nI a))]) (i : Nat) (wt9 : Int32) (hv1 : xs (a + 1) = (nI i)) (hv2 : xs (a + 2) = wt9) (hi4 : i < 4) (L_hwf : (pf4 (U 0 0) (U 1 0) (U 2 0) (U 3 0)) i = some (U i 0)) (L_hn : (v_n (V i)) ≤ 12) (M_hq : wt9 < 0) (hans : (fX3_about (v_tr (V i)) (v_rd (V i)) (v_n (V i)) (v_on (V i)) (v_li (V i)) wt9) = (-1:Int32))
    (kk : ∀ (H : Heap) (locs : List Loc) (ls : Array Slot), va_P G.1 vwCl (lawW G ba bw U V ma d ((m_f0 M), (m_f1 M), (m_f2 M), (m_f3 M), (m_f4 M), (m_f5 M), (m_f6 M), (m_f7 M), (m_f8 M), (m_f9 M), (m_f10 M), (m_f11 M), (m_f12 M), (m_f13 M), (m_f14 M), (m_f15 M), (m_f16 M), (0:Int32)) qo ox) H → va_D A (lawW G ba bw U V ma d ((m_f0 M), (m_f1 M), (m_f2 M), (m_f3 M), (m_f4 M), (m_f5 M), (m_f6 M), (m_f7 M), (m_f8 M), (m_f9 M), (m_f10 M), (m_f11 M), (m_f12 M), (m_f13 M), (m_f14 M), (m_f15 M), (m_f16 M), (0:Int32)) qo ox) → va_S A s.heap H locs → lv_has ls 8 [(0, .ref b), (1, .ref ba), (2, .ref ma), (3, .ref qo), (4, .int (nI a))] → W p l e room_1 s m #[Value.ref b] below meth c H locs (cells + 1) (slots + 6) (lw_Z below #[Value.ref b] s) (F0 m 1083 ls [])) : W p l e room_1 s m #[Value.ref b] below meth c H locs cells slots (lw_Z below #[Value.ref b] s) (F0 m 1046 ls []) := by
  obtain ⟨hx, hb, hr, hml, hown, hts, hX, hbl, hlocks, hgv⟩ := id C0
  have hts := fun w h => hts w (wsL_law_in w h)
  have hcR : room_1.cells = 601024 := rfl
  have hsR : room_1.slots = 7293034 := rfl
  have L_hi4 := hi4
  have M_hi4 := hi4
  refine lv_aload_n hx hb dL_law_1046 rfl (lv_at hl 1 rfl) ?_
  refine lv_aload_n hx hb dL_law_1047 rfl (lv_at hl 0 rfl) ?_
  refine lv_iload hx hb dL_law_1048 (lv_at hl 4 rfl) ?_
  refine lv_iconst (v := (1:Int32)) hx hb dL_law_1050 (by decide) ?_
  refine lv_iadd hx hb dL_law_1051 ?_
  refine ar_sldv (v := (nI i)) hx hb hX hbl hbA hS (a + 1) (nI_add a 1) hv1 (by omega) (by omega) dL_law_1052 ?_
  refine lv_aload_n hx hb dL_law_1053 rfl (lv_at hl 0 rfl) ?_
  refine lv_iload hx hb dL_law_1054 (lv_at hl 4 rfl) ?_
  refine lv_iconst (v := (2:Int32)) hx hb dL_law_1056 (by decide) ?_
  refine lv_iadd hx hb dL_law_1057 ?_
  refine ar_sldv (v := wt9) hx hb hX hbl hbA hS (a + 2) (nI_add a 2) hv2 (by omega) (by omega) dL_law_1058 ?_
  refine lc_v (As := [.int (nI i), .int wt9]) (rest := []) (w0' := [((U i 0), .inr (2, [.ref (G.2.2.1 i), .ref (U i 1), .ref (U i 5), .ref (U i 22), .ref (U i 23), .int (v_tr (V i)), .long (v_dr (V i)), .long (v_wt (V i)), .int (nI (v_rd (V i))), .long (v_gr (V i)), .long (v_le (V i))])), ((U i 1), .inr (0, [.ref (U i 2), .ref (U i 3), .ref (U i 4), .int (nI (v_n (V i)))])), ((U i 2), .inl (G.2.1 0, 12, .inl (v_ki (V i)))), ((U i 3), .inl (G.2.1 1, 12, .inr (.inl (v_kn (V i))))), ((U i 4), .inl (G.2.1 2, 12, .inl (v_on (V i)))), ((U i 23), .inl (G.2.1 2, 12, .inl (v_li (V i))))]) ⟨hx, hb, hml, hown, hts⟩ (kX3_about l G ba bw (pf4 (U 0 0) (U 1 0) (U 2 0) (U 3 0)) (U i 0) i (U i 1) (U i 5) (U i 22) (U i 23) (v_tr (V i)) (v_dr (V i)) (v_wt (V i)) (v_rd (V i)) (v_gr (V i)) (v_le (V i)) (U i 2) (U i 3) (U i 4) (v_n (V i)) (v_ki (V i)) (v_kn (V i)) (v_on (V i)) (v_li (V i)) wt9 L_hi4 L_hwf L_hn) (cwV 2 hts gL_law_X3_about rfl rfl rfl (by decide +kernel) ⟨Nat.le_of_ble_eq_true rfl, Nat.le_of_ble_eq_true rfl⟩) hE hK hP hD hS hA hl.1 hi4 [0, 1, 2, 3, 4, 23] (nd4v hi4 (by decide)) (by decide) rfl rfl rfl rfl (Nat.le_of_ble_eq_true rfl) dL_law_1059 ⟨by omega, by omega⟩ (fun H locs hP hD hS => ?_)
  have hP : va_P G.1 vwCl (lawW G ba bw U V ma d M qo ox) H := hP
  have hD : va_D A (lawW G ba bw U V ma d M qo ox) := hD
  refine lv_aload_n hx hb dL_law_1062 rfl (lv_at hl 2 rfl) ?_
  refine lv_aload_n hx hb dL_law_1063 rfl (lv_at hl 0 rfl) ?_
  refine lv_iload hx hb dL_law_1064 (lv_at hl 4 rfl) ?_
  refine lv_iconst (v := (1:Int32)) hx hb dL_law_1066 (by decide) ?_
  refine lv_iadd hx hb dL_law_1067 ?_
  refine ar_sldv (v := (nI i)) hx hb hX hbl hbA hS (a + 1) (nI_add a 1) hv1 (by omega) (by omega) dL_law_1068 ?_
  refine lv_aload_n hx hb dL_law_1069 rfl (lv_at hl 0 rfl) ?_
  refine lv_iload hx hb dL_law_1070 (lv_at hl 4 rfl) ?_
  refine lv_iconst (v := (2:Int32)) hx hb dL_law_1072 (by decide) ?_
  refine lv_iadd hx hb dL_law_1073 ?_
  refine ar_sldv (v := wt9) hx hb hX hbl hbA hS (a + 2) (nI_add a 2) hv2 (by omega) (by omega) dL_law_1074 ?_
  refine lc_mi (As := [.int (nI i), .int wt9]) (rest := [.int (fX3_about (v_tr (V i)) (v_rd (V i)) (v_n (V i)) (v_on (V i)) (v_li (V i)) wt9)]) (w0' := [(ma, .inr (4, [.ref (d 0), .ref (d 1), .ref (d 2), .ref (d 3), .ref (d 4), .ref (d 5), .ref (d 6), .ref (d 7), .ref (d 8), .ref (d 9), .ref (d 10), .ref (d 11), .ref (d 12), .ref (d 13), .ref (d 14), .ref (d 15), .ref (d 16), .int (m_cd M)]))]) (w1' := [(ma, .inr (4, [.ref (d 0), .ref (d 1), .ref (d 2), .ref (d 3), .ref (d 4), .ref (d 5), .ref (d 6), .ref (d 7), .ref (d 8), .ref (d 9), .ref (d 10), .ref (d 11), .ref (d 12), .ref (d 13), .ref (d 14), .ref (d 15), .ref (d 16), .int (0:Int32)]))]) (M' := ((m_f0 M), (m_f1 M), (m_f2 M), (m_f3 M), (m_f4 M), (m_f5 M), (m_f6 M), (m_f7 M), (m_f8 M), (m_f9 M), (m_f10 M), (m_f11 M), (m_f12 M), (m_f13 M), (m_f14 M), (m_f15 M), (m_f16 M), (0:Int32))) ⟨hx, hb, hml, hown, hts⟩ (kX4_aboutM1 l G ma (d 0) (d 1) (d 2) (d 3) (d 4) (d 5) (d 6) (d 7) (d 8) (d 9) (d 10) (d 11) (d 12) (d 13) (d 14) (d 15) (d 16) (m_cd M) i wt9 M_hi4 M_hq) (cwV 2 hts gL_law_X4_about rfl rfl rfl (by decide +kernel) ⟨Nat.le_of_ble_eq_true rfl, Nat.le_of_ble_eq_true rfl⟩) hE hK hP hD hS hA hl.1 [0] (by decide) (by decide) rfl rfl rfl rfl rfl (Nat.le_of_ble_eq_true rfl) dL_law_1075 ⟨by omega, by omega⟩ (fun H locs hP hD hS => ?_)
  have hP : va_P G.1 vwCl (lawW G ba bw U V ma d ((m_f0 M), (m_f1 M), (m_f2 M), (m_f3 M), (m_f4 M), (m_f5 M), (m_f6 M), (m_f7 M), (m_f8 M), (m_f9 M), (m_f10 M), (m_f11 M), (m_f12 M), (m_f13 M), (m_f14 M), (m_f15 M), (m_f16 M), (0:Int32)) qo ox) H := hP
  have hD : va_D A (lawW G ba bw U V ma d ((m_f0 M), (m_f1 M), (m_f2 M), (m_f3 M), (m_f4 M), (m_f5 M), (m_f6 M), (m_f7 M), (m_f8 M), (m_f9 M), (m_f10 M), (m_f11 M), (m_f12 M), (m_f13 M), (m_f14 M), (m_f15 M), (m_f16 M), (0:Int32)) qo ox) := hD
  refine bi_eq (tgt := 1083) hx hb dL_law_1078 (by decide) (fun _ => ?_) (fun h9 => absurd hans h9)
  refine W.widen (k := cells + 1) (n := slots + 6) (by omega) (by omega) ?_
  exact kk H locs ls hP hD hS (lv_sub hl [0, 1, 2, 3, 4] rfl)
set_option maxHeartbeats 8000000 in
set_option maxRecDepth 100000 in
theorem cz_aboutM2 {p : Program} {e : Env} {s : State} {m : MethodId} {below : List Frame} {meth : Method} {c : Code} {l : Launch} (hl9 : l.stackTraces = false) {b L : Nat} {xs : Nat → Int32} (hL : L ≤ 2560) (C0 : lw_At p s m meth c b L xs) {G : GT} {A : Nat → Prop} (hA : ∀ q : Nat, s.heap.size ≤ q → A q) (hbA : ¬ A b) (hE : Ev G A s s.heap) (hK : va_K G.1 vwCl (gT G) s) {a : Nat} (ha : a + 5 ≤ L) {ba bw ma qo : Nat} {U : Nat → Nat → Nat} {V : Nat → WV} {d : Nat → Nat} {M : MV} {ox : Nat → Int64} {cells slots : Nat} (hc : cells + 1 ≤ room_1.cells) (hsl : slots + 6 ≤ room_1.slots) {H : Heap} {locs : List Loc} {ls : Array Slot} (hP : va_P G.1 vwCl (lawW G ba bw U V ma d M qo ox) H) (hD : va_D A (lawW G ba bw U V ma d M qo ox)) (hS : va_S A s.heap H locs) (hl : lv_has ls 8 [(0, .ref b), (1, .ref ba), (2, .ref ma), (3, .ref qo), (4, .int (nI a))]) (i : Nat) (wt9 : Int32) (hv1 : xs (a + 1) = (nI i)) (hv2 : xs (a + 2) = wt9) (hi4 : i < 4) (L_hwf : (pf4 (U 0 0) (U 1 0) (U 2 0) (U 3 0)) i = some (U i 0)) (L_hn : (v_n (V i)) ≤ 12) (M_hq : ¬ wt9 < 0) (M_hq2 : (3:Int32) < wt9) (hans : (fX3_about (v_tr (V i)) (v_rd (V i)) (v_n (V i)) (v_on (V i)) (v_li (V i)) wt9) = (-1:Int32))
    (kk : ∀ (H : Heap) (locs : List Loc) (ls : Array Slot), va_P G.1 vwCl (lawW G ba bw U V ma d ((m_f0 M), (m_f1 M), (m_f2 M), (m_f3 M), (m_f4 M), (m_f5 M), (m_f6 M), (m_f7 M), (m_f8 M), (m_f9 M), (m_f10 M), (m_f11 M), (m_f12 M), (m_f13 M), (m_f14 M), (m_f15 M), (m_f16 M), (0:Int32)) qo ox) H → va_D A (lawW G ba bw U V ma d ((m_f0 M), (m_f1 M), (m_f2 M), (m_f3 M), (m_f4 M), (m_f5 M), (m_f6 M), (m_f7 M), (m_f8 M), (m_f9 M), (m_f10 M), (m_f11 M), (m_f12 M), (m_f13 M), (m_f14 M), (m_f15 M), (m_f16 M), (0:Int32)) qo ox) → va_S A s.heap H locs → lv_has ls 8 [(0, .ref b), (1, .ref ba), (2, .ref ma), (3, .ref qo), (4, .int (nI a))] → W p l e room_1 s m #[Value.ref b] below meth c H locs (cells + 1) (slots + 6) (lw_Z below #[Value.ref b] s) (F0 m 1083 ls [])) : W p l e room_1 s m #[Value.ref b] below meth c H locs cells slots (lw_Z below #[Value.ref b] s) (F0 m 1046 ls []) := by
  obtain ⟨hx, hb, hr, hml, hown, hts, hX, hbl, hlocks, hgv⟩ := id C0
  have hts := fun w h => hts w (wsL_law_in w h)
  have hcR : room_1.cells = 601024 := rfl
  have hsR : room_1.slots = 7293034 := rfl
  have L_hi4 := hi4
  have M_hi4 := hi4
  refine lv_aload_n hx hb dL_law_1046 rfl (lv_at hl 1 rfl) ?_
  refine lv_aload_n hx hb dL_law_1047 rfl (lv_at hl 0 rfl) ?_
  refine lv_iload hx hb dL_law_1048 (lv_at hl 4 rfl) ?_
  refine lv_iconst (v := (1:Int32)) hx hb dL_law_1050 (by decide) ?_
  refine lv_iadd hx hb dL_law_1051 ?_
  refine ar_sldv (v := (nI i)) hx hb hX hbl hbA hS (a + 1) (nI_add a 1) hv1 (by omega) (by omega) dL_law_1052 ?_
  refine lv_aload_n hx hb dL_law_1053 rfl (lv_at hl 0 rfl) ?_
  refine lv_iload hx hb dL_law_1054 (lv_at hl 4 rfl) ?_
  refine lv_iconst (v := (2:Int32)) hx hb dL_law_1056 (by decide) ?_
  refine lv_iadd hx hb dL_law_1057 ?_
  refine ar_sldv (v := wt9) hx hb hX hbl hbA hS (a + 2) (nI_add a 2) hv2 (by omega) (by omega) dL_law_1058 ?_
  refine lc_v (As := [.int (nI i), .int wt9]) (rest := []) (w0' := [((U i 0), .inr (2, [.ref (G.2.2.1 i), .ref (U i 1), .ref (U i 5), .ref (U i 22), .ref (U i 23), .int (v_tr (V i)), .long (v_dr (V i)), .long (v_wt (V i)), .int (nI (v_rd (V i))), .long (v_gr (V i)), .long (v_le (V i))])), ((U i 1), .inr (0, [.ref (U i 2), .ref (U i 3), .ref (U i 4), .int (nI (v_n (V i)))])), ((U i 2), .inl (G.2.1 0, 12, .inl (v_ki (V i)))), ((U i 3), .inl (G.2.1 1, 12, .inr (.inl (v_kn (V i))))), ((U i 4), .inl (G.2.1 2, 12, .inl (v_on (V i)))), ((U i 23), .inl (G.2.1 2, 12, .inl (v_li (V i))))]) ⟨hx, hb, hml, hown, hts⟩ (kX3_about l G ba bw (pf4 (U 0 0) (U 1 0) (U 2 0) (U 3 0)) (U i 0) i (U i 1) (U i 5) (U i 22) (U i 23) (v_tr (V i)) (v_dr (V i)) (v_wt (V i)) (v_rd (V i)) (v_gr (V i)) (v_le (V i)) (U i 2) (U i 3) (U i 4) (v_n (V i)) (v_ki (V i)) (v_kn (V i)) (v_on (V i)) (v_li (V i)) wt9 L_hi4 L_hwf L_hn) (cwV 2 hts gL_law_X3_about rfl rfl rfl (by decide +kernel) ⟨Nat.le_of_ble_eq_true rfl, Nat.le_of_ble_eq_true rfl⟩) hE hK hP hD hS hA hl.1 hi4 [0, 1, 2, 3, 4, 23] (nd4v hi4 (by decide)) (by decide) rfl rfl rfl rfl (Nat.le_of_ble_eq_true rfl) dL_law_1059 ⟨by omega, by omega⟩ (fun H locs hP hD hS => ?_)
  have hP : va_P G.1 vwCl (lawW G ba bw U V ma d M qo ox) H := hP
  have hD : va_D A (lawW G ba bw U V ma d M qo ox) := hD
  refine lv_aload_n hx hb dL_law_1062 rfl (lv_at hl 2 rfl) ?_
  refine lv_aload_n hx hb dL_law_1063 rfl (lv_at hl 0 rfl) ?_
  refine lv_iload hx hb dL_law_1064 (lv_at hl 4 rfl) ?_
  refine lv_iconst (v := (1:Int32)) hx hb dL_law_1066 (by decide) ?_
  refine lv_iadd hx hb dL_law_1067 ?_
  refine ar_sldv (v := (nI i)) hx hb hX hbl hbA hS (a + 1) (nI_add a 1) hv1 (by omega) (by omega) dL_law_1068 ?_
  refine lv_aload_n hx hb dL_law_1069 rfl (lv_at hl 0 rfl) ?_
  refine lv_iload hx hb dL_law_1070 (lv_at hl 4 rfl) ?_
  refine lv_iconst (v := (2:Int32)) hx hb dL_law_1072 (by decide) ?_
  refine lv_iadd hx hb dL_law_1073 ?_
  refine ar_sldv (v := wt9) hx hb hX hbl hbA hS (a + 2) (nI_add a 2) hv2 (by omega) (by omega) dL_law_1074 ?_
  refine lc_mi (As := [.int (nI i), .int wt9]) (rest := [.int (fX3_about (v_tr (V i)) (v_rd (V i)) (v_n (V i)) (v_on (V i)) (v_li (V i)) wt9)]) (w0' := [(ma, .inr (4, [.ref (d 0), .ref (d 1), .ref (d 2), .ref (d 3), .ref (d 4), .ref (d 5), .ref (d 6), .ref (d 7), .ref (d 8), .ref (d 9), .ref (d 10), .ref (d 11), .ref (d 12), .ref (d 13), .ref (d 14), .ref (d 15), .ref (d 16), .int (m_cd M)]))]) (w1' := [(ma, .inr (4, [.ref (d 0), .ref (d 1), .ref (d 2), .ref (d 3), .ref (d 4), .ref (d 5), .ref (d 6), .ref (d 7), .ref (d 8), .ref (d 9), .ref (d 10), .ref (d 11), .ref (d 12), .ref (d 13), .ref (d 14), .ref (d 15), .ref (d 16), .int (0:Int32)]))]) (M' := ((m_f0 M), (m_f1 M), (m_f2 M), (m_f3 M), (m_f4 M), (m_f5 M), (m_f6 M), (m_f7 M), (m_f8 M), (m_f9 M), (m_f10 M), (m_f11 M), (m_f12 M), (m_f13 M), (m_f14 M), (m_f15 M), (m_f16 M), (0:Int32))) ⟨hx, hb, hml, hown, hts⟩ (kX4_aboutM2 l G ma (d 0) (d 1) (d 2) (d 3) (d 4) (d 5) (d 6) (d 7) (d 8) (d 9) (d 10) (d 11) (d 12) (d 13) (d 14) (d 15) (d 16) (m_cd M) i wt9 M_hi4 M_hq M_hq2) (cwV 2 hts gL_law_X4_about rfl rfl rfl (by decide +kernel) ⟨Nat.le_of_ble_eq_true rfl, Nat.le_of_ble_eq_true rfl⟩) hE hK hP hD hS hA hl.1 [0] (by decide) (by decide) rfl rfl rfl rfl rfl (Nat.le_of_ble_eq_true rfl) dL_law_1075 ⟨by omega, by omega⟩ (fun H locs hP hD hS => ?_)
  have hP : va_P G.1 vwCl (lawW G ba bw U V ma d ((m_f0 M), (m_f1 M), (m_f2 M), (m_f3 M), (m_f4 M), (m_f5 M), (m_f6 M), (m_f7 M), (m_f8 M), (m_f9 M), (m_f10 M), (m_f11 M), (m_f12 M), (m_f13 M), (m_f14 M), (m_f15 M), (m_f16 M), (0:Int32)) qo ox) H := hP
  have hD : va_D A (lawW G ba bw U V ma d ((m_f0 M), (m_f1 M), (m_f2 M), (m_f3 M), (m_f4 M), (m_f5 M), (m_f6 M), (m_f7 M), (m_f8 M), (m_f9 M), (m_f10 M), (m_f11 M), (m_f12 M), (m_f13 M), (m_f14 M), (m_f15 M), (m_f16 M), (0:Int32)) qo ox) := hD
  refine bi_eq (tgt := 1083) hx hb dL_law_1078 (by decide) (fun _ => ?_) (fun h9 => absurd hans h9)
  refine W.widen (k := cells + 1) (n := slots + 6) (by omega) (by omega) ?_
  exact kk H locs ls hP hD hS (lv_sub hl [0, 1, 2, 3, 4] rfl)
