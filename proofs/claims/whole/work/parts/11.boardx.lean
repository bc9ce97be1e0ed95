set_option maxHeartbeats 4000000 in
set_option maxRecDepth 100000 in
theorem kX3_wireAtX (l : Launch) (hl9 : l.stackTraces = false) (G : GT) (ba : Nat) (bw : Nat) (wf : Nat → Option Nat) (wi : Int32) (hwi : fX3_isWire wi = 0) : CX l yX3_wireAt wsX3_wireAt { frames := 6, cells := 1, slots := 6, locals := 82 } G [.ref ba, .int wi] [(ba, .inr (3, [.ref bw])), (bw, .inl (G.2.1 4, 4, .inr (.inr (.inr (.inr wf)))))] nIAE := by
  refine en_x (cc := cX3_wireAt) (maxL := 2) (ret := (some (.object "PedalBoard$Wire"))) (own := RX3) (by decide) rfl rfl (Nat.le_of_ble_eq_true rfl) ?_
  intro p e s m below meth c A ls htab hx hb hr hts hown hml hlocks hA hK hE hP hD hS hl
  have hl : lv_has ls 2 [(0, .ref ba), (1, .int wi)] := hl
  refine lv_iload_n hx hb dX3_wireAt_0 rfl (lv_at hl 1 rfl) ?_
  refine cs_i (As := [.int wi]) (rest := []) ⟨hx, hb, hml, hown, hts⟩ (kX3_isWire l G wi) (va_cwS 1 hts gX3_wireAt_X3_isWire rfl rfl rfl (by decide +kernel) ⟨Nat.le_of_ble_eq_true rfl, Nat.le_of_ble_eq_true rfl⟩) hE hK hP hD hS hA hl.1 [] rfl rfl rfl rfl rfl rfl (Nat.le_of_ble_eq_true rfl) dX3_wireAt_1 ⟨Nat.zero_le _, Nat.zero_le _⟩ (fun H locs hP hD hS => ?_)
  have hP : va_P G.1 vwCl [(ba, .inr (3, [.ref bw])), (bw, .inl (G.2.1 4, 4, .inr (.inr (.inr (.inr wf)))))] H := hP
  have hD : va_D A [(ba, .inr (3, [.ref bw])), (bw, .inl (G.2.1 4, 4, .inr (.inr (.inr (.inr wf)))))] := hD
  refine bz_ne (tgt := 17) hx hb dX3_wireAt_4 (by decide) (fun _ => ?_) (fun h9 => absurd hwi h9)
  exact tx_A (text := "no such wire") hx hb hl9 htab hts (by intro w h; first | exact List.mem_cons_of_mem _ (List.mem_append_right _ h) | exact List.mem_cons_of_mem _ (List.mem_append_left _ (List.mem_append_right _ h))) (by decide +kernel) (by decide +kernel) hown (hl.1.trans hml.symm) hlocks hE hS (by decide +kernel) hP ⟨Nat.le_of_ble_eq_true rfl, Nat.le_of_ble_eq_true rfl, Nat.le_of_ble_eq_true rfl, Nat.le_of_ble_eq_true rfl⟩ dX3_wireAt_7 dX3_wireAt_10 dX3_wireAt_11 dX3_wireAt_13 dX3_wireAt_16
set_option maxHeartbeats 4000000 in
set_option maxRecDepth 100000 in
theorem kX3_numberOnX (l : Launch) (hl9 : l.stackTraces = false) (G : GT) (wa : Nat) (i : Nat) (pa : Nat) (pr : Nat) (wo : Nat) (wl : Nat) (tr : Int32) (dr : Int64) (wt : Int64) (r : Nat) (gr : Int64) (le : Int64) (hh : Int32) (lo : Int32) (hi4 : i < 4) (hill : ¬ fX1_isIll i (fX1_codeOf i hh lo) = 0) : CX l yX3_numberOn wsX3_numberOn { frames := 6, cells := 1, slots := 6, locals := 82 } G [.ref wa, .int hh, .int lo] [(wa, .inr (2, [.ref (G.2.2.1 i), .ref pa, .ref pr, .ref wo, .ref wl, .int tr, .long dr, .long wt, .int (nI r), .long gr, .long le]))] nIAE := by
  refine en_x (cc := cX3_numberOn) (maxL := 5) (ret := (some .long)) (own := RX3) (by decide) rfl rfl (Nat.le_of_ble_eq_true rfl) ?_
  intro p e s m below meth c A ls htab hx hb hr hts hown hml hlocks hA hK hE hP hD hS hl
  have hl : lv_has ls 5 [(0, .ref wa), (1, .int hh), (2, .int lo)] := hl
  refine lv_aload_n hx hb dX3_numberOn_0 rfl (lv_at hl 0 rfl) ?_
  refine va_get (D := G.1) (ci := 2) (v := .ref (G.2.2.1 i)) (C := RX2) (T := TX2) (N := 11) hx hb hts (by decide +kernel) hown hK hP 0 rfl rfl 0 (by decide) (hts (.fieldLink RX3 34 "PedalBoard$Wire" "sort" "LPedalBoard$Sort;") (by decide +kernel)) (fun _ h9 => h9) rfl dX3_numberOn_1 ?_
  refine lv_iload_n hx hb dX3_numberOn_4 rfl (lv_at hl 1 rfl) ?_
  refine lv_iload_n hx hb dX3_numberOn_5 rfl (lv_at hl 2 rfl) ?_
  refine cv_l (As := [.int hh, .int lo]) (rest := []) ⟨hx, hb, hml, hown, hts⟩ (kX1_codeOf l G i hh lo hi4) (cwV 2 hts gX3_numberOn_X1_codeOf rfl rfl rfl (by decide +kernel) ⟨Nat.le_of_ble_eq_true rfl, Nat.le_of_ble_eq_true rfl⟩) (so_rec hE hi4 hS) hE hK hP hD hS hA hl.1 [] rfl rfl rfl rfl rfl rfl (Nat.le_of_ble_eq_true rfl) dX3_numberOn_6 ⟨Nat.zero_le _, Nat.zero_le _⟩ (fun H locs hP hD hS => ?_)
  have hP : va_P G.1 vwCl [(wa, .inr (2, [.ref (G.2.2.1 i), .ref pa, .ref pr, .ref wo, .ref wl, .int tr, .long dr, .long wt, .int (nI r), .long gr, .long le]))] H := hP
  have hD : va_D A [(wa, .inr (2, [.ref (G.2.2.1 i), .ref pa, .ref pr, .ref wo, .ref wl, .int tr, .long dr, .long wt, .int (nI r), .long gr, .long le]))] := hD
  refine lv_lstore_n (lv' := [(3, .long (fX1_codeOf i hh lo)), (0, .ref wa), (1, .int hh), (2, .int lo)]) hx hb dX3_numberOn_9 rfl hl (by decide) rfl (fun ls hl => ?_)
  refine lv_aload_n hx hb dX3_numberOn_10 rfl (lv_at hl 1 rfl) ?_
  refine va_get (D := G.1) (ci := 2) (v := .ref (G.2.2.1 i)) (C := RX2) (T := TX2) (N := 11) hx hb hts (by decide +kernel) hown hK hP 0 rfl rfl 0 (by decide) (hts (.fieldLink RX3 34 "PedalBoard$Wire" "sort" "LPedalBoard$Sort;") (by decide +kernel)) (fun _ h9 => h9) rfl dX3_numberOn_11 ?_
  refine lv_lload_n hx hb dX3_numberOn_14 rfl (lv_at hl 0 rfl) ?_
  refine cv_i (As := [.long (fX1_codeOf i hh lo)]) (rest := []) ⟨hx, hb, hml, hown, hts⟩ (kX1_isIll l G i (fX1_codeOf i hh lo) hi4) (cwV 1 hts gX3_numberOn_X1_isIll rfl rfl rfl (by decide +kernel) ⟨Nat.le_of_ble_eq_true rfl, Nat.le_of_ble_eq_true rfl⟩) (so_rec hE hi4 hS) hE hK hP hD hS hA hl.1 [] rfl rfl rfl rfl rfl rfl (Nat.le_of_ble_eq_true rfl) dX3_numberOn_15 ⟨Nat.zero_le _, Nat.zero_le _⟩ (fun H locs hP hD hS => ?_)
  have hP : va_P G.1 vwCl [(wa, .inr (2, [.ref (G.2.2.1 i), .ref pa, .ref pr, .ref wo, .ref wl, .int tr, .long dr, .long wt, .int (nI r), .long gr, .long le]))] H := hP
  have hD : va_D A [(wa, .inr (2, [.ref (G.2.2.1 i), .ref pa, .ref pr, .ref wo, .ref wl, .int tr, .long dr, .long wt, .int (nI r), .long gr, .long le]))] := hD
  refine bz_eq (tgt := 31) hx hb dX3_numberOn_18 (by decide) (fun h9 => absurd h9 hill) (fun _ => ?_)
  exact tx_A (text := "not a number") hx hb hl9 htab hts (by intro w h; first | exact List.mem_cons_of_mem _ (List.mem_append_right _ h) | exact List.mem_cons_of_mem _ (List.mem_append_left _ (List.mem_append_right _ h))) (by decide +kernel) (by decide +kernel) hown (hl.1.trans hml.symm) hlocks hE hS (by decide +kernel) hP ⟨Nat.le_of_ble_eq_true rfl, Nat.le_of_ble_eq_true rfl, Nat.le_of_ble_eq_true rfl, Nat.le_of_ble_eq_true rfl⟩ dX3_numberOn_21 dX3_numberOn_24 dX3_numberOn_25 dX3_numberOn_27 dX3_numberOn_30
set_option maxHeartbeats 4000000 in
set_option maxRecDepth 100000 in
theorem kX3_needPedalX (l : Launch) (hl9 : l.stackTraces = false) (G : GT) (wa : Nat) (i : Nat) (pa : Nat) (pr : Nat) (wo : Nat) (wl : Nat) (tr : Int32) (dr : Int64) (wt : Int64) (r : Nat) (gr : Int64) (le : Int64) (pk : Nat) (pn : Nat) (po : Nat) (n : Nat) (pl : Int32) (hhas : fX0_has n pl = 0) : CX l yX3_needPedal wsX3_needPedal { frames := 6, cells := 1, slots := 6, locals := 82 } G [.ref wa, .int pl] [(wa, .inr (2, [.ref (G.2.2.1 i), .ref pa, .ref pr, .ref wo, .ref wl, .int tr, .long dr, .long wt, .int (nI r), .long gr, .long le])), (pa, .inr (0, [.ref pk, .ref pn, .ref po, .int (nI n)]))] nIAE := by
  refine en_x (cc := cX3_needPedal) (maxL := 2) (ret := none) (own := RX3) (by decide) rfl rfl (Nat.le_of_ble_eq_true rfl) ?_
  intro p e s m below meth c A ls htab hx hb hr hts hown hml hlocks hA hK hE hP hD hS hl
  have hl : lv_has ls 2 [(0, .ref wa), (1, .int pl)] := hl
  refine lv_aload_n hx hb dX3_needPedal_0 rfl (lv_at hl 0 rfl) ?_
  refine va_get (D := G.1) (ci := 2) (v := .ref pa) (C := RX2) (T := TX2) (N := 11) hx hb hts (by decide +kernel) hown hK hP 0 rfl rfl 1 (by decide) (hts (.fieldLink RX3 51 "PedalBoard$Wire" "pedals" "LPedalBoard$Pedals;") (by decide +kernel)) (fun _ h9 => h9) rfl dX3_needPedal_1 ?_
  refine lv_iload_n hx hb dX3_needPedal_4 rfl (lv_at hl 1 rfl) ?_
  refine cv_i (As := [.int pl]) (rest := []) (ws' := [(wa, .inr (2, [.ref (G.2.2.1 i), .ref pa, .ref pr, .ref wo, .ref wl, .int tr, .long dr, .long wt, .int (nI r), .long gr, .long le])), (pa, .inr (0, [.ref pk, .ref pn, .ref po, .int (nI n)]))]) ⟨hx, hb, hml, hown, hts⟩ (kX0_has l G pa pk pn po n pl) (cwV 1 hts gX3_needPedal_X0_has rfl rfl rfl (by decide +kernel) ⟨Nat.le_of_ble_eq_true rfl, Nat.le_of_ble_eq_true rfl⟩) (va_recv hK hP (ci := 0) (q0 := 1) rfl rfl) hE hK hP hD hS hA hl.1 [1] rfl rfl rfl rfl rfl rfl (Nat.le_of_ble_eq_true rfl) dX3_needPedal_5 ⟨Nat.zero_le _, Nat.zero_le _⟩ (fun H locs hP hD hS => ?_)
  refine bz_ne (tgt := 21) hx hb dX3_needPedal_8 (by decide) (fun _ => ?_) (fun h9 => absurd hhas h9)
  exact tx_A (text := "no such pedal") hx hb hl9 htab hts (by intro w h; first | exact List.mem_cons_of_mem _ (List.mem_append_right _ h) | exact List.mem_cons_of_mem _ (List.mem_append_left _ (List.mem_append_right _ h))) (by decide +kernel) (by decide +kernel) hown (hl.1.trans hml.symm) hlocks hE hS (by decide +kernel) hP ⟨Nat.le_of_ble_eq_true rfl, Nat.le_of_ble_eq_true rfl, Nat.le_of_ble_eq_true rfl, Nat.le_of_ble_eq_true rfl⟩ dX3_needPedal_11 dX3_needPedal_14 dX3_needPedal_15 dX3_needPedal_17 dX3_needPedal_20
set_option maxHeartbeats 4000000 in
set_option maxRecDepth 100000 in
theorem kX3_presetOfX1 (l : Launch) (hl9 : l.stackTraces = false) (G : GT) (wa : Nat) (i : Nat) (pa : Nat) (pr : Nat) (wo : Nat) (wl : Nat) (tr : Int32) (dr : Int64) (wt : Int64) (r : Nat) (gr : Int64) (le : Int64) (ps : Int32) (hps : ps < 0) : CX l yX3_presetOf wsX3_presetOf { frames := 6, cells := 1, slots := 6, locals := 82 } G [.ref wa, .int ps] [(wa, .inr (2, [.ref (G.2.2.1 i), .ref pa, .ref pr, .ref wo, .ref wl, .int tr, .long dr, .long wt, .int (nI r), .long gr, .long le]))] nIAE := by
  refine en_x (cc := cX3_presetOf) (maxL := 2) (ret := (some (.object "PedalBoard$Pedals"))) (own := RX3) (by decide) rfl rfl (Nat.le_of_ble_eq_true rfl) ?_
  intro p e s m below meth c A ls htab hx hb hr hts hown hml hlocks hA hK hE hP hD hS hl
  have hl : lv_has ls 2 [(0, .ref wa), (1, .int ps)] := hl
  refine lv_iload_n hx hb dX3_presetOf_0 rfl (lv_at hl 1 rfl) ?_
  refine bz_lt (tgt := 9) hx hb dX3_presetOf_1 (by decide) (fun _ => ?_) (fun h9 => absurd hps h9)
  exact tx_A (text := "no such preset") hx hb hl9 htab hts (by intro w h; first | exact List.mem_cons_of_mem _ (List.mem_append_right _ h) | exact List.mem_cons_of_mem _ (List.mem_append_left _ (List.mem_append_right _ h))) (by decide +kernel) (by decide +kernel) hown (hl.1.trans hml.symm) hlocks hE hS (by decide +kernel) hP ⟨Nat.le_of_ble_eq_true rfl, Nat.le_of_ble_eq_true rfl, Nat.le_of_ble_eq_true rfl, Nat.le_of_ble_eq_true rfl⟩ dX3_presetOf_9 dX3_presetOf_12 dX3_presetOf_13 dX3_presetOf_15 dX3_presetOf_18
set_option maxHeartbeats 4000000 in
set_option maxRecDepth 100000 in
theorem kX3_presetOfX2 (l : Launch) (hl9 : l.stackTraces = false) (G : GT) (wa : Nat) (i : Nat) (pa : Nat) (pr : Nat) (wo : Nat) (wl : Nat) (tr : Int32) (dr : Int64) (wt : Int64) (r : Nat) (gr : Int64) (le : Int64) (ps : Int32) (hps : ¬ ps < 0) (hps2 : ¬ ps < (4:Int32)) : CX l yX3_presetOf wsX3_presetOf { frames := 6, cells := 1, slots := 6, locals := 82 } G [.ref wa, .int ps] [(wa, .inr (2, [.ref (G.2.2.1 i), .ref pa, .ref pr, .ref wo, .ref wl, .int tr, .long dr, .long wt, .int (nI r), .long gr, .long le]))] nIAE := by
  refine en_x (cc := cX3_presetOf) (maxL := 2) (ret := (some (.object "PedalBoard$Pedals"))) (own := RX3) (by decide) rfl rfl (Nat.le_of_ble_eq_true rfl) ?_
  intro p e s m below meth c A ls htab hx hb hr hts hown hml hlocks hA hK hE hP hD hS hl
  have hl : lv_has ls 2 [(0, .ref wa), (1, .int ps)] := hl
  refine lv_iload_n hx hb dX3_presetOf_0 rfl (lv_at hl 1 rfl) ?_
  refine bz_lt (tgt := 9) hx hb dX3_presetOf_1 (by decide) (fun h9 => absurd h9 hps) (fun _ => ?_)
  refine lv_iload_n hx hb dX3_presetOf_4 rfl (lv_at hl 1 rfl) ?_
  refine lv_iconst (v := (4:Int32)) hx hb dX3_presetOf_5 (by decide) ?_
  refine bi_lt (tgt := 19) hx hb dX3_presetOf_6 (by decide) (fun h9 => absurd h9 hps2) (fun _ => ?_)
  exact tx_A (text := "no such preset") hx hb hl9 htab hts (by intro w h; first | exact List.mem_cons_of_mem _ (List.mem_append_right _ h) | exact List.mem_cons_of_mem _ (List.mem_append_left _ (List.mem_append_right _ h))) (by decide +kernel) (by decide +kernel) hown (hl.1.trans hml.symm) hlocks hE hS (by decide +kernel) hP ⟨Nat.le_of_ble_eq_true rfl, Nat.le_of_ble_eq_true rfl, Nat.le_of_ble_eq_true rfl, Nat.le_of_ble_eq_true rfl⟩ dX3_presetOf_9 dX3_presetOf_12 dX3_presetOf_13 dX3_presetOf_15 dX3_presetOf_18
set_option maxHeartbeats 4000000 in
set_option maxRecDepth 100000 in
theorem kX3_putX0 (l : Launch) (hl9 : l.stackTraces = false) (G : GT) (ba : Nat) (bw : Nat) (wf : Nat → Option Nat) (wi : Int32) (a1 : Int32) (a2 : Int32) (hwi : fX3_isWire wi = 0) : CX l yX3_put wsX3_put { frames := 7, cells := 1, slots := 6, locals := 103 } G [.ref ba, .int wi, .int a1, .int a2] [(ba, .inr (3, [.ref bw])), (bw, .inl (G.2.1 4, 4, .inr (.inr (.inr (.inr wf)))))] nIAE := by
  refine en_x (cc := cX3_put) (maxL := 5) (ret := (some .boolean)) (own := RX3) (by decide) rfl rfl (Nat.le_of_ble_eq_true rfl) ?_
  intro p e s m below meth c A ls htab hx hb hr hts hown hml hlocks hA hK hE hP hD hS hl
  have hl : lv_has ls 5 [(0, .ref ba), (1, .int wi), (2, .int a1), (3, .int a2)] := hl
  refine lv_aload_n hx hb dX3_put_0 rfl (lv_at hl 0 rfl) ?_
  refine lv_iload_n hx hb dX3_put_1 rfl (lv_at hl 1 rfl) ?_
  exact cv_x (As := [.int wi]) (rest := []) ⟨hx, hb, hml, hown, hts⟩ (kX3_wireAtX l hl9 G ba bw wf wi (by first | assumption | omega)) (cwV 1 hts gX3_put_X3_wireAt rfl rfl rfl (by decide +kernel) ⟨Nat.le_of_ble_eq_true rfl, Nat.le_of_ble_eq_true rfl⟩) (va_recv hK hP (ci := 3) (q0 := 0) rfl rfl) hE hK hP hD hS hA hl.1 [0, 1] rfl rfl rfl rfl rfl (Nat.le_of_ble_eq_true rfl) dX3_put_2 (Nat.le_of_ble_eq_true rfl) (Nat.le_of_ble_eq_true rfl) htab hlocks
set_option maxHeartbeats 4000000 in
set_option maxRecDepth 100000 in
theorem kX3_pedalX0 (l : Launch) (hl9 : l.stackTraces = false) (G : GT) (ba : Nat) (bw : Nat) (wf : Nat → Option Nat) (wi : Int32) (a1 : Int32) (a2 : Int32) (a3 : Int32) (hwi : fX3_isWire wi = 0) : CX l yX3_pedal wsX3_pedal { frames := 7, cells := 1, slots := 6, locals := 103 } G [.ref ba, .int wi, .int a1, .int a2, .int a3] [(ba, .inr (3, [.ref bw])), (bw, .inl (G.2.1 4, 4, .inr (.inr (.inr (.inr wf)))))] nIAE := by
  refine en_x (cc := cX3_pedal) (maxL := 8) (ret := (some .int)) (own := RX3) (by decide) rfl rfl (Nat.le_of_ble_eq_true rfl) ?_
  intro p e s m below meth c A ls htab hx hb hr hts hown hml hlocks hA hK hE hP hD hS hl
  have hl : lv_has ls 8 [(0, .ref ba), (1, .int wi), (2, .int a1), (3, .int a2), (4, .int a3)] := hl
  refine lv_aload_n hx hb dX3_pedal_0 rfl (lv_at hl 0 rfl) ?_
  refine lv_iload_n hx hb dX3_pedal_1 rfl (lv_at hl 1 rfl) ?_
  exact cv_x (As := [.int wi]) (rest := []) ⟨hx, hb, hml, hown, hts⟩ (kX3_wireAtX l hl9 G ba bw wf wi (by first | assumption | omega)) (cwV 1 hts gX3_pedal_X3_wireAt rfl rfl rfl (by decide +kernel) ⟨Nat.le_of_ble_eq_true rfl, Nat.le_of_ble_eq_true rfl⟩) (va_recv hK hP (ci := 3) (q0 := 0) rfl rfl) hE hK hP hD hS hA hl.1 [0, 1] rfl rfl rfl rfl rfl (Nat.le_of_ble_eq_true rfl) dX3_pedal_2 (Nat.le_of_ble_eq_true rfl) (Nat.le_of_ble_eq_true rfl) htab hlocks
set_option maxHeartbeats 4000000 in
set_option maxRecDepth 100000 in
theorem kX3_turnX0 (l : Launch) (hl9 : l.stackTraces = false) (G : GT) (ba : Nat) (bw : Nat) (wf : Nat → Option Nat) (wi : Int32) (a1 : Int32) (a2 : Int32) (a3 : Int32) (hwi : fX3_isWire wi = 0) : CX l yX3_turn wsX3_turn { frames := 7, cells := 1, slots := 6, locals := 103 } G [.ref ba, .int wi, .int a1, .int a2, .int a3] [(ba, .inr (3, [.ref bw])), (bw, .inl (G.2.1 4, 4, .inr (.inr (.inr (.inr wf)))))] nIAE := by
  refine en_x (cc := cX3_turn) (maxL := 9) (ret := (some .boolean)) (own := RX3) (by decide) rfl rfl (Nat.le_of_ble_eq_true rfl) ?_
  intro p e s m below meth c A ls htab hx hb hr hts hown hml hlocks hA hK hE hP hD hS hl
  have hl : lv_has ls 9 [(0, .ref ba), (1, .int wi), (2, .int a1), (3, .int a2), (4, .int a3)] := hl
  refine lv_aload_n hx hb dX3_turn_0 rfl (lv_at hl 0 rfl) ?_
  refine lv_iload_n hx hb dX3_turn_1 rfl (lv_at hl 1 rfl) ?_
  exact cv_x (As := [.int wi]) (rest := []) ⟨hx, hb, hml, hown, hts⟩ (kX3_wireAtX l hl9 G ba bw wf wi (by first | assumption | omega)) (cwV 1 hts gX3_turn_X3_wireAt rfl rfl rfl (by decide +kernel) ⟨Nat.le_of_ble_eq_true rfl, Nat.le_of_ble_eq_true rfl⟩) (va_recv hK hP (ci := 3) (q0 := 0) rfl rfl) hE hK hP hD hS hA hl.1 [0, 1] rfl rfl rfl rfl rfl (Nat.le_of_ble_eq_true rfl) dX3_turn_2 (Nat.le_of_ble_eq_true rfl) (Nat.le_of_ble_eq_true rfl) htab hlocks
set_option maxHeartbeats 4000000 in
set_option maxRecDepth 100000 in
theorem kX3_tapX0 (l : Launch) (hl9 : l.stackTraces = false) (G : GT) (ba : Nat) (bw : Nat) (wf : Nat → Option Nat) (wi : Int32) (a1 : Int32) (hwi : fX3_isWire wi = 0) : CX l yX3_tap wsX3_tap { frames := 7, cells := 1, slots := 6, locals := 103 } G [.ref ba, .int wi, .int a1] [(ba, .inr (3, [.ref bw])), (bw, .inl (G.2.1 4, 4, .inr (.inr (.inr (.inr wf)))))] nIAE := by
  refine en_x (cc := cX3_tap) (maxL := 4) (ret := (some .boolean)) (own := RX3) (by decide) rfl rfl (Nat.le_of_ble_eq_true rfl) ?_
  intro p e s m below meth c A ls htab hx hb hr hts hown hml hlocks hA hK hE hP hD hS hl
  have hl : lv_has ls 4 [(0, .ref ba), (1, .int wi), (2, .int a1)] := hl
  refine lv_aload_n hx hb dX3_tap_0 rfl (lv_at hl 0 rfl) ?_
  refine lv_iload_n hx hb dX3_tap_1 rfl (lv_at hl 1 rfl) ?_
  exact cv_x (As := [.int wi]) (rest := []) ⟨hx, hb, hml, hown, hts⟩ (kX3_wireAtX l hl9 G ba bw wf wi (by first | assumption | omega)) (cwV 1 hts gX3_tap_X3_wireAt rfl rfl rfl (by decide +kernel) ⟨Nat.le_of_ble_eq_true rfl, Nat.le_of_ble_eq_true rfl⟩) (va_recv hK hP (ci := 3) (q0 := 0) rfl rfl) hE hK hP hD hS hA hl.1 [0, 1] rfl rfl rfl rfl rfl (Nat.le_of_ble_eq_true rfl) dX3_tap_2 (Nat.le_of_ble_eq_true rfl) (Nat.le_of_ble_eq_true rfl) htab hlocks
set_option maxHeartbeats 4000000 in
set_option maxRecDepth 100000 in
theorem kX3_swapX0 (l : Launch) (hl9 : l.stackTraces = false) (G : GT) (ba : Nat) (bw : Nat) (wf : Nat → Option Nat) (wi : Int32) (a1 : Int32) (a2 : Int32) (hwi : fX3_isWire wi = 0) : CX l yX3_swap wsX3_swap { frames := 7, cells := 1, slots := 6, locals := 103 } G [.ref ba, .int wi, .int a1, .int a2] [(ba, .inr (3, [.ref bw])), (bw, .inl (G.2.1 4, 4, .inr (.inr (.inr (.inr wf)))))] nIAE := by
  refine en_x (cc := cX3_swap) (maxL := 6) (ret := (some .boolean)) (own := RX3) (by decide) rfl rfl (Nat.le_of_ble_eq_true rfl) ?_
  intro p e s m below meth c A ls htab hx hb hr hts hown hml hlocks hA hK hE hP hD hS hl
  have hl : lv_has ls 6 [(0, .ref ba), (1, .int wi), (2, .int a1), (3, .int a2)] := hl
  refine lv_aload_n hx hb dX3_swap_0 rfl (lv_at hl 0 rfl) ?_
  refine lv_iload_n hx hb dX3_swap_1 rfl (lv_at hl 1 rfl) ?_
  exact cv_x (As := [.int wi]) (rest := []) ⟨hx, hb, hml, hown, hts⟩ (kX3_wireAtX l hl9 G ba bw wf wi (by first | assumption | omega)) (cwV 1 hts gX3_swap_X3_wireAt rfl rfl rfl (by decide +kernel) ⟨Nat.le_of_ble_eq_true rfl, Nat.le_of_ble_eq_true rfl⟩) (va_recv hK hP (ci := 3) (q0 := 0) rfl rfl) hE hK hP hD hS hA hl.1 [0, 1] rfl rfl rfl rfl rfl (Nat.le_of_ble_eq_true rfl) dX3_swap_2 (Nat.le_of_ble_eq_true rfl) (Nat.le_of_ble_eq_true rfl) htab hlocks
set_option maxHeartbeats 4000000 in
set_option maxRecDepth 100000 in
theorem kX3_playX0 (l : Launch) (hl9 : l.stackTraces = false) (G : GT) (ba : Nat) (bw : Nat) (wf : Nat → Option Nat) (wi : Int32) (a1 : Int32) (hwi : fX3_isWire wi = 0) : CX l yX3_play wsX3_play { frames := 7, cells := 1, slots := 6, locals := 103 } G [.ref ba, .int wi, .int a1] [(ba, .inr (3, [.ref bw])), (bw, .inl (G.2.1 4, 4, .inr (.inr (.inr (.inr wf)))))] nIAE := by
  refine en_x (cc := cX3_play) (maxL := 6) (ret := (some .int)) (own := RX3) (by decide) rfl rfl (Nat.le_of_ble_eq_true rfl) ?_
  intro p e s m below meth c A ls htab hx hb hr hts hown hml hlocks hA hK hE hP hD hS hl
  have hl : lv_has ls 6 [(0, .ref ba), (1, .int wi), (2, .int a1)] := hl
  refine lv_aload_n hx hb dX3_play_0 rfl (lv_at hl 0 rfl) ?_
  refine lv_iload_n hx hb dX3_play_1 rfl (lv_at hl 1 rfl) ?_
  exact cv_x (As := [.int wi]) (rest := []) ⟨hx, hb, hml, hown, hts⟩ (kX3_wireAtX l hl9 G ba bw wf wi (by first | assumption | omega)) (cwV 1 hts gX3_play_X3_wireAt rfl rfl rfl (by decide +kernel) ⟨Nat.le_of_ble_eq_true rfl, Nat.le_of_ble_eq_true rfl⟩) (va_recv hK hP (ci := 3) (q0 := 0) rfl rfl) hE hK hP hD hS hA hl.1 [0, 1] rfl rfl rfl rfl rfl (Nat.le_of_ble_eq_true rfl) dX3_play_2 (Nat.le_of_ble_eq_true rfl) (Nat.le_of_ble_eq_true rfl) htab hlocks
set_option maxHeartbeats 4000000 in
set_option maxRecDepth 100000 in
theorem kX3_codeX0 (l : Launch) (hl9 : l.stackTraces = false) (G : GT) (ba : Nat) (bw : Nat) (wf : Nat → Option Nat) (wi : Int32) (a1 : Int32) (hwi : fX3_isWire wi = 0) : CX l yX3_code wsX3_code { frames := 7, cells := 1, slots := 6, locals := 103 } G [.ref ba, .int wi, .int a1] [(ba, .inr (3, [.ref bw])), (bw, .inl (G.2.1 4, 4, .inr (.inr (.inr (.inr wf)))))] nIAE := by
  refine en_x (cc := cX3_code) (maxL := 4) (ret := (some .long)) (own := RX3) (by decide) rfl rfl (Nat.le_of_ble_eq_true rfl) ?_
  intro p e s m below meth c A ls htab hx hb hr hts hown hml hlocks hA hK hE hP hD hS hl
  have hl : lv_has ls 4 [(0, .ref ba), (1, .int wi), (2, .int a1)] := hl
  refine lv_aload_n hx hb dX3_code_0 rfl (lv_at hl 0 rfl) ?_
  refine lv_iload_n hx hb dX3_code_1 rfl (lv_at hl 1 rfl) ?_
  exact cv_x (As := [.int wi]) (rest := []) ⟨hx, hb, hml, hown, hts⟩ (kX3_wireAtX l hl9 G ba bw wf wi (by first | assumption | omega)) (cwV 1 hts gX3_code_X3_wireAt rfl rfl rfl (by decide +kernel) ⟨Nat.le_of_ble_eq_true rfl, Nat.le_of_ble_eq_true rfl⟩) (va_recv hK hP (ci := 3) (q0 := 0) rfl rfl) hE hK hP hD hS hA hl.1 [0, 1] rfl rfl rfl rfl rfl (Nat.le_of_ble_eq_true rfl) dX3_code_2 (Nat.le_of_ble_eq_true rfl) (Nat.le_of_ble_eq_true rfl) htab hlocks
set_option maxHeartbeats 4000000 in
set_option maxRecDepth 100000 in
theorem kX3_traceX0 (l : Launch) (hl9 : l.stackTraces = false) (G : GT) (ba : Nat) (bw : Nat) (wf : Nat → Option Nat) (wi : Int32) (a1 : Int32) (hwi : fX3_isWire wi = 0) : CX l yX3_trace wsX3_trace { frames := 7, cells := 1, slots := 6, locals := 103 } G [.ref ba, .int wi, .int a1] [(ba, .inr (3, [.ref bw])), (bw, .inl (G.2.1 4, 4, .inr (.inr (.inr (.inr wf)))))] nIAE := by
  refine en_x (cc := cX3_trace) (maxL := 4) (ret := (some .long)) (own := RX3) (by decide) rfl rfl (Nat.le_of_ble_eq_true rfl) ?_
  intro p e s m below meth c A ls htab hx hb hr hts hown hml hlocks hA hK hE hP hD hS hl
  have hl : lv_has ls 4 [(0, .ref ba), (1, .int wi), (2, .int a1)] := hl
  refine lv_aload_n hx hb dX3_trace_0 rfl (lv_at hl 0 rfl) ?_
  refine lv_iload_n hx hb dX3_trace_1 rfl (lv_at hl 1 rfl) ?_
  exact cv_x (As := [.int wi]) (rest := []) ⟨hx, hb, hml, hown, hts⟩ (kX3_wireAtX l hl9 G ba bw wf wi (by first | assumption | omega)) (cwV 1 hts gX3_trace_X3_wireAt rfl rfl rfl (by decide +kernel) ⟨Nat.le_of_ble_eq_true rfl, Nat.le_of_ble_eq_true rfl⟩) (va_recv hK hP (ci := 3) (q0 := 0) rfl rfl) hE hK hP hD hS hA hl.1 [0, 1] rfl rfl rfl rfl rfl (Nat.le_of_ble_eq_true rfl) dX3_trace_2 (Nat.le_of_ble_eq_true rfl) (Nat.le_of_ble_eq_true rfl) htab hlocks
set_option maxHeartbeats 4000000 in
set_option maxRecDepth 100000 in
theorem kX3_againstX0 (l : Launch) (hl9 : l.stackTraces = false) (G : GT) (ba : Nat) (bw : Nat) (wf : Nat → Option Nat) (wi : Int32) (hwi : fX3_isWire wi = 0) : CX l yX3_against wsX3_against { frames := 7, cells := 1, slots := 6, locals := 103 } G [.ref ba, .int wi] [(ba, .inr (3, [.ref bw])), (bw, .inl (G.2.1 4, 4, .inr (.inr (.inr (.inr wf)))))] nIAE := by
  refine en_x (cc := cX3_against) (maxL := 3) (ret := (some .int)) (own := RX3) (by decide) rfl rfl (Nat.le_of_ble_eq_true rfl) ?_
  intro p e s m below meth c A ls htab hx hb hr hts hown hml hlocks hA hK hE hP hD hS hl
  have hl : lv_has ls 3 [(0, .ref ba), (1, .int wi)] := hl
  refine lv_aload_n hx hb dX3_against_0 rfl (lv_at hl 0 rfl) ?_
  refine lv_iload_n hx hb dX3_against_1 rfl (lv_at hl 1 rfl) ?_
  exact cv_x (As := [.int wi]) (rest := []) ⟨hx, hb, hml, hown, hts⟩ (kX3_wireAtX l hl9 G ba bw wf wi (by first | assumption | omega)) (cwV 1 hts gX3_against_X3_wireAt rfl rfl rfl (by decide +kernel) ⟨Nat.le_of_ble_eq_true rfl, Nat.le_of_ble_eq_true rfl⟩) (va_recv hK hP (ci := 3) (q0 := 0) rfl rfl) hE hK hP hD hS hA hl.1 [0, 1] rfl rfl rfl rfl rfl (Nat.le_of_ble_eq_true rfl) dX3_against_2 (Nat.le_of_ble_eq_true rfl) (Nat.le_of_ble_eq_true rfl) htab hlocks
set_option maxHeartbeats 4000000 in
set_option maxRecDepth 100000 in
theorem kX3_saveX0 (l : Launch) (hl9 : l.stackTraces = false) (G : GT) (ba : Nat) (bw : Nat) (wf : Nat → Option Nat) (wi : Int32) (a1 : Int32) (hwi : fX3_isWire wi = 0) : CX l yX3_save wsX3_save { frames := 7, cells := 1, slots := 6, locals := 103 } G [.ref ba, .int wi, .int a1] [(ba, .inr (3, [.ref bw])), (bw, .inl (G.2.1 4, 4, .inr (.inr (.inr (.inr wf)))))] nIAE := by
  refine en_x (cc := cX3_save) (maxL := 5) (ret := (some .int)) (own := RX3) (by decide) rfl rfl (Nat.le_of_ble_eq_true rfl) ?_
  intro p e s m below meth c A ls htab hx hb hr hts hown hml hlocks hA hK hE hP hD hS hl
  have hl : lv_has ls 5 [(0, .ref ba), (1, .int wi), (2, .int a1)] := hl
  refine lv_aload_n hx hb dX3_save_0 rfl (lv_at hl 0 rfl) ?_
  refine lv_iload_n hx hb dX3_save_1 rfl (lv_at hl 1 rfl) ?_
  exact cv_x (As := [.int wi]) (rest := []) ⟨hx, hb, hml, hown, hts⟩ (kX3_wireAtX l hl9 G ba bw wf wi (by first | assumption | omega)) (cwV 1 hts gX3_save_X3_wireAt rfl rfl rfl (by decide +kernel) ⟨Nat.le_of_ble_eq_true rfl, Nat.le_of_ble_eq_true rfl⟩) (va_recv hK hP (ci := 3) (q0 := 0) rfl rfl) hE hK hP hD hS hA hl.1 [0, 1] rfl rfl rfl rfl rfl (Nat.le_of_ble_eq_true rfl) dX3_save_2 (Nat.le_of_ble_eq_true rfl) (Nat.le_of_ble_eq_true rfl) htab hlocks
set_option maxHeartbeats 4000000 in
set_option maxRecDepth 100000 in
theorem kX3_recallX0 (l : Launch) (hl9 : l.stackTraces = false) (G : GT) (ba : Nat) (bw : Nat) (wf : Nat → Option Nat) (wi : Int32) (a1 : Int32) (hwi : fX3_isWire wi = 0) : CX l yX3_recall wsX3_recall { frames := 7, cells := 1, slots := 6, locals := 103 } G [.ref ba, .int wi, .int a1] [(ba, .inr (3, [.ref bw])), (bw, .inl (G.2.1 4, 4, .inr (.inr (.inr (.inr wf)))))] nIAE := by
  refine en_x (cc := cX3_recall) (maxL := 5) (ret := (some .int)) (own := RX3) (by decide) rfl rfl (Nat.le_of_ble_eq_true rfl) ?_
  intro p e s m below meth c A ls htab hx hb hr hts hown hml hlocks hA hK hE hP hD hS hl
  have hl : lv_has ls 5 [(0, .ref ba), (1, .int wi), (2, .int a1)] := hl
  refine lv_aload_n hx hb dX3_recall_0 rfl (lv_at hl 0 rfl) ?_
  refine lv_iload_n hx hb dX3_recall_1 rfl (lv_at hl 1 rfl) ?_
  exact cv_x (As := [.int wi]) (rest := []) ⟨hx, hb, hml, hown, hts⟩ (kX3_wireAtX l hl9 G ba bw wf wi (by first | assumption | omega)) (cwV 1 hts gX3_recall_X3_wireAt rfl rfl rfl (by decide +kernel) ⟨Nat.le_of_ble_eq_true rfl, Nat.le_of_ble_eq_true rfl⟩) (va_recv hK hP (ci := 3) (q0 := 0) rfl rfl) hE hK hP hD hS hA hl.1 [0, 1] rfl rfl rfl rfl rfl (Nat.le_of_ble_eq_true rfl) dX3_recall_2 (Nat.le_of_ble_eq_true rfl) (Nat.le_of_ble_eq_true rfl) htab hlocks
set_option maxHeartbeats 4000000 in
set_option maxRecDepth 100000 in
theorem kX3_patchX0 (l : Launch) (hl9 : l.stackTraces = false) (G : GT) (ba : Nat) (bw : Nat) (wf : Nat → Option Nat) (wi : Int32) (a1 : Int32) (hwi : fX3_isWire wi = 0) : CX l yX3_patch wsX3_patch { frames := 7, cells := 1, slots := 6, locals := 103 } G [.ref ba, .int wi, .int a1] [(ba, .inr (3, [.ref bw])), (bw, .inl (G.2.1 4, 4, .inr (.inr (.inr (.inr wf)))))] nIAE := by
  refine en_x (cc := cX3_patch) (maxL := 7) (ret := (some .long)) (own := RX3) (by decide) rfl rfl (Nat.le_of_ble_eq_true rfl) ?_
  intro p e s m below meth c A ls htab hx hb hr hts hown hml hlocks hA hK hE hP hD hS hl
  have hl : lv_has ls 7 [(0, .ref ba), (1, .int wi), (2, .int a1)] := hl
  refine lv_aload_n hx hb dX3_patch_0 rfl (lv_at hl 0 rfl) ?_
  refine lv_iload_n hx hb dX3_patch_1 rfl (lv_at hl 1 rfl) ?_
  exact cv_x (As := [.int wi]) (rest := []) ⟨hx, hb, hml, hown, hts⟩ (kX3_wireAtX l hl9 G ba bw wf wi (by first | assumption | omega)) (cwV 1 hts gX3_patch_X3_wireAt rfl rfl rfl (by decide +kernel) ⟨Nat.le_of_ble_eq_true rfl, Nat.le_of_ble_eq_true rfl⟩) (va_recv hK hP (ci := 3) (q0 := 0) rfl rfl) hE hK hP hD hS hA hl.1 [0, 1] rfl rfl rfl rfl rfl (Nat.le_of_ble_eq_true rfl) dX3_patch_2 (Nat.le_of_ble_eq_true rfl) (Nat.le_of_ble_eq_true rfl) htab hlocks
set_option maxHeartbeats 4000000 in
set_option maxRecDepth 100000 in
theorem kX3_patchX1 (l : Launch) (hl9 : l.stackTraces = false) (G : GT) (ba : Nat) (bw : Nat) (wf : Nat → Option Nat) (i : Nat) (wa : Nat) (wi : Int32) (hi4 : i < 4) (hwf : wf i = some wa) (hwi : fX3_isWire wi = 0) : CX l yX3_patch wsX3_patch { frames := 7, cells := 1, slots := 6, locals := 103 } G [.ref ba, .int (nI i), .int wi] [(ba, .inr (3, [.ref bw])), (bw, .inl (G.2.1 4, 4, .inr (.inr (.inr (.inr wf)))))] nIAE := by
  refine en_x (cc := cX3_patch) (maxL := 7) (ret := (some .long)) (own := RX3) (by decide) rfl rfl (Nat.le_of_ble_eq_true rfl) ?_
  intro p e s m below meth c A ls htab hx hb hr hts hown hml hlocks hA hK hE hP hD hS hl
  have hl : lv_has ls 7 [(0, .ref ba), (1, .int (nI i)), (2, .int wi)] := hl
  refine lv_aload_n hx hb dX3_patch_0 rfl (lv_at hl 0 rfl) ?_
  refine lv_iload_n hx hb dX3_patch_1 rfl (lv_at hl 1 rfl) ?_
  refine cv_r (As := [.int (nI i)]) (rest := []) (ws' := [(ba, .inr (3, [.ref bw])), (bw, .inl (G.2.1 4, 4, .inr (.inr (.inr (.inr wf)))))]) ⟨hx, hb, hml, hown, hts⟩ (kX3_wireAt l G ba bw wf i wa (by first | assumption | omega) (by first | assumption | omega)) (cwV 1 hts gX3_patch_X3_wireAt rfl rfl rfl (by decide +kernel) ⟨Nat.le_of_ble_eq_true rfl, Nat.le_of_ble_eq_true rfl⟩) (va_recv hK hP (ci := 3) (q0 := 0) rfl rfl) hE hK hP hD hS hA hl.1 [0, 1] rfl rfl rfl rfl rfl rfl (Nat.le_of_ble_eq_true rfl) dX3_patch_2 ⟨Nat.zero_le _, Nat.zero_le _⟩ (fun H locs hP hD hS => ?_)
  refine lv_astore_n (lv' := [(3, .ref wa), (0, .ref ba), (1, .int (nI i)), (2, .int wi)]) hx hb dX3_patch_5 rfl hl (by decide) rfl (fun ls hl => ?_)
  refine lv_aload_n hx hb dX3_patch_6 rfl (lv_at hl 1 rfl) ?_
  refine lv_iload_n hx hb dX3_patch_7 rfl (lv_at hl 3 rfl) ?_
  exact cv_x (As := [.int wi]) (rest := []) ⟨hx, hb, hml, hown, hts⟩ (kX3_wireAtX l hl9 G ba bw wf wi (by first | assumption | omega)) (cwV 1 hts gX3_patch_X3_wireAt rfl rfl rfl (by decide +kernel) ⟨Nat.le_of_ble_eq_true rfl, Nat.le_of_ble_eq_true rfl⟩) (va_recv hK hP (ci := 3) (q0 := 0) rfl rfl) hE hK hP hD hS hA hl.1 [0, 1] rfl rfl rfl rfl rfl (Nat.le_of_ble_eq_true rfl) dX3_patch_8 (Nat.le_of_ble_eq_true rfl) (Nat.le_of_ble_eq_true rfl) htab hlocks
set_option maxHeartbeats 4000000 in
set_option maxRecDepth 100000 in
theorem kX3_putX1 (l : Launch) (hl9 : l.stackTraces = false) (G : GT) (ba : Nat) (bw : Nat) (wf : Nat → Option Nat) (wa : Nat) (i : Nat) (pa : Nat) (pr : Nat) (wo : Nat) (wl : Nat) (tr : Int32) (dr : Int64) (wt : Int64) (r : Nat) (gr : Int64) (le : Int64) (hh : Int32) (lo : Int32) (hi4 : i < 4) (hwf : wf i = some wa) (hill : ¬ fX1_isIll i (fX1_codeOf i hh lo) = 0) : CX l yX3_put wsX3_put { frames := 7, cells := 1, slots := 6, locals := 106 } G [.ref ba, .int (nI i), .int hh, .int lo] [(ba, .inr (3, [.ref bw])), (bw, .inl (G.2.1 4, 4, .inr (.inr (.inr (.inr wf))))), (wa, .inr (2, [.ref (G.2.2.1 i), .ref pa, .ref pr, .ref wo, .ref wl, .int tr, .long dr, .long wt, .int (nI r), .long gr, .long le]))] nIAE := by
  refine en_x (cc := cX3_put) (maxL := 5) (ret := (some .boolean)) (own := RX3) (by decide) rfl rfl (Nat.le_of_ble_eq_true rfl) ?_
  intro p e s m below meth c A ls htab hx hb hr hts hown hml hlocks hA hK hE hP hD hS hl
  have hl : lv_has ls 5 [(0, .ref ba), (1, .int (nI i)), (2, .int hh), (3, .int lo)] := hl
  refine lv_aload_n hx hb dX3_put_0 rfl (lv_at hl 0 rfl) ?_
  refine lv_iload_n hx hb dX3_put_1 rfl (lv_at hl 1 rfl) ?_
  refine cv_r (As := [.int (nI i)]) (rest := []) (ws' := [(ba, .inr (3, [.ref bw])), (bw, .inl (G.2.1 4, 4, .inr (.inr (.inr (.inr wf))))), (wa, .inr (2, [.ref (G.2.2.1 i), .ref pa, .ref pr, .ref wo, .ref wl, .int tr, .long dr, .long wt, .int (nI r), .long gr, .long le]))]) ⟨hx, hb, hml, hown, hts⟩ (kX3_wireAt l G ba bw wf i wa (by first | assumption | omega) (by first | assumption | omega)) (cwV 1 hts gX3_put_X3_wireAt rfl rfl rfl (by decide +kernel) ⟨Nat.le_of_ble_eq_true rfl, Nat.le_of_ble_eq_true rfl⟩) (va_recv hK hP (ci := 3) (q0 := 0) rfl rfl) hE hK hP hD hS hA hl.1 [0, 1] rfl rfl rfl rfl rfl rfl (Nat.le_of_ble_eq_true rfl) dX3_put_2 ⟨Nat.zero_le _, Nat.zero_le _⟩ (fun H locs hP hD hS => ?_)
  refine lv_astore (lv' := [(4, .ref wa), (0, .ref ba), (1, .int (nI i)), (2, .int hh), (3, .int lo)]) hx hb dX3_put_5 hl (by decide) rfl (fun ls hl => ?_)
  refine lv_aload hx hb dX3_put_7 (lv_at hl 0 rfl) ?_
  refine lv_aload hx hb dX3_put_9 (lv_at hl 0 rfl) ?_
  refine lv_iload_n hx hb dX3_put_11 rfl (lv_at hl 3 rfl) ?_
  refine lv_iload_n hx hb dX3_put_12 rfl (lv_at hl 4 rfl) ?_
  exact cs_x (As := [.ref wa, .int hh, .int lo]) (rest := [.ref wa]) ⟨hx, hb, hml, hown, hts⟩ (kX3_numberOnX l hl9 G wa i pa pr wo wl tr dr wt r gr le hh lo (by first | assumption | omega) (by first | assumption | omega)) (va_cwS 3 hts gX3_put_X3_numberOn rfl rfl rfl (by decide +kernel) ⟨Nat.le_of_ble_eq_true rfl, Nat.le_of_ble_eq_true rfl⟩) hE hK hP hD hS hA hl.1 [2] rfl rfl rfl rfl rfl (Nat.le_of_ble_eq_true rfl) dX3_put_13 (Nat.le_of_ble_eq_true rfl) (Nat.le_of_ble_eq_true rfl) htab hlocks
set_option maxHeartbeats 4000000 in
set_option maxRecDepth 100000 in
theorem kX3_pedalX1 (l : Launch) (hl9 : l.stackTraces = false) (G : GT) (ba : Nat) (bw : Nat) (wf : Nat → Option Nat) (wa : Nat) (i : Nat) (pa : Nat) (pr : Nat) (wo : Nat) (wl : Nat) (tr : Int32) (dr : Int64) (wt : Int64) (r : Nat) (gr : Int64) (le : Int64) (kd : Int32) (hh : Int32) (lo : Int32) (hi4 : i < 4) (hwf : wf i = some wa) (hkd : fX1_hasKind i kd = 0) : CX l yX3_pedal wsX3_pedal { frames := 6, cells := 1, slots := 6, locals := 82 } G [.ref ba, .int (nI i), .int kd, .int hh, .int lo] [(ba, .inr (3, [.ref bw])), (bw, .inl (G.2.1 4, 4, .inr (.inr (.inr (.inr wf))))), (wa, .inr (2, [.ref (G.2.2.1 i), .ref pa, .ref pr, .ref wo, .ref wl, .int tr, .long dr, .long wt, .int (nI r), .long gr, .long le]))] nIAE := by
  refine en_x (cc := cX3_pedal) (maxL := 8) (ret := (some .int)) (own := RX3) (by decide) rfl rfl (Nat.le_of_ble_eq_true rfl) ?_
  intro p e s m below meth c A ls htab hx hb hr hts hown hml hlocks hA hK hE hP hD hS hl
  have hl : lv_has ls 8 [(0, .ref ba), (1, .int (nI i)), (2, .int kd), (3, .int hh), (4, .int lo)] := hl
  refine lv_aload_n hx hb dX3_pedal_0 rfl (lv_at hl 0 rfl) ?_
  refine lv_iload_n hx hb dX3_pedal_1 rfl (lv_at hl 1 rfl) ?_
  refine cv_r (As := [.int (nI i)]) (rest := []) (ws' := [(ba, .inr (3, [.ref bw])), (bw, .inl (G.2.1 4, 4, .inr (.inr (.inr (.inr wf))))), (wa, .inr (2, [.ref (G.2.2.1 i), .ref pa, .ref pr, .ref wo, .ref wl, .int tr, .long dr, .long wt, .int (nI r), .long gr, .long le]))]) ⟨hx, hb, hml, hown, hts⟩ (kX3_wireAt l G ba bw wf i wa (by first | assumption | omega) (by first | assumption | omega)) (cwV 1 hts gX3_pedal_X3_wireAt rfl rfl rfl (by decide +kernel) ⟨Nat.le_of_ble_eq_true rfl, Nat.le_of_ble_eq_true rfl⟩) (va_recv hK hP (ci := 3) (q0 := 0) rfl rfl) hE hK hP hD hS hA hl.1 [0, 1] rfl rfl rfl rfl rfl rfl (Nat.le_of_ble_eq_true rfl) dX3_pedal_2 ⟨Nat.zero_le _, Nat.zero_le _⟩ (fun H locs hP hD hS => ?_)
  refine lv_astore (lv' := [(5, .ref wa), (0, .ref ba), (1, .int (nI i)), (2, .int kd), (3, .int hh), (4, .int lo)]) hx hb dX3_pedal_5 hl (by decide) rfl (fun ls hl => ?_)
  refine lv_aload hx hb dX3_pedal_7 (lv_at hl 0 rfl) ?_
  refine va_get (D := G.1) (ci := 2) (v := .ref (G.2.2.1 i)) (C := RX2) (T := TX2) (N := 11) hx hb hts (by decide +kernel) hown hK hP 2 rfl rfl 0 (by decide) (hts (.fieldLink RX3 34 "PedalBoard$Wire" "sort" "LPedalBoard$Sort;") (by decide +kernel)) (fun _ h9 => h9) rfl dX3_pedal_9 ?_
  refine lv_iload_n hx hb dX3_pedal_12 rfl (lv_at hl 3 rfl) ?_
  refine cv_i (As := [.int kd]) (rest := []) ⟨hx, hb, hml, hown, hts⟩ (kX1_hasKind l G i kd hi4) (cwV 1 hts gX3_pedal_X1_hasKind rfl rfl rfl (by decide +kernel) ⟨Nat.le_of_ble_eq_true rfl, Nat.le_of_ble_eq_true rfl⟩) (so_rec hE hi4 hS) hE hK hP hD hS hA hl.1 [] rfl rfl rfl rfl rfl rfl (Nat.le_of_ble_eq_true rfl) dX3_pedal_13 ⟨Nat.zero_le _, Nat.zero_le _⟩ (fun H locs hP hD hS => ?_)
  have hP : va_P G.1 vwCl [(ba, .inr (3, [.ref bw])), (bw, .inl (G.2.1 4, 4, .inr (.inr (.inr (.inr wf))))), (wa, .inr (2, [.ref (G.2.2.1 i), .ref pa, .ref pr, .ref wo, .ref wl, .int tr, .long dr, .long wt, .int (nI r), .long gr, .long le]))] H := hP
  have hD : va_D A [(ba, .inr (3, [.ref bw])), (bw, .inl (G.2.1 4, 4, .inr (.inr (.inr (.inr wf))))), (wa, .inr (2, [.ref (G.2.2.1 i), .ref pa, .ref pr, .ref wo, .ref wl, .int tr, .long dr, .long wt, .int (nI r), .long gr, .long le]))] := hD
  refine bz_ne (tgt := 29) hx hb dX3_pedal_16 (by decide) (fun _ => ?_) (fun h9 => absurd hkd h9)
  exact tx_A (text := "no such kind on this wire") hx hb hl9 htab hts (by intro w h; first | exact List.mem_cons_of_mem _ (List.mem_append_right _ h) | exact List.mem_cons_of_mem _ (List.mem_append_left _ (List.mem_append_right _ h))) (by decide +kernel) (by decide +kernel) hown (hl.1.trans hml.symm) hlocks hE hS (by decide +kernel) hP ⟨Nat.le_of_ble_eq_true rfl, Nat.le_of_ble_eq_true rfl, Nat.le_of_ble_eq_true rfl, Nat.le_of_ble_eq_true rfl⟩ dX3_pedal_19 dX3_pedal_22 dX3_pedal_23 dX3_pedal_25 dX3_pedal_28
set_option maxHeartbeats 4000000 in
set_option maxRecDepth 100000 in
theorem kX3_pedalX2 (l : Launch) (hl9 : l.stackTraces = false) (G : GT) (ba : Nat) (bw : Nat) (wf : Nat → Option Nat) (wa : Nat) (i : Nat) (pa : Nat) (pr : Nat) (wo : Nat) (wl : Nat) (tr : Int32) (dr : Int64) (wt : Int64) (r : Nat) (gr : Int64) (le : Int64) (kd : Int32) (hh : Int32) (lo : Int32) (hi4 : i < 4) (hwf : wf i = some wa) (hkd : ¬ fX1_hasKind i kd = 0) (hill : ¬ fX1_isIll i (fX1_codeOf i hh lo) = 0) : CX l yX3_pedal wsX3_pedal { frames := 7, cells := 1, slots := 6, locals := 106 } G [.ref ba, .int (nI i), .int kd, .int hh, .int lo] [(ba, .inr (3, [.ref bw])), (bw, .inl (G.2.1 4, 4, .inr (.inr (.inr (.inr wf))))), (wa, .inr (2, [.ref (G.2.2.1 i), .ref pa, .ref pr, .ref wo, .ref wl, .int tr, .long dr, .long wt, .int (nI r), .long gr, .long le]))] nIAE := by
  refine en_x (cc := cX3_pedal) (maxL := 8) (ret := (some .int)) (own := RX3) (by decide) rfl rfl (Nat.le_of_ble_eq_true rfl) ?_
  intro p e s m below meth c A ls htab hx hb hr hts hown hml hlocks hA hK hE hP hD hS hl
  have hl : lv_has ls 8 [(0, .ref ba), (1, .int (nI i)), (2, .int kd), (3, .int hh), (4, .int lo)] := hl
  refine lv_aload_n hx hb dX3_pedal_0 rfl (lv_at hl 0 rfl) ?_
  refine lv_iload_n hx hb dX3_pedal_1 rfl (lv_at hl 1 rfl) ?_
  refine cv_r (As := [.int (nI i)]) (rest := []) (ws' := [(ba, .inr (3, [.ref bw])), (bw, .inl (G.2.1 4, 4, .inr (.inr (.inr (.inr wf))))), (wa, .inr (2, [.ref (G.2.2.1 i), .ref pa, .ref pr, .ref wo, .ref wl, .int tr, .long dr, .long wt, .int (nI r), .long gr, .long le]))]) ⟨hx, hb, hml, hown, hts⟩ (kX3_wireAt l G ba bw wf i wa (by first | assumption | omega) (by first | assumption | omega)) (cwV 1 hts gX3_pedal_X3_wireAt rfl rfl rfl (by decide +kernel) ⟨Nat.le_of_ble_eq_true rfl, Nat.le_of_ble_eq_true rfl⟩) (va_recv hK hP (ci := 3) (q0 := 0) rfl rfl) hE hK hP hD hS hA hl.1 [0, 1] rfl rfl rfl rfl rfl rfl (Nat.le_of_ble_eq_true rfl) dX3_pedal_2 ⟨Nat.zero_le _, Nat.zero_le _⟩ (fun H locs hP hD hS => ?_)
  refine lv_astore (lv' := [(5, .ref wa), (0, .ref ba), (1, .int (nI i)), (2, .int kd), (3, .int hh), (4, .int lo)]) hx hb dX3_pedal_5 hl (by decide) rfl (fun ls hl => ?_)
  refine lv_aload hx hb dX3_pedal_7 (lv_at hl 0 rfl) ?_
  refine va_get (D := G.1) (ci := 2) (v := .ref (G.2.2.1 i)) (C := RX2) (T := TX2) (N := 11) hx hb hts (by decide +kernel) hown hK hP 2 rfl rfl 0 (by decide) (hts (.fieldLink RX3 34 "PedalBoard$Wire" "sort" "LPedalBoard$Sort;") (by decide +kernel)) (fun _ h9 => h9) rfl dX3_pedal_9 ?_
  refine lv_iload_n hx hb dX3_pedal_12 rfl (lv_at hl 3 rfl) ?_
  refine cv_i (As := [.int kd]) (rest := []) ⟨hx, hb, hml, hown, hts⟩ (kX1_hasKind l G i kd hi4) (cwV 1 hts gX3_pedal_X1_hasKind rfl rfl rfl (by decide +kernel) ⟨Nat.le_of_ble_eq_true rfl, Nat.le_of_ble_eq_true rfl⟩) (so_rec hE hi4 hS) hE hK hP hD hS hA hl.1 [] rfl rfl rfl rfl rfl rfl (Nat.le_of_ble_eq_true rfl) dX3_pedal_13 ⟨Nat.zero_le _, Nat.zero_le _⟩ (fun H locs hP hD hS => ?_)
  have hP : va_P G.1 vwCl [(ba, .inr (3, [.ref bw])), (bw, .inl (G.2.1 4, 4, .inr (.inr (.inr (.inr wf))))), (wa, .inr (2, [.ref (G.2.2.1 i), .ref pa, .ref pr, .ref wo, .ref wl, .int tr, .long dr, .long wt, .int (nI r), .long gr, .long le]))] H := hP
  have hD : va_D A [(ba, .inr (3, [.ref bw])), (bw, .inl (G.2.1 4, 4, .inr (.inr (.inr (.inr wf))))), (wa, .inr (2, [.ref (G.2.2.1 i), .ref pa, .ref pr, .ref wo, .ref wl, .int tr, .long dr, .long wt, .int (nI r), .long gr, .long le]))] := hD
  refine bz_ne (tgt := 29) hx hb dX3_pedal_16 (by decide) (fun h9 => absurd h9 hkd) (fun _ => ?_)
  refine lv_aload hx hb dX3_pedal_29 (lv_at hl 0 rfl) ?_
  refine lv_iload_n hx hb dX3_pedal_31 rfl (lv_at hl 4 rfl) ?_
  refine lv_iload hx hb dX3_pedal_32 (lv_at hl 5 rfl) ?_
  exact cs_x (As := [.ref wa, .int hh, .int lo]) (rest := []) ⟨hx, hb, hml, hown, hts⟩ (kX3_numberOnX l hl9 G wa i pa pr wo wl tr dr wt r gr le hh lo (by first | assumption | omega) (by first | assumption | omega)) (va_cwS 3 hts gX3_pedal_X3_numberOn rfl rfl rfl (by decide +kernel) ⟨Nat.le_of_ble_eq_true rfl, Nat.le_of_ble_eq_true rfl⟩) hE hK hP hD hS hA hl.1 [2] rfl rfl rfl rfl rfl (Nat.le_of_ble_eq_true rfl) dX3_pedal_34 (Nat.le_of_ble_eq_true rfl) (Nat.le_of_ble_eq_true rfl) htab hlocks
set_option maxHeartbeats 4000000 in
set_option maxRecDepth 100000 in
theorem kX3_pedalX3 (l : Launch) (hl9 : l.stackTraces = false) (G : GT) (ba : Nat) (bw : Nat) (wf : Nat → Option Nat) (wa : Nat) (i : Nat) (pa : Nat) (pr : Nat) (wo : Nat) (wl : Nat) (tr : Int32) (dr : Int64) (wt : Int64) (r : Nat) (gr : Int64) (le : Int64) (pk : Nat) (pn : Nat) (po : Nat) (n : Nat) (kd : Int32) (hh : Int32) (lo : Int32) (hi4 : i < 4) (hwf : wf i = some wa) (hkd : ¬ fX1_hasKind i kd = 0) (hill : fX1_isIll i (fX1_codeOf i hh lo) = 0) (hn : n = 12) : CX l yX3_pedal wsX3_pedal { frames := 6, cells := 1, slots := 6, locals := 82 } G [.ref ba, .int (nI i), .int kd, .int hh, .int lo] [(ba, .inr (3, [.ref bw])), (bw, .inl (G.2.1 4, 4, .inr (.inr (.inr (.inr wf))))), (wa, .inr (2, [.ref (G.2.2.1 i), .ref pa, .ref pr, .ref wo, .ref wl, .int tr, .long dr, .long wt, .int (nI r), .long gr, .long le])), (pa, .inr (0, [.ref pk, .ref pn, .ref po, .int (nI n)]))] nISE := by
  refine en_x (cc := cX3_pedal) (maxL := 8) (ret := (some .int)) (own := RX3) (by decide) rfl rfl (Nat.le_of_ble_eq_true rfl) ?_
  intro p e s m below meth c A ls htab hx hb hr hts hown hml hlocks hA hK hE hP hD hS hl
  have hl : lv_has ls 8 [(0, .ref ba), (1, .int (nI i)), (2, .int kd), (3, .int hh), (4, .int lo)] := hl
  refine lv_aload_n hx hb dX3_pedal_0 rfl (lv_at hl 0 rfl) ?_
  refine lv_iload_n hx hb dX3_pedal_1 rfl (lv_at hl 1 rfl) ?_
  refine cv_r (As := [.int (nI i)]) (rest := []) (ws' := [(ba, .inr (3, [.ref bw])), (bw, .inl (G.2.1 4, 4, .inr (.inr (.inr (.inr wf))))), (wa, .inr (2, [.ref (G.2.2.1 i), .ref pa, .ref pr, .ref wo, .ref wl, .int tr, .long dr, .long wt, .int (nI r), .long gr, .long le])), (pa, .inr (0, [.ref pk, .ref pn, .ref po, .int (nI n)]))]) ⟨hx, hb, hml, hown, hts⟩ (kX3_wireAt l G ba bw wf i wa (by first | assumption | omega) (by first | assumption | omega)) (cwV 1 hts gX3_pedal_X3_wireAt rfl rfl rfl (by decide +kernel) ⟨Nat.le_of_ble_eq_true rfl, Nat.le_of_ble_eq_true rfl⟩) (va_recv hK hP (ci := 3) (q0 := 0) rfl rfl) hE hK hP hD hS hA hl.1 [0, 1] rfl rfl rfl rfl rfl rfl (Nat.le_of_ble_eq_true rfl) dX3_pedal_2 ⟨Nat.zero_le _, Nat.zero_le _⟩ (fun H locs hP hD hS => ?_)
  refine lv_astore (lv' := [(5, .ref wa), (0, .ref ba), (1, .int (nI i)), (2, .int kd), (3, .int hh), (4, .int lo)]) hx hb dX3_pedal_5 hl (by decide) rfl (fun ls hl => ?_)
  refine lv_aload hx hb dX3_pedal_7 (lv_at hl 0 rfl) ?_
  refine va_get (D := G.1) (ci := 2) (v := .ref (G.2.2.1 i)) (C := RX2) (T := TX2) (N := 11) hx hb hts (by decide +kernel) hown hK hP 2 rfl rfl 0 (by decide) (hts (.fieldLink RX3 34 "PedalBoard$Wire" "sort" "LPedalBoard$Sort;") (by decide +kernel)) (fun _ h9 => h9) rfl dX3_pedal_9 ?_
  refine lv_iload_n hx hb dX3_pedal_12 rfl (lv_at hl 3 rfl) ?_
  refine cv_i (As := [.int kd]) (rest := []) ⟨hx, hb, hml, hown, hts⟩ (kX1_hasKind l G i kd hi4) (cwV 1 hts gX3_pedal_X1_hasKind rfl rfl rfl (by decide +kernel) ⟨Nat.le_of_ble_eq_true rfl, Nat.le_of_ble_eq_true rfl⟩) (so_rec hE hi4 hS) hE hK hP hD hS hA hl.1 [] rfl rfl rfl rfl rfl rfl (Nat.le_of_ble_eq_true rfl) dX3_pedal_13 ⟨Nat.zero_le _, Nat.zero_le _⟩ (fun H locs hP hD hS => ?_)
  have hP : va_P G.1 vwCl [(ba, .inr (3, [.ref bw])), (bw, .inl (G.2.1 4, 4, .inr (.inr (.inr (.inr wf))))), (wa, .inr (2, [.ref (G.2.2.1 i), .ref pa, .ref pr, .ref wo, .ref wl, .int tr, .long dr, .long wt, .int (nI r), .long gr, .long le])), (pa, .inr (0, [.ref pk, .ref pn, .ref po, .int (nI n)]))] H := hP
  have hD : va_D A [(ba, .inr (3, [.ref bw])), (bw, .inl (G.2.1 4, 4, .inr (.inr (.inr (.inr wf))))), (wa, .inr (2, [.ref (G.2.2.1 i), .ref pa, .ref pr, .ref wo, .ref wl, .int tr, .long dr, .long wt, .int (nI r), .long gr, .long le])), (pa, .inr (0, [.ref pk, .ref pn, .ref po, .int (nI n)]))] := hD
  refine bz_ne (tgt := 29) hx hb dX3_pedal_16 (by decide) (fun h9 => absurd h9 hkd) (fun _ => ?_)
  refine lv_aload hx hb dX3_pedal_29 (lv_at hl 0 rfl) ?_
  refine lv_iload_n hx hb dX3_pedal_31 rfl (lv_at hl 4 rfl) ?_
  refine lv_iload hx hb dX3_pedal_32 (lv_at hl 5 rfl) ?_
  refine cs_l (As := [.ref wa, .int hh, .int lo]) (rest := []) (ws' := [(ba, .inr (3, [.ref bw])), (bw, .inl (G.2.1 4, 4, .inr (.inr (.inr (.inr wf))))), (wa, .inr (2, [.ref (G.2.2.1 i), .ref pa, .ref pr, .ref wo, .ref wl, .int tr, .long dr, .long wt, .int (nI r), .long gr, .long le])), (pa, .inr (0, [.ref pk, .ref pn, .ref po, .int (nI n)]))]) ⟨hx, hb, hml, hown, hts⟩ (kX3_numberOn l G wa i pa pr wo wl tr dr wt r gr le hh lo (by first | assumption | omega) (by first | assumption | omega)) (va_cwS 3 hts gX3_pedal_X3_numberOn rfl rfl rfl (by decide +kernel) ⟨Nat.le_of_ble_eq_true rfl, Nat.le_of_ble_eq_true rfl⟩) hE hK hP hD hS hA hl.1 [2] rfl rfl rfl rfl rfl rfl (Nat.le_of_ble_eq_true rfl) dX3_pedal_34 ⟨Nat.zero_le _, Nat.zero_le _⟩ (fun H locs hP hD hS => ?_)
  refine lv_lstore (lv' := [(6, .long (fX1_codeOf i hh lo)), (5, .ref wa), (0, .ref ba), (1, .int (nI i)), (2, .int kd), (3, .int hh), (4, .int lo)]) hx hb dX3_pedal_37 hl (by decide) rfl (fun ls hl => ?_)
  refine lv_aload hx hb dX3_pedal_39 (lv_at hl 1 rfl) ?_
  refine va_get (D := G.1) (ci := 2) (v := .ref pa) (C := RX2) (T := TX2) (N := 11) hx hb hts (by decide +kernel) hown hK hP 2 rfl rfl 1 (by decide) (hts (.fieldLink RX3 51 "PedalBoard$Wire" "pedals" "LPedalBoard$Pedals;") (by decide +kernel)) (fun _ h9 => h9) rfl dX3_pedal_41 ?_
  refine cv_i (As := []) (rest := []) (ws' := [(ba, .inr (3, [.ref bw])), (bw, .inl (G.2.1 4, 4, .inr (.inr (.inr (.inr wf))))), (wa, .inr (2, [.ref (G.2.2.1 i), .ref pa, .ref pr, .ref wo, .ref wl, .int tr, .long dr, .long wt, .int (nI r), .long gr, .long le])), (pa, .inr (0, [.ref pk, .ref pn, .ref po, .int (nI n)]))]) ⟨hx, hb, hml, hown, hts⟩ (kX0_isFull l G pa pk pn po n) (cwV 0 hts gX3_pedal_X0_isFull rfl rfl rfl (by decide +kernel) ⟨Nat.le_of_ble_eq_true rfl, Nat.le_of_ble_eq_true rfl⟩) (va_recv hK hP (ci := 0) (q0 := 3) rfl rfl) hE hK hP hD hS hA hl.1 [3] rfl rfl rfl rfl rfl rfl (Nat.le_of_ble_eq_true rfl) dX3_pedal_44 ⟨Nat.zero_le _, Nat.zero_le _⟩ (fun H locs hP hD hS => ?_)
  refine bz_eq (tgt := 60) hx hb dX3_pedal_47 (by decide) (fun h9 => absurd h9 (isFull_1 hn)) (fun _ => ?_)
  exact tx_S (text := "the wire has all its pedals") hx hb hl9 htab hts (by intro w h; first | exact List.mem_cons_of_mem _ (List.mem_append_right _ h) | exact List.mem_cons_of_mem _ (List.mem_append_left _ (List.mem_append_right _ h))) (by decide +kernel) (by decide +kernel) hown (hl.1.trans hml.symm) hlocks hE hS (by decide +kernel) hP ⟨Nat.le_of_ble_eq_true rfl, Nat.le_of_ble_eq_true rfl, Nat.le_of_ble_eq_true rfl, Nat.le_of_ble_eq_true rfl⟩ dX3_pedal_50 dX3_pedal_53 dX3_pedal_54 dX3_pedal_56 dX3_pedal_59
set_option maxHeartbeats 4000000 in
set_option maxRecDepth 100000 in
theorem kX3_turnX1 (l : Launch) (hl9 : l.stackTraces = false) (G : GT) (ba : Nat) (bw : Nat) (wf : Nat → Option Nat) (wa : Nat) (i : Nat) (pa : Nat) (pr : Nat) (wo : Nat) (wl : Nat) (tr : Int32) (dr : Int64) (wt : Int64) (r : Nat) (gr : Int64) (le : Int64) (pk : Nat) (pn : Nat) (po : Nat) (n : Nat) (pl : Int32) (hh : Int32) (lo : Int32) (hi4 : i < 4) (hwf : wf i = some wa) (hhas : fX0_has n pl = 0) : CX l yX3_turn wsX3_turn { frames := 7, cells := 1, slots := 6, locals := 103 } G [.ref ba, .int (nI i), .int pl, .int hh, .int lo] [(ba, .inr (3, [.ref bw])), (bw, .inl (G.2.1 4, 4, .inr (.inr (.inr (.inr wf))))), (wa, .inr (2, [.ref (G.2.2.1 i), .ref pa, .ref pr, .ref wo, .ref wl, .int tr, .long dr, .long wt, .int (nI r), .long gr, .long le])), (pa, .inr (0, [.ref pk, .ref pn, .ref po, .int (nI n)]))] nIAE := by
  refine en_x (cc := cX3_turn) (maxL := 9) (ret := (some .boolean)) (own := RX3) (by decide) rfl rfl (Nat.le_of_ble_eq_true rfl) ?_
  intro p e s m below meth c A ls htab hx hb hr hts hown hml hlocks hA hK hE hP hD hS hl
  have hl : lv_has ls 9 [(0, .ref ba), (1, .int (nI i)), (2, .int pl), (3, .int hh), (4, .int lo)] := hl
  refine lv_aload_n hx hb dX3_turn_0 rfl (lv_at hl 0 rfl) ?_
  refine lv_iload_n hx hb dX3_turn_1 rfl (lv_at hl 1 rfl) ?_
  refine cv_r (As := [.int (nI i)]) (rest := []) (ws' := [(ba, .inr (3, [.ref bw])), (bw, .inl (G.2.1 4, 4, .inr (.inr (.inr (.inr wf))))), (wa, .inr (2, [.ref (G.2.2.1 i), .ref pa, .ref pr, .ref wo, .ref wl, .int tr, .long dr, .long wt, .int (nI r), .long gr, .long le])), (pa, .inr (0, [.ref pk, .ref pn, .ref po, .int (nI n)]))]) ⟨hx, hb, hml, hown, hts⟩ (kX3_wireAt l G ba bw wf i wa (by first | assumption | omega) (by first | assumption | omega)) (cwV 1 hts gX3_turn_X3_wireAt rfl rfl rfl (by decide +kernel) ⟨Nat.le_of_ble_eq_true rfl, Nat.le_of_ble_eq_true rfl⟩) (va_recv hK hP (ci := 3) (q0 := 0) rfl rfl) hE hK hP hD hS hA hl.1 [0, 1] rfl rfl rfl rfl rfl rfl (Nat.le_of_ble_eq_true rfl) dX3_turn_2 ⟨Nat.zero_le _, Nat.zero_le _⟩ (fun H locs hP hD hS => ?_)
  refine lv_astore (lv' := [(5, .ref wa), (0, .ref ba), (1, .int (nI i)), (2, .int pl), (3, .int hh), (4, .int lo)]) hx hb dX3_turn_5 hl (by decide) rfl (fun ls hl => ?_)
  refine lv_aload hx hb dX3_turn_7 (lv_at hl 0 rfl) ?_
  refine lv_iload_n hx hb dX3_turn_9 rfl (lv_at hl 3 rfl) ?_
  exact cs_x (As := [.ref wa, .int pl]) (rest := []) ⟨hx, hb, hml, hown, hts⟩ (kX3_needPedalX l hl9 G wa i pa pr wo wl tr dr wt r gr le pk pn po n pl (by first | assumption | omega)) (va_cwS 2 hts gX3_turn_X3_needPedal rfl rfl rfl (by decide +kernel) ⟨Nat.le_of_ble_eq_true rfl, Nat.le_of_ble_eq_true rfl⟩) hE hK hP hD hS hA hl.1 [2, 3] rfl rfl rfl rfl rfl (Nat.le_of_ble_eq_true rfl) dX3_turn_10 (Nat.le_of_ble_eq_true rfl) (Nat.le_of_ble_eq_true rfl) htab hlocks
set_option maxHeartbeats 4000000 in
set_option maxRecDepth 100000 in
theorem kX3_turnX2 (l : Launch) (hl9 : l.stackTraces = false) (G : GT) (ba : Nat) (bw : Nat) (wf : Nat → Option Nat) (wa : Nat) (i : Nat) (pa : Nat) (pr : Nat) (wo : Nat) (wl : Nat) (tr : Int32) (dr : Int64) (wt : Int64) (r : Nat) (gr : Int64) (le : Int64) (pk : Nat) (pn : Nat) (po : Nat) (n : Nat) (pl : Int32) (hh : Int32) (lo : Int32) (hi4 : i < 4) (hwf : wf i = some wa) (hhas : ¬ fX0_has n pl = 0) (hill : ¬ fX1_isIll i (fX1_codeOf i hh lo) = 0) : CX l yX3_turn wsX3_turn { frames := 7, cells := 1, slots := 6, locals := 106 } G [.ref ba, .int (nI i), .int pl, .int hh, .int lo] [(ba, .inr (3, [.ref bw])), (bw, .inl (G.2.1 4, 4, .inr (.inr (.inr (.inr wf))))), (wa, .inr (2, [.ref (G.2.2.1 i), .ref pa, .ref pr, .ref wo, .ref wl, .int tr, .long dr, .long wt, .int (nI r), .long gr, .long le])), (pa, .inr (0, [.ref pk, .ref pn, .ref po, .int (nI n)]))] nIAE := by
  refine en_x (cc := cX3_turn) (maxL := 9) (ret := (some .boolean)) (own := RX3) (by decide) rfl rfl (Nat.le_of_ble_eq_true rfl) ?_
  intro p e s m below meth c A ls htab hx hb hr hts hown hml hlocks hA hK hE hP hD hS hl
  have hl : lv_has ls 9 [(0, .ref ba), (1, .int (nI i)), (2, .int pl), (3, .int hh), (4, .int lo)] := hl
  refine lv_aload_n hx hb dX3_turn_0 rfl (lv_at hl 0 rfl) ?_
  refine lv_iload_n hx hb dX3_turn_1 rfl (lv_at hl 1 rfl) ?_
  refine cv_r (As := [.int (nI i)]) (rest := []) (ws' := [(ba, .inr (3, [.ref bw])), (bw, .inl (G.2.1 4, 4, .inr (.inr (.inr (.inr wf))))), (wa, .inr (2, [.ref (G.2.2.1 i), .ref pa, .ref pr, .ref wo, .ref wl, .int tr, .long dr, .long wt, .int (nI r), .long gr, .long le])), (pa, .inr (0, [.ref pk, .ref pn, .ref po, .int (nI n)]))]) ⟨hx, hb, hml, hown, hts⟩ (kX3_wireAt l G ba bw wf i wa (by first | assumption | omega) (by first | assumption | omega)) (cwV 1 hts gX3_turn_X3_wireAt rfl rfl rfl (by decide +kernel) ⟨Nat.le_of_ble_eq_true rfl, Nat.le_of_ble_eq_true rfl⟩) (va_recv hK hP (ci := 3) (q0 := 0) rfl rfl) hE hK hP hD hS hA hl.1 [0, 1] rfl rfl rfl rfl rfl rfl (Nat.le_of_ble_eq_true rfl) dX3_turn_2 ⟨Nat.zero_le _, Nat.zero_le _⟩ (fun H locs hP hD hS => ?_)
  refine lv_astore (lv' := [(5, .ref wa), (0, .ref ba), (1, .int (nI i)), (2, .int pl), (3, .int hh), (4, .int lo)]) hx hb dX3_turn_5 hl (by decide) rfl (fun ls hl => ?_)
  refine lv_aload hx hb dX3_turn_7 (lv_at hl 0 rfl) ?_
  refine lv_iload_n hx hb dX3_turn_9 rfl (lv_at hl 3 rfl) ?_
  refine cs_v (As := [.ref wa, .int pl]) (rest := []) (ws' := [(ba, .inr (3, [.ref bw])), (bw, .inl (G.2.1 4, 4, .inr (.inr (.inr (.inr wf))))), (wa, .inr (2, [.ref (G.2.2.1 i), .ref pa, .ref pr, .ref wo, .ref wl, .int tr, .long dr, .long wt, .int (nI r), .long gr, .long le])), (pa, .inr (0, [.ref pk, .ref pn, .ref po, .int (nI n)]))]) ⟨hx, hb, hml, hown, hts⟩ (kX3_needPedal l G wa i pa pr wo wl tr dr wt r gr le pk pn po n pl (by first | assumption | omega)) (va_cwS 2 hts gX3_turn_X3_needPedal rfl rfl rfl (by decide +kernel) ⟨Nat.le_of_ble_eq_true rfl, Nat.le_of_ble_eq_true rfl⟩) hE hK hP hD hS hA hl.1 [2, 3] rfl rfl rfl rfl rfl rfl (Nat.le_of_ble_eq_true rfl) dX3_turn_10 ⟨Nat.zero_le _, Nat.zero_le _⟩ (fun H locs hP hD hS => ?_)
  refine lv_aload hx hb dX3_turn_13 (lv_at hl 0 rfl) ?_
  refine lv_iload_n hx hb dX3_turn_15 rfl (lv_at hl 4 rfl) ?_
  refine lv_iload hx hb dX3_turn_16 (lv_at hl 5 rfl) ?_
  exact cs_x (As := [.ref wa, .int hh, .int lo]) (rest := []) ⟨hx, hb, hml, hown, hts⟩ (kX3_numberOnX l hl9 G wa i pa pr wo wl tr dr wt r gr le hh lo (by first | assumption | omega) (by first | assumption | omega)) (va_cwS 3 hts gX3_turn_X3_numberOn rfl rfl rfl (by decide +kernel) ⟨Nat.le_of_ble_eq_true rfl, Nat.le_of_ble_eq_true rfl⟩) hE hK hP hD hS hA hl.1 [2] rfl rfl rfl rfl rfl (Nat.le_of_ble_eq_true rfl) dX3_turn_18 (Nat.le_of_ble_eq_true rfl) (Nat.le_of_ble_eq_true rfl) htab hlocks
set_option maxHeartbeats 4000000 in
set_option maxRecDepth 100000 in
theorem kX3_tapX1 (l : Launch) (hl9 : l.stackTraces = false) (G : GT) (ba : Nat) (bw : Nat) (wf : Nat → Option Nat) (wa : Nat) (i : Nat) (pa : Nat) (pr : Nat) (wo : Nat) (wl : Nat) (tr : Int32) (dr : Int64) (wt : Int64) (r : Nat) (gr : Int64) (le : Int64) (pk : Nat) (pn : Nat) (po : Nat) (n : Nat) (pl : Int32) (hi4 : i < 4) (hwf : wf i = some wa) (hhas : fX0_has n pl = 0) : CX l yX3_tap wsX3_tap { frames := 7, cells := 1, slots := 6, locals := 103 } G [.ref ba, .int (nI i), .int pl] [(ba, .inr (3, [.ref bw])), (bw, .inl (G.2.1 4, 4, .inr (.inr (.inr (.inr wf))))), (wa, .inr (2, [.ref (G.2.2.1 i), .ref pa, .ref pr, .ref wo, .ref wl, .int tr, .long dr, .long wt, .int (nI r), .long gr, .long le])), (pa, .inr (0, [.ref pk, .ref pn, .ref po, .int (nI n)]))] nIAE := by
  refine en_x (cc := cX3_tap) (maxL := 4) (ret := (some .boolean)) (own := RX3) (by decide) rfl rfl (Nat.le_of_ble_eq_true rfl) ?_
  intro p e s m below meth c A ls htab hx hb hr hts hown hml hlocks hA hK hE hP hD hS hl
  have hl : lv_has ls 4 [(0, .ref ba), (1, .int (nI i)), (2, .int pl)] := hl
  refine lv_aload_n hx hb dX3_tap_0 rfl (lv_at hl 0 rfl) ?_
  refine lv_iload_n hx hb dX3_tap_1 rfl (lv_at hl 1 rfl) ?_
  refine cv_r (As := [.int (nI i)]) (rest := []) (ws' := [(ba, .inr (3, [.ref bw])), (bw, .inl (G.2.1 4, 4, .inr (.inr (.inr (.inr wf))))), (wa, .inr (2, [.ref (G.2.2.1 i), .ref pa, .ref pr, .ref wo, .ref wl, .int tr, .long dr, .long wt, .int (nI r), .long gr, .long le])), (pa, .inr (0, [.ref pk, .ref pn, .ref po, .int (nI n)]))]) ⟨hx, hb, hml, hown, hts⟩ (kX3_wireAt l G ba bw wf i wa (by first | assumption | omega) (by first | assumption | omega)) (cwV 1 hts gX3_tap_X3_wireAt rfl rfl rfl (by decide +kernel) ⟨Nat.le_of_ble_eq_true rfl, Nat.le_of_ble_eq_true rfl⟩) (va_recv hK hP (ci := 3) (q0 := 0) rfl rfl) hE hK hP hD hS hA hl.1 [0, 1] rfl rfl rfl rfl rfl rfl (Nat.le_of_ble_eq_true rfl) dX3_tap_2 ⟨Nat.zero_le _, Nat.zero_le _⟩ (fun H locs hP hD hS => ?_)
  refine lv_astore_n (lv' := [(3, .ref wa), (0, .ref ba), (1, .int (nI i)), (2, .int pl)]) hx hb dX3_tap_5 rfl hl (by decide) rfl (fun ls hl => ?_)
  refine lv_aload_n hx hb dX3_tap_6 rfl (lv_at hl 0 rfl) ?_
  refine lv_iload_n hx hb dX3_tap_7 rfl (lv_at hl 3 rfl) ?_
  exact cs_x (As := [.ref wa, .int pl]) (rest := []) ⟨hx, hb, hml, hown, hts⟩ (kX3_needPedalX l hl9 G wa i pa pr wo wl tr dr wt r gr le pk pn po n pl (by first | assumption | omega)) (va_cwS 2 hts gX3_tap_X3_needPedal rfl rfl rfl (by decide +kernel) ⟨Nat.le_of_ble_eq_true rfl, Nat.le_of_ble_eq_true rfl⟩) hE hK hP hD hS hA hl.1 [2, 3] rfl rfl rfl rfl rfl (Nat.le_of_ble_eq_true rfl) dX3_tap_8 (Nat.le_of_ble_eq_true rfl) (Nat.le_of_ble_eq_true rfl) htab hlocks
set_option maxHeartbeats 4000000 in
set_option maxRecDepth 100000 in
theorem kX3_swapX1 (l : Launch) (hl9 : l.stackTraces = false) (G : GT) (ba : Nat) (bw : Nat) (wf : Nat → Option Nat) (wa : Nat) (i : Nat) (pa : Nat) (pr : Nat) (wo : Nat) (wl : Nat) (tr : Int32) (dr : Int64) (wt : Int64) (r : Nat) (gr : Int64) (le : Int64) (pk : Nat) (pn : Nat) (po : Nat) (n : Nat) (pl : Int32) (pl2 : Int32) (hi4 : i < 4) (hwf : wf i = some wa) (hhas : fX0_has n pl = 0) : CX l yX3_swap wsX3_swap { frames := 7, cells := 1, slots := 6, locals := 103 } G [.ref ba, .int (nI i), .int pl, .int pl2] [(ba, .inr (3, [.ref bw])), (bw, .inl (G.2.1 4, 4, .inr (.inr (.inr (.inr wf))))), (wa, .inr (2, [.ref (G.2.2.1 i), .ref pa, .ref pr, .ref wo, .ref wl, .int tr, .long dr, .long wt, .int (nI r), .long gr, .long le])), (pa, .inr (0, [.ref pk, .ref pn, .ref po, .int (nI n)]))] nIAE := by
  refine en_x (cc := cX3_swap) (maxL := 6) (ret := (some .boolean)) (own := RX3) (by decide) rfl rfl (Nat.le_of_ble_eq_true rfl) ?_
  intro p e s m below meth c A ls htab hx hb hr hts hown hml hlocks hA hK hE hP hD hS hl
  have hl : lv_has ls 6 [(0, .ref ba), (1, .int (nI i)), (2, .int pl), (3, .int pl2)] := hl
  refine lv_aload_n hx hb dX3_swap_0 rfl (lv_at hl 0 rfl) ?_
  refine lv_iload_n hx hb dX3_swap_1 rfl (lv_at hl 1 rfl) ?_
  refine cv_r (As := [.int (nI i)]) (rest := []) (ws' := [(ba, .inr (3, [.ref bw])), (bw, .inl (G.2.1 4, 4, .inr (.inr (.inr (.inr wf))))), (wa, .inr (2, [.ref (G.2.2.1 i), .ref pa, .ref pr, .ref wo, .ref wl, .int tr, .long dr, .long wt, .int (nI r), .long gr, .long le])), (pa, .inr (0, [.ref pk, .ref pn, .ref po, .int (nI n)]))]) ⟨hx, hb, hml, hown, hts⟩ (kX3_wireAt l G ba bw wf i wa (by first | assumption | omega) (by first | assumption | omega)) (cwV 1 hts gX3_swap_X3_wireAt rfl rfl rfl (by decide +kernel) ⟨Nat.le_of_ble_eq_true rfl, Nat.le_of_ble_eq_true rfl⟩) (va_recv hK hP (ci := 3) (q0 := 0) rfl rfl) hE hK hP hD hS hA hl.1 [0, 1] rfl rfl rfl rfl rfl rfl (Nat.le_of_ble_eq_true rfl) dX3_swap_2 ⟨Nat.zero_le _, Nat.zero_le _⟩ (fun H locs hP hD hS => ?_)
  refine lv_astore (lv' := [(4, .ref wa), (0, .ref ba), (1, .int (nI i)), (2, .int pl), (3, .int pl2)]) hx hb dX3_swap_5 hl (by decide) rfl (fun ls hl => ?_)
  refine lv_aload hx hb dX3_swap_7 (lv_at hl 0 rfl) ?_
  refine lv_iload_n hx hb dX3_swap_9 rfl (lv_at hl 3 rfl) ?_
  exact cs_x (As := [.ref wa, .int pl]) (rest := []) ⟨hx, hb, hml, hown, hts⟩ (kX3_needPedalX l hl9 G wa i pa pr wo wl tr dr wt r gr le pk pn po n pl (by first | assumption | omega)) (va_cwS 2 hts gX3_swap_X3_needPedal rfl rfl rfl (by decide +kernel) ⟨Nat.le_of_ble_eq_true rfl, Nat.le_of_ble_eq_true rfl⟩) hE hK hP hD hS hA hl.1 [2, 3] rfl rfl rfl rfl rfl (Nat.le_of_ble_eq_true rfl) dX3_swap_10 (Nat.le_of_ble_eq_true rfl) (Nat.le_of_ble_eq_true rfl) htab hlocks
set_option maxHeartbeats 4000000 in
set_option maxRecDepth 100000 in
theorem kX3_swapX2 (l : Launch) (hl9 : l.stackTraces = false) (G : GT) (ba : Nat) (bw : Nat) (wf : Nat → Option Nat) (wa : Nat) (i : Nat) (pa : Nat) (pr : Nat) (wo : Nat) (wl : Nat) (tr : Int32) (dr : Int64) (wt : Int64) (r : Nat) (gr : Int64) (le : Int64) (pk : Nat) (pn : Nat) (po : Nat) (n : Nat) (pl : Int32) (pl2 : Int32) (hi4 : i < 4) (hwf : wf i = some wa) (hhas : ¬ fX0_has n pl = 0) (hhas2 : fX0_has n pl2 = 0) : CX l yX3_swap wsX3_swap { frames := 7, cells := 1, slots := 6, locals := 103 } G [.ref ba, .int (nI i), .int pl, .int pl2] [(ba, .inr (3, [.ref bw])), (bw, .inl (G.2.1 4, 4, .inr (.inr (.inr (.inr wf))))), (wa, .inr (2, [.ref (G.2.2.1 i), .ref pa, .ref pr, .ref wo, .ref wl, .int tr, .long dr, .long wt, .int (nI r), .long gr, .long le])), (pa, .inr (0, [.ref pk, .ref pn, .ref po, .int (nI n)]))] nIAE := by
  refine en_x (cc := cX3_swap) (maxL := 6) (ret := (some .boolean)) (own := RX3) (by decide) rfl rfl (Nat.le_of_ble_eq_true rfl) ?_
  intro p e s m below meth c A ls htab hx hb hr hts hown hml hlocks hA hK hE hP hD hS hl
  have hl : lv_has ls 6 [(0, .ref ba), (1, .int (nI i)), (2, .int pl), (3, .int pl2)] := hl
  refine lv_aload_n hx hb dX3_swap_0 rfl (lv_at hl 0 rfl) ?_
  refine lv_iload_n hx hb dX3_swap_1 rfl (lv_at hl 1 rfl) ?_
  refine cv_r (As := [.int (nI i)]) (rest := []) (ws' := [(ba, .inr (3, [.ref bw])), (bw, .inl (G.2.1 4, 4, .inr (.inr (.inr (.inr wf))))), (wa, .inr (2, [.ref (G.2.2.1 i), .ref pa, .ref pr, .ref wo, .ref wl, .int tr, .long dr, .long wt, .int (nI r), .long gr, .long le])), (pa, .inr (0, [.ref pk, .ref pn, .ref po, .int (nI n)]))]) ⟨hx, hb, hml, hown, hts⟩ (kX3_wireAt l G ba bw wf i wa (by first | assumption | omega) (by first | assumption | omega)) (cwV 1 hts gX3_swap_X3_wireAt rfl rfl rfl (by decide +kernel) ⟨Nat.le_of_ble_eq_true rfl, Nat.le_of_ble_eq_true rfl⟩) (va_recv hK hP (ci := 3) (q0 := 0) rfl rfl) hE hK hP hD hS hA hl.1 [0, 1] rfl rfl rfl rfl rfl rfl (Nat.le_of_ble_eq_true rfl) dX3_swap_2 ⟨Nat.zero_le _, Nat.zero_le _⟩ (fun H locs hP hD hS => ?_)
  refine lv_astore (lv' := [(4, .ref wa), (0, .ref ba), (1, .int (nI i)), (2, .int pl), (3, .int pl2)]) hx hb dX3_swap_5 hl (by decide) rfl (fun ls hl => ?_)
  refine lv_aload hx hb dX3_swap_7 (lv_at hl 0 rfl) ?_
  refine lv_iload_n hx hb dX3_swap_9 rfl (lv_at hl 3 rfl) ?_
  refine cs_v (As := [.ref wa, .int pl]) (rest := []) (ws' := [(ba, .inr (3, [.ref bw])), (bw, .inl (G.2.1 4, 4, .inr (.inr (.inr (.inr wf))))), (wa, .inr (2, [.ref (G.2.2.1 i), .ref pa, .ref pr, .ref wo, .ref wl, .int tr, .long dr, .long wt, .int (nI r), .long gr, .long le])), (pa, .inr (0, [.ref pk, .ref pn, .ref po, .int (nI n)]))]) ⟨hx, hb, hml, hown, hts⟩ (kX3_needPedal l G wa i pa pr wo wl tr dr wt r gr le pk pn po n pl (by first | assumption | omega)) (va_cwS 2 hts gX3_swap_X3_needPedal rfl rfl rfl (by decide +kernel) ⟨Nat.le_of_ble_eq_true rfl, Nat.le_of_ble_eq_true rfl⟩) hE hK hP hD hS hA hl.1 [2, 3] rfl rfl rfl rfl rfl rfl (Nat.le_of_ble_eq_true rfl) dX3_swap_10 ⟨Nat.zero_le _, Nat.zero_le _⟩ (fun H locs hP hD hS => ?_)
  refine lv_aload hx hb dX3_swap_13 (lv_at hl 0 rfl) ?_
  refine lv_iload_n hx hb dX3_swap_15 rfl (lv_at hl 4 rfl) ?_
  exact cs_x (As := [.ref wa, .int pl2]) (rest := []) ⟨hx, hb, hml, hown, hts⟩ (kX3_needPedalX l hl9 G wa i pa pr wo wl tr dr wt r gr le pk pn po n pl2 (by first | assumption | omega)) (va_cwS 2 hts gX3_swap_X3_needPedal rfl rfl rfl (by decide +kernel) ⟨Nat.le_of_ble_eq_true rfl, Nat.le_of_ble_eq_true rfl⟩) hE hK hP hD hS hA hl.1 [2, 3] rfl rfl rfl rfl rfl (Nat.le_of_ble_eq_true rfl) dX3_swap_16 (Nat.le_of_ble_eq_true rfl) (Nat.le_of_ble_eq_true rfl) htab hlocks
set_option maxHeartbeats 4000000 in
set_option maxRecDepth 100000 in
theorem kX3_playX1 (l : Launch) (hl9 : l.stackTraces = false) (G : GT) (ba : Nat) (bw : Nat) (wf : Nat → Option Nat) (wa : Nat) (i : Nat) (pa : Nat) (pr : Nat) (wo : Nat) (wl : Nat) (tr : Int32) (dr : Int64) (wt : Int64) (r : Nat) (gr : Int64) (le : Int64) (qi : Int32) (hi4 : i < 4) (hwf : wf i = some wa) (hq : qi < (1:Int32)) : CX l yX3_play wsX3_play { frames := 6, cells := 1, slots := 6, locals := 82 } G [.ref ba, .int (nI i), .int qi] [(ba, .inr (3, [.ref bw])), (bw, .inl (G.2.1 4, 4, .inr (.inr (.inr (.inr wf))))), (wa, .inr (2, [.ref (G.2.2.1 i), .ref pa, .ref pr, .ref wo, .ref wl, .int tr, .long dr, .long wt, .int (nI r), .long gr, .long le]))] nIAE := by
  refine en_x (cc := cX3_play) (maxL := 6) (ret := (some .int)) (own := RX3) (by decide) rfl rfl (Nat.le_of_ble_eq_true rfl) ?_
  intro p e s m below meth c A ls htab hx hb hr hts hown hml hlocks hA hK hE hP hD hS hl
  have hl : lv_has ls 6 [(0, .ref ba), (1, .int (nI i)), (2, .int qi)] := hl
  refine lv_aload_n hx hb dX3_play_0 rfl (lv_at hl 0 rfl) ?_
  refine lv_iload_n hx hb dX3_play_1 rfl (lv_at hl 1 rfl) ?_
  refine cv_r (As := [.int (nI i)]) (rest := []) (ws' := [(ba, .inr (3, [.ref bw])), (bw, .inl (G.2.1 4, 4, .inr (.inr (.inr (.inr wf))))), (wa, .inr (2, [.ref (G.2.2.1 i), .ref pa, .ref pr, .ref wo, .ref wl, .int tr, .long dr, .long wt, .int (nI r), .long gr, .long le]))]) ⟨hx, hb, hml, hown, hts⟩ (kX3_wireAt l G ba bw wf i wa (by first | assumption | omega) (by first | assumption | omega)) (cwV 1 hts gX3_play_X3_wireAt rfl rfl rfl (by decide +kernel) ⟨Nat.le_of_ble_eq_true rfl, Nat.le_of_ble_eq_true rfl⟩) (va_recv hK hP (ci := 3) (q0 := 0) rfl rfl) hE hK hP hD hS hA hl.1 [0, 1] rfl rfl rfl rfl rfl rfl (Nat.le_of_ble_eq_true rfl) dX3_play_2 ⟨Nat.zero_le _, Nat.zero_le _⟩ (fun H locs hP hD hS => ?_)
  refine lv_astore_n (lv' := [(3, .ref wa), (0, .ref ba), (1, .int (nI i)), (2, .int qi)]) hx hb dX3_play_5 rfl hl (by decide) rfl (fun ls hl => ?_)
  refine lv_iload_n hx hb dX3_play_6 rfl (lv_at hl 3 rfl) ?_
  refine lv_iconst (v := (1:Int32)) hx hb dX3_play_7 (by decide) ?_
  refine bi_lt (tgt := 17) hx hb dX3_play_8 (by decide) (fun _ => ?_) (fun h9 => absurd hq h9)
  exact tx_A (text := "rounds must be 1 to 50") hx hb hl9 htab hts (by intro w h; first | exact List.mem_cons_of_mem _ (List.mem_append_right _ h) | exact List.mem_cons_of_mem _ (List.mem_append_left _ (List.mem_append_right _ h))) (by decide +kernel) (by decide +kernel) hown (hl.1.trans hml.symm) hlocks hE hS (by decide +kernel) hP ⟨Nat.le_of_ble_eq_true rfl, Nat.le_of_ble_eq_true rfl, Nat.le_of_ble_eq_true rfl, Nat.le_of_ble_eq_true rfl⟩ dX3_play_17 dX3_play_20 dX3_play_21 dX3_play_23 dX3_play_26
set_option maxHeartbeats 4000000 in
set_option maxRecDepth 100000 in
theorem kX3_playX2 (l : Launch) (hl9 : l.stackTraces = false) (G : GT) (ba : Nat) (bw : Nat) (wf : Nat → Option Nat) (wa : Nat) (i : Nat) (pa : Nat) (pr : Nat) (wo : Nat) (wl : Nat) (tr : Int32) (dr : Int64) (wt : Int64) (r : Nat) (gr : Int64) (le : Int64) (qi : Int32) (hi4 : i < 4) (hwf : wf i = some wa) (hq : ¬ qi < (1:Int32)) (hq2 : (50:Int32) < qi) : CX l yX3_play wsX3_play { frames := 6, cells := 1, slots := 6, locals := 82 } G [.ref ba, .int (nI i), .int qi] [(ba, .inr (3, [.ref bw])), (bw, .inl (G.2.1 4, 4, .inr (.inr (.inr (.inr wf))))), (wa, .inr (2, [.ref (G.2.2.1 i), .ref pa, .ref pr, .ref wo, .ref wl, .int tr, .long dr, .long wt, .int (nI r), .long gr, .long le]))] nIAE := by
  refine en_x (cc := cX3_play) (maxL := 6) (ret := (some .int)) (own := RX3) (by decide) rfl rfl (Nat.le_of_ble_eq_true rfl) ?_
  intro p e s m below meth c A ls htab hx hb hr hts hown hml hlocks hA hK hE hP hD hS hl
  have hl : lv_has ls 6 [(0, .ref ba), (1, .int (nI i)), (2, .int qi)] := hl
  refine lv_aload_n hx hb dX3_play_0 rfl (lv_at hl 0 rfl) ?_
  refine lv_iload_n hx hb dX3_play_1 rfl (lv_at hl 1 rfl) ?_
  refine cv_r (As := [.int (nI i)]) (rest := []) (ws' := [(ba, .inr (3, [.ref bw])), (bw, .inl (G.2.1 4, 4, .inr (.inr (.inr (.inr wf))))), (wa, .inr (2, [.ref (G.2.2.1 i), .ref pa, .ref pr, .ref wo, .ref wl, .int tr, .long dr, .long wt, .int (nI r), .long gr, .long le]))]) ⟨hx, hb, hml, hown, hts⟩ (kX3_wireAt l G ba bw wf i wa (by first | assumption | omega) (by first | assumption | omega)) (cwV 1 hts gX3_play_X3_wireAt rfl rfl rfl (by decide +kernel) ⟨Nat.le_of_ble_eq_true rfl, Nat.le_of_ble_eq_true rfl⟩) (va_recv hK hP (ci := 3) (q0 := 0) rfl rfl) hE hK hP hD hS hA hl.1 [0, 1] rfl rfl rfl rfl rfl rfl (Nat.le_of_ble_eq_true rfl) dX3_play_2 ⟨Nat.zero_le _, Nat.zero_le _⟩ (fun H locs hP hD hS => ?_)
  refine lv_astore_n (lv' := [(3, .ref wa), (0, .ref ba), (1, .int (nI i)), (2, .int qi)]) hx hb dX3_play_5 rfl hl (by decide) rfl (fun ls hl => ?_)
  refine lv_iload_n hx hb dX3_play_6 rfl (lv_at hl 3 rfl) ?_
  refine lv_iconst (v := (1:Int32)) hx hb dX3_play_7 (by decide) ?_
  refine bi_lt (tgt := 17) hx hb dX3_play_8 (by decide) (fun h9 => absurd h9 hq) (fun _ => ?_)
  refine lv_iload_n hx hb dX3_play_11 rfl (lv_at hl 3 rfl) ?_
  refine lv_bipush (v := (50:Int32)) hx hb dX3_play_12 (by decide) ?_
  refine bi_le (tgt := 27) hx hb dX3_play_14 (by decide) (fun _ => ?_) (fun h9 => absurd hq2 h9)
  exact tx_A (text := "rounds must be 1 to 50") hx hb hl9 htab hts (by intro w h; first | exact List.mem_cons_of_mem _ (List.mem_append_right _ h) | exact List.mem_cons_of_mem _ (List.mem_append_left _ (List.mem_append_right _ h))) (by decide +kernel) (by decide +kernel) hown (hl.1.trans hml.symm) hlocks hE hS (by decide +kernel) hP ⟨Nat.le_of_ble_eq_true rfl, Nat.le_of_ble_eq_true rfl, Nat.le_of_ble_eq_true rfl, Nat.le_of_ble_eq_true rfl⟩ dX3_play_17 dX3_play_20 dX3_play_21 dX3_play_23 dX3_play_26
set_option maxHeartbeats 4000000 in
set_option maxRecDepth 100000 in
theorem kX3_codeX1 (l : Launch) (hl9 : l.stackTraces = false) (G : GT) (ba : Nat) (bw : Nat) (wf : Nat → Option Nat) (wa : Nat) (i : Nat) (pa : Nat) (pr : Nat) (wo : Nat) (wl : Nat) (tr : Int32) (dr : Int64) (wt : Int64) (r : Nat) (gr : Int64) (le : Int64) (wh : Int32) (hi4 : i < 4) (hwf : wf i = some wa) (hq : wh < 0) : CX l yX3_code wsX3_code { frames := 6, cells := 1, slots := 6, locals := 82 } G [.ref ba, .int (nI i), .int wh] [(ba, .inr (3, [.ref bw])), (bw, .inl (G.2.1 4, 4, .inr (.inr (.inr (.inr wf))))), (wa, .inr (2, [.ref (G.2.2.1 i), .ref pa, .ref pr, .ref wo, .ref wl, .int tr, .long dr, .long wt, .int (nI r), .long gr, .long le]))] nIAE := by
  refine en_x (cc := cX3_code) (maxL := 4) (ret := (some .long)) (own := RX3) (by decide) rfl rfl (Nat.le_of_ble_eq_true rfl) ?_
  intro p e s m below meth c A ls htab hx hb hr hts hown hml hlocks hA hK hE hP hD hS hl
  have hl : lv_has ls 4 [(0, .ref ba), (1, .int (nI i)), (2, .int wh)] := hl
  refine lv_aload_n hx hb dX3_code_0 rfl (lv_at hl 0 rfl) ?_
  refine lv_iload_n hx hb dX3_code_1 rfl (lv_at hl 1 rfl) ?_
  refine cv_r (As := [.int (nI i)]) (rest := []) (ws' := [(ba, .inr (3, [.ref bw])), (bw, .inl (G.2.1 4, 4, .inr (.inr (.inr (.inr wf))))), (wa, .inr (2, [.ref (G.2.2.1 i), .ref pa, .ref pr, .ref wo, .ref wl, .int tr, .long dr, .long wt, .int (nI r), .long gr, .long le]))]) ⟨hx, hb, hml, hown, hts⟩ (kX3_wireAt l G ba bw wf i wa (by first | assumption | omega) (by first | assumption | omega)) (cwV 1 hts gX3_code_X3_wireAt rfl rfl rfl (by decide +kernel) ⟨Nat.le_of_ble_eq_true rfl, Nat.le_of_ble_eq_true rfl⟩) (va_recv hK hP (ci := 3) (q0 := 0) rfl rfl) hE hK hP hD hS hA hl.1 [0, 1] rfl rfl rfl rfl rfl rfl (Nat.le_of_ble_eq_true rfl) dX3_code_2 ⟨Nat.zero_le _, Nat.zero_le _⟩ (fun H locs hP hD hS => ?_)
  refine lv_astore_n (lv' := [(3, .ref wa), (0, .ref ba), (1, .int (nI i)), (2, .int wh)]) hx hb dX3_code_5 rfl hl (by decide) rfl (fun ls hl => ?_)
  refine lv_iload_n hx hb dX3_code_6 rfl (lv_at hl 3 rfl) ?_
  refine bz_lt (tgt := 15) hx hb dX3_code_7 (by decide) (fun _ => ?_) (fun h9 => absurd hq h9)
  exact tx_A (text := "which must be 0 to 3") hx hb hl9 htab hts (by intro w h; first | exact List.mem_cons_of_mem _ (List.mem_append_right _ h) | exact List.mem_cons_of_mem _ (List.mem_append_left _ (List.mem_append_right _ h))) (by decide +kernel) (by decide +kernel) hown (hl.1.trans hml.symm) hlocks hE hS (by decide +kernel) hP ⟨Nat.le_of_ble_eq_true rfl, Nat.le_of_ble_eq_true rfl, Nat.le_of_ble_eq_true rfl, Nat.le_of_ble_eq_true rfl⟩ dX3_code_15 dX3_code_18 dX3_code_19 dX3_code_21 dX3_code_24
set_option maxHeartbeats 4000000 in
set_option maxRecDepth 100000 in
theorem kX3_codeX2 (l : Launch) (hl9 : l.stackTraces = false) (G : GT) (ba : Nat) (bw : Nat) (wf : Nat → Option Nat) (wa : Nat) (i : Nat) (pa : Nat) (pr : Nat) (wo : Nat) (wl : Nat) (tr : Int32) (dr : Int64) (wt : Int64) (r : Nat) (gr : Int64) (le : Int64) (wh : Int32) (hi4 : i < 4) (hwf : wf i = some wa) (hq : ¬ wh < 0) (hq2 : (3:Int32) < wh) : CX l yX3_code wsX3_code { frames := 6, cells := 1, slots := 6, locals := 82 } G [.ref ba, .int (nI i), .int wh] [(ba, .inr (3, [.ref bw])), (bw, .inl (G.2.1 4, 4, .inr (.inr (.inr (.inr wf))))), (wa, .inr (2, [.ref (G.2.2.1 i), .ref pa, .ref pr, .ref wo, .ref wl, .int tr, .long dr, .long wt, .int (nI r), .long gr, .long le]))] nIAE := by
  refine en_x (cc := cX3_code) (maxL := 4) (ret := (some .long)) (own := RX3) (by decide) rfl rfl (Nat.le_of_ble_eq_true rfl) ?_
  intro p e s m below meth c A ls htab hx hb hr hts hown hml hlocks hA hK hE hP hD hS hl
  have hl : lv_has ls 4 [(0, .ref ba), (1, .int (nI i)), (2, .int wh)] := hl
  refine lv_aload_n hx hb dX3_code_0 rfl (lv_at hl 0 rfl) ?_
  refine lv_iload_n hx hb dX3_code_1 rfl (lv_at hl 1 rfl) ?_
  refine cv_r (As := [.int (nI i)]) (rest := []) (ws' := [(ba, .inr (3, [.ref bw])), (bw, .inl (G.2.1 4, 4, .inr (.inr (.inr (.inr wf))))), (wa, .inr (2, [.ref (G.2.2.1 i), .ref pa, .ref pr, .ref wo, .ref wl, .int tr, .long dr, .long wt, .int (nI r), .long gr, .long le]))]) ⟨hx, hb, hml, hown, hts⟩ (kX3_wireAt l G ba bw wf i wa (by first | assumption | omega) (by first | assumption | omega)) (cwV 1 hts gX3_code_X3_wireAt rfl rfl rfl (by decide +kernel) ⟨Nat.le_of_ble_eq_true rfl, Nat.le_of_ble_eq_true rfl⟩) (va_recv hK hP (ci := 3) (q0 := 0) rfl rfl) hE hK hP hD hS hA hl.1 [0, 1] rfl rfl rfl rfl rfl rfl (Nat.le_of_ble_eq_true rfl) dX3_code_2 ⟨Nat.zero_le _, Nat.zero_le _⟩ (fun H locs hP hD hS => ?_)
  refine lv_astore_n (lv' := [(3, .ref wa), (0, .ref ba), (1, .int (nI i)), (2, .int wh)]) hx hb dX3_code_5 rfl hl (by decide) rfl (fun ls hl => ?_)
  refine lv_iload_n hx hb dX3_code_6 rfl (lv_at hl 3 rfl) ?_
  refine bz_lt (tgt := 15) hx hb dX3_code_7 (by decide) (fun h9 => absurd h9 hq) (fun _ => ?_)
  refine lv_iload_n hx hb dX3_code_10 rfl (lv_at hl 3 rfl) ?_
  refine lv_iconst (v := (3:Int32)) hx hb dX3_code_11 (by decide) ?_
  refine bi_le (tgt := 25) hx hb dX3_code_12 (by decide) (fun _ => ?_) (fun h9 => absurd hq2 h9)
  exact tx_A (text := "which must be 0 to 3") hx hb hl9 htab hts (by intro w h; first | exact List.mem_cons_of_mem _ (List.mem_append_right _ h) | exact List.mem_cons_of_mem _ (List.mem_append_left _ (List.mem_append_right _ h))) (by decide +kernel) (by decide +kernel) hown (hl.1.trans hml.symm) hlocks hE hS (by decide +kernel) hP ⟨Nat.le_of_ble_eq_true rfl, Nat.le_of_ble_eq_true rfl, Nat.le_of_ble_eq_true rfl, Nat.le_of_ble_eq_true rfl⟩ dX3_code_15 dX3_code_18 dX3_code_19 dX3_code_21 dX3_code_24
set_option maxHeartbeats 4000000 in
set_option maxRecDepth 100000 in
theorem kX3_codeX3 (l : Launch) (hl9 : l.stackTraces = false) (G : GT) (ba : Nat) (bw : Nat) (wf : Nat → Option Nat) (wa : Nat) (i : Nat) (pa : Nat) (pr : Nat) (wo : Nat) (wl : Nat) (tr : Int32) (dr : Int64) (wt : Int64) (r : Nat) (gr : Int64) (le : Int64) (hi4 : i < 4) (hwf : wf i = some wa) (hpk : fX2_hasPeaks r = 0) : CX l yX3_code wsX3_code { frames := 6, cells := 1, slots := 6, locals := 82 } G [.ref ba, .int (nI i), .int (2:Int32)] [(ba, .inr (3, [.ref bw])), (bw, .inl (G.2.1 4, 4, .inr (.inr (.inr (.inr wf))))), (wa, .inr (2, [.ref (G.2.2.1 i), .ref pa, .ref pr, .ref wo, .ref wl, .int tr, .long dr, .long wt, .int (nI r), .long gr, .long le]))] nISE := by
  refine en_x (cc := cX3_code) (maxL := 4) (ret := (some .long)) (own := RX3) (by decide) rfl rfl (Nat.le_of_ble_eq_true rfl) ?_
  intro p e s m below meth c A ls htab hx hb hr hts hown hml hlocks hA hK hE hP hD hS hl
  have hl : lv_has ls 4 [(0, .ref ba), (1, .int (nI i)), (2, .int (2:Int32))] := hl
  refine lv_aload_n hx hb dX3_code_0 rfl (lv_at hl 0 rfl) ?_
  refine lv_iload_n hx hb dX3_code_1 rfl (lv_at hl 1 rfl) ?_
  refine cv_r (As := [.int (nI i)]) (rest := []) (ws' := [(ba, .inr (3, [.ref bw])), (bw, .inl (G.2.1 4, 4, .inr (.inr (.inr (.inr wf))))), (wa, .inr (2, [.ref (G.2.2.1 i), .ref pa, .ref pr, .ref wo, .ref wl, .int tr, .long dr, .long wt, .int (nI r), .long gr, .long le]))]) ⟨hx, hb, hml, hown, hts⟩ (kX3_wireAt l G ba bw wf i wa (by first | assumption | omega) (by first | assumption | omega)) (cwV 1 hts gX3_code_X3_wireAt rfl rfl rfl (by decide +kernel) ⟨Nat.le_of_ble_eq_true rfl, Nat.le_of_ble_eq_true rfl⟩) (va_recv hK hP (ci := 3) (q0 := 0) rfl rfl) hE hK hP hD hS hA hl.1 [0, 1] rfl rfl rfl rfl rfl rfl (Nat.le_of_ble_eq_true rfl) dX3_code_2 ⟨Nat.zero_le _, Nat.zero_le _⟩ (fun H locs hP hD hS => ?_)
  refine lv_astore_n (lv' := [(3, .ref wa), (0, .ref ba), (1, .int (nI i)), (2, .int (2:Int32))]) hx hb dX3_code_5 rfl hl (by decide) rfl (fun ls hl => ?_)
  refine lv_iload_n hx hb dX3_code_6 rfl (lv_at hl 3 rfl) ?_
  refine bz_lt (tgt := 15) hx hb dX3_code_7 (by decide) (fun h9 => absurd h9 (by decide)) (fun _ => ?_)
  refine lv_iload_n hx hb dX3_code_10 rfl (lv_at hl 3 rfl) ?_
  refine lv_iconst (v := (3:Int32)) hx hb dX3_code_11 (by decide) ?_
  refine bi_le (tgt := 25) hx hb dX3_code_12 (by decide) (fun h9 => absurd h9 (by decide)) (fun _ => ?_)
  refine lv_iload_n hx hb dX3_code_25 rfl (lv_at hl 3 rfl) ?_
  refine bz_ne (tgt := 34) hx hb dX3_code_26 (by decide) (fun h9 => absurd h9 (by decide)) (fun _ => ?_)
  refine lv_iload_n hx hb dX3_code_34 rfl (lv_at hl 3 rfl) ?_
  refine lv_iconst (v := (1:Int32)) hx hb dX3_code_35 (by decide) ?_
  refine bi_ne (tgt := 44) hx hb dX3_code_36 (by decide) (fun h9 => absurd h9 (by decide)) (fun _ => ?_)
  refine lv_aload_n hx hb dX3_code_44 rfl (lv_at hl 0 rfl) ?_
  refine cv_i (As := []) (rest := []) (ws' := [(ba, .inr (3, [.ref bw])), (bw, .inl (G.2.1 4, 4, .inr (.inr (.inr (.inr wf))))), (wa, .inr (2, [.ref (G.2.2.1 i), .ref pa, .ref pr, .ref wo, .ref wl, .int tr, .long dr, .long wt, .int (nI r), .long gr, .long le]))]) ⟨hx, hb, hml, hown, hts⟩ (kX2_hasPeaks l G wa i pa pr wo wl tr dr wt r gr le) (cwV 0 hts gX3_code_X2_hasPeaks rfl rfl rfl (by decide +kernel) ⟨Nat.le_of_ble_eq_true rfl, Nat.le_of_ble_eq_true rfl⟩) (va_recv hK hP (ci := 2) (q0 := 2) rfl rfl) hE hK hP hD hS hA hl.1 [2] rfl rfl rfl rfl rfl rfl (Nat.le_of_ble_eq_true rfl) dX3_code_45 ⟨Nat.zero_le _, Nat.zero_le _⟩ (fun H locs hP hD hS => ?_)
  refine bz_ne (tgt := 61) hx hb dX3_code_48 (by decide) (fun _ => ?_) (fun h9 => absurd hpk h9)
  exact tx_S (text := "there are no peaks") hx hb hl9 htab hts (by intro w h; first | exact List.mem_cons_of_mem _ (List.mem_append_right _ h) | exact List.mem_cons_of_mem _ (List.mem_append_left _ (List.mem_append_right _ h))) (by decide +kernel) (by decide +kernel) hown (hl.1.trans hml.symm) hlocks hE hS (by decide +kernel) hP ⟨Nat.le_of_ble_eq_true rfl, Nat.le_of_ble_eq_true rfl, Nat.le_of_ble_eq_true rfl, Nat.le_of_ble_eq_true rfl⟩ dX3_code_51 dX3_code_54 dX3_code_55 dX3_code_57 dX3_code_60
set_option maxHeartbeats 4000000 in
set_option maxRecDepth 100000 in
theorem kX3_codeX4 (l : Launch) (hl9 : l.stackTraces = false) (G : GT) (ba : Nat) (bw : Nat) (wf : Nat → Option Nat) (wa : Nat) (i : Nat) (pa : Nat) (pr : Nat) (wo : Nat) (wl : Nat) (tr : Int32) (dr : Int64) (wt : Int64) (r : Nat) (gr : Int64) (le : Int64) (hi4 : i < 4) (hwf : wf i = some wa) (hpk : fX2_hasPeaks r = 0) : CX l yX3_code wsX3_code { frames := 6, cells := 1, slots := 6, locals := 82 } G [.ref ba, .int (nI i), .int (3:Int32)] [(ba, .inr (3, [.ref bw])), (bw, .inl (G.2.1 4, 4, .inr (.inr (.inr (.inr wf))))), (wa, .inr (2, [.ref (G.2.2.1 i), .ref pa, .ref pr, .ref wo, .ref wl, .int tr, .long dr, .long wt, .int (nI r), .long gr, .long le]))] nISE := by
  refine en_x (cc := cX3_code) (maxL := 4) (ret := (some .long)) (own := RX3) (by decide) rfl rfl (Nat.le_of_ble_eq_true rfl) ?_
  intro p e s m below meth c A ls htab hx hb hr hts hown hml hlocks hA hK hE hP hD hS hl
  have hl : lv_has ls 4 [(0, .ref ba), (1, .int (nI i)), (2, .int (3:Int32))] := hl
  refine lv_aload_n hx hb dX3_code_0 rfl (lv_at hl 0 rfl) ?_
  refine lv_iload_n hx hb dX3_code_1 rfl (lv_at hl 1 rfl) ?_
  refine cv_r (As := [.int (nI i)]) (rest := []) (ws' := [(ba, .inr (3, [.ref bw])), (bw, .inl (G.2.1 4, 4, .inr (.inr (.inr (.inr wf))))), (wa, .inr (2, [.ref (G.2.2.1 i), .ref pa, .ref pr, .ref wo, .ref wl, .int tr, .long dr, .long wt, .int (nI r), .long gr, .long le]))]) ⟨hx, hb, hml, hown, hts⟩ (kX3_wireAt l G ba bw wf i wa (by first | assumption | omega) (by first | assumption | omega)) (cwV 1 hts gX3_code_X3_wireAt rfl rfl rfl (by decide +kernel) ⟨Nat.le_of_ble_eq_true rfl, Nat.le_of_ble_eq_true rfl⟩) (va_recv hK hP (ci := 3) (q0 := 0) rfl rfl) hE hK hP hD hS hA hl.1 [0, 1] rfl rfl rfl rfl rfl rfl (Nat.le_of_ble_eq_true rfl) dX3_code_2 ⟨Nat.zero_le _, Nat.zero_le _⟩ (fun H locs hP hD hS => ?_)
  refine lv_astore_n (lv' := [(3, .ref wa), (0, .ref ba), (1, .int (nI i)), (2, .int (3:Int32))]) hx hb dX3_code_5 rfl hl (by decide) rfl (fun ls hl => ?_)
  refine lv_iload_n hx hb dX3_code_6 rfl (lv_at hl 3 rfl) ?_
  refine bz_lt (tgt := 15) hx hb dX3_code_7 (by decide) (fun h9 => absurd h9 (by decide)) (fun _ => ?_)
  refine lv_iload_n hx hb dX3_code_10 rfl (lv_at hl 3 rfl) ?_
  refine lv_iconst (v := (3:Int32)) hx hb dX3_code_11 (by decide) ?_
  refine bi_le (tgt := 25) hx hb dX3_code_12 (by decide) (fun h9 => absurd h9 (by decide)) (fun _ => ?_)
  refine lv_iload_n hx hb dX3_code_25 rfl (lv_at hl 3 rfl) ?_
  refine bz_ne (tgt := 34) hx hb dX3_code_26 (by decide) (fun h9 => absurd h9 (by decide)) (fun _ => ?_)
  refine lv_iload_n hx hb dX3_code_34 rfl (lv_at hl 3 rfl) ?_
  refine lv_iconst (v := (1:Int32)) hx hb dX3_code_35 (by decide) ?_
  refine bi_ne (tgt := 44) hx hb dX3_code_36 (by decide) (fun h9 => absurd h9 (by decide)) (fun _ => ?_)
  refine lv_aload_n hx hb dX3_code_44 rfl (lv_at hl 0 rfl) ?_
  refine cv_i (As := []) (rest := []) (ws' := [(ba, .inr (3, [.ref bw])), (bw, .inl (G.2.1 4, 4, .inr (.inr (.inr (.inr wf))))), (wa, .inr (2, [.ref (G.2.2.1 i), .ref pa, .ref pr, .ref wo, .ref wl, .int tr, .long dr, .long wt, .int (nI r), .long gr, .long le]))]) ⟨hx, hb, hml, hown, hts⟩ (kX2_hasPeaks l G wa i pa pr wo wl tr dr wt r gr le) (cwV 0 hts gX3_code_X2_hasPeaks rfl rfl rfl (by decide +kernel) ⟨Nat.le_of_ble_eq_true rfl, Nat.le_of_ble_eq_true rfl⟩) (va_recv hK hP (ci := 2) (q0 := 2) rfl rfl) hE hK hP hD hS hA hl.1 [2] rfl rfl rfl rfl rfl rfl (Nat.le_of_ble_eq_true rfl) dX3_code_45 ⟨Nat.zero_le _, Nat.zero_le _⟩ (fun H locs hP hD hS => ?_)
  refine bz_ne (tgt := 61) hx hb dX3_code_48 (by decide) (fun _ => ?_) (fun h9 => absurd hpk h9)
  exact tx_S (text := "there are no peaks") hx hb hl9 htab hts (by intro w h; first | exact List.mem_cons_of_mem _ (List.mem_append_right _ h) | exact List.mem_cons_of_mem _ (List.mem_append_left _ (List.mem_append_right _ h))) (by decide +kernel) (by decide +kernel) hown (hl.1.trans hml.symm) hlocks hE hS (by decide +kernel) hP ⟨Nat.le_of_ble_eq_true rfl, Nat.le_of_ble_eq_true rfl, Nat.le_of_ble_eq_true rfl, Nat.le_of_ble_eq_true rfl⟩ dX3_code_51 dX3_code_54 dX3_code_55 dX3_code_57 dX3_code_60
set_option maxHeartbeats 4000000 in
set_option maxRecDepth 100000 in
theorem kX3_traceX1 (l : Launch) (hl9 : l.stackTraces = false) (G : GT) (ba : Nat) (bw : Nat) (wf : Nat → Option Nat) (wa : Nat) (i : Nat) (pa : Nat) (pr : Nat) (wo : Nat) (wl : Nat) (tr : Int32) (dr : Int64) (wt : Int64) (r : Nat) (gr : Int64) (le : Int64) (pk : Nat) (pn : Nat) (po : Nat) (n : Nat) (pl : Int32) (hi4 : i < 4) (hwf : wf i = some wa) (hhas : fX0_has n pl = 0) : CX l yX3_trace wsX3_trace { frames := 7, cells := 1, slots := 6, locals := 103 } G [.ref ba, .int (nI i), .int pl] [(ba, .inr (3, [.ref bw])), (bw, .inl (G.2.1 4, 4, .inr (.inr (.inr (.inr wf))))), (wa, .inr (2, [.ref (G.2.2.1 i), .ref pa, .ref pr, .ref wo, .ref wl, .int tr, .long dr, .long wt, .int (nI r), .long gr, .long le])), (pa, .inr (0, [.ref pk, .ref pn, .ref po, .int (nI n)]))] nIAE := by
  refine en_x (cc := cX3_trace) (maxL := 4) (ret := (some .long)) (own := RX3) (by decide) rfl rfl (Nat.le_of_ble_eq_true rfl) ?_
  intro p e s m below meth c A ls htab hx hb hr hts hown hml hlocks hA hK hE hP hD hS hl
  have hl : lv_has ls 4 [(0, .ref ba), (1, .int (nI i)), (2, .int pl)] := hl
  refine lv_aload_n hx hb dX3_trace_0 rfl (lv_at hl 0 rfl) ?_
  refine lv_iload_n hx hb dX3_trace_1 rfl (lv_at hl 1 rfl) ?_
  refine cv_r (As := [.int (nI i)]) (rest := []) (ws' := [(ba, .inr (3, [.ref bw])), (bw, .inl (G.2.1 4, 4, .inr (.inr (.inr (.inr wf))))), (wa, .inr (2, [.ref (G.2.2.1 i), .ref pa, .ref pr, .ref wo, .ref wl, .int tr, .long dr, .long wt, .int (nI r), .long gr, .long le])), (pa, .inr (0, [.ref pk, .ref pn, .ref po, .int (nI n)]))]) ⟨hx, hb, hml, hown, hts⟩ (kX3_wireAt l G ba bw wf i wa (by first | assumption | omega) (by first | assumption | omega)) (cwV 1 hts gX3_trace_X3_wireAt rfl rfl rfl (by decide +kernel) ⟨Nat.le_of_ble_eq_true rfl, Nat.le_of_ble_eq_true rfl⟩) (va_recv hK hP (ci := 3) (q0 := 0) rfl rfl) hE hK hP hD hS hA hl.1 [0, 1] rfl rfl rfl rfl rfl rfl (Nat.le_of_ble_eq_true rfl) dX3_trace_2 ⟨Nat.zero_le _, Nat.zero_le _⟩ (fun H locs hP hD hS => ?_)
  refine lv_astore_n (lv' := [(3, .ref wa), (0, .ref ba), (1, .int (nI i)), (2, .int pl)]) hx hb dX3_trace_5 rfl hl (by decide) rfl (fun ls hl => ?_)
  refine lv_aload_n hx hb dX3_trace_6 rfl (lv_at hl 0 rfl) ?_
  refine lv_iload_n hx hb dX3_trace_7 rfl (lv_at hl 3 rfl) ?_
  exact cs_x (As := [.ref wa, .int pl]) (rest := []) ⟨hx, hb, hml, hown, hts⟩ (kX3_needPedalX l hl9 G wa i pa pr wo wl tr dr wt r gr le pk pn po n pl (by first | assumption | omega)) (va_cwS 2 hts gX3_trace_X3_needPedal rfl rfl rfl (by decide +kernel) ⟨Nat.le_of_ble_eq_true rfl, Nat.le_of_ble_eq_true rfl⟩) hE hK hP hD hS hA hl.1 [2, 3] rfl rfl rfl rfl rfl (Nat.le_of_ble_eq_true rfl) dX3_trace_8 (Nat.le_of_ble_eq_true rfl) (Nat.le_of_ble_eq_true rfl) htab hlocks
set_option maxHeartbeats 4000000 in
set_option maxRecDepth 100000 in
theorem kX3_traceX2 (l : Launch) (hl9 : l.stackTraces = false) (G : GT) (ba : Nat) (bw : Nat) (wf : Nat → Option Nat) (wa : Nat) (i : Nat) (pa : Nat) (pr : Nat) (wo : Nat) (wl : Nat) (tr : Int32) (dr : Int64) (wt : Int64) (r : Nat) (gr : Int64) (le : Int64) (pk : Nat) (pn : Nat) (po : Nat) (n : Nat) (pl : Int32) (hi4 : i < 4) (hwf : wf i = some wa) (hhas : ¬ fX0_has n pl = 0) (htr : tr = 0) : CX l yX3_trace wsX3_trace { frames := 6, cells := 1, slots := 6, locals := 82 } G [.ref ba, .int (nI i), .int pl] [(ba, .inr (3, [.ref bw])), (bw, .inl (G.2.1 4, 4, .inr (.inr (.inr (.inr wf))))), (wa, .inr (2, [.ref (G.2.2.1 i), .ref pa, .ref pr, .ref wo, .ref wl, .int tr, .long dr, .long wt, .int (nI r), .long gr, .long le])), (pa, .inr (0, [.ref pk, .ref pn, .ref po, .int (nI n)]))] nISE := by
  refine en_x (cc := cX3_trace) (maxL := 4) (ret := (some .long)) (own := RX3) (by decide) rfl rfl (Nat.le_of_ble_eq_true rfl) ?_
  intro p e s m below meth c A ls htab hx hb hr hts hown hml hlocks hA hK hE hP hD hS hl
  have hl : lv_has ls 4 [(0, .ref ba), (1, .int (nI i)), (2, .int pl)] := hl
  refine lv_aload_n hx hb dX3_trace_0 rfl (lv_at hl 0 rfl) ?_
  refine lv_iload_n hx hb dX3_trace_1 rfl (lv_at hl 1 rfl) ?_
  refine cv_r (As := [.int (nI i)]) (rest := []) (ws' := [(ba, .inr (3, [.ref bw])), (bw, .inl (G.2.1 4, 4, .inr (.inr (.inr (.inr wf))))), (wa, .inr (2, [.ref (G.2.2.1 i), .ref pa, .ref pr, .ref wo, .ref wl, .int tr, .long dr, .long wt, .int (nI r), .long gr, .long le])), (pa, .inr (0, [.ref pk, .ref pn, .ref po, .int (nI n)]))]) ⟨hx, hb, hml, hown, hts⟩ (kX3_wireAt l G ba bw wf i wa (by first | assumption | omega) (by first | assumption | omega)) (cwV 1 hts gX3_trace_X3_wireAt rfl rfl rfl (by decide +kernel) ⟨Nat.le_of_ble_eq_true rfl, Nat.le_of_ble_eq_true rfl⟩) (va_recv hK hP (ci := 3) (q0 := 0) rfl rfl) hE hK hP hD hS hA hl.1 [0, 1] rfl rfl rfl rfl rfl rfl (Nat.le_of_ble_eq_true rfl) dX3_trace_2 ⟨Nat.zero_le _, Nat.zero_le _⟩ (fun H locs hP hD hS => ?_)
  refine lv_astore_n (lv' := [(3, .ref wa), (0, .ref ba), (1, .int (nI i)), (2, .int pl)]) hx hb dX3_trace_5 rfl hl (by decide) rfl (fun ls hl => ?_)
  refine lv_aload_n hx hb dX3_trace_6 rfl (lv_at hl 0 rfl) ?_
  refine lv_iload_n hx hb dX3_trace_7 rfl (lv_at hl 3 rfl) ?_
  refine cs_v (As := [.ref wa, .int pl]) (rest := []) (ws' := [(ba, .inr (3, [.ref bw])), (bw, .inl (G.2.1 4, 4, .inr (.inr (.inr (.inr wf))))), (wa, .inr (2, [.ref (G.2.2.1 i), .ref pa, .ref pr, .ref wo, .ref wl, .int tr, .long dr, .long wt, .int (nI r), .long gr, .long le])), (pa, .inr (0, [.ref pk, .ref pn, .ref po, .int (nI n)]))]) ⟨hx, hb, hml, hown, hts⟩ (kX3_needPedal l G wa i pa pr wo wl tr dr wt r gr le pk pn po n pl (by first | assumption | omega)) (va_cwS 2 hts gX3_trace_X3_needPedal rfl rfl rfl (by decide +kernel) ⟨Nat.le_of_ble_eq_true rfl, Nat.le_of_ble_eq_true rfl⟩) hE hK hP hD hS hA hl.1 [2, 3] rfl rfl rfl rfl rfl rfl (Nat.le_of_ble_eq_true rfl) dX3_trace_8 ⟨Nat.zero_le _, Nat.zero_le _⟩ (fun H locs hP hD hS => ?_)
  refine lv_aload_n hx hb dX3_trace_11 rfl (lv_at hl 0 rfl) ?_
  refine va_get (D := G.1) (ci := 2) (v := .int tr) (C := RX2) (T := TX2) (N := 11) hx hb hts (by decide +kernel) hown hK hP 2 rfl rfl 5 (by decide) (hts (.fieldLink RX3 66 "PedalBoard$Wire" "traced" "Z") (by decide +kernel)) (fun _ h9 => h9) rfl dX3_trace_12 ?_
  refine bz_ne (tgt := 28) hx hb dX3_trace_15 (by decide) (fun _ => ?_) (fun h9 => absurd htr h9)
  exact tx_S (text := "there is no trace") hx hb hl9 htab hts (by intro w h; first | exact List.mem_cons_of_mem _ (List.mem_append_right _ h) | exact List.mem_cons_of_mem _ (List.mem_append_left _ (List.mem_append_right _ h))) (by decide +kernel) (by decide +kernel) hown (hl.1.trans hml.symm) hlocks hE hS (by decide +kernel) hP ⟨Nat.le_of_ble_eq_true rfl, Nat.le_of_ble_eq_true rfl, Nat.le_of_ble_eq_true rfl, Nat.le_of_ble_eq_true rfl⟩ dX3_trace_18 dX3_trace_21 dX3_trace_22 dX3_trace_24 dX3_trace_27
set_option maxHeartbeats 4000000 in
set_option maxRecDepth 100000 in
theorem kX3_saveX1 (l : Launch) (hl9 : l.stackTraces = false) (G : GT) (ba : Nat) (bw : Nat) (wf : Nat → Option Nat) (wa : Nat) (i : Nat) (pa : Nat) (pr : Nat) (wo : Nat) (wl : Nat) (tr : Int32) (dr : Int64) (wt : Int64) (r : Nat) (gr : Int64) (le : Int64) (ps : Int32) (hi4 : i < 4) (hwf : wf i = some wa) (hps : ps < 0) : CX l yX3_save wsX3_save { frames := 7, cells := 1, slots := 6, locals := 103 } G [.ref ba, .int (nI i), .int ps] [(ba, .inr (3, [.ref bw])), (bw, .inl (G.2.1 4, 4, .inr (.inr (.inr (.inr wf))))), (wa, .inr (2, [.ref (G.2.2.1 i), .ref pa, .ref pr, .ref wo, .ref wl, .int tr, .long dr, .long wt, .int (nI r), .long gr, .long le]))] nIAE := by
  refine en_x (cc := cX3_save) (maxL := 5) (ret := (some .int)) (own := RX3) (by decide) rfl rfl (Nat.le_of_ble_eq_true rfl) ?_
  intro p e s m below meth c A ls htab hx hb hr hts hown hml hlocks hA hK hE hP hD hS hl
  have hl : lv_has ls 5 [(0, .ref ba), (1, .int (nI i)), (2, .int ps)] := hl
  refine lv_aload_n hx hb dX3_save_0 rfl (lv_at hl 0 rfl) ?_
  refine lv_iload_n hx hb dX3_save_1 rfl (lv_at hl 1 rfl) ?_
  refine cv_r (As := [.int (nI i)]) (rest := []) (ws' := [(ba, .inr (3, [.ref bw])), (bw, .inl (G.2.1 4, 4, .inr (.inr (.inr (.inr wf))))), (wa, .inr (2, [.ref (G.2.2.1 i), .ref pa, .ref pr, .ref wo, .ref wl, .int tr, .long dr, .long wt, .int (nI r), .long gr, .long le]))]) ⟨hx, hb, hml, hown, hts⟩ (kX3_wireAt l G ba bw wf i wa (by first | assumption | omega) (by first | assumption | omega)) (cwV 1 hts gX3_save_X3_wireAt rfl rfl rfl (by decide +kernel) ⟨Nat.le_of_ble_eq_true rfl, Nat.le_of_ble_eq_true rfl⟩) (va_recv hK hP (ci := 3) (q0 := 0) rfl rfl) hE hK hP hD hS hA hl.1 [0, 1] rfl rfl rfl rfl rfl rfl (Nat.le_of_ble_eq_true rfl) dX3_save_2 ⟨Nat.zero_le _, Nat.zero_le _⟩ (fun H locs hP hD hS => ?_)
  refine lv_astore_n (lv' := [(3, .ref wa), (0, .ref ba), (1, .int (nI i)), (2, .int ps)]) hx hb dX3_save_5 rfl hl (by decide) rfl (fun ls hl => ?_)
  refine lv_aload_n hx hb dX3_save_6 rfl (lv_at hl 0 rfl) ?_
  refine lv_iload_n hx hb dX3_save_7 rfl (lv_at hl 3 rfl) ?_
  exact cs_x (As := [.ref wa, .int ps]) (rest := []) ⟨hx, hb, hml, hown, hts⟩ (kX3_presetOfX1 l hl9 G wa i pa pr wo wl tr dr wt r gr le ps (by first | assumption | omega)) (va_cwS 2 hts gX3_save_X3_presetOf rfl rfl rfl (by decide +kernel) ⟨Nat.le_of_ble_eq_true rfl, Nat.le_of_ble_eq_true rfl⟩) hE hK hP hD hS hA hl.1 [2] rfl rfl rfl rfl rfl (Nat.le_of_ble_eq_true rfl) dX3_save_8 (Nat.le_of_ble_eq_true rfl) (Nat.le_of_ble_eq_true rfl) htab hlocks
set_option maxHeartbeats 4000000 in
set_option maxRecDepth 100000 in
theorem kX3_saveX2 (l : Launch) (hl9 : l.stackTraces = false) (G : GT) (ba : Nat) (bw : Nat) (wf : Nat → Option Nat) (wa : Nat) (i : Nat) (pa : Nat) (pr : Nat) (wo : Nat) (wl : Nat) (tr : Int32) (dr : Int64) (wt : Int64) (r : Nat) (gr : Int64) (le : Int64) (ps : Int32) (hi4 : i < 4) (hwf : wf i = some wa) (hps : ¬ ps < 0) (hps2 : ¬ ps < (4:Int32)) : CX l yX3_save wsX3_save { frames := 7, cells := 1, slots := 6, locals := 103 } G [.ref ba, .int (nI i), .int ps] [(ba, .inr (3, [.ref bw])), (bw, .inl (G.2.1 4, 4, .inr (.inr (.inr (.inr wf))))), (wa, .inr (2, [.ref (G.2.2.1 i), .ref pa, .ref pr, .ref wo, .ref wl, .int tr, .long dr, .long wt, .int (nI r), .long gr, .long le]))] nIAE := by
  refine en_x (cc := cX3_save) (maxL := 5) (ret := (some .int)) (own := RX3) (by decide) rfl rfl (Nat.le_of_ble_eq_true rfl) ?_
  intro p e s m below meth c A ls htab hx hb hr hts hown hml hlocks hA hK hE hP hD hS hl
  have hl : lv_has ls 5 [(0, .ref ba), (1, .int (nI i)), (2, .int ps)] := hl
  refine lv_aload_n hx hb dX3_save_0 rfl (lv_at hl 0 rfl) ?_
  refine lv_iload_n hx hb dX3_save_1 rfl (lv_at hl 1 rfl) ?_
  refine cv_r (As := [.int (nI i)]) (rest := []) (ws' := [(ba, .inr (3, [.ref bw])), (bw, .inl (G.2.1 4, 4, .inr (.inr (.inr (.inr wf))))), (wa, .inr (2, [.ref (G.2.2.1 i), .ref pa, .ref pr, .ref wo, .ref wl, .int tr, .long dr, .long wt, .int (nI r), .long gr, .long le]))]) ⟨hx, hb, hml, hown, hts⟩ (kX3_wireAt l G ba bw wf i wa (by first | assumption | omega) (by first | assumption | omega)) (cwV 1 hts gX3_save_X3_wireAt rfl rfl rfl (by decide +kernel) ⟨Nat.le_of_ble_eq_true rfl, Nat.le_of_ble_eq_true rfl⟩) (va_recv hK hP (ci := 3) (q0 := 0) rfl rfl) hE hK hP hD hS hA hl.1 [0, 1] rfl rfl rfl rfl rfl rfl (Nat.le_of_ble_eq_true rfl) dX3_save_2 ⟨Nat.zero_le _, Nat.zero_le _⟩ (fun H locs hP hD hS => ?_)
  refine lv_astore_n (lv' := [(3, .ref wa), (0, .ref ba), (1, .int (nI i)), (2, .int ps)]) hx hb dX3_save_5 rfl hl (by decide) rfl (fun ls hl => ?_)
  refine lv_aload_n hx hb dX3_save_6 rfl (lv_at hl 0 rfl) ?_
  refine lv_iload_n hx hb dX3_save_7 rfl (lv_at hl 3 rfl) ?_
  exact cs_x (As := [.ref wa, .int ps]) (rest := []) ⟨hx, hb, hml, hown, hts⟩ (kX3_presetOfX2 l hl9 G wa i pa pr wo wl tr dr wt r gr le ps (by first | assumption | omega) (by first | assumption | omega)) (va_cwS 2 hts gX3_save_X3_presetOf rfl rfl rfl (by decide +kernel) ⟨Nat.le_of_ble_eq_true rfl, Nat.le_of_ble_eq_true rfl⟩) hE hK hP hD hS hA hl.1 [2] rfl rfl rfl rfl rfl (Nat.le_of_ble_eq_true rfl) dX3_save_8 (Nat.le_of_ble_eq_true rfl) (Nat.le_of_ble_eq_true rfl) htab hlocks
set_option maxHeartbeats 4000000 in
set_option maxRecDepth 100000 in
theorem kX3_recallX1 (l : Launch) (hl9 : l.stackTraces = false) (G : GT) (ba : Nat) (bw : Nat) (wf : Nat → Option Nat) (wa : Nat) (i : Nat) (pa : Nat) (pr : Nat) (wo : Nat) (wl : Nat) (tr : Int32) (dr : Int64) (wt : Int64) (r : Nat) (gr : Int64) (le : Int64) (ps : Int32) (hi4 : i < 4) (hwf : wf i = some wa) (hps : ps < 0) : CX l yX3_recall wsX3_recall { frames := 7, cells := 1, slots := 6, locals := 103 } G [.ref ba, .int (nI i), .int ps] [(ba, .inr (3, [.ref bw])), (bw, .inl (G.2.1 4, 4, .inr (.inr (.inr (.inr wf))))), (wa, .inr (2, [.ref (G.2.2.1 i), .ref pa, .ref pr, .ref wo, .ref wl, .int tr, .long dr, .long wt, .int (nI r), .long gr, .long le]))] nIAE := by
  refine en_x (cc := cX3_recall) (maxL := 5) (ret := (some .int)) (own := RX3) (by decide) rfl rfl (Nat.le_of_ble_eq_true rfl) ?_
  intro p e s m below meth c A ls htab hx hb hr hts hown hml hlocks hA hK hE hP hD hS hl
  have hl : lv_has ls 5 [(0, .ref ba), (1, .int (nI i)), (2, .int ps)] := hl
  refine lv_aload_n hx hb dX3_recall_0 rfl (lv_at hl 0 rfl) ?_
  refine lv_iload_n hx hb dX3_recall_1 rfl (lv_at hl 1 rfl) ?_
  refine cv_r (As := [.int (nI i)]) (rest := []) (ws' := [(ba, .inr (3, [.ref bw])), (bw, .inl (G.2.1 4, 4, .inr (.inr (.inr (.inr wf))))), (wa, .inr (2, [.ref (G.2.2.1 i), .ref pa, .ref pr, .ref wo, .ref wl, .int tr, .long dr, .long wt, .int (nI r), .long gr, .long le]))]) ⟨hx, hb, hml, hown, hts⟩ (kX3_wireAt l G ba bw wf i wa (by first | assumption | omega) (by first | assumption | omega)) (cwV 1 hts gX3_recall_X3_wireAt rfl rfl rfl (by decide +kernel) ⟨Nat.le_of_ble_eq_true rfl, Nat.le_of_ble_eq_true rfl⟩) (va_recv hK hP (ci := 3) (q0 := 0) rfl rfl) hE hK hP hD hS hA hl.1 [0, 1] rfl rfl rfl rfl rfl rfl (Nat.le_of_ble_eq_true rfl) dX3_recall_2 ⟨Nat.zero_le _, Nat.zero_le _⟩ (fun H locs hP hD hS => ?_)
  refine lv_astore_n (lv' := [(3, .ref wa), (0, .ref ba), (1, .int (nI i)), (2, .int ps)]) hx hb dX3_recall_5 rfl hl (by decide) rfl (fun ls hl => ?_)
  refine lv_aload_n hx hb dX3_recall_6 rfl (lv_at hl 0 rfl) ?_
  refine lv_iload_n hx hb dX3_recall_7 rfl (lv_at hl 3 rfl) ?_
  exact cs_x (As := [.ref wa, .int ps]) (rest := []) ⟨hx, hb, hml, hown, hts⟩ (kX3_presetOfX1 l hl9 G wa i pa pr wo wl tr dr wt r gr le ps (by first | assumption | omega)) (va_cwS 2 hts gX3_recall_X3_presetOf rfl rfl rfl (by decide +kernel) ⟨Nat.le_of_ble_eq_true rfl, Nat.le_of_ble_eq_true rfl⟩) hE hK hP hD hS hA hl.1 [2] rfl rfl rfl rfl rfl (Nat.le_of_ble_eq_true rfl) dX3_recall_8 (Nat.le_of_ble_eq_true rfl) (Nat.le_of_ble_eq_true rfl) htab hlocks
set_option maxHeartbeats 4000000 in
set_option maxRecDepth 100000 in
theorem kX3_recallX2 (l : Launch) (hl9 : l.stackTraces = false) (G : GT) (ba : Nat) (bw : Nat) (wf : Nat → Option Nat) (wa : Nat) (i : Nat) (pa : Nat) (pr : Nat) (wo : Nat) (wl : Nat) (tr : Int32) (dr : Int64) (wt : Int64) (r : Nat) (gr : Int64) (le : Int64) (ps : Int32) (hi4 : i < 4) (hwf : wf i = some wa) (hps : ¬ ps < 0) (hps2 : ¬ ps < (4:Int32)) : CX l yX3_recall wsX3_recall { frames := 7, cells := 1, slots := 6, locals := 103 } G [.ref ba, .int (nI i), .int ps] [(ba, .inr (3, [.ref bw])), (bw, .inl (G.2.1 4, 4, .inr (.inr (.inr (.inr wf))))), (wa, .inr (2, [.ref (G.2.2.1 i), .ref pa, .ref pr, .ref wo, .ref wl, .int tr, .long dr, .long wt, .int (nI r), .long gr, .long le]))] nIAE := by
  refine en_x (cc := cX3_recall) (maxL := 5) (ret := (some .int)) (own := RX3) (by decide) rfl rfl (Nat.le_of_ble_eq_true rfl) ?_
  intro p e s m below meth c A ls htab hx hb hr hts hown hml hlocks hA hK hE hP hD hS hl
  have hl : lv_has ls 5 [(0, .ref ba), (1, .int (nI i)), (2, .int ps)] := hl
  refine lv_aload_n hx hb dX3_recall_0 rfl (lv_at hl 0 rfl) ?_
  refine lv_iload_n hx hb dX3_recall_1 rfl (lv_at hl 1 rfl) ?_
  refine cv_r (As := [.int (nI i)]) (rest := []) (ws' := [(ba, .inr (3, [.ref bw])), (bw, .inl (G.2.1 4, 4, .inr (.inr (.inr (.inr wf))))), (wa, .inr (2, [.ref (G.2.2.1 i), .ref pa, .ref pr, .ref wo, .ref wl, .int tr, .long dr, .long wt, .int (nI r), .long gr, .long le]))]) ⟨hx, hb, hml, hown, hts⟩ (kX3_wireAt l G ba bw wf i wa (by first | assumption | omega) (by first | assumption | omega)) (cwV 1 hts gX3_recall_X3_wireAt rfl rfl rfl (by decide +kernel) ⟨Nat.le_of_ble_eq_true rfl, Nat.le_of_ble_eq_true rfl⟩) (va_recv hK hP (ci := 3) (q0 := 0) rfl rfl) hE hK hP hD hS hA hl.1 [0, 1] rfl rfl rfl rfl rfl rfl (Nat.le_of_ble_eq_true rfl) dX3_recall_2 ⟨Nat.zero_le _, Nat.zero_le _⟩ (fun H locs hP hD hS => ?_)
  refine lv_astore_n (lv' := [(3, .ref wa), (0, .ref ba), (1, .int (nI i)), (2, .int ps)]) hx hb dX3_recall_5 rfl hl (by decide) rfl (fun ls hl => ?_)
  refine lv_aload_n hx hb dX3_recall_6 rfl (lv_at hl 0 rfl) ?_
  refine lv_iload_n hx hb dX3_recall_7 rfl (lv_at hl 3 rfl) ?_
  exact cs_x (As := [.ref wa, .int ps]) (rest := []) ⟨hx, hb, hml, hown, hts⟩ (kX3_presetOfX2 l hl9 G wa i pa pr wo wl tr dr wt r gr le ps (by first | assumption | omega) (by first | assumption | omega)) (va_cwS 2 hts gX3_recall_X3_presetOf rfl rfl rfl (by decide +kernel) ⟨Nat.le_of_ble_eq_true rfl, Nat.le_of_ble_eq_true rfl⟩) hE hK hP hD hS hA hl.1 [2] rfl rfl rfl rfl rfl (Nat.le_of_ble_eq_true rfl) dX3_recall_8 (Nat.le_of_ble_eq_true rfl) (Nat.le_of_ble_eq_true rfl) htab hlocks
