set_option maxHeartbeats 4000000 in
set_option maxRecDepth 100000 in
theorem kL_put (l : Launch) (hl9 : l.stackTraces = false) (G : GT) (ba : Nat) (bw : Nat) (wf : Nat → Option Nat) (wa : Nat) (i : Nat) (pa : Nat) (pr : Nat) (wo : Nat) (wl : Nat) (tr : Int32) (dr : Int64) (wt : Int64) (r : Nat) (gr : Int64) (le : Int64) (hh : Int32) (lo : Int32) (xo : Nat) (ox : Nat → Int64) (hi4 : i < 4) (hwf : wf i = some wa) (hill : fX1_isIll i (fX1_codeOf i hh lo) = 0) : CI1 l yL_put wsL_put { frames := 4, cells := 1, slots := 6, locals := 90 } G [.ref ba, .int (nI i), .int hh, .int lo, .ref xo] [(ba, .inr (3, [.ref bw])), (bw, .inl (G.2.1 4, 4, .inr (.inr (.inr (.inr wf))))), (wa, .inr (2, [.ref (G.2.2.1 i), .ref pa, .ref pr, .ref wo, .ref wl, .int tr, .long dr, .long wt, .int (nI r), .long gr, .long le])), (xo, .inl (G.2.1 1, 1, .inr (.inl ox)))] (0:Int32) [(ba, .inr (3, [.ref bw])), (bw, .inl (G.2.1 4, 4, .inr (.inr (.inr (.inr wf))))), (wa, .inr (2, [.ref (G.2.2.1 i), .ref pa, .ref pr, .ref wo, .ref wl, .int (0:Int32), .long (fX1_codeOf i hh lo), .long (fX1_codeOf i hh lo), .int (0:Int32), .long gr, .long le])), (xo, .inl (G.2.1 1, 1, .inr (.inl (vp_updL ox 0 (if (fX3_put i dr hh lo) = 0 then (0:Int64) else (1:Int64))))))] := by
  refine en_h (cc := cL_put) (maxL := 6) (ret := (some .int)) (own := RL) (hh := [(0, 19, 22, 13)]) (by decide) rfl rfl (Nat.le_of_ble_eq_true rfl) ?_
  intro p e s m below meth c A ls htab hx hb hr hts hown hml hlocks hA hK hE hP hD hS hl
  have hl : lv_has ls 6 [(0, .ref ba), (1, .int (nI i)), (2, .int hh), (3, .int lo), (4, .ref xo)] := hl
  refine lv_aload hx hb dL_put_0 (lv_at hl 4 rfl) ?_
  refine lv_iconst (v := (0:Int32)) hx hb dL_put_2 (by decide) ?_
  refine lv_aload_n hx hb dL_put_3 rfl (lv_at hl 0 rfl) ?_
  refine lv_iload_n hx hb dL_put_4 rfl (lv_at hl 1 rfl) ?_
  refine lv_iload_n hx hb dL_put_5 rfl (lv_at hl 2 rfl) ?_
  refine lv_iload_n hx hb dL_put_6 rfl (lv_at hl 3 rfl) ?_
  refine cv_i (As := [.int (nI i), .int hh, .int lo]) (rest := [.int (0:Int32), .ref xo]) (ws' := [(ba, .inr (3, [.ref bw])), (bw, .inl (G.2.1 4, 4, .inr (.inr (.inr (.inr wf))))), (wa, .inr (2, [.ref (G.2.2.1 i), .ref pa, .ref pr, .ref wo, .ref wl, .int (0:Int32), .long (fX1_codeOf i hh lo), .long (fX1_codeOf i hh lo), .int (0:Int32), .long gr, .long le])), (xo, .inl (G.2.1 1, 1, .inr (.inl ox)))]) ⟨hx, hb, hml, hown, hts⟩ (kX3_put l G ba bw wf wa i pa pr wo wl tr dr wt r gr le hh lo hi4 hwf hill) (cwV 3 hts gL_put_X3_put rfl rfl rfl (by decide +kernel) ⟨Nat.le_of_ble_eq_true rfl, Nat.le_of_ble_eq_true rfl⟩) (va_recv hK hP (ci := 3) (q0 := 0) rfl rfl) hE hK hP hD hS hA hl.1 [0, 1, 2] rfl rfl rfl rfl rfl rfl (Nat.le_of_ble_eq_true rfl) dL_put_7 ⟨Nat.zero_le _, Nat.zero_le _⟩ (fun H locs hP hD hS => ?_)
  refine jn_2 (T := Int64) G A (if (fX3_put i dr hh lo) = 0 then (0:Int64) else (1:Int64)) (fun y => [(ba, .inr (3, [.ref bw])), (bw, .inl (G.2.1 4, 4, .inr (.inr (.inr (.inr wf))))), (wa, .inr (2, [.ref (G.2.2.1 i), .ref pa, .ref pr, .ref wo, .ref wl, .int (0:Int32), .long (fX1_codeOf i hh lo), .long (fX1_codeOf i hh lo), .int (0:Int32), .long gr, .long le])), (xo, .inl (G.2.1 1, 1, .inr (.inl ox)))]) 6 (fun y => []) (fun y => [.long y, .int (0:Int32), .ref xo]) 18 ?_ ?_
  · intro y_1 ey_1 H locs ls hP hD hS hl
    have hl : lv_has ls 6 [] := hl
    have hP : va_P G.1 vwCl [(ba, .inr (3, [.ref bw])), (bw, .inl (G.2.1 4, 4, .inr (.inr (.inr (.inr wf))))), (wa, .inr (2, [.ref (G.2.2.1 i), .ref pa, .ref pr, .ref wo, .ref wl, .int (0:Int32), .long (fX1_codeOf i hh lo), .long (fX1_codeOf i hh lo), .int (0:Int32), .long gr, .long le])), (xo, .inl (G.2.1 1, 1, .inr (.inl ox)))] H := hP
    have hD : va_D A [(ba, .inr (3, [.ref bw])), (bw, .inl (G.2.1 4, 4, .inr (.inr (.inr (.inr wf))))), (wa, .inr (2, [.ref (G.2.2.1 i), .ref pa, .ref pr, .ref wo, .ref wl, .int (0:Int32), .long (fX1_codeOf i hh lo), .long (fX1_codeOf i hh lo), .int (0:Int32), .long gr, .long le])), (xo, .inl (G.2.1 1, 1, .inr (.inl ox)))] := hD
    refine ar_lst hx hb hK hP hD hS 3 rfl 0 rfl (by decide) (by decide) dL_put_18 (fun H locs hP hD hS => ?_)
    have hP : va_P G.1 vwCl [(ba, .inr (3, [.ref bw])), (bw, .inl (G.2.1 4, 4, .inr (.inr (.inr (.inr wf))))), (wa, .inr (2, [.ref (G.2.2.1 i), .ref pa, .ref pr, .ref wo, .ref wl, .int (0:Int32), .long (fX1_codeOf i hh lo), .long (fX1_codeOf i hh lo), .int (0:Int32), .long gr, .long le])), (xo, .inl (G.2.1 1, 1, .inr (.inl (vp_updL ox 0 y_1))))] H := hP
    have hD : va_D A [(ba, .inr (3, [.ref bw])), (bw, .inl (G.2.1 4, 4, .inr (.inr (.inr (.inr wf))))), (wa, .inr (2, [.ref (G.2.2.1 i), .ref pa, .ref pr, .ref wo, .ref wl, .int (0:Int32), .long (fX1_codeOf i hh lo), .long (fX1_codeOf i hh lo), .int (0:Int32), .long gr, .long le])), (xo, .inl (G.2.1 1, 1, .inr (.inl (vp_updL ox 0 y_1))))] := hD
    refine lv_goto (tgt := 26) hx hb dL_put_19 (by decide) ?_
    refine lv_iconst (v := (0:Int32)) hx hb dL_put_26 (by decide) ?_
    subst ey_1
    exact rt_h hx hb hr hlocks hP hD hS dL_put_27 rfl (Nat.le_of_ble_eq_true rfl) (Nat.le_of_ble_eq_true rfl)
  · intro kj_1
    refine bz_eq (tgt := 17) hx hb dL_put_10 (by decide) (fun c_2 => ?_) (fun c_2 => ?_)
    · refine lv_lconst (v := (0:Int64)) hx hb dL_put_17 (by decide) ?_
      exact kj_1 (0:Int64) (by rw [if_pos c_2]) _ _ _ hP hD hS (lv_sub hl [] rfl)
    · refine lv_lconst (v := (1:Int64)) hx hb dL_put_13 (by decide) ?_
      refine lv_goto (tgt := 18) hx hb dL_put_14 (by decide) ?_
      exact kj_1 (1:Int64) (by rw [if_neg c_2]) _ _ _ hP hD hS (lv_sub hl [] rfl)
set_option maxHeartbeats 4000000 in
set_option maxRecDepth 100000 in
theorem kL_putX0 (l : Launch) (hl9 : l.stackTraces = false) (G : GT) (ba : Nat) (bw : Nat) (wf : Nat → Option Nat) (wi : Int32) (a1 : Int32) (a2 : Int32) (xo : Nat) (ox : Nat → Int64) (hwi : fX3_isWire wi = 0) : CI1 l yL_put wsL_put { frames := 8, cells := 1, slots := 6, locals := 127 } G [.ref ba, .int wi, .int a1, .int a2, .ref xo] [(ba, .inr (3, [.ref bw])), (bw, .inl (G.2.1 4, 4, .inr (.inr (.inr (.inr wf))))), (xo, .inl (G.2.1 1, 1, .inr (.inl ox)))] (1:Int32) [(ba, .inr (3, [.ref bw])), (bw, .inl (G.2.1 4, 4, .inr (.inr (.inr (.inr wf))))), (xo, .inl (G.2.1 1, 1, .inr (.inl ox)))] := by
  refine en_h (cc := cL_put) (maxL := 6) (ret := (some .int)) (own := RL) (hh := [(0, 19, 22, 13)]) (by decide) rfl rfl (Nat.le_of_ble_eq_true rfl) ?_
  intro p e s m below meth c A ls htab hx hb hr hts hown hml hlocks hA hK hE hP hD hS hl
  have hl : lv_has ls 6 [(0, .ref ba), (1, .int wi), (2, .int a1), (3, .int a2), (4, .ref xo)] := hl
  refine lv_aload hx hb dL_put_0 (lv_at hl 4 rfl) ?_
  refine lv_iconst (v := (0:Int32)) hx hb dL_put_2 (by decide) ?_
  refine lv_aload_n hx hb dL_put_3 rfl (lv_at hl 0 rfl) ?_
  refine lv_iload_n hx hb dL_put_4 rfl (lv_at hl 1 rfl) ?_
  refine lv_iload_n hx hb dL_put_5 rfl (lv_at hl 2 rfl) ?_
  refine lv_iload_n hx hb dL_put_6 rfl (lv_at hl 3 rfl) ?_
  refine cv_c (name := nIAE) (As := [.int wi, .int a1, .int a2]) (rest := [.int (0:Int32), .ref xo]) ⟨hx, hb, hml, hown, hts⟩ (kX3_putX0 l hl9 G ba bw wf wi a1 a2 hwi) (cwV 3 hts gL_put_X3_put rfl rfl rfl (by decide +kernel) ⟨Nat.le_of_ble_eq_true rfl, Nat.le_of_ble_eq_true rfl⟩) (va_recv hK hP (ci := 3) (q0 := 0) rfl rfl) hE hK hP hD hS hA hl.1 [0, 1] rfl rfl rfl rfl rfl (Nat.le_of_ble_eq_true rfl) dL_put_7 (Nat.le_of_ble_eq_true rfl) (Nat.le_of_ble_eq_true rfl) [] ⟨0, 19, 22, 13⟩ [] (htab.trans rfl) (fun z hz => nomatch hz) (by decide) (by decide) (hts (.classLink RL 13 nIAE) (by decide +kernel)) hE.2.2.2.2.2.2.2.2.2.2.1.word (fun q9 H locs hP hD hS => ?_)
  refine lv_astore (lv' := [(5, .ref q9), (0, .ref ba), (1, .int wi), (2, .int a1), (3, .int a2), (4, .ref xo)]) hx hb dL_put_22 hl (by decide) rfl (fun ls hl => ?_)
  refine lv_iconst (v := (1:Int32)) hx hb dL_put_24 (by decide) ?_
  exact rt_h hx hb hr hlocks hP hD hS dL_put_25 rfl (Nat.le_of_ble_eq_true rfl) (Nat.le_of_ble_eq_true rfl)
set_option maxHeartbeats 4000000 in
set_option maxRecDepth 100000 in
theorem kL_putX1 (l : Launch) (hl9 : l.stackTraces = false) (G : GT) (ba : Nat) (bw : Nat) (wf : Nat → Option Nat) (wa : Nat) (i : Nat) (pa : Nat) (pr : Nat) (wo : Nat) (wl : Nat) (tr : Int32) (dr : Int64) (wt : Int64) (r : Nat) (gr : Int64) (le : Int64) (hh : Int32) (lo : Int32) (xo : Nat) (ox : Nat → Int64) (hi4 : i < 4) (hwf : wf i = some wa) (hill : ¬ fX1_isIll i (fX1_codeOf i hh lo) = 0) : CI1 l yL_put wsL_put { frames := 8, cells := 1, slots := 6, locals := 130 } G [.ref ba, .int (nI i), .int hh, .int lo, .ref xo] [(ba, .inr (3, [.ref bw])), (bw, .inl (G.2.1 4, 4, .inr (.inr (.inr (.inr wf))))), (wa, .inr (2, [.ref (G.2.2.1 i), .ref pa, .ref pr, .ref wo, .ref wl, .int tr, .long dr, .long wt, .int (nI r), .long gr, .long le])), (xo, .inl (G.2.1 1, 1, .inr (.inl ox)))] (1:Int32) [(ba, .inr (3, [.ref bw])), (bw, .inl (G.2.1 4, 4, .inr (.inr (.inr (.inr wf))))), (wa, .inr (2, [.ref (G.2.2.1 i), .ref pa, .ref pr, .ref wo, .ref wl, .int tr, .long dr, .long wt, .int (nI r), .long gr, .long le])), (xo, .inl (G.2.1 1, 1, .inr (.inl ox)))] := by
  refine en_h (cc := cL_put) (maxL := 6) (ret := (some .int)) (own := RL) (hh := [(0, 19, 22, 13)]) (by decide) rfl rfl (Nat.le_of_ble_eq_true rfl) ?_
  intro p e s m below meth c A ls htab hx hb hr hts hown hml hlocks hA hK hE hP hD hS hl
  have hl : lv_has ls 6 [(0, .ref ba), (1, .int (nI i)), (2, .int hh), (3, .int lo), (4, .ref xo)] := hl
  refine lv_aload hx hb dL_put_0 (lv_at hl 4 rfl) ?_
  refine lv_iconst (v := (0:Int32)) hx hb dL_put_2 (by decide) ?_
  refine lv_aload_n hx hb dL_put_3 rfl (lv_at hl 0 rfl) ?_
  refine lv_iload_n hx hb dL_put_4 rfl (lv_at hl 1 rfl) ?_
  refine lv_iload_n hx hb dL_put_5 rfl (lv_at hl 2 rfl) ?_
  refine lv_iload_n hx hb dL_put_6 rfl (lv_at hl 3 rfl) ?_
  refine cv_c (name := nIAE) (As := [.int (nI i), .int hh, .int lo]) (rest := [.int (0:Int32), .ref xo]) ⟨hx, hb, hml, hown, hts⟩ (kX3_putX1 l hl9 G ba bw wf wa i pa pr wo wl tr dr wt r gr le hh lo hi4 hwf hill) (cwV 3 hts gL_put_X3_put rfl rfl rfl (by decide +kernel) ⟨Nat.le_of_ble_eq_true rfl, Nat.le_of_ble_eq_true rfl⟩) (va_recv hK hP (ci := 3) (q0 := 0) rfl rfl) hE hK hP hD hS hA hl.1 [0, 1, 2] rfl rfl rfl rfl rfl (Nat.le_of_ble_eq_true rfl) dL_put_7 (Nat.le_of_ble_eq_true rfl) (Nat.le_of_ble_eq_true rfl) [] ⟨0, 19, 22, 13⟩ [] (htab.trans rfl) (fun z hz => nomatch hz) (by decide) (by decide) (hts (.classLink RL 13 nIAE) (by decide +kernel)) hE.2.2.2.2.2.2.2.2.2.2.1.word (fun q9 H locs hP hD hS => ?_)
  refine lv_astore (lv' := [(5, .ref q9), (0, .ref ba), (1, .int (nI i)), (2, .int hh), (3, .int lo), (4, .ref xo)]) hx hb dL_put_22 hl (by decide) rfl (fun ls hl => ?_)
  refine lv_iconst (v := (1:Int32)) hx hb dL_put_24 (by decide) ?_
  exact rt_h hx hb hr hlocks hP hD hS dL_put_25 rfl (Nat.le_of_ble_eq_true rfl) (Nat.le_of_ble_eq_true rfl)
set_option maxHeartbeats 4000000 in
set_option maxRecDepth 100000 in
theorem kL_pedal (l : Launch) (hl9 : l.stackTraces = false) (G : GT) (ba : Nat) (bw : Nat) (wf : Nat → Option Nat) (wa : Nat) (i : Nat) (pa : Nat) (pr : Nat) (wo : Nat) (wl : Nat) (tr : Int32) (dr : Int64) (wt : Int64) (r : Nat) (gr : Int64) (le : Int64) (pk : Nat) (pn : Nat) (po : Nat) (n : Nat) (ki : Nat → Int32) (kn : Nat → Int64) (on : Nat → Int32) (kd : Int32) (hh : Int32) (lo : Int32) (xo : Nat) (ox : Nat → Int64) (hi4 : i < 4) (hwf : wf i = some wa) (hkd : ¬ fX1_hasKind i kd = 0) (hill : fX1_isIll i (fX1_codeOf i hh lo) = 0) (hn : n < 12) : CI1 l yL_pedal wsL_pedal { frames := 4, cells := 1, slots := 6, locals := 93 } G [.ref ba, .int (nI i), .int kd, .int hh, .int lo, .ref xo] [(ba, .inr (3, [.ref bw])), (bw, .inl (G.2.1 4, 4, .inr (.inr (.inr (.inr wf))))), (wa, .inr (2, [.ref (G.2.2.1 i), .ref pa, .ref pr, .ref wo, .ref wl, .int tr, .long dr, .long wt, .int (nI r), .long gr, .long le])), (pa, .inr (0, [.ref pk, .ref pn, .ref po, .int (nI n)])), (pk, .inl (G.2.1 0, 12, .inl ki)), (pn, .inl (G.2.1 1, 12, .inr (.inl kn))), (po, .inl (G.2.1 2, 12, .inl on)), (xo, .inl (G.2.1 1, 1, .inr (.inl ox)))] (0:Int32) [(ba, .inr (3, [.ref bw])), (bw, .inl (G.2.1 4, 4, .inr (.inr (.inr (.inr wf))))), (wa, .inr (2, [.ref (G.2.2.1 i), .ref pa, .ref pr, .ref wo, .ref wl, .int (0:Int32), .long dr, .long wt, .int (nI r), .long gr, .long le])), (pa, .inr (0, [.ref pk, .ref pn, .ref po, .int (nI (n + 1))])), (pk, .inl (G.2.1 0, 12, .inl (upd ki n kd))), (pn, .inl (G.2.1 1, 12, .inr (.inl (vp_updL kn n (fX1_codeOf i hh lo))))), (po, .inl (G.2.1 2, 12, .inl (upd on n (1:Int32)))), (xo, .inl (G.2.1 1, 1, .inr (.inl (vp_updL ox 0 ((nI n).toInt64)))))] := by
  refine en_h (cc := cL_pedal) (maxL := 7) (ret := (some .int)) (own := RL) (hh := [(0, 14, 17, 13), (0, 14, 21, 19)]) (by decide) rfl rfl (Nat.le_of_ble_eq_true rfl) ?_
  intro p e s m below meth c A ls htab hx hb hr hts hown hml hlocks hA hK hE hP hD hS hl
  have hl : lv_has ls 7 [(0, .ref ba), (1, .int (nI i)), (2, .int kd), (3, .int hh), (4, .int lo), (5, .ref xo)] := hl
  refine lv_aload hx hb dL_pedal_0 (lv_at hl 5 rfl) ?_
  refine lv_iconst (v := (0:Int32)) hx hb dL_pedal_2 (by decide) ?_
  refine lv_aload_n hx hb dL_pedal_3 rfl (lv_at hl 0 rfl) ?_
  refine lv_iload_n hx hb dL_pedal_4 rfl (lv_at hl 1 rfl) ?_
  refine lv_iload_n hx hb dL_pedal_5 rfl (lv_at hl 2 rfl) ?_
  refine lv_iload_n hx hb dL_pedal_6 rfl (lv_at hl 3 rfl) ?_
  refine lv_iload hx hb dL_pedal_7 (lv_at hl 4 rfl) ?_
  refine cv_i (As := [.int (nI i), .int kd, .int hh, .int lo]) (rest := [.int (0:Int32), .ref xo]) (ws' := [(ba, .inr (3, [.ref bw])), (bw, .inl (G.2.1 4, 4, .inr (.inr (.inr (.inr wf))))), (wa, .inr (2, [.ref (G.2.2.1 i), .ref pa, .ref pr, .ref wo, .ref wl, .int (0:Int32), .long dr, .long wt, .int (nI r), .long gr, .long le])), (pa, .inr (0, [.ref pk, .ref pn, .ref po, .int (nI (n + 1))])), (pk, .inl (G.2.1 0, 12, .inl (upd ki n kd))), (pn, .inl (G.2.1 1, 12, .inr (.inl (vp_updL kn n (fX1_codeOf i hh lo))))), (po, .inl (G.2.1 2, 12, .inl (upd on n (1:Int32)))), (xo, .inl (G.2.1 1, 1, .inr (.inl ox)))]) ⟨hx, hb, hml, hown, hts⟩ (kX3_pedal l G ba bw wf wa i pa pr wo wl tr dr wt r gr le pk pn po n ki kn on kd hh lo hi4 hwf hkd hill hn) (cwV 4 hts gL_pedal_X3_pedal rfl rfl rfl (by decide +kernel) ⟨Nat.le_of_ble_eq_true rfl, Nat.le_of_ble_eq_true rfl⟩) (va_recv hK hP (ci := 3) (q0 := 0) rfl rfl) hE hK hP hD hS hA hl.1 [0, 1, 2, 3, 4, 5, 6] rfl rfl rfl rfl rfl rfl (Nat.le_of_ble_eq_true rfl) dL_pedal_9 ⟨Nat.zero_le _, Nat.zero_le _⟩ (fun H locs hP hD hS => ?_)
  refine r_i2l hx hb dL_pedal_12 ?_
  refine ar_lst hx hb hK hP hD hS 7 rfl 0 rfl (by decide) (by decide) dL_pedal_13 (fun H locs hP hD hS => ?_)
  have hP : va_P G.1 vwCl [(ba, .inr (3, [.ref bw])), (bw, .inl (G.2.1 4, 4, .inr (.inr (.inr (.inr wf))))), (wa, .inr (2, [.ref (G.2.2.1 i), .ref pa, .ref pr, .ref wo, .ref wl, .int (0:Int32), .long dr, .long wt, .int (nI r), .long gr, .long le])), (pa, .inr (0, [.ref pk, .ref pn, .ref po, .int (nI (n + 1))])), (pk, .inl (G.2.1 0, 12, .inl (upd ki n kd))), (pn, .inl (G.2.1 1, 12, .inr (.inl (vp_updL kn n (fX1_codeOf i hh lo))))), (po, .inl (G.2.1 2, 12, .inl (upd on n (1:Int32)))), (xo, .inl (G.2.1 1, 1, .inr (.inl (vp_updL ox 0 ((nI n).toInt64)))))] H := hP
  have hD : va_D A [(ba, .inr (3, [.ref bw])), (bw, .inl (G.2.1 4, 4, .inr (.inr (.inr (.inr wf))))), (wa, .inr (2, [.ref (G.2.2.1 i), .ref pa, .ref pr, .ref wo, .ref wl, .int (0:Int32), .long dr, .long wt, .int (nI r), .long gr, .long le])), (pa, .inr (0, [.ref pk, .ref pn, .ref po, .int (nI (n + 1))])), (pk, .inl (G.2.1 0, 12, .inl (upd ki n kd))), (pn, .inl (G.2.1 1, 12, .inr (.inl (vp_updL kn n (fX1_codeOf i hh lo))))), (po, .inl (G.2.1 2, 12, .inl (upd on n (1:Int32)))), (xo, .inl (G.2.1 1, 1, .inr (.inl (vp_updL ox 0 ((nI n).toInt64)))))] := hD
  refine lv_goto (tgt := 25) hx hb dL_pedal_14 (by decide) ?_
  refine lv_iconst (v := (0:Int32)) hx hb dL_pedal_25 (by decide) ?_
  exact rt_h hx hb hr hlocks hP hD hS dL_pedal_26 rfl (Nat.le_of_ble_eq_true rfl) (Nat.le_of_ble_eq_true rfl)
set_option maxHeartbeats 4000000 in
set_option maxRecDepth 100000 in
theorem kL_pedalX0 (l : Launch) (hl9 : l.stackTraces = false) (G : GT) (ba : Nat) (bw : Nat) (wf : Nat → Option Nat) (wi : Int32) (a1 : Int32) (a2 : Int32) (a3 : Int32) (xo : Nat) (ox : Nat → Int64) (hwi : fX3_isWire wi = 0) : CI1 l yL_pedal wsL_pedal { frames := 8, cells := 1, slots := 6, locals := 130 } G [.ref ba, .int wi, .int a1, .int a2, .int a3, .ref xo] [(ba, .inr (3, [.ref bw])), (bw, .inl (G.2.1 4, 4, .inr (.inr (.inr (.inr wf))))), (xo, .inl (G.2.1 1, 1, .inr (.inl ox)))] (1:Int32) [(ba, .inr (3, [.ref bw])), (bw, .inl (G.2.1 4, 4, .inr (.inr (.inr (.inr wf))))), (xo, .inl (G.2.1 1, 1, .inr (.inl ox)))] := by
  refine en_h (cc := cL_pedal) (maxL := 7) (ret := (some .int)) (own := RL) (hh := [(0, 14, 17, 13), (0, 14, 21, 19)]) (by decide) rfl rfl (Nat.le_of_ble_eq_true rfl) ?_
  intro p e s m below meth c A ls htab hx hb hr hts hown hml hlocks hA hK hE hP hD hS hl
  have hl : lv_has ls 7 [(0, .ref ba), (1, .int wi), (2, .int a1), (3, .int a2), (4, .int a3), (5, .ref xo)] := hl
  refine lv_aload hx hb dL_pedal_0 (lv_at hl 5 rfl) ?_
  refine lv_iconst (v := (0:Int32)) hx hb dL_pedal_2 (by decide) ?_
  refine lv_aload_n hx hb dL_pedal_3 rfl (lv_at hl 0 rfl) ?_
  refine lv_iload_n hx hb dL_pedal_4 rfl (lv_at hl 1 rfl) ?_
  refine lv_iload_n hx hb dL_pedal_5 rfl (lv_at hl 2 rfl) ?_
  refine lv_iload_n hx hb dL_pedal_6 rfl (lv_at hl 3 rfl) ?_
  refine lv_iload hx hb dL_pedal_7 (lv_at hl 4 rfl) ?_
  refine cv_c (name := nIAE) (As := [.int wi, .int a1, .int a2, .int a3]) (rest := [.int (0:Int32), .ref xo]) ⟨hx, hb, hml, hown, hts⟩ (kX3_pedalX0 l hl9 G ba bw wf wi a1 a2 a3 hwi) (cwV 4 hts gL_pedal_X3_pedal rfl rfl rfl (by decide +kernel) ⟨Nat.le_of_ble_eq_true rfl, Nat.le_of_ble_eq_true rfl⟩) (va_recv hK hP (ci := 3) (q0 := 0) rfl rfl) hE hK hP hD hS hA hl.1 [0, 1] rfl rfl rfl rfl rfl (Nat.le_of_ble_eq_true rfl) dL_pedal_9 (Nat.le_of_ble_eq_true rfl) (Nat.le_of_ble_eq_true rfl) [] ⟨0, 14, 17, 13⟩ [⟨0, 14, 21, 19⟩] (htab.trans rfl) (fun z hz => nomatch hz) (by decide) (by decide) (hts (.classLink RL 13 nIAE) (by decide +kernel)) hE.2.2.2.2.2.2.2.2.2.2.1.word (fun q9 H locs hP hD hS => ?_)
  refine lv_astore (lv' := [(6, .ref q9), (0, .ref ba), (1, .int wi), (2, .int a1), (3, .int a2), (4, .int a3), (5, .ref xo)]) hx hb dL_pedal_17 hl (by decide) rfl (fun ls hl => ?_)
  refine lv_iconst (v := (1:Int32)) hx hb dL_pedal_19 (by decide) ?_
  exact rt_h hx hb hr hlocks hP hD hS dL_pedal_20 rfl (Nat.le_of_ble_eq_true rfl) (Nat.le_of_ble_eq_true rfl)
set_option maxHeartbeats 4000000 in
set_option maxRecDepth 100000 in
theorem kL_pedalX1 (l : Launch) (hl9 : l.stackTraces = false) (G : GT) (ba : Nat) (bw : Nat) (wf : Nat → Option Nat) (wa : Nat) (i : Nat) (pa : Nat) (pr : Nat) (wo : Nat) (wl : Nat) (tr : Int32) (dr : Int64) (wt : Int64) (r : Nat) (gr : Int64) (le : Int64) (kd : Int32) (hh : Int32) (lo : Int32) (xo : Nat) (ox : Nat → Int64) (hi4 : i < 4) (hwf : wf i = some wa) (hkd : fX1_hasKind i kd = 0) : CI1 l yL_pedal wsL_pedal { frames := 7, cells := 1, slots := 6, locals := 109 } G [.ref ba, .int (nI i), .int kd, .int hh, .int lo, .ref xo] [(ba, .inr (3, [.ref bw])), (bw, .inl (G.2.1 4, 4, .inr (.inr (.inr (.inr wf))))), (wa, .inr (2, [.ref (G.2.2.1 i), .ref pa, .ref pr, .ref wo, .ref wl, .int tr, .long dr, .long wt, .int (nI r), .long gr, .long le])), (xo, .inl (G.2.1 1, 1, .inr (.inl ox)))] (1:Int32) [(ba, .inr (3, [.ref bw])), (bw, .inl (G.2.1 4, 4, .inr (.inr (.inr (.inr wf))))), (wa, .inr (2, [.ref (G.2.2.1 i), .ref pa, .ref pr, .ref wo, .ref wl, .int tr, .long dr, .long wt, .int (nI r), .long gr, .long le])), (xo, .inl (G.2.1 1, 1, .inr (.inl ox)))] := by
  refine en_h (cc := cL_pedal) (maxL := 7) (ret := (some .int)) (own := RL) (hh := [(0, 14, 17, 13), (0, 14, 21, 19)]) (by decide) rfl rfl (Nat.le_of_ble_eq_true rfl) ?_
  intro p e s m below meth c A ls htab hx hb hr hts hown hml hlocks hA hK hE hP hD hS hl
  have hl : lv_has ls 7 [(0, .ref ba), (1, .int (nI i)), (2, .int kd), (3, .int hh), (4, .int lo), (5, .ref xo)] := hl
  refine lv_aload hx hb dL_pedal_0 (lv_at hl 5 rfl) ?_
  refine lv_iconst (v := (0:Int32)) hx hb dL_pedal_2 (by decide) ?_
  refine lv_aload_n hx hb dL_pedal_3 rfl (lv_at hl 0 rfl) ?_
  refine lv_iload_n hx hb dL_pedal_4 rfl (lv_at hl 1 rfl) ?_
  refine lv_iload_n hx hb dL_pedal_5 rfl (lv_at hl 2 rfl) ?_
  refine lv_iload_n hx hb dL_pedal_6 rfl (lv_at hl 3 rfl) ?_
  refine lv_iload hx hb dL_pedal_7 (lv_at hl 4 rfl) ?_
  refine cv_c (name := nIAE) (As := [.int (nI i), .int kd, .int hh, .int lo]) (rest := [.int (0:Int32), .ref xo]) ⟨hx, hb, hml, hown, hts⟩ (kX3_pedalX1 l hl9 G ba bw wf wa i pa pr wo wl tr dr wt r gr le kd hh lo hi4 hwf hkd) (cwV 4 hts gL_pedal_X3_pedal rfl rfl rfl (by decide +kernel) ⟨Nat.le_of_ble_eq_true rfl, Nat.le_of_ble_eq_true rfl⟩) (va_recv hK hP (ci := 3) (q0 := 0) rfl rfl) hE hK hP hD hS hA hl.1 [0, 1, 2] rfl rfl rfl rfl rfl (Nat.le_of_ble_eq_true rfl) dL_pedal_9 (Nat.le_of_ble_eq_true rfl) (Nat.le_of_ble_eq_true rfl) [] ⟨0, 14, 17, 13⟩ [⟨0, 14, 21, 19⟩] (htab.trans rfl) (fun z hz => nomatch hz) (by decide) (by decide) (hts (.classLink RL 13 nIAE) (by decide +kernel)) hE.2.2.2.2.2.2.2.2.2.2.1.word (fun q9 H locs hP hD hS => ?_)
  refine lv_astore (lv' := [(6, .ref q9), (0, .ref ba), (1, .int (nI i)), (2, .int kd), (3, .int hh), (4, .int lo), (5, .ref xo)]) hx hb dL_pedal_17 hl (by decide) rfl (fun ls hl => ?_)
  refine lv_iconst (v := (1:Int32)) hx hb dL_pedal_19 (by decide) ?_
  exact rt_h hx hb hr hlocks hP hD hS dL_pedal_20 rfl (Nat.le_of_ble_eq_true rfl) (Nat.le_of_ble_eq_true rfl)
set_option maxHeartbeats 4000000 in
set_option maxRecDepth 100000 in
theorem kL_pedalX2 (l : Launch) (hl9 : l.stackTraces = false) (G : GT) (ba : Nat) (bw : Nat) (wf : Nat → Option Nat) (wa : Nat) (i : Nat) (pa : Nat) (pr : Nat) (wo : Nat) (wl : Nat) (tr : Int32) (dr : Int64) (wt : Int64) (r : Nat) (gr : Int64) (le : Int64) (kd : Int32) (hh : Int32) (lo : Int32) (xo : Nat) (ox : Nat → Int64) (hi4 : i < 4) (hwf : wf i = some wa) (hkd : ¬ fX1_hasKind i kd = 0) (hill : ¬ fX1_isIll i (fX1_codeOf i hh lo) = 0) : CI1 l yL_pedal wsL_pedal { frames := 8, cells := 1, slots := 6, locals := 133 } G [.ref ba, .int (nI i), .int kd, .int hh, .int lo, .ref xo] [(ba, .inr (3, [.ref bw])), (bw, .inl (G.2.1 4, 4, .inr (.inr (.inr (.inr wf))))), (wa, .inr (2, [.ref (G.2.2.1 i), .ref pa, .ref pr, .ref wo, .ref wl, .int tr, .long dr, .long wt, .int (nI r), .long gr, .long le])), (xo, .inl (G.2.1 1, 1, .inr (.inl ox)))] (1:Int32) [(ba, .inr (3, [.ref bw])), (bw, .inl (G.2.1 4, 4, .inr (.inr (.inr (.inr wf))))), (wa, .inr (2, [.ref (G.2.2.1 i), .ref pa, .ref pr, .ref wo, .ref wl, .int tr, .long dr, .long wt, .int (nI r), .long gr, .long le])), (xo, .inl (G.2.1 1, 1, .inr (.inl ox)))] := by
  refine en_h (cc := cL_pedal) (maxL := 7) (ret := (some .int)) (own := RL) (hh := [(0, 14, 17, 13), (0, 14, 21, 19)]) (by decide) rfl rfl (Nat.le_of_ble_eq_true rfl) ?_
  intro p e s m below meth c A ls htab hx hb hr hts hown hml hlocks hA hK hE hP hD hS hl
  have hl : lv_has ls 7 [(0, .ref ba), (1, .int (nI i)), (2, .int kd), (3, .int hh), (4, .int lo), (5, .ref xo)] := hl
  refine lv_aload hx hb dL_pedal_0 (lv_at hl 5 rfl) ?_
  refine lv_iconst (v := (0:Int32)) hx hb dL_pedal_2 (by decide) ?_
  refine lv_aload_n hx hb dL_pedal_3 rfl (lv_at hl 0 rfl) ?_
  refine lv_iload_n hx hb dL_pedal_4 rfl (lv_at hl 1 rfl) ?_
  refine lv_iload_n hx hb dL_pedal_5 rfl (lv_at hl 2 rfl) ?_
  refine lv_iload_n hx hb dL_pedal_6 rfl (lv_at hl 3 rfl) ?_
  refine lv_iload hx hb dL_pedal_7 (lv_at hl 4 rfl) ?_
  refine cv_c (name := nIAE) (As := [.int (nI i), .int kd, .int hh, .int lo]) (rest := [.int (0:Int32), .ref xo]) ⟨hx, hb, hml, hown, hts⟩ (kX3_pedalX2 l hl9 G ba bw wf wa i pa pr wo wl tr dr wt r gr le kd hh lo hi4 hwf hkd hill) (cwV 4 hts gL_pedal_X3_pedal rfl rfl rfl (by decide +kernel) ⟨Nat.le_of_ble_eq_true rfl, Nat.le_of_ble_eq_true rfl⟩) (va_recv hK hP (ci := 3) (q0 := 0) rfl rfl) hE hK hP hD hS hA hl.1 [0, 1, 2] rfl rfl rfl rfl rfl (Nat.le_of_ble_eq_true rfl) dL_pedal_9 (Nat.le_of_ble_eq_true rfl) (Nat.le_of_ble_eq_true rfl) [] ⟨0, 14, 17, 13⟩ [⟨0, 14, 21, 19⟩] (htab.trans rfl) (fun z hz => nomatch hz) (by decide) (by decide) (hts (.classLink RL 13 nIAE) (by decide +kernel)) hE.2.2.2.2.2.2.2.2.2.2.1.word (fun q9 H locs hP hD hS => ?_)
  refine lv_astore (lv' := [(6, .ref q9), (0, .ref ba), (1, .int (nI i)), (2, .int kd), (3, .int hh), (4, .int lo), (5, .ref xo)]) hx hb dL_pedal_17 hl (by decide) rfl (fun ls hl => ?_)
  refine lv_iconst (v := (1:Int32)) hx hb dL_pedal_19 (by decide) ?_
  exact rt_h hx hb hr hlocks hP hD hS dL_pedal_20 rfl (Nat.le_of_ble_eq_true rfl) (Nat.le_of_ble_eq_true rfl)
set_option maxHeartbeats 4000000 in
set_option maxRecDepth 100000 in
theorem kL_pedalX3 (l : Launch) (hl9 : l.stackTraces = false) (G : GT) (ba : Nat) (bw : Nat) (wf : Nat → Option Nat) (wa : Nat) (i : Nat) (pa : Nat) (pr : Nat) (wo : Nat) (wl : Nat) (tr : Int32) (dr : Int64) (wt : Int64) (r : Nat) (gr : Int64) (le : Int64) (pk : Nat) (pn : Nat) (po : Nat) (n : Nat) (kd : Int32) (hh : Int32) (lo : Int32) (xo : Nat) (ox : Nat → Int64) (hi4 : i < 4) (hwf : wf i = some wa) (hkd : ¬ fX1_hasKind i kd = 0) (hill : fX1_isIll i (fX1_codeOf i hh lo) = 0) (hn : n = 12) : CI1 l yL_pedal wsL_pedal { frames := 7, cells := 1, slots := 6, locals := 109 } G [.ref ba, .int (nI i), .int kd, .int hh, .int lo, .ref xo] [(ba, .inr (3, [.ref bw])), (bw, .inl (G.2.1 4, 4, .inr (.inr (.inr (.inr wf))))), (wa, .inr (2, [.ref (G.2.2.1 i), .ref pa, .ref pr, .ref wo, .ref wl, .int tr, .long dr, .long wt, .int (nI r), .long gr, .long le])), (pa, .inr (0, [.ref pk, .ref pn, .ref po, .int (nI n)])), (xo, .inl (G.2.1 1, 1, .inr (.inl ox)))] (2:Int32) [(ba, .inr (3, [.ref bw])), (bw, .inl (G.2.1 4, 4, .inr (.inr (.inr (.inr wf))))), (wa, .inr (2, [.ref (G.2.2.1 i), .ref pa, .ref pr, .ref wo, .ref wl, .int tr, .long dr, .long wt, .int (nI r), .long gr, .long le])), (pa, .inr (0, [.ref pk, .ref pn, .ref po, .int (nI n)])), (xo, .inl (G.2.1 1, 1, .inr (.inl ox)))] := by
  refine en_h (cc := cL_pedal) (maxL := 7) (ret := (some .int)) (own := RL) (hh := [(0, 14, 17, 13), (0, 14, 21, 19)]) (by decide) rfl rfl (Nat.le_of_ble_eq_true rfl) ?_
  intro p e s m below meth c A ls htab hx hb hr hts hown hml hlocks hA hK hE hP hD hS hl
  have hl : lv_has ls 7 [(0, .ref ba), (1, .int (nI i)), (2, .int kd), (3, .int hh), (4, .int lo), (5, .ref xo)] := hl
  refine lv_aload hx hb dL_pedal_0 (lv_at hl 5 rfl) ?_
  refine lv_iconst (v := (0:Int32)) hx hb dL_pedal_2 (by decide) ?_
  refine lv_aload_n hx hb dL_pedal_3 rfl (lv_at hl 0 rfl) ?_
  refine lv_iload_n hx hb dL_pedal_4 rfl (lv_at hl 1 rfl) ?_
  refine lv_iload_n hx hb dL_pedal_5 rfl (lv_at hl 2 rfl) ?_
  refine lv_iload_n hx hb dL_pedal_6 rfl (lv_at hl 3 rfl) ?_
  refine lv_iload hx hb dL_pedal_7 (lv_at hl 4 rfl) ?_
  refine cv_c (name := nISE) (As := [.int (nI i), .int kd, .int hh, .int lo]) (rest := [.int (0:Int32), .ref xo]) ⟨hx, hb, hml, hown, hts⟩ (kX3_pedalX3 l hl9 G ba bw wf wa i pa pr wo wl tr dr wt r gr le pk pn po n kd hh lo hi4 hwf hkd hill hn) (cwV 4 hts gL_pedal_X3_pedal rfl rfl rfl (by decide +kernel) ⟨Nat.le_of_ble_eq_true rfl, Nat.le_of_ble_eq_true rfl⟩) (va_recv hK hP (ci := 3) (q0 := 0) rfl rfl) hE hK hP hD hS hA hl.1 [0, 1, 2, 3] rfl rfl rfl rfl rfl (Nat.le_of_ble_eq_true rfl) dL_pedal_9 (Nat.le_of_ble_eq_true rfl) (Nat.le_of_ble_eq_true rfl) [⟨0, 14, 17, 13⟩] ⟨0, 14, 21, 19⟩ [] (htab.trans rfl) (fun z hz => by rcases List.mem_singleton.mp hz with rfl; exact Or.inr ⟨by decide, nIAE, hts (.classLink RL 13 nIAE) (by decide +kernel), hE.2.2.2.2.2.2.2.2.2.2.2.2.2.2.2⟩) (by decide) (by decide) (hts (.classLink RL 19 nISE) (by decide +kernel)) hE.2.2.2.2.2.2.2.2.2.2.2.1.word (fun q9 H locs hP hD hS => ?_)
  refine lv_astore (lv' := [(6, .ref q9), (0, .ref ba), (1, .int (nI i)), (2, .int kd), (3, .int hh), (4, .int lo), (5, .ref xo)]) hx hb dL_pedal_21 hl (by decide) rfl (fun ls hl => ?_)
  refine lv_iconst (v := (2:Int32)) hx hb dL_pedal_23 (by decide) ?_
  exact rt_h hx hb hr hlocks hP hD hS dL_pedal_24 rfl (Nat.le_of_ble_eq_true rfl) (Nat.le_of_ble_eq_true rfl)
set_option maxHeartbeats 4000000 in
set_option maxRecDepth 100000 in
theorem kL_turn (l : Launch) (hl9 : l.stackTraces = false) (G : GT) (ba : Nat) (bw : Nat) (wf : Nat → Option Nat) (wa : Nat) (i : Nat) (pa : Nat) (pr : Nat) (wo : Nat) (wl : Nat) (tr : Int32) (dr : Int64) (wt : Int64) (r : Nat) (gr : Int64) (le : Int64) (pk : Nat) (pn : Nat) (po : Nat) (n : Nat) (ki : Nat → Int32) (kn : Nat → Int64) (on : Nat → Int32) (u : Nat) (hh : Int32) (lo : Int32) (xo : Nat) (ox : Nat → Int64) (hi4 : i < 4) (hwf : wf i = some wa) (hu : u < n) (hn : n ≤ 12) (hill : fX1_isIll i (fX1_codeOf i hh lo) = 0) : CI1 l yL_turn wsL_turn { frames := 4, cells := 1, slots := 6, locals := 94 } G [.ref ba, .int (nI i), .int (nI u), .int hh, .int lo, .ref xo] [(ba, .inr (3, [.ref bw])), (bw, .inl (G.2.1 4, 4, .inr (.inr (.inr (.inr wf))))), (wa, .inr (2, [.ref (G.2.2.1 i), .ref pa, .ref pr, .ref wo, .ref wl, .int tr, .long dr, .long wt, .int (nI r), .long gr, .long le])), (pa, .inr (0, [.ref pk, .ref pn, .ref po, .int (nI n)])), (pk, .inl (G.2.1 0, 12, .inl ki)), (pn, .inl (G.2.1 1, 12, .inr (.inl kn))), (po, .inl (G.2.1 2, 12, .inl on)), (xo, .inl (G.2.1 1, 1, .inr (.inl ox)))] (0:Int32) [(ba, .inr (3, [.ref bw])), (bw, .inl (G.2.1 4, 4, .inr (.inr (.inr (.inr wf))))), (wa, .inr (2, [.ref (G.2.2.1 i), .ref pa, .ref pr, .ref wo, .ref wl, .int tr, .long dr, .long wt, .int (nI r), .long gr, .long le])), (pa, .inr (0, [.ref pk, .ref pn, .ref po, .int (nI n)])), (pk, .inl (G.2.1 0, 12, .inl ki)), (pn, .inl (G.2.1 1, 12, .inr (.inl (vp_updL kn u (fX1_codeOf i hh lo))))), (po, .inl (G.2.1 2, 12, .inl on)), (xo, .inl (G.2.1 1, 1, .inr (.inl (vp_updL ox 0 (if (fX3_turn i kn u hh lo) = 0 then (0:Int64) else (1:Int64))))))] := by
  refine en_h (cc := cL_turn) (maxL := 7) (ret := (some .int)) (own := RL) (hh := [(0, 21, 24, 13)]) (by decide) rfl rfl (Nat.le_of_ble_eq_true rfl) ?_
  intro p e s m below meth c A ls htab hx hb hr hts hown hml hlocks hA hK hE hP hD hS hl
  have hl : lv_has ls 7 [(0, .ref ba), (1, .int (nI i)), (2, .int (nI u)), (3, .int hh), (4, .int lo), (5, .ref xo)] := hl
  refine lv_aload hx hb dL_turn_0 (lv_at hl 5 rfl) ?_
  refine lv_iconst (v := (0:Int32)) hx hb dL_turn_2 (by decide) ?_
  refine lv_aload_n hx hb dL_turn_3 rfl (lv_at hl 0 rfl) ?_
  refine lv_iload_n hx hb dL_turn_4 rfl (lv_at hl 1 rfl) ?_
  refine lv_iload_n hx hb dL_turn_5 rfl (lv_at hl 2 rfl) ?_
  refine lv_iload_n hx hb dL_turn_6 rfl (lv_at hl 3 rfl) ?_
  refine lv_iload hx hb dL_turn_7 (lv_at hl 4 rfl) ?_
  refine cv_i (As := [.int (nI i), .int (nI u), .int hh, .int lo]) (rest := [.int (0:Int32), .ref xo]) (ws' := [(ba, .inr (3, [.ref bw])), (bw, .inl (G.2.1 4, 4, .inr (.inr (.inr (.inr wf))))), (wa, .inr (2, [.ref (G.2.2.1 i), .ref pa, .ref pr, .ref wo, .ref wl, .int tr, .long dr, .long wt, .int (nI r), .long gr, .long le])), (pa, .inr (0, [.ref pk, .ref pn, .ref po, .int (nI n)])), (pk, .inl (G.2.1 0, 12, .inl ki)), (pn, .inl (G.2.1 1, 12, .inr (.inl (vp_updL kn u (fX1_codeOf i hh lo))))), (po, .inl (G.2.1 2, 12, .inl on)), (xo, .inl (G.2.1 1, 1, .inr (.inl ox)))]) ⟨hx, hb, hml, hown, hts⟩ (kX3_turn l G ba bw wf wa i pa pr wo wl tr dr wt r gr le pk pn po n ki kn on u hh lo hi4 hwf hu hn hill) (cwV 4 hts gL_turn_X3_turn rfl rfl rfl (by decide +kernel) ⟨Nat.le_of_ble_eq_true rfl, Nat.le_of_ble_eq_true rfl⟩) (va_recv hK hP (ci := 3) (q0 := 0) rfl rfl) hE hK hP hD hS hA hl.1 [0, 1, 2, 3, 4, 5, 6] rfl rfl rfl rfl rfl rfl (Nat.le_of_ble_eq_true rfl) dL_turn_9 ⟨Nat.zero_le _, Nat.zero_le _⟩ (fun H locs hP hD hS => ?_)
  refine jn_2 (T := Int64) G A (if (fX3_turn i kn u hh lo) = 0 then (0:Int64) else (1:Int64)) (fun y => [(ba, .inr (3, [.ref bw])), (bw, .inl (G.2.1 4, 4, .inr (.inr (.inr (.inr wf))))), (wa, .inr (2, [.ref (G.2.2.1 i), .ref pa, .ref pr, .ref wo, .ref wl, .int tr, .long dr, .long wt, .int (nI r), .long gr, .long le])), (pa, .inr (0, [.ref pk, .ref pn, .ref po, .int (nI n)])), (pk, .inl (G.2.1 0, 12, .inl ki)), (pn, .inl (G.2.1 1, 12, .inr (.inl (vp_updL kn u (fX1_codeOf i hh lo))))), (po, .inl (G.2.1 2, 12, .inl on)), (xo, .inl (G.2.1 1, 1, .inr (.inl ox)))]) 7 (fun y => []) (fun y => [.long y, .int (0:Int32), .ref xo]) 20 ?_ ?_
  · intro y_1 ey_1 H locs ls hP hD hS hl
    have hl : lv_has ls 7 [] := hl
    have hP : va_P G.1 vwCl [(ba, .inr (3, [.ref bw])), (bw, .inl (G.2.1 4, 4, .inr (.inr (.inr (.inr wf))))), (wa, .inr (2, [.ref (G.2.2.1 i), .ref pa, .ref pr, .ref wo, .ref wl, .int tr, .long dr, .long wt, .int (nI r), .long gr, .long le])), (pa, .inr (0, [.ref pk, .ref pn, .ref po, .int (nI n)])), (pk, .inl (G.2.1 0, 12, .inl ki)), (pn, .inl (G.2.1 1, 12, .inr (.inl (vp_updL kn u (fX1_codeOf i hh lo))))), (po, .inl (G.2.1 2, 12, .inl on)), (xo, .inl (G.2.1 1, 1, .inr (.inl ox)))] H := hP
    have hD : va_D A [(ba, .inr (3, [.ref bw])), (bw, .inl (G.2.1 4, 4, .inr (.inr (.inr (.inr wf))))), (wa, .inr (2, [.ref (G.2.2.1 i), .ref pa, .ref pr, .ref wo, .ref wl, .int tr, .long dr, .long wt, .int (nI r), .long gr, .long le])), (pa, .inr (0, [.ref pk, .ref pn, .ref po, .int (nI n)])), (pk, .inl (G.2.1 0, 12, .inl ki)), (pn, .inl (G.2.1 1, 12, .inr (.inl (vp_updL kn u (fX1_codeOf i hh lo))))), (po, .inl (G.2.1 2, 12, .inl on)), (xo, .inl (G.2.1 1, 1, .inr (.inl ox)))] := hD
    refine ar_lst hx hb hK hP hD hS 7 rfl 0 rfl (by decide) (by decide) dL_turn_20 (fun H locs hP hD hS => ?_)
    have hP : va_P G.1 vwCl [(ba, .inr (3, [.ref bw])), (bw, .inl (G.2.1 4, 4, .inr (.inr (.inr (.inr wf))))), (wa, .inr (2, [.ref (G.2.2.1 i), .ref pa, .ref pr, .ref wo, .ref wl, .int tr, .long dr, .long wt, .int (nI r), .long gr, .long le])), (pa, .inr (0, [.ref pk, .ref pn, .ref po, .int (nI n)])), (pk, .inl (G.2.1 0, 12, .inl ki)), (pn, .inl (G.2.1 1, 12, .inr (.inl (vp_updL kn u (fX1_codeOf i hh lo))))), (po, .inl (G.2.1 2, 12, .inl on)), (xo, .inl (G.2.1 1, 1, .inr (.inl (vp_updL ox 0 y_1))))] H := hP
    have hD : va_D A [(ba, .inr (3, [.ref bw])), (bw, .inl (G.2.1 4, 4, .inr (.inr (.inr (.inr wf))))), (wa, .inr (2, [.ref (G.2.2.1 i), .ref pa, .ref pr, .ref wo, .ref wl, .int tr, .long dr, .long wt, .int (nI r), .long gr, .long le])), (pa, .inr (0, [.ref pk, .ref pn, .ref po, .int (nI n)])), (pk, .inl (G.2.1 0, 12, .inl ki)), (pn, .inl (G.2.1 1, 12, .inr (.inl (vp_updL kn u (fX1_codeOf i hh lo))))), (po, .inl (G.2.1 2, 12, .inl on)), (xo, .inl (G.2.1 1, 1, .inr (.inl (vp_updL ox 0 y_1))))] := hD
    refine lv_goto (tgt := 28) hx hb dL_turn_21 (by decide) ?_
    refine lv_iconst (v := (0:Int32)) hx hb dL_turn_28 (by decide) ?_
    subst ey_1
    exact rt_h hx hb hr hlocks hP hD hS dL_turn_29 rfl (Nat.le_of_ble_eq_true rfl) (Nat.le_of_ble_eq_true rfl)
  · intro kj_1
    refine bz_eq (tgt := 19) hx hb dL_turn_12 (by decide) (fun c_2 => ?_) (fun c_2 => ?_)
    · refine lv_lconst (v := (0:Int64)) hx hb dL_turn_19 (by decide) ?_
      exact kj_1 (0:Int64) (by rw [if_pos c_2]) _ _ _ hP hD hS (lv_sub hl [] rfl)
    · refine lv_lconst (v := (1:Int64)) hx hb dL_turn_15 (by decide) ?_
      refine lv_goto (tgt := 20) hx hb dL_turn_16 (by decide) ?_
      exact kj_1 (1:Int64) (by rw [if_neg c_2]) _ _ _ hP hD hS (lv_sub hl [] rfl)
set_option maxHeartbeats 4000000 in
set_option maxRecDepth 100000 in
theorem kL_turnX0 (l : Launch) (hl9 : l.stackTraces = false) (G : GT) (ba : Nat) (bw : Nat) (wf : Nat → Option Nat) (wi : Int32) (a1 : Int32) (a2 : Int32) (a3 : Int32) (xo : Nat) (ox : Nat → Int64) (hwi : fX3_isWire wi = 0) : CI1 l yL_turn wsL_turn { frames := 8, cells := 1, slots := 6, locals := 131 } G [.ref ba, .int wi, .int a1, .int a2, .int a3, .ref xo] [(ba, .inr (3, [.ref bw])), (bw, .inl (G.2.1 4, 4, .inr (.inr (.inr (.inr wf))))), (xo, .inl (G.2.1 1, 1, .inr (.inl ox)))] (1:Int32) [(ba, .inr (3, [.ref bw])), (bw, .inl (G.2.1 4, 4, .inr (.inr (.inr (.inr wf))))), (xo, .inl (G.2.1 1, 1, .inr (.inl ox)))] := by
  refine en_h (cc := cL_turn) (maxL := 7) (ret := (some .int)) (own := RL) (hh := [(0, 21, 24, 13)]) (by decide) rfl rfl (Nat.le_of_ble_eq_true rfl) ?_
  intro p e s m below meth c A ls htab hx hb hr hts hown hml hlocks hA hK hE hP hD hS hl
  have hl : lv_has ls 7 [(0, .ref ba), (1, .int wi), (2, .int a1), (3, .int a2), (4, .int a3), (5, .ref xo)] := hl
  refine lv_aload hx hb dL_turn_0 (lv_at hl 5 rfl) ?_
  refine lv_iconst (v := (0:Int32)) hx hb dL_turn_2 (by decide) ?_
  refine lv_aload_n hx hb dL_turn_3 rfl (lv_at hl 0 rfl) ?_
  refine lv_iload_n hx hb dL_turn_4 rfl (lv_at hl 1 rfl) ?_
  refine lv_iload_n hx hb dL_turn_5 rfl (lv_at hl 2 rfl) ?_
  refine lv_iload_n hx hb dL_turn_6 rfl (lv_at hl 3 rfl) ?_
  refine lv_iload hx hb dL_turn_7 (lv_at hl 4 rfl) ?_
  refine cv_c (name := nIAE) (As := [.int wi, .int a1, .int a2, .int a3]) (rest := [.int (0:Int32), .ref xo]) ⟨hx, hb, hml, hown, hts⟩ (kX3_turnX0 l hl9 G ba bw wf wi a1 a2 a3 hwi) (cwV 4 hts gL_turn_X3_turn rfl rfl rfl (by decide +kernel) ⟨Nat.le_of_ble_eq_true rfl, Nat.le_of_ble_eq_true rfl⟩) (va_recv hK hP (ci := 3) (q0 := 0) rfl rfl) hE hK hP hD hS hA hl.1 [0, 1] rfl rfl rfl rfl rfl (Nat.le_of_ble_eq_true rfl) dL_turn_9 (Nat.le_of_ble_eq_true rfl) (Nat.le_of_ble_eq_true rfl) [] ⟨0, 21, 24, 13⟩ [] (htab.trans rfl) (fun z hz => nomatch hz) (by decide) (by decide) (hts (.classLink RL 13 nIAE) (by decide +kernel)) hE.2.2.2.2.2.2.2.2.2.2.1.word (fun q9 H locs hP hD hS => ?_)
  refine lv_astore (lv' := [(6, .ref q9), (0, .ref ba), (1, .int wi), (2, .int a1), (3, .int a2), (4, .int a3), (5, .ref xo)]) hx hb dL_turn_24 hl (by decide) rfl (fun ls hl => ?_)
  refine lv_iconst (v := (1:Int32)) hx hb dL_turn_26 (by decide) ?_
  exact rt_h hx hb hr hlocks hP hD hS dL_turn_27 rfl (Nat.le_of_ble_eq_true rfl) (Nat.le_of_ble_eq_true rfl)
set_option maxHeartbeats 4000000 in
set_option maxRecDepth 100000 in
theorem kL_turnX1 (l : Launch) (hl9 : l.stackTraces = false) (G : GT) (ba : Nat) (bw : Nat) (wf : Nat → Option Nat) (wa : Nat) (i : Nat) (pa : Nat) (pr : Nat) (wo : Nat) (wl : Nat) (tr : Int32) (dr : Int64) (wt : Int64) (r : Nat) (gr : Int64) (le : Int64) (pk : Nat) (pn : Nat) (po : Nat) (n : Nat) (pl : Int32) (hh : Int32) (lo : Int32) (xo : Nat) (ox : Nat → Int64) (hi4 : i < 4) (hwf : wf i = some wa) (hhas : fX0_has n pl = 0) : CI1 l yL_turn wsL_turn { frames := 8, cells := 1, slots := 6, locals := 131 } G [.ref ba, .int (nI i), .int pl, .int hh, .int lo, .ref xo] [(ba, .inr (3, [.ref bw])), (bw, .inl (G.2.1 4, 4, .inr (.inr (.inr (.inr wf))))), (wa, .inr (2, [.ref (G.2.2.1 i), .ref pa, .ref pr, .ref wo, .ref wl, .int tr, .long dr, .long wt, .int (nI r), .long gr, .long le])), (pa, .inr (0, [.ref pk, .ref pn, .ref po, .int (nI n)])), (xo, .inl (G.2.1 1, 1, .inr (.inl ox)))] (1:Int32) [(ba, .inr (3, [.ref bw])), (bw, .inl (G.2.1 4, 4, .inr (.inr (.inr (.inr wf))))), (wa, .inr (2, [.ref (G.2.2.1 i), .ref pa, .ref pr, .ref wo, .ref wl, .int tr, .long dr, .long wt, .int (nI r), .long gr, .long le])), (pa, .inr (0, [.ref pk, .ref pn, .ref po, .int (nI n)])), (xo, .inl (G.2.1 1, 1, .inr (.inl ox)))] := by
  refine en_h (cc := cL_turn) (maxL := 7) (ret := (some .int)) (own := RL) (hh := [(0, 21, 24, 13)]) (by decide) rfl rfl (Nat.le_of_ble_eq_true rfl) ?_
  intro p e s m below meth c A ls htab hx hb hr hts hown hml hlocks hA hK hE hP hD hS hl
  have hl : lv_has ls 7 [(0, .ref ba), (1, .int (nI i)), (2, .int pl), (3, .int hh), (4, .int lo), (5, .ref xo)] := hl
  refine lv_aload hx hb dL_turn_0 (lv_at hl 5 rfl) ?_
  refine lv_iconst (v := (0:Int32)) hx hb dL_turn_2 (by decide) ?_
  refine lv_aload_n hx hb dL_turn_3 rfl (lv_at hl 0 rfl) ?_
  refine lv_iload_n hx hb dL_turn_4 rfl (lv_at hl 1 rfl) ?_
  refine lv_iload_n hx hb dL_turn_5 rfl (lv_at hl 2 rfl) ?_
  refine lv_iload_n hx hb dL_turn_6 rfl (lv_at hl 3 rfl) ?_
  refine lv_iload hx hb dL_turn_7 (lv_at hl 4 rfl) ?_
  refine cv_c (name := nIAE) (As := [.int (nI i), .int pl, .int hh, .int lo]) (rest := [.int (0:Int32), .ref xo]) ⟨hx, hb, hml, hown, hts⟩ (kX3_turnX1 l hl9 G ba bw wf wa i pa pr wo wl tr dr wt r gr le pk pn po n pl hh lo hi4 hwf hhas) (cwV 4 hts gL_turn_X3_turn rfl rfl rfl (by decide +kernel) ⟨Nat.le_of_ble_eq_true rfl, Nat.le_of_ble_eq_true rfl⟩) (va_recv hK hP (ci := 3) (q0 := 0) rfl rfl) hE hK hP hD hS hA hl.1 [0, 1, 2, 3] rfl rfl rfl rfl rfl (Nat.le_of_ble_eq_true rfl) dL_turn_9 (Nat.le_of_ble_eq_true rfl) (Nat.le_of_ble_eq_true rfl) [] ⟨0, 21, 24, 13⟩ [] (htab.trans rfl) (fun z hz => nomatch hz) (by decide) (by decide) (hts (.classLink RL 13 nIAE) (by decide +kernel)) hE.2.2.2.2.2.2.2.2.2.2.1.word (fun q9 H locs hP hD hS => ?_)
  refine lv_astore (lv' := [(6, .ref q9), (0, .ref ba), (1, .int (nI i)), (2, .int pl), (3, .int hh), (4, .int lo), (5, .ref xo)]) hx hb dL_turn_24 hl (by decide) rfl (fun ls hl => ?_)
  refine lv_iconst (v := (1:Int32)) hx hb dL_turn_26 (by decide) ?_
  exact rt_h hx hb hr hlocks hP hD hS dL_turn_27 rfl (Nat.le_of_ble_eq_true rfl) (Nat.le_of_ble_eq_true rfl)
set_option maxHeartbeats 4000000 in
set_option maxRecDepth 100000 in
theorem kL_turnX2 (l : Launch) (hl9 : l.stackTraces = false) (G : GT) (ba : Nat) (bw : Nat) (wf : Nat → Option Nat) (wa : Nat) (i : Nat) (pa : Nat) (pr : Nat) (wo : Nat) (wl : Nat) (tr : Int32) (dr : Int64) (wt : Int64) (r : Nat) (gr : Int64) (le : Int64) (pk : Nat) (pn : Nat) (po : Nat) (n : Nat) (pl : Int32) (hh : Int32) (lo : Int32) (xo : Nat) (ox : Nat → Int64) (hi4 : i < 4) (hwf : wf i = some wa) (hhas : ¬ fX0_has n pl = 0) (hill : ¬ fX1_isIll i (fX1_codeOf i hh lo) = 0) : CI1 l yL_turn wsL_turn { frames := 8, cells := 1, slots := 6, locals := 134 } G [.ref ba, .int (nI i), .int pl, .int hh, .int lo, .ref xo] [(ba, .inr (3, [.ref bw])), (bw, .inl (G.2.1 4, 4, .inr (.inr (.inr (.inr wf))))), (wa, .inr (2, [.ref (G.2.2.1 i), .ref pa, .ref pr, .ref wo, .ref wl, .int tr, .long dr, .long wt, .int (nI r), .long gr, .long le])), (pa, .inr (0, [.ref pk, .ref pn, .ref po, .int (nI n)])), (xo, .inl (G.2.1 1, 1, .inr (.inl ox)))] (1:Int32) [(ba, .inr (3, [.ref bw])), (bw, .inl (G.2.1 4, 4, .inr (.inr (.inr (.inr wf))))), (wa, .inr (2, [.ref (G.2.2.1 i), .ref pa, .ref pr, .ref wo, .ref wl, .int tr, .long dr, .long wt, .int (nI r), .long gr, .long le])), (pa, .inr (0, [.ref pk, .ref pn, .ref po, .int (nI n)])), (xo, .inl (G.2.1 1, 1, .inr (.inl ox)))] := by
  refine en_h (cc := cL_turn) (maxL := 7) (ret := (some .int)) (own := RL) (hh := [(0, 21, 24, 13)]) (by decide) rfl rfl (Nat.le_of_ble_eq_true rfl) ?_
  intro p e s m below meth c A ls htab hx hb hr hts hown hml hlocks hA hK hE hP hD hS hl
  have hl : lv_has ls 7 [(0, .ref ba), (1, .int (nI i)), (2, .int pl), (3, .int hh), (4, .int lo), (5, .ref xo)] := hl
  refine lv_aload hx hb dL_turn_0 (lv_at hl 5 rfl) ?_
  refine lv_iconst (v := (0:Int32)) hx hb dL_turn_2 (by decide) ?_
  refine lv_aload_n hx hb dL_turn_3 rfl (lv_at hl 0 rfl) ?_
  refine lv_iload_n hx hb dL_turn_4 rfl (lv_at hl 1 rfl) ?_
  refine lv_iload_n hx hb dL_turn_5 rfl (lv_at hl 2 rfl) ?_
  refine lv_iload_n hx hb dL_turn_6 rfl (lv_at hl 3 rfl) ?_
  refine lv_iload hx hb dL_turn_7 (lv_at hl 4 rfl) ?_
  refine cv_c (name := nIAE) (As := [.int (nI i), .int pl, .int hh, .int lo]) (rest := [.int (0:Int32), .ref xo]) ⟨hx, hb, hml, hown, hts⟩ (kX3_turnX2 l hl9 G ba bw wf wa i pa pr wo wl tr dr wt r gr le pk pn po n pl hh lo hi4 hwf hhas hill) (cwV 4 hts gL_turn_X3_turn rfl rfl rfl (by decide +kernel) ⟨Nat.le_of_ble_eq_true rfl, Nat.le_of_ble_eq_true rfl⟩) (va_recv hK hP (ci := 3) (q0 := 0) rfl rfl) hE hK hP hD hS hA hl.1 [0, 1, 2, 3] rfl rfl rfl rfl rfl (Nat.le_of_ble_eq_true rfl) dL_turn_9 (Nat.le_of_ble_eq_true rfl) (Nat.le_of_ble_eq_true rfl) [] ⟨0, 21, 24, 13⟩ [] (htab.trans rfl) (fun z hz => nomatch hz) (by decide) (by decide) (hts (.classLink RL 13 nIAE) (by decide +kernel)) hE.2.2.2.2.2.2.2.2.2.2.1.word (fun q9 H locs hP hD hS => ?_)
  refine lv_astore (lv' := [(6, .ref q9), (0, .ref ba), (1, .int (nI i)), (2, .int pl), (3, .int hh), (4, .int lo), (5, .ref xo)]) hx hb dL_turn_24 hl (by decide) rfl (fun ls hl => ?_)
  refine lv_iconst (v := (1:Int32)) hx hb dL_turn_26 (by decide) ?_
  exact rt_h hx hb hr hlocks hP hD hS dL_turn_27 rfl (Nat.le_of_ble_eq_true rfl) (Nat.le_of_ble_eq_true rfl)
set_option maxHeartbeats 4000000 in
set_option maxRecDepth 100000 in
theorem kL_tap (l : Launch) (hl9 : l.stackTraces = false) (G : GT) (ba : Nat) (bw : Nat) (wf : Nat → Option Nat) (wa : Nat) (i : Nat) (pa : Nat) (pr : Nat) (wo : Nat) (wl : Nat) (tr : Int32) (dr : Int64) (wt : Int64) (r : Nat) (gr : Int64) (le : Int64) (pk : Nat) (pn : Nat) (po : Nat) (n : Nat) (ki : Nat → Int32) (kn : Nat → Int64) (on : Nat → Int32) (u : Nat) (xo : Nat) (ox : Nat → Int64) (hi4 : i < 4) (hwf : wf i = some wa) (hu : u < n) (hn : n ≤ 12) : CI1 l yL_tap wsL_tap { frames := 3, cells := 1, slots := 6, locals := 65 } G [.ref ba, .int (nI i), .int (nI u), .ref xo] [(ba, .inr (3, [.ref bw])), (bw, .inl (G.2.1 4, 4, .inr (.inr (.inr (.inr wf))))), (wa, .inr (2, [.ref (G.2.2.1 i), .ref pa, .ref pr, .ref wo, .ref wl, .int tr, .long dr, .long wt, .int (nI r), .long gr, .long le])), (pa, .inr (0, [.ref pk, .ref pn, .ref po, .int (nI n)])), (pk, .inl (G.2.1 0, 12, .inl ki)), (pn, .inl (G.2.1 1, 12, .inr (.inl kn))), (po, .inl (G.2.1 2, 12, .inl on)), (xo, .inl (G.2.1 1, 1, .inr (.inl ox)))] (0:Int32) [(ba, .inr (3, [.ref bw])), (bw, .inl (G.2.1 4, 4, .inr (.inr (.inr (.inr wf))))), (wa, .inr (2, [.ref (G.2.2.1 i), .ref pa, .ref pr, .ref wo, .ref wl, .int tr, .long dr, .long wt, .int (nI r), .long gr, .long le])), (pa, .inr (0, [.ref pk, .ref pn, .ref po, .int (nI n)])), (pk, .inl (G.2.1 0, 12, .inl ki)), (pn, .inl (G.2.1 1, 12, .inr (.inl kn))), (po, .inl (G.2.1 2, 12, .inl (upd on u (if (on u) = 0 then (1:Int32) else (0:Int32))))), (xo, .inl (G.2.1 1, 1, .inr (.inl (vp_updL ox 0 (if (fX3_tap on u) = 0 then (0:Int64) else (1:Int64))))))] := by
  refine en_h (cc := cL_tap) (maxL := 5) (ret := (some .int)) (own := RL) (hh := [(0, 17, 20, 13)]) (by decide) rfl rfl (Nat.le_of_ble_eq_true rfl) ?_
  intro p e s m below meth c A ls htab hx hb hr hts hown hml hlocks hA hK hE hP hD hS hl
  have hl : lv_has ls 5 [(0, .ref ba), (1, .int (nI i)), (2, .int (nI u)), (3, .ref xo)] := hl
  refine lv_aload_n hx hb dL_tap_0 rfl (lv_at hl 3 rfl) ?_
  refine lv_iconst (v := (0:Int32)) hx hb dL_tap_1 (by decide) ?_
  refine lv_aload_n hx hb dL_tap_2 rfl (lv_at hl 0 rfl) ?_
  refine lv_iload_n hx hb dL_tap_3 rfl (lv_at hl 1 rfl) ?_
  refine lv_iload_n hx hb dL_tap_4 rfl (lv_at hl 2 rfl) ?_
  refine cv_i (As := [.int (nI i), .int (nI u)]) (rest := [.int (0:Int32), .ref xo]) (ws' := [(ba, .inr (3, [.ref bw])), (bw, .inl (G.2.1 4, 4, .inr (.inr (.inr (.inr wf))))), (wa, .inr (2, [.ref (G.2.2.1 i), .ref pa, .ref pr, .ref wo, .ref wl, .int tr, .long dr, .long wt, .int (nI r), .long gr, .long le])), (pa, .inr (0, [.ref pk, .ref pn, .ref po, .int (nI n)])), (pk, .inl (G.2.1 0, 12, .inl ki)), (pn, .inl (G.2.1 1, 12, .inr (.inl kn))), (po, .inl (G.2.1 2, 12, .inl (upd on u (if (on u) = 0 then (1:Int32) else (0:Int32))))), (xo, .inl (G.2.1 1, 1, .inr (.inl ox)))]) ⟨hx, hb, hml, hown, hts⟩ (kX3_tap l G ba bw wf wa i pa pr wo wl tr dr wt r gr le pk pn po n ki kn on u hi4 hwf hu hn) (cwV 2 hts gL_tap_X3_tap rfl rfl rfl (by decide +kernel) ⟨Nat.le_of_ble_eq_true rfl, Nat.le_of_ble_eq_true rfl⟩) (va_recv hK hP (ci := 3) (q0 := 0) rfl rfl) hE hK hP hD hS hA hl.1 [0, 1, 2, 3, 4, 5, 6] rfl rfl rfl rfl rfl rfl (Nat.le_of_ble_eq_true rfl) dL_tap_5 ⟨Nat.zero_le _, Nat.zero_le _⟩ (fun H locs hP hD hS => ?_)
  refine jn_2 (T := Int64) G A (if (fX3_tap on u) = 0 then (0:Int64) else (1:Int64)) (fun y => [(ba, .inr (3, [.ref bw])), (bw, .inl (G.2.1 4, 4, .inr (.inr (.inr (.inr wf))))), (wa, .inr (2, [.ref (G.2.2.1 i), .ref pa, .ref pr, .ref wo, .ref wl, .int tr, .long dr, .long wt, .int (nI r), .long gr, .long le])), (pa, .inr (0, [.ref pk, .ref pn, .ref po, .int (nI n)])), (pk, .inl (G.2.1 0, 12, .inl ki)), (pn, .inl (G.2.1 1, 12, .inr (.inl kn))), (po, .inl (G.2.1 2, 12, .inl (upd on u (if (on u) = 0 then (1:Int32) else (0:Int32))))), (xo, .inl (G.2.1 1, 1, .inr (.inl ox)))]) 5 (fun y => []) (fun y => [.long y, .int (0:Int32), .ref xo]) 16 ?_ ?_
  · intro y_1 ey_1 H locs ls hP hD hS hl
    have hl : lv_has ls 5 [] := hl
    have hP : va_P G.1 vwCl [(ba, .inr (3, [.ref bw])), (bw, .inl (G.2.1 4, 4, .inr (.inr (.inr (.inr wf))))), (wa, .inr (2, [.ref (G.2.2.1 i), .ref pa, .ref pr, .ref wo, .ref wl, .int tr, .long dr, .long wt, .int (nI r), .long gr, .long le])), (pa, .inr (0, [.ref pk, .ref pn, .ref po, .int (nI n)])), (pk, .inl (G.2.1 0, 12, .inl ki)), (pn, .inl (G.2.1 1, 12, .inr (.inl kn))), (po, .inl (G.2.1 2, 12, .inl (upd on u (if (on u) = 0 then (1:Int32) else (0:Int32))))), (xo, .inl (G.2.1 1, 1, .inr (.inl ox)))] H := hP
    have hD : va_D A [(ba, .inr (3, [.ref bw])), (bw, .inl (G.2.1 4, 4, .inr (.inr (.inr (.inr wf))))), (wa, .inr (2, [.ref (G.2.2.1 i), .ref pa, .ref pr, .ref wo, .ref wl, .int tr, .long dr, .long wt, .int (nI r), .long gr, .long le])), (pa, .inr (0, [.ref pk, .ref pn, .ref po, .int (nI n)])), (pk, .inl (G.2.1 0, 12, .inl ki)), (pn, .inl (G.2.1 1, 12, .inr (.inl kn))), (po, .inl (G.2.1 2, 12, .inl (upd on u (if (on u) = 0 then (1:Int32) else (0:Int32))))), (xo, .inl (G.2.1 1, 1, .inr (.inl ox)))] := hD
    refine ar_lst hx hb hK hP hD hS 7 rfl 0 rfl (by decide) (by decide) dL_tap_16 (fun H locs hP hD hS => ?_)
    have hP : va_P G.1 vwCl [(ba, .inr (3, [.ref bw])), (bw, .inl (G.2.1 4, 4, .inr (.inr (.inr (.inr wf))))), (wa, .inr (2, [.ref (G.2.2.1 i), .ref pa, .ref pr, .ref wo, .ref wl, .int tr, .long dr, .long wt, .int (nI r), .long gr, .long le])), (pa, .inr (0, [.ref pk, .ref pn, .ref po, .int (nI n)])), (pk, .inl (G.2.1 0, 12, .inl ki)), (pn, .inl (G.2.1 1, 12, .inr (.inl kn))), (po, .inl (G.2.1 2, 12, .inl (upd on u (if (on u) = 0 then (1:Int32) else (0:Int32))))), (xo, .inl (G.2.1 1, 1, .inr (.inl (vp_updL ox 0 y_1))))] H := hP
    have hD : va_D A [(ba, .inr (3, [.ref bw])), (bw, .inl (G.2.1 4, 4, .inr (.inr (.inr (.inr wf))))), (wa, .inr (2, [.ref (G.2.2.1 i), .ref pa, .ref pr, .ref wo, .ref wl, .int tr, .long dr, .long wt, .int (nI r), .long gr, .long le])), (pa, .inr (0, [.ref pk, .ref pn, .ref po, .int (nI n)])), (pk, .inl (G.2.1 0, 12, .inl ki)), (pn, .inl (G.2.1 1, 12, .inr (.inl kn))), (po, .inl (G.2.1 2, 12, .inl (upd on u (if (on u) = 0 then (1:Int32) else (0:Int32))))), (xo, .inl (G.2.1 1, 1, .inr (.inl (vp_updL ox 0 y_1))))] := hD
    refine lv_goto (tgt := 24) hx hb dL_tap_17 (by decide) ?_
    refine lv_iconst (v := (0:Int32)) hx hb dL_tap_24 (by decide) ?_
    subst ey_1
    exact rt_h hx hb hr hlocks hP hD hS dL_tap_25 rfl (Nat.le_of_ble_eq_true rfl) (Nat.le_of_ble_eq_true rfl)
  · intro kj_1
    refine bz_eq (tgt := 15) hx hb dL_tap_8 (by decide) (fun c_2 => ?_) (fun c_2 => ?_)
    · refine lv_lconst (v := (0:Int64)) hx hb dL_tap_15 (by decide) ?_
      exact kj_1 (0:Int64) (by rw [if_pos c_2]) _ _ _ hP hD hS (lv_sub hl [] rfl)
    · refine lv_lconst (v := (1:Int64)) hx hb dL_tap_11 (by decide) ?_
      refine lv_goto (tgt := 16) hx hb dL_tap_12 (by decide) ?_
      exact kj_1 (1:Int64) (by rw [if_neg c_2]) _ _ _ hP hD hS (lv_sub hl [] rfl)
set_option maxHeartbeats 4000000 in
set_option maxRecDepth 100000 in
theorem kL_tapX0 (l : Launch) (hl9 : l.stackTraces = false) (G : GT) (ba : Nat) (bw : Nat) (wf : Nat → Option Nat) (wi : Int32) (a1 : Int32) (xo : Nat) (ox : Nat → Int64) (hwi : fX3_isWire wi = 0) : CI1 l yL_tap wsL_tap { frames := 8, cells := 1, slots := 6, locals := 126 } G [.ref ba, .int wi, .int a1, .ref xo] [(ba, .inr (3, [.ref bw])), (bw, .inl (G.2.1 4, 4, .inr (.inr (.inr (.inr wf))))), (xo, .inl (G.2.1 1, 1, .inr (.inl ox)))] (1:Int32) [(ba, .inr (3, [.ref bw])), (bw, .inl (G.2.1 4, 4, .inr (.inr (.inr (.inr wf))))), (xo, .inl (G.2.1 1, 1, .inr (.inl ox)))] := by
  refine en_h (cc := cL_tap) (maxL := 5) (ret := (some .int)) (own := RL) (hh := [(0, 17, 20, 13)]) (by decide) rfl rfl (Nat.le_of_ble_eq_true rfl) ?_
  intro p e s m below meth c A ls htab hx hb hr hts hown hml hlocks hA hK hE hP hD hS hl
  have hl : lv_has ls 5 [(0, .ref ba), (1, .int wi), (2, .int a1), (3, .ref xo)] := hl
  refine lv_aload_n hx hb dL_tap_0 rfl (lv_at hl 3 rfl) ?_
  refine lv_iconst (v := (0:Int32)) hx hb dL_tap_1 (by decide) ?_
  refine lv_aload_n hx hb dL_tap_2 rfl (lv_at hl 0 rfl) ?_
  refine lv_iload_n hx hb dL_tap_3 rfl (lv_at hl 1 rfl) ?_
  refine lv_iload_n hx hb dL_tap_4 rfl (lv_at hl 2 rfl) ?_
  refine cv_c (name := nIAE) (As := [.int wi, .int a1]) (rest := [.int (0:Int32), .ref xo]) ⟨hx, hb, hml, hown, hts⟩ (kX3_tapX0 l hl9 G ba bw wf wi a1 hwi) (cwV 2 hts gL_tap_X3_tap rfl rfl rfl (by decide +kernel) ⟨Nat.le_of_ble_eq_true rfl, Nat.le_of_ble_eq_true rfl⟩) (va_recv hK hP (ci := 3) (q0 := 0) rfl rfl) hE hK hP hD hS hA hl.1 [0, 1] rfl rfl rfl rfl rfl (Nat.le_of_ble_eq_true rfl) dL_tap_5 (Nat.le_of_ble_eq_true rfl) (Nat.le_of_ble_eq_true rfl) [] ⟨0, 17, 20, 13⟩ [] (htab.trans rfl) (fun z hz => nomatch hz) (by decide) (by decide) (hts (.classLink RL 13 nIAE) (by decide +kernel)) hE.2.2.2.2.2.2.2.2.2.2.1.word (fun q9 H locs hP hD hS => ?_)
  refine lv_astore (lv' := [(4, .ref q9), (0, .ref ba), (1, .int wi), (2, .int a1), (3, .ref xo)]) hx hb dL_tap_20 hl (by decide) rfl (fun ls hl => ?_)
  refine lv_iconst (v := (1:Int32)) hx hb dL_tap_22 (by decide) ?_
  exact rt_h hx hb hr hlocks hP hD hS dL_tap_23 rfl (Nat.le_of_ble_eq_true rfl) (Nat.le_of_ble_eq_true rfl)
set_option maxHeartbeats 4000000 in
set_option maxRecDepth 100000 in
theorem kL_tapX1 (l : Launch) (hl9 : l.stackTraces = false) (G : GT) (ba : Nat) (bw : Nat) (wf : Nat → Option Nat) (wa : Nat) (i : Nat) (pa : Nat) (pr : Nat) (wo : Nat) (wl : Nat) (tr : Int32) (dr : Int64) (wt : Int64) (r : Nat) (gr : Int64) (le : Int64) (pk : Nat) (pn : Nat) (po : Nat) (n : Nat) (pl : Int32) (xo : Nat) (ox : Nat → Int64) (hi4 : i < 4) (hwf : wf i = some wa) (hhas : fX0_has n pl = 0) : CI1 l yL_tap wsL_tap { frames := 8, cells := 1, slots := 6, locals := 126 } G [.ref ba, .int (nI i), .int pl, .ref xo] [(ba, .inr (3, [.ref bw])), (bw, .inl (G.2.1 4, 4, .inr (.inr (.inr (.inr wf))))), (wa, .inr (2, [.ref (G.2.2.1 i), .ref pa, .ref pr, .ref wo, .ref wl, .int tr, .long dr, .long wt, .int (nI r), .long gr, .long le])), (pa, .inr (0, [.ref pk, .ref pn, .ref po, .int (nI n)])), (xo, .inl (G.2.1 1, 1, .inr (.inl ox)))] (1:Int32) [(ba, .inr (3, [.ref bw])), (bw, .inl (G.2.1 4, 4, .inr (.inr (.inr (.inr wf))))), (wa, .inr (2, [.ref (G.2.2.1 i), .ref pa, .ref pr, .ref wo, .ref wl, .int tr, .long dr, .long wt, .int (nI r), .long gr, .long le])), (pa, .inr (0, [.ref pk, .ref pn, .ref po, .int (nI n)])), (xo, .inl (G.2.1 1, 1, .inr (.inl ox)))] := by
  refine en_h (cc := cL_tap) (maxL := 5) (ret := (some .int)) (own := RL) (hh := [(0, 17, 20, 13)]) (by decide) rfl rfl (Nat.le_of_ble_eq_true rfl) ?_
  intro p e s m below meth c A ls htab hx hb hr hts hown hml hlocks hA hK hE hP hD hS hl
  have hl : lv_has ls 5 [(0, .ref ba), (1, .int (nI i)), (2, .int pl), (3, .ref xo)] := hl
  refine lv_aload_n hx hb dL_tap_0 rfl (lv_at hl 3 rfl) ?_
  refine lv_iconst (v := (0:Int32)) hx hb dL_tap_1 (by decide) ?_
  refine lv_aload_n hx hb dL_tap_2 rfl (lv_at hl 0 rfl) ?_
  refine lv_iload_n hx hb dL_tap_3 rfl (lv_at hl 1 rfl) ?_
  refine lv_iload_n hx hb dL_tap_4 rfl (lv_at hl 2 rfl) ?_
  refine cv_c (name := nIAE) (As := [.int (nI i), .int pl]) (rest := [.int (0:Int32), .ref xo]) ⟨hx, hb, hml, hown, hts⟩ (kX3_tapX1 l hl9 G ba bw wf wa i pa pr wo wl tr dr wt r gr le pk pn po n pl hi4 hwf hhas) (cwV 2 hts gL_tap_X3_tap rfl rfl rfl (by decide +kernel) ⟨Nat.le_of_ble_eq_true rfl, Nat.le_of_ble_eq_true rfl⟩) (va_recv hK hP (ci := 3) (q0 := 0) rfl rfl) hE hK hP hD hS hA hl.1 [0, 1, 2, 3] rfl rfl rfl rfl rfl (Nat.le_of_ble_eq_true rfl) dL_tap_5 (Nat.le_of_ble_eq_true rfl) (Nat.le_of_ble_eq_true rfl) [] ⟨0, 17, 20, 13⟩ [] (htab.trans rfl) (fun z hz => nomatch hz) (by decide) (by decide) (hts (.classLink RL 13 nIAE) (by decide +kernel)) hE.2.2.2.2.2.2.2.2.2.2.1.word (fun q9 H locs hP hD hS => ?_)
  refine lv_astore (lv' := [(4, .ref q9), (0, .ref ba), (1, .int (nI i)), (2, .int pl), (3, .ref xo)]) hx hb dL_tap_20 hl (by decide) rfl (fun ls hl => ?_)
  refine lv_iconst (v := (1:Int32)) hx hb dL_tap_22 (by decide) ?_
  exact rt_h hx hb hr hlocks hP hD hS dL_tap_23 rfl (Nat.le_of_ble_eq_true rfl) (Nat.le_of_ble_eq_true rfl)
set_option maxHeartbeats 4000000 in
set_option maxRecDepth 100000 in
theorem kL_swap (l : Launch) (hl9 : l.stackTraces = false) (G : GT) (ba : Nat) (bw : Nat) (wf : Nat → Option Nat) (wa : Nat) (i : Nat) (pa : Nat) (pr : Nat) (wo : Nat) (wl : Nat) (tr : Int32) (dr : Int64) (wt : Int64) (r : Nat) (gr : Int64) (le : Int64) (pk : Nat) (pn : Nat) (po : Nat) (n : Nat) (ki : Nat → Int32) (kn : Nat → Int64) (on : Nat → Int32) (u1 : Nat) (u2 : Nat) (xo : Nat) (ox : Nat → Int64) (hi4 : i < 4) (hwf : wf i = some wa) (hu1 : u1 < n) (hu2 : u2 < n) (hn : n ≤ 12) (hz : ∀ k, on k = 0 ∨ on k = 1) : CI1 l yL_swap wsL_swap { frames := 3, cells := 1, slots := 6, locals := 67 } G [.ref ba, .int (nI i), .int (nI u1), .int (nI u2), .ref xo] [(ba, .inr (3, [.ref bw])), (bw, .inl (G.2.1 4, 4, .inr (.inr (.inr (.inr wf))))), (wa, .inr (2, [.ref (G.2.2.1 i), .ref pa, .ref pr, .ref wo, .ref wl, .int tr, .long dr, .long wt, .int (nI r), .long gr, .long le])), (pa, .inr (0, [.ref pk, .ref pn, .ref po, .int (nI n)])), (pk, .inl (G.2.1 0, 12, .inl ki)), (pn, .inl (G.2.1 1, 12, .inr (.inl kn))), (po, .inl (G.2.1 2, 12, .inl on)), (xo, .inl (G.2.1 1, 1, .inr (.inl ox)))] (0:Int32) [(ba, .inr (3, [.ref bw])), (bw, .inl (G.2.1 4, 4, .inr (.inr (.inr (.inr wf))))), (wa, .inr (2, [.ref (G.2.2.1 i), .ref pa, .ref pr, .ref wo, .ref wl, .int (0:Int32), .long dr, .long wt, .int (nI r), .long gr, .long le])), (pa, .inr (0, [.ref pk, .ref pn, .ref po, .int (nI n)])), (pk, .inl (G.2.1 0, 12, .inl (upd (upd ki u1 (ki u2)) u2 (ki u1)))), (pn, .inl (G.2.1 1, 12, .inr (.inl (vp_updL (vp_updL kn u1 (kn u2)) u2 (kn u1))))), (po, .inl (G.2.1 2, 12, .inl (upd (upd on u1 (on u2)) u2 (on u1)))), (xo, .inl (G.2.1 1, 1, .inr (.inl (vp_updL ox 0 (if (fX3_swap ki kn on u1 u2) = 0 then (0:Int64) else (1:Int64))))))] := by
  refine en_h (cc := cL_swap) (maxL := 6) (ret := (some .int)) (own := RL) (hh := [(0, 19, 22, 13)]) (by decide) rfl rfl (Nat.le_of_ble_eq_true rfl) ?_
  intro p e s m below meth c A ls htab hx hb hr hts hown hml hlocks hA hK hE hP hD hS hl
  have hl : lv_has ls 6 [(0, .ref ba), (1, .int (nI i)), (2, .int (nI u1)), (3, .int (nI u2)), (4, .ref xo)] := hl
  refine lv_aload hx hb dL_swap_0 (lv_at hl 4 rfl) ?_
  refine lv_iconst (v := (0:Int32)) hx hb dL_swap_2 (by decide) ?_
  refine lv_aload_n hx hb dL_swap_3 rfl (lv_at hl 0 rfl) ?_
  refine lv_iload_n hx hb dL_swap_4 rfl (lv_at hl 1 rfl) ?_
  refine lv_iload_n hx hb dL_swap_5 rfl (lv_at hl 2 rfl) ?_
  refine lv_iload_n hx hb dL_swap_6 rfl (lv_at hl 3 rfl) ?_
  refine cv_i (As := [.int (nI i), .int (nI u1), .int (nI u2)]) (rest := [.int (0:Int32), .ref xo]) (ws' := [(ba, .inr (3, [.ref bw])), (bw, .inl (G.2.1 4, 4, .inr (.inr (.inr (.inr wf))))), (wa, .inr (2, [.ref (G.2.2.1 i), .ref pa, .ref pr, .ref wo, .ref wl, .int (0:Int32), .long dr, .long wt, .int (nI r), .long gr, .long le])), (pa, .inr (0, [.ref pk, .ref pn, .ref po, .int (nI n)])), (pk, .inl (G.2.1 0, 12, .inl (upd (upd ki u1 (ki u2)) u2 (ki u1)))), (pn, .inl (G.2.1 1, 12, .inr (.inl (vp_updL (vp_updL kn u1 (kn u2)) u2 (kn u1))))), (po, .inl (G.2.1 2, 12, .inl (upd (upd on u1 (on u2)) u2 (on u1)))), (xo, .inl (G.2.1 1, 1, .inr (.inl ox)))]) ⟨hx, hb, hml, hown, hts⟩ (kX3_swap l G ba bw wf wa i pa pr wo wl tr dr wt r gr le pk pn po n ki kn on u1 u2 hi4 hwf hu1 hu2 hn hz) (cwV 3 hts gL_swap_X3_swap rfl rfl rfl (by decide +kernel) ⟨Nat.le_of_ble_eq_true rfl, Nat.le_of_ble_eq_true rfl⟩) (va_recv hK hP (ci := 3) (q0 := 0) rfl rfl) hE hK hP hD hS hA hl.1 [0, 1, 2, 3, 4, 5, 6] rfl rfl rfl rfl rfl rfl (Nat.le_of_ble_eq_true rfl) dL_swap_7 ⟨Nat.zero_le _, Nat.zero_le _⟩ (fun H locs hP hD hS => ?_)
  refine jn_2 (T := Int64) G A (if (fX3_swap ki kn on u1 u2) = 0 then (0:Int64) else (1:Int64)) (fun y => [(ba, .inr (3, [.ref bw])), (bw, .inl (G.2.1 4, 4, .inr (.inr (.inr (.inr wf))))), (wa, .inr (2, [.ref (G.2.2.1 i), .ref pa, .ref pr, .ref wo, .ref wl, .int (0:Int32), .long dr, .long wt, .int (nI r), .long gr, .long le])), (pa, .inr (0, [.ref pk, .ref pn, .ref po, .int (nI n)])), (pk, .inl (G.2.1 0, 12, .inl (upd (upd ki u1 (ki u2)) u2 (ki u1)))), (pn, .inl (G.2.1 1, 12, .inr (.inl (vp_updL (vp_updL kn u1 (kn u2)) u2 (kn u1))))), (po, .inl (G.2.1 2, 12, .inl (upd (upd on u1 (on u2)) u2 (on u1)))), (xo, .inl (G.2.1 1, 1, .inr (.inl ox)))]) 6 (fun y => []) (fun y => [.long y, .int (0:Int32), .ref xo]) 18 ?_ ?_
  · intro y_1 ey_1 H locs ls hP hD hS hl
    have hl : lv_has ls 6 [] := hl
    have hP : va_P G.1 vwCl [(ba, .inr (3, [.ref bw])), (bw, .inl (G.2.1 4, 4, .inr (.inr (.inr (.inr wf))))), (wa, .inr (2, [.ref (G.2.2.1 i), .ref pa, .ref pr, .ref wo, .ref wl, .int (0:Int32), .long dr, .long wt, .int (nI r), .long gr, .long le])), (pa, .inr (0, [.ref pk, .ref pn, .ref po, .int (nI n)])), (pk, .inl (G.2.1 0, 12, .inl (upd (upd ki u1 (ki u2)) u2 (ki u1)))), (pn, .inl (G.2.1 1, 12, .inr (.inl (vp_updL (vp_updL kn u1 (kn u2)) u2 (kn u1))))), (po, .inl (G.2.1 2, 12, .inl (upd (upd on u1 (on u2)) u2 (on u1)))), (xo, .inl (G.2.1 1, 1, .inr (.inl ox)))] H := hP
    have hD : va_D A [(ba, .inr (3, [.ref bw])), (bw, .inl (G.2.1 4, 4, .inr (.inr (.inr (.inr wf))))), (wa, .inr (2, [.ref (G.2.2.1 i), .ref pa, .ref pr, .ref wo, .ref wl, .int (0:Int32), .long dr, .long wt, .int (nI r), .long gr, .long le])), (pa, .inr (0, [.ref pk, .ref pn, .ref po, .int (nI n)])), (pk, .inl (G.2.1 0, 12, .inl (upd (upd ki u1 (ki u2)) u2 (ki u1)))), (pn, .inl (G.2.1 1, 12, .inr (.inl (vp_updL (vp_updL kn u1 (kn u2)) u2 (kn u1))))), (po, .inl (G.2.1 2, 12, .inl (upd (upd on u1 (on u2)) u2 (on u1)))), (xo, .inl (G.2.1 1, 1, .inr (.inl ox)))] := hD
    refine ar_lst hx hb hK hP hD hS 7 rfl 0 rfl (by decide) (by decide) dL_swap_18 (fun H locs hP hD hS => ?_)
    have hP : va_P G.1 vwCl [(ba, .inr (3, [.ref bw])), (bw, .inl (G.2.1 4, 4, .inr (.inr (.inr (.inr wf))))), (wa, .inr (2, [.ref (G.2.2.1 i), .ref pa, .ref pr, .ref wo, .ref wl, .int (0:Int32), .long dr, .long wt, .int (nI r), .long gr, .long le])), (pa, .inr (0, [.ref pk, .ref pn, .ref po, .int (nI n)])), (pk, .inl (G.2.1 0, 12, .inl (upd (upd ki u1 (ki u2)) u2 (ki u1)))), (pn, .inl (G.2.1 1, 12, .inr (.inl (vp_updL (vp_updL kn u1 (kn u2)) u2 (kn u1))))), (po, .inl (G.2.1 2, 12, .inl (upd (upd on u1 (on u2)) u2 (on u1)))), (xo, .inl (G.2.1 1, 1, .inr (.inl (vp_updL ox 0 y_1))))] H := hP
    have hD : va_D A [(ba, .inr (3, [.ref bw])), (bw, .inl (G.2.1 4, 4, .inr (.inr (.inr (.inr wf))))), (wa, .inr (2, [.ref (G.2.2.1 i), .ref pa, .ref pr, .ref wo, .ref wl, .int (0:Int32), .long dr, .long wt, .int (nI r), .long gr, .long le])), (pa, .inr (0, [.ref pk, .ref pn, .ref po, .int (nI n)])), (pk, .inl (G.2.1 0, 12, .inl (upd (upd ki u1 (ki u2)) u2 (ki u1)))), (pn, .inl (G.2.1 1, 12, .inr (.inl (vp_updL (vp_updL kn u1 (kn u2)) u2 (kn u1))))), (po, .inl (G.2.1 2, 12, .inl (upd (upd on u1 (on u2)) u2 (on u1)))), (xo, .inl (G.2.1 1, 1, .inr (.inl (vp_updL ox 0 y_1))))] := hD
    refine lv_goto (tgt := 26) hx hb dL_swap_19 (by decide) ?_
    refine lv_iconst (v := (0:Int32)) hx hb dL_swap_26 (by decide) ?_
    subst ey_1
    exact rt_h hx hb hr hlocks hP hD hS dL_swap_27 rfl (Nat.le_of_ble_eq_true rfl) (Nat.le_of_ble_eq_true rfl)
  · intro kj_1
    refine bz_eq (tgt := 17) hx hb dL_swap_10 (by decide) (fun c_2 => ?_) (fun c_2 => ?_)
    · refine lv_lconst (v := (0:Int64)) hx hb dL_swap_17 (by decide) ?_
      exact kj_1 (0:Int64) (by rw [if_pos c_2]) _ _ _ hP hD hS (lv_sub hl [] rfl)
    · refine lv_lconst (v := (1:Int64)) hx hb dL_swap_13 (by decide) ?_
      refine lv_goto (tgt := 18) hx hb dL_swap_14 (by decide) ?_
      exact kj_1 (1:Int64) (by rw [if_neg c_2]) _ _ _ hP hD hS (lv_sub hl [] rfl)
set_option maxHeartbeats 4000000 in
set_option maxRecDepth 100000 in
theorem kL_swapX0 (l : Launch) (hl9 : l.stackTraces = false) (G : GT) (ba : Nat) (bw : Nat) (wf : Nat → Option Nat) (wi : Int32) (a1 : Int32) (a2 : Int32) (xo : Nat) (ox : Nat → Int64) (hwi : fX3_isWire wi = 0) : CI1 l yL_swap wsL_swap { frames := 8, cells := 1, slots := 6, locals := 128 } G [.ref ba, .int wi, .int a1, .int a2, .ref xo] [(ba, .inr (3, [.ref bw])), (bw, .inl (G.2.1 4, 4, .inr (.inr (.inr (.inr wf))))), (xo, .inl (G.2.1 1, 1, .inr (.inl ox)))] (1:Int32) [(ba, .inr (3, [.ref bw])), (bw, .inl (G.2.1 4, 4, .inr (.inr (.inr (.inr wf))))), (xo, .inl (G.2.1 1, 1, .inr (.inl ox)))] := by
  refine en_h (cc := cL_swap) (maxL := 6) (ret := (some .int)) (own := RL) (hh := [(0, 19, 22, 13)]) (by decide) rfl rfl (Nat.le_of_ble_eq_true rfl) ?_
  intro p e s m below meth c A ls htab hx hb hr hts hown hml hlocks hA hK hE hP hD hS hl
  have hl : lv_has ls 6 [(0, .ref ba), (1, .int wi), (2, .int a1), (3, .int a2), (4, .ref xo)] := hl
  refine lv_aload hx hb dL_swap_0 (lv_at hl 4 rfl) ?_
  refine lv_iconst (v := (0:Int32)) hx hb dL_swap_2 (by decide) ?_
  refine lv_aload_n hx hb dL_swap_3 rfl (lv_at hl 0 rfl) ?_
  refine lv_iload_n hx hb dL_swap_4 rfl (lv_at hl 1 rfl) ?_
  refine lv_iload_n hx hb dL_swap_5 rfl (lv_at hl 2 rfl) ?_
  refine lv_iload_n hx hb dL_swap_6 rfl (lv_at hl 3 rfl) ?_
  refine cv_c (name := nIAE) (As := [.int wi, .int a1, .int a2]) (rest := [.int (0:Int32), .ref xo]) ⟨hx, hb, hml, hown, hts⟩ (kX3_swapX0 l hl9 G ba bw wf wi a1 a2 hwi) (cwV 3 hts gL_swap_X3_swap rfl rfl rfl (by decide +kernel) ⟨Nat.le_of_ble_eq_true rfl, Nat.le_of_ble_eq_true rfl⟩) (va_recv hK hP (ci := 3) (q0 := 0) rfl rfl) hE hK hP hD hS hA hl.1 [0, 1] rfl rfl rfl rfl rfl (Nat.le_of_ble_eq_true rfl) dL_swap_7 (Nat.le_of_ble_eq_true rfl) (Nat.le_of_ble_eq_true rfl) [] ⟨0, 19, 22, 13⟩ [] (htab.trans rfl) (fun z hz => nomatch hz) (by decide) (by decide) (hts (.classLink RL 13 nIAE) (by decide +kernel)) hE.2.2.2.2.2.2.2.2.2.2.1.word (fun q9 H locs hP hD hS => ?_)
  refine lv_astore (lv' := [(5, .ref q9), (0, .ref ba), (1, .int wi), (2, .int a1), (3, .int a2), (4, .ref xo)]) hx hb dL_swap_22 hl (by decide) rfl (fun ls hl => ?_)
  refine lv_iconst (v := (1:Int32)) hx hb dL_swap_24 (by decide) ?_
  exact rt_h hx hb hr hlocks hP hD hS dL_swap_25 rfl (Nat.le_of_ble_eq_true rfl) (Nat.le_of_ble_eq_true rfl)
set_option maxHeartbeats 4000000 in
set_option maxRecDepth 100000 in
theorem kL_swapX1 (l : Launch) (hl9 : l.stackTraces = false) (G : GT) (ba : Nat) (bw : Nat) (wf : Nat → Option Nat) (wa : Nat) (i : Nat) (pa : Nat) (pr : Nat) (wo : Nat) (wl : Nat) (tr : Int32) (dr : Int64) (wt : Int64) (r : Nat) (gr : Int64) (le : Int64) (pk : Nat) (pn : Nat) (po : Nat) (n : Nat) (pl : Int32) (pl2 : Int32) (xo : Nat) (ox : Nat → Int64) (hi4 : i < 4) (hwf : wf i = some wa) (hhas : fX0_has n pl = 0) : CI1 l yL_swap wsL_swap { frames := 8, cells := 1, slots := 6, locals := 128 } G [.ref ba, .int (nI i), .int pl, .int pl2, .ref xo] [(ba, .inr (3, [.ref bw])), (bw, .inl (G.2.1 4, 4, .inr (.inr (.inr (.inr wf))))), (wa, .inr (2, [.ref (G.2.2.1 i), .ref pa, .ref pr, .ref wo, .ref wl, .int tr, .long dr, .long wt, .int (nI r), .long gr, .long le])), (pa, .inr (0, [.ref pk, .ref pn, .ref po, .int (nI n)])), (xo, .inl (G.2.1 1, 1, .inr (.inl ox)))] (1:Int32) [(ba, .inr (3, [.ref bw])), (bw, .inl (G.2.1 4, 4, .inr (.inr (.inr (.inr wf))))), (wa, .inr (2, [.ref (G.2.2.1 i), .ref pa, .ref pr, .ref wo, .ref wl, .int tr, .long dr, .long wt, .int (nI r), .long gr, .long le])), (pa, .inr (0, [.ref pk, .ref pn, .ref po, .int (nI n)])), (xo, .inl (G.2.1 1, 1, .inr (.inl ox)))] := by
  refine en_h (cc := cL_swap) (maxL := 6) (ret := (some .int)) (own := RL) (hh := [(0, 19, 22, 13)]) (by decide) rfl rfl (Nat.le_of_ble_eq_true rfl) ?_
  intro p e s m below meth c A ls htab hx hb hr hts hown hml hlocks hA hK hE hP hD hS hl
  have hl : lv_has ls 6 [(0, .ref ba), (1, .int (nI i)), (2, .int pl), (3, .int pl2), (4, .ref xo)] := hl
  refine lv_aload hx hb dL_swap_0 (lv_at hl 4 rfl) ?_
  refine lv_iconst (v := (0:Int32)) hx hb dL_swap_2 (by decide) ?_
  refine lv_aload_n hx hb dL_swap_3 rfl (lv_at hl 0 rfl) ?_
  refine lv_iload_n hx hb dL_swap_4 rfl (lv_at hl 1 rfl) ?_
  refine lv_iload_n hx hb dL_swap_5 rfl (lv_at hl 2 rfl) ?_
  refine lv_iload_n hx hb dL_swap_6 rfl (lv_at hl 3 rfl) ?_
  refine cv_c (name := nIAE) (As := [.int (nI i), .int pl, .int pl2]) (rest := [.int (0:Int32), .ref xo]) ⟨hx, hb, hml, hown, hts⟩ (kX3_swapX1 l hl9 G ba bw wf wa i pa pr wo wl tr dr wt r gr le pk pn po n pl pl2 hi4 hwf hhas) (cwV 3 hts gL_swap_X3_swap rfl rfl rfl (by decide +kernel) ⟨Nat.le_of_ble_eq_true rfl, Nat.le_of_ble_eq_true rfl⟩) (va_recv hK hP (ci := 3) (q0 := 0) rfl rfl) hE hK hP hD hS hA hl.1 [0, 1, 2, 3] rfl rfl rfl rfl rfl (Nat.le_of_ble_eq_true rfl) dL_swap_7 (Nat.le_of_ble_eq_true rfl) (Nat.le_of_ble_eq_true rfl) [] ⟨0, 19, 22, 13⟩ [] (htab.trans rfl) (fun z hz => nomatch hz) (by decide) (by decide) (hts (.classLink RL 13 nIAE) (by decide +kernel)) hE.2.2.2.2.2.2.2.2.2.2.1.word (fun q9 H locs hP hD hS => ?_)
  refine lv_astore (lv' := [(5, .ref q9), (0, .ref ba), (1, .int (nI i)), (2, .int pl), (3, .int pl2), (4, .ref xo)]) hx hb dL_swap_22 hl (by decide) rfl (fun ls hl => ?_)
  refine lv_iconst (v := (1:Int32)) hx hb dL_swap_24 (by decide) ?_
  exact rt_h hx hb hr hlocks hP hD hS dL_swap_25 rfl (Nat.le_of_ble_eq_true rfl) (Nat.le_of_ble_eq_true rfl)
set_option maxHeartbeats 4000000 in
set_option maxRecDepth 100000 in
theorem kL_swapX2 (l : Launch) (hl9 : l.stackTraces = false) (G : GT) (ba : Nat) (bw : Nat) (wf : Nat → Option Nat) (wa : Nat) (i : Nat) (pa : Nat) (pr : Nat) (wo : Nat) (wl : Nat) (tr : Int32) (dr : Int64) (wt : Int64) (r : Nat) (gr : Int64) (le : Int64) (pk : Nat) (pn : Nat) (po : Nat) (n : Nat) (pl : Int32) (pl2 : Int32) (xo : Nat) (ox : Nat → Int64) (hi4 : i < 4) (hwf : wf i = some wa) (hhas : ¬ fX0_has n pl = 0) (hhas2 : fX0_has n pl2 = 0) : CI1 l yL_swap wsL_swap { frames := 8, cells := 1, slots := 6, locals := 128 } G [.ref ba, .int (nI i), .int pl, .int pl2, .ref xo] [(ba, .inr (3, [.ref bw])), (bw, .inl (G.2.1 4, 4, .inr (.inr (.inr (.inr wf))))), (wa, .inr (2, [.ref (G.2.2.1 i), .ref pa, .ref pr, .ref wo, .ref wl, .int tr, .long dr, .long wt, .int (nI r), .long gr, .long le])), (pa, .inr (0, [.ref pk, .ref pn, .ref po, .int (nI n)])), (xo, .inl (G.2.1 1, 1, .inr (.inl ox)))] (1:Int32) [(ba, .inr (3, [.ref bw])), (bw, .inl (G.2.1 4, 4, .inr (.inr (.inr (.inr wf))))), (wa, .inr (2, [.ref (G.2.2.1 i), .ref pa, .ref pr, .ref wo, .ref wl, .int tr, .long dr, .long wt, .int (nI r), .long gr, .long le])), (pa, .inr (0, [.ref pk, .ref pn, .ref po, .int (nI n)])), (xo, .inl (G.2.1 1, 1, .inr (.inl ox)))] := by
  refine en_h (cc := cL_swap) (maxL := 6) (ret := (some .int)) (own := RL) (hh := [(0, 19, 22, 13)]) (by decide) rfl rfl (Nat.le_of_ble_eq_true rfl) ?_
  intro p e s m below meth c A ls htab hx hb hr hts hown hml hlocks hA hK hE hP hD hS hl
  have hl : lv_has ls 6 [(0, .ref ba), (1, .int (nI i)), (2, .int pl), (3, .int pl2), (4, .ref xo)] := hl
  refine lv_aload hx hb dL_swap_0 (lv_at hl 4 rfl) ?_
  refine lv_iconst (v := (0:Int32)) hx hb dL_swap_2 (by decide) ?_
  refine lv_aload_n hx hb dL_swap_3 rfl (lv_at hl 0 rfl) ?_
  refine lv_iload_n hx hb dL_swap_4 rfl (lv_at hl 1 rfl) ?_
  refine lv_iload_n hx hb dL_swap_5 rfl (lv_at hl 2 rfl) ?_
  refine lv_iload_n hx hb dL_swap_6 rfl (lv_at hl 3 rfl) ?_
  refine cv_c (name := nIAE) (As := [.int (nI i), .int pl, .int pl2]) (rest := [.int (0:Int32), .ref xo]) ⟨hx, hb, hml, hown, hts⟩ (kX3_swapX2 l hl9 G ba bw wf wa i pa pr wo wl tr dr wt r gr le pk pn po n pl pl2 hi4 hwf hhas hhas2) (cwV 3 hts gL_swap_X3_swap rfl rfl rfl (by decide +kernel) ⟨Nat.le_of_ble_eq_true rfl, Nat.le_of_ble_eq_true rfl⟩) (va_recv hK hP (ci := 3) (q0 := 0) rfl rfl) hE hK hP hD hS hA hl.1 [0, 1, 2, 3] rfl rfl rfl rfl rfl (Nat.le_of_ble_eq_true rfl) dL_swap_7 (Nat.le_of_ble_eq_true rfl) (Nat.le_of_ble_eq_true rfl) [] ⟨0, 19, 22, 13⟩ [] (htab.trans rfl) (fun z hz => nomatch hz) (by decide) (by decide) (hts (.classLink RL 13 nIAE) (by decide +kernel)) hE.2.2.2.2.2.2.2.2.2.2.1.word (fun q9 H locs hP hD hS => ?_)
  refine lv_astore (lv' := [(5, .ref q9), (0, .ref ba), (1, .int (nI i)), (2, .int pl), (3, .int pl2), (4, .ref xo)]) hx hb dL_swap_22 hl (by decide) rfl (fun ls hl => ?_)
  refine lv_iconst (v := (1:Int32)) hx hb dL_swap_24 (by decide) ?_
  exact rt_h hx hb hr hlocks hP hD hS dL_swap_25 rfl (Nat.le_of_ble_eq_true rfl) (Nat.le_of_ble_eq_true rfl)
set_option maxHeartbeats 4000000 in
set_option maxRecDepth 100000 in
theorem kL_play (l : Launch) (hl9 : l.stackTraces = false) (G : GT) (ba : Nat) (bw : Nat) (wf : Nat → Option Nat) (wa : Nat) (i : Nat) (pa : Nat) (pr : Nat) (wo : Nat) (wl : Nat) (tr : Int32) (dr : Int64) (wt : Int64) (r : Nat) (gr : Int64) (le : Int64) (pk : Nat) (pn : Nat) (po : Nat) (n : Nat) (ki : Nat → Int32) (kn : Nat → Int64) (on : Nat → Int32) (ou : Nat → Int64) (li : Nat → Int32) (q : Nat) (xo : Nat) (ox : Nat → Int64) (hi4 : i < 4) (hwf : wf i = some wa) (hn : n ≤ 12) (hq1 : 1 ≤ q) (hq2 : q ≤ 50) : CI1 l yL_play wsL_play { frames := 6, cells := 1, slots := 6, locals := 140 } G [.ref ba, .int (nI i), .int (nI q), .ref xo] [(ba, .inr (3, [.ref bw])), (bw, .inl (G.2.1 4, 4, .inr (.inr (.inr (.inr wf))))), (wa, .inr (2, [.ref (G.2.2.1 i), .ref pa, .ref pr, .ref wo, .ref wl, .int tr, .long dr, .long wt, .int (nI r), .long gr, .long le])), (pa, .inr (0, [.ref pk, .ref pn, .ref po, .int (nI n)])), (pk, .inl (G.2.1 0, 12, .inl ki)), (pn, .inl (G.2.1 1, 12, .inr (.inl kn))), (po, .inl (G.2.1 2, 12, .inl on)), (wo, .inl (G.2.1 1, 12, .inr (.inl ou))), (wl, .inl (G.2.1 2, 12, .inl li)), (xo, .inl (G.2.1 1, 1, .inr (.inl ox)))] (0:Int32) [(ba, .inr (3, [.ref bw])), (bw, .inl (G.2.1 4, 4, .inr (.inr (.inr (.inr wf))))), (wa, .inr (2, [.ref (G.2.2.1 i), .ref pa, .ref pr, .ref wo, .ref wl, .int (plS i n ki kn on r (tr, wt, gr, le, ou, li) q).1, .long dr, .long (plS i n ki kn on r (tr, wt, gr, le, ou, li) q).2.1, .int (nI (r + q)), .long (plS i n ki kn on r (tr, wt, gr, le, ou, li) q).2.2.1, .long (plS i n ki kn on r (tr, wt, gr, le, ou, li) q).2.2.2.1])), (pa, .inr (0, [.ref pk, .ref pn, .ref po, .int (nI n)])), (pk, .inl (G.2.1 0, 12, .inl ki)), (pn, .inl (G.2.1 1, 12, .inr (.inl kn))), (po, .inl (G.2.1 2, 12, .inl on)), (wo, .inl (G.2.1 1, 12, .inr (.inl ((plS i n ki kn on r (tr, wt, gr, le, ou, li) q).2.2.2.2.1)))), (wl, .inl (G.2.1 2, 12, .inl ((plS i n ki kn on r (tr, wt, gr, le, ou, li) q).2.2.2.2.2))), (xo, .inl (G.2.1 1, 1, .inr (.inl (vp_updL ox 0 ((fX3_play i tr wt r gr le n ki kn on ou li q).toInt64)))))] := by
  refine en_h (cc := cL_play) (maxL := 5) (ret := (some .int)) (own := RL) (hh := [(0, 10, 13, 13)]) (by decide) rfl rfl (Nat.le_of_ble_eq_true rfl) ?_
  intro p e s m below meth c A ls htab hx hb hr hts hown hml hlocks hA hK hE hP hD hS hl
  have hl : lv_has ls 5 [(0, .ref ba), (1, .int (nI i)), (2, .int (nI q)), (3, .ref xo)] := hl
  refine lv_aload_n hx hb dL_play_0 rfl (lv_at hl 3 rfl) ?_
  refine lv_iconst (v := (0:Int32)) hx hb dL_play_1 (by decide) ?_
  refine lv_aload_n hx hb dL_play_2 rfl (lv_at hl 0 rfl) ?_
  refine lv_iload_n hx hb dL_play_3 rfl (lv_at hl 1 rfl) ?_
  refine lv_iload_n hx hb dL_play_4 rfl (lv_at hl 2 rfl) ?_
  refine cv_i (As := [.int (nI i), .int (nI q)]) (rest := [.int (0:Int32), .ref xo]) (ws' := [(ba, .inr (3, [.ref bw])), (bw, .inl (G.2.1 4, 4, .inr (.inr (.inr (.inr wf))))), (wa, .inr (2, [.ref (G.2.2.1 i), .ref pa, .ref pr, .ref wo, .ref wl, .int (plS i n ki kn on r (tr, wt, gr, le, ou, li) q).1, .long dr, .long (plS i n ki kn on r (tr, wt, gr, le, ou, li) q).2.1, .int (nI (r + q)), .long (plS i n ki kn on r (tr, wt, gr, le, ou, li) q).2.2.1, .long (plS i n ki kn on r (tr, wt, gr, le, ou, li) q).2.2.2.1])), (pa, .inr (0, [.ref pk, .ref pn, .ref po, .int (nI n)])), (pk, .inl (G.2.1 0, 12, .inl ki)), (pn, .inl (G.2.1 1, 12, .inr (.inl kn))), (po, .inl (G.2.1 2, 12, .inl on)), (wo, .inl (G.2.1 1, 12, .inr (.inl ((plS i n ki kn on r (tr, wt, gr, le, ou, li) q).2.2.2.2.1)))), (wl, .inl (G.2.1 2, 12, .inl ((plS i n ki kn on r (tr, wt, gr, le, ou, li) q).2.2.2.2.2))), (xo, .inl (G.2.1 1, 1, .inr (.inl ox)))]) ⟨hx, hb, hml, hown, hts⟩ (kX3_play l G ba bw wf wa i pa pr wo wl tr dr wt r gr le pk pn po n ki kn on ou li q hi4 hwf hn hq1 hq2) (cwV 2 hts gL_play_X3_play rfl rfl rfl (by decide +kernel) ⟨Nat.le_of_ble_eq_true rfl, Nat.le_of_ble_eq_true rfl⟩) (va_recv hK hP (ci := 3) (q0 := 0) rfl rfl) hE hK hP hD hS hA hl.1 [0, 1, 2, 3, 4, 5, 6, 7, 8] rfl rfl rfl rfl rfl rfl (Nat.le_of_ble_eq_true rfl) dL_play_5 ⟨Nat.zero_le _, Nat.zero_le _⟩ (fun H locs hP hD hS => ?_)
  refine r_i2l hx hb dL_play_8 ?_
  refine ar_lst hx hb hK hP hD hS 9 rfl 0 rfl (by decide) (by decide) dL_play_9 (fun H locs hP hD hS => ?_)
  have hP : va_P G.1 vwCl [(ba, .inr (3, [.ref bw])), (bw, .inl (G.2.1 4, 4, .inr (.inr (.inr (.inr wf))))), (wa, .inr (2, [.ref (G.2.2.1 i), .ref pa, .ref pr, .ref wo, .ref wl, .int (plS i n ki kn on r (tr, wt, gr, le, ou, li) q).1, .long dr, .long (plS i n ki kn on r (tr, wt, gr, le, ou, li) q).2.1, .int (nI (r + q)), .long (plS i n ki kn on r (tr, wt, gr, le, ou, li) q).2.2.1, .long (plS i n ki kn on r (tr, wt, gr, le, ou, li) q).2.2.2.1])), (pa, .inr (0, [.ref pk, .ref pn, .ref po, .int (nI n)])), (pk, .inl (G.2.1 0, 12, .inl ki)), (pn, .inl (G.2.1 1, 12, .inr (.inl kn))), (po, .inl (G.2.1 2, 12, .inl on)), (wo, .inl (G.2.1 1, 12, .inr (.inl ((plS i n ki kn on r (tr, wt, gr, le, ou, li) q).2.2.2.2.1)))), (wl, .inl (G.2.1 2, 12, .inl ((plS i n ki kn on r (tr, wt, gr, le, ou, li) q).2.2.2.2.2))), (xo, .inl (G.2.1 1, 1, .inr (.inl (vp_updL ox 0 ((fX3_play i tr wt r gr le n ki kn on ou li q).toInt64)))))] H := hP
  have hD : va_D A [(ba, .inr (3, [.ref bw])), (bw, .inl (G.2.1 4, 4, .inr (.inr (.inr (.inr wf))))), (wa, .inr (2, [.ref (G.2.2.1 i), .ref pa, .ref pr, .ref wo, .ref wl, .int (plS i n ki kn on r (tr, wt, gr, le, ou, li) q).1, .long dr, .long (plS i n ki kn on r (tr, wt, gr, le, ou, li) q).2.1, .int (nI (r + q)), .long (plS i n ki kn on r (tr, wt, gr, le, ou, li) q).2.2.1, .long (plS i n ki kn on r (tr, wt, gr, le, ou, li) q).2.2.2.1])), (pa, .inr (0, [.ref pk, .ref pn, .ref po, .int (nI n)])), (pk, .inl (G.2.1 0, 12, .inl ki)), (pn, .inl (G.2.1 1, 12, .inr (.inl kn))), (po, .inl (G.2.1 2, 12, .inl on)), (wo, .inl (G.2.1 1, 12, .inr (.inl ((plS i n ki kn on r (tr, wt, gr, le, ou, li) q).2.2.2.2.1)))), (wl, .inl (G.2.1 2, 12, .inl ((plS i n ki kn on r (tr, wt, gr, le, ou, li) q).2.2.2.2.2))), (xo, .inl (G.2.1 1, 1, .inr (.inl (vp_updL ox 0 ((fX3_play i tr wt r gr le n ki kn on ou li q).toInt64)))))] := hD
  refine lv_goto (tgt := 17) hx hb dL_play_10 (by decide) ?_
  refine lv_iconst (v := (0:Int32)) hx hb dL_play_17 (by decide) ?_
  exact rt_h hx hb hr hlocks hP hD hS dL_play_18 rfl (Nat.le_of_ble_eq_true rfl) (Nat.le_of_ble_eq_true rfl)
set_option maxHeartbeats 4000000 in
set_option maxRecDepth 100000 in
theorem kL_playX0 (l : Launch) (hl9 : l.stackTraces = false) (G : GT) (ba : Nat) (bw : Nat) (wf : Nat → Option Nat) (wi : Int32) (a1 : Int32) (xo : Nat) (ox : Nat → Int64) (hwi : fX3_isWire wi = 0) : CI1 l yL_play wsL_play { frames := 8, cells := 1, slots := 6, locals := 128 } G [.ref ba, .int wi, .int a1, .ref xo] [(ba, .inr (3, [.ref bw])), (bw, .inl (G.2.1 4, 4, .inr (.inr (.inr (.inr wf))))), (xo, .inl (G.2.1 1, 1, .inr (.inl ox)))] (1:Int32) [(ba, .inr (3, [.ref bw])), (bw, .inl (G.2.1 4, 4, .inr (.inr (.inr (.inr wf))))), (xo, .inl (G.2.1 1, 1, .inr (.inl ox)))] := by
  refine en_h (cc := cL_play) (maxL := 5) (ret := (some .int)) (own := RL) (hh := [(0, 10, 13, 13)]) (by decide) rfl rfl (Nat.le_of_ble_eq_true rfl) ?_
  intro p e s m below meth c A ls htab hx hb hr hts hown hml hlocks hA hK hE hP hD hS hl
  have hl : lv_has ls 5 [(0, .ref ba), (1, .int wi), (2, .int a1), (3, .ref xo)] := hl
  refine lv_aload_n hx hb dL_play_0 rfl (lv_at hl 3 rfl) ?_
  refine lv_iconst (v := (0:Int32)) hx hb dL_play_1 (by decide) ?_
  refine lv_aload_n hx hb dL_play_2 rfl (lv_at hl 0 rfl) ?_
  refine lv_iload_n hx hb dL_play_3 rfl (lv_at hl 1 rfl) ?_
  refine lv_iload_n hx hb dL_play_4 rfl (lv_at hl 2 rfl) ?_
  refine cv_c (name := nIAE) (As := [.int wi, .int a1]) (rest := [.int (0:Int32), .ref xo]) ⟨hx, hb, hml, hown, hts⟩ (kX3_playX0 l hl9 G ba bw wf wi a1 hwi) (cwV 2 hts gL_play_X3_play rfl rfl rfl (by decide +kernel) ⟨Nat.le_of_ble_eq_true rfl, Nat.le_of_ble_eq_true rfl⟩) (va_recv hK hP (ci := 3) (q0 := 0) rfl rfl) hE hK hP hD hS hA hl.1 [0, 1] rfl rfl rfl rfl rfl (Nat.le_of_ble_eq_true rfl) dL_play_5 (Nat.le_of_ble_eq_true rfl) (Nat.le_of_ble_eq_true rfl) [] ⟨0, 10, 13, 13⟩ [] (htab.trans rfl) (fun z hz => nomatch hz) (by decide) (by decide) (hts (.classLink RL 13 nIAE) (by decide +kernel)) hE.2.2.2.2.2.2.2.2.2.2.1.word (fun q9 H locs hP hD hS => ?_)
  refine lv_astore (lv' := [(4, .ref q9), (0, .ref ba), (1, .int wi), (2, .int a1), (3, .ref xo)]) hx hb dL_play_13 hl (by decide) rfl (fun ls hl => ?_)
  refine lv_iconst (v := (1:Int32)) hx hb dL_play_15 (by decide) ?_
  exact rt_h hx hb hr hlocks hP hD hS dL_play_16 rfl (Nat.le_of_ble_eq_true rfl) (Nat.le_of_ble_eq_true rfl)
set_option maxHeartbeats 4000000 in
set_option maxRecDepth 100000 in
theorem kL_playX1 (l : Launch) (hl9 : l.stackTraces = false) (G : GT) (ba : Nat) (bw : Nat) (wf : Nat → Option Nat) (wa : Nat) (i : Nat) (pa : Nat) (pr : Nat) (wo : Nat) (wl : Nat) (tr : Int32) (dr : Int64) (wt : Int64) (r : Nat) (gr : Int64) (le : Int64) (qi : Int32) (xo : Nat) (ox : Nat → Int64) (hi4 : i < 4) (hwf : wf i = some wa) (hq : qi < (1:Int32)) : CI1 l yL_play wsL_play { frames := 7, cells := 1, slots := 6, locals := 107 } G [.ref ba, .int (nI i), .int qi, .ref xo] [(ba, .inr (3, [.ref bw])), (bw, .inl (G.2.1 4, 4, .inr (.inr (.inr (.inr wf))))), (wa, .inr (2, [.ref (G.2.2.1 i), .ref pa, .ref pr, .ref wo, .ref wl, .int tr, .long dr, .long wt, .int (nI r), .long gr, .long le])), (xo, .inl (G.2.1 1, 1, .inr (.inl ox)))] (1:Int32) [(ba, .inr (3, [.ref bw])), (bw, .inl (G.2.1 4, 4, .inr (.inr (.inr (.inr wf))))), (wa, .inr (2, [.ref (G.2.2.1 i), .ref pa, .ref pr, .ref wo, .ref wl, .int tr, .long dr, .long wt, .int (nI r), .long gr, .long le])), (xo, .inl (G.2.1 1, 1, .inr (.inl ox)))] := by
  refine en_h (cc := cL_play) (maxL := 5) (ret := (some .int)) (own := RL) (hh := [(0, 10, 13, 13)]) (by decide) rfl rfl (Nat.le_of_ble_eq_true rfl) ?_
  intro p e s m below meth c A ls htab hx hb hr hts hown hml hlocks hA hK hE hP hD hS hl
  have hl : lv_has ls 5 [(0, .ref ba), (1, .int (nI i)), (2, .int qi), (3, .ref xo)] := hl
  refine lv_aload_n hx hb dL_play_0 rfl (lv_at hl 3 rfl) ?_
  refine lv_iconst (v := (0:Int32)) hx hb dL_play_1 (by decide) ?_
  refine lv_aload_n hx hb dL_play_2 rfl (lv_at hl 0 rfl) ?_
  refine lv_iload_n hx hb dL_play_3 rfl (lv_at hl 1 rfl) ?_
  refine lv_iload_n hx hb dL_play_4 rfl (lv_at hl 2 rfl) ?_
  refine cv_c (name := nIAE) (As := [.int (nI i), .int qi]) (rest := [.int (0:Int32), .ref xo]) ⟨hx, hb, hml, hown, hts⟩ (kX3_playX1 l hl9 G ba bw wf wa i pa pr wo wl tr dr wt r gr le qi hi4 hwf hq) (cwV 2 hts gL_play_X3_play rfl rfl rfl (by decide +kernel) ⟨Nat.le_of_ble_eq_true rfl, Nat.le_of_ble_eq_true rfl⟩) (va_recv hK hP (ci := 3) (q0 := 0) rfl rfl) hE hK hP hD hS hA hl.1 [0, 1, 2] rfl rfl rfl rfl rfl (Nat.le_of_ble_eq_true rfl) dL_play_5 (Nat.le_of_ble_eq_true rfl) (Nat.le_of_ble_eq_true rfl) [] ⟨0, 10, 13, 13⟩ [] (htab.trans rfl) (fun z hz => nomatch hz) (by decide) (by decide) (hts (.classLink RL 13 nIAE) (by decide +kernel)) hE.2.2.2.2.2.2.2.2.2.2.1.word (fun q9 H locs hP hD hS => ?_)
  refine lv_astore (lv' := [(4, .ref q9), (0, .ref ba), (1, .int (nI i)), (2, .int qi), (3, .ref xo)]) hx hb dL_play_13 hl (by decide) rfl (fun ls hl => ?_)
  refine lv_iconst (v := (1:Int32)) hx hb dL_play_15 (by decide) ?_
  exact rt_h hx hb hr hlocks hP hD hS dL_play_16 rfl (Nat.le_of_ble_eq_true rfl) (Nat.le_of_ble_eq_true rfl)
set_option maxHeartbeats 4000000 in
set_option maxRecDepth 100000 in
theorem kL_playX2 (l : Launch) (hl9 : l.stackTraces = false) (G : GT) (ba : Nat) (bw : Nat) (wf : Nat → Option Nat) (wa : Nat) (i : Nat) (pa : Nat) (pr : Nat) (wo : Nat) (wl : Nat) (tr : Int32) (dr : Int64) (wt : Int64) (r : Nat) (gr : Int64) (le : Int64) (qi : Int32) (xo : Nat) (ox : Nat → Int64) (hi4 : i < 4) (hwf : wf i = some wa) (hq : ¬ qi < (1:Int32)) (hq2 : (50:Int32) < qi) : CI1 l yL_play wsL_play { frames := 7, cells := 1, slots := 6, locals := 107 } G [.ref ba, .int (nI i), .int qi, .ref xo] [(ba, .inr (3, [.ref bw])), (bw, .inl (G.2.1 4, 4, .inr (.inr (.inr (.inr wf))))), (wa, .inr (2, [.ref (G.2.2.1 i), .ref pa, .ref pr, .ref wo, .ref wl, .int tr, .long dr, .long wt, .int (nI r), .long gr, .long le])), (xo, .inl (G.2.1 1, 1, .inr (.inl ox)))] (1:Int32) [(ba, .inr (3, [.ref bw])), (bw, .inl (G.2.1 4, 4, .inr (.inr (.inr (.inr wf))))), (wa, .inr (2, [.ref (G.2.2.1 i), .ref pa, .ref pr, .ref wo, .ref wl, .int tr, .long dr, .long wt, .int (nI r), .long gr, .long le])), (xo, .inl (G.2.1 1, 1, .inr (.inl ox)))] := by
  refine en_h (cc := cL_play) (maxL := 5) (ret := (some .int)) (own := RL) (hh := [(0, 10, 13, 13)]) (by decide) rfl rfl (Nat.le_of_ble_eq_true rfl) ?_
  intro p e s m below meth c A ls htab hx hb hr hts hown hml hlocks hA hK hE hP hD hS hl
  have hl : lv_has ls 5 [(0, .ref ba), (1, .int (nI i)), (2, .int qi), (3, .ref xo)] := hl
  refine lv_aload_n hx hb dL_play_0 rfl (lv_at hl 3 rfl) ?_
  refine lv_iconst (v := (0:Int32)) hx hb dL_play_1 (by decide) ?_
  refine lv_aload_n hx hb dL_play_2 rfl (lv_at hl 0 rfl) ?_
  refine lv_iload_n hx hb dL_play_3 rfl (lv_at hl 1 rfl) ?_
  refine lv_iload_n hx hb dL_play_4 rfl (lv_at hl 2 rfl) ?_
  refine cv_c (name := nIAE) (As := [.int (nI i), .int qi]) (rest := [.int (0:Int32), .ref xo]) ⟨hx, hb, hml, hown, hts⟩ (kX3_playX2 l hl9 G ba bw wf wa i pa pr wo wl tr dr wt r gr le qi hi4 hwf hq hq2) (cwV 2 hts gL_play_X3_play rfl rfl rfl (by decide +kernel) ⟨Nat.le_of_ble_eq_true rfl, Nat.le_of_ble_eq_true rfl⟩) (va_recv hK hP (ci := 3) (q0 := 0) rfl rfl) hE hK hP hD hS hA hl.1 [0, 1, 2] rfl rfl rfl rfl rfl (Nat.le_of_ble_eq_true rfl) dL_play_5 (Nat.le_of_ble_eq_true rfl) (Nat.le_of_ble_eq_true rfl) [] ⟨0, 10, 13, 13⟩ [] (htab.trans rfl) (fun z hz => nomatch hz) (by decide) (by decide) (hts (.classLink RL 13 nIAE) (by decide +kernel)) hE.2.2.2.2.2.2.2.2.2.2.1.word (fun q9 H locs hP hD hS => ?_)
  refine lv_astore (lv' := [(4, .ref q9), (0, .ref ba), (1, .int (nI i)), (2, .int qi), (3, .ref xo)]) hx hb dL_play_13 hl (by decide) rfl (fun ls hl => ?_)
  refine lv_iconst (v := (1:Int32)) hx hb dL_play_15 (by decide) ?_
  exact rt_h hx hb hr hlocks hP hD hS dL_play_16 rfl (Nat.le_of_ble_eq_true rfl) (Nat.le_of_ble_eq_true rfl)
set_option maxHeartbeats 4000000 in
set_option maxRecDepth 100000 in
theorem kL_code0 (l : Launch) (hl9 : l.stackTraces = false) (G : GT) (ba : Nat) (bw : Nat) (wf : Nat → Option Nat) (wa : Nat) (i : Nat) (pa : Nat) (pr : Nat) (wo : Nat) (wl : Nat) (tr : Int32) (dr : Int64) (wt : Int64) (r : Nat) (gr : Int64) (le : Int64) (xo : Nat) (ox : Nat → Int64) (hi4 : i < 4) (hwf : wf i = some wa) : CI1 l yL_code wsL_code { frames := 3, cells := 1, slots := 6, locals := 64 } G [.ref ba, .int (nI i), .int (0:Int32), .ref xo] [(ba, .inr (3, [.ref bw])), (bw, .inl (G.2.1 4, 4, .inr (.inr (.inr (.inr wf))))), (wa, .inr (2, [.ref (G.2.2.1 i), .ref pa, .ref pr, .ref wo, .ref wl, .int tr, .long dr, .long wt, .int (nI r), .long gr, .long le])), (xo, .inl (G.2.1 1, 1, .inr (.inl ox)))] (0:Int32) [(ba, .inr (3, [.ref bw])), (bw, .inl (G.2.1 4, 4, .inr (.inr (.inr (.inr wf))))), (wa, .inr (2, [.ref (G.2.2.1 i), .ref pa, .ref pr, .ref wo, .ref wl, .int tr, .long dr, .long wt, .int (nI r), .long gr, .long le])), (xo, .inl (G.2.1 1, 1, .inr (.inl (vp_updL ox 0 dr))))] := by
  refine en_h (cc := cL_code) (maxL := 5) (ret := (some .int)) (own := RL) (hh := [(0, 9, 12, 13), (0, 9, 16, 19)]) (by decide) rfl rfl (Nat.le_of_ble_eq_true rfl) ?_
  intro p e s m below meth c A ls htab hx hb hr hts hown hml hlocks hA hK hE hP hD hS hl
  have hl : lv_has ls 5 [(0, .ref ba), (1, .int (nI i)), (2, .int (0:Int32)), (3, .ref xo)] := hl
  refine lv_aload_n hx hb dL_code_0 rfl (lv_at hl 3 rfl) ?_
  refine lv_iconst (v := (0:Int32)) hx hb dL_code_1 (by decide) ?_
  refine lv_aload_n hx hb dL_code_2 rfl (lv_at hl 0 rfl) ?_
  refine lv_iload_n hx hb dL_code_3 rfl (lv_at hl 1 rfl) ?_
  refine lv_iload_n hx hb dL_code_4 rfl (lv_at hl 2 rfl) ?_
  refine cv_l (As := [.int (nI i), .int (0:Int32)]) (rest := [.int (0:Int32), .ref xo]) (ws' := [(ba, .inr (3, [.ref bw])), (bw, .inl (G.2.1 4, 4, .inr (.inr (.inr (.inr wf))))), (wa, .inr (2, [.ref (G.2.2.1 i), .ref pa, .ref pr, .ref wo, .ref wl, .int tr, .long dr, .long wt, .int (nI r), .long gr, .long le])), (xo, .inl (G.2.1 1, 1, .inr (.inl ox)))]) ⟨hx, hb, hml, hown, hts⟩ (kX3_code0 l G ba bw wf wa i pa pr wo wl tr dr wt r gr le hi4 hwf) (cwV 2 hts gL_code_X3_code rfl rfl rfl (by decide +kernel) ⟨Nat.le_of_ble_eq_true rfl, Nat.le_of_ble_eq_true rfl⟩) (va_recv hK hP (ci := 3) (q0 := 0) rfl rfl) hE hK hP hD hS hA hl.1 [0, 1, 2] rfl rfl rfl rfl rfl rfl (Nat.le_of_ble_eq_true rfl) dL_code_5 ⟨Nat.zero_le _, Nat.zero_le _⟩ (fun H locs hP hD hS => ?_)
  refine ar_lst hx hb hK hP hD hS 3 rfl 0 rfl (by decide) (by decide) dL_code_8 (fun H locs hP hD hS => ?_)
  have hP : va_P G.1 vwCl [(ba, .inr (3, [.ref bw])), (bw, .inl (G.2.1 4, 4, .inr (.inr (.inr (.inr wf))))), (wa, .inr (2, [.ref (G.2.2.1 i), .ref pa, .ref pr, .ref wo, .ref wl, .int tr, .long dr, .long wt, .int (nI r), .long gr, .long le])), (xo, .inl (G.2.1 1, 1, .inr (.inl (vp_updL ox 0 dr))))] H := hP
  have hD : va_D A [(ba, .inr (3, [.ref bw])), (bw, .inl (G.2.1 4, 4, .inr (.inr (.inr (.inr wf))))), (wa, .inr (2, [.ref (G.2.2.1 i), .ref pa, .ref pr, .ref wo, .ref wl, .int tr, .long dr, .long wt, .int (nI r), .long gr, .long le])), (xo, .inl (G.2.1 1, 1, .inr (.inl (vp_updL ox 0 dr))))] := hD
  refine lv_goto (tgt := 20) hx hb dL_code_9 (by decide) ?_
  refine lv_iconst (v := (0:Int32)) hx hb dL_code_20 (by decide) ?_
  exact rt_h hx hb hr hlocks hP hD hS dL_code_21 rfl (Nat.le_of_ble_eq_true rfl) (Nat.le_of_ble_eq_true rfl)
set_option maxHeartbeats 4000000 in
set_option maxRecDepth 100000 in
theorem kL_code1 (l : Launch) (hl9 : l.stackTraces = false) (G : GT) (ba : Nat) (bw : Nat) (wf : Nat → Option Nat) (wa : Nat) (i : Nat) (pa : Nat) (pr : Nat) (wo : Nat) (wl : Nat) (tr : Int32) (dr : Int64) (wt : Int64) (r : Nat) (gr : Int64) (le : Int64) (xo : Nat) (ox : Nat → Int64) (hi4 : i < 4) (hwf : wf i = some wa) : CI1 l yL_code wsL_code { frames := 3, cells := 1, slots := 6, locals := 64 } G [.ref ba, .int (nI i), .int (1:Int32), .ref xo] [(ba, .inr (3, [.ref bw])), (bw, .inl (G.2.1 4, 4, .inr (.inr (.inr (.inr wf))))), (wa, .inr (2, [.ref (G.2.2.1 i), .ref pa, .ref pr, .ref wo, .ref wl, .int tr, .long dr, .long wt, .int (nI r), .long gr, .long le])), (xo, .inl (G.2.1 1, 1, .inr (.inl ox)))] (0:Int32) [(ba, .inr (3, [.ref bw])), (bw, .inl (G.2.1 4, 4, .inr (.inr (.inr (.inr wf))))), (wa, .inr (2, [.ref (G.2.2.1 i), .ref pa, .ref pr, .ref wo, .ref wl, .int tr, .long dr, .long wt, .int (nI r), .long gr, .long le])), (xo, .inl (G.2.1 1, 1, .inr (.inl (vp_updL ox 0 wt))))] := by
  refine en_h (cc := cL_code) (maxL := 5) (ret := (some .int)) (own := RL) (hh := [(0, 9, 12, 13), (0, 9, 16, 19)]) (by decide) rfl rfl (Nat.le_of_ble_eq_true rfl) ?_
  intro p e s m below meth c A ls htab hx hb hr hts hown hml hlocks hA hK hE hP hD hS hl
  have hl : lv_has ls 5 [(0, .ref ba), (1, .int (nI i)), (2, .int (1:Int32)), (3, .ref xo)] := hl
  refine lv_aload_n hx hb dL_code_0 rfl (lv_at hl 3 rfl) ?_
  refine lv_iconst (v := (0:Int32)) hx hb dL_code_1 (by decide) ?_
  refine lv_aload_n hx hb dL_code_2 rfl (lv_at hl 0 rfl) ?_
  refine lv_iload_n hx hb dL_code_3 rfl (lv_at hl 1 rfl) ?_
  refine lv_iload_n hx hb dL_code_4 rfl (lv_at hl 2 rfl) ?_
  refine cv_l (As := [.int (nI i), .int (1:Int32)]) (rest := [.int (0:Int32), .ref xo]) (ws' := [(ba, .inr (3, [.ref bw])), (bw, .inl (G.2.1 4, 4, .inr (.inr (.inr (.inr wf))))), (wa, .inr (2, [.ref (G.2.2.1 i), .ref pa, .ref pr, .ref wo, .ref wl, .int tr, .long dr, .long wt, .int (nI r), .long gr, .long le])), (xo, .inl (G.2.1 1, 1, .inr (.inl ox)))]) ⟨hx, hb, hml, hown, hts⟩ (kX3_code1 l G ba bw wf wa i pa pr wo wl tr dr wt r gr le hi4 hwf) (cwV 2 hts gL_code_X3_code rfl rfl rfl (by decide +kernel) ⟨Nat.le_of_ble_eq_true rfl, Nat.le_of_ble_eq_true rfl⟩) (va_recv hK hP (ci := 3) (q0 := 0) rfl rfl) hE hK hP hD hS hA hl.1 [0, 1, 2] rfl rfl rfl rfl rfl rfl (Nat.le_of_ble_eq_true rfl) dL_code_5 ⟨Nat.zero_le _, Nat.zero_le _⟩ (fun H locs hP hD hS => ?_)
  refine ar_lst hx hb hK hP hD hS 3 rfl 0 rfl (by decide) (by decide) dL_code_8 (fun H locs hP hD hS => ?_)
  have hP : va_P G.1 vwCl [(ba, .inr (3, [.ref bw])), (bw, .inl (G.2.1 4, 4, .inr (.inr (.inr (.inr wf))))), (wa, .inr (2, [.ref (G.2.2.1 i), .ref pa, .ref pr, .ref wo, .ref wl, .int tr, .long dr, .long wt, .int (nI r), .long gr, .long le])), (xo, .inl (G.2.1 1, 1, .inr (.inl (vp_updL ox 0 wt))))] H := hP
  have hD : va_D A [(ba, .inr (3, [.ref bw])), (bw, .inl (G.2.1 4, 4, .inr (.inr (.inr (.inr wf))))), (wa, .inr (2, [.ref (G.2.2.1 i), .ref pa, .ref pr, .ref wo, .ref wl, .int tr, .long dr, .long wt, .int (nI r), .long gr, .long le])), (xo, .inl (G.2.1 1, 1, .inr (.inl (vp_updL ox 0 wt))))] := hD
  refine lv_goto (tgt := 20) hx hb dL_code_9 (by decide) ?_
  refine lv_iconst (v := (0:Int32)) hx hb dL_code_20 (by decide) ?_
  exact rt_h hx hb hr hlocks hP hD hS dL_code_21 rfl (Nat.le_of_ble_eq_true rfl) (Nat.le_of_ble_eq_true rfl)
set_option maxHeartbeats 4000000 in
set_option maxRecDepth 100000 in
theorem kL_code2 (l : Launch) (hl9 : l.stackTraces = false) (G : GT) (ba : Nat) (bw : Nat) (wf : Nat → Option Nat) (wa : Nat) (i : Nat) (pa : Nat) (pr : Nat) (wo : Nat) (wl : Nat) (tr : Int32) (dr : Int64) (wt : Int64) (r : Nat) (gr : Int64) (le : Int64) (xo : Nat) (ox : Nat → Int64) (hi4 : i < 4) (hwf : wf i = some wa) (hpk : ¬ fX2_hasPeaks r = 0) : CI1 l yL_code wsL_code { frames := 3, cells := 1, slots := 6, locals := 64 } G [.ref ba, .int (nI i), .int (2:Int32), .ref xo] [(ba, .inr (3, [.ref bw])), (bw, .inl (G.2.1 4, 4, .inr (.inr (.inr (.inr wf))))), (wa, .inr (2, [.ref (G.2.2.1 i), .ref pa, .ref pr, .ref wo, .ref wl, .int tr, .long dr, .long wt, .int (nI r), .long gr, .long le])), (xo, .inl (G.2.1 1, 1, .inr (.inl ox)))] (0:Int32) [(ba, .inr (3, [.ref bw])), (bw, .inl (G.2.1 4, 4, .inr (.inr (.inr (.inr wf))))), (wa, .inr (2, [.ref (G.2.2.1 i), .ref pa, .ref pr, .ref wo, .ref wl, .int tr, .long dr, .long wt, .int (nI r), .long gr, .long le])), (xo, .inl (G.2.1 1, 1, .inr (.inl (vp_updL ox 0 gr))))] := by
  refine en_h (cc := cL_code) (maxL := 5) (ret := (some .int)) (own := RL) (hh := [(0, 9, 12, 13), (0, 9, 16, 19)]) (by decide) rfl rfl (Nat.le_of_ble_eq_true rfl) ?_
  intro p e s m below meth c A ls htab hx hb hr hts hown hml hlocks hA hK hE hP hD hS hl
  have hl : lv_has ls 5 [(0, .ref ba), (1, .int (nI i)), (2, .int (2:Int32)), (3, .ref xo)] := hl
  refine lv_aload_n hx hb dL_code_0 rfl (lv_at hl 3 rfl) ?_
  refine lv_iconst (v := (0:Int32)) hx hb dL_code_1 (by decide) ?_
  refine lv_aload_n hx hb dL_code_2 rfl (lv_at hl 0 rfl) ?_
  refine lv_iload_n hx hb dL_code_3 rfl (lv_at hl 1 rfl) ?_
  refine lv_iload_n hx hb dL_code_4 rfl (lv_at hl 2 rfl) ?_
  refine cv_l (As := [.int (nI i), .int (2:Int32)]) (rest := [.int (0:Int32), .ref xo]) (ws' := [(ba, .inr (3, [.ref bw])), (bw, .inl (G.2.1 4, 4, .inr (.inr (.inr (.inr wf))))), (wa, .inr (2, [.ref (G.2.2.1 i), .ref pa, .ref pr, .ref wo, .ref wl, .int tr, .long dr, .long wt, .int (nI r), .long gr, .long le])), (xo, .inl (G.2.1 1, 1, .inr (.inl ox)))]) ⟨hx, hb, hml, hown, hts⟩ (kX3_code2 l G ba bw wf wa i pa pr wo wl tr dr wt r gr le hi4 hwf hpk) (cwV 2 hts gL_code_X3_code rfl rfl rfl (by decide +kernel) ⟨Nat.le_of_ble_eq_true rfl, Nat.le_of_ble_eq_true rfl⟩) (va_recv hK hP (ci := 3) (q0 := 0) rfl rfl) hE hK hP hD hS hA hl.1 [0, 1, 2] rfl rfl rfl rfl rfl rfl (Nat.le_of_ble_eq_true rfl) dL_code_5 ⟨Nat.zero_le _, Nat.zero_le _⟩ (fun H locs hP hD hS => ?_)
  refine ar_lst hx hb hK hP hD hS 3 rfl 0 rfl (by decide) (by decide) dL_code_8 (fun H locs hP hD hS => ?_)
  have hP : va_P G.1 vwCl [(ba, .inr (3, [.ref bw])), (bw, .inl (G.2.1 4, 4, .inr (.inr (.inr (.inr wf))))), (wa, .inr (2, [.ref (G.2.2.1 i), .ref pa, .ref pr, .ref wo, .ref wl, .int tr, .long dr, .long wt, .int (nI r), .long gr, .long le])), (xo, .inl (G.2.1 1, 1, .inr (.inl (vp_updL ox 0 gr))))] H := hP
  have hD : va_D A [(ba, .inr (3, [.ref bw])), (bw, .inl (G.2.1 4, 4, .inr (.inr (.inr (.inr wf))))), (wa, .inr (2, [.ref (G.2.2.1 i), .ref pa, .ref pr, .ref wo, .ref wl, .int tr, .long dr, .long wt, .int (nI r), .long gr, .long le])), (xo, .inl (G.2.1 1, 1, .inr (.inl (vp_updL ox 0 gr))))] := hD
  refine lv_goto (tgt := 20) hx hb dL_code_9 (by decide) ?_
  refine lv_iconst (v := (0:Int32)) hx hb dL_code_20 (by decide) ?_
  exact rt_h hx hb hr hlocks hP hD hS dL_code_21 rfl (Nat.le_of_ble_eq_true rfl) (Nat.le_of_ble_eq_true rfl)
set_option maxHeartbeats 4000000 in
set_option maxRecDepth 100000 in
theorem kL_code3 (l : Launch) (hl9 : l.stackTraces = false) (G : GT) (ba : Nat) (bw : Nat) (wf : Nat → Option Nat) (wa : Nat) (i : Nat) (pa : Nat) (pr : Nat) (wo : Nat) (wl : Nat) (tr : Int32) (dr : Int64) (wt : Int64) (r : Nat) (gr : Int64) (le : Int64) (xo : Nat) (ox : Nat → Int64) (hi4 : i < 4) (hwf : wf i = some wa) (hpk : ¬ fX2_hasPeaks r = 0) : CI1 l yL_code wsL_code { frames := 3, cells := 1, slots := 6, locals := 64 } G [.ref ba, .int (nI i), .int (3:Int32), .ref xo] [(ba, .inr (3, [.ref bw])), (bw, .inl (G.2.1 4, 4, .inr (.inr (.inr (.inr wf))))), (wa, .inr (2, [.ref (G.2.2.1 i), .ref pa, .ref pr, .ref wo, .ref wl, .int tr, .long dr, .long wt, .int (nI r), .long gr, .long le])), (xo, .inl (G.2.1 1, 1, .inr (.inl ox)))] (0:Int32) [(ba, .inr (3, [.ref bw])), (bw, .inl (G.2.1 4, 4, .inr (.inr (.inr (.inr wf))))), (wa, .inr (2, [.ref (G.2.2.1 i), .ref pa, .ref pr, .ref wo, .ref wl, .int tr, .long dr, .long wt, .int (nI r), .long gr, .long le])), (xo, .inl (G.2.1 1, 1, .inr (.inl (vp_updL ox 0 le))))] := by
  refine en_h (cc := cL_code) (maxL := 5) (ret := (some .int)) (own := RL) (hh := [(0, 9, 12, 13), (0, 9, 16, 19)]) (by decide) rfl rfl (Nat.le_of_ble_eq_true rfl) ?_
  intro p e s m below meth c A ls htab hx hb hr hts hown hml hlocks hA hK hE hP hD hS hl
  have hl : lv_has ls 5 [(0, .ref ba), (1, .int (nI i)), (2, .int (3:Int32)), (3, .ref xo)] := hl
  refine lv_aload_n hx hb dL_code_0 rfl (lv_at hl 3 rfl) ?_
  refine lv_iconst (v := (0:Int32)) hx hb dL_code_1 (by decide) ?_
  refine lv_aload_n hx hb dL_code_2 rfl (lv_at hl 0 rfl) ?_
  refine lv_iload_n hx hb dL_code_3 rfl (lv_at hl 1 rfl) ?_
  refine lv_iload_n hx hb dL_code_4 rfl (lv_at hl 2 rfl) ?_
  refine cv_l (As := [.int (nI i), .int (3:Int32)]) (rest := [.int (0:Int32), .ref xo]) (ws' := [(ba, .inr (3, [.ref bw])), (bw, .inl (G.2.1 4, 4, .inr (.inr (.inr (.inr wf))))), (wa, .inr (2, [.ref (G.2.2.1 i), .ref pa, .ref pr, .ref wo, .ref wl, .int tr, .long dr, .long wt, .int (nI r), .long gr, .long le])), (xo, .inl (G.2.1 1, 1, .inr (.inl ox)))]) ⟨hx, hb, hml, hown, hts⟩ (kX3_code3 l G ba bw wf wa i pa pr wo wl tr dr wt r gr le hi4 hwf hpk) (cwV 2 hts gL_code_X3_code rfl rfl rfl (by decide +kernel) ⟨Nat.le_of_ble_eq_true rfl, Nat.le_of_ble_eq_true rfl⟩) (va_recv hK hP (ci := 3) (q0 := 0) rfl rfl) hE hK hP hD hS hA hl.1 [0, 1, 2] rfl rfl rfl rfl rfl rfl (Nat.le_of_ble_eq_true rfl) dL_code_5 ⟨Nat.zero_le _, Nat.zero_le _⟩ (fun H locs hP hD hS => ?_)
  refine ar_lst hx hb hK hP hD hS 3 rfl 0 rfl (by decide) (by decide) dL_code_8 (fun H locs hP hD hS => ?_)
  have hP : va_P G.1 vwCl [(ba, .inr (3, [.ref bw])), (bw, .inl (G.2.1 4, 4, .inr (.inr (.inr (.inr wf))))), (wa, .inr (2, [.ref (G.2.2.1 i), .ref pa, .ref pr, .ref wo, .ref wl, .int tr, .long dr, .long wt, .int (nI r), .long gr, .long le])), (xo, .inl (G.2.1 1, 1, .inr (.inl (vp_updL ox 0 le))))] H := hP
  have hD : va_D A [(ba, .inr (3, [.ref bw])), (bw, .inl (G.2.1 4, 4, .inr (.inr (.inr (.inr wf))))), (wa, .inr (2, [.ref (G.2.2.1 i), .ref pa, .ref pr, .ref wo, .ref wl, .int tr, .long dr, .long wt, .int (nI r), .long gr, .long le])), (xo, .inl (G.2.1 1, 1, .inr (.inl (vp_updL ox 0 le))))] := hD
  refine lv_goto (tgt := 20) hx hb dL_code_9 (by decide) ?_
  refine lv_iconst (v := (0:Int32)) hx hb dL_code_20 (by decide) ?_
  exact rt_h hx hb hr hlocks hP hD hS dL_code_21 rfl (Nat.le_of_ble_eq_true rfl) (Nat.le_of_ble_eq_true rfl)
set_option maxHeartbeats 4000000 in
set_option maxRecDepth 100000 in
theorem kL_codeX0 (l : Launch) (hl9 : l.stackTraces = false) (G : GT) (ba : Nat) (bw : Nat) (wf : Nat → Option Nat) (wi : Int32) (a1 : Int32) (xo : Nat) (ox : Nat → Int64) (hwi : fX3_isWire wi = 0) : CI1 l yL_code wsL_code { frames := 8, cells := 1, slots := 6, locals := 126 } G [.ref ba, .int wi, .int a1, .ref xo] [(ba, .inr (3, [.ref bw])), (bw, .inl (G.2.1 4, 4, .inr (.inr (.inr (.inr wf))))), (xo, .inl (G.2.1 1, 1, .inr (.inl ox)))] (1:Int32) [(ba, .inr (3, [.ref bw])), (bw, .inl (G.2.1 4, 4, .inr (.inr (.inr (.inr wf))))), (xo, .inl (G.2.1 1, 1, .inr (.inl ox)))] := by
  refine en_h (cc := cL_code) (maxL := 5) (ret := (some .int)) (own := RL) (hh := [(0, 9, 12, 13), (0, 9, 16, 19)]) (by decide) rfl rfl (Nat.le_of_ble_eq_true rfl) ?_
  intro p e s m below meth c A ls htab hx hb hr hts hown hml hlocks hA hK hE hP hD hS hl
  have hl : lv_has ls 5 [(0, .ref ba), (1, .int wi), (2, .int a1), (3, .ref xo)] := hl
  refine lv_aload_n hx hb dL_code_0 rfl (lv_at hl 3 rfl) ?_
  refine lv_iconst (v := (0:Int32)) hx hb dL_code_1 (by decide) ?_
  refine lv_aload_n hx hb dL_code_2 rfl (lv_at hl 0 rfl) ?_
  refine lv_iload_n hx hb dL_code_3 rfl (lv_at hl 1 rfl) ?_
  refine lv_iload_n hx hb dL_code_4 rfl (lv_at hl 2 rfl) ?_
  refine cv_c (name := nIAE) (As := [.int wi, .int a1]) (rest := [.int (0:Int32), .ref xo]) ⟨hx, hb, hml, hown, hts⟩ (kX3_codeX0 l hl9 G ba bw wf wi a1 hwi) (cwV 2 hts gL_code_X3_code rfl rfl rfl (by decide +kernel) ⟨Nat.le_of_ble_eq_true rfl, Nat.le_of_ble_eq_true rfl⟩) (va_recv hK hP (ci := 3) (q0 := 0) rfl rfl) hE hK hP hD hS hA hl.1 [0, 1] rfl rfl rfl rfl rfl (Nat.le_of_ble_eq_true rfl) dL_code_5 (Nat.le_of_ble_eq_true rfl) (Nat.le_of_ble_eq_true rfl) [] ⟨0, 9, 12, 13⟩ [⟨0, 9, 16, 19⟩] (htab.trans rfl) (fun z hz => nomatch hz) (by decide) (by decide) (hts (.classLink RL 13 nIAE) (by decide +kernel)) hE.2.2.2.2.2.2.2.2.2.2.1.word (fun q9 H locs hP hD hS => ?_)
  refine lv_astore (lv' := [(4, .ref q9), (0, .ref ba), (1, .int wi), (2, .int a1), (3, .ref xo)]) hx hb dL_code_12 hl (by decide) rfl (fun ls hl => ?_)
  refine lv_iconst (v := (1:Int32)) hx hb dL_code_14 (by decide) ?_
  exact rt_h hx hb hr hlocks hP hD hS dL_code_15 rfl (Nat.le_of_ble_eq_true rfl) (Nat.le_of_ble_eq_true rfl)
set_option maxHeartbeats 4000000 in
set_option maxRecDepth 100000 in
theorem kL_codeX1 (l : Launch) (hl9 : l.stackTraces = false) (G : GT) (ba : Nat) (bw : Nat) (wf : Nat → Option Nat) (wa : Nat) (i : Nat) (pa : Nat) (pr : Nat) (wo : Nat) (wl : Nat) (tr : Int32) (dr : Int64) (wt : Int64) (r : Nat) (gr : Int64) (le : Int64) (wh : Int32) (xo : Nat) (ox : Nat → Int64) (hi4 : i < 4) (hwf : wf i = some wa) (hq : wh < 0) : CI1 l yL_code wsL_code { frames := 7, cells := 1, slots := 6, locals := 105 } G [.ref ba, .int (nI i), .int wh, .ref xo] [(ba, .inr (3, [.ref bw])), (bw, .inl (G.2.1 4, 4, .inr (.inr (.inr (.inr wf))))), (wa, .inr (2, [.ref (G.2.2.1 i), .ref pa, .ref pr, .ref wo, .ref wl, .int tr, .long dr, .long wt, .int (nI r), .long gr, .long le])), (xo, .inl (G.2.1 1, 1, .inr (.inl ox)))] (1:Int32) [(ba, .inr (3, [.ref bw])), (bw, .inl (G.2.1 4, 4, .inr (.inr (.inr (.inr wf))))), (wa, .inr (2, [.ref (G.2.2.1 i), .ref pa, .ref pr, .ref wo, .ref wl, .int tr, .long dr, .long wt, .int (nI r), .long gr, .long le])), (xo, .inl (G.2.1 1, 1, .inr (.inl ox)))] := by
  refine en_h (cc := cL_code) (maxL := 5) (ret := (some .int)) (own := RL) (hh := [(0, 9, 12, 13), (0, 9, 16, 19)]) (by decide) rfl rfl (Nat.le_of_ble_eq_true rfl) ?_
  intro p e s m below meth c A ls htab hx hb hr hts hown hml hlocks hA hK hE hP hD hS hl
  have hl : lv_has ls 5 [(0, .ref ba), (1, .int (nI i)), (2, .int wh), (3, .ref xo)] := hl
  refine lv_aload_n hx hb dL_code_0 rfl (lv_at hl 3 rfl) ?_
  refine lv_iconst (v := (0:Int32)) hx hb dL_code_1 (by decide) ?_
  refine lv_aload_n hx hb dL_code_2 rfl (lv_at hl 0 rfl) ?_
  refine lv_iload_n hx hb dL_code_3 rfl (lv_at hl 1 rfl) ?_
  refine lv_iload_n hx hb dL_code_4 rfl (lv_at hl 2 rfl) ?_
  refine cv_c (name := nIAE) (As := [.int (nI i), .int wh]) (rest := [.int (0:Int32), .ref xo]) ⟨hx, hb, hml, hown, hts⟩ (kX3_codeX1 l hl9 G ba bw wf wa i pa pr wo wl tr dr wt r gr le wh hi4 hwf hq) (cwV 2 hts gL_code_X3_code rfl rfl rfl (by decide +kernel) ⟨Nat.le_of_ble_eq_true rfl, Nat.le_of_ble_eq_true rfl⟩) (va_recv hK hP (ci := 3) (q0 := 0) rfl rfl) hE hK hP hD hS hA hl.1 [0, 1, 2] rfl rfl rfl rfl rfl (Nat.le_of_ble_eq_true rfl) dL_code_5 (Nat.le_of_ble_eq_true rfl) (Nat.le_of_ble_eq_true rfl) [] ⟨0, 9, 12, 13⟩ [⟨0, 9, 16, 19⟩] (htab.trans rfl) (fun z hz => nomatch hz) (by decide) (by decide) (hts (.classLink RL 13 nIAE) (by decide +kernel)) hE.2.2.2.2.2.2.2.2.2.2.1.word (fun q9 H locs hP hD hS => ?_)
  refine lv_astore (lv' := [(4, .ref q9), (0, .ref ba), (1, .int (nI i)), (2, .int wh), (3, .ref xo)]) hx hb dL_code_12 hl (by decide) rfl (fun ls hl => ?_)
  refine lv_iconst (v := (1:Int32)) hx hb dL_code_14 (by decide) ?_
  exact rt_h hx hb hr hlocks hP hD hS dL_code_15 rfl (Nat.le_of_ble_eq_true rfl) (Nat.le_of_ble_eq_true rfl)
set_option maxHeartbeats 4000000 in
set_option maxRecDepth 100000 in
theorem kL_codeX2 (l : Launch) (hl9 : l.stackTraces = false) (G : GT) (ba : Nat) (bw : Nat) (wf : Nat → Option Nat) (wa : Nat) (i : Nat) (pa : Nat) (pr : Nat) (wo : Nat) (wl : Nat) (tr : Int32) (dr : Int64) (wt : Int64) (r : Nat) (gr : Int64) (le : Int64) (wh : Int32) (xo : Nat) (ox : Nat → Int64) (hi4 : i < 4) (hwf : wf i = some wa) (hq : ¬ wh < 0) (hq2 : (3:Int32) < wh) : CI1 l yL_code wsL_code { frames := 7, cells := 1, slots := 6, locals := 105 } G [.ref ba, .int (nI i), .int wh, .ref xo] [(ba, .inr (3, [.ref bw])), (bw, .inl (G.2.1 4, 4, .inr (.inr (.inr (.inr wf))))), (wa, .inr (2, [.ref (G.2.2.1 i), .ref pa, .ref pr, .ref wo, .ref wl, .int tr, .long dr, .long wt, .int (nI r), .long gr, .long le])), (xo, .inl (G.2.1 1, 1, .inr (.inl ox)))] (1:Int32) [(ba, .inr (3, [.ref bw])), (bw, .inl (G.2.1 4, 4, .inr (.inr (.inr (.inr wf))))), (wa, .inr (2, [.ref (G.2.2.1 i), .ref pa, .ref pr, .ref wo, .ref wl, .int tr, .long dr, .long wt, .int (nI r), .long gr, .long le])), (xo, .inl (G.2.1 1, 1, .inr (.inl ox)))] := by
  refine en_h (cc := cL_code) (maxL := 5) (ret := (some .int)) (own := RL) (hh := [(0, 9, 12, 13), (0, 9, 16, 19)]) (by decide) rfl rfl (Nat.le_of_ble_eq_true rfl) ?_
  intro p e s m below meth c A ls htab hx hb hr hts hown hml hlocks hA hK hE hP hD hS hl
  have hl : lv_has ls 5 [(0, .ref ba), (1, .int (nI i)), (2, .int wh), (3, .ref xo)] := hl
  refine lv_aload_n hx hb dL_code_0 rfl (lv_at hl 3 rfl) ?_
  refine lv_iconst (v := (0:Int32)) hx hb dL_code_1 (by decide) ?_
  refine lv_aload_n hx hb dL_code_2 rfl (lv_at hl 0 rfl) ?_
  refine lv_iload_n hx hb dL_code_3 rfl (lv_at hl 1 rfl) ?_
  refine lv_iload_n hx hb dL_code_4 rfl (lv_at hl 2 rfl) ?_
  refine cv_c (name := nIAE) (As := [.int (nI i), .int wh]) (rest := [.int (0:Int32), .ref xo]) ⟨hx, hb, hml, hown, hts⟩ (kX3_codeX2 l hl9 G ba bw wf wa i pa pr wo wl tr dr wt r gr le wh hi4 hwf hq hq2) (cwV 2 hts gL_code_X3_code rfl rfl rfl (by decide +kernel) ⟨Nat.le_of_ble_eq_true rfl, Nat.le_of_ble_eq_true rfl⟩) (va_recv hK hP (ci := 3) (q0 := 0) rfl rfl) hE hK hP hD hS hA hl.1 [0, 1, 2] rfl rfl rfl rfl rfl (Nat.le_of_ble_eq_true rfl) dL_code_5 (Nat.le_of_ble_eq_true rfl) (Nat.le_of_ble_eq_true rfl) [] ⟨0, 9, 12, 13⟩ [⟨0, 9, 16, 19⟩] (htab.trans rfl) (fun z hz => nomatch hz) (by decide) (by decide) (hts (.classLink RL 13 nIAE) (by decide +kernel)) hE.2.2.2.2.2.2.2.2.2.2.1.word (fun q9 H locs hP hD hS => ?_)
  refine lv_astore (lv' := [(4, .ref q9), (0, .ref ba), (1, .int (nI i)), (2, .int wh), (3, .ref xo)]) hx hb dL_code_12 hl (by decide) rfl (fun ls hl => ?_)
  refine lv_iconst (v := (1:Int32)) hx hb dL_code_14 (by decide) ?_
  exact rt_h hx hb hr hlocks hP hD hS dL_code_15 rfl (Nat.le_of_ble_eq_true rfl) (Nat.le_of_ble_eq_true rfl)
set_option maxHeartbeats 4000000 in
set_option maxRecDepth 100000 in
theorem kL_codeX3 (l : Launch) (hl9 : l.stackTraces = false) (G : GT) (ba : Nat) (bw : Nat) (wf : Nat → Option Nat) (wa : Nat) (i : Nat) (pa : Nat) (pr : Nat) (wo : Nat) (wl : Nat) (tr : Int32) (dr : Int64) (wt : Int64) (r : Nat) (gr : Int64) (le : Int64) (xo : Nat) (ox : Nat → Int64) (hi4 : i < 4) (hwf : wf i = some wa) (hpk : fX2_hasPeaks r = 0) : CI1 l yL_code wsL_code { frames := 7, cells := 1, slots := 6, locals := 105 } G [.ref ba, .int (nI i), .int (2:Int32), .ref xo] [(ba, .inr (3, [.ref bw])), (bw, .inl (G.2.1 4, 4, .inr (.inr (.inr (.inr wf))))), (wa, .inr (2, [.ref (G.2.2.1 i), .ref pa, .ref pr, .ref wo, .ref wl, .int tr, .long dr, .long wt, .int (nI r), .long gr, .long le])), (xo, .inl (G.2.1 1, 1, .inr (.inl ox)))] (2:Int32) [(ba, .inr (3, [.ref bw])), (bw, .inl (G.2.1 4, 4, .inr (.inr (.inr (.inr wf))))), (wa, .inr (2, [.ref (G.2.2.1 i), .ref pa, .ref pr, .ref wo, .ref wl, .int tr, .long dr, .long wt, .int (nI r), .long gr, .long le])), (xo, .inl (G.2.1 1, 1, .inr (.inl ox)))] := by
  refine en_h (cc := cL_code) (maxL := 5) (ret := (some .int)) (own := RL) (hh := [(0, 9, 12, 13), (0, 9, 16, 19)]) (by decide) rfl rfl (Nat.le_of_ble_eq_true rfl) ?_
  intro p e s m below meth c A ls htab hx hb hr hts hown hml hlocks hA hK hE hP hD hS hl
  have hl : lv_has ls 5 [(0, .ref ba), (1, .int (nI i)), (2, .int (2:Int32)), (3, .ref xo)] := hl
  refine lv_aload_n hx hb dL_code_0 rfl (lv_at hl 3 rfl) ?_
  refine lv_iconst (v := (0:Int32)) hx hb dL_code_1 (by decide) ?_
  refine lv_aload_n hx hb dL_code_2 rfl (lv_at hl 0 rfl) ?_
  refine lv_iload_n hx hb dL_code_3 rfl (lv_at hl 1 rfl) ?_
  refine lv_iload_n hx hb dL_code_4 rfl (lv_at hl 2 rfl) ?_
  refine cv_c (name := nISE) (As := [.int (nI i), .int (2:Int32)]) (rest := [.int (0:Int32), .ref xo]) ⟨hx, hb, hml, hown, hts⟩ (kX3_codeX3 l hl9 G ba bw wf wa i pa pr wo wl tr dr wt r gr le hi4 hwf hpk) (cwV 2 hts gL_code_X3_code rfl rfl rfl (by decide +kernel) ⟨Nat.le_of_ble_eq_true rfl, Nat.le_of_ble_eq_true rfl⟩) (va_recv hK hP (ci := 3) (q0 := 0) rfl rfl) hE hK hP hD hS hA hl.1 [0, 1, 2] rfl rfl rfl rfl rfl (Nat.le_of_ble_eq_true rfl) dL_code_5 (Nat.le_of_ble_eq_true rfl) (Nat.le_of_ble_eq_true rfl) [⟨0, 9, 12, 13⟩] ⟨0, 9, 16, 19⟩ [] (htab.trans rfl) (fun z hz => by rcases List.mem_singleton.mp hz with rfl; exact Or.inr ⟨by decide, nIAE, hts (.classLink RL 13 nIAE) (by decide +kernel), hE.2.2.2.2.2.2.2.2.2.2.2.2.2.2.2⟩) (by decide) (by decide) (hts (.classLink RL 19 nISE) (by decide +kernel)) hE.2.2.2.2.2.2.2.2.2.2.2.1.word (fun q9 H locs hP hD hS => ?_)
  refine lv_astore (lv' := [(4, .ref q9), (0, .ref ba), (1, .int (nI i)), (2, .int (2:Int32)), (3, .ref xo)]) hx hb dL_code_16 hl (by decide) rfl (fun ls hl => ?_)
  refine lv_iconst (v := (2:Int32)) hx hb dL_code_18 (by decide) ?_
  exact rt_h hx hb hr hlocks hP hD hS dL_code_19 rfl (Nat.le_of_ble_eq_true rfl) (Nat.le_of_ble_eq_true rfl)
set_option maxHeartbeats 4000000 in
set_option maxRecDepth 100000 in
theorem kL_codeX4 (l : Launch) (hl9 : l.stackTraces = false) (G : GT) (ba : Nat) (bw : Nat) (wf : Nat → Option Nat) (wa : Nat) (i : Nat) (pa : Nat) (pr : Nat) (wo : Nat) (wl : Nat) (tr : Int32) (dr : Int64) (wt : Int64) (r : Nat) (gr : Int64) (le : Int64) (xo : Nat) (ox : Nat → Int64) (hi4 : i < 4) (hwf : wf i = some wa) (hpk : fX2_hasPeaks r = 0) : CI1 l yL_code wsL_code { frames := 7, cells := 1, slots := 6, locals := 105 } G [.ref ba, .int (nI i), .int (3:Int32), .ref xo] [(ba, .inr (3, [.ref bw])), (bw, .inl (G.2.1 4, 4, .inr (.inr (.inr (.inr wf))))), (wa, .inr (2, [.ref (G.2.2.1 i), .ref pa, .ref pr, .ref wo, .ref wl, .int tr, .long dr, .long wt, .int (nI r), .long gr, .long le])), (xo, .inl (G.2.1 1, 1, .inr (.inl ox)))] (2:Int32) [(ba, .inr (3, [.ref bw])), (bw, .inl (G.2.1 4, 4, .inr (.inr (.inr (.inr wf))))), (wa, .inr (2, [.ref (G.2.2.1 i), .ref pa, .ref pr, .ref wo, .ref wl, .int tr, .long dr, .long wt, .int (nI r), .long gr, .long le])), (xo, .inl (G.2.1 1, 1, .inr (.inl ox)))] := by
  refine en_h (cc := cL_code) (maxL := 5) (ret := (some .int)) (own := RL) (hh := [(0, 9, 12, 13), (0, 9, 16, 19)]) (by decide) rfl rfl (Nat.le_of_ble_eq_true rfl) ?_
  intro p e s m below meth c A ls htab hx hb hr hts hown hml hlocks hA hK hE hP hD hS hl
  have hl : lv_has ls 5 [(0, .ref ba), (1, .int (nI i)), (2, .int (3:Int32)), (3, .ref xo)] := hl
  refine lv_aload_n hx hb dL_code_0 rfl (lv_at hl 3 rfl) ?_
  refine lv_iconst (v := (0:Int32)) hx hb dL_code_1 (by decide) ?_
  refine lv_aload_n hx hb dL_code_2 rfl (lv_at hl 0 rfl) ?_
  refine lv_iload_n hx hb dL_code_3 rfl (lv_at hl 1 rfl) ?_
  refine lv_iload_n hx hb dL_code_4 rfl (lv_at hl 2 rfl) ?_
  refine cv_c (name := nISE) (As := [.int (nI i), .int (3:Int32)]) (rest := [.int (0:Int32), .ref xo]) ⟨hx, hb, hml, hown, hts⟩ (kX3_codeX4 l hl9 G ba bw wf wa i pa pr wo wl tr dr wt r gr le hi4 hwf hpk) (cwV 2 hts gL_code_X3_code rfl rfl rfl (by decide +kernel) ⟨Nat.le_of_ble_eq_true rfl, Nat.le_of_ble_eq_true rfl⟩) (va_recv hK hP (ci := 3) (q0 := 0) rfl rfl) hE hK hP hD hS hA hl.1 [0, 1, 2] rfl rfl rfl rfl rfl (Nat.le_of_ble_eq_true rfl) dL_code_5 (Nat.le_of_ble_eq_true rfl) (Nat.le_of_ble_eq_true rfl) [⟨0, 9, 12, 13⟩] ⟨0, 9, 16, 19⟩ [] (htab.trans rfl) (fun z hz => by rcases List.mem_singleton.mp hz with rfl; exact Or.inr ⟨by decide, nIAE, hts (.classLink RL 13 nIAE) (by decide +kernel), hE.2.2.2.2.2.2.2.2.2.2.2.2.2.2.2⟩) (by decide) (by decide) (hts (.classLink RL 19 nISE) (by decide +kernel)) hE.2.2.2.2.2.2.2.2.2.2.2.1.word (fun q9 H locs hP hD hS => ?_)
  refine lv_astore (lv' := [(4, .ref q9), (0, .ref ba), (1, .int (nI i)), (2, .int (3:Int32)), (3, .ref xo)]) hx hb dL_code_16 hl (by decide) rfl (fun ls hl => ?_)
  refine lv_iconst (v := (2:Int32)) hx hb dL_code_18 (by decide) ?_
  exact rt_h hx hb hr hlocks hP hD hS dL_code_19 rfl (Nat.le_of_ble_eq_true rfl) (Nat.le_of_ble_eq_true rfl)
set_option maxHeartbeats 4000000 in
set_option maxRecDepth 100000 in
theorem kL_trace (l : Launch) (hl9 : l.stackTraces = false) (G : GT) (ba : Nat) (bw : Nat) (wf : Nat → Option Nat) (wa : Nat) (i : Nat) (pa : Nat) (pr : Nat) (wo : Nat) (wl : Nat) (tr : Int32) (dr : Int64) (wt : Int64) (r : Nat) (gr : Int64) (le : Int64) (pk : Nat) (pn : Nat) (po : Nat) (n : Nat) (u : Nat) (ou : Nat → Int64) (xo : Nat) (ox : Nat → Int64) (hi4 : i < 4) (hwf : wf i = some wa) (hu : u < n) (hn : n ≤ 12) (htr : ¬ tr = 0) : CI1 l yL_trace wsL_trace { frames := 3, cells := 1, slots := 6, locals := 65 } G [.ref ba, .int (nI i), .int (nI u), .ref xo] [(ba, .inr (3, [.ref bw])), (bw, .inl (G.2.1 4, 4, .inr (.inr (.inr (.inr wf))))), (wa, .inr (2, [.ref (G.2.2.1 i), .ref pa, .ref pr, .ref wo, .ref wl, .int tr, .long dr, .long wt, .int (nI r), .long gr, .long le])), (pa, .inr (0, [.ref pk, .ref pn, .ref po, .int (nI n)])), (wo, .inl (G.2.1 1, 12, .inr (.inl ou))), (xo, .inl (G.2.1 1, 1, .inr (.inl ox)))] (0:Int32) [(ba, .inr (3, [.ref bw])), (bw, .inl (G.2.1 4, 4, .inr (.inr (.inr (.inr wf))))), (wa, .inr (2, [.ref (G.2.2.1 i), .ref pa, .ref pr, .ref wo, .ref wl, .int tr, .long dr, .long wt, .int (nI r), .long gr, .long le])), (pa, .inr (0, [.ref pk, .ref pn, .ref po, .int (nI n)])), (wo, .inl (G.2.1 1, 12, .inr (.inl ou))), (xo, .inl (G.2.1 1, 1, .inr (.inl (vp_updL ox 0 (ou u)))))] := by
  refine en_h (cc := cL_trace) (maxL := 5) (ret := (some .int)) (own := RL) (hh := [(0, 9, 12, 13), (0, 9, 16, 19)]) (by decide) rfl rfl (Nat.le_of_ble_eq_true rfl) ?_
  intro p e s m below meth c A ls htab hx hb hr hts hown hml hlocks hA hK hE hP hD hS hl
  have hl : lv_has ls 5 [(0, .ref ba), (1, .int (nI i)), (2, .int (nI u)), (3, .ref xo)] := hl
  refine lv_aload_n hx hb dL_trace_0 rfl (lv_at hl 3 rfl) ?_
  refine lv_iconst (v := (0:Int32)) hx hb dL_trace_1 (by decide) ?_
  refine lv_aload_n hx hb dL_trace_2 rfl (lv_at hl 0 rfl) ?_
  refine lv_iload_n hx hb dL_trace_3 rfl (lv_at hl 1 rfl) ?_
  refine lv_iload_n hx hb dL_trace_4 rfl (lv_at hl 2 rfl) ?_
  refine cv_l (As := [.int (nI i), .int (nI u)]) (rest := [.int (0:Int32), .ref xo]) (ws' := [(ba, .inr (3, [.ref bw])), (bw, .inl (G.2.1 4, 4, .inr (.inr (.inr (.inr wf))))), (wa, .inr (2, [.ref (G.2.2.1 i), .ref pa, .ref pr, .ref wo, .ref wl, .int tr, .long dr, .long wt, .int (nI r), .long gr, .long le])), (pa, .inr (0, [.ref pk, .ref pn, .ref po, .int (nI n)])), (wo, .inl (G.2.1 1, 12, .inr (.inl ou))), (xo, .inl (G.2.1 1, 1, .inr (.inl ox)))]) ⟨hx, hb, hml, hown, hts⟩ (kX3_trace l G ba bw wf wa i pa pr wo wl tr dr wt r gr le pk pn po n u ou hi4 hwf hu hn htr) (cwV 2 hts gL_trace_X3_trace rfl rfl rfl (by decide +kernel) ⟨Nat.le_of_ble_eq_true rfl, Nat.le_of_ble_eq_true rfl⟩) (va_recv hK hP (ci := 3) (q0 := 0) rfl rfl) hE hK hP hD hS hA hl.1 [0, 1, 2, 3, 4] rfl rfl rfl rfl rfl rfl (Nat.le_of_ble_eq_true rfl) dL_trace_5 ⟨Nat.zero_le _, Nat.zero_le _⟩ (fun H locs hP hD hS => ?_)
  refine ar_lst hx hb hK hP hD hS 5 rfl 0 rfl (by decide) (by decide) dL_trace_8 (fun H locs hP hD hS => ?_)
  have hP : va_P G.1 vwCl [(ba, .inr (3, [.ref bw])), (bw, .inl (G.2.1 4, 4, .inr (.inr (.inr (.inr wf))))), (wa, .inr (2, [.ref (G.2.2.1 i), .ref pa, .ref pr, .ref wo, .ref wl, .int tr, .long dr, .long wt, .int (nI r), .long gr, .long le])), (pa, .inr (0, [.ref pk, .ref pn, .ref po, .int (nI n)])), (wo, .inl (G.2.1 1, 12, .inr (.inl ou))), (xo, .inl (G.2.1 1, 1, .inr (.inl (vp_updL ox 0 (ou u)))))] H := hP
  have hD : va_D A [(ba, .inr (3, [.ref bw])), (bw, .inl (G.2.1 4, 4, .inr (.inr (.inr (.inr wf))))), (wa, .inr (2, [.ref (G.2.2.1 i), .ref pa, .ref pr, .ref wo, .ref wl, .int tr, .long dr, .long wt, .int (nI r), .long gr, .long le])), (pa, .inr (0, [.ref pk, .ref pn, .ref po, .int (nI n)])), (wo, .inl (G.2.1 1, 12, .inr (.inl ou))), (xo, .inl (G.2.1 1, 1, .inr (.inl (vp_updL ox 0 (ou u)))))] := hD
  refine lv_goto (tgt := 20) hx hb dL_trace_9 (by decide) ?_
  refine lv_iconst (v := (0:Int32)) hx hb dL_trace_20 (by decide) ?_
  exact rt_h hx hb hr hlocks hP hD hS dL_trace_21 rfl (Nat.le_of_ble_eq_true rfl) (Nat.le_of_ble_eq_true rfl)
set_option maxHeartbeats 4000000 in
set_option maxRecDepth 100000 in
theorem kL_traceX0 (l : Launch) (hl9 : l.stackTraces = false) (G : GT) (ba : Nat) (bw : Nat) (wf : Nat → Option Nat) (wi : Int32) (a1 : Int32) (xo : Nat) (ox : Nat → Int64) (hwi : fX3_isWire wi = 0) : CI1 l yL_trace wsL_trace { frames := 8, cells := 1, slots := 6, locals := 126 } G [.ref ba, .int wi, .int a1, .ref xo] [(ba, .inr (3, [.ref bw])), (bw, .inl (G.2.1 4, 4, .inr (.inr (.inr (.inr wf))))), (xo, .inl (G.2.1 1, 1, .inr (.inl ox)))] (1:Int32) [(ba, .inr (3, [.ref bw])), (bw, .inl (G.2.1 4, 4, .inr (.inr (.inr (.inr wf))))), (xo, .inl (G.2.1 1, 1, .inr (.inl ox)))] := by
  refine en_h (cc := cL_trace) (maxL := 5) (ret := (some .int)) (own := RL) (hh := [(0, 9, 12, 13), (0, 9, 16, 19)]) (by decide) rfl rfl (Nat.le_of_ble_eq_true rfl) ?_
  intro p e s m below meth c A ls htab hx hb hr hts hown hml hlocks hA hK hE hP hD hS hl
  have hl : lv_has ls 5 [(0, .ref ba), (1, .int wi), (2, .int a1), (3, .ref xo)] := hl
  refine lv_aload_n hx hb dL_trace_0 rfl (lv_at hl 3 rfl) ?_
  refine lv_iconst (v := (0:Int32)) hx hb dL_trace_1 (by decide) ?_
  refine lv_aload_n hx hb dL_trace_2 rfl (lv_at hl 0 rfl) ?_
  refine lv_iload_n hx hb dL_trace_3 rfl (lv_at hl 1 rfl) ?_
  refine lv_iload_n hx hb dL_trace_4 rfl (lv_at hl 2 rfl) ?_
  refine cv_c (name := nIAE) (As := [.int wi, .int a1]) (rest := [.int (0:Int32), .ref xo]) ⟨hx, hb, hml, hown, hts⟩ (kX3_traceX0 l hl9 G ba bw wf wi a1 hwi) (cwV 2 hts gL_trace_X3_trace rfl rfl rfl (by decide +kernel) ⟨Nat.le_of_ble_eq_true rfl, Nat.le_of_ble_eq_true rfl⟩) (va_recv hK hP (ci := 3) (q0 := 0) rfl rfl) hE hK hP hD hS hA hl.1 [0, 1] rfl rfl rfl rfl rfl (Nat.le_of_ble_eq_true rfl) dL_trace_5 (Nat.le_of_ble_eq_true rfl) (Nat.le_of_ble_eq_true rfl) [] ⟨0, 9, 12, 13⟩ [⟨0, 9, 16, 19⟩] (htab.trans rfl) (fun z hz => nomatch hz) (by decide) (by decide) (hts (.classLink RL 13 nIAE) (by decide +kernel)) hE.2.2.2.2.2.2.2.2.2.2.1.word (fun q9 H locs hP hD hS => ?_)
  refine lv_astore (lv' := [(4, .ref q9), (0, .ref ba), (1, .int wi), (2, .int a1), (3, .ref xo)]) hx hb dL_trace_12 hl (by decide) rfl (fun ls hl => ?_)
  refine lv_iconst (v := (1:Int32)) hx hb dL_trace_14 (by decide) ?_
  exact rt_h hx hb hr hlocks hP hD hS dL_trace_15 rfl (Nat.le_of_ble_eq_true rfl) (Nat.le_of_ble_eq_true rfl)
set_option maxHeartbeats 4000000 in
set_option maxRecDepth 100000 in
theorem kL_traceX1 (l : Launch) (hl9 : l.stackTraces = false) (G : GT) (ba : Nat) (bw : Nat) (wf : Nat → Option Nat) (wa : Nat) (i : Nat) (pa : Nat) (pr : Nat) (wo : Nat) (wl : Nat) (tr : Int32) (dr : Int64) (wt : Int64) (r : Nat) (gr : Int64) (le : Int64) (pk : Nat) (pn : Nat) (po : Nat) (n : Nat) (pl : Int32) (xo : Nat) (ox : Nat → Int64) (hi4 : i < 4) (hwf : wf i = some wa) (hhas : fX0_has n pl = 0) : CI1 l yL_trace wsL_trace { frames := 8, cells := 1, slots := 6, locals := 126 } G [.ref ba, .int (nI i), .int pl, .ref xo] [(ba, .inr (3, [.ref bw])), (bw, .inl (G.2.1 4, 4, .inr (.inr (.inr (.inr wf))))), (wa, .inr (2, [.ref (G.2.2.1 i), .ref pa, .ref pr, .ref wo, .ref wl, .int tr, .long dr, .long wt, .int (nI r), .long gr, .long le])), (pa, .inr (0, [.ref pk, .ref pn, .ref po, .int (nI n)])), (xo, .inl (G.2.1 1, 1, .inr (.inl ox)))] (1:Int32) [(ba, .inr (3, [.ref bw])), (bw, .inl (G.2.1 4, 4, .inr (.inr (.inr (.inr wf))))), (wa, .inr (2, [.ref (G.2.2.1 i), .ref pa, .ref pr, .ref wo, .ref wl, .int tr, .long dr, .long wt, .int (nI r), .long gr, .long le])), (pa, .inr (0, [.ref pk, .ref pn, .ref po, .int (nI n)])), (xo, .inl (G.2.1 1, 1, .inr (.inl ox)))] := by
  refine en_h (cc := cL_trace) (maxL := 5) (ret := (some .int)) (own := RL) (hh := [(0, 9, 12, 13), (0, 9, 16, 19)]) (by decide) rfl rfl (Nat.le_of_ble_eq_true rfl) ?_
  intro p e s m below meth c A ls htab hx hb hr hts hown hml hlocks hA hK hE hP hD hS hl
  have hl : lv_has ls 5 [(0, .ref ba), (1, .int (nI i)), (2, .int pl), (3, .ref xo)] := hl
  refine lv_aload_n hx hb dL_trace_0 rfl (lv_at hl 3 rfl) ?_
  refine lv_iconst (v := (0:Int32)) hx hb dL_trace_1 (by decide) ?_
  refine lv_aload_n hx hb dL_trace_2 rfl (lv_at hl 0 rfl) ?_
  refine lv_iload_n hx hb dL_trace_3 rfl (lv_at hl 1 rfl) ?_
  refine lv_iload_n hx hb dL_trace_4 rfl (lv_at hl 2 rfl) ?_
  refine cv_c (name := nIAE) (As := [.int (nI i), .int pl]) (rest := [.int (0:Int32), .ref xo]) ⟨hx, hb, hml, hown, hts⟩ (kX3_traceX1 l hl9 G ba bw wf wa i pa pr wo wl tr dr wt r gr le pk pn po n pl hi4 hwf hhas) (cwV 2 hts gL_trace_X3_trace rfl rfl rfl (by decide +kernel) ⟨Nat.le_of_ble_eq_true rfl, Nat.le_of_ble_eq_true rfl⟩) (va_recv hK hP (ci := 3) (q0 := 0) rfl rfl) hE hK hP hD hS hA hl.1 [0, 1, 2, 3] rfl rfl rfl rfl rfl (Nat.le_of_ble_eq_true rfl) dL_trace_5 (Nat.le_of_ble_eq_true rfl) (Nat.le_of_ble_eq_true rfl) [] ⟨0, 9, 12, 13⟩ [⟨0, 9, 16, 19⟩] (htab.trans rfl) (fun z hz => nomatch hz) (by decide) (by decide) (hts (.classLink RL 13 nIAE) (by decide +kernel)) hE.2.2.2.2.2.2.2.2.2.2.1.word (fun q9 H locs hP hD hS => ?_)
  refine lv_astore (lv' := [(4, .ref q9), (0, .ref ba), (1, .int (nI i)), (2, .int pl), (3, .ref xo)]) hx hb dL_trace_12 hl (by decide) rfl (fun ls hl => ?_)
  refine lv_iconst (v := (1:Int32)) hx hb dL_trace_14 (by decide) ?_
  exact rt_h hx hb hr hlocks hP hD hS dL_trace_15 rfl (Nat.le_of_ble_eq_true rfl) (Nat.le_of_ble_eq_true rfl)
set_option maxHeartbeats 4000000 in
set_option maxRecDepth 100000 in
theorem kL_traceX2 (l : Launch) (hl9 : l.stackTraces = false) (G : GT) (ba : Nat) (bw : Nat) (wf : Nat → Option Nat) (wa : Nat) (i : Nat) (pa : Nat) (pr : Nat) (wo : Nat) (wl : Nat) (tr : Int32) (dr : Int64) (wt : Int64) (r : Nat) (gr : Int64) (le : Int64) (pk : Nat) (pn : Nat) (po : Nat) (n : Nat) (pl : Int32) (xo : Nat) (ox : Nat → Int64) (hi4 : i < 4) (hwf : wf i = some wa) (hhas : ¬ fX0_has n pl = 0) (htr : tr = 0) : CI1 l yL_trace wsL_trace { frames := 7, cells := 1, slots := 6, locals := 105 } G [.ref ba, .int (nI i), .int pl, .ref xo] [(ba, .inr (3, [.ref bw])), (bw, .inl (G.2.1 4, 4, .inr (.inr (.inr (.inr wf))))), (wa, .inr (2, [.ref (G.2.2.1 i), .ref pa, .ref pr, .ref wo, .ref wl, .int tr, .long dr, .long wt, .int (nI r), .long gr, .long le])), (pa, .inr (0, [.ref pk, .ref pn, .ref po, .int (nI n)])), (xo, .inl (G.2.1 1, 1, .inr (.inl ox)))] (2:Int32) [(ba, .inr (3, [.ref bw])), (bw, .inl (G.2.1 4, 4, .inr (.inr (.inr (.inr wf))))), (wa, .inr (2, [.ref (G.2.2.1 i), .ref pa, .ref pr, .ref wo, .ref wl, .int tr, .long dr, .long wt, .int (nI r), .long gr, .long le])), (pa, .inr (0, [.ref pk, .ref pn, .ref po, .int (nI n)])), (xo, .inl (G.2.1 1, 1, .inr (.inl ox)))] := by
  refine en_h (cc := cL_trace) (maxL := 5) (ret := (some .int)) (own := RL) (hh := [(0, 9, 12, 13), (0, 9, 16, 19)]) (by decide) rfl rfl (Nat.le_of_ble_eq_true rfl) ?_
  intro p e s m below meth c A ls htab hx hb hr hts hown hml hlocks hA hK hE hP hD hS hl
  have hl : lv_has ls 5 [(0, .ref ba), (1, .int (nI i)), (2, .int pl), (3, .ref xo)] := hl
  refine lv_aload_n hx hb dL_trace_0 rfl (lv_at hl 3 rfl) ?_
  refine lv_iconst (v := (0:Int32)) hx hb dL_trace_1 (by decide) ?_
  refine lv_aload_n hx hb dL_trace_2 rfl (lv_at hl 0 rfl) ?_
  refine lv_iload_n hx hb dL_trace_3 rfl (lv_at hl 1 rfl) ?_
  refine lv_iload_n hx hb dL_trace_4 rfl (lv_at hl 2 rfl) ?_
  refine cv_c (name := nISE) (As := [.int (nI i), .int pl]) (rest := [.int (0:Int32), .ref xo]) ⟨hx, hb, hml, hown, hts⟩ (kX3_traceX2 l hl9 G ba bw wf wa i pa pr wo wl tr dr wt r gr le pk pn po n pl hi4 hwf hhas htr) (cwV 2 hts gL_trace_X3_trace rfl rfl rfl (by decide +kernel) ⟨Nat.le_of_ble_eq_true rfl, Nat.le_of_ble_eq_true rfl⟩) (va_recv hK hP (ci := 3) (q0 := 0) rfl rfl) hE hK hP hD hS hA hl.1 [0, 1, 2, 3] rfl rfl rfl rfl rfl (Nat.le_of_ble_eq_true rfl) dL_trace_5 (Nat.le_of_ble_eq_true rfl) (Nat.le_of_ble_eq_true rfl) [⟨0, 9, 12, 13⟩] ⟨0, 9, 16, 19⟩ [] (htab.trans rfl) (fun z hz => by rcases List.mem_singleton.mp hz with rfl; exact Or.inr ⟨by decide, nIAE, hts (.classLink RL 13 nIAE) (by decide +kernel), hE.2.2.2.2.2.2.2.2.2.2.2.2.2.2.2⟩) (by decide) (by decide) (hts (.classLink RL 19 nISE) (by decide +kernel)) hE.2.2.2.2.2.2.2.2.2.2.2.1.word (fun q9 H locs hP hD hS => ?_)
  refine lv_astore (lv' := [(4, .ref q9), (0, .ref ba), (1, .int (nI i)), (2, .int pl), (3, .ref xo)]) hx hb dL_trace_16 hl (by decide) rfl (fun ls hl => ?_)
  refine lv_iconst (v := (2:Int32)) hx hb dL_trace_18 (by decide) ?_
  exact rt_h hx hb hr hlocks hP hD hS dL_trace_19 rfl (Nat.le_of_ble_eq_true rfl) (Nat.le_of_ble_eq_true rfl)
set_option maxHeartbeats 4000000 in
set_option maxRecDepth 100000 in
theorem kL_against (l : Launch) (hl9 : l.stackTraces = false) (G : GT) (ba : Nat) (bw : Nat) (wf : Nat → Option Nat) (wa : Nat) (i : Nat) (pa : Nat) (pr : Nat) (wo : Nat) (wl : Nat) (tr : Int32) (dr : Int64) (wt : Int64) (r : Nat) (gr : Int64) (le : Int64) (xo : Nat) (ox : Nat → Int64) (hi4 : i < 4) (hwf : wf i = some wa) : CI1 l yL_against wsL_against { frames := 4, cells := 1, slots := 6, locals := 88 } G [.ref ba, .int (nI i), .ref xo] [(ba, .inr (3, [.ref bw])), (bw, .inl (G.2.1 4, 4, .inr (.inr (.inr (.inr wf))))), (wa, .inr (2, [.ref (G.2.2.1 i), .ref pa, .ref pr, .ref wo, .ref wl, .int tr, .long dr, .long wt, .int (nI r), .long gr, .long le])), (xo, .inl (G.2.1 1, 1, .inr (.inl ox)))] (0:Int32) [(ba, .inr (3, [.ref bw])), (bw, .inl (G.2.1 4, 4, .inr (.inr (.inr (.inr wf))))), (wa, .inr (2, [.ref (G.2.2.1 i), .ref pa, .ref pr, .ref wo, .ref wl, .int tr, .long dr, .long wt, .int (nI r), .long gr, .long le])), (xo, .inl (G.2.1 1, 1, .inr (.inl (vp_updL ox 0 ((fX3_against i dr wt).toInt64)))))] := by
  refine en_h (cc := cL_against) (maxL := 4) (ret := (some .int)) (own := RL) (hh := [(0, 9, 12, 13)]) (by decide) rfl rfl (Nat.le_of_ble_eq_true rfl) ?_
  intro p e s m below meth c A ls htab hx hb hr hts hown hml hlocks hA hK hE hP hD hS hl
  have hl : lv_has ls 4 [(0, .ref ba), (1, .int (nI i)), (2, .ref xo)] := hl
  refine lv_aload_n hx hb dL_against_0 rfl (lv_at hl 2 rfl) ?_
  refine lv_iconst (v := (0:Int32)) hx hb dL_against_1 (by decide) ?_
  refine lv_aload_n hx hb dL_against_2 rfl (lv_at hl 0 rfl) ?_
  refine lv_iload_n hx hb dL_against_3 rfl (lv_at hl 1 rfl) ?_
  refine cv_i (As := [.int (nI i)]) (rest := [.int (0:Int32), .ref xo]) (ws' := [(ba, .inr (3, [.ref bw])), (bw, .inl (G.2.1 4, 4, .inr (.inr (.inr (.inr wf))))), (wa, .inr (2, [.ref (G.2.2.1 i), .ref pa, .ref pr, .ref wo, .ref wl, .int tr, .long dr, .long wt, .int (nI r), .long gr, .long le])), (xo, .inl (G.2.1 1, 1, .inr (.inl ox)))]) ⟨hx, hb, hml, hown, hts⟩ (kX3_against l G ba bw wf wa i pa pr wo wl tr dr wt r gr le hi4 hwf) (cwV 1 hts gL_against_X3_against rfl rfl rfl (by decide +kernel) ⟨Nat.le_of_ble_eq_true rfl, Nat.le_of_ble_eq_true rfl⟩) (va_recv hK hP (ci := 3) (q0 := 0) rfl rfl) hE hK hP hD hS hA hl.1 [0, 1, 2] rfl rfl rfl rfl rfl rfl (Nat.le_of_ble_eq_true rfl) dL_against_4 ⟨Nat.zero_le _, Nat.zero_le _⟩ (fun H locs hP hD hS => ?_)
  refine r_i2l hx hb dL_against_7 ?_
  refine ar_lst hx hb hK hP hD hS 3 rfl 0 rfl (by decide) (by decide) dL_against_8 (fun H locs hP hD hS => ?_)
  have hP : va_P G.1 vwCl [(ba, .inr (3, [.ref bw])), (bw, .inl (G.2.1 4, 4, .inr (.inr (.inr (.inr wf))))), (wa, .inr (2, [.ref (G.2.2.1 i), .ref pa, .ref pr, .ref wo, .ref wl, .int tr, .long dr, .long wt, .int (nI r), .long gr, .long le])), (xo, .inl (G.2.1 1, 1, .inr (.inl (vp_updL ox 0 ((fX3_against i dr wt).toInt64)))))] H := hP
  have hD : va_D A [(ba, .inr (3, [.ref bw])), (bw, .inl (G.2.1 4, 4, .inr (.inr (.inr (.inr wf))))), (wa, .inr (2, [.ref (G.2.2.1 i), .ref pa, .ref pr, .ref wo, .ref wl, .int tr, .long dr, .long wt, .int (nI r), .long gr, .long le])), (xo, .inl (G.2.1 1, 1, .inr (.inl (vp_updL ox 0 ((fX3_against i dr wt).toInt64)))))] := hD
  refine lv_goto (tgt := 15) hx hb dL_against_9 (by decide) ?_
  refine lv_iconst (v := (0:Int32)) hx hb dL_against_15 (by decide) ?_
  exact rt_h hx hb hr hlocks hP hD hS dL_against_16 rfl (Nat.le_of_ble_eq_true rfl) (Nat.le_of_ble_eq_true rfl)
set_option maxHeartbeats 4000000 in
set_option maxRecDepth 100000 in
theorem kL_againstX0 (l : Launch) (hl9 : l.stackTraces = false) (G : GT) (ba : Nat) (bw : Nat) (wf : Nat → Option Nat) (wi : Int32) (xo : Nat) (ox : Nat → Int64) (hwi : fX3_isWire wi = 0) : CI1 l yL_against wsL_against { frames := 8, cells := 1, slots := 6, locals := 125 } G [.ref ba, .int wi, .ref xo] [(ba, .inr (3, [.ref bw])), (bw, .inl (G.2.1 4, 4, .inr (.inr (.inr (.inr wf))))), (xo, .inl (G.2.1 1, 1, .inr (.inl ox)))] (1:Int32) [(ba, .inr (3, [.ref bw])), (bw, .inl (G.2.1 4, 4, .inr (.inr (.inr (.inr wf))))), (xo, .inl (G.2.1 1, 1, .inr (.inl ox)))] := by
  refine en_h (cc := cL_against) (maxL := 4) (ret := (some .int)) (own := RL) (hh := [(0, 9, 12, 13)]) (by decide) rfl rfl (Nat.le_of_ble_eq_true rfl) ?_
  intro p e s m below meth c A ls htab hx hb hr hts hown hml hlocks hA hK hE hP hD hS hl
  have hl : lv_has ls 4 [(0, .ref ba), (1, .int wi), (2, .ref xo)] := hl
  refine lv_aload_n hx hb dL_against_0 rfl (lv_at hl 2 rfl) ?_
  refine lv_iconst (v := (0:Int32)) hx hb dL_against_1 (by decide) ?_
  refine lv_aload_n hx hb dL_against_2 rfl (lv_at hl 0 rfl) ?_
  refine lv_iload_n hx hb dL_against_3 rfl (lv_at hl 1 rfl) ?_
  refine cv_c (name := nIAE) (As := [.int wi]) (rest := [.int (0:Int32), .ref xo]) ⟨hx, hb, hml, hown, hts⟩ (kX3_againstX0 l hl9 G ba bw wf wi hwi) (cwV 1 hts gL_against_X3_against rfl rfl rfl (by decide +kernel) ⟨Nat.le_of_ble_eq_true rfl, Nat.le_of_ble_eq_true rfl⟩) (va_recv hK hP (ci := 3) (q0 := 0) rfl rfl) hE hK hP hD hS hA hl.1 [0, 1] rfl rfl rfl rfl rfl (Nat.le_of_ble_eq_true rfl) dL_against_4 (Nat.le_of_ble_eq_true rfl) (Nat.le_of_ble_eq_true rfl) [] ⟨0, 9, 12, 13⟩ [] (htab.trans rfl) (fun z hz => nomatch hz) (by decide) (by decide) (hts (.classLink RL 13 nIAE) (by decide +kernel)) hE.2.2.2.2.2.2.2.2.2.2.1.word (fun q9 H locs hP hD hS => ?_)
  refine lv_astore_n (lv' := [(3, .ref q9), (0, .ref ba), (1, .int wi), (2, .ref xo)]) hx hb dL_against_12 rfl hl (by decide) rfl (fun ls hl => ?_)
  refine lv_iconst (v := (1:Int32)) hx hb dL_against_13 (by decide) ?_
  exact rt_h hx hb hr hlocks hP hD hS dL_against_14 rfl (Nat.le_of_ble_eq_true rfl) (Nat.le_of_ble_eq_true rfl)
set_option maxHeartbeats 4000000 in
set_option maxRecDepth 100000 in
theorem kL_save (l : Launch) (hl9 : l.stackTraces = false) (G : GT) (ba : Nat) (bw : Nat) (wf : Nat → Option Nat) (wa : Nat) (i : Nat) (pa : Nat) (pr : Nat) (wo : Nat) (wl : Nat) (tr : Int32) (dr : Int64) (wt : Int64) (r : Nat) (gr : Int64) (le : Int64) (pk : Nat) (pn : Nat) (po : Nat) (n : Nat) (ki : Nat → Int32) (kn : Nat → Int64) (on : Nat → Int32) (pf : Nat → Option Nat) (qa : Nat) (qk : Nat) (qn : Nat) (qo : Nat) (n2 : Nat) (ki2 : Nat → Int32) (kn2 : Nat → Int64) (on2 : Nat → Int32) (u : Nat) (xo : Nat) (ox : Nat → Int64) (hi4 : i < 4) (hwf : wf i = some wa) (hu : u < 4) (hpf : pf u = some qa) (hn : n ≤ 12) (hz : ∀ k, on k = 0 ∨ on k = 1) : CI1 l yL_save wsL_save { frames := 3, cells := 1, slots := 6, locals := 65 } G [.ref ba, .int (nI i), .int (nI u), .ref xo] [(ba, .inr (3, [.ref bw])), (bw, .inl (G.2.1 4, 4, .inr (.inr (.inr (.inr wf))))), (wa, .inr (2, [.ref (G.2.2.1 i), .ref pa, .ref pr, .ref wo, .ref wl, .int tr, .long dr, .long wt, .int (nI r), .long gr, .long le])), (pr, .inl (G.2.1 3, 4, .inr (.inr (.inr (.inr pf))))), (pa, .inr (0, [.ref pk, .ref pn, .ref po, .int (nI n)])), (pk, .inl (G.2.1 0, 12, .inl ki)), (pn, .inl (G.2.1 1, 12, .inr (.inl kn))), (po, .inl (G.2.1 2, 12, .inl on)), (qa, .inr (0, [.ref qk, .ref qn, .ref qo, .int (nI n2)])), (qk, .inl (G.2.1 0, 12, .inl ki2)), (qn, .inl (G.2.1 1, 12, .inr (.inl kn2))), (qo, .inl (G.2.1 2, 12, .inl on2)), (xo, .inl (G.2.1 1, 1, .inr (.inl ox)))] (0:Int32) [(ba, .inr (3, [.ref bw])), (bw, .inl (G.2.1 4, 4, .inr (.inr (.inr (.inr wf))))), (wa, .inr (2, [.ref (G.2.2.1 i), .ref pa, .ref pr, .ref wo, .ref wl, .int tr, .long dr, .long wt, .int (nI r), .long gr, .long le])), (pr, .inl (G.2.1 3, 4, .inr (.inr (.inr (.inr pf))))), (pa, .inr (0, [.ref pk, .ref pn, .ref po, .int (nI n)])), (pk, .inl (G.2.1 0, 12, .inl ki)), (pn, .inl (G.2.1 1, 12, .inr (.inl kn))), (po, .inl (G.2.1 2, 12, .inl on)), (qa, .inr (0, [.ref qk, .ref qn, .ref qo, .int (nI n)])), (qk, .inl (G.2.1 0, 12, .inl (mx n ki ki2))), (qn, .inl (G.2.1 1, 12, .inr (.inl (mx n kn kn2)))), (qo, .inl (G.2.1 2, 12, .inl (mx n on on2))), (xo, .inl (G.2.1 1, 1, .inr (.inl (vp_updL ox 0 ((nI n).toInt64)))))] := by
  refine en_h (cc := cL_save) (maxL := 5) (ret := (some .int)) (own := RL) (hh := [(0, 10, 13, 13)]) (by decide) rfl rfl (Nat.le_of_ble_eq_true rfl) ?_
  intro p e s m below meth c A ls htab hx hb hr hts hown hml hlocks hA hK hE hP hD hS hl
  have hl : lv_has ls 5 [(0, .ref ba), (1, .int (nI i)), (2, .int (nI u)), (3, .ref xo)] := hl
  refine lv_aload_n hx hb dL_save_0 rfl (lv_at hl 3 rfl) ?_
  refine lv_iconst (v := (0:Int32)) hx hb dL_save_1 (by decide) ?_
  refine lv_aload_n hx hb dL_save_2 rfl (lv_at hl 0 rfl) ?_
  refine lv_iload_n hx hb dL_save_3 rfl (lv_at hl 1 rfl) ?_
  refine lv_iload_n hx hb dL_save_4 rfl (lv_at hl 2 rfl) ?_
  refine cv_i (As := [.int (nI i), .int (nI u)]) (rest := [.int (0:Int32), .ref xo]) (ws' := [(ba, .inr (3, [.ref bw])), (bw, .inl (G.2.1 4, 4, .inr (.inr (.inr (.inr wf))))), (wa, .inr (2, [.ref (G.2.2.1 i), .ref pa, .ref pr, .ref wo, .ref wl, .int tr, .long dr, .long wt, .int (nI r), .long gr, .long le])), (pr, .inl (G.2.1 3, 4, .inr (.inr (.inr (.inr pf))))), (pa, .inr (0, [.ref pk, .ref pn, .ref po, .int (nI n)])), (pk, .inl (G.2.1 0, 12, .inl ki)), (pn, .inl (G.2.1 1, 12, .inr (.inl kn))), (po, .inl (G.2.1 2, 12, .inl on)), (qa, .inr (0, [.ref qk, .ref qn, .ref qo, .int (nI n)])), (qk, .inl (G.2.1 0, 12, .inl (mx n ki ki2))), (qn, .inl (G.2.1 1, 12, .inr (.inl (mx n kn kn2)))), (qo, .inl (G.2.1 2, 12, .inl (mx n on on2))), (xo, .inl (G.2.1 1, 1, .inr (.inl ox)))]) ⟨hx, hb, hml, hown, hts⟩ (kX3_save l G ba bw wf wa i pa pr wo wl tr dr wt r gr le pk pn po n ki kn on pf qa qk qn qo n2 ki2 kn2 on2 u hi4 hwf hu hpf hn hz) (cwV 2 hts gL_save_X3_save rfl rfl rfl (by decide +kernel) ⟨Nat.le_of_ble_eq_true rfl, Nat.le_of_ble_eq_true rfl⟩) (va_recv hK hP (ci := 3) (q0 := 0) rfl rfl) hE hK hP hD hS hA hl.1 [0, 1, 2, 3, 4, 5, 6, 7, 8, 9, 10, 11] rfl rfl rfl rfl rfl rfl (Nat.le_of_ble_eq_true rfl) dL_save_5 ⟨Nat.zero_le _, Nat.zero_le _⟩ (fun H locs hP hD hS => ?_)
  refine r_i2l hx hb dL_save_8 ?_
  refine ar_lst hx hb hK hP hD hS 12 rfl 0 rfl (by decide) (by decide) dL_save_9 (fun H locs hP hD hS => ?_)
  have hP : va_P G.1 vwCl [(ba, .inr (3, [.ref bw])), (bw, .inl (G.2.1 4, 4, .inr (.inr (.inr (.inr wf))))), (wa, .inr (2, [.ref (G.2.2.1 i), .ref pa, .ref pr, .ref wo, .ref wl, .int tr, .long dr, .long wt, .int (nI r), .long gr, .long le])), (pr, .inl (G.2.1 3, 4, .inr (.inr (.inr (.inr pf))))), (pa, .inr (0, [.ref pk, .ref pn, .ref po, .int (nI n)])), (pk, .inl (G.2.1 0, 12, .inl ki)), (pn, .inl (G.2.1 1, 12, .inr (.inl kn))), (po, .inl (G.2.1 2, 12, .inl on)), (qa, .inr (0, [.ref qk, .ref qn, .ref qo, .int (nI n)])), (qk, .inl (G.2.1 0, 12, .inl (mx n ki ki2))), (qn, .inl (G.2.1 1, 12, .inr (.inl (mx n kn kn2)))), (qo, .inl (G.2.1 2, 12, .inl (mx n on on2))), (xo, .inl (G.2.1 1, 1, .inr (.inl (vp_updL ox 0 ((nI n).toInt64)))))] H := hP
  have hD : va_D A [(ba, .inr (3, [.ref bw])), (bw, .inl (G.2.1 4, 4, .inr (.inr (.inr (.inr wf))))), (wa, .inr (2, [.ref (G.2.2.1 i), .ref pa, .ref pr, .ref wo, .ref wl, .int tr, .long dr, .long wt, .int (nI r), .long gr, .long le])), (pr, .inl (G.2.1 3, 4, .inr (.inr (.inr (.inr pf))))), (pa, .inr (0, [.ref pk, .ref pn, .ref po, .int (nI n)])), (pk, .inl (G.2.1 0, 12, .inl ki)), (pn, .inl (G.2.1 1, 12, .inr (.inl kn))), (po, .inl (G.2.1 2, 12, .inl on)), (qa, .inr (0, [.ref qk, .ref qn, .ref qo, .int (nI n)])), (qk, .inl (G.2.1 0, 12, .inl (mx n ki ki2))), (qn, .inl (G.2.1 1, 12, .inr (.inl (mx n kn kn2)))), (qo, .inl (G.2.1 2, 12, .inl (mx n on on2))), (xo, .inl (G.2.1 1, 1, .inr (.inl (vp_updL ox 0 ((nI n).toInt64)))))] := hD
  refine lv_goto (tgt := 17) hx hb dL_save_10 (by decide) ?_
  refine lv_iconst (v := (0:Int32)) hx hb dL_save_17 (by decide) ?_
  exact rt_h hx hb hr hlocks hP hD hS dL_save_18 rfl (Nat.le_of_ble_eq_true rfl) (Nat.le_of_ble_eq_true rfl)
set_option maxHeartbeats 4000000 in
set_option maxRecDepth 100000 in
theorem kL_saveX0 (l : Launch) (hl9 : l.stackTraces = false) (G : GT) (ba : Nat) (bw : Nat) (wf : Nat → Option Nat) (wi : Int32) (a1 : Int32) (xo : Nat) (ox : Nat → Int64) (hwi : fX3_isWire wi = 0) : CI1 l yL_save wsL_save { frames := 8, cells := 1, slots := 6, locals := 127 } G [.ref ba, .int wi, .int a1, .ref xo] [(ba, .inr (3, [.ref bw])), (bw, .inl (G.2.1 4, 4, .inr (.inr (.inr (.inr wf))))), (xo, .inl (G.2.1 1, 1, .inr (.inl ox)))] (1:Int32) [(ba, .inr (3, [.ref bw])), (bw, .inl (G.2.1 4, 4, .inr (.inr (.inr (.inr wf))))), (xo, .inl (G.2.1 1, 1, .inr (.inl ox)))] := by
  refine en_h (cc := cL_save) (maxL := 5) (ret := (some .int)) (own := RL) (hh := [(0, 10, 13, 13)]) (by decide) rfl rfl (Nat.le_of_ble_eq_true rfl) ?_
  intro p e s m below meth c A ls htab hx hb hr hts hown hml hlocks hA hK hE hP hD hS hl
  have hl : lv_has ls 5 [(0, .ref ba), (1, .int wi), (2, .int a1), (3, .ref xo)] := hl
  refine lv_aload_n hx hb dL_save_0 rfl (lv_at hl 3 rfl) ?_
  refine lv_iconst (v := (0:Int32)) hx hb dL_save_1 (by decide) ?_
  refine lv_aload_n hx hb dL_save_2 rfl (lv_at hl 0 rfl) ?_
  refine lv_iload_n hx hb dL_save_3 rfl (lv_at hl 1 rfl) ?_
  refine lv_iload_n hx hb dL_save_4 rfl (lv_at hl 2 rfl) ?_
  refine cv_c (name := nIAE) (As := [.int wi, .int a1]) (rest := [.int (0:Int32), .ref xo]) ⟨hx, hb, hml, hown, hts⟩ (kX3_saveX0 l hl9 G ba bw wf wi a1 hwi) (cwV 2 hts gL_save_X3_save rfl rfl rfl (by decide +kernel) ⟨Nat.le_of_ble_eq_true rfl, Nat.le_of_ble_eq_true rfl⟩) (va_recv hK hP (ci := 3) (q0 := 0) rfl rfl) hE hK hP hD hS hA hl.1 [0, 1] rfl rfl rfl rfl rfl (Nat.le_of_ble_eq_true rfl) dL_save_5 (Nat.le_of_ble_eq_true rfl) (Nat.le_of_ble_eq_true rfl) [] ⟨0, 10, 13, 13⟩ [] (htab.trans rfl) (fun z hz => nomatch hz) (by decide) (by decide) (hts (.classLink RL 13 nIAE) (by decide +kernel)) hE.2.2.2.2.2.2.2.2.2.2.1.word (fun q9 H locs hP hD hS => ?_)
  refine lv_astore (lv' := [(4, .ref q9), (0, .ref ba), (1, .int wi), (2, .int a1), (3, .ref xo)]) hx hb dL_save_13 hl (by decide) rfl (fun ls hl => ?_)
  refine lv_iconst (v := (1:Int32)) hx hb dL_save_15 (by decide) ?_
  exact rt_h hx hb hr hlocks hP hD hS dL_save_16 rfl (Nat.le_of_ble_eq_true rfl) (Nat.le_of_ble_eq_true rfl)
set_option maxHeartbeats 4000000 in
set_option maxRecDepth 100000 in
theorem kL_saveX1 (l : Launch) (hl9 : l.stackTraces = false) (G : GT) (ba : Nat) (bw : Nat) (wf : Nat → Option Nat) (wa : Nat) (i : Nat) (pa : Nat) (pr : Nat) (wo : Nat) (wl : Nat) (tr : Int32) (dr : Int64) (wt : Int64) (r : Nat) (gr : Int64) (le : Int64) (ps : Int32) (xo : Nat) (ox : Nat → Int64) (hi4 : i < 4) (hwf : wf i = some wa) (hps : ps < 0) : CI1 l yL_save wsL_save { frames := 8, cells := 1, slots := 6, locals := 127 } G [.ref ba, .int (nI i), .int ps, .ref xo] [(ba, .inr (3, [.ref bw])), (bw, .inl (G.2.1 4, 4, .inr (.inr (.inr (.inr wf))))), (wa, .inr (2, [.ref (G.2.2.1 i), .ref pa, .ref pr, .ref wo, .ref wl, .int tr, .long dr, .long wt, .int (nI r), .long gr, .long le])), (xo, .inl (G.2.1 1, 1, .inr (.inl ox)))] (1:Int32) [(ba, .inr (3, [.ref bw])), (bw, .inl (G.2.1 4, 4, .inr (.inr (.inr (.inr wf))))), (wa, .inr (2, [.ref (G.2.2.1 i), .ref pa, .ref pr, .ref wo, .ref wl, .int tr, .long dr, .long wt, .int (nI r), .long gr, .long le])), (xo, .inl (G.2.1 1, 1, .inr (.inl ox)))] := by
  refine en_h (cc := cL_save) (maxL := 5) (ret := (some .int)) (own := RL) (hh := [(0, 10, 13, 13)]) (by decide) rfl rfl (Nat.le_of_ble_eq_true rfl) ?_
  intro p e s m below meth c A ls htab hx hb hr hts hown hml hlocks hA hK hE hP hD hS hl
  have hl : lv_has ls 5 [(0, .ref ba), (1, .int (nI i)), (2, .int ps), (3, .ref xo)] := hl
  refine lv_aload_n hx hb dL_save_0 rfl (lv_at hl 3 rfl) ?_
  refine lv_iconst (v := (0:Int32)) hx hb dL_save_1 (by decide) ?_
  refine lv_aload_n hx hb dL_save_2 rfl (lv_at hl 0 rfl) ?_
  refine lv_iload_n hx hb dL_save_3 rfl (lv_at hl 1 rfl) ?_
  refine lv_iload_n hx hb dL_save_4 rfl (lv_at hl 2 rfl) ?_
  refine cv_c (name := nIAE) (As := [.int (nI i), .int ps]) (rest := [.int (0:Int32), .ref xo]) ⟨hx, hb, hml, hown, hts⟩ (kX3_saveX1 l hl9 G ba bw wf wa i pa pr wo wl tr dr wt r gr le ps hi4 hwf hps) (cwV 2 hts gL_save_X3_save rfl rfl rfl (by decide +kernel) ⟨Nat.le_of_ble_eq_true rfl, Nat.le_of_ble_eq_true rfl⟩) (va_recv hK hP (ci := 3) (q0 := 0) rfl rfl) hE hK hP hD hS hA hl.1 [0, 1, 2] rfl rfl rfl rfl rfl (Nat.le_of_ble_eq_true rfl) dL_save_5 (Nat.le_of_ble_eq_true rfl) (Nat.le_of_ble_eq_true rfl) [] ⟨0, 10, 13, 13⟩ [] (htab.trans rfl) (fun z hz => nomatch hz) (by decide) (by decide) (hts (.classLink RL 13 nIAE) (by decide +kernel)) hE.2.2.2.2.2.2.2.2.2.2.1.word (fun q9 H locs hP hD hS => ?_)
  refine lv_astore (lv' := [(4, .ref q9), (0, .ref ba), (1, .int (nI i)), (2, .int ps), (3, .ref xo)]) hx hb dL_save_13 hl (by decide) rfl (fun ls hl => ?_)
  refine lv_iconst (v := (1:Int32)) hx hb dL_save_15 (by decide) ?_
  exact rt_h hx hb hr hlocks hP hD hS dL_save_16 rfl (Nat.le_of_ble_eq_true rfl) (Nat.le_of_ble_eq_true rfl)
set_option maxHeartbeats 4000000 in
set_option maxRecDepth 100000 in
theorem kL_saveX2 (l : Launch) (hl9 : l.stackTraces = false) (G : GT) (ba : Nat) (bw : Nat) (wf : Nat → Option Nat) (wa : Nat) (i : Nat) (pa : Nat) (pr : Nat) (wo : Nat) (wl : Nat) (tr : Int32) (dr : Int64) (wt : Int64) (r : Nat) (gr : Int64) (le : Int64) (ps : Int32) (xo : Nat) (ox : Nat → Int64) (hi4 : i < 4) (hwf : wf i = some wa) (hps : ¬ ps < 0) (hps2 : ¬ ps < (4:Int32)) : CI1 l yL_save wsL_save { frames := 8, cells := 1, slots := 6, locals := 127 } G [.ref ba, .int (nI i), .int ps, .ref xo] [(ba, .inr (3, [.ref bw])), (bw, .inl (G.2.1 4, 4, .inr (.inr (.inr (.inr wf))))), (wa, .inr (2, [.ref (G.2.2.1 i), .ref pa, .ref pr, .ref wo, .ref wl, .int tr, .long dr, .long wt, .int (nI r), .long gr, .long le])), (xo, .inl (G.2.1 1, 1, .inr (.inl ox)))] (1:Int32) [(ba, .inr (3, [.ref bw])), (bw, .inl (G.2.1 4, 4, .inr (.inr (.inr (.inr wf))))), (wa, .inr (2, [.ref (G.2.2.1 i), .ref pa, .ref pr, .ref wo, .ref wl, .int tr, .long dr, .long wt, .int (nI r), .long gr, .long le])), (xo, .inl (G.2.1 1, 1, .inr (.inl ox)))] := by
  refine en_h (cc := cL_save) (maxL := 5) (ret := (some .int)) (own := RL) (hh := [(0, 10, 13, 13)]) (by decide) rfl rfl (Nat.le_of_ble_eq_true rfl) ?_
  intro p e s m below meth c A ls htab hx hb hr hts hown hml hlocks hA hK hE hP hD hS hl
  have hl : lv_has ls 5 [(0, .ref ba), (1, .int (nI i)), (2, .int ps), (3, .ref xo)] := hl
  refine lv_aload_n hx hb dL_save_0 rfl (lv_at hl 3 rfl) ?_
  refine lv_iconst (v := (0:Int32)) hx hb dL_save_1 (by decide) ?_
  refine lv_aload_n hx hb dL_save_2 rfl (lv_at hl 0 rfl) ?_
  refine lv_iload_n hx hb dL_save_3 rfl (lv_at hl 1 rfl) ?_
  refine lv_iload_n hx hb dL_save_4 rfl (lv_at hl 2 rfl) ?_
  refine cv_c (name := nIAE) (As := [.int (nI i), .int ps]) (rest := [.int (0:Int32), .ref xo]) ⟨hx, hb, hml, hown, hts⟩ (kX3_saveX2 l hl9 G ba bw wf wa i pa pr wo wl tr dr wt r gr le ps hi4 hwf hps hps2) (cwV 2 hts gL_save_X3_save rfl rfl rfl (by decide +kernel) ⟨Nat.le_of_ble_eq_true rfl, Nat.le_of_ble_eq_true rfl⟩) (va_recv hK hP (ci := 3) (q0 := 0) rfl rfl) hE hK hP hD hS hA hl.1 [0, 1, 2] rfl rfl rfl rfl rfl (Nat.le_of_ble_eq_true rfl) dL_save_5 (Nat.le_of_ble_eq_true rfl) (Nat.le_of_ble_eq_true rfl) [] ⟨0, 10, 13, 13⟩ [] (htab.trans rfl) (fun z hz => nomatch hz) (by decide) (by decide) (hts (.classLink RL 13 nIAE) (by decide +kernel)) hE.2.2.2.2.2.2.2.2.2.2.1.word (fun q9 H locs hP hD hS => ?_)
  refine lv_astore (lv' := [(4, .ref q9), (0, .ref ba), (1, .int (nI i)), (2, .int ps), (3, .ref xo)]) hx hb dL_save_13 hl (by decide) rfl (fun ls hl => ?_)
  refine lv_iconst (v := (1:Int32)) hx hb dL_save_15 (by decide) ?_
  exact rt_h hx hb hr hlocks hP hD hS dL_save_16 rfl (Nat.le_of_ble_eq_true rfl) (Nat.le_of_ble_eq_true rfl)
set_option maxHeartbeats 4000000 in
set_option maxRecDepth 100000 in
theorem kL_recall (l : Launch) (hl9 : l.stackTraces = false) (G : GT) (ba : Nat) (bw : Nat) (wf : Nat → Option Nat) (wa : Nat) (i : Nat) (pa : Nat) (pr : Nat) (wo : Nat) (wl : Nat) (tr : Int32) (dr : Int64) (wt : Int64) (r : Nat) (gr : Int64) (le : Int64) (pk : Nat) (pn : Nat) (po : Nat) (n : Nat) (ki : Nat → Int32) (kn : Nat → Int64) (on : Nat → Int32) (pf : Nat → Option Nat) (qa : Nat) (qk : Nat) (qn : Nat) (qo : Nat) (n2 : Nat) (ki2 : Nat → Int32) (kn2 : Nat → Int64) (on2 : Nat → Int32) (u : Nat) (xo : Nat) (ox : Nat → Int64) (hi4 : i < 4) (hwf : wf i = some wa) (hu : u < 4) (hpf : pf u = some qa) (hn2 : n2 ≤ 12) (hz2 : ∀ k, on2 k = 0 ∨ on2 k = 1) : CI1 l yL_recall wsL_recall { frames := 3, cells := 1, slots := 6, locals := 65 } G [.ref ba, .int (nI i), .int (nI u), .ref xo] [(ba, .inr (3, [.ref bw])), (bw, .inl (G.2.1 4, 4, .inr (.inr (.inr (.inr wf))))), (wa, .inr (2, [.ref (G.2.2.1 i), .ref pa, .ref pr, .ref wo, .ref wl, .int tr, .long dr, .long wt, .int (nI r), .long gr, .long le])), (pr, .inl (G.2.1 3, 4, .inr (.inr (.inr (.inr pf))))), (pa, .inr (0, [.ref pk, .ref pn, .ref po, .int (nI n)])), (pk, .inl (G.2.1 0, 12, .inl ki)), (pn, .inl (G.2.1 1, 12, .inr (.inl kn))), (po, .inl (G.2.1 2, 12, .inl on)), (qa, .inr (0, [.ref qk, .ref qn, .ref qo, .int (nI n2)])), (qk, .inl (G.2.1 0, 12, .inl ki2)), (qn, .inl (G.2.1 1, 12, .inr (.inl kn2))), (qo, .inl (G.2.1 2, 12, .inl on2)), (xo, .inl (G.2.1 1, 1, .inr (.inl ox)))] (0:Int32) [(ba, .inr (3, [.ref bw])), (bw, .inl (G.2.1 4, 4, .inr (.inr (.inr (.inr wf))))), (wa, .inr (2, [.ref (G.2.2.1 i), .ref pa, .ref pr, .ref wo, .ref wl, .int (0:Int32), .long dr, .long wt, .int (nI r), .long gr, .long le])), (pr, .inl (G.2.1 3, 4, .inr (.inr (.inr (.inr pf))))), (pa, .inr (0, [.ref pk, .ref pn, .ref po, .int (nI n2)])), (pk, .inl (G.2.1 0, 12, .inl (mx n2 ki2 ki))), (pn, .inl (G.2.1 1, 12, .inr (.inl (mx n2 kn2 kn)))), (po, .inl (G.2.1 2, 12, .inl (mx n2 on2 on))), (qa, .inr (0, [.ref qk, .ref qn, .ref qo, .int (nI n2)])), (qk, .inl (G.2.1 0, 12, .inl ki2)), (qn, .inl (G.2.1 1, 12, .inr (.inl kn2))), (qo, .inl (G.2.1 2, 12, .inl on2)), (xo, .inl (G.2.1 1, 1, .inr (.inl (vp_updL ox 0 ((nI n2).toInt64)))))] := by
  refine en_h (cc := cL_recall) (maxL := 5) (ret := (some .int)) (own := RL) (hh := [(0, 10, 13, 13)]) (by decide) rfl rfl (Nat.le_of_ble_eq_true rfl) ?_
  intro p e s m below meth c A ls htab hx hb hr hts hown hml hlocks hA hK hE hP hD hS hl
  have hl : lv_has ls 5 [(0, .ref ba), (1, .int (nI i)), (2, .int (nI u)), (3, .ref xo)] := hl
  refine lv_aload_n hx hb dL_recall_0 rfl (lv_at hl 3 rfl) ?_
  refine lv_iconst (v := (0:Int32)) hx hb dL_recall_1 (by decide) ?_
  refine lv_aload_n hx hb dL_recall_2 rfl (lv_at hl 0 rfl) ?_
  refine lv_iload_n hx hb dL_recall_3 rfl (lv_at hl 1 rfl) ?_
  refine lv_iload_n hx hb dL_recall_4 rfl (lv_at hl 2 rfl) ?_
  refine cv_i (As := [.int (nI i), .int (nI u)]) (rest := [.int (0:Int32), .ref xo]) (ws' := [(ba, .inr (3, [.ref bw])), (bw, .inl (G.2.1 4, 4, .inr (.inr (.inr (.inr wf))))), (wa, .inr (2, [.ref (G.2.2.1 i), .ref pa, .ref pr, .ref wo, .ref wl, .int (0:Int32), .long dr, .long wt, .int (nI r), .long gr, .long le])), (pr, .inl (G.2.1 3, 4, .inr (.inr (.inr (.inr pf))))), (pa, .inr (0, [.ref pk, .ref pn, .ref po, .int (nI n2)])), (pk, .inl (G.2.1 0, 12, .inl (mx n2 ki2 ki))), (pn, .inl (G.2.1 1, 12, .inr (.inl (mx n2 kn2 kn)))), (po, .inl (G.2.1 2, 12, .inl (mx n2 on2 on))), (qa, .inr (0, [.ref qk, .ref qn, .ref qo, .int (nI n2)])), (qk, .inl (G.2.1 0, 12, .inl ki2)), (qn, .inl (G.2.1 1, 12, .inr (.inl kn2))), (qo, .inl (G.2.1 2, 12, .inl on2)), (xo, .inl (G.2.1 1, 1, .inr (.inl ox)))]) ⟨hx, hb, hml, hown, hts⟩ (kX3_recall l G ba bw wf wa i pa pr wo wl tr dr wt r gr le pk pn po n ki kn on pf qa qk qn qo n2 ki2 kn2 on2 u hi4 hwf hu hpf hn2 hz2) (cwV 2 hts gL_recall_X3_recall rfl rfl rfl (by decide +kernel) ⟨Nat.le_of_ble_eq_true rfl, Nat.le_of_ble_eq_true rfl⟩) (va_recv hK hP (ci := 3) (q0 := 0) rfl rfl) hE hK hP hD hS hA hl.1 [0, 1, 2, 3, 4, 5, 6, 7, 8, 9, 10, 11] rfl rfl rfl rfl rfl rfl (Nat.le_of_ble_eq_true rfl) dL_recall_5 ⟨Nat.zero_le _, Nat.zero_le _⟩ (fun H locs hP hD hS => ?_)
  refine r_i2l hx hb dL_recall_8 ?_
  refine ar_lst hx hb hK hP hD hS 12 rfl 0 rfl (by decide) (by decide) dL_recall_9 (fun H locs hP hD hS => ?_)
  have hP : va_P G.1 vwCl [(ba, .inr (3, [.ref bw])), (bw, .inl (G.2.1 4, 4, .inr (.inr (.inr (.inr wf))))), (wa, .inr (2, [.ref (G.2.2.1 i), .ref pa, .ref pr, .ref wo, .ref wl, .int (0:Int32), .long dr, .long wt, .int (nI r), .long gr, .long le])), (pr, .inl (G.2.1 3, 4, .inr (.inr (.inr (.inr pf))))), (pa, .inr (0, [.ref pk, .ref pn, .ref po, .int (nI n2)])), (pk, .inl (G.2.1 0, 12, .inl (mx n2 ki2 ki))), (pn, .inl (G.2.1 1, 12, .inr (.inl (mx n2 kn2 kn)))), (po, .inl (G.2.1 2, 12, .inl (mx n2 on2 on))), (qa, .inr (0, [.ref qk, .ref qn, .ref qo, .int (nI n2)])), (qk, .inl (G.2.1 0, 12, .inl ki2)), (qn, .inl (G.2.1 1, 12, .inr (.inl kn2))), (qo, .inl (G.2.1 2, 12, .inl on2)), (xo, .inl (G.2.1 1, 1, .inr (.inl (vp_updL ox 0 ((nI n2).toInt64)))))] H := hP
  have hD : va_D A [(ba, .inr (3, [.ref bw])), (bw, .inl (G.2.1 4, 4, .inr (.inr (.inr (.inr wf))))), (wa, .inr (2, [.ref (G.2.2.1 i), .ref pa, .ref pr, .ref wo, .ref wl, .int (0:Int32), .long dr, .long wt, .int (nI r), .long gr, .long le])), (pr, .inl (G.2.1 3, 4, .inr (.inr (.inr (.inr pf))))), (pa, .inr (0, [.ref pk, .ref pn, .ref po, .int (nI n2)])), (pk, .inl (G.2.1 0, 12, .inl (mx n2 ki2 ki))), (pn, .inl (G.2.1 1, 12, .inr (.inl (mx n2 kn2 kn)))), (po, .inl (G.2.1 2, 12, .inl (mx n2 on2 on))), (qa, .inr (0, [.ref qk, .ref qn, .ref qo, .int (nI n2)])), (qk, .inl (G.2.1 0, 12, .inl ki2)), (qn, .inl (G.2.1 1, 12, .inr (.inl kn2))), (qo, .inl (G.2.1 2, 12, .inl on2)), (xo, .inl (G.2.1 1, 1, .inr (.inl (vp_updL ox 0 ((nI n2).toInt64)))))] := hD
  refine lv_goto (tgt := 17) hx hb dL_recall_10 (by decide) ?_
  refine lv_iconst (v := (0:Int32)) hx hb dL_recall_17 (by decide) ?_
  exact rt_h hx hb hr hlocks hP hD hS dL_recall_18 rfl (Nat.le_of_ble_eq_true rfl) (Nat.le_of_ble_eq_true rfl)
set_option maxHeartbeats 4000000 in
set_option maxRecDepth 100000 in
theorem kL_recallX0 (l : Launch) (hl9 : l.stackTraces = false) (G : GT) (ba : Nat) (bw : Nat) (wf : Nat → Option Nat) (wi : Int32) (a1 : Int32) (xo : Nat) (ox : Nat → Int64) (hwi : fX3_isWire wi = 0) : CI1 l yL_recall wsL_recall { frames := 8, cells := 1, slots := 6, locals := 127 } G [.ref ba, .int wi, .int a1, .ref xo] [(ba, .inr (3, [.ref bw])), (bw, .inl (G.2.1 4, 4, .inr (.inr (.inr (.inr wf))))), (xo, .inl (G.2.1 1, 1, .inr (.inl ox)))] (1:Int32) [(ba, .inr (3, [.ref bw])), (bw, .inl (G.2.1 4, 4, .inr (.inr (.inr (.inr wf))))), (xo, .inl (G.2.1 1, 1, .inr (.inl ox)))] := by
  refine en_h (cc := cL_recall) (maxL := 5) (ret := (some .int)) (own := RL) (hh := [(0, 10, 13, 13)]) (by decide) rfl rfl (Nat.le_of_ble_eq_true rfl) ?_
  intro p e s m below meth c A ls htab hx hb hr hts hown hml hlocks hA hK hE hP hD hS hl
  have hl : lv_has ls 5 [(0, .ref ba), (1, .int wi), (2, .int a1), (3, .ref xo)] := hl
  refine lv_aload_n hx hb dL_recall_0 rfl (lv_at hl 3 rfl) ?_
  refine lv_iconst (v := (0:Int32)) hx hb dL_recall_1 (by decide) ?_
  refine lv_aload_n hx hb dL_recall_2 rfl (lv_at hl 0 rfl) ?_
  refine lv_iload_n hx hb dL_recall_3 rfl (lv_at hl 1 rfl) ?_
  refine lv_iload_n hx hb dL_recall_4 rfl (lv_at hl 2 rfl) ?_
  refine cv_c (name := nIAE) (As := [.int wi, .int a1]) (rest := [.int (0:Int32), .ref xo]) ⟨hx, hb, hml, hown, hts⟩ (kX3_recallX0 l hl9 G ba bw wf wi a1 hwi) (cwV 2 hts gL_recall_X3_recall rfl rfl rfl (by decide +kernel) ⟨Nat.le_of_ble_eq_true rfl, Nat.le_of_ble_eq_true rfl⟩) (va_recv hK hP (ci := 3) (q0 := 0) rfl rfl) hE hK hP hD hS hA hl.1 [0, 1] rfl rfl rfl rfl rfl (Nat.le_of_ble_eq_true rfl) dL_recall_5 (Nat.le_of_ble_eq_true rfl) (Nat.le_of_ble_eq_true rfl) [] ⟨0, 10, 13, 13⟩ [] (htab.trans rfl) (fun z hz => nomatch hz) (by decide) (by decide) (hts (.classLink RL 13 nIAE) (by decide +kernel)) hE.2.2.2.2.2.2.2.2.2.2.1.word (fun q9 H locs hP hD hS => ?_)
  refine lv_astore (lv' := [(4, .ref q9), (0, .ref ba), (1, .int wi), (2, .int a1), (3, .ref xo)]) hx hb dL_recall_13 hl (by decide) rfl (fun ls hl => ?_)
  refine lv_iconst (v := (1:Int32)) hx hb dL_recall_15 (by decide) ?_
  exact rt_h hx hb hr hlocks hP hD hS dL_recall_16 rfl (Nat.le_of_ble_eq_true rfl) (Nat.le_of_ble_eq_true rfl)
set_option maxHeartbeats 4000000 in
set_option maxRecDepth 100000 in
theorem kL_recallX1 (l : Launch) (hl9 : l.stackTraces = false) (G : GT) (ba : Nat) (bw : Nat) (wf : Nat → Option Nat) (wa : Nat) (i : Nat) (pa : Nat) (pr : Nat) (wo : Nat) (wl : Nat) (tr : Int32) (dr : Int64) (wt : Int64) (r : Nat) (gr : Int64) (le : Int64) (ps : Int32) (xo : Nat) (ox : Nat → Int64) (hi4 : i < 4) (hwf : wf i = some wa) (hps : ps < 0) : CI1 l yL_recall wsL_recall { frames := 8, cells := 1, slots := 6, locals := 127 } G [.ref ba, .int (nI i), .int ps, .ref xo] [(ba, .inr (3, [.ref bw])), (bw, .inl (G.2.1 4, 4, .inr (.inr (.inr (.inr wf))))), (wa, .inr (2, [.ref (G.2.2.1 i), .ref pa, .ref pr, .ref wo, .ref wl, .int tr, .long dr, .long wt, .int (nI r), .long gr, .long le])), (xo, .inl (G.2.1 1, 1, .inr (.inl ox)))] (1:Int32) [(ba, .inr (3, [.ref bw])), (bw, .inl (G.2.1 4, 4, .inr (.inr (.inr (.inr wf))))), (wa, .inr (2, [.ref (G.2.2.1 i), .ref pa, .ref pr, .ref wo, .ref wl, .int tr, .long dr, .long wt, .int (nI r), .long gr, .long le])), (xo, .inl (G.2.1 1, 1, .inr (.inl ox)))] := by
  refine en_h (cc := cL_recall) (maxL := 5) (ret := (some .int)) (own := RL) (hh := [(0, 10, 13, 13)]) (by decide) rfl rfl (Nat.le_of_ble_eq_true rfl) ?_
  intro p e s m below meth c A ls htab hx hb hr hts hown hml hlocks hA hK hE hP hD hS hl
  have hl : lv_has ls 5 [(0, .ref ba), (1, .int (nI i)), (2, .int ps), (3, .ref xo)] := hl
  refine lv_aload_n hx hb dL_recall_0 rfl (lv_at hl 3 rfl) ?_
  refine lv_iconst (v := (0:Int32)) hx hb dL_recall_1 (by decide) ?_
  refine lv_aload_n hx hb dL_recall_2 rfl (lv_at hl 0 rfl) ?_
  refine lv_iload_n hx hb dL_recall_3 rfl (lv_at hl 1 rfl) ?_
  refine lv_iload_n hx hb dL_recall_4 rfl (lv_at hl 2 rfl) ?_
  refine cv_c (name := nIAE) (As := [.int (nI i), .int ps]) (rest := [.int (0:Int32), .ref xo]) ⟨hx, hb, hml, hown, hts⟩ (kX3_recallX1 l hl9 G ba bw wf wa i pa pr wo wl tr dr wt r gr le ps hi4 hwf hps) (cwV 2 hts gL_recall_X3_recall rfl rfl rfl (by decide +kernel) ⟨Nat.le_of_ble_eq_true rfl, Nat.le_of_ble_eq_true rfl⟩) (va_recv hK hP (ci := 3) (q0 := 0) rfl rfl) hE hK hP hD hS hA hl.1 [0, 1, 2] rfl rfl rfl rfl rfl (Nat.le_of_ble_eq_true rfl) dL_recall_5 (Nat.le_of_ble_eq_true rfl) (Nat.le_of_ble_eq_true rfl) [] ⟨0, 10, 13, 13⟩ [] (htab.trans rfl) (fun z hz => nomatch hz) (by decide) (by decide) (hts (.classLink RL 13 nIAE) (by decide +kernel)) hE.2.2.2.2.2.2.2.2.2.2.1.word (fun q9 H locs hP hD hS => ?_)
  refine lv_astore (lv' := [(4, .ref q9), (0, .ref ba), (1, .int (nI i)), (2, .int ps), (3, .ref xo)]) hx hb dL_recall_13 hl (by decide) rfl (fun ls hl => ?_)
  refine lv_iconst (v := (1:Int32)) hx hb dL_recall_15 (by decide) ?_
  exact rt_h hx hb hr hlocks hP hD hS dL_recall_16 rfl (Nat.le_of_ble_eq_true rfl) (Nat.le_of_ble_eq_true rfl)
set_option maxHeartbeats 4000000 in
set_option maxRecDepth 100000 in
theorem kL_recallX2 (l : Launch) (hl9 : l.stackTraces = false) (G : GT) (ba : Nat) (bw : Nat) (wf : Nat → Option Nat) (wa : Nat) (i : Nat) (pa : Nat) (pr : Nat) (wo : Nat) (wl : Nat) (tr : Int32) (dr : Int64) (wt : Int64) (r : Nat) (gr : Int64) (le : Int64) (ps : Int32) (xo : Nat) (ox : Nat → Int64) (hi4 : i < 4) (hwf : wf i = some wa) (hps : ¬ ps < 0) (hps2 : ¬ ps < (4:Int32)) : CI1 l yL_recall wsL_recall { frames := 8, cells := 1, slots := 6, locals := 127 } G [.ref ba, .int (nI i), .int ps, .ref xo] [(ba, .inr (3, [.ref bw])), (bw, .inl (G.2.1 4, 4, .inr (.inr (.inr (.inr wf))))), (wa, .inr (2, [.ref (G.2.2.1 i), .ref pa, .ref pr, .ref wo, .ref wl, .int tr, .long dr, .long wt, .int (nI r), .long gr, .long le])), (xo, .inl (G.2.1 1, 1, .inr (.inl ox)))] (1:Int32) [(ba, .inr (3, [.ref bw])), (bw, .inl (G.2.1 4, 4, .inr (.inr (.inr (.inr wf))))), (wa, .inr (2, [.ref (G.2.2.1 i), .ref pa, .ref pr, .ref wo, .ref wl, .int tr, .long dr, .long wt, .int (nI r), .long gr, .long le])), (xo, .inl (G.2.1 1, 1, .inr (.inl ox)))] := by
  refine en_h (cc := cL_recall) (maxL := 5) (ret := (some .int)) (own := RL) (hh := [(0, 10, 13, 13)]) (by decide) rfl rfl (Nat.le_of_ble_eq_true rfl) ?_
  intro p e s m below meth c A ls htab hx hb hr hts hown hml hlocks hA hK hE hP hD hS hl
  have hl : lv_has ls 5 [(0, .ref ba), (1, .int (nI i)), (2, .int ps), (3, .ref xo)] := hl
  refine lv_aload_n hx hb dL_recall_0 rfl (lv_at hl 3 rfl) ?_
  refine lv_iconst (v := (0:Int32)) hx hb dL_recall_1 (by decide) ?_
  refine lv_aload_n hx hb dL_recall_2 rfl (lv_at hl 0 rfl) ?_
  refine lv_iload_n hx hb dL_recall_3 rfl (lv_at hl 1 rfl) ?_
  refine lv_iload_n hx hb dL_recall_4 rfl (lv_at hl 2 rfl) ?_
  refine cv_c (name := nIAE) (As := [.int (nI i), .int ps]) (rest := [.int (0:Int32), .ref xo]) ⟨hx, hb, hml, hown, hts⟩ (kX3_recallX2 l hl9 G ba bw wf wa i pa pr wo wl tr dr wt r gr le ps hi4 hwf hps hps2) (cwV 2 hts gL_recall_X3_recall rfl rfl rfl (by decide +kernel) ⟨Nat.le_of_ble_eq_true rfl, Nat.le_of_ble_eq_true rfl⟩) (va_recv hK hP (ci := 3) (q0 := 0) rfl rfl) hE hK hP hD hS hA hl.1 [0, 1, 2] rfl rfl rfl rfl rfl (Nat.le_of_ble_eq_true rfl) dL_recall_5 (Nat.le_of_ble_eq_true rfl) (Nat.le_of_ble_eq_true rfl) [] ⟨0, 10, 13, 13⟩ [] (htab.trans rfl) (fun z hz => nomatch hz) (by decide) (by decide) (hts (.classLink RL 13 nIAE) (by decide +kernel)) hE.2.2.2.2.2.2.2.2.2.2.1.word (fun q9 H locs hP hD hS => ?_)
  refine lv_astore (lv' := [(4, .ref q9), (0, .ref ba), (1, .int (nI i)), (2, .int ps), (3, .ref xo)]) hx hb dL_recall_13 hl (by decide) rfl (fun ls hl => ?_)
  refine lv_iconst (v := (1:Int32)) hx hb dL_recall_15 (by decide) ?_
  exact rt_h hx hb hr hlocks hP hD hS dL_recall_16 rfl (Nat.le_of_ble_eq_true rfl) (Nat.le_of_ble_eq_true rfl)
set_option maxHeartbeats 4000000 in
set_option maxRecDepth 100000 in
theorem kL_patch (l : Launch) (hl9 : l.stackTraces = false) (G : GT) (ba : Nat) (bw : Nat) (wf : Nat → Option Nat) (wa : Nat) (i : Nat) (pa : Nat) (pr : Nat) (wo : Nat) (wl : Nat) (tr : Int32) (dr : Int64) (wt : Int64) (r : Nat) (gr : Int64) (le : Int64) (wa2 : Nat) (j : Nat) (pa2 : Nat) (pr2 : Nat) (wo2 : Nat) (wl2 : Nat) (tr2 : Int32) (dr2 : Int64) (wt2 : Int64) (r2 : Nat) (gr2 : Int64) (le2 : Int64) (xo : Nat) (ox : Nat → Int64) (hi4 : i < 4) (hwf : wf i = some wa) (hj4 : j < 4) (hwf2 : wf j = some wa2) : CI1 l yL_patch wsL_patch { frames := 5, cells := 1, slots := 6, locals := 135 } G [.ref ba, .int (nI i), .int (nI j), .ref xo] [(ba, .inr (3, [.ref bw])), (bw, .inl (G.2.1 4, 4, .inr (.inr (.inr (.inr wf))))), (wa, .inr (2, [.ref (G.2.2.1 i), .ref pa, .ref pr, .ref wo, .ref wl, .int tr, .long dr, .long wt, .int (nI r), .long gr, .long le])), (wa2, .inr (2, [.ref (G.2.2.1 j), .ref pa2, .ref pr2, .ref wo2, .ref wl2, .int tr2, .long dr2, .long wt2, .int (nI r2), .long gr2, .long le2])), (xo, .inl (G.2.1 1, 1, .inr (.inl ox)))] (0:Int32) [(ba, .inr (3, [.ref bw])), (bw, .inl (G.2.1 4, 4, .inr (.inr (.inr (.inr wf))))), (wa, .inr (2, [.ref (G.2.2.1 i), .ref pa, .ref pr, .ref wo, .ref wl, .int tr, .long dr, .long wt, .int (nI r), .long gr, .long le])), (wa2, .inr (2, [.ref (G.2.2.1 j), .ref pa2, .ref pr2, .ref wo2, .ref wl2, .int (0:Int32), .long (fX1_castTo i j wt), .long (fX1_castTo i j wt), .int (0:Int32), .long gr2, .long le2])), (xo, .inl (G.2.1 1, 1, .inr (.inl (vp_updL ox 0 (fX1_castTo i j wt)))))] := by
  refine en_h (cc := cL_patch) (maxL := 5) (ret := (some .int)) (own := RL) (hh := [(0, 9, 12, 13)]) (by decide) rfl rfl (Nat.le_of_ble_eq_true rfl) ?_
  intro p e s m below meth c A ls htab hx hb hr hts hown hml hlocks hA hK hE hP hD hS hl
  have hl : lv_has ls 5 [(0, .ref ba), (1, .int (nI i)), (2, .int (nI j)), (3, .ref xo)] := hl
  refine lv_aload_n hx hb dL_patch_0 rfl (lv_at hl 3 rfl) ?_
  refine lv_iconst (v := (0:Int32)) hx hb dL_patch_1 (by decide) ?_
  refine lv_aload_n hx hb dL_patch_2 rfl (lv_at hl 0 rfl) ?_
  refine lv_iload_n hx hb dL_patch_3 rfl (lv_at hl 1 rfl) ?_
  refine lv_iload_n hx hb dL_patch_4 rfl (lv_at hl 2 rfl) ?_
  refine cv_l (As := [.int (nI i), .int (nI j)]) (rest := [.int (0:Int32), .ref xo]) (ws' := [(ba, .inr (3, [.ref bw])), (bw, .inl (G.2.1 4, 4, .inr (.inr (.inr (.inr wf))))), (wa, .inr (2, [.ref (G.2.2.1 i), .ref pa, .ref pr, .ref wo, .ref wl, .int tr, .long dr, .long wt, .int (nI r), .long gr, .long le])), (wa2, .inr (2, [.ref (G.2.2.1 j), .ref pa2, .ref pr2, .ref wo2, .ref wl2, .int (0:Int32), .long (fX1_castTo i j wt), .long (fX1_castTo i j wt), .int (0:Int32), .long gr2, .long le2])), (xo, .inl (G.2.1 1, 1, .inr (.inl ox)))]) ⟨hx, hb, hml, hown, hts⟩ (kX3_patch l G ba bw wf wa i pa pr wo wl tr dr wt r gr le wa2 j pa2 pr2 wo2 wl2 tr2 dr2 wt2 r2 gr2 le2 hi4 hwf hj4 hwf2) (cwV 2 hts gL_patch_X3_patch rfl rfl rfl (by decide +kernel) ⟨Nat.le_of_ble_eq_true rfl, Nat.le_of_ble_eq_true rfl⟩) (va_recv hK hP (ci := 3) (q0 := 0) rfl rfl) hE hK hP hD hS hA hl.1 [0, 1, 2, 3] rfl rfl rfl rfl rfl rfl (Nat.le_of_ble_eq_true rfl) dL_patch_5 ⟨Nat.zero_le _, Nat.zero_le _⟩ (fun H locs hP hD hS => ?_)
  refine ar_lst hx hb hK hP hD hS 4 rfl 0 rfl (by decide) (by decide) dL_patch_8 (fun H locs hP hD hS => ?_)
  have hP : va_P G.1 vwCl [(ba, .inr (3, [.ref bw])), (bw, .inl (G.2.1 4, 4, .inr (.inr (.inr (.inr wf))))), (wa, .inr (2, [.ref (G.2.2.1 i), .ref pa, .ref pr, .ref wo, .ref wl, .int tr, .long dr, .long wt, .int (nI r), .long gr, .long le])), (wa2, .inr (2, [.ref (G.2.2.1 j), .ref pa2, .ref pr2, .ref wo2, .ref wl2, .int (0:Int32), .long (fX1_castTo i j wt), .long (fX1_castTo i j wt), .int (0:Int32), .long gr2, .long le2])), (xo, .inl (G.2.1 1, 1, .inr (.inl (vp_updL ox 0 (fX1_castTo i j wt)))))] H := hP
  have hD : va_D A [(ba, .inr (3, [.ref bw])), (bw, .inl (G.2.1 4, 4, .inr (.inr (.inr (.inr wf))))), (wa, .inr (2, [.ref (G.2.2.1 i), .ref pa, .ref pr, .ref wo, .ref wl, .int tr, .long dr, .long wt, .int (nI r), .long gr, .long le])), (wa2, .inr (2, [.ref (G.2.2.1 j), .ref pa2, .ref pr2, .ref wo2, .ref wl2, .int (0:Int32), .long (fX1_castTo i j wt), .long (fX1_castTo i j wt), .int (0:Int32), .long gr2, .long le2])), (xo, .inl (G.2.1 1, 1, .inr (.inl (vp_updL ox 0 (fX1_castTo i j wt)))))] := hD
  refine lv_goto (tgt := 16) hx hb dL_patch_9 (by decide) ?_
  refine lv_iconst (v := (0:Int32)) hx hb dL_patch_16 (by decide) ?_
  exact rt_h hx hb hr hlocks hP hD hS dL_patch_17 rfl (Nat.le_of_ble_eq_true rfl) (Nat.le_of_ble_eq_true rfl)
set_option maxHeartbeats 4000000 in
set_option maxRecDepth 100000 in
theorem kL_patchE (l : Launch) (hl9 : l.stackTraces = false) (G : GT) (ba : Nat) (bw : Nat) (wf : Nat → Option Nat) (wa : Nat) (i : Nat) (pa : Nat) (pr : Nat) (wo : Nat) (wl : Nat) (tr : Int32) (dr : Int64) (wt : Int64) (r : Nat) (gr : Int64) (le : Int64) (xo : Nat) (ox : Nat → Int64) (hi4 : i < 4) (hwf : wf i = some wa) : CI1 l yL_patch wsL_patch { frames := 5, cells := 1, slots := 6, locals := 135 } G [.ref ba, .int (nI i), .int (nI i), .ref xo] [(ba, .inr (3, [.ref bw])), (bw, .inl (G.2.1 4, 4, .inr (.inr (.inr (.inr wf))))), (wa, .inr (2, [.ref (G.2.2.1 i), .ref pa, .ref pr, .ref wo, .ref wl, .int tr, .long dr, .long wt, .int (nI r), .long gr, .long le])), (xo, .inl (G.2.1 1, 1, .inr (.inl ox)))] (0:Int32) [(ba, .inr (3, [.ref bw])), (bw, .inl (G.2.1 4, 4, .inr (.inr (.inr (.inr wf))))), (wa, .inr (2, [.ref (G.2.2.1 i), .ref pa, .ref pr, .ref wo, .ref wl, .int (0:Int32), .long (fX1_castTo i i wt), .long (fX1_castTo i i wt), .int (0:Int32), .long gr, .long le])), (xo, .inl (G.2.1 1, 1, .inr (.inl (vp_updL ox 0 (fX1_castTo i i wt)))))] := by
  refine en_h (cc := cL_patch) (maxL := 5) (ret := (some .int)) (own := RL) (hh := [(0, 9, 12, 13)]) (by decide) rfl rfl (Nat.le_of_ble_eq_true rfl) ?_
  intro p e s m below meth c A ls htab hx hb hr hts hown hml hlocks hA hK hE hP hD hS hl
  have hl : lv_has ls 5 [(0, .ref ba), (1, .int (nI i)), (2, .int (nI i)), (3, .ref xo)] := hl
  refine lv_aload_n hx hb dL_patch_0 rfl (lv_at hl 3 rfl) ?_
  refine lv_iconst (v := (0:Int32)) hx hb dL_patch_1 (by decide) ?_
  refine lv_aload_n hx hb dL_patch_2 rfl (lv_at hl 0 rfl) ?_
  refine lv_iload_n hx hb dL_patch_3 rfl (lv_at hl 1 rfl) ?_
  refine lv_iload_n hx hb dL_patch_4 rfl (lv_at hl 2 rfl) ?_
  refine cv_l (As := [.int (nI i), .int (nI i)]) (rest := [.int (0:Int32), .ref xo]) (ws' := [(ba, .inr (3, [.ref bw])), (bw, .inl (G.2.1 4, 4, .inr (.inr (.inr (.inr wf))))), (wa, .inr (2, [.ref (G.2.2.1 i), .ref pa, .ref pr, .ref wo, .ref wl, .int (0:Int32), .long (fX1_castTo i i wt), .long (fX1_castTo i i wt), .int (0:Int32), .long gr, .long le])), (xo, .inl (G.2.1 1, 1, .inr (.inl ox)))]) ⟨hx, hb, hml, hown, hts⟩ (kX3_patchE l G ba bw wf wa i pa pr wo wl tr dr wt r gr le hi4 hwf) (cwV 2 hts gL_patch_X3_patch rfl rfl rfl (by decide +kernel) ⟨Nat.le_of_ble_eq_true rfl, Nat.le_of_ble_eq_true rfl⟩) (va_recv hK hP (ci := 3) (q0 := 0) rfl rfl) hE hK hP hD hS hA hl.1 [0, 1, 2] rfl rfl rfl rfl rfl rfl (Nat.le_of_ble_eq_true rfl) dL_patch_5 ⟨Nat.zero_le _, Nat.zero_le _⟩ (fun H locs hP hD hS => ?_)
  refine ar_lst hx hb hK hP hD hS 3 rfl 0 rfl (by decide) (by decide) dL_patch_8 (fun H locs hP hD hS => ?_)
  have hP : va_P G.1 vwCl [(ba, .inr (3, [.ref bw])), (bw, .inl (G.2.1 4, 4, .inr (.inr (.inr (.inr wf))))), (wa, .inr (2, [.ref (G.2.2.1 i), .ref pa, .ref pr, .ref wo, .ref wl, .int (0:Int32), .long (fX1_castTo i i wt), .long (fX1_castTo i i wt), .int (0:Int32), .long gr, .long le])), (xo, .inl (G.2.1 1, 1, .inr (.inl (vp_updL ox 0 (fX1_castTo i i wt)))))] H := hP
  have hD : va_D A [(ba, .inr (3, [.ref bw])), (bw, .inl (G.2.1 4, 4, .inr (.inr (.inr (.inr wf))))), (wa, .inr (2, [.ref (G.2.2.1 i), .ref pa, .ref pr, .ref wo, .ref wl, .int (0:Int32), .long (fX1_castTo i i wt), .long (fX1_castTo i i wt), .int (0:Int32), .long gr, .long le])), (xo, .inl (G.2.1 1, 1, .inr (.inl (vp_updL ox 0 (fX1_castTo i i wt)))))] := hD
  refine lv_goto (tgt := 16) hx hb dL_patch_9 (by decide) ?_
  refine lv_iconst (v := (0:Int32)) hx hb dL_patch_16 (by decide) ?_
  exact rt_h hx hb hr hlocks hP hD hS dL_patch_17 rfl (Nat.le_of_ble_eq_true rfl) (Nat.le_of_ble_eq_true rfl)
set_option maxHeartbeats 4000000 in
set_option maxRecDepth 100000 in
theorem kL_patchX0 (l : Launch) (hl9 : l.stackTraces = false) (G : GT) (ba : Nat) (bw : Nat) (wf : Nat → Option Nat) (wi : Int32) (a1 : Int32) (xo : Nat) (ox : Nat → Int64) (hwi : fX3_isWire wi = 0) : CI1 l yL_patch wsL_patch { frames := 8, cells := 1, slots := 6, locals := 129 } G [.ref ba, .int wi, .int a1, .ref xo] [(ba, .inr (3, [.ref bw])), (bw, .inl (G.2.1 4, 4, .inr (.inr (.inr (.inr wf))))), (xo, .inl (G.2.1 1, 1, .inr (.inl ox)))] (1:Int32) [(ba, .inr (3, [.ref bw])), (bw, .inl (G.2.1 4, 4, .inr (.inr (.inr (.inr wf))))), (xo, .inl (G.2.1 1, 1, .inr (.inl ox)))] := by
  refine en_h (cc := cL_patch) (maxL := 5) (ret := (some .int)) (own := RL) (hh := [(0, 9, 12, 13)]) (by decide) rfl rfl (Nat.le_of_ble_eq_true rfl) ?_
  intro p e s m below meth c A ls htab hx hb hr hts hown hml hlocks hA hK hE hP hD hS hl
  have hl : lv_has ls 5 [(0, .ref ba), (1, .int wi), (2, .int a1), (3, .ref xo)] := hl
  refine lv_aload_n hx hb dL_patch_0 rfl (lv_at hl 3 rfl) ?_
  refine lv_iconst (v := (0:Int32)) hx hb dL_patch_1 (by decide) ?_
  refine lv_aload_n hx hb dL_patch_2 rfl (lv_at hl 0 rfl) ?_
  refine lv_iload_n hx hb dL_patch_3 rfl (lv_at hl 1 rfl) ?_
  refine lv_iload_n hx hb dL_patch_4 rfl (lv_at hl 2 rfl) ?_
  refine cv_c (name := nIAE) (As := [.int wi, .int a1]) (rest := [.int (0:Int32), .ref xo]) ⟨hx, hb, hml, hown, hts⟩ (kX3_patchX0 l hl9 G ba bw wf wi a1 hwi) (cwV 2 hts gL_patch_X3_patch rfl rfl rfl (by decide +kernel) ⟨Nat.le_of_ble_eq_true rfl, Nat.le_of_ble_eq_true rfl⟩) (va_recv hK hP (ci := 3) (q0 := 0) rfl rfl) hE hK hP hD hS hA hl.1 [0, 1] rfl rfl rfl rfl rfl (Nat.le_of_ble_eq_true rfl) dL_patch_5 (Nat.le_of_ble_eq_true rfl) (Nat.le_of_ble_eq_true rfl) [] ⟨0, 9, 12, 13⟩ [] (htab.trans rfl) (fun z hz => nomatch hz) (by decide) (by decide) (hts (.classLink RL 13 nIAE) (by decide +kernel)) hE.2.2.2.2.2.2.2.2.2.2.1.word (fun q9 H locs hP hD hS => ?_)
  refine lv_astore (lv' := [(4, .ref q9), (0, .ref ba), (1, .int wi), (2, .int a1), (3, .ref xo)]) hx hb dL_patch_12 hl (by decide) rfl (fun ls hl => ?_)
  refine lv_iconst (v := (1:Int32)) hx hb dL_patch_14 (by decide) ?_
  exact rt_h hx hb hr hlocks hP hD hS dL_patch_15 rfl (Nat.le_of_ble_eq_true rfl) (Nat.le_of_ble_eq_true rfl)
set_option maxHeartbeats 4000000 in
set_option maxRecDepth 100000 in
theorem kL_patchX1 (l : Launch) (hl9 : l.stackTraces = false) (G : GT) (ba : Nat) (bw : Nat) (wf : Nat → Option Nat) (i : Nat) (wa : Nat) (wi : Int32) (xo : Nat) (ox : Nat → Int64) (hi4 : i < 4) (hwf : wf i = some wa) (hwi : fX3_isWire wi = 0) : CI1 l yL_patch wsL_patch { frames := 8, cells := 1, slots := 6, locals := 129 } G [.ref ba, .int (nI i), .int wi, .ref xo] [(ba, .inr (3, [.ref bw])), (bw, .inl (G.2.1 4, 4, .inr (.inr (.inr (.inr wf))))), (xo, .inl (G.2.1 1, 1, .inr (.inl ox)))] (1:Int32) [(ba, .inr (3, [.ref bw])), (bw, .inl (G.2.1 4, 4, .inr (.inr (.inr (.inr wf))))), (xo, .inl (G.2.1 1, 1, .inr (.inl ox)))] := by
  refine en_h (cc := cL_patch) (maxL := 5) (ret := (some .int)) (own := RL) (hh := [(0, 9, 12, 13)]) (by decide) rfl rfl (Nat.le_of_ble_eq_true rfl) ?_
  intro p e s m below meth c A ls htab hx hb hr hts hown hml hlocks hA hK hE hP hD hS hl
  have hl : lv_has ls 5 [(0, .ref ba), (1, .int (nI i)), (2, .int wi), (3, .ref xo)] := hl
  refine lv_aload_n hx hb dL_patch_0 rfl (lv_at hl 3 rfl) ?_
  refine lv_iconst (v := (0:Int32)) hx hb dL_patch_1 (by decide) ?_
  refine lv_aload_n hx hb dL_patch_2 rfl (lv_at hl 0 rfl) ?_
  refine lv_iload_n hx hb dL_patch_3 rfl (lv_at hl 1 rfl) ?_
  refine lv_iload_n hx hb dL_patch_4 rfl (lv_at hl 2 rfl) ?_
  refine cv_c (name := nIAE) (As := [.int (nI i), .int wi]) (rest := [.int (0:Int32), .ref xo]) ⟨hx, hb, hml, hown, hts⟩ (kX3_patchX1 l hl9 G ba bw wf i wa wi hi4 hwf hwi) (cwV 2 hts gL_patch_X3_patch rfl rfl rfl (by decide +kernel) ⟨Nat.le_of_ble_eq_true rfl, Nat.le_of_ble_eq_true rfl⟩) (va_recv hK hP (ci := 3) (q0 := 0) rfl rfl) hE hK hP hD hS hA hl.1 [0, 1] rfl rfl rfl rfl rfl (Nat.le_of_ble_eq_true rfl) dL_patch_5 (Nat.le_of_ble_eq_true rfl) (Nat.le_of_ble_eq_true rfl) [] ⟨0, 9, 12, 13⟩ [] (htab.trans rfl) (fun z hz => nomatch hz) (by decide) (by decide) (hts (.classLink RL 13 nIAE) (by decide +kernel)) hE.2.2.2.2.2.2.2.2.2.2.1.word (fun q9 H locs hP hD hS => ?_)
  refine lv_astore (lv' := [(4, .ref q9), (0, .ref ba), (1, .int (nI i)), (2, .int wi), (3, .ref xo)]) hx hb dL_patch_12 hl (by decide) rfl (fun ls hl => ?_)
  refine lv_iconst (v := (1:Int32)) hx hb dL_patch_14 (by decide) ?_
  exact rt_h hx hb hr hlocks hP hD hS dL_patch_15 rfl (Nat.le_of_ble_eq_true rfl) (Nat.le_of_ble_eq_true rfl)
