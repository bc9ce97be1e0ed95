def fX0_has (n : Nat) (pl : Int32) : Int32 := (if pl < 0 then (0:Int32) else (if pl < (nI n) then (1:Int32) else (0:Int32)))
set_option maxHeartbeats 4000000 in
set_option maxRecDepth 100000 in
theorem kX0_has (l : Launch) (G : GT) (pa : Nat) (pk : Nat) (pn : Nat) (po : Nat) (n : Nat) (pl : Int32) : CI l yX0_has wsX0_has { frames := 0, cells := 0, slots := 0, locals := 0 } G [.ref pa, .int pl] [(pa, .inr (0, [.ref pk, .ref pn, .ref po, .int (nI n)]))] (fX0_has n pl) [(pa, .inr (0, [.ref pk, .ref pn, .ref po, .int (nI n)]))] := by
  refine en_i (cc := cX0_has) (maxL := 2) (ret := (some .boolean)) (own := RX0) (by decide) rfl rfl (Nat.le_of_ble_eq_true rfl) ?_
  intro p e s m below meth c A ls hx hb hr hts hown hml hlocks hA hK hE hP hD hS hl
  have hl : lv_has ls 2 [(0, .ref pa), (1, .int pl)] := hl
  refine lv_iload_n hx hb dX0_has_0 rfl (lv_at hl 1 rfl) ?_
  refine bz_lt (tgt := 16) hx hb dX0_has_1 (by decide) (fun c_1 => ?_) (fun c_1 => ?_)
  · refine lv_iconst (v := (0:Int32)) hx hb dX0_has_16 (by decide) ?_
    exact rt_z hx hb hr hlocks hP hD hS dX0_has_17 (by rw [fX0_has, if_pos c_1]) (z_nar (Or.inl rfl))
  · refine lv_iload_n hx hb dX0_has_4 rfl (lv_at hl 1 rfl) ?_
    refine lv_aload_n hx hb dX0_has_5 rfl (lv_at hl 0 rfl) ?_
    refine va_get (D := G.1) (ci := 0) (v := .int (nI n)) (C := RX0) (T := TX0) (N := 4) hx hb hts (by decide +kernel) hown hK hP 0 rfl rfl 3 (by decide) (hts (.fieldLink RX0 23 "PedalBoard$Pedals" "count" "I") (by decide +kernel)) (fun _ h9 => h9) rfl dX0_has_6 ?_
    refine bi_ge (tgt := 16) hx hb dX0_has_9 (by decide) (fun c_2 => ?_) (fun c_2 => ?_)
    · refine lv_iconst (v := (1:Int32)) hx hb dX0_has_12 (by decide) ?_
      refine lv_goto (tgt := 17) hx hb dX0_has_13 (by decide) ?_
      exact rt_z hx hb hr hlocks hP hD hS dX0_has_17 (by rw [fX0_has, if_neg c_1, if_pos c_2]) (z_nar (Or.inr rfl))
    · refine lv_iconst (v := (0:Int32)) hx hb dX0_has_16 (by decide) ?_
      exact rt_z hx hb hr hlocks hP hD hS dX0_has_17 (by rw [fX0_has, if_neg c_1, if_neg c_2]) (z_nar (Or.inl rfl))
theorem z_X0_has (n : Nat) (pl : Int32) : (fX0_has n pl) = 0 ∨ (fX0_has n pl) = 1 := by
  unfold fX0_has; repeat (first | exact Or.inl rfl | exact Or.inr rfl | split)
def fX0_isFull (n : Nat) : Int32 := (if (nI n) < (12:Int32) then (0:Int32) else (1:Int32))
set_option maxHeartbeats 4000000 in
set_option maxRecDepth 100000 in
theorem kX0_isFull (l : Launch) (G : GT) (pa : Nat) (pk : Nat) (pn : Nat) (po : Nat) (n : Nat) : CI l yX0_isFull wsX0_isFull { frames := 0, cells := 0, slots := 0, locals := 0 } G [.ref pa] [(pa, .inr (0, [.ref pk, .ref pn, .ref po, .int (nI n)]))] (fX0_isFull n) [(pa, .inr (0, [.ref pk, .ref pn, .ref po, .int (nI n)]))] := by
  refine en_i (cc := cX0_isFull) (maxL := 1) (ret := (some .boolean)) (own := RX0) (by decide) rfl rfl (Nat.le_of_ble_eq_true rfl) ?_
  intro p e s m below meth c A ls hx hb hr hts hown hml hlocks hA hK hE hP hD hS hl
  have hl : lv_has ls 1 [(0, .ref pa)] := hl
  refine lv_aload_n hx hb dX0_isFull_0 rfl (lv_at hl 0 rfl) ?_
  refine va_get (D := G.1) (ci := 0) (v := .int (nI n)) (C := RX0) (T := TX0) (N := 4) hx hb hts (by decide +kernel) hown hK hP 0 rfl rfl 3 (by decide) (hts (.fieldLink RX0 23 "PedalBoard$Pedals" "count" "I") (by decide +kernel)) (fun _ h9 => h9) rfl dX0_isFull_1 ?_
  refine lv_bipush (v := (12:Int32)) hx hb dX0_isFull_4 (by decide) ?_
  refine bi_lt (tgt := 13) hx hb dX0_isFull_6 (by decide) (fun c_1 => ?_) (fun c_1 => ?_)
  · refine lv_iconst (v := (0:Int32)) hx hb dX0_isFull_13 (by decide) ?_
    exact rt_z hx hb hr hlocks hP hD hS dX0_isFull_14 (by rw [fX0_isFull, if_pos c_1]) (z_nar (Or.inl rfl))
  · refine lv_iconst (v := (1:Int32)) hx hb dX0_isFull_9 (by decide) ?_
    refine lv_goto (tgt := 14) hx hb dX0_isFull_10 (by decide) ?_
    exact rt_z hx hb hr hlocks hP hD hS dX0_isFull_14 (by rw [fX0_isFull, if_neg c_1]) (z_nar (Or.inr rfl))
theorem z_X0_isFull (n : Nat) : (fX0_isFull n) = 0 ∨ (fX0_isFull n) = 1 := by
  unfold fX0_isFull; repeat (first | exact Or.inl rfl | exact Or.inr rfl | split)
theorem isFull_0 {n : Nat} (h : n < 12) : fX0_isFull n = 0 := by
  unfold fX0_isFull
  rw [if_pos (show (nI n) < (12:Int32) from nI_lt (a := n) (b := 12) h (by decide))]
theorem isFull_1 {n : Nat} (h : n = 12) : ¬ fX0_isFull n = 0 := by
  subst h; decide
theorem ix_12 (a b : Nat) : (12:Int32) * (nI a) + (nI b) = nI (12 * a + b) := by
  rw [show (12:Int32) = nI 12 from rfl, pk_mul, nI_add]
theorem ix_4 (a b : Nat) : (4:Int32) * (nI a) + (nI b) = nI (4 * a + b) := by
  rw [show (4:Int32) = nI 4 from rfl, pk_mul, nI_add]
set_option maxHeartbeats 4000000 in
set_option maxRecDepth 100000 in
theorem kX0_append (l : Launch) (G : GT) (pa : Nat) (pk : Nat) (pn : Nat) (po : Nat) (n : Nat) (ki : Nat → Int32) (kn : Nat → Int64) (on : Nat → Int32) (kd : Int32) (nb : Int64) (hn : n < 12) : CI l yX0_append wsX0_append { frames := 1, cells := 0, slots := 0, locals := 20 } G [.ref pa, .int kd, .long nb] [(pa, .inr (0, [.ref pk, .ref pn, .ref po, .int (nI n)])), (pk, .inl (G.2.1 0, 12, .inl ki)), (pn, .inl (G.2.1 1, 12, .inr (.inl kn))), (po, .inl (G.2.1 2, 12, .inl on))] (nI n) [(pa, .inr (0, [.ref pk, .ref pn, .ref po, .int (nI (n + 1))])), (pk, .inl (G.2.1 0, 12, .inl (upd ki n kd))), (pn, .inl (G.2.1 1, 12, .inr (.inl (vp_updL kn n nb)))), (po, .inl (G.2.1 2, 12, .inl (upd on n (1:Int32))))] := by
  refine en_i (cc := cX0_append) (maxL := 4) (ret := (some .int)) (own := RX0) (by decide) rfl rfl (Nat.le_of_ble_eq_true rfl) ?_
  intro p e s m below meth c A ls hx hb hr hts hown hml hlocks hA hK hE hP hD hS hl
  have hl : lv_has ls 4 [(0, .ref pa), (1, .int kd), (2, .long nb)] := hl
  refine lv_aload_n hx hb dX0_append_0 rfl (lv_at hl 0 rfl) ?_
  refine cv_i (As := []) (rest := []) (ws' := [(pa, .inr (0, [.ref pk, .ref pn, .ref po, .int (nI n)])), (pk, .inl (G.2.1 0, 12, .inl ki)), (pn, .inl (G.2.1 1, 12, .inr (.inl kn))), (po, .inl (G.2.1 2, 12, .inl on))]) ⟨hx, hb, hml, hown, hts⟩ (kX0_isFull l G pa pk pn po n) (cwV 0 hts gX0_append_X0_isFull rfl rfl rfl (by decide +kernel) ⟨Nat.le_of_ble_eq_true rfl, Nat.le_of_ble_eq_true rfl⟩) (va_recv hK hP (ci := 0) (q0 := 0) rfl rfl) hE hK hP hD hS hA hl.1 [0] rfl rfl rfl rfl rfl rfl (Nat.le_of_ble_eq_true rfl) dX0_append_1 ⟨Nat.zero_le _, Nat.zero_le _⟩ (fun H locs hP hD hS => ?_)
  refine bz_eq (tgt := 9) hx hb dX0_append_4 (by decide) (fun _ => ?_) (fun h9 => absurd (isFull_0 hn) h9)
  refine lv_aload_n hx hb dX0_append_9 rfl (lv_at hl 0 rfl) ?_
  refine va_get (D := G.1) (ci := 0) (v := .ref pk) (C := RX0) (T := TX0) (N := 4) hx hb hts (by decide +kernel) hown hK hP 0 rfl rfl 0 (by decide) (hts (.fieldLink RX0 9 "PedalBoard$Pedals" "kinds" "[I") (by decide +kernel)) (fun _ h9 => h9) rfl dX0_append_10 ?_
  refine lv_aload_n hx hb dX0_append_13 rfl (lv_at hl 0 rfl) ?_
  refine va_get (D := G.1) (ci := 0) (v := .int (nI n)) (C := RX0) (T := TX0) (N := 4) hx hb hts (by decide +kernel) hown hK hP 0 rfl rfl 3 (by decide) (hts (.fieldLink RX0 23 "PedalBoard$Pedals" "count" "I") (by decide +kernel)) (fun _ h9 => h9) rfl dX0_append_14 ?_
  refine lv_iload_n hx hb dX0_append_17 rfl (lv_at hl 1 rfl) ?_
  refine ar_ist hx hb hK hP hD hS 1 rfl n rfl hn (by decide) dX0_append_18 (fun H locs hP hD hS => ?_)
  have hP : va_P G.1 vwCl [(pa, .inr (0, [.ref pk, .ref pn, .ref po, .int (nI n)])), (pk, .inl (G.2.1 0, 12, .inl (upd ki n kd))), (pn, .inl (G.2.1 1, 12, .inr (.inl kn))), (po, .inl (G.2.1 2, 12, .inl on))] H := hP
  have hD : va_D A [(pa, .inr (0, [.ref pk, .ref pn, .ref po, .int (nI n)])), (pk, .inl (G.2.1 0, 12, .inl (upd ki n kd))), (pn, .inl (G.2.1 1, 12, .inr (.inl kn))), (po, .inl (G.2.1 2, 12, .inl on))] := hD
  refine lv_aload_n hx hb dX0_append_19 rfl (lv_at hl 0 rfl) ?_
  refine va_get (D := G.1) (ci := 0) (v := .ref pn) (C := RX0) (T := TX0) (N := 4) hx hb hts (by decide +kernel) hown hK hP 0 rfl rfl 1 (by decide) (hts (.fieldLink RX0 15 "PedalBoard$Pedals" "knobs" "[J") (by decide +kernel)) (fun _ h9 => h9) rfl dX0_append_20 ?_
  refine lv_aload_n hx hb dX0_append_23 rfl (lv_at hl 0 rfl) ?_
  refine va_get (D := G.1) (ci := 0) (v := .int (nI n)) (C := RX0) (T := TX0) (N := 4) hx hb hts (by decide +kernel) hown hK hP 0 rfl rfl 3 (by decide) (hts (.fieldLink RX0 23 "PedalBoard$Pedals" "count" "I") (by decide +kernel)) (fun _ h9 => h9) rfl dX0_append_24 ?_
  refine lv_lload_n hx hb dX0_append_27 rfl (lv_at hl 2 rfl) ?_
  refine ar_lst hx hb hK hP hD hS 2 rfl n rfl hn (by decide) dX0_append_28 (fun H locs hP hD hS => ?_)
  have hP : va_P G.1 vwCl [(pa, .inr (0, [.ref pk, .ref pn, .ref po, .int (nI n)])), (pk, .inl (G.2.1 0, 12, .inl (upd ki n kd))), (pn, .inl (G.2.1 1, 12, .inr (.inl (vp_updL kn n nb)))), (po, .inl (G.2.1 2, 12, .inl on))] H := hP
  have hD : va_D A [(pa, .inr (0, [.ref pk, .ref pn, .ref po, .int (nI n)])), (pk, .inl (G.2.1 0, 12, .inl (upd ki n kd))), (pn, .inl (G.2.1 1, 12, .inr (.inl (vp_updL kn n nb)))), (po, .inl (G.2.1 2, 12, .inl on))] := hD
  refine lv_aload_n hx hb dX0_append_29 rfl (lv_at hl 0 rfl) ?_
  refine va_get (D := G.1) (ci := 0) (v := .ref po) (C := RX0) (T := TX0) (N := 4) hx hb hts (by decide +kernel) hown hK hP 0 rfl rfl 2 (by decide) (hts (.fieldLink RX0 19 "PedalBoard$Pedals" "on" "[Z") (by decide +kernel)) (fun _ h9 => h9) rfl dX0_append_30 ?_
  refine lv_aload_n hx hb dX0_append_33 rfl (lv_at hl 0 rfl) ?_
  refine va_get (D := G.1) (ci := 0) (v := .int (nI n)) (C := RX0) (T := TX0) (N := 4) hx hb hts (by decide +kernel) hown hK hP 0 rfl rfl 3 (by decide) (hts (.fieldLink RX0 23 "PedalBoard$Pedals" "count" "I") (by decide +kernel)) (fun _ h9 => h9) rfl dX0_append_34 ?_
  refine lv_iconst (v := (1:Int32)) hx hb dX0_append_37 (by decide) ?_
  refine ar_zst hx hb hK hP hD hS 3 rfl n rfl hn (by decide) (Or.inr rfl) dX0_append_38 (fun H locs hP hD hS => ?_)
  have hP : va_P G.1 vwCl [(pa, .inr (0, [.ref pk, .ref pn, .ref po, .int (nI n)])), (pk, .inl (G.2.1 0, 12, .inl (upd ki n kd))), (pn, .inl (G.2.1 1, 12, .inr (.inl (vp_updL kn n nb)))), (po, .inl (G.2.1 2, 12, .inl (upd on n (1:Int32))))] H := hP
  have hD : va_D A [(pa, .inr (0, [.ref pk, .ref pn, .ref po, .int (nI n)])), (pk, .inl (G.2.1 0, 12, .inl (upd ki n kd))), (pn, .inl (G.2.1 1, 12, .inr (.inl (vp_updL kn n nb)))), (po, .inl (G.2.1 2, 12, .inl (upd on n (1:Int32))))] := hD
  refine lv_aload_n hx hb dX0_append_39 rfl (lv_at hl 0 rfl) ?_
  refine lv_dup hx hb dX0_append_40 rfl ?_
  refine va_get (D := G.1) (ci := 0) (v := .int (nI n)) (C := RX0) (T := TX0) (N := 4) hx hb hts (by decide +kernel) hown hK hP 0 rfl rfl 3 (by decide) (hts (.fieldLink RX0 23 "PedalBoard$Pedals" "count" "I") (by decide +kernel)) (fun _ h9 => h9) rfl dX0_append_41 ?_
  refine lv_iconst (v := (1:Int32)) hx hb dX0_append_44 (by decide) ?_
  refine lv_iadd hx hb dX0_append_45 ?_
  rw [show (nI n + (1:Int32)) = nI (n + 1) from nI_1 _]
  refine va_put (D := G.1) (ci := 0) (v := .int (nI (n + 1))) (ty := .int) (C := RX0) (T := TX0) (N := 4) hx hb hts (by decide +kernel) tyX0 tyX0_ok nmX0 hown hK hP hD hS 0 rfl rfl 3 (by decide) (hts (.fieldLink RX0 23 "PedalBoard$Pedals" "count" "I") (by decide +kernel)) (fun _ h9 => h9) rfl (by decide +kernel) rfl rfl (Nat.le_of_ble_eq_true rfl) dX0_append_46 (fun H locs hP hD hS => ?_)
  have hP : va_P G.1 vwCl [(pa, .inr (0, [.ref pk, .ref pn, .ref po, .int (nI (n + 1))])), (pk, .inl (G.2.1 0, 12, .inl (upd ki n kd))), (pn, .inl (G.2.1 1, 12, .inr (.inl (vp_updL kn n nb)))), (po, .inl (G.2.1 2, 12, .inl (upd on n (1:Int32))))] H := hP
  have hD : va_D A [(pa, .inr (0, [.ref pk, .ref pn, .ref po, .int (nI (n + 1))])), (pk, .inl (G.2.1 0, 12, .inl (upd ki n kd))), (pn, .inl (G.2.1 1, 12, .inr (.inl (vp_updL kn n nb)))), (po, .inl (G.2.1 2, 12, .inl (upd on n (1:Int32))))] := hD
  refine lv_aload_n hx hb dX0_append_49 rfl (lv_at hl 0 rfl) ?_
  refine va_get (D := G.1) (ci := 0) (v := .int (nI (n + 1))) (C := RX0) (T := TX0) (N := 4) hx hb hts (by decide +kernel) hown hK hP 0 rfl rfl 3 (by decide) (hts (.fieldLink RX0 23 "PedalBoard$Pedals" "count" "I") (by decide +kernel)) (fun _ h9 => h9) rfl dX0_append_50 ?_
  refine lv_iconst (v := (1:Int32)) hx hb dX0_append_53 (by decide) ?_
  refine lv_isub hx hb dX0_append_54 ?_
  rw [show (nI (n + 1) - (1:Int32)) = nI n from nI_pred _]
  exact rt_i hx hb hr hlocks hP hD hS dX0_append_55 rfl
def fX0_areUnlike (ki : Nat → Int32) (kn : Nat → Int64) (on : Nat → Int32) (u1 : Nat) (u2 : Nat) : Int32 := (if (ki u1) = (ki u2) then (if (kn u1) = (kn u2) then (if (on u1) = (on u2) then (0:Int32) else (1:Int32)) else (1:Int32)) else (1:Int32))
set_option maxHeartbeats 4000000 in
set_option maxRecDepth 100000 in
theorem kX0_areUnlike (l : Launch) (G : GT) (pa : Nat) (pk : Nat) (pn : Nat) (po : Nat) (n : Nat) (ki : Nat → Int32) (kn : Nat → Int64) (on : Nat → Int32) (u1 : Nat) (u2 : Nat) (hu1 : u1 < 12) (hu2 : u2 < 12) : CI l yX0_areUnlike wsX0_areUnlike { frames := 0, cells := 0, slots := 0, locals := 0 } G [.ref pa, .int (nI u1), .int (nI u2)] [(pa, .inr (0, [.ref pk, .ref pn, .ref po, .int (nI n)])), (pk, .inl (G.2.1 0, 12, .inl ki)), (pn, .inl (G.2.1 1, 12, .inr (.inl kn))), (po, .inl (G.2.1 2, 12, .inl on))] (fX0_areUnlike ki kn on u1 u2) [(pa, .inr (0, [.ref pk, .ref pn, .ref po, .int (nI n)])), (pk, .inl (G.2.1 0, 12, .inl ki)), (pn, .inl (G.2.1 1, 12, .inr (.inl kn))), (po, .inl (G.2.1 2, 12, .inl on))] := by
  refine en_i (cc := cX0_areUnlike) (maxL := 3) (ret := (some .boolean)) (own := RX0) (by decide) rfl rfl (Nat.le_of_ble_eq_true rfl) ?_
  intro p e s m below meth c A ls hx hb hr hts hown hml hlocks hA hK hE hP hD hS hl
  have hl : lv_has ls 3 [(0, .ref pa), (1, .int (nI u1)), (2, .int (nI u2))] := hl
  refine lv_aload_n hx hb dX0_areUnlike_0 rfl (lv_at hl 0 rfl) ?_
  refine va_get (D := G.1) (ci := 0) (v := .ref pk) (C := RX0) (T := TX0) (N := 4) hx hb hts (by decide +kernel) hown hK hP 0 rfl rfl 0 (by decide) (hts (.fieldLink RX0 9 "PedalBoard$Pedals" "kinds" "[I") (by decide +kernel)) (fun _ h9 => h9) rfl dX0_areUnlike_1 ?_
  refine lv_iload_n hx hb dX0_areUnlike_4 rfl (lv_at hl 1 rfl) ?_
  refine ar_ild hx hb hK hP 1 rfl u1 rfl hu1 (by decide) dX0_areUnlike_5 ?_
  refine lv_aload_n hx hb dX0_areUnlike_6 rfl (lv_at hl 0 rfl) ?_
  refine va_get (D := G.1) (ci := 0) (v := .ref pk) (C := RX0) (T := TX0) (N := 4) hx hb hts (by decide +kernel) hown hK hP 0 rfl rfl 0 (by decide) (hts (.fieldLink RX0 9 "PedalBoard$Pedals" "kinds" "[I") (by decide +kernel)) (fun _ h9 => h9) rfl dX0_areUnlike_7 ?_
  refine lv_iload_n hx hb dX0_areUnlike_10 rfl (lv_at hl 2 rfl) ?_
  refine ar_ild hx hb hK hP 1 rfl u2 rfl hu2 (by decide) dX0_areUnlike_11 ?_
  refine bi_ne (tgt := 46) hx hb dX0_areUnlike_12 (by decide) (fun c_1 => ?_) (fun c_1 => ?_)
  · refine lv_aload_n hx hb dX0_areUnlike_15 rfl (lv_at hl 0 rfl) ?_
    refine va_get (D := G.1) (ci := 0) (v := .ref pn) (C := RX0) (T := TX0) (N := 4) hx hb hts (by decide +kernel) hown hK hP 0 rfl rfl 1 (by decide) (hts (.fieldLink RX0 15 "PedalBoard$Pedals" "knobs" "[J") (by decide +kernel)) (fun _ h9 => h9) rfl dX0_areUnlike_16 ?_
    refine lv_iload_n hx hb dX0_areUnlike_19 rfl (lv_at hl 1 rfl) ?_
    refine ar_lld hx hb hK hP 2 rfl u1 rfl hu1 (by decide) dX0_areUnlike_20 ?_
    refine lv_aload_n hx hb dX0_areUnlike_21 rfl (lv_at hl 0 rfl) ?_
    refine va_get (D := G.1) (ci := 0) (v := .ref pn) (C := RX0) (T := TX0) (N := 4) hx hb hts (by decide +kernel) hown hK hP 0 rfl rfl 1 (by decide) (hts (.fieldLink RX0 15 "PedalBoard$Pedals" "knobs" "[J") (by decide +kernel)) (fun _ h9 => h9) rfl dX0_areUnlike_22 ?_
    refine lv_iload_n hx hb dX0_areUnlike_25 rfl (lv_at hl 2 rfl) ?_
    refine ar_lld hx hb hK hP 2 rfl u2 rfl hu2 (by decide) dX0_areUnlike_26 ?_
    refine bl_ne (tgt := 46) hx hb dX0_areUnlike_27 dX0_areUnlike_28 (by decide) (fun c_2 => ?_) (fun c_2 => ?_)
    · refine lv_aload_n hx hb dX0_areUnlike_31 rfl (lv_at hl 0 rfl) ?_
      refine va_get (D := G.1) (ci := 0) (v := .ref po) (C := RX0) (T := TX0) (N := 4) hx hb hts (by decide +kernel) hown hK hP 0 rfl rfl 2 (by decide) (hts (.fieldLink RX0 19 "PedalBoard$Pedals" "on" "[Z") (by decide +kernel)) (fun _ h9 => h9) rfl dX0_areUnlike_32 ?_
      refine lv_iload_n hx hb dX0_areUnlike_35 rfl (lv_at hl 1 rfl) ?_
      refine ar_zld hx hb hK hP 3 rfl u1 rfl hu1 (by decide) dX0_areUnlike_36 ?_
      refine lv_aload_n hx hb dX0_areUnlike_37 rfl (lv_at hl 0 rfl) ?_
      refine va_get (D := G.1) (ci := 0) (v := .ref po) (C := RX0) (T := TX0) (N := 4) hx hb hts (by decide +kernel) hown hK hP 0 rfl rfl 2 (by decide) (hts (.fieldLink RX0 19 "PedalBoard$Pedals" "on" "[Z") (by decide +kernel)) (fun _ h9 => h9) rfl dX0_areUnlike_38 ?_
      refine lv_iload_n hx hb dX0_areUnlike_41 rfl (lv_at hl 2 rfl) ?_
      refine ar_zld hx hb hK hP 3 rfl u2 rfl hu2 (by decide) dX0_areUnlike_42 ?_
      refine bi_eq (tgt := 50) hx hb dX0_areUnlike_43 (by decide) (fun c_3 => ?_) (fun c_3 => ?_)
      · refine lv_iconst (v := (0:Int32)) hx hb dX0_areUnlike_50 (by decide) ?_
        exact rt_z hx hb hr hlocks hP hD hS dX0_areUnlike_51 (by rw [fX0_areUnlike, if_pos c_1, if_pos c_2, if_pos c_3]) (z_nar (Or.inl rfl))
      · refine lv_iconst (v := (1:Int32)) hx hb dX0_areUnlike_46 (by decide) ?_
        refine lv_goto (tgt := 51) hx hb dX0_areUnlike_47 (by decide) ?_
        exact rt_z hx hb hr hlocks hP hD hS dX0_areUnlike_51 (by rw [fX0_areUnlike, if_pos c_1, if_pos c_2, if_neg c_3]) (z_nar (Or.inr rfl))
    · refine lv_iconst (v := (1:Int32)) hx hb dX0_areUnlike_46 (by decide) ?_
      refine lv_goto (tgt := 51) hx hb dX0_areUnlike_47 (by decide) ?_
      exact rt_z hx hb hr hlocks hP hD hS dX0_areUnlike_51 (by rw [fX0_areUnlike, if_pos c_1, if_neg c_2]) (z_nar (Or.inr rfl))
  · refine lv_iconst (v := (1:Int32)) hx hb dX0_areUnlike_46 (by decide) ?_
    refine lv_goto (tgt := 51) hx hb dX0_areUnlike_47 (by decide) ?_
    exact rt_z hx hb hr hlocks hP hD hS dX0_areUnlike_51 (by rw [fX0_areUnlike, if_neg c_1]) (z_nar (Or.inr rfl))
theorem z_X0_areUnlike (ki : Nat → Int32) (kn : Nat → Int64) (on : Nat → Int32) (u1 : Nat) (u2 : Nat) : (fX0_areUnlike ki kn on u1 u2) = 0 ∨ (fX0_areUnlike ki kn on u1 u2) = 1 := by
  unfold fX0_areUnlike; repeat (first | exact Or.inl rfl | exact Or.inr rfl | split)
set_option maxHeartbeats 4000000 in
set_option maxRecDepth 100000 in
theorem kX0_exchange (l : Launch) (G : GT) (pa : Nat) (pk : Nat) (pn : Nat) (po : Nat) (n : Nat) (ki : Nat → Int32) (kn : Nat → Int64) (on : Nat → Int32) (u1 : Nat) (u2 : Nat) (hu1 : u1 < 12) (hu2 : u2 < 12) (hz : ∀ k, on k = 0 ∨ on k = 1) : CV l yX0_exchange wsX0_exchange { frames := 0, cells := 0, slots := 0, locals := 0 } G [.ref pa, .int (nI u1), .int (nI u2)] [(pa, .inr (0, [.ref pk, .ref pn, .ref po, .int (nI n)])), (pk, .inl (G.2.1 0, 12, .inl ki)), (pn, .inl (G.2.1 1, 12, .inr (.inl kn))), (po, .inl (G.2.1 2, 12, .inl on))] [(pa, .inr (0, [.ref pk, .ref pn, .ref po, .int (nI n)])), (pk, .inl (G.2.1 0, 12, .inl (upd (upd ki u1 (ki u2)) u2 (ki u1)))), (pn, .inl (G.2.1 1, 12, .inr (.inl (vp_updL (vp_updL kn u1 (kn u2)) u2 (kn u1))))), (po, .inl (G.2.1 2, 12, .inl (upd (upd on u1 (on u2)) u2 (on u1))))] := by
  refine en_v (cc := cX0_exchange) (maxL := 7) (ret := none) (own := RX0) (by decide) rfl rfl (Nat.le_of_ble_eq_true rfl) ?_
  intro p e s m below meth c A ls hx hb hr hts hown hml hlocks hA hK hE hP hD hS hl
  have hl : lv_has ls 7 [(0, .ref pa), (1, .int (nI u1)), (2, .int (nI u2))] := hl
  refine lv_aload_n hx hb dX0_exchange_0 rfl (lv_at hl 0 rfl) ?_
  refine va_get (D := G.1) (ci := 0) (v := .ref pk) (C := RX0) (T := TX0) (N := 4) hx hb hts (by decide +kernel) hown hK hP 0 rfl rfl 0 (by decide) (hts (.fieldLink RX0 9 "PedalBoard$Pedals" "kinds" "[I") (by decide +kernel)) (fun _ h9 => h9) rfl dX0_exchange_1 ?_
  refine lv_iload_n hx hb dX0_exchange_4 rfl (lv_at hl 1 rfl) ?_
  refine ar_ild hx hb hK hP 1 rfl u1 rfl hu1 (by decide) dX0_exchange_5 ?_
  refine lv_istore_n (lv' := [(3, .int (ki u1)), (0, .ref pa), (1, .int (nI u1)), (2, .int (nI u2))]) hx hb dX0_exchange_6 rfl hl (by decide) rfl (fun ls hl => ?_)
  refine lv_aload_n hx hb dX0_exchange_7 rfl (lv_at hl 1 rfl) ?_
  refine va_get (D := G.1) (ci := 0) (v := .ref pk) (C := RX0) (T := TX0) (N := 4) hx hb hts (by decide +kernel) hown hK hP 0 rfl rfl 0 (by decide) (hts (.fieldLink RX0 9 "PedalBoard$Pedals" "kinds" "[I") (by decide +kernel)) (fun _ h9 => h9) rfl dX0_exchange_8 ?_
  refine lv_iload_n hx hb dX0_exchange_11 rfl (lv_at hl 2 rfl) ?_
  refine lv_aload_n hx hb dX0_exchange_12 rfl (lv_at hl 1 rfl) ?_
  refine va_get (D := G.1) (ci := 0) (v := .ref pk) (C := RX0) (T := TX0) (N := 4) hx hb hts (by decide +kernel) hown hK hP 0 rfl rfl 0 (by decide) (hts (.fieldLink RX0 9 "PedalBoard$Pedals" "kinds" "[I") (by decide +kernel)) (fun _ h9 => h9) rfl dX0_exchange_13 ?_
  refine lv_iload_n hx hb dX0_exchange_16 rfl (lv_at hl 3 rfl) ?_
  refine ar_ild hx hb hK hP 1 rfl u2 rfl hu2 (by decide) dX0_exchange_17 ?_
  refine ar_ist hx hb hK hP hD hS 1 rfl u1 rfl hu1 (by decide) dX0_exchange_18 (fun H locs hP hD hS => ?_)
  have hP : va_P G.1 vwCl [(pa, .inr (0, [.ref pk, .ref pn, .ref po, .int (nI n)])), (pk, .inl (G.2.1 0, 12, .inl (upd ki u1 (ki u2)))), (pn, .inl (G.2.1 1, 12, .inr (.inl kn))), (po, .inl (G.2.1 2, 12, .inl on))] H := hP
  have hD : va_D A [(pa, .inr (0, [.ref pk, .ref pn, .ref po, .int (nI n)])), (pk, .inl (G.2.1 0, 12, .inl (upd ki u1 (ki u2)))), (pn, .inl (G.2.1 1, 12, .inr (.inl kn))), (po, .inl (G.2.1 2, 12, .inl on))] := hD
  refine lv_aload_n hx hb dX0_exchange_19 rfl (lv_at hl 1 rfl) ?_
  refine va_get (D := G.1) (ci := 0) (v := .ref pk) (C := RX0) (T := TX0) (N := 4) hx hb hts (by decide +kernel) hown hK hP 0 rfl rfl 0 (by decide) (hts (.fieldLink RX0 9 "PedalBoard$Pedals" "kinds" "[I") (by decide +kernel)) (fun _ h9 => h9) rfl dX0_exchange_20 ?_
  refine lv_iload_n hx hb dX0_exchange_23 rfl (lv_at hl 3 rfl) ?_
  refine lv_iload_n hx hb dX0_exchange_24 rfl (lv_at hl 0 rfl) ?_
  refine ar_ist hx hb hK hP hD hS 1 rfl u2 rfl hu2 (by decide) dX0_exchange_25 (fun H locs hP hD hS => ?_)
  have hP : va_P G.1 vwCl [(pa, .inr (0, [.ref pk, .ref pn, .ref po, .int (nI n)])), (pk, .inl (G.2.1 0, 12, .inl (upd (upd ki u1 (ki u2)) u2 (ki u1)))), (pn, .inl (G.2.1 1, 12, .inr (.inl kn))), (po, .inl (G.2.1 2, 12, .inl on))] H := hP
  have hD : va_D A [(pa, .inr (0, [.ref pk, .ref pn, .ref po, .int (nI n)])), (pk, .inl (G.2.1 0, 12, .inl (upd (upd ki u1 (ki u2)) u2 (ki u1)))), (pn, .inl (G.2.1 1, 12, .inr (.inl kn))), (po, .inl (G.2.1 2, 12, .inl on))] := hD
  refine lv_aload_n hx hb dX0_exchange_26 rfl (lv_at hl 1 rfl) ?_
  refine va_get (D := G.1) (ci := 0) (v := .ref pn) (C := RX0) (T := TX0) (N := 4) hx hb hts (by decide +kernel) hown hK hP 0 rfl rfl 1 (by decide) (hts (.fieldLink RX0 15 "PedalBoard$Pedals" "knobs" "[J") (by decide +kernel)) (fun _ h9 => h9) rfl dX0_exchange_27 ?_
  refine lv_iload_n hx hb dX0_exchange_30 rfl (lv_at hl 2 rfl) ?_
  refine ar_lld hx hb hK hP 2 rfl u1 rfl hu1 (by decide) dX0_exchange_31 ?_
  refine lv_lstore (lv' := [(4, .long (kn u1)), (3, .int (ki u1)), (0, .ref pa), (1, .int (nI u1)), (2, .int (nI u2))]) hx hb dX0_exchange_32 hl (by decide) rfl (fun ls hl => ?_)
  refine lv_aload_n hx hb dX0_exchange_34 rfl (lv_at hl 2 rfl) ?_
  refine va_get (D := G.1) (ci := 0) (v := .ref pn) (C := RX0) (T := TX0) (N := 4) hx hb hts (by decide +kernel) hown hK hP 0 rfl rfl 1 (by decide) (hts (.fieldLink RX0 15 "PedalBoard$Pedals" "knobs" "[J") (by decide +kernel)) (fun _ h9 => h9) rfl dX0_exchange_35 ?_
  refine lv_iload_n hx hb dX0_exchange_38 rfl (lv_at hl 3 rfl) ?_
  refine lv_aload_n hx hb dX0_exchange_39 rfl (lv_at hl 2 rfl) ?_
  refine va_get (D := G.1) (ci := 0) (v := .ref pn) (C := RX0) (T := TX0) (N := 4) hx hb hts (by decide +kernel) hown hK hP 0 rfl rfl 1 (by decide) (hts (.fieldLink RX0 15 "PedalBoard$Pedals" "knobs" "[J") (by decide +kernel)) (fun _ h9 => h9) rfl dX0_exchange_40 ?_
  refine lv_iload_n hx hb dX0_exchange_43 rfl (lv_at hl 4 rfl) ?_
  refine ar_lld hx hb hK hP 2 rfl u2 rfl hu2 (by decide) dX0_exchange_44 ?_
  refine ar_lst hx hb hK hP hD hS 2 rfl u1 rfl hu1 (by decide) dX0_exchange_45 (fun H locs hP hD hS => ?_)
  have hP : va_P G.1 vwCl [(pa, .inr (0, [.ref pk, .ref pn, .ref po, .int (nI n)])), (pk, .inl (G.2.1 0, 12, .inl (upd (upd ki u1 (ki u2)) u2 (ki u1)))), (pn, .inl (G.2.1 1, 12, .inr (.inl (vp_updL kn u1 (kn u2))))), (po, .inl (G.2.1 2, 12, .inl on))] H := hP
  have hD : va_D A [(pa, .inr (0, [.ref pk, .ref pn, .ref po, .int (nI n)])), (pk, .inl (G.2.1 0, 12, .inl (upd (upd ki u1 (ki u2)) u2 (ki u1)))), (pn, .inl (G.2.1 1, 12, .inr (.inl (vp_updL kn u1 (kn u2))))), (po, .inl (G.2.1 2, 12, .inl on))] := hD
  refine lv_aload_n hx hb dX0_exchange_46 rfl (lv_at hl 2 rfl) ?_
  refine va_get (D := G.1) (ci := 0) (v := .ref pn) (C := RX0) (T := TX0) (N := 4) hx hb hts (by decide +kernel) hown hK hP 0 rfl rfl 1 (by decide) (hts (.fieldLink RX0 15 "PedalBoard$Pedals" "knobs" "[J") (by decide +kernel)) (fun _ h9 => h9) rfl dX0_exchange_47 ?_
  refine lv_iload_n hx hb dX0_exchange_50 rfl (lv_at hl 4 rfl) ?_
  refine lv_lload hx hb dX0_exchange_51 (lv_at hl 0 rfl) ?_
  refine ar_lst hx hb hK hP hD hS 2 rfl u2 rfl hu2 (by decide) dX0_exchange_53 (fun H locs hP hD hS => ?_)
  have hP : va_P G.1 vwCl [(pa, .inr (0, [.ref pk, .ref pn, .ref po, .int (nI n)])), (pk, .inl (G.2.1 0, 12, .inl (upd (upd ki u1 (ki u2)) u2 (ki u1)))), (pn, .inl (G.2.1 1, 12, .inr (.inl (vp_updL (vp_updL kn u1 (kn u2)) u2 (kn u1))))), (po, .inl (G.2.1 2, 12, .inl on))] H := hP
  have hD : va_D A [(pa, .inr (0, [.ref pk, .ref pn, .ref po, .int (nI n)])), (pk, .inl (G.2.1 0, 12, .inl (upd (upd ki u1 (ki u2)) u2 (ki u1)))), (pn, .inl (G.2.1 1, 12, .inr (.inl (vp_updL (vp_updL kn u1 (kn u2)) u2 (kn u1))))), (po, .inl (G.2.1 2, 12, .inl on))] := hD
  refine lv_aload_n hx hb dX0_exchange_54 rfl (lv_at hl 2 rfl) ?_
  refine va_get (D := G.1) (ci := 0) (v := .ref po) (C := RX0) (T := TX0) (N := 4) hx hb hts (by decide +kernel) hown hK hP 0 rfl rfl 2 (by decide) (hts (.fieldLink RX0 19 "PedalBoard$Pedals" "on" "[Z") (by decide +kernel)) (fun _ h9 => h9) rfl dX0_exchange_55 ?_
  refine lv_iload_n hx hb dX0_exchange_58 rfl (lv_at hl 3 rfl) ?_
  refine ar_zld hx hb hK hP 3 rfl u1 rfl hu1 (by decide) dX0_exchange_59 ?_
  refine lv_istore (lv' := [(6, .int (on u1)), (4, .long (kn u1)), (3, .int (ki u1)), (0, .ref pa), (1, .int (nI u1)), (2, .int (nI u2))]) hx hb dX0_exchange_60 hl (by decide) rfl (fun ls hl => ?_)
  refine lv_aload_n hx hb dX0_exchange_62 rfl (lv_at hl 3 rfl) ?_
  refine va_get (D := G.1) (ci := 0) (v := .ref po) (C := RX0) (T := TX0) (N := 4) hx hb hts (by decide +kernel) hown hK hP 0 rfl rfl 2 (by decide) (hts (.fieldLink RX0 19 "PedalBoard$Pedals" "on" "[Z") (by decide +kernel)) (fun _ h9 => h9) rfl dX0_exchange_63 ?_
  refine lv_iload_n hx hb dX0_exchange_66 rfl (lv_at hl 4 rfl) ?_
  refine lv_aload_n hx hb dX0_exchange_67 rfl (lv_at hl 3 rfl) ?_
  refine va_get (D := G.1) (ci := 0) (v := .ref po) (C := RX0) (T := TX0) (N := 4) hx hb hts (by decide +kernel) hown hK hP 0 rfl rfl 2 (by decide) (hts (.fieldLink RX0 19 "PedalBoard$Pedals" "on" "[Z") (by decide +kernel)) (fun _ h9 => h9) rfl dX0_exchange_68 ?_
  refine lv_iload_n hx hb dX0_exchange_71 rfl (lv_at hl 5 rfl) ?_
  refine ar_zld hx hb hK hP 3 rfl u2 rfl hu2 (by decide) dX0_exchange_72 ?_
  refine ar_zst hx hb hK hP hD hS 3 rfl u1 rfl hu1 (by decide) (hz u2) dX0_exchange_73 (fun H locs hP hD hS => ?_)
  have hP : va_P G.1 vwCl [(pa, .inr (0, [.ref pk, .ref pn, .ref po, .int (nI n)])), (pk, .inl (G.2.1 0, 12, .inl (upd (upd ki u1 (ki u2)) u2 (ki u1)))), (pn, .inl (G.2.1 1, 12, .inr (.inl (vp_updL (vp_updL kn u1 (kn u2)) u2 (kn u1))))), (po, .inl (G.2.1 2, 12, .inl (upd on u1 (on u2))))] H := hP
  have hD : va_D A [(pa, .inr (0, [.ref pk, .ref pn, .ref po, .int (nI n)])), (pk, .inl (G.2.1 0, 12, .inl (upd (upd ki u1 (ki u2)) u2 (ki u1)))), (pn, .inl (G.2.1 1, 12, .inr (.inl (vp_updL (vp_updL kn u1 (kn u2)) u2 (kn u1))))), (po, .inl (G.2.1 2, 12, .inl (upd on u1 (on u2))))] := hD
  refine lv_aload_n hx hb dX0_exchange_74 rfl (lv_at hl 3 rfl) ?_
  refine va_get (D := G.1) (ci := 0) (v := .ref po) (C := RX0) (T := TX0) (N := 4) hx hb hts (by decide +kernel) hown hK hP 0 rfl rfl 2 (by decide) (hts (.fieldLink RX0 19 "PedalBoard$Pedals" "on" "[Z") (by decide +kernel)) (fun _ h9 => h9) rfl dX0_exchange_75 ?_
  refine lv_iload_n hx hb dX0_exchange_78 rfl (lv_at hl 5 rfl) ?_
  refine lv_iload hx hb dX0_exchange_79 (lv_at hl 0 rfl) ?_
  refine ar_zst hx hb hK hP hD hS 3 rfl u2 rfl hu2 (by decide) (hz u1) dX0_exchange_81 (fun H locs hP hD hS => ?_)
  have hP : va_P G.1 vwCl [(pa, .inr (0, [.ref pk, .ref pn, .ref po, .int (nI n)])), (pk, .inl (G.2.1 0, 12, .inl (upd (upd ki u1 (ki u2)) u2 (ki u1)))), (pn, .inl (G.2.1 1, 12, .inr (.inl (vp_updL (vp_updL kn u1 (kn u2)) u2 (kn u1))))), (po, .inl (G.2.1 2, 12, .inl (upd (upd on u1 (on u2)) u2 (on u1))))] H := hP
  have hD : va_D A [(pa, .inr (0, [.ref pk, .ref pn, .ref po, .int (nI n)])), (pk, .inl (G.2.1 0, 12, .inl (upd (upd ki u1 (ki u2)) u2 (ki u1)))), (pn, .inl (G.2.1 1, 12, .inr (.inl (vp_updL (vp_updL kn u1 (kn u2)) u2 (kn u1))))), (po, .inl (G.2.1 2, 12, .inl (upd (upd on u1 (on u2)) u2 (on u1))))] := hD
  exact rt_v hx hb hr hlocks hP hD hS dX0_exchange_82
/-- the first k out of f, the others out of g -/
def mx {α : Type} (k : Nat) (f g : Nat → α) : Nat → α := fun j => if j < k then f j else g j
theorem mx_0 {α : Type} (f g : Nat → α) : mx 0 f g = g := by funext j; simp [mx]
theorem mx_sI (k : Nat) (f g : Nat → Int32) : upd (mx k f g) k (f k) = mx (k + 1) f g := by
  funext j
  simp only [upd, mx]
  by_cases h : j = k
  · subst h; rw [if_pos rfl, if_pos (Nat.lt_succ_self _)]
  · rw [if_neg h]
    by_cases h2 : j < k
    · rw [if_pos h2, if_pos (by omega)]
    · rw [if_neg h2, if_neg (by omega)]
theorem mx_sJ (k : Nat) (f g : Nat → Int64) : vp_updL (mx k f g) k (f k) = mx (k + 1) f g := by
  funext j
  simp only [vp_updL, mx]
  by_cases h : j = k
  · subst h; rw [if_pos rfl, if_pos (Nat.lt_succ_self _)]
  · rw [if_neg h]
    by_cases h2 : j < k
    · rw [if_pos h2, if_pos (by omega)]
    · rw [if_neg h2, if_neg (by omega)]
theorem nk_lt {k n : Nat} (hk : k ≤ n) (hn : n ≤ 2000) (h : (nI k) < (nI n)) : k < n := (nI_ltI (by omega) (by omega)).mp h
theorem nk_ge {k n : Nat} (hk : k ≤ n) (hn : n ≤ 2000) (h : ¬ (nI k) < (nI n)) : k = n := by
  have h2 : ¬ k < n := fun g => h ((nI_ltI (by omega) (by omega)).mpr g)
  omega
set_option maxHeartbeats 4000000 in
set_option maxRecDepth 100000 in
theorem kX0_become (l : Launch) (G : GT) (pa : Nat) (pk : Nat) (pn : Nat) (po : Nat) (n : Nat) (ki : Nat → Int32) (kn : Nat → Int64) (on : Nat → Int32) (qa : Nat) (qk : Nat) (qn : Nat) (qo : Nat) (n2 : Nat) (ki2 : Nat → Int32) (kn2 : Nat → Int64) (on2 : Nat → Int32) (hn2 : n2 ≤ 12) (hz2 : ∀ k, on2 k = 0 ∨ on2 k = 1) : CV l yX0_become wsX0_become { frames := 0, cells := 0, slots := 0, locals := 0 } G [.ref pa, .ref qa] [(pa, .inr (0, [.ref pk, .ref pn, .ref po, .int (nI n)])), (pk, .inl (G.2.1 0, 12, .inl ki)), (pn, .inl (G.2.1 1, 12, .inr (.inl kn))), (po, .inl (G.2.1 2, 12, .inl on)), (qa, .inr (0, [.ref qk, .ref qn, .ref qo, .int (nI n2)])), (qk, .inl (G.2.1 0, 12, .inl ki2)), (qn, .inl (G.2.1 1, 12, .inr (.inl kn2))), (qo, .inl (G.2.1 2, 12, .inl on2))] [(pa, .inr (0, [.ref pk, .ref pn, .ref po, .int (nI n2)])), (pk, .inl (G.2.1 0, 12, .inl (mx n2 ki2 ki))), (pn, .inl (G.2.1 1, 12, .inr (.inl (mx n2 kn2 kn)))), (po, .inl (G.2.1 2, 12, .inl (mx n2 on2 on))), (qa, .inr (0, [.ref qk, .ref qn, .ref qo, .int (nI n2)])), (qk, .inl (G.2.1 0, 12, .inl ki2)), (qn, .inl (G.2.1 1, 12, .inr (.inl kn2))), (qo, .inl (G.2.1 2, 12, .inl on2))] := by
  refine en_v (cc := cX0_become) (maxL := 3) (ret := none) (own := RX0) (by decide) rfl rfl (Nat.le_of_ble_eq_true rfl) ?_
  intro p e s m below meth c A ls hx hb hr hts hown hml hlocks hA hK hE hP hD hS hl
  have hl : lv_has ls 3 [(0, .ref pa), (1, .ref qa)] := hl
  refine lv_iconst (v := (0:Int32)) hx hb dX0_become_0 (by decide) ?_
  refine lv_istore_n (lv' := [(2, .int (0:Int32)), (0, .ref pa), (1, .ref qa)]) hx hb dX0_become_1 rfl hl (by decide) rfl (fun ls hl => ?_)
  have hP : va_P G.1 vwCl [(pa, .inr (0, [.ref pk, .ref pn, .ref po, .int (nI n)])), (pk, .inl (G.2.1 0, 12, .inl (mx 0 ki2 ki))), (pn, .inl (G.2.1 1, 12, .inr (.inl (mx 0 kn2 kn)))), (po, .inl (G.2.1 2, 12, .inl (mx 0 on2 on))), (qa, .inr (0, [.ref qk, .ref qn, .ref qo, .int (nI n2)])), (qk, .inl (G.2.1 0, 12, .inl ki2)), (qn, .inl (G.2.1 1, 12, .inr (.inl kn2))), (qo, .inl (G.2.1 2, 12, .inl on2))] s.heap := by rw [mx_0, mx_0, mx_0]; exact hP
  have hD : va_D A [(pa, .inr (0, [.ref pk, .ref pn, .ref po, .int (nI n)])), (pk, .inl (G.2.1 0, 12, .inl (mx 0 ki2 ki))), (pn, .inl (G.2.1 1, 12, .inr (.inl (mx 0 kn2 kn)))), (po, .inl (G.2.1 2, 12, .inl (mx 0 on2 on))), (qa, .inr (0, [.ref qk, .ref qn, .ref qo, .int (nI n2)])), (qk, .inl (G.2.1 0, 12, .inl ki2)), (qn, .inl (G.2.1 1, 12, .inr (.inl kn2))), (qo, .inl (G.2.1 2, 12, .inl on2))] := by rw [mx_0, mx_0, mx_0]; exact hD
  refine lp_1 (T := Unit) G A n2 (fun k y => True) (fun k y => [(pa, .inr (0, [.ref pk, .ref pn, .ref po, .int (nI n)])), (pk, .inl (G.2.1 0, 12, .inl (mx k ki2 ki))), (pn, .inl (G.2.1 1, 12, .inr (.inl (mx k kn2 kn)))), (po, .inl (G.2.1 2, 12, .inl (mx k on2 on))), (qa, .inr (0, [.ref qk, .ref qn, .ref qo, .int (nI n2)])), (qk, .inl (G.2.1 0, 12, .inl ki2)), (qn, .inl (G.2.1 1, 12, .inr (.inl kn2))), (qo, .inl (G.2.1 2, 12, .inl on2))]) 3 (fun k y => [(2, .int (nI k)), (0, .ref pa), (1, .ref qa)]) 2 (fun k yy hk hi ih H locs ls hP hD hS hl => ?_) 0 () (by first | exact Nat.zero_le _ | omega) trivial _ _ _ hP hD hS (lv_sub hl [0, 1, 2] rfl)
  have hl : lv_has ls 3 [(2, .int (nI k)), (0, .ref pa), (1, .ref qa)] := hl
  have hi : True := hi
  have hP : va_P G.1 vwCl [(pa, .inr (0, [.ref pk, .ref pn, .ref po, .int (nI n)])), (pk, .inl (G.2.1 0, 12, .inl (mx k ki2 ki))), (pn, .inl (G.2.1 1, 12, .inr (.inl (mx k kn2 kn)))), (po, .inl (G.2.1 2, 12, .inl (mx k on2 on))), (qa, .inr (0, [.ref qk, .ref qn, .ref qo, .int (nI n2)])), (qk, .inl (G.2.1 0, 12, .inl ki2)), (qn, .inl (G.2.1 1, 12, .inr (.inl kn2))), (qo, .inl (G.2.1 2, 12, .inl on2))] H := hP
  have hD : va_D A [(pa, .inr (0, [.ref pk, .ref pn, .ref po, .int (nI n)])), (pk, .inl (G.2.1 0, 12, .inl (mx k ki2 ki))), (pn, .inl (G.2.1 1, 12, .inr (.inl (mx k kn2 kn)))), (po, .inl (G.2.1 2, 12, .inl (mx k on2 on))), (qa, .inr (0, [.ref qk, .ref qn, .ref qo, .int (nI n2)])), (qk, .inl (G.2.1 0, 12, .inl ki2)), (qn, .inl (G.2.1 1, 12, .inr (.inl kn2))), (qo, .inl (G.2.1 2, 12, .inl on2))] := hD
  refine lv_iload_n hx hb dX0_become_2 rfl (lv_at hl 0 rfl) ?_
  refine lv_aload_n hx hb dX0_become_3 rfl (lv_at hl 2 rfl) ?_
  refine va_get (D := G.1) (ci := 0) (v := .int (nI n2)) (C := RX0) (T := TX0) (N := 4) hx hb hts (by decide +kernel) hown hK hP 4 rfl rfl 3 (by decide) (hts (.fieldLink RX0 23 "PedalBoard$Pedals" "count" "I") (by decide +kernel)) (fun _ h9 => h9) rfl dX0_become_4 ?_
  refine bi_ge (tgt := 52) hx hb dX0_become_7 (by decide) (fun c_1 => ?_) (fun c_1 => ?_)
  · refine lv_aload_n hx hb dX0_become_10 rfl (lv_at hl 1 rfl) ?_
    refine va_get (D := G.1) (ci := 0) (v := .ref pk) (C := RX0) (T := TX0) (N := 4) hx hb hts (by decide +kernel) hown hK hP 0 rfl rfl 0 (by decide) (hts (.fieldLink RX0 9 "PedalBoard$Pedals" "kinds" "[I") (by decide +kernel)) (fun _ h9 => h9) rfl dX0_become_11 ?_
    refine lv_iload_n hx hb dX0_become_14 rfl (lv_at hl 0 rfl) ?_
    refine lv_aload_n hx hb dX0_become_15 rfl (lv_at hl 2 rfl) ?_
    refine va_get (D := G.1) (ci := 0) (v := .ref qk) (C := RX0) (T := TX0) (N := 4) hx hb hts (by decide +kernel) hown hK hP 4 rfl rfl 0 (by decide) (hts (.fieldLink RX0 9 "PedalBoard$Pedals" "kinds" "[I") (by decide +kernel)) (fun _ h9 => h9) rfl dX0_become_16 ?_
    refine lv_iload_n hx hb dX0_become_19 rfl (lv_at hl 0 rfl) ?_
    refine ar_ild hx hb hK hP 5 rfl k rfl (by have := nk_lt hk (by omega) c_1; omega) (by decide) dX0_become_20 ?_
    refine ar_ist hx hb hK hP hD hS 1 rfl k rfl (by have := nk_lt hk (by omega) c_1; omega) (by decide) dX0_become_21 (fun H locs hP hD hS => ?_)
    have hP : va_P G.1 vwCl [(pa, .inr (0, [.ref pk, .ref pn, .ref po, .int (nI n)])), (pk, .inl (G.2.1 0, 12, .inl (upd (mx k ki2 ki) k (ki2 k)))), (pn, .inl (G.2.1 1, 12, .inr (.inl (mx k kn2 kn)))), (po, .inl (G.2.1 2, 12, .inl (mx k on2 on))), (qa, .inr (0, [.ref qk, .ref qn, .ref qo, .int (nI n2)])), (qk, .inl (G.2.1 0, 12, .inl ki2)), (qn, .inl (G.2.1 1, 12, .inr (.inl kn2))), (qo, .inl (G.2.1 2, 12, .inl on2))] H := hP
    have hD : va_D A [(pa, .inr (0, [.ref pk, .ref pn, .ref po, .int (nI n)])), (pk, .inl (G.2.1 0, 12, .inl (upd (mx k ki2 ki) k (ki2 k)))), (pn, .inl (G.2.1 1, 12, .inr (.inl (mx k kn2 kn)))), (po, .inl (G.2.1 2, 12, .inl (mx k on2 on))), (qa, .inr (0, [.ref qk, .ref qn, .ref qo, .int (nI n2)])), (qk, .inl (G.2.1 0, 12, .inl ki2)), (qn, .inl (G.2.1 1, 12, .inr (.inl kn2))), (qo, .inl (G.2.1 2, 12, .inl on2))] := hD
    refine lv_aload_n hx hb dX0_become_22 rfl (lv_at hl 1 rfl) ?_
    refine va_get (D := G.1) (ci := 0) (v := .ref pn) (C := RX0) (T := TX0) (N := 4) hx hb hts (by decide +kernel) hown hK hP 0 rfl rfl 1 (by decide) (hts (.fieldLink RX0 15 "PedalBoard$Pedals" "knobs" "[J") (by decide +kernel)) (fun _ h9 => h9) rfl dX0_become_23 ?_
    refine lv_iload_n hx hb dX0_become_26 rfl (lv_at hl 0 rfl) ?_
    refine lv_aload_n hx hb dX0_become_27 rfl (lv_at hl 2 rfl) ?_
    refine va_get (D := G.1) (ci := 0) (v := .ref qn) (C := RX0) (T := TX0) (N := 4) hx hb hts (by decide +kernel) hown hK hP 4 rfl rfl 1 (by decide) (hts (.fieldLink RX0 15 "PedalBoard$Pedals" "knobs" "[J") (by decide +kernel)) (fun _ h9 => h9) rfl dX0_become_28 ?_
    refine lv_iload_n hx hb dX0_become_31 rfl (lv_at hl 0 rfl) ?_
    refine ar_lld hx hb hK hP 6 rfl k rfl (by have := nk_lt hk (by omega) c_1; omega) (by decide) dX0_become_32 ?_
    refine ar_lst hx hb hK hP hD hS 2 rfl k rfl (by have := nk_lt hk (by omega) c_1; omega) (by decide) dX0_become_33 (fun H locs hP hD hS => ?_)
    have hP : va_P G.1 vwCl [(pa, .inr (0, [.ref pk, .ref pn, .ref po, .int (nI n)])), (pk, .inl (G.2.1 0, 12, .inl (upd (mx k ki2 ki) k (ki2 k)))), (pn, .inl (G.2.1 1, 12, .inr (.inl (vp_updL (mx k kn2 kn) k (kn2 k))))), (po, .inl (G.2.1 2, 12, .inl (mx k on2 on))), (qa, .inr (0, [.ref qk, .ref qn, .ref qo, .int (nI n2)])), (qk, .inl (G.2.1 0, 12, .inl ki2)), (qn, .inl (G.2.1 1, 12, .inr (.inl kn2))), (qo, .inl (G.2.1 2, 12, .inl on2))] H := hP
    have hD : va_D A [(pa, .inr (0, [.ref pk, .ref pn, .ref po, .int (nI n)])), (pk, .inl (G.2.1 0, 12, .inl (upd (mx k ki2 ki) k (ki2 k)))), (pn, .inl (G.2.1 1, 12, .inr (.inl (vp_updL (mx k kn2 kn) k (kn2 k))))), (po, .inl (G.2.1 2, 12, .inl (mx k on2 on))), (qa, .inr (0, [.ref qk, .ref qn, .ref qo, .int (nI n2)])), (qk, .inl (G.2.1 0, 12, .inl ki2)), (qn, .inl (G.2.1 1, 12, .inr (.inl kn2))), (qo, .inl (G.2.1 2, 12, .inl on2))] := hD
    refine lv_aload_n hx hb dX0_become_34 rfl (lv_at hl 1 rfl) ?_
    refine va_get (D := G.1) (ci := 0) (v := .ref po) (C := RX0) (T := TX0) (N := 4) hx hb hts (by decide +kernel) hown hK hP 0 rfl rfl 2 (by decide) (hts (.fieldLink RX0 19 "PedalBoard$Pedals" "on" "[Z") (by decide +kernel)) (fun _ h9 => h9) rfl dX0_become_35 ?_
    refine lv_iload_n hx hb dX0_become_38 rfl (lv_at hl 0 rfl) ?_
    refine lv_aload_n hx hb dX0_become_39 rfl (lv_at hl 2 rfl) ?_
    refine va_get (D := G.1) (ci := 0) (v := .ref qo) (C := RX0) (T := TX0) (N := 4) hx hb hts (by decide +kernel) hown hK hP 4 rfl rfl 2 (by decide) (hts (.fieldLink RX0 19 "PedalBoard$Pedals" "on" "[Z") (by decide +kernel)) (fun _ h9 => h9) rfl dX0_become_40 ?_
    refine lv_iload_n hx hb dX0_become_43 rfl (lv_at hl 0 rfl) ?_
    refine ar_zld hx hb hK hP 7 rfl k rfl (by have := nk_lt hk (by omega) c_1; omega) (by decide) dX0_become_44 ?_
    refine ar_zst hx hb hK hP hD hS 3 rfl k rfl (by have := nk_lt hk (by omega) c_1; omega) (by decide) (hz2 k) dX0_become_45 (fun H locs hP hD hS => ?_)
    have hP : va_P G.1 vwCl [(pa, .inr (0, [.ref pk, .ref pn, .ref po, .int (nI n)])), (pk, .inl (G.2.1 0, 12, .inl (upd (mx k ki2 ki) k (ki2 k)))), (pn, .inl (G.2.1 1, 12, .inr (.inl (vp_updL (mx k kn2 kn) k (kn2 k))))), (po, .inl (G.2.1 2, 12, .inl (upd (mx k on2 on) k (on2 k)))), (qa, .inr (0, [.ref qk, .ref qn, .ref qo, .int (nI n2)])), (qk, .inl (G.2.1 0, 12, .inl ki2)), (qn, .inl (G.2.1 1, 12, .inr (.inl kn2))), (qo, .inl (G.2.1 2, 12, .inl on2))] H := hP
    have hD : va_D A [(pa, .inr (0, [.ref pk, .ref pn, .ref po, .int (nI n)])), (pk, .inl (G.2.1 0, 12, .inl (upd (mx k ki2 ki) k (ki2 k)))), (pn, .inl (G.2.1 1, 12, .inr (.inl (vp_updL (mx k kn2 kn) k (kn2 k))))), (po, .inl (G.2.1 2, 12, .inl (upd (mx k on2 on) k (on2 k)))), (qa, .inr (0, [.ref qk, .ref qn, .ref qo, .int (nI n2)])), (qk, .inl (G.2.1 0, 12, .inl ki2)), (qn, .inl (G.2.1 1, 12, .inr (.inl kn2))), (qo, .inl (G.2.1 2, 12, .inl on2))] := hD
    refine lv_iinc (v := (nI (k + 1))) (lv' := [(2, .int (nI (k + 1))), (0, .ref pa), (1, .ref qa)]) hx hb dX0_become_46 hl (k := 0) rfl (by rw [← nI_1]; rfl) (by decide) rfl (fun ls hl => ?_)
    refine lv_goto (tgt := 2) hx hb dX0_become_49 (by decide) ?_
    rw [mx_sI, mx_sJ, mx_sI] at hP hD
    exact ih (nk_lt hk (by omega) c_1) () trivial _ _ _ hP hD hS (lv_sub hl [0, 1, 2] rfl)
  · rw [nk_ge hk (by omega) c_1] at hP hD
    have hP : va_P G.1 vwCl [(pa, .inr (0, [.ref pk, .ref pn, .ref po, .int (nI n)])), (pk, .inl (G.2.1 0, 12, .inl (mx n2 ki2 ki))), (pn, .inl (G.2.1 1, 12, .inr (.inl (mx n2 kn2 kn)))), (po, .inl (G.2.1 2, 12, .inl (mx n2 on2 on))), (qa, .inr (0, [.ref qk, .ref qn, .ref qo, .int (nI n2)])), (qk, .inl (G.2.1 0, 12, .inl ki2)), (qn, .inl (G.2.1 1, 12, .inr (.inl kn2))), (qo, .inl (G.2.1 2, 12, .inl on2))] H := hP
    have hD : va_D A [(pa, .inr (0, [.ref pk, .ref pn, .ref po, .int (nI n)])), (pk, .inl (G.2.1 0, 12, .inl (mx n2 ki2 ki))), (pn, .inl (G.2.1 1, 12, .inr (.inl (mx n2 kn2 kn)))), (po, .inl (G.2.1 2, 12, .inl (mx n2 on2 on))), (qa, .inr (0, [.ref qk, .ref qn, .ref qo, .int (nI n2)])), (qk, .inl (G.2.1 0, 12, .inl ki2)), (qn, .inl (G.2.1 1, 12, .inr (.inl kn2))), (qo, .inl (G.2.1 2, 12, .inl on2))] := hD
    refine lv_aload_n hx hb dX0_become_52 rfl (lv_at hl 1 rfl) ?_
    refine lv_aload_n hx hb dX0_become_53 rfl (lv_at hl 2 rfl) ?_
    refine va_get (D := G.1) (ci := 0) (v := .int (nI n2)) (C := RX0) (T := TX0) (N := 4) hx hb hts (by decide +kernel) hown hK hP 4 rfl rfl 3 (by decide) (hts (.fieldLink RX0 23 "PedalBoard$Pedals" "count" "I") (by decide +kernel)) (fun _ h9 => h9) rfl dX0_become_54 ?_
    refine va_put (D := G.1) (ci := 0) (v := .int (nI n2)) (ty := .int) (C := RX0) (T := TX0) (N := 4) hx hb hts (by decide +kernel) tyX0 tyX0_ok nmX0 hown hK hP hD hS 0 rfl rfl 3 (by decide) (hts (.fieldLink RX0 23 "PedalBoard$Pedals" "count" "I") (by decide +kernel)) (fun _ h9 => h9) rfl (by decide +kernel) rfl rfl (Nat.le_of_ble_eq_true rfl) dX0_become_57 (fun H locs hP hD hS => ?_)
    have hP : va_P G.1 vwCl [(pa, .inr (0, [.ref pk, .ref pn, .ref po, .int (nI n2)])), (pk, .inl (G.2.1 0, 12, .inl (mx n2 ki2 ki))), (pn, .inl (G.2.1 1, 12, .inr (.inl (mx n2 kn2 kn)))), (po, .inl (G.2.1 2, 12, .inl (mx n2 on2 on))), (qa, .inr (0, [.ref qk, .ref qn, .ref qo, .int (nI n2)])), (qk, .inl (G.2.1 0, 12, .inl ki2)), (qn, .inl (G.2.1 1, 12, .inr (.inl kn2))), (qo, .inl (G.2.1 2, 12, .inl on2))] H := hP
    have hD : va_D A [(pa, .inr (0, [.ref pk, .ref pn, .ref po, .int (nI n2)])), (pk, .inl (G.2.1 0, 12, .inl (mx n2 ki2 ki))), (pn, .inl (G.2.1 1, 12, .inr (.inl (mx n2 kn2 kn)))), (po, .inl (G.2.1 2, 12, .inl (mx n2 on2 on))), (qa, .inr (0, [.ref qk, .ref qn, .ref qo, .int (nI n2)])), (qk, .inl (G.2.1 0, 12, .inl ki2)), (qn, .inl (G.2.1 1, 12, .inr (.inl kn2))), (qo, .inl (G.2.1 2, 12, .inl on2))] := hD
    exact rt_v hx hb hr hlocks hP hD hS dX0_become_60
def cOn (on : Nat → Int32) : Nat → Int32
  | 0 => 0
  | k + 1 => if on k = 0 then cOn on k else cOn on k + (1:Int32)
def fX0_countOn (n : Nat) (on : Nat → Int32) : Int32 := cOn on n
set_option maxHeartbeats 4000000 in
set_option maxRecDepth 100000 in
theorem kX0_countOn (l : Launch) (G : GT) (pa : Nat) (pk : Nat) (pn : Nat) (po : Nat) (n : Nat) (ki : Nat → Int32) (kn : Nat → Int64) (on : Nat → Int32) (hn : n ≤ 12) : CI l yX0_countOn wsX0_countOn { frames := 0, cells := 0, slots := 0, locals := 0 } G [.ref pa] [(pa, .inr (0, [.ref pk, .ref pn, .ref po, .int (nI n)])), (pk, .inl (G.2.1 0, 12, .inl ki)), (pn, .inl (G.2.1 1, 12, .inr (.inl kn))), (po, .inl (G.2.1 2, 12, .inl on))] (fX0_countOn n on) [(pa, .inr (0, [.ref pk, .ref pn, .ref po, .int (nI n)])), (pk, .inl (G.2.1 0, 12, .inl ki)), (pn, .inl (G.2.1 1, 12, .inr (.inl kn))), (po, .inl (G.2.1 2, 12, .inl on))] := by
  refine en_i (cc := cX0_countOn) (maxL := 3) (ret := (some .int)) (own := RX0) (by decide) rfl rfl (Nat.le_of_ble_eq_true rfl) ?_
  intro p e s m below meth c A ls hx hb hr hts hown hml hlocks hA hK hE hP hD hS hl
  have hl : lv_has ls 3 [(0, .ref pa)] := hl
  refine lv_iconst (v := (0:Int32)) hx hb dX0_countOn_0 (by decide) ?_
  refine lv_istore_n (lv' := [(1, .int (0:Int32)), (0, .ref pa)]) hx hb dX0_countOn_1 rfl hl (by decide) rfl (fun ls hl => ?_)
  refine lv_iconst (v := (0:Int32)) hx hb dX0_countOn_2 (by decide) ?_
  refine lv_istore_n (lv' := [(2, .int (0:Int32)), (1, .int (0:Int32)), (0, .ref pa)]) hx hb dX0_countOn_3 rfl hl (by decide) rfl (fun ls hl => ?_)
  refine lp_1 (T := Int32) G A n (fun k y => y = cOn on k) (fun k y => [(pa, .inr (0, [.ref pk, .ref pn, .ref po, .int (nI n)])), (pk, .inl (G.2.1 0, 12, .inl ki)), (pn, .inl (G.2.1 1, 12, .inr (.inl kn))), (po, .inl (G.2.1 2, 12, .inl on))]) 3 (fun k y => [(2, .int (nI k)), (1, .int y), (0, .ref pa)]) 4 (fun k yy hk hi ih H locs ls hP hD hS hl => ?_) 0 (0:Int32) (by first | exact Nat.zero_le _ | omega) rfl _ _ _ hP hD hS (lv_sub hl [0, 1, 2] rfl)
  obtain ⟨fd, rfl⟩ : ∃ z, z = yy := ⟨_, rfl⟩
  have hl : lv_has ls 3 [(2, .int (nI k)), (1, .int fd), (0, .ref pa)] := hl
  have hi : fd = cOn on k := hi
  have hP : va_P G.1 vwCl [(pa, .inr (0, [.ref pk, .ref pn, .ref po, .int (nI n)])), (pk, .inl (G.2.1 0, 12, .inl ki)), (pn, .inl (G.2.1 1, 12, .inr (.inl kn))), (po, .inl (G.2.1 2, 12, .inl on))] H := hP
  have hD : va_D A [(pa, .inr (0, [.ref pk, .ref pn, .ref po, .int (nI n)])), (pk, .inl (G.2.1 0, 12, .inl ki)), (pn, .inl (G.2.1 1, 12, .inr (.inl kn))), (po, .inl (G.2.1 2, 12, .inl on))] := hD
  refine lv_iload_n hx hb dX0_countOn_4 rfl (lv_at hl 0 rfl) ?_
  refine lv_aload_n hx hb dX0_countOn_5 rfl (lv_at hl 2 rfl) ?_
  refine va_get (D := G.1) (ci := 0) (v := .int (nI n)) (C := RX0) (T := TX0) (N := 4) hx hb hts (by decide +kernel) hown hK hP 0 rfl rfl 3 (by decide) (hts (.fieldLink RX0 23 "PedalBoard$Pedals" "count" "I") (by decide +kernel)) (fun _ h9 => h9) rfl dX0_countOn_6 ?_
  refine bi_ge (tgt := 30) hx hb dX0_countOn_9 (by decide) (fun c_1 => ?_) (fun c_1 => ?_)
  · refine lv_aload_n hx hb dX0_countOn_12 rfl (lv_at hl 2 rfl) ?_
    refine va_get (D := G.1) (ci := 0) (v := .ref po) (C := RX0) (T := TX0) (N := 4) hx hb hts (by decide +kernel) hown hK hP 0 rfl rfl 2 (by decide) (hts (.fieldLink RX0 19 "PedalBoard$Pedals" "on" "[Z") (by decide +kernel)) (fun _ h9 => h9) rfl dX0_countOn_13 ?_
    refine lv_iload_n hx hb dX0_countOn_16 rfl (lv_at hl 0 rfl) ?_
    refine ar_zld hx hb hK hP 3 rfl k rfl (by have := nk_lt hk (by omega) c_1; omega) (by decide) dX0_countOn_17 ?_
    refine bz_eq (tgt := 24) hx hb dX0_countOn_18 (by decide) (fun c_2 => ?_) (fun c_2 => ?_)
    · refine lv_iinc (v := (nI (k + 1))) (lv' := [(2, .int (nI (k + 1))), (1, .int fd), (0, .ref pa)]) hx hb dX0_countOn_24 hl (k := 0) rfl (by rw [← nI_1]; rfl) (by decide) rfl (fun ls hl => ?_)
      refine lv_goto (tgt := 4) hx hb dX0_countOn_27 (by decide) ?_
      exact ih (nk_lt hk (by omega) c_1) fd (by show _ = cOn on (k + 1); rw [cOn, if_pos c_2]; exact hi) _ _ _ hP hD hS (lv_sub hl [0, 1, 2] rfl)
    · refine lv_iinc (v := (fd + (1:Int32))) (lv' := [(1, .int (fd + (1:Int32))), (2, .int (nI k)), (0, .ref pa)]) hx hb dX0_countOn_21 hl (k := 1) rfl (by rfl) (by decide) rfl (fun ls hl => ?_)
      refine lv_iinc (v := (nI (k + 1))) (lv' := [(2, .int (nI (k + 1))), (1, .int (fd + (1:Int32))), (0, .ref pa)]) hx hb dX0_countOn_24 hl (k := 1) rfl (by rw [← nI_1]; rfl) (by decide) rfl (fun ls hl => ?_)
      refine lv_goto (tgt := 4) hx hb dX0_countOn_27 (by decide) ?_
      exact ih (nk_lt hk (by omega) c_1) (fd + (1:Int32)) (by show _ = cOn on (k + 1); rw [cOn, if_neg c_2, ← hi]) _ _ _ hP hD hS (lv_sub hl [0, 1, 2] rfl)
  · refine lv_iload_n hx hb dX0_countOn_30 rfl (lv_at hl 1 rfl) ?_
    exact rt_i hx hb hr hlocks hP hD hS dX0_countOn_31 (by rw [hi, nk_ge hk (by omega) c_1]; rfl)
