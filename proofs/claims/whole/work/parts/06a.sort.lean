def fX1_isWhole (i : Nat) : Int32 := (if (so_frac i) = 0 then (1:Int32) else (0:Int32))
set_option maxHeartbeats 4000000 in
set_option maxRecDepth 100000 in
theorem kX1_isWhole (l : Launch) (G : GT) (i : Nat) (hi : i < 4) : CI l yX1_isWhole wsX1_isWhole { frames := 0, cells := 0, slots := 0, locals := 0 } G [.ref (G.2.2.1 i)] [] (fX1_isWhole i) [] := by
  refine en_i (cc := cX1_isWhole) (maxL := 1) (ret := (some .boolean)) (own := RX1) (by decide) rfl rfl (Nat.le_of_ble_eq_true rfl) ?_
  intro p e s m below meth c A ls hx hb hr hts hown hml hlocks hA hK hE hP hD hS hl
  have hl : lv_has ls 1 [(0, .ref (G.2.2.1 i))] := hl
  refine lv_aload_n hx hb dX1_isWhole_0 rfl (lv_at hl 0 rfl) ?_
  refine sg_fraction hx hb hE hi hS hown (hts (.fieldLink RX1 41 "PedalBoard$Sort" "fraction" "I") (by decide +kernel)) dX1_isWhole_1 ?_
  refine bz_ne (tgt := 11) hx hb dX1_isWhole_4 (by decide) (fun c_1 => ?_) (fun c_1 => ?_)
  · refine lv_iconst (v := (1:Int32)) hx hb dX1_isWhole_7 (by decide) ?_
    refine lv_goto (tgt := 12) hx hb dX1_isWhole_8 (by decide) ?_
    exact rt_z hx hb hr hlocks hP hD hS dX1_isWhole_12 (by rw [fX1_isWhole, if_pos c_1]) (z_nar (Or.inr rfl))
  · refine lv_iconst (v := (0:Int32)) hx hb dX1_isWhole_11 (by decide) ?_
    exact rt_z hx hb hr hlocks hP hD hS dX1_isWhole_12 (by rw [fX1_isWhole, if_neg c_1]) (z_nar (Or.inl rfl))
theorem z_X1_isWhole (i : Nat) : fX1_isWhole i = 0 ∨ fX1_isWhole i = 1 := by
  unfold fX1_isWhole; repeat (first | exact Or.inl rfl | exact Or.inr rfl | split)
def fX1_infinite (i : Nat) : Int64 := (shL (((2:Int64) * (so_bias i).toInt64) + (1:Int64)) (so_frac i))
set_option maxHeartbeats 4000000 in
set_option maxRecDepth 100000 in
theorem kX1_infinite (l : Launch) (G : GT) (i : Nat) (hi : i < 4) : CL l yX1_infinite wsX1_infinite { frames := 0, cells := 0, slots := 0, locals := 0 } G [.ref (G.2.2.1 i)] [] (fX1_infinite i) [] := by
  refine en_l (cc := cX1_infinite) (maxL := 1) (ret := (some .long)) (own := RX1) (by decide) rfl rfl (Nat.le_of_ble_eq_true rfl) ?_
  intro p e s m below meth c A ls hx hb hr hts hown hml hlocks hA hK hE hP hD hS hl
  have hl : lv_has ls 1 [(0, .ref (G.2.2.1 i))] := hl
  refine lv_ldc2 (v := (2:Int64)) hx hb hown (hts (.constantLong RX1 51 (2)) (by decide +kernel)) dX1_infinite_0 ?_
  refine lv_aload_n hx hb dX1_infinite_3 rfl (lv_at hl 0 rfl) ?_
  refine sg_bias hx hb hE hi hS hown (hts (.fieldLink RX1 44 "PedalBoard$Sort" "bias" "I") (by decide +kernel)) dX1_infinite_4 ?_
  refine r_i2l hx hb dX1_infinite_7 ?_
  refine lv_lmul hx hb dX1_infinite_8 ?_
  refine lv_lconst (v := (1:Int64)) hx hb dX1_infinite_9 (by decide) ?_
  refine lv_ladd hx hb dX1_infinite_10 ?_
  refine lv_aload_n hx hb dX1_infinite_11 rfl (lv_at hl 0 rfl) ?_
  refine sg_fraction hx hb hE hi hS hown (hts (.fieldLink RX1 41 "PedalBoard$Sort" "fraction" "I") (by decide +kernel)) dX1_infinite_12 ?_
  refine r_lshl hx hb dX1_infinite_15 ?_
  exact rt_l hx hb hr hlocks hP hD hS dX1_infinite_16 (by rw [fX1_infinite])
def fX1_one (i : Nat) : Int64 := (shL ((so_bias i).toInt64) (so_frac i))
set_option maxHeartbeats 4000000 in
set_option maxRecDepth 100000 in
theorem kX1_one (l : Launch) (G : GT) (i : Nat) (hi : i < 4) : CL l yX1_one wsX1_one { frames := 0, cells := 0, slots := 0, locals := 0 } G [.ref (G.2.2.1 i)] [] (fX1_one i) [] := by
  refine en_l (cc := cX1_one) (maxL := 1) (ret := (some .long)) (own := RX1) (by decide) rfl rfl (Nat.le_of_ble_eq_true rfl) ?_
  intro p e s m below meth c A ls hx hb hr hts hown hml hlocks hA hK hE hP hD hS hl
  have hl : lv_has ls 1 [(0, .ref (G.2.2.1 i))] := hl
  refine lv_aload_n hx hb dX1_one_0 rfl (lv_at hl 0 rfl) ?_
  refine sg_bias hx hb hE hi hS hown (hts (.fieldLink RX1 44 "PedalBoard$Sort" "bias" "I") (by decide +kernel)) dX1_one_1 ?_
  refine r_i2l hx hb dX1_one_4 ?_
  refine lv_aload_n hx hb dX1_one_5 rfl (lv_at hl 0 rfl) ?_
  refine sg_fraction hx hb hE hi hS hown (hts (.fieldLink RX1 41 "PedalBoard$Sort" "fraction" "I") (by decide +kernel)) dX1_one_6 ?_
  refine r_lshl hx hb dX1_one_9 ?_
  exact rt_l hx hb hr hlocks hP hD hS dX1_one_10 (by rw [fX1_one])
def fX1_oneHalf (i : Nat) : Int64 := (shL ((so_bias i).toInt64 - (1:Int64)) (so_frac i))
set_option maxHeartbeats 4000000 in
set_option maxRecDepth 100000 in
theorem kX1_oneHalf (l : Launch) (G : GT) (i : Nat) (hi : i < 4) : CL l yX1_oneHalf wsX1_oneHalf { frames := 0, cells := 0, slots := 0, locals := 0 } G [.ref (G.2.2.1 i)] [] (fX1_oneHalf i) [] := by
  refine en_l (cc := cX1_oneHalf) (maxL := 1) (ret := (some .long)) (own := RX1) (by decide) rfl rfl (Nat.le_of_ble_eq_true rfl) ?_
  intro p e s m below meth c A ls hx hb hr hts hown hml hlocks hA hK hE hP hD hS hl
  have hl : lv_has ls 1 [(0, .ref (G.2.2.1 i))] := hl
  refine lv_aload_n hx hb dX1_oneHalf_0 rfl (lv_at hl 0 rfl) ?_
  refine sg_bias hx hb hE hi hS hown (hts (.fieldLink RX1 44 "PedalBoard$Sort" "bias" "I") (by decide +kernel)) dX1_oneHalf_1 ?_
  refine r_i2l hx hb dX1_oneHalf_4 ?_
  refine lv_lconst (v := (1:Int64)) hx hb dX1_oneHalf_5 (by decide) ?_
  refine lv_lsub hx hb dX1_oneHalf_6 ?_
  refine lv_aload_n hx hb dX1_oneHalf_7 rfl (lv_at hl 0 rfl) ?_
  refine sg_fraction hx hb hE hi hS hown (hts (.fieldLink RX1 41 "PedalBoard$Sort" "fraction" "I") (by decide +kernel)) dX1_oneHalf_8 ?_
  refine r_lshl hx hb dX1_oneHalf_11 ?_
  exact rt_l hx hb hr hlocks hP hD hS dX1_oneHalf_12 (by rw [fX1_oneHalf])
def fX1_codeOf (i : Nat) (hh : Int32) (lo : Int32) : Int64 := (if (so_bits i) = (32:Int32) then lo.toInt64 else ((shL hh.toInt64 (32:Int32)) ||| (lo.toInt64 &&& (4294967295:Int64))))
set_option maxHeartbeats 4000000 in
set_option maxRecDepth 100000 in
theorem kX1_codeOf (l : Launch) (G : GT) (i : Nat) (hh : Int32) (lo : Int32) (hi : i < 4) : CL l yX1_codeOf wsX1_codeOf { frames := 0, cells := 0, slots := 0, locals := 0 } G [.ref (G.2.2.1 i), .int hh, .int lo] [] (fX1_codeOf i hh lo) [] := by
  refine en_l (cc := cX1_codeOf) (maxL := 3) (ret := (some .long)) (own := RX1) (by decide) rfl rfl (Nat.le_of_ble_eq_true rfl) ?_
  intro p e s m below meth c A ls hx hb hr hts hown hml hlocks hA hK hE hP hD hS hl
  have hl : lv_has ls 3 [(0, .ref (G.2.2.1 i)), (1, .int hh), (2, .int lo)] := hl
  refine lv_aload_n hx hb dX1_codeOf_0 rfl (lv_at hl 0 rfl) ?_
  refine sg_bits hx hb hE hi hS hown (hts (.fieldLink RX1 37 "PedalBoard$Sort" "bits" "I") (by decide +kernel)) dX1_codeOf_1 ?_
  refine lv_bipush (v := (32:Int32)) hx hb dX1_codeOf_4 (by decide) ?_
  refine bi_ne (tgt := 14) hx hb dX1_codeOf_6 (by decide) (fun c_1 => ?_) (fun c_1 => ?_)
  · refine lv_iload_n hx hb dX1_codeOf_9 rfl (lv_at hl 2 rfl) ?_
    refine r_i2l hx hb dX1_codeOf_10 ?_
    refine lv_goto (tgt := 26) hx hb dX1_codeOf_11 (by decide) ?_
    exact rt_l hx hb hr hlocks hP hD hS dX1_codeOf_26 (by rw [fX1_codeOf, if_pos c_1])
  · refine lv_iload_n hx hb dX1_codeOf_14 rfl (lv_at hl 1 rfl) ?_
    refine r_i2l hx hb dX1_codeOf_15 ?_
    refine lv_bipush (v := (32:Int32)) hx hb dX1_codeOf_16 (by decide) ?_
    refine r_lshl hx hb dX1_codeOf_18 ?_
    refine lv_iload_n hx hb dX1_codeOf_19 rfl (lv_at hl 2 rfl) ?_
    refine r_i2l hx hb dX1_codeOf_20 ?_
    refine lv_ldc2 (v := (4294967295:Int64)) hx hb hown (hts (.constantLong RX1 53 (4294967295)) (by decide +kernel)) dX1_codeOf_21 ?_
    refine lv_land hx hb dX1_codeOf_24 ?_
    refine lv_lor hx hb dX1_codeOf_25 ?_
    exact rt_l hx hb hr hlocks hP hD hS dX1_codeOf_26 (by rw [fX1_codeOf, if_neg c_1])
def fX1_isIll (i : Nat) (v : Int64) : Int32 := (if (fX1_isWhole i) = 0 then (if (fX1_infinite i) < (v &&& (so_mask i)) then (1:Int32) else (0:Int32)) else (0:Int32))
set_option maxHeartbeats 4000000 in
set_option maxRecDepth 100000 in
theorem kX1_isIll (l : Launch) (G : GT) (i : Nat) (v : Int64) (hi : i < 4) : CI l yX1_isIll wsX1_isIll { frames := 1, cells := 0, slots := 0, locals := 20 } G [.ref (G.2.2.1 i), .long v] [] (fX1_isIll i v) [] := by
  refine en_i (cc := cX1_isIll) (maxL := 3) (ret := (some .boolean)) (own := RX1) (by decide) rfl rfl (Nat.le_of_ble_eq_true rfl) ?_
  intro p e s m below meth c A ls hx hb hr hts hown hml hlocks hA hK hE hP hD hS hl
  have hl : lv_has ls 3 [(0, .ref (G.2.2.1 i)), (1, .long v)] := hl
  refine lv_aload_n hx hb dX1_isIll_0 rfl (lv_at hl 0 rfl) ?_
  refine cv_i (As := []) (rest := []) ⟨hx, hb, hml, hown, hts⟩ (kX1_isWhole l G i hi) (cwV 0 hts gX1_isIll_X1_isWhole rfl rfl rfl (by decide +kernel) ⟨Nat.le_of_ble_eq_true rfl, Nat.le_of_ble_eq_true rfl⟩) (so_rec hE hi hS) hE hK hP hD hS hA hl.1 [] rfl rfl rfl rfl rfl rfl (Nat.le_of_ble_eq_true rfl) dX1_isIll_1 ⟨Nat.zero_le _, Nat.zero_le _⟩ (fun H locs hP hD hS => ?_)
  have hP : va_P G.1 vwCl [] H := hP
  have hD : va_D A [] := hD
  refine bz_ne (tgt := 25) hx hb dX1_isIll_4 (by decide) (fun c_1 => ?_) (fun c_1 => ?_)
  · refine lv_lload_n hx hb dX1_isIll_7 rfl (lv_at hl 1 rfl) ?_
    refine lv_aload_n hx hb dX1_isIll_8 rfl (lv_at hl 0 rfl) ?_
    refine sg_sizeMask hx hb hE hi hS hown (hts (.fieldLink RX1 47 "PedalBoard$Sort" "sizeMask" "J") (by decide +kernel)) dX1_isIll_9 ?_
    refine lv_land hx hb dX1_isIll_12 ?_
    refine lv_aload_n hx hb dX1_isIll_13 rfl (lv_at hl 0 rfl) ?_
    refine cv_l (As := []) (rest := [.long (v &&& (so_mask i))]) ⟨hx, hb, hml, hown, hts⟩ (kX1_infinite l G i hi) (cwV 0 hts gX1_isIll_X1_infinite rfl rfl rfl (by decide +kernel) ⟨Nat.le_of_ble_eq_true rfl, Nat.le_of_ble_eq_true rfl⟩) (so_rec hE hi hS) hE hK hP hD hS hA hl.1 [] rfl rfl rfl rfl rfl rfl (Nat.le_of_ble_eq_true rfl) dX1_isIll_14 ⟨Nat.zero_le _, Nat.zero_le _⟩ (fun H locs hP hD hS => ?_)
    have hP : va_P G.1 vwCl [] H := hP
    have hD : va_D A [] := hD
    refine bl_le (tgt := 25) hx hb dX1_isIll_17 dX1_isIll_18 (by decide) (fun c_2 => ?_) (fun c_2 => ?_)
    · refine lv_iconst (v := (1:Int32)) hx hb dX1_isIll_21 (by decide) ?_
      refine lv_goto (tgt := 26) hx hb dX1_isIll_22 (by decide) ?_
      exact rt_z hx hb hr hlocks hP hD hS dX1_isIll_26 (by rw [fX1_isIll, if_pos c_1, if_pos c_2]) (z_nar (Or.inr rfl))
    · refine lv_iconst (v := (0:Int32)) hx hb dX1_isIll_25 (by decide) ?_
      exact rt_z hx hb hr hlocks hP hD hS dX1_isIll_26 (by rw [fX1_isIll, if_pos c_1, if_neg c_2]) (z_nar (Or.inl rfl))
  · refine lv_iconst (v := (0:Int32)) hx hb dX1_isIll_25 (by decide) ?_
    exact rt_z hx hb hr hlocks hP hD hS dX1_isIll_26 (by rw [fX1_isIll, if_neg c_1]) (z_nar (Or.inl rfl))
theorem z_X1_isIll (i : Nat) (v : Int64) : fX1_isIll i v = 0 ∨ fX1_isIll i v = 1 := by
  unfold fX1_isIll; repeat (first | exact Or.inl rfl | exact Or.inr rfl | split)
def fX1_isZero (i : Nat) (v : Int64) : Int32 := (if (fX1_isWhole i) = 0 then (if (v &&& (so_mask i)) = (0:Int64) then (1:Int32) else (0:Int32)) else (if v = (0:Int64) then (1:Int32) else (0:Int32)))
set_option maxHeartbeats 4000000 in
set_option maxRecDepth 100000 in
theorem kX1_isZero (l : Launch) (G : GT) (i : Nat) (v : Int64) (hi : i < 4) : CI l yX1_isZero wsX1_isZero { frames := 1, cells := 0, slots := 0, locals := 20 } G [.ref (G.2.2.1 i), .long v] [] (fX1_isZero i v) [] := by
  refine en_i (cc := cX1_isZero) (maxL := 3) (ret := (some .boolean)) (own := RX1) (by decide) rfl rfl (Nat.le_of_ble_eq_true rfl) ?_
  intro p e s m below meth c A ls hx hb hr hts hown hml hlocks hA hK hE hP hD hS hl
  have hl : lv_has ls 3 [(0, .ref (G.2.2.1 i)), (1, .long v)] := hl
  refine lv_aload_n hx hb dX1_isZero_0 rfl (lv_at hl 0 rfl) ?_
  refine cv_i (As := []) (rest := []) ⟨hx, hb, hml, hown, hts⟩ (kX1_isWhole l G i hi) (cwV 0 hts gX1_isZero_X1_isWhole rfl rfl rfl (by decide +kernel) ⟨Nat.le_of_ble_eq_true rfl, Nat.le_of_ble_eq_true rfl⟩) (so_rec hE hi hS) hE hK hP hD hS hA hl.1 [] rfl rfl rfl rfl rfl rfl (Nat.le_of_ble_eq_true rfl) dX1_isZero_1 ⟨Nat.zero_le _, Nat.zero_le _⟩ (fun H locs hP hD hS => ?_)
  have hP : va_P G.1 vwCl [] H := hP
  have hD : va_D A [] := hD
  refine bz_eq (tgt := 21) hx hb dX1_isZero_4 (by decide) (fun c_1 => ?_) (fun c_1 => ?_)
  · refine lv_lload_n hx hb dX1_isZero_21 rfl (lv_at hl 1 rfl) ?_
    refine lv_aload_n hx hb dX1_isZero_22 rfl (lv_at hl 0 rfl) ?_
    refine sg_sizeMask hx hb hE hi hS hown (hts (.fieldLink RX1 47 "PedalBoard$Sort" "sizeMask" "J") (by decide +kernel)) dX1_isZero_23 ?_
    refine lv_land hx hb dX1_isZero_26 ?_
    refine lv_lconst (v := (0:Int64)) hx hb dX1_isZero_27 (by decide) ?_
    refine bl_ne (tgt := 36) hx hb dX1_isZero_28 dX1_isZero_29 (by decide) (fun c_2 => ?_) (fun c_2 => ?_)
    · refine lv_iconst (v := (1:Int32)) hx hb dX1_isZero_32 (by decide) ?_
      refine lv_goto (tgt := 37) hx hb dX1_isZero_33 (by decide) ?_
      exact rt_z hx hb hr hlocks hP hD hS dX1_isZero_37 (by rw [fX1_isZero, if_pos c_1, if_pos c_2]) (z_nar (Or.inr rfl))
    · refine lv_iconst (v := (0:Int32)) hx hb dX1_isZero_36 (by decide) ?_
      exact rt_z hx hb hr hlocks hP hD hS dX1_isZero_37 (by rw [fX1_isZero, if_pos c_1, if_neg c_2]) (z_nar (Or.inl rfl))
  · refine lv_lload_n hx hb dX1_isZero_7 rfl (lv_at hl 1 rfl) ?_
    refine lv_lconst (v := (0:Int64)) hx hb dX1_isZero_8 (by decide) ?_
    refine bl_ne (tgt := 17) hx hb dX1_isZero_9 dX1_isZero_10 (by decide) (fun c_3 => ?_) (fun c_3 => ?_)
    · refine lv_iconst (v := (1:Int32)) hx hb dX1_isZero_13 (by decide) ?_
      refine lv_goto (tgt := 37) hx hb dX1_isZero_14 (by decide) ?_
      exact rt_z hx hb hr hlocks hP hD hS dX1_isZero_37 (by rw [fX1_isZero, if_neg c_1, if_pos c_3]) (z_nar (Or.inr rfl))
    · refine lv_iconst (v := (0:Int32)) hx hb dX1_isZero_17 (by decide) ?_
      refine lv_goto (tgt := 37) hx hb dX1_isZero_18 (by decide) ?_
      exact rt_z hx hb hr hlocks hP hD hS dX1_isZero_37 (by rw [fX1_isZero, if_neg c_1, if_neg c_3]) (z_nar (Or.inl rfl))
theorem z_X1_isZero (i : Nat) (v : Int64) : fX1_isZero i v = 0 ∨ fX1_isZero i v = 1 := by
  unfold fX1_isZero; repeat (first | exact Or.inl rfl | exact Or.inr rfl | split)
def fX1_hasKind (i : Nat) (kd : Int32) : Int32 := (if kd < (3:Int32) then (if kd < 0 then (0:Int32) else (if (8:Int32) < kd then (0:Int32) else (1:Int32))) else (if (7:Int32) < kd then (if kd < 0 then (0:Int32) else (if (8:Int32) < kd then (0:Int32) else (1:Int32))) else (if (fX1_isWhole i) = 0 then (1:Int32) else (0:Int32))))
set_option maxHeartbeats 4000000 in
set_option maxRecDepth 100000 in
theorem kX1_hasKind (l : Launch) (G : GT) (i : Nat) (kd : Int32) (hi : i < 4) : CI l yX1_hasKind wsX1_hasKind { frames := 1, cells := 0, slots := 0, locals := 20 } G [.ref (G.2.2.1 i), .int kd] [] (fX1_hasKind i kd) [] := by
  refine en_i (cc := cX1_hasKind) (maxL := 2) (ret := (some .boolean)) (own := RX1) (by decide) rfl rfl (Nat.le_of_ble_eq_true rfl) ?_
  intro p e s m below meth c A ls hx hb hr hts hown hml hlocks hA hK hE hP hD hS hl
  have hl : lv_has ls 2 [(0, .ref (G.2.2.1 i)), (1, .int kd)] := hl
  refine lv_iload_n hx hb dX1_hasKind_0 rfl (lv_at hl 1 rfl) ?_
  refine lv_iconst (v := (3:Int32)) hx hb dX1_hasKind_1 (by decide) ?_
  refine bi_lt (tgt := 24) hx hb dX1_hasKind_2 (by decide) (fun c_1 => ?_) (fun c_1 => ?_)
  · refine lv_iload_n hx hb dX1_hasKind_24 rfl (lv_at hl 1 rfl) ?_
    refine bz_lt (tgt := 38) hx hb dX1_hasKind_25 (by decide) (fun c_2 => ?_) (fun c_2 => ?_)
    · refine lv_iconst (v := (0:Int32)) hx hb dX1_hasKind_38 (by decide) ?_
      exact rt_z hx hb hr hlocks hP hD hS dX1_hasKind_39 (by rw [fX1_hasKind, if_pos c_1, if_pos c_2]) (z_nar (Or.inl rfl))
    · refine lv_iload_n hx hb dX1_hasKind_28 rfl (lv_at hl 1 rfl) ?_
      refine lv_bipush (v := (8:Int32)) hx hb dX1_hasKind_29 (by decide) ?_
      refine bi_gt (tgt := 38) hx hb dX1_hasKind_31 (by decide) (fun c_3 => ?_) (fun c_3 => ?_)
      · refine lv_iconst (v := (0:Int32)) hx hb dX1_hasKind_38 (by decide) ?_
        exact rt_z hx hb hr hlocks hP hD hS dX1_hasKind_39 (by rw [fX1_hasKind, if_pos c_1, if_neg c_2, if_pos c_3]) (z_nar (Or.inl rfl))
      · refine lv_iconst (v := (1:Int32)) hx hb dX1_hasKind_34 (by decide) ?_
        refine lv_goto (tgt := 39) hx hb dX1_hasKind_35 (by decide) ?_
        exact rt_z hx hb hr hlocks hP hD hS dX1_hasKind_39 (by rw [fX1_hasKind, if_pos c_1, if_neg c_2, if_neg c_3]) (z_nar (Or.inr rfl))
  · refine lv_iload_n hx hb dX1_hasKind_5 rfl (lv_at hl 1 rfl) ?_
    refine lv_bipush (v := (7:Int32)) hx hb dX1_hasKind_6 (by decide) ?_
    refine bi_gt (tgt := 24) hx hb dX1_hasKind_8 (by decide) (fun c_4 => ?_) (fun c_4 => ?_)
    · refine lv_iload_n hx hb dX1_hasKind_24 rfl (lv_at hl 1 rfl) ?_
      refine bz_lt (tgt := 38) hx hb dX1_hasKind_25 (by decide) (fun c_5 => ?_) (fun c_5 => ?_)
      · refine lv_iconst (v := (0:Int32)) hx hb dX1_hasKind_38 (by decide) ?_
        exact rt_z hx hb hr hlocks hP hD hS dX1_hasKind_39 (by rw [fX1_hasKind, if_neg c_1, if_pos c_4, if_pos c_5]) (z_nar (Or.inl rfl))
      · refine lv_iload_n hx hb dX1_hasKind_28 rfl (lv_at hl 1 rfl) ?_
        refine lv_bipush (v := (8:Int32)) hx hb dX1_hasKind_29 (by decide) ?_
        refine bi_gt (tgt := 38) hx hb dX1_hasKind_31 (by decide) (fun c_6 => ?_) (fun c_6 => ?_)
        · refine lv_iconst (v := (0:Int32)) hx hb dX1_hasKind_38 (by decide) ?_
          exact rt_z hx hb hr hlocks hP hD hS dX1_hasKind_39 (by rw [fX1_hasKind, if_neg c_1, if_pos c_4, if_neg c_5, if_pos c_6]) (z_nar (Or.inl rfl))
        · refine lv_iconst (v := (1:Int32)) hx hb dX1_hasKind_34 (by decide) ?_
          refine lv_goto (tgt := 39) hx hb dX1_hasKind_35 (by decide) ?_
          exact rt_z hx hb hr hlocks hP hD hS dX1_hasKind_39 (by rw [fX1_hasKind, if_neg c_1, if_pos c_4, if_neg c_5, if_neg c_6]) (z_nar (Or.inr rfl))
    · refine lv_aload_n hx hb dX1_hasKind_11 rfl (lv_at hl 0 rfl) ?_
      refine cv_i (As := []) (rest := []) ⟨hx, hb, hml, hown, hts⟩ (kX1_isWhole l G i hi) (cwV 0 hts gX1_hasKind_X1_isWhole rfl rfl rfl (by decide +kernel) ⟨Nat.le_of_ble_eq_true rfl, Nat.le_of_ble_eq_true rfl⟩) (so_rec hE hi hS) hE hK hP hD hS hA hl.1 [] rfl rfl rfl rfl rfl rfl (Nat.le_of_ble_eq_true rfl) dX1_hasKind_12 ⟨Nat.zero_le _, Nat.zero_le _⟩ (fun H locs hP hD hS => ?_)
      have hP : va_P G.1 vwCl [] H := hP
      have hD : va_D A [] := hD
      refine bz_ne (tgt := 22) hx hb dX1_hasKind_15 (by decide) (fun c_7 => ?_) (fun c_7 => ?_)
      · refine lv_iconst (v := (1:Int32)) hx hb dX1_hasKind_18 (by decide) ?_
        refine lv_goto (tgt := 23) hx hb dX1_hasKind_19 (by decide) ?_
        exact rt_z hx hb hr hlocks hP hD hS dX1_hasKind_23 (by rw [fX1_hasKind, if_neg c_1, if_neg c_4, if_pos c_7]) (z_nar (Or.inr rfl))
      · refine lv_iconst (v := (0:Int32)) hx hb dX1_hasKind_22 (by decide) ?_
        exact rt_z hx hb hr hlocks hP hD hS dX1_hasKind_23 (by rw [fX1_hasKind, if_neg c_1, if_neg c_4, if_neg c_7]) (z_nar (Or.inl rfl))
theorem z_X1_hasKind (i : Nat) (kd : Int32) : fX1_hasKind i kd = 0 ∨ fX1_hasKind i kd = 1 := by
  unfold fX1_hasKind; repeat (first | exact Or.inl rfl | exact Or.inr rfl | split)
def fX1_rank (i : Nat) (v : Int64) : Int64 := (if (fX1_isWhole i) = 0 then (if v < (0:Int64) then (v ^^^ (so_mask i)) else v) else v)
set_option maxHeartbeats 4000000 in
set_option maxRecDepth 100000 in
theorem kX1_rank (l : Launch) (G : GT) (i : Nat) (v : Int64) (hi : i < 4) : CL l yX1_rank wsX1_rank { frames := 1, cells := 0, slots := 0, locals := 20 } G [.ref (G.2.2.1 i), .long v] [] (fX1_rank i v) [] := by
  refine en_l (cc := cX1_rank) (maxL := 3) (ret := (some .long)) (own := RX1) (by decide) rfl rfl (Nat.le_of_ble_eq_true rfl) ?_
  intro p e s m below meth c A ls hx hb hr hts hown hml hlocks hA hK hE hP hD hS hl
  have hl : lv_has ls 3 [(0, .ref (G.2.2.1 i)), (1, .long v)] := hl
  refine lv_aload_n hx hb dX1_rank_0 rfl (lv_at hl 0 rfl) ?_
  refine cv_i (As := []) (rest := []) ⟨hx, hb, hml, hown, hts⟩ (kX1_isWhole l G i hi) (cwV 0 hts gX1_rank_X1_isWhole rfl rfl rfl (by decide +kernel) ⟨Nat.le_of_ble_eq_true rfl, Nat.le_of_ble_eq_true rfl⟩) (so_rec hE hi hS) hE hK hP hD hS hA hl.1 [] rfl rfl rfl rfl rfl rfl (Nat.le_of_ble_eq_true rfl) dX1_rank_1 ⟨Nat.zero_le _, Nat.zero_le _⟩ (fun H locs hP hD hS => ?_)
  have hP : va_P G.1 vwCl [] H := hP
  have hD : va_D A [] := hD
  refine bz_ne (tgt := 22) hx hb dX1_rank_4 (by decide) (fun c_1 => ?_) (fun c_1 => ?_)
  · refine lv_lload_n hx hb dX1_rank_7 rfl (lv_at hl 1 rfl) ?_
    refine lv_lconst (v := (0:Int64)) hx hb dX1_rank_8 (by decide) ?_
    refine bl_ge (tgt := 22) hx hb dX1_rank_9 dX1_rank_10 (by decide) (fun c_2 => ?_) (fun c_2 => ?_)
    · refine lv_lload_n hx hb dX1_rank_13 rfl (lv_at hl 1 rfl) ?_
      refine lv_aload_n hx hb dX1_rank_14 rfl (lv_at hl 0 rfl) ?_
      refine sg_sizeMask hx hb hE hi hS hown (hts (.fieldLink RX1 47 "PedalBoard$Sort" "sizeMask" "J") (by decide +kernel)) dX1_rank_15 ?_
      refine lv_lxor hx hb dX1_rank_18 ?_
      refine lv_goto (tgt := 23) hx hb dX1_rank_19 (by decide) ?_
      exact rt_l hx hb hr hlocks hP hD hS dX1_rank_23 (by rw [fX1_rank, if_pos c_1, if_pos c_2])
    · refine lv_lload_n hx hb dX1_rank_22 rfl (lv_at hl 1 rfl) ?_
      exact rt_l hx hb hr hlocks hP hD hS dX1_rank_23 (by rw [fX1_rank, if_pos c_1, if_neg c_2])
  · refine lv_lload_n hx hb dX1_rank_22 rfl (lv_at hl 1 rfl) ?_
    exact rt_l hx hb hr hlocks hP hD hS dX1_rank_23 (by rw [fX1_rank, if_neg c_1])
def fX1_isLess (i : Nat) (a : Int64) (b : Int64) : Int32 := (if (fX1_rank i a) < (fX1_rank i b) then (1:Int32) else (0:Int32))
set_option maxHeartbeats 4000000 in
set_option maxRecDepth 100000 in
theorem kX1_isLess (l : Launch) (G : GT) (i : Nat) (a : Int64) (b : Int64) (hi : i < 4) : CI l yX1_isLess wsX1_isLess { frames := 2, cells := 0, slots := 0, locals := 42 } G [.ref (G.2.2.1 i), .long a, .long b] [] (fX1_isLess i a b) [] := by
  refine en_i (cc := cX1_isLess) (maxL := 5) (ret := (some .boolean)) (own := RX1) (by decide) rfl rfl (Nat.le_of_ble_eq_true rfl) ?_
  intro p e s m below meth c A ls hx hb hr hts hown hml hlocks hA hK hE hP hD hS hl
  have hl : lv_has ls 5 [(0, .ref (G.2.2.1 i)), (1, .long a), (3, .long b)] := hl
  refine lv_aload_n hx hb dX1_isLess_0 rfl (lv_at hl 0 rfl) ?_
  refine lv_lload_n hx hb dX1_isLess_1 rfl (lv_at hl 1 rfl) ?_
  refine cv_l (As := [.long a]) (rest := []) ⟨hx, hb, hml, hown, hts⟩ (kX1_rank l G i a hi) (cwV 1 hts gX1_isLess_X1_rank rfl rfl rfl (by decide +kernel) ⟨Nat.le_of_ble_eq_true rfl, Nat.le_of_ble_eq_true rfl⟩) (so_rec hE hi hS) hE hK hP hD hS hA hl.1 [] rfl rfl rfl rfl rfl rfl (Nat.le_of_ble_eq_true rfl) dX1_isLess_2 ⟨Nat.zero_le _, Nat.zero_le _⟩ (fun H locs hP hD hS => ?_)
  have hP : va_P G.1 vwCl [] H := hP
  have hD : va_D A [] := hD
  refine lv_aload_n hx hb dX1_isLess_5 rfl (lv_at hl 0 rfl) ?_
  refine lv_lload_n hx hb dX1_isLess_6 rfl (lv_at hl 2 rfl) ?_
  refine cv_l (As := [.long b]) (rest := [.long (fX1_rank i a)]) ⟨hx, hb, hml, hown, hts⟩ (kX1_rank l G i b hi) (cwV 1 hts gX1_isLess_X1_rank rfl rfl rfl (by decide +kernel) ⟨Nat.le_of_ble_eq_true rfl, Nat.le_of_ble_eq_true rfl⟩) (so_rec hE hi hS) hE hK hP hD hS hA hl.1 [] rfl rfl rfl rfl rfl rfl (Nat.le_of_ble_eq_true rfl) dX1_isLess_7 ⟨Nat.zero_le _, Nat.zero_le _⟩ (fun H locs hP hD hS => ?_)
  have hP : va_P G.1 vwCl [] H := hP
  have hD : va_D A [] := hD
  refine bl_ge (tgt := 18) hx hb dX1_isLess_10 dX1_isLess_11 (by decide) (fun c_1 => ?_) (fun c_1 => ?_)
  · refine lv_iconst (v := (1:Int32)) hx hb dX1_isLess_14 (by decide) ?_
    refine lv_goto (tgt := 19) hx hb dX1_isLess_15 (by decide) ?_
    exact rt_z hx hb hr hlocks hP hD hS dX1_isLess_19 (by rw [fX1_isLess, if_pos c_1]) (z_nar (Or.inr rfl))
  · refine lv_iconst (v := (0:Int32)) hx hb dX1_isLess_18 (by decide) ?_
    exact rt_z hx hb hr hlocks hP hD hS dX1_isLess_19 (by rw [fX1_isLess, if_neg c_1]) (z_nar (Or.inl rfl))
theorem z_X1_isLess (i : Nat) (a : Int64) (b : Int64) : fX1_isLess i a b = 0 ∨ fX1_isLess i a b = 1 := by
  unfold fX1_isLess; repeat (first | exact Or.inl rfl | exact Or.inr rfl | split)
def fX1_fitted (i : Nat) (v : Int64) : Int64 := (if (so_bits i) = (32:Int32) then v.toInt32.toInt64 else v)
set_option maxHeartbeats 4000000 in
set_option maxRecDepth 100000 in
theorem kX1_fitted (l : Launch) (G : GT) (i : Nat) (v : Int64) (hi : i < 4) : CL l yX1_fitted wsX1_fitted { frames := 0, cells := 0, slots := 0, locals := 0 } G [.ref (G.2.2.1 i), .long v] [] (fX1_fitted i v) [] := by
  refine en_l (cc := cX1_fitted) (maxL := 3) (ret := (some .long)) (own := RX1) (by decide) rfl rfl (Nat.le_of_ble_eq_true rfl) ?_
  intro p e s m below meth c A ls hx hb hr hts hown hml hlocks hA hK hE hP hD hS hl
  have hl : lv_has ls 3 [(0, .ref (G.2.2.1 i)), (1, .long v)] := hl
  refine lv_aload_n hx hb dX1_fitted_0 rfl (lv_at hl 0 rfl) ?_
  refine sg_bits hx hb hE hi hS hown (hts (.fieldLink RX1 37 "PedalBoard$Sort" "bits" "I") (by decide +kernel)) dX1_fitted_1 ?_
  refine lv_bipush (v := (32:Int32)) hx hb dX1_fitted_4 (by decide) ?_
  refine bi_ne (tgt := 15) hx hb dX1_fitted_6 (by decide) (fun c_1 => ?_) (fun c_1 => ?_)
  · refine lv_lload_n hx hb dX1_fitted_9 rfl (lv_at hl 1 rfl) ?_
    refine r_l2i hx hb dX1_fitted_10 ?_
    refine r_i2l hx hb dX1_fitted_11 ?_
    refine lv_goto (tgt := 16) hx hb dX1_fitted_12 (by decide) ?_
    exact rt_l hx hb hr hlocks hP hD hS dX1_fitted_16 (by rw [fX1_fitted, if_pos c_1])
  · refine lv_lload_n hx hb dX1_fitted_15 rfl (lv_at hl 1 rfl) ?_
    exact rt_l hx hb hr hlocks hP hD hS dX1_fitted_16 (by rw [fX1_fitted, if_neg c_1])
def fX1_withOtherSign (i : Nat) (v : Int64) : Int64 := (if (fX1_isWhole i) = 0 then (v ^^^ ((so_mask i) ^^^ (-1:Int64))) else (fX1_fitted i (-v)))
set_option maxHeartbeats 4000000 in
set_option maxRecDepth 100000 in
theorem kX1_withOtherSign (l : Launch) (G : GT) (i : Nat) (v : Int64) (hi : i < 4) : CL l yX1_withOtherSign wsX1_withOtherSign { frames := 1, cells := 0, slots := 0, locals := 22 } G [.ref (G.2.2.1 i), .long v] [] (fX1_withOtherSign i v) [] := by
  refine en_l (cc := cX1_withOtherSign) (maxL := 3) (ret := (some .long)) (own := RX1) (by decide) rfl rfl (Nat.le_of_ble_eq_true rfl) ?_
  intro p e s m below meth c A ls hx hb hr hts hown hml hlocks hA hK hE hP hD hS hl
  have hl : lv_has ls 3 [(0, .ref (G.2.2.1 i)), (1, .long v)] := hl
  refine lv_aload_n hx hb dX1_withOtherSign_0 rfl (lv_at hl 0 rfl) ?_
  refine cv_i (As := []) (rest := []) ⟨hx, hb, hml, hown, hts⟩ (kX1_isWhole l G i hi) (cwV 0 hts gX1_withOtherSign_X1_isWhole rfl rfl rfl (by decide +kernel) ⟨Nat.le_of_ble_eq_true rfl, Nat.le_of_ble_eq_true rfl⟩) (so_rec hE hi hS) hE hK hP hD hS hA hl.1 [] rfl rfl rfl rfl rfl rfl (Nat.le_of_ble_eq_true rfl) dX1_withOtherSign_1 ⟨Nat.zero_le _, Nat.zero_le _⟩ (fun H locs hP hD hS => ?_)
  have hP : va_P G.1 vwCl [] H := hP
  have hD : va_D A [] := hD
  refine bz_eq (tgt := 16) hx hb dX1_withOtherSign_4 (by decide) (fun c_1 => ?_) (fun c_1 => ?_)
  · refine lv_lload_n hx hb dX1_withOtherSign_16 rfl (lv_at hl 1 rfl) ?_
    refine lv_aload_n hx hb dX1_withOtherSign_17 rfl (lv_at hl 0 rfl) ?_
    refine sg_sizeMask hx hb hE hi hS hown (hts (.fieldLink RX1 47 "PedalBoard$Sort" "sizeMask" "J") (by decide +kernel)) dX1_withOtherSign_18 ?_
    refine lv_ldc2 (v := (-1:Int64)) hx hb hown (hts (.constantLong RX1 92 (-1)) (by decide +kernel)) dX1_withOtherSign_21 ?_
    refine lv_lxor hx hb dX1_withOtherSign_24 ?_
    refine lv_lxor hx hb dX1_withOtherSign_25 ?_
    exact rt_l hx hb hr hlocks hP hD hS dX1_withOtherSign_26 (by rw [fX1_withOtherSign, if_pos c_1])
  · refine lv_aload_n hx hb dX1_withOtherSign_7 rfl (lv_at hl 0 rfl) ?_
    refine lv_lload_n hx hb dX1_withOtherSign_8 rfl (lv_at hl 1 rfl) ?_
    refine lv_lneg hx hb dX1_withOtherSign_9 ?_
    refine cv_l (As := [.long (-v)]) (rest := []) ⟨hx, hb, hml, hown, hts⟩ (kX1_fitted l G i (-v) hi) (cwV 1 hts gX1_withOtherSign_X1_fitted rfl rfl rfl (by decide +kernel) ⟨Nat.le_of_ble_eq_true rfl, Nat.le_of_ble_eq_true rfl⟩) (so_rec hE hi hS) hE hK hP hD hS hA hl.1 [] rfl rfl rfl rfl rfl rfl (Nat.le_of_ble_eq_true rfl) dX1_withOtherSign_10 ⟨Nat.zero_le _, Nat.zero_le _⟩ (fun H locs hP hD hS => ?_)
    have hP : va_P G.1 vwCl [] H := hP
    have hD : va_D A [] := hD
    refine lv_goto (tgt := 26) hx hb dX1_withOtherSign_13 (by decide) ?_
    exact rt_l hx hb hr hlocks hP hD hS dX1_withOtherSign_26 (by rw [fX1_withOtherSign, if_neg c_1])
def fX1_withSignOf (i : Nat) (sd : Int64) (v : Int64) : Int64 := (if sd < (0:Int64) then ((v &&& (so_mask i)) ||| ((so_mask i) ^^^ (-1:Int64))) else ((v &&& (so_mask i)) ||| (0:Int64)))
set_option maxHeartbeats 4000000 in
set_option maxRecDepth 100000 in
theorem kX1_withSignOf (l : Launch) (G : GT) (i : Nat) (sd : Int64) (v : Int64) (hi : i < 4) : CL l yX1_withSignOf wsX1_withSignOf { frames := 0, cells := 0, slots := 0, locals := 0 } G [.ref (G.2.2.1 i), .long sd, .long v] [] (fX1_withSignOf i sd v) [] := by
  refine en_l (cc := cX1_withSignOf) (maxL := 5) (ret := (some .long)) (own := RX1) (by decide) rfl rfl (Nat.le_of_ble_eq_true rfl) ?_
  intro p e s m below meth c A ls hx hb hr hts hown hml hlocks hA hK hE hP hD hS hl
  have hl : lv_has ls 5 [(0, .ref (G.2.2.1 i)), (1, .long sd), (3, .long v)] := hl
  refine lv_lload_n hx hb dX1_withSignOf_0 rfl (lv_at hl 2 rfl) ?_
  refine lv_aload_n hx hb dX1_withSignOf_1 rfl (lv_at hl 0 rfl) ?_
  refine sg_sizeMask hx hb hE hi hS hown (hts (.fieldLink RX1 47 "PedalBoard$Sort" "sizeMask" "J") (by decide +kernel)) dX1_withSignOf_2 ?_
  refine lv_land hx hb dX1_withSignOf_5 ?_
  refine lv_lload_n hx hb dX1_withSignOf_6 rfl (lv_at hl 1 rfl) ?_
  refine lv_lconst (v := (0:Int64)) hx hb dX1_withSignOf_7 (by decide) ?_
  refine bl_ge (tgt := 23) hx hb dX1_withSignOf_8 dX1_withSignOf_9 (by decide) (fun c_1 => ?_) (fun c_1 => ?_)
  · refine lv_aload_n hx hb dX1_withSignOf_12 rfl (lv_at hl 0 rfl) ?_
    refine sg_sizeMask hx hb hE hi hS hown (hts (.fieldLink RX1 47 "PedalBoard$Sort" "sizeMask" "J") (by decide +kernel)) dX1_withSignOf_13 ?_
    refine lv_ldc2 (v := (-1:Int64)) hx hb hown (hts (.constantLong RX1 92 (-1)) (by decide +kernel)) dX1_withSignOf_16 ?_
    refine lv_lxor hx hb dX1_withSignOf_19 ?_
    refine lv_goto (tgt := 24) hx hb dX1_withSignOf_20 (by decide) ?_
    refine lv_lor hx hb dX1_withSignOf_24 ?_
    exact rt_l hx hb hr hlocks hP hD hS dX1_withSignOf_25 (by rw [fX1_withSignOf, if_pos c_1])
  · refine lv_lconst (v := (0:Int64)) hx hb dX1_withSignOf_23 (by decide) ?_
    refine lv_lor hx hb dX1_withSignOf_24 ?_
    exact rt_l hx hb hr hlocks hP hD hS dX1_withSignOf_25 (by rw [fX1_withSignOf, if_neg c_1])
def fX1_growsAway (kd : Int32) (v : Int64) : Int32 := (if kd = (3:Int32) then (if v < (0:Int64) then (1:Int32) else (0:Int32)) else (if v < (0:Int64) then (0:Int32) else (1:Int32)))
set_option maxHeartbeats 4000000 in
set_option maxRecDepth 100000 in
theorem kX1_growsAway (l : Launch) (G : GT) (kd : Int32) (v : Int64) : CI l yX1_growsAway wsX1_growsAway { frames := 0, cells := 0, slots := 0, locals := 0 } G [.int kd, .long v] [] (fX1_growsAway kd v) [] := by
  refine en_i (cc := cX1_growsAway) (maxL := 3) (ret := (some .boolean)) (own := RX1) (by decide) rfl rfl (Nat.le_of_ble_eq_true rfl) ?_
  intro p e s m below meth c A ls hx hb hr hts hown hml hlocks hA hK hE hP hD hS hl
  have hl : lv_has ls 3 [(0, .int kd), (1, .long v)] := hl
  refine lv_iload_n hx hb dX1_growsAway_0 rfl (lv_at hl 0 rfl) ?_
  refine lv_iconst (v := (3:Int32)) hx hb dX1_growsAway_1 (by decide) ?_
  refine bi_ne (tgt := 19) hx hb dX1_growsAway_2 (by decide) (fun c_1 => ?_) (fun c_1 => ?_)
  · refine lv_lload_n hx hb dX1_growsAway_5 rfl (lv_at hl 1 rfl) ?_
    refine lv_lconst (v := (0:Int64)) hx hb dX1_growsAway_6 (by decide) ?_
    refine bl_ge (tgt := 15) hx hb dX1_growsAway_7 dX1_growsAway_8 (by decide) (fun c_2 => ?_) (fun c_2 => ?_)
    · refine lv_iconst (v := (1:Int32)) hx hb dX1_growsAway_11 (by decide) ?_
      refine lv_goto (tgt := 30) hx hb dX1_growsAway_12 (by decide) ?_
      exact rt_z hx hb hr hlocks hP hD hS dX1_growsAway_30 (by rw [fX1_growsAway, if_pos c_1, if_pos c_2]) (z_nar (Or.inr rfl))
    · refine lv_iconst (v := (0:Int32)) hx hb dX1_growsAway_15 (by decide) ?_
      refine lv_goto (tgt := 30) hx hb dX1_growsAway_16 (by decide) ?_
      exact rt_z hx hb hr hlocks hP hD hS dX1_growsAway_30 (by rw [fX1_growsAway, if_pos c_1, if_neg c_2]) (z_nar (Or.inl rfl))
  · refine lv_lload_n hx hb dX1_growsAway_19 rfl (lv_at hl 1 rfl) ?_
    refine lv_lconst (v := (0:Int64)) hx hb dX1_growsAway_20 (by decide) ?_
    refine bl_lt (tgt := 29) hx hb dX1_growsAway_21 dX1_growsAway_22 (by decide) (fun c_3 => ?_) (fun c_3 => ?_)
    · refine lv_iconst (v := (0:Int32)) hx hb dX1_growsAway_29 (by decide) ?_
      exact rt_z hx hb hr hlocks hP hD hS dX1_growsAway_30 (by rw [fX1_growsAway, if_neg c_1, if_pos c_3]) (z_nar (Or.inl rfl))
    · refine lv_iconst (v := (1:Int32)) hx hb dX1_growsAway_25 (by decide) ?_
      refine lv_goto (tgt := 30) hx hb dX1_growsAway_26 (by decide) ?_
      exact rt_z hx hb hr hlocks hP hD hS dX1_growsAway_30 (by rw [fX1_growsAway, if_neg c_1, if_neg c_3]) (z_nar (Or.inr rfl))
theorem z_X1_growsAway (kd : Int32) (v : Int64) : fX1_growsAway kd v = 0 ∨ fX1_growsAway kd v = 1 := by
  unfold fX1_growsAway; repeat (first | exact Or.inl rfl | exact Or.inr rfl | split)
def fX1_isNearerAway (inn : Int64) (rs : Int64) (un : Int64) : Int32 := (if (shR un (1:Int32)) < rs then (1:Int32) else (if rs = (shR un (1:Int32)) then (if (inn &&& un) = (0:Int64) then (0:Int32) else (1:Int32)) else (0:Int32)))
set_option maxHeartbeats 4000000 in
set_option maxRecDepth 100000 in
theorem kX1_isNearerAway (l : Launch) (G : GT) (inn : Int64) (rs : Int64) (un : Int64) : CI l yX1_isNearerAway wsX1_isNearerAway { frames := 0, cells := 0, slots := 0, locals := 0 } G [.long inn, .long rs, .long un] [] (fX1_isNearerAway inn rs un) [] := by
  refine en_i (cc := cX1_isNearerAway) (maxL := 8) (ret := (some .boolean)) (own := RX1) (by decide) rfl rfl (Nat.le_of_ble_eq_true rfl) ?_
  intro p e s m below meth c A ls hx hb hr hts hown hml hlocks hA hK hE hP hD hS hl
  have hl : lv_has ls 8 [(0, .long inn), (2, .long rs), (4, .long un)] := hl
  refine lv_lload hx hb dX1_isNearerAway_0 (lv_at hl 2 rfl) ?_
  refine lv_iconst (v := (1:Int32)) hx hb dX1_isNearerAway_2 (by decide) ?_
  refine r_lshr hx hb dX1_isNearerAway_3 ?_
  refine lv_lstore (lv' := [(6, .long (shR un (1:Int32))), (0, .long inn), (2, .long rs), (4, .long un)]) hx hb dX1_isNearerAway_4 hl (by decide) rfl (fun ls hl => ?_)
  refine lv_lload_n hx hb dX1_isNearerAway_6 rfl (lv_at hl 2 rfl) ?_
  refine lv_lload hx hb dX1_isNearerAway_7 (lv_at hl 0 rfl) ?_
  refine bl_gt (tgt := 29) hx hb dX1_isNearerAway_9 dX1_isNearerAway_10 (by decide) (fun c_1 => ?_) (fun c_1 => ?_)
  · refine lv_iconst (v := (1:Int32)) hx hb dX1_isNearerAway_29 (by decide) ?_
    refine lv_goto (tgt := 34) hx hb dX1_isNearerAway_30 (by decide) ?_
    exact rt_z hx hb hr hlocks hP hD hS dX1_isNearerAway_34 (by rw [fX1_isNearerAway, if_pos c_1]) (z_nar (Or.inr rfl))
  · refine lv_lload_n hx hb dX1_isNearerAway_13 rfl (lv_at hl 2 rfl) ?_
    refine lv_lload hx hb dX1_isNearerAway_14 (lv_at hl 0 rfl) ?_
    refine bl_ne (tgt := 33) hx hb dX1_isNearerAway_16 dX1_isNearerAway_17 (by decide) (fun c_2 => ?_) (fun c_2 => ?_)
    · refine lv_lload_n hx hb dX1_isNearerAway_20 rfl (lv_at hl 1 rfl) ?_
      refine lv_lload hx hb dX1_isNearerAway_21 (lv_at hl 3 rfl) ?_
      refine lv_land hx hb dX1_isNearerAway_23 ?_
      refine lv_lconst (v := (0:Int64)) hx hb dX1_isNearerAway_24 (by decide) ?_
      refine bl_eq (tgt := 33) hx hb dX1_isNearerAway_25 dX1_isNearerAway_26 (by decide) (fun c_3 => ?_) (fun c_3 => ?_)
      · refine lv_iconst (v := (0:Int32)) hx hb dX1_isNearerAway_33 (by decide) ?_
        exact rt_z hx hb hr hlocks hP hD hS dX1_isNearerAway_34 (by rw [fX1_isNearerAway, if_neg c_1, if_pos c_2, if_pos c_3]) (z_nar (Or.inl rfl))
      · refine lv_iconst (v := (1:Int32)) hx hb dX1_isNearerAway_29 (by decide) ?_
        refine lv_goto (tgt := 34) hx hb dX1_isNearerAway_30 (by decide) ?_
        exact rt_z hx hb hr hlocks hP hD hS dX1_isNearerAway_34 (by rw [fX1_isNearerAway, if_neg c_1, if_pos c_2, if_neg c_3]) (z_nar (Or.inr rfl))
    · refine lv_iconst (v := (0:Int32)) hx hb dX1_isNearerAway_33 (by decide) ?_
      exact rt_z hx hb hr hlocks hP hD hS dX1_isNearerAway_34 (by rw [fX1_isNearerAway, if_neg c_1, if_neg c_2]) (z_nar (Or.inl rfl))
theorem z_X1_isNearerAway (inn : Int64) (rs : Int64) (un : Int64) : fX1_isNearerAway inn rs un = 0 ∨ fX1_isNearerAway inn rs un = 1 := by
  unfold fX1_isNearerAway; repeat (first | exact Or.inl rfl | exact Or.inr rfl | split)
def fX1_wholeSize_75 (i : Nat) (y_4 : Int32) : Int64 := (if y_4 = 0 then (0:Int64) else (fX1_one i))
def fX1_wholeSize_150 (i : Nat) (v : Int64) (y_10 : Int32) : Int64 := (if y_10 = 0 then ((v &&& (so_mask i)) - ((v &&& (so_mask i)) &&& ((shL (1:Int64) ((so_frac i) - ((shR (v &&& (so_mask i)) (so_frac i)).toInt32 - (so_bias i)))) - (1:Int64)))) else (((v &&& (so_mask i)) - ((v &&& (so_mask i)) &&& ((shL (1:Int64) ((so_frac i) - ((shR (v &&& (so_mask i)) (so_frac i)).toInt32 - (so_bias i)))) - (1:Int64)))) + (shL (1:Int64) ((so_frac i) - ((shR (v &&& (so_mask i)) (so_frac i)).toInt32 - (so_bias i))))))
def fX1_wholeSize (i : Nat) (kd : Int32) (v : Int64) : Int64 := (if (v &&& (so_mask i)) = (0:Int64) then (v &&& (so_mask i)) else (if ((shR (v &&& (so_mask i)) (so_frac i)).toInt32 - (so_bias i)) < (so_frac i) then (if ((shR (v &&& (so_mask i)) (so_frac i)).toInt32 - (so_bias i)) < 0 then (fX1_wholeSize_75 i (if kd = (5:Int32) then (if (fX1_oneHalf i) < (v &&& (so_mask i)) then (1:Int32) else (0:Int32)) else (fX1_growsAway kd v))) else (if ((v &&& (so_mask i)) &&& ((shL (1:Int64) ((so_frac i) - ((shR (v &&& (so_mask i)) (so_frac i)).toInt32 - (so_bias i)))) - (1:Int64))) = (0:Int64) then (v &&& (so_mask i)) else (fX1_wholeSize_150 i v (if kd = (5:Int32) then (fX1_isNearerAway ((v &&& (so_mask i)) - ((v &&& (so_mask i)) &&& ((shL (1:Int64) ((so_frac i) - ((shR (v &&& (so_mask i)) (so_frac i)).toInt32 - (so_bias i)))) - (1:Int64)))) ((v &&& (so_mask i)) &&& ((shL (1:Int64) ((so_frac i) - ((shR (v &&& (so_mask i)) (so_frac i)).toInt32 - (so_bias i)))) - (1:Int64))) (shL (1:Int64) ((so_frac i) - ((shR (v &&& (so_mask i)) (so_frac i)).toInt32 - (so_bias i))))) else (fX1_growsAway kd v))))) else (v &&& (so_mask i))))
set_option maxHeartbeats 4000000 in
set_option maxRecDepth 100000 in
theorem kX1_wholeSize (l : Launch) (G : GT) (i : Nat) (kd : Int32) (v : Int64) (hi : i < 4) : CL l yX1_wholeSize wsX1_wholeSize { frames := 1, cells := 0, slots := 0, locals := 27 } G [.ref (G.2.2.1 i), .int kd, .long v] [] (fX1_wholeSize i kd v) [] := by
  refine en_l (cc := cX1_wholeSize) (maxL := 14) (ret := (some .long)) (own := RX1) (by decide) rfl rfl (Nat.le_of_ble_eq_true rfl) ?_
  intro p e s m below meth c A ls hx hb hr hts hown hml hlocks hA hK hE hP hD hS hl
  have hl : lv_has ls 14 [(0, .ref (G.2.2.1 i)), (1, .int kd), (2, .long v)] := hl
  refine lv_lload_n hx hb dX1_wholeSize_0 rfl (lv_at hl 2 rfl) ?_
  refine lv_aload_n hx hb dX1_wholeSize_1 rfl (lv_at hl 0 rfl) ?_
  refine sg_sizeMask hx hb hE hi hS hown (hts (.fieldLink RX1 47 "PedalBoard$Sort" "sizeMask" "J") (by decide +kernel)) dX1_wholeSize_2 ?_
  refine lv_land hx hb dX1_wholeSize_5 ?_
  refine lv_lstore (lv' := [(4, .long (v &&& (so_mask i))), (0, .ref (G.2.2.1 i)), (1, .int kd), (2, .long v)]) hx hb dX1_wholeSize_6 hl (by decide) rfl (fun ls hl => ?_)
  refine lv_lload hx hb dX1_wholeSize_8 (lv_at hl 0 rfl) ?_
  refine lv_aload_n hx hb dX1_wholeSize_10 rfl (lv_at hl 1 rfl) ?_
  refine sg_fraction hx hb hE hi hS hown (hts (.fieldLink RX1 41 "PedalBoard$Sort" "fraction" "I") (by decide +kernel)) dX1_wholeSize_11 ?_
  refine r_lshr hx hb dX1_wholeSize_14 ?_
  refine r_l2i hx hb dX1_wholeSize_15 ?_
  refine lv_aload_n hx hb dX1_wholeSize_16 rfl (lv_at hl 1 rfl) ?_
  refine sg_bias hx hb hE hi hS hown (hts (.fieldLink RX1 44 "PedalBoard$Sort" "bias" "I") (by decide +kernel)) dX1_wholeSize_17 ?_
  refine lv_isub hx hb dX1_wholeSize_20 ?_
  refine lv_istore (lv' := [(6, .int ((shR (v &&& (so_mask i)) (so_frac i)).toInt32 - (so_bias i))), (4, .long (v &&& (so_mask i))), (0, .ref (G.2.2.1 i)), (1, .int kd), (2, .long v)]) hx hb dX1_wholeSize_21 hl (by decide) rfl (fun ls hl => ?_)
  refine lv_lload hx hb dX1_wholeSize_23 (lv_at hl 1 rfl) ?_
  refine lv_lconst (v := (0:Int64)) hx hb dX1_wholeSize_25 (by decide) ?_
  refine bl_eq (tgt := 39) hx hb dX1_wholeSize_26 dX1_wholeSize_27 (by decide) (fun c_1 => ?_) (fun c_1 => ?_)
  · refine lv_lload hx hb dX1_wholeSize_39 (lv_at hl 1 rfl) ?_
    exact rt_l hx hb hr hlocks hP hD hS dX1_wholeSize_41 (by rw [fX1_wholeSize, if_pos c_1])
  · refine lv_iload hx hb dX1_wholeSize_30 (lv_at hl 0 rfl) ?_
    refine lv_aload_n hx hb dX1_wholeSize_32 rfl (lv_at hl 2 rfl) ?_
    refine sg_fraction hx hb hE hi hS hown (hts (.fieldLink RX1 41 "PedalBoard$Sort" "fraction" "I") (by decide +kernel)) dX1_wholeSize_33 ?_
    refine bi_lt (tgt := 42) hx hb dX1_wholeSize_36 (by decide) (fun c_2 => ?_) (fun c_2 => ?_)
    · refine lv_iload hx hb dX1_wholeSize_42 (lv_at hl 0 rfl) ?_
      refine bz_ge (tgt := 91) hx hb dX1_wholeSize_44 (by decide) (fun c_3 => ?_) (fun c_3 => ?_)
      · refine lv_iload_n hx hb dX1_wholeSize_47 rfl (lv_at hl 3 rfl) ?_
        refine lv_iconst (v := (5:Int32)) hx hb dX1_wholeSize_48 (by decide) ?_
        refine jn_1 (T := Int32) G A (if kd = (5:Int32) then (if (fX1_oneHalf i) < (v &&& (so_mask i)) then (1:Int32) else (0:Int32)) else (fX1_growsAway kd v)) [] 14 (fun y => [(0, .ref (G.2.2.1 i))]) (fun y => [.int y]) 75 ?_ ?_
        · intro y_4 ey_4 H locs ls hP hD hS hl
          have hr_7 : fX1_wholeSize i kd v = fX1_wholeSize_75 i y_4 := by rw [ey_4, fX1_wholeSize, if_neg c_1, if_pos c_2, if_pos c_3]
          refine lv_istore (lv' := [(7, .int y_4), (0, .ref (G.2.2.1 i))]) hx hb dX1_wholeSize_75 hl (by decide) rfl (fun ls hl => ?_)
          refine lv_iload hx hb dX1_wholeSize_77 (lv_at hl 0 rfl) ?_
          refine bz_eq (tgt := 89) hx hb dX1_wholeSize_79 (by decide) (fun c_8 => ?_) (fun c_8 => ?_)
          · refine lv_lconst (v := (0:Int64)) hx hb dX1_wholeSize_89 (by decide) ?_
            exact rt_l hx hb hr hlocks hP hD hS dX1_wholeSize_90 (by rw [hr_7, fX1_wholeSize_75, if_pos c_8])
          · refine lv_aload_n hx hb dX1_wholeSize_82 rfl (lv_at hl 1 rfl) ?_
            refine cv_l (As := []) (rest := []) ⟨hx, hb, hml, hown, hts⟩ (kX1_one l G i hi) (cwV 0 hts gX1_wholeSize_X1_one rfl rfl rfl (by decide +kernel) ⟨Nat.le_of_ble_eq_true rfl, Nat.le_of_ble_eq_true rfl⟩) (so_rec hE hi hS) hE hK hP hD hS hA hl.1 [] rfl rfl rfl rfl rfl rfl (Nat.le_of_ble_eq_true rfl) dX1_wholeSize_83 ⟨Nat.zero_le _, Nat.zero_le _⟩ (fun H locs hP hD hS => ?_)
            have hP : va_P G.1 vwCl [] H := hP
            have hD : va_D A [] := hD
            refine lv_goto (tgt := 90) hx hb dX1_wholeSize_86 (by decide) ?_
            exact rt_l hx hb hr hlocks hP hD hS dX1_wholeSize_90 (by rw [hr_7, fX1_wholeSize_75, if_neg c_8])
        · intro kj_4
          refine bi_ne (tgt := 70) hx hb dX1_wholeSize_49 (by decide) (fun c_5 => ?_) (fun c_5 => ?_)
          · refine lv_lload hx hb dX1_wholeSize_52 (lv_at hl 1 rfl) ?_
            refine lv_aload_n hx hb dX1_wholeSize_54 rfl (lv_at hl 2 rfl) ?_
            refine cv_l (As := []) (rest := [.long (v &&& (so_mask i))]) ⟨hx, hb, hml, hown, hts⟩ (kX1_oneHalf l G i hi) (cwV 0 hts gX1_wholeSize_X1_oneHalf rfl rfl rfl (by decide +kernel) ⟨Nat.le_of_ble_eq_true rfl, Nat.le_of_ble_eq_true rfl⟩) (so_rec hE hi hS) hE hK hP hD hS hA hl.1 [] rfl rfl rfl rfl rfl rfl (Nat.le_of_ble_eq_true rfl) dX1_wholeSize_55 ⟨Nat.zero_le _, Nat.zero_le _⟩ (fun H locs hP hD hS => ?_)
            have hP : va_P G.1 vwCl [] H := hP
            have hD : va_D A [] := hD
            refine bl_le (tgt := 66) hx hb dX1_wholeSize_58 dX1_wholeSize_59 (by decide) (fun c_6 => ?_) (fun c_6 => ?_)
            · refine lv_iconst (v := (1:Int32)) hx hb dX1_wholeSize_62 (by decide) ?_
              refine lv_goto (tgt := 75) hx hb dX1_wholeSize_63 (by decide) ?_
              exact kj_4 (1:Int32) (by rw [if_pos c_5, if_pos c_6]) _ _ _ hP hD hS (lv_sub hl [2] rfl)
            · refine lv_iconst (v := (0:Int32)) hx hb dX1_wholeSize_66 (by decide) ?_
              refine lv_goto (tgt := 75) hx hb dX1_wholeSize_67 (by decide) ?_
              exact kj_4 (0:Int32) (by rw [if_pos c_5, if_neg c_6]) _ _ _ hP hD hS (lv_sub hl [2] rfl)
          · refine lv_iload_n hx hb dX1_wholeSize_70 rfl (lv_at hl 3 rfl) ?_
            refine lv_lload_n hx hb dX1_wholeSize_71 rfl (lv_at hl 4 rfl) ?_
            refine cs_i (As := [.int kd, .long v]) (rest := []) ⟨hx, hb, hml, hown, hts⟩ (kX1_growsAway l G kd v) (va_cwS 2 hts gX1_wholeSize_X1_growsAway rfl rfl rfl (by decide +kernel) ⟨Nat.le_of_ble_eq_true rfl, Nat.le_of_ble_eq_true rfl⟩) hE hK hP hD hS hA hl.1 [] rfl rfl rfl rfl rfl rfl (Nat.le_of_ble_eq_true rfl) dX1_wholeSize_72 ⟨Nat.zero_le _, Nat.zero_le _⟩ (fun H locs hP hD hS => ?_)
            have hP : va_P G.1 vwCl [] H := hP
            have hD : va_D A [] := hD
            exact kj_4 (fX1_growsAway kd v) (by rw [if_neg c_5]) _ _ _ hP hD hS (lv_sub hl [2] rfl)
      · refine lv_lconst (v := (1:Int64)) hx hb dX1_wholeSize_91 (by decide) ?_
        refine lv_aload_n hx hb dX1_wholeSize_92 rfl (lv_at hl 2 rfl) ?_
        refine sg_fraction hx hb hE hi hS hown (hts (.fieldLink RX1 41 "PedalBoard$Sort" "fraction" "I") (by decide +kernel)) dX1_wholeSize_93 ?_
        refine lv_iload hx hb dX1_wholeSize_96 (lv_at hl 0 rfl) ?_
        refine lv_isub hx hb dX1_wholeSize_98 ?_
        refine r_lshl hx hb dX1_wholeSize_99 ?_
        refine lv_lstore (lv' := [(7, .long (shL (1:Int64) ((so_frac i) - ((shR (v &&& (so_mask i)) (so_frac i)).toInt32 - (so_bias i))))), (6, .int ((shR (v &&& (so_mask i)) (so_frac i)).toInt32 - (so_bias i))), (4, .long (v &&& (so_mask i))), (0, .ref (G.2.2.1 i)), (1, .int kd), (2, .long v)]) hx hb dX1_wholeSize_100 hl (by decide) rfl (fun ls hl => ?_)
        refine lv_lload hx hb dX1_wholeSize_102 (lv_at hl 2 rfl) ?_
        refine lv_lload hx hb dX1_wholeSize_104 (lv_at hl 0 rfl) ?_
        refine lv_lconst (v := (1:Int64)) hx hb dX1_wholeSize_106 (by decide) ?_
        refine lv_lsub hx hb dX1_wholeSize_107 ?_
        refine lv_land hx hb dX1_wholeSize_108 ?_
        refine lv_lstore (lv' := [(9, .long ((v &&& (so_mask i)) &&& ((shL (1:Int64) ((so_frac i) - ((shR (v &&& (so_mask i)) (so_frac i)).toInt32 - (so_bias i)))) - (1:Int64)))), (7, .long (shL (1:Int64) ((so_frac i) - ((shR (v &&& (so_mask i)) (so_frac i)).toInt32 - (so_bias i))))), (6, .int ((shR (v &&& (so_mask i)) (so_frac i)).toInt32 - (so_bias i))), (4, .long (v &&& (so_mask i))), (0, .ref (G.2.2.1 i)), (1, .int kd), (2, .long v)]) hx hb dX1_wholeSize_109 hl (by decide) rfl (fun ls hl => ?_)
        refine lv_lload hx hb dX1_wholeSize_111 (lv_at hl 0 rfl) ?_
        refine lv_lconst (v := (0:Int64)) hx hb dX1_wholeSize_113 (by decide) ?_
        refine bl_ne (tgt := 121) hx hb dX1_wholeSize_114 dX1_wholeSize_115 (by decide) (fun c_9 => ?_) (fun c_9 => ?_)
        · refine lv_lload hx hb dX1_wholeSize_118 (lv_at hl 3 rfl) ?_
          exact rt_l hx hb hr hlocks hP hD hS dX1_wholeSize_120 (by rw [fX1_wholeSize, if_neg c_1, if_pos c_2, if_neg c_3, if_pos c_9])
        · refine lv_lload hx hb dX1_wholeSize_121 (lv_at hl 3 rfl) ?_
          refine lv_lload hx hb dX1_wholeSize_123 (lv_at hl 0 rfl) ?_
          refine lv_lsub hx hb dX1_wholeSize_125 ?_
          refine lv_lstore (lv' := [(11, .long ((v &&& (so_mask i)) - ((v &&& (so_mask i)) &&& ((shL (1:Int64) ((so_frac i) - ((shR (v &&& (so_mask i)) (so_frac i)).toInt32 - (so_bias i)))) - (1:Int64))))), (9, .long ((v &&& (so_mask i)) &&& ((shL (1:Int64) ((so_frac i) - ((shR (v &&& (so_mask i)) (so_frac i)).toInt32 - (so_bias i)))) - (1:Int64)))), (7, .long (shL (1:Int64) ((so_frac i) - ((shR (v &&& (so_mask i)) (so_frac i)).toInt32 - (so_bias i))))), (6, .int ((shR (v &&& (so_mask i)) (so_frac i)).toInt32 - (so_bias i))), (4, .long (v &&& (so_mask i))), (0, .ref (G.2.2.1 i)), (1, .int kd), (2, .long v)]) hx hb dX1_wholeSize_126 hl (by decide) rfl (fun ls hl => ?_)
          refine lv_iload_n hx hb dX1_wholeSize_128 rfl (lv_at hl 6 rfl) ?_
          refine lv_iconst (v := (5:Int32)) hx hb dX1_wholeSize_129 (by decide) ?_
          refine jn_1 (T := Int32) G A (if kd = (5:Int32) then (fX1_isNearerAway ((v &&& (so_mask i)) - ((v &&& (so_mask i)) &&& ((shL (1:Int64) ((so_frac i) - ((shR (v &&& (so_mask i)) (so_frac i)).toInt32 - (so_bias i)))) - (1:Int64)))) ((v &&& (so_mask i)) &&& ((shL (1:Int64) ((so_frac i) - ((shR (v &&& (so_mask i)) (so_frac i)).toInt32 - (so_bias i)))) - (1:Int64))) (shL (1:Int64) ((so_frac i) - ((shR (v &&& (so_mask i)) (so_frac i)).toInt32 - (so_bias i))))) else (fX1_growsAway kd v)) [] 14 (fun y => [(7, .long (shL (1:Int64) ((so_frac i) - ((shR (v &&& (so_mask i)) (so_frac i)).toInt32 - (so_bias i))))), (11, .long ((v &&& (so_mask i)) - ((v &&& (so_mask i)) &&& ((shL (1:Int64) ((so_frac i) - ((shR (v &&& (so_mask i)) (so_frac i)).toInt32 - (so_bias i)))) - (1:Int64)))))]) (fun y => [.int y]) 150 ?_ ?_
          · intro y_10 ey_10 H locs ls hP hD hS hl
            have hr_12 : fX1_wholeSize i kd v = fX1_wholeSize_150 i v y_10 := by rw [ey_10, fX1_wholeSize, if_neg c_1, if_pos c_2, if_neg c_3, if_neg c_9]
            refine lv_istore (lv' := [(13, .int y_10), (7, .long (shL (1:Int64) ((so_frac i) - ((shR (v &&& (so_mask i)) (so_frac i)).toInt32 - (so_bias i))))), (11, .long ((v &&& (so_mask i)) - ((v &&& (so_mask i)) &&& ((shL (1:Int64) ((so_frac i) - ((shR (v &&& (so_mask i)) (so_frac i)).toInt32 - (so_bias i)))) - (1:Int64)))))]) hx hb dX1_wholeSize_150 hl (by decide) rfl (fun ls hl => ?_)
            refine lv_iload hx hb dX1_wholeSize_152 (lv_at hl 0 rfl) ?_
            refine bz_eq (tgt := 165) hx hb dX1_wholeSize_154 (by decide) (fun c_13 => ?_) (fun c_13 => ?_)
            · refine lv_lload hx hb dX1_wholeSize_165 (lv_at hl 2 rfl) ?_
              exact rt_l hx hb hr hlocks hP hD hS dX1_wholeSize_167 (by rw [hr_12, fX1_wholeSize_150, if_pos c_13])
            · refine lv_lload hx hb dX1_wholeSize_157 (lv_at hl 2 rfl) ?_
              refine lv_lload hx hb dX1_wholeSize_159 (lv_at hl 1 rfl) ?_
              refine lv_ladd hx hb dX1_wholeSize_161 ?_
              refine lv_goto (tgt := 167) hx hb dX1_wholeSize_162 (by decide) ?_
              exact rt_l hx hb hr hlocks hP hD hS dX1_wholeSize_167 (by rw [hr_12, fX1_wholeSize_150, if_neg c_13])
          · intro kj_10
            refine bi_ne (tgt := 145) hx hb dX1_wholeSize_130 (by decide) (fun c_11 => ?_) (fun c_11 => ?_)
            · refine lv_lload hx hb dX1_wholeSize_133 (lv_at hl 0 rfl) ?_
              refine lv_lload hx hb dX1_wholeSize_135 (lv_at hl 1 rfl) ?_
              refine lv_lload hx hb dX1_wholeSize_137 (lv_at hl 2 rfl) ?_
              refine cs_i (As := [.long ((v &&& (so_mask i)) - ((v &&& (so_mask i)) &&& ((shL (1:Int64) ((so_frac i) - ((shR (v &&& (so_mask i)) (so_frac i)).toInt32 - (so_bias i)))) - (1:Int64)))), .long ((v &&& (so_mask i)) &&& ((shL (1:Int64) ((so_frac i) - ((shR (v &&& (so_mask i)) (so_frac i)).toInt32 - (so_bias i)))) - (1:Int64))), .long (shL (1:Int64) ((so_frac i) - ((shR (v &&& (so_mask i)) (so_frac i)).toInt32 - (so_bias i))))]) (rest := []) ⟨hx, hb, hml, hown, hts⟩ (kX1_isNearerAway l G ((v &&& (so_mask i)) - ((v &&& (so_mask i)) &&& ((shL (1:Int64) ((so_frac i) - ((shR (v &&& (so_mask i)) (so_frac i)).toInt32 - (so_bias i)))) - (1:Int64)))) ((v &&& (so_mask i)) &&& ((shL (1:Int64) ((so_frac i) - ((shR (v &&& (so_mask i)) (so_frac i)).toInt32 - (so_bias i)))) - (1:Int64))) (shL (1:Int64) ((so_frac i) - ((shR (v &&& (so_mask i)) (so_frac i)).toInt32 - (so_bias i))))) (va_cwS 3 hts gX1_wholeSize_X1_isNearerAway rfl rfl rfl (by decide +kernel) ⟨Nat.le_of_ble_eq_true rfl, Nat.le_of_ble_eq_true rfl⟩) hE hK hP hD hS hA hl.1 [] rfl rfl rfl rfl rfl rfl (Nat.le_of_ble_eq_true rfl) dX1_wholeSize_139 ⟨Nat.zero_le _, Nat.zero_le _⟩ (fun H locs hP hD hS => ?_)
              have hP : va_P G.1 vwCl [] H := hP
              have hD : va_D A [] := hD
              refine lv_goto (tgt := 150) hx hb dX1_wholeSize_142 (by decide) ?_
              exact kj_10 (fX1_isNearerAway ((v &&& (so_mask i)) - ((v &&& (so_mask i)) &&& ((shL (1:Int64) ((so_frac i) - ((shR (v &&& (so_mask i)) (so_frac i)).toInt32 - (so_bias i)))) - (1:Int64)))) ((v &&& (so_mask i)) &&& ((shL (1:Int64) ((so_frac i) - ((shR (v &&& (so_mask i)) (so_frac i)).toInt32 - (so_bias i)))) - (1:Int64))) (shL (1:Int64) ((so_frac i) - ((shR (v &&& (so_mask i)) (so_frac i)).toInt32 - (so_bias i))))) (by rw [if_pos c_11]) _ _ _ hP hD hS (lv_sub hl [2, 0] rfl)
            · refine lv_iload_n hx hb dX1_wholeSize_145 rfl (lv_at hl 6 rfl) ?_
              refine lv_lload_n hx hb dX1_wholeSize_146 rfl (lv_at hl 7 rfl) ?_
              refine cs_i (As := [.int kd, .long v]) (rest := []) ⟨hx, hb, hml, hown, hts⟩ (kX1_growsAway l G kd v) (va_cwS 2 hts gX1_wholeSize_X1_growsAway rfl rfl rfl (by decide +kernel) ⟨Nat.le_of_ble_eq_true rfl, Nat.le_of_ble_eq_true rfl⟩) hE hK hP hD hS hA hl.1 [] rfl rfl rfl rfl rfl rfl (Nat.le_of_ble_eq_true rfl) dX1_wholeSize_147 ⟨Nat.zero_le _, Nat.zero_le _⟩ (fun H locs hP hD hS => ?_)
              have hP : va_P G.1 vwCl [] H := hP
              have hD : va_D A [] := hD
              exact kj_10 (fX1_growsAway kd v) (by rw [if_neg c_11]) _ _ _ hP hD hS (lv_sub hl [2, 0] rfl)
    · refine lv_lload hx hb dX1_wholeSize_39 (lv_at hl 1 rfl) ?_
      exact rt_l hx hb hr hlocks hP hD hS dX1_wholeSize_41 (by rw [fX1_wholeSize, if_neg c_1, if_neg c_2])
def fX1_through (i : Nat) (kd : Int32) (kn : Int64) (v : Int64) : Int64 := (if kd = (0:Int32) then (if v < (0:Int64) then (fX1_withOtherSign i v) else v) else (if kd = (1:Int32) then (if (fX1_isLess i kn v) = 0 then v else kn) else (if kd = (2:Int32) then (if (fX1_isLess i v kn) = 0 then v else kn) else (if kd = (3:Int32) then (fX1_withSignOf i v (fX1_wholeSize i kd v)) else (if kd = (4:Int32) then (fX1_withSignOf i v (fX1_wholeSize i kd v)) else (if kd = (5:Int32) then (fX1_withSignOf i v (fX1_wholeSize i kd v)) else (if kd = (6:Int32) then (if (fX1_isZero i v) = 0 then (fX1_withSignOf i v (fX1_one i)) else v) else (if kd = (7:Int32) then (fX1_withSignOf i kn v) else (if kd = (8:Int32) then (fX1_withOtherSign i v) else v)))))))))
set_option maxHeartbeats 4000000 in
set_option maxRecDepth 100000 in
theorem kX1_through (l : Launch) (G : GT) (i : Nat) (kd : Int32) (kn : Int64) (v : Int64) (hi : i < 4) : CL l yX1_through wsX1_through { frames := 3, cells := 0, slots := 0, locals := 66 } G [.ref (G.2.2.1 i), .int kd, .long kn, .long v] [] (fX1_through i kd kn v) [] := by
  refine en_l (cc := cX1_through) (maxL := 6) (ret := (some .long)) (own := RX1) (by decide) rfl rfl (Nat.le_of_ble_eq_true rfl) ?_
  intro p e s m below meth c A ls hx hb hr hts hown hml hlocks hA hK hE hP hD hS hl
  have hl : lv_has ls 6 [(0, .ref (G.2.2.1 i)), (1, .int kd), (2, .long kn), (4, .long v)] := hl
  refine lv_iload_n hx hb dX1_through_0 rfl (lv_at hl 1 rfl) ?_
  by_cases k_1 : kd = (0:Int32)
  · refine sw_in (tgt := 52) (off := 51) hx hb dX1_through_1 k_1 (by decide) (by decide) (by decide) (by decide) ?_
    refine lv_lload hx hb dX1_through_52 (lv_at hl 3 rfl) ?_
    refine lv_lconst (v := (0:Int64)) hx hb dX1_through_54 (by decide) ?_
    refine bl_ge (tgt := 68) hx hb dX1_through_55 dX1_through_56 (by decide) (fun c_2 => ?_) (fun c_2 => ?_)
    · refine lv_aload_n hx hb dX1_through_59 rfl (lv_at hl 0 rfl) ?_
      refine lv_lload hx hb dX1_through_60 (lv_at hl 3 rfl) ?_
      refine cv_l (As := [.long v]) (rest := []) ⟨hx, hb, hml, hown, hts⟩ (kX1_withOtherSign l G i v hi) (cwV 1 hts gX1_through_X1_withOtherSign rfl rfl rfl (by decide +kernel) ⟨Nat.le_of_ble_eq_true rfl, Nat.le_of_ble_eq_true rfl⟩) (so_rec hE hi hS) hE hK hP hD hS hA hl.1 [] rfl rfl rfl rfl rfl rfl (Nat.le_of_ble_eq_true rfl) dX1_through_62 ⟨Nat.zero_le _, Nat.zero_le _⟩ (fun H locs hP hD hS => ?_)
      have hP : va_P G.1 vwCl [] H := hP
      have hD : va_D A [] := hD
      refine lv_goto (tgt := 70) hx hb dX1_through_65 (by decide) ?_
      exact rt_l hx hb hr hlocks hP hD hS dX1_through_70 (by rw [fX1_through, if_pos k_1, if_pos c_2])
    · refine lv_lload hx hb dX1_through_68 (lv_at hl 3 rfl) ?_
      exact rt_l hx hb hr hlocks hP hD hS dX1_through_70 (by rw [fX1_through, if_pos k_1, if_neg c_2])
  by_cases k_3 : kd = (1:Int32)
  · refine sw_in (tgt := 71) (off := 70) hx hb dX1_through_1 k_3 (by decide) (by decide) (by decide) (by decide) ?_
    refine lv_aload_n hx hb dX1_through_71 rfl (lv_at hl 0 rfl) ?_
    refine lv_lload_n hx hb dX1_through_72 rfl (lv_at hl 2 rfl) ?_
    refine lv_lload hx hb dX1_through_73 (lv_at hl 3 rfl) ?_
    refine cv_i (As := [.long kn, .long v]) (rest := []) ⟨hx, hb, hml, hown, hts⟩ (kX1_isLess l G i kn v hi) (cwV 2 hts gX1_through_X1_isLess rfl rfl rfl (by decide +kernel) ⟨Nat.le_of_ble_eq_true rfl, Nat.le_of_ble_eq_true rfl⟩) (so_rec hE hi hS) hE hK hP hD hS hA hl.1 [] rfl rfl rfl rfl rfl rfl (Nat.le_of_ble_eq_true rfl) dX1_through_75 ⟨Nat.zero_le _, Nat.zero_le _⟩ (fun H locs hP hD hS => ?_)
    have hP : va_P G.1 vwCl [] H := hP
    have hD : va_D A [] := hD
    refine bz_eq (tgt := 85) hx hb dX1_through_78 (by decide) (fun c_4 => ?_) (fun c_4 => ?_)
    · refine lv_lload hx hb dX1_through_85 (lv_at hl 3 rfl) ?_
      exact rt_l hx hb hr hlocks hP hD hS dX1_through_87 (by rw [fX1_through, if_neg k_1, if_pos k_3, if_pos c_4])
    · refine lv_lload_n hx hb dX1_through_81 rfl (lv_at hl 2 rfl) ?_
      refine lv_goto (tgt := 87) hx hb dX1_through_82 (by decide) ?_
      exact rt_l hx hb hr hlocks hP hD hS dX1_through_87 (by rw [fX1_through, if_neg k_1, if_pos k_3, if_neg c_4])
  by_cases k_5 : kd = (2:Int32)
  · refine sw_in (tgt := 88) (off := 87) hx hb dX1_through_1 k_5 (by decide) (by decide) (by decide) (by decide) ?_
    refine lv_aload_n hx hb dX1_through_88 rfl (lv_at hl 0 rfl) ?_
    refine lv_lload hx hb dX1_through_89 (lv_at hl 3 rfl) ?_
    refine lv_lload_n hx hb dX1_through_91 rfl (lv_at hl 2 rfl) ?_
    refine cv_i (As := [.long v, .long kn]) (rest := []) ⟨hx, hb, hml, hown, hts⟩ (kX1_isLess l G i v kn hi) (cwV 2 hts gX1_through_X1_isLess rfl rfl rfl (by decide +kernel) ⟨Nat.le_of_ble_eq_true rfl, Nat.le_of_ble_eq_true rfl⟩) (so_rec hE hi hS) hE hK hP hD hS hA hl.1 [] rfl rfl rfl rfl rfl rfl (Nat.le_of_ble_eq_true rfl) dX1_through_92 ⟨Nat.zero_le _, Nat.zero_le _⟩ (fun H locs hP hD hS => ?_)
    have hP : va_P G.1 vwCl [] H := hP
    have hD : va_D A [] := hD
    refine bz_eq (tgt := 102) hx hb dX1_through_95 (by decide) (fun c_6 => ?_) (fun c_6 => ?_)
    · refine lv_lload hx hb dX1_through_102 (lv_at hl 3 rfl) ?_
      exact rt_l hx hb hr hlocks hP hD hS dX1_through_104 (by rw [fX1_through, if_neg k_1, if_neg k_3, if_pos k_5, if_pos c_6])
    · refine lv_lload_n hx hb dX1_through_98 rfl (lv_at hl 2 rfl) ?_
      refine lv_goto (tgt := 104) hx hb dX1_through_99 (by decide) ?_
      exact rt_l hx hb hr hlocks hP hD hS dX1_through_104 (by rw [fX1_through, if_neg k_1, if_neg k_3, if_pos k_5, if_neg c_6])
  by_cases k_7 : kd = (3:Int32)
  · refine sw_in (tgt := 105) (off := 104) hx hb dX1_through_1 k_7 (by decide) (by decide) (by decide) (by decide) ?_
    refine lv_aload_n hx hb dX1_through_105 rfl (lv_at hl 0 rfl) ?_
    refine lv_lload hx hb dX1_through_106 (lv_at hl 3 rfl) ?_
    refine lv_aload_n hx hb dX1_through_108 rfl (lv_at hl 0 rfl) ?_
    refine lv_iload_n hx hb dX1_through_109 rfl (lv_at hl 1 rfl) ?_
    refine lv_lload hx hb dX1_through_110 (lv_at hl 3 rfl) ?_
    refine cv_l (As := [.int kd, .long v]) (rest := [.long v, .ref (G.2.2.1 i)]) ⟨hx, hb, hml, hown, hts⟩ (kX1_wholeSize l G i kd v hi) (cwV 2 hts gX1_through_X1_wholeSize rfl rfl rfl (by decide +kernel) ⟨Nat.le_of_ble_eq_true rfl, Nat.le_of_ble_eq_true rfl⟩) (so_rec hE hi hS) hE hK hP hD hS hA hl.1 [] rfl rfl rfl rfl rfl rfl (Nat.le_of_ble_eq_true rfl) dX1_through_112 ⟨Nat.zero_le _, Nat.zero_le _⟩ (fun H locs hP hD hS => ?_)
    have hP : va_P G.1 vwCl [] H := hP
    have hD : va_D A [] := hD
    refine cv_l (As := [.long v, .long (fX1_wholeSize i kd v)]) (rest := []) ⟨hx, hb, hml, hown, hts⟩ (kX1_withSignOf l G i v (fX1_wholeSize i kd v) hi) (cwV 2 hts gX1_through_X1_withSignOf rfl rfl rfl (by decide +kernel) ⟨Nat.le_of_ble_eq_true rfl, Nat.le_of_ble_eq_true rfl⟩) (so_rec hE hi hS) hE hK hP hD hS hA hl.1 [] rfl rfl rfl rfl rfl rfl (Nat.le_of_ble_eq_true rfl) dX1_through_115 ⟨Nat.zero_le _, Nat.zero_le _⟩ (fun H locs hP hD hS => ?_)
    have hP : va_P G.1 vwCl [] H := hP
    have hD : va_D A [] := hD
    exact rt_l hx hb hr hlocks hP hD hS dX1_through_118 (by rw [fX1_through, if_neg k_1, if_neg k_3, if_neg k_5, if_pos k_7])
  by_cases k_8 : kd = (4:Int32)
  · refine sw_in (tgt := 105) (off := 104) hx hb dX1_through_1 k_8 (by decide) (by decide) (by decide) (by decide) ?_
    refine lv_aload_n hx hb dX1_through_105 rfl (lv_at hl 0 rfl) ?_
    refine lv_lload hx hb dX1_through_106 (lv_at hl 3 rfl) ?_
    refine lv_aload_n hx hb dX1_through_108 rfl (lv_at hl 0 rfl) ?_
    refine lv_iload_n hx hb dX1_through_109 rfl (lv_at hl 1 rfl) ?_
    refine lv_lload hx hb dX1_through_110 (lv_at hl 3 rfl) ?_
    refine cv_l (As := [.int kd, .long v]) (rest := [.long v, .ref (G.2.2.1 i)]) ⟨hx, hb, hml, hown, hts⟩ (kX1_wholeSize l G i kd v hi) (cwV 2 hts gX1_through_X1_wholeSize rfl rfl rfl (by decide +kernel) ⟨Nat.le_of_ble_eq_true rfl, Nat.le_of_ble_eq_true rfl⟩) (so_rec hE hi hS) hE hK hP hD hS hA hl.1 [] rfl rfl rfl rfl rfl rfl (Nat.le_of_ble_eq_true rfl) dX1_through_112 ⟨Nat.zero_le _, Nat.zero_le _⟩ (fun H locs hP hD hS => ?_)
    have hP : va_P G.1 vwCl [] H := hP
    have hD : va_D A [] := hD
    refine cv_l (As := [.long v, .long (fX1_wholeSize i kd v)]) (rest := []) ⟨hx, hb, hml, hown, hts⟩ (kX1_withSignOf l G i v (fX1_wholeSize i kd v) hi) (cwV 2 hts gX1_through_X1_withSignOf rfl rfl rfl (by decide +kernel) ⟨Nat.le_of_ble_eq_true rfl, Nat.le_of_ble_eq_true rfl⟩) (so_rec hE hi hS) hE hK hP hD hS hA hl.1 [] rfl rfl rfl rfl rfl rfl (Nat.le_of_ble_eq_true rfl) dX1_through_115 ⟨Nat.zero_le _, Nat.zero_le _⟩ (fun H locs hP hD hS => ?_)
    have hP : va_P G.1 vwCl [] H := hP
    have hD : va_D A [] := hD
    exact rt_l hx hb hr hlocks hP hD hS dX1_through_118 (by rw [fX1_through, if_neg k_1, if_neg k_3, if_neg k_5, if_neg k_7, if_pos k_8])
  by_cases k_9 : kd = (5:Int32)
  · refine sw_in (tgt := 105) (off := 104) hx hb dX1_through_1 k_9 (by decide) (by decide) (by decide) (by decide) ?_
    refine lv_aload_n hx hb dX1_through_105 rfl (lv_at hl 0 rfl) ?_
    refine lv_lload hx hb dX1_through_106 (lv_at hl 3 rfl) ?_
    refine lv_aload_n hx hb dX1_through_108 rfl (lv_at hl 0 rfl) ?_
    refine lv_iload_n hx hb dX1_through_109 rfl (lv_at hl 1 rfl) ?_
    refine lv_lload hx hb dX1_through_110 (lv_at hl 3 rfl) ?_
    refine cv_l (As := [.int kd, .long v]) (rest := [.long v, .ref (G.2.2.1 i)]) ⟨hx, hb, hml, hown, hts⟩ (kX1_wholeSize l G i kd v hi) (cwV 2 hts gX1_through_X1_wholeSize rfl rfl rfl (by decide +kernel) ⟨Nat.le_of_ble_eq_true rfl, Nat.le_of_ble_eq_true rfl⟩) (so_rec hE hi hS) hE hK hP hD hS hA hl.1 [] rfl rfl rfl rfl rfl rfl (Nat.le_of_ble_eq_true rfl) dX1_through_112 ⟨Nat.zero_le _, Nat.zero_le _⟩ (fun H locs hP hD hS => ?_)
    have hP : va_P G.1 vwCl [] H := hP
    have hD : va_D A [] := hD
    refine cv_l (As := [.long v, .long (fX1_wholeSize i kd v)]) (rest := []) ⟨hx, hb, hml, hown, hts⟩ (kX1_withSignOf l G i v (fX1_wholeSize i kd v) hi) (cwV 2 hts gX1_through_X1_withSignOf rfl rfl rfl (by decide +kernel) ⟨Nat.le_of_ble_eq_true rfl, Nat.le_of_ble_eq_true rfl⟩) (so_rec hE hi hS) hE hK hP hD hS hA hl.1 [] rfl rfl rfl rfl rfl rfl (Nat.le_of_ble_eq_true rfl) dX1_through_115 ⟨Nat.zero_le _, Nat.zero_le _⟩ (fun H locs hP hD hS => ?_)
    have hP : va_P G.1 vwCl [] H := hP
    have hD : va_D A [] := hD
    exact rt_l hx hb hr hlocks hP hD hS dX1_through_118 (by rw [fX1_through, if_neg k_1, if_neg k_3, if_neg k_5, if_neg k_7, if_neg k_8, if_pos k_9])
  by_cases k_10 : kd = (6:Int32)
  · refine sw_in (tgt := 119) (off := 118) hx hb dX1_through_1 k_10 (by decide) (by decide) (by decide) (by decide) ?_
    refine lv_aload_n hx hb dX1_through_119 rfl (lv_at hl 0 rfl) ?_
    refine lv_lload hx hb dX1_through_120 (lv_at hl 3 rfl) ?_
    refine cv_i (As := [.long v]) (rest := []) ⟨hx, hb, hml, hown, hts⟩ (kX1_isZero l G i v hi) (cwV 1 hts gX1_through_X1_isZero rfl rfl rfl (by decide +kernel) ⟨Nat.le_of_ble_eq_true rfl, Nat.le_of_ble_eq_true rfl⟩) (so_rec hE hi hS) hE hK hP hD hS hA hl.1 [] rfl rfl rfl rfl rfl rfl (Nat.le_of_ble_eq_true rfl) dX1_through_122 ⟨Nat.zero_le _, Nat.zero_le _⟩ (fun H locs hP hD hS => ?_)
    have hP : va_P G.1 vwCl [] H := hP
    have hD : va_D A [] := hD
    refine bz_eq (tgt := 133) hx hb dX1_through_125 (by decide) (fun c_11 => ?_) (fun c_11 => ?_)
    · refine lv_aload_n hx hb dX1_through_133 rfl (lv_at hl 0 rfl) ?_
      refine lv_lload hx hb dX1_through_134 (lv_at hl 3 rfl) ?_
      refine lv_aload_n hx hb dX1_through_136 rfl (lv_at hl 0 rfl) ?_
      refine cv_l (As := []) (rest := [.long v, .ref (G.2.2.1 i)]) ⟨hx, hb, hml, hown, hts⟩ (kX1_one l G i hi) (cwV 0 hts gX1_through_X1_one rfl rfl rfl (by decide +kernel) ⟨Nat.le_of_ble_eq_true rfl, Nat.le_of_ble_eq_true rfl⟩) (so_rec hE hi hS) hE hK hP hD hS hA hl.1 [] rfl rfl rfl rfl rfl rfl (Nat.le_of_ble_eq_true rfl) dX1_through_137 ⟨Nat.zero_le _, Nat.zero_le _⟩ (fun H locs hP hD hS => ?_)
      have hP : va_P G.1 vwCl [] H := hP
      have hD : va_D A [] := hD
      refine cv_l (As := [.long v, .long (fX1_one i)]) (rest := []) ⟨hx, hb, hml, hown, hts⟩ (kX1_withSignOf l G i v (fX1_one i) hi) (cwV 2 hts gX1_through_X1_withSignOf rfl rfl rfl (by decide +kernel) ⟨Nat.le_of_ble_eq_true rfl, Nat.le_of_ble_eq_true rfl⟩) (so_rec hE hi hS) hE hK hP hD hS hA hl.1 [] rfl rfl rfl rfl rfl rfl (Nat.le_of_ble_eq_true rfl) dX1_through_140 ⟨Nat.zero_le _, Nat.zero_le _⟩ (fun H locs hP hD hS => ?_)
      have hP : va_P G.1 vwCl [] H := hP
      have hD : va_D A [] := hD
      exact rt_l hx hb hr hlocks hP hD hS dX1_through_143 (by rw [fX1_through, if_neg k_1, if_neg k_3, if_neg k_5, if_neg k_7, if_neg k_8, if_neg k_9, if_pos k_10, if_pos c_11])
    · refine lv_lload hx hb dX1_through_128 (lv_at hl 3 rfl) ?_
      refine lv_goto (tgt := 143) hx hb dX1_through_130 (by decide) ?_
      exact rt_l hx hb hr hlocks hP hD hS dX1_through_143 (by rw [fX1_through, if_neg k_1, if_neg k_3, if_neg k_5, if_neg k_7, if_neg k_8, if_neg k_9, if_pos k_10, if_neg c_11])
  by_cases k_12 : kd = (7:Int32)
  · refine sw_in (tgt := 144) (off := 143) hx hb dX1_through_1 k_12 (by decide) (by decide) (by decide) (by decide) ?_
    refine lv_aload_n hx hb dX1_through_144 rfl (lv_at hl 0 rfl) ?_
    refine lv_lload_n hx hb dX1_through_145 rfl (lv_at hl 2 rfl) ?_
    refine lv_lload hx hb dX1_through_146 (lv_at hl 3 rfl) ?_
    refine cv_l (As := [.long kn, .long v]) (rest := []) ⟨hx, hb, hml, hown, hts⟩ (kX1_withSignOf l G i kn v hi) (cwV 2 hts gX1_through_X1_withSignOf rfl rfl rfl (by decide +kernel) ⟨Nat.le_of_ble_eq_true rfl, Nat.le_of_ble_eq_true rfl⟩) (so_rec hE hi hS) hE hK hP hD hS hA hl.1 [] rfl rfl rfl rfl rfl rfl (Nat.le_of_ble_eq_true rfl) dX1_through_148 ⟨Nat.zero_le _, Nat.zero_le _⟩ (fun H locs hP hD hS => ?_)
    have hP : va_P G.1 vwCl [] H := hP
    have hD : va_D A [] := hD
    exact rt_l hx hb hr hlocks hP hD hS dX1_through_151 (by rw [fX1_through, if_neg k_1, if_neg k_3, if_neg k_5, if_neg k_7, if_neg k_8, if_neg k_9, if_neg k_10, if_pos k_12])
  by_cases k_13 : kd = (8:Int32)
  · refine sw_in (tgt := 152) (off := 151) hx hb dX1_through_1 k_13 (by decide) (by decide) (by decide) (by decide) ?_
    refine lv_aload_n hx hb dX1_through_152 rfl (lv_at hl 0 rfl) ?_
    refine lv_lload hx hb dX1_through_153 (lv_at hl 3 rfl) ?_
    refine cv_l (As := [.long v]) (rest := []) ⟨hx, hb, hml, hown, hts⟩ (kX1_withOtherSign l G i v hi) (cwV 1 hts gX1_through_X1_withOtherSign rfl rfl rfl (by decide +kernel) ⟨Nat.le_of_ble_eq_true rfl, Nat.le_of_ble_eq_true rfl⟩) (so_rec hE hi hS) hE hK hP hD hS hA hl.1 [] rfl rfl rfl rfl rfl rfl (Nat.le_of_ble_eq_true rfl) dX1_through_155 ⟨Nat.zero_le _, Nat.zero_le _⟩ (fun H locs hP hD hS => ?_)
    have hP : va_P G.1 vwCl [] H := hP
    have hD : va_D A [] := hD
    exact rt_l hx hb hr hlocks hP hD hS dX1_through_158 (by rw [fX1_through, if_neg k_1, if_neg k_3, if_neg k_5, if_neg k_7, if_neg k_8, if_neg k_9, if_neg k_10, if_neg k_12, if_pos k_13])
  refine lv_tableOut (tgt := 159) hx hb dX1_through_1 (sw_out9 k_1 k_3 k_5 k_7 k_8 k_9 k_10 k_12 k_13) (by decide) ?_
  refine lv_lload hx hb dX1_through_159 (lv_at hl 3 rfl) ?_
  exact rt_l hx hb hr hlocks hP hD hS dX1_through_161 (by rw [fX1_through, if_neg k_1, if_neg k_3, if_neg k_5, if_neg k_7, if_neg k_8, if_neg k_9, if_neg k_10, if_neg k_12, if_neg k_13])
def fX1_isOverHalf (rs : Int64) : Int32 := (if rs < (0:Int64) then (if rs = (-9223372036854775808:Int64) then (0:Int32) else (1:Int32)) else (0:Int32))
set_option maxHeartbeats 4000000 in
set_option maxRecDepth 100000 in
theorem kX1_isOverHalf (l : Launch) (G : GT) (rs : Int64) : CI l yX1_isOverHalf wsX1_isOverHalf { frames := 0, cells := 0, slots := 0, locals := 0 } G [.long rs] [] (fX1_isOverHalf rs) [] := by
  refine en_i (cc := cX1_isOverHalf) (maxL := 2) (ret := (some .boolean)) (own := RX1) (by decide) rfl rfl (Nat.le_of_ble_eq_true rfl) ?_
  intro p e s m below meth c A ls hx hb hr hts hown hml hlocks hA hK hE hP hD hS hl
  have hl : lv_has ls 2 [(0, .long rs)] := hl
  refine lv_lload_n hx hb dX1_isOverHalf_0 rfl (lv_at hl 0 rfl) ?_
  refine lv_lconst (v := (0:Int64)) hx hb dX1_isOverHalf_1 (by decide) ?_
  refine bl_ge (tgt := 18) hx hb dX1_isOverHalf_2 dX1_isOverHalf_3 (by decide) (fun c_1 => ?_) (fun c_1 => ?_)
  · refine lv_lload_n hx hb dX1_isOverHalf_6 rfl (lv_at hl 0 rfl) ?_
    refine lv_ldc2 (v := (-9223372036854775808:Int64)) hx hb hown (hts (.constantLong RX1 130 (-9223372036854775808)) (by decide +kernel)) dX1_isOverHalf_7 ?_
    refine bl_eq (tgt := 18) hx hb dX1_isOverHalf_10 dX1_isOverHalf_11 (by decide) (fun c_2 => ?_) (fun c_2 => ?_)
    · refine lv_iconst (v := (0:Int32)) hx hb dX1_isOverHalf_18 (by decide) ?_
      exact rt_z hx hb hr hlocks hP hD hS dX1_isOverHalf_19 (by rw [fX1_isOverHalf, if_pos c_1, if_pos c_2]) (z_nar (Or.inl rfl))
    · refine lv_iconst (v := (1:Int32)) hx hb dX1_isOverHalf_14 (by decide) ?_
      refine lv_goto (tgt := 19) hx hb dX1_isOverHalf_15 (by decide) ?_
      exact rt_z hx hb hr hlocks hP hD hS dX1_isOverHalf_19 (by rw [fX1_isOverHalf, if_pos c_1, if_neg c_2]) (z_nar (Or.inr rfl))
  · refine lv_iconst (v := (0:Int32)) hx hb dX1_isOverHalf_18 (by decide) ?_
    exact rt_z hx hb hr hlocks hP hD hS dX1_isOverHalf_19 (by rw [fX1_isOverHalf, if_neg c_1]) (z_nar (Or.inl rfl))
theorem z_X1_isOverHalf (rs : Int64) : fX1_isOverHalf rs = 0 ∨ fX1_isOverHalf rs = 1 := by
  unfold fX1_isOverHalf; repeat (first | exact Or.inl rfl | exact Or.inr rfl | split)
