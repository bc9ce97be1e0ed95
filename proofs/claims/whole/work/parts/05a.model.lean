def fX4_isWire (w : Int32) : Int32 := (if w < 0 then (0:Int32) else (if w < (4:Int32) then (1:Int32) else (0:Int32)))
set_option maxHeartbeats 4000000 in
set_option maxRecDepth 100000 in
theorem kX4_isWire (l : Launch) (G : GT) (w : Int32) : CI l yX4_isWire wsX4_isWire { frames := 0, cells := 0, slots := 0, locals := 0 } G [.int w] [] (fX4_isWire w) [] := by
  refine en_i (cc := cX4_isWire) (maxL := 1) (ret := (some .boolean)) (own := RX4) (by decide) rfl rfl (Nat.le_of_ble_eq_true rfl) ?_
  intro p e s m below meth c A ls hx hb hr hts hown hml hlocks hA hK hE hP hD hS hl
  have hl : lv_has ls 1 [(0, .int w)] := hl
  refine lv_iload_n hx hb dX4_isWire_0 rfl (lv_at hl 0 rfl) ?_
  refine bz_lt (tgt := 13) hx hb dX4_isWire_1 (by decide) (fun c_1 => ?_) (fun c_1 => ?_)
  · refine lv_iconst (v := (0:Int32)) hx hb dX4_isWire_13 (by decide) ?_
    exact rt_z hx hb hr hlocks hP hD hS dX4_isWire_14 (by rw [fX4_isWire, if_pos c_1]) (z_nar (Or.inl rfl))
  · refine lv_iload_n hx hb dX4_isWire_4 rfl (lv_at hl 0 rfl) ?_
    refine lv_iconst (v := (4:Int32)) hx hb dX4_isWire_5 (by decide) ?_
    refine bi_ge (tgt := 13) hx hb dX4_isWire_6 (by decide) (fun c_2 => ?_) (fun c_2 => ?_)
    · refine lv_iconst (v := (1:Int32)) hx hb dX4_isWire_9 (by decide) ?_
      refine lv_goto (tgt := 14) hx hb dX4_isWire_10 (by decide) ?_
      exact rt_z hx hb hr hlocks hP hD hS dX4_isWire_14 (by rw [fX4_isWire, if_neg c_1, if_pos c_2]) (z_nar (Or.inr rfl))
    · refine lv_iconst (v := (0:Int32)) hx hb dX4_isWire_13 (by decide) ?_
      exact rt_z hx hb hr hlocks hP hD hS dX4_isWire_14 (by rw [fX4_isWire, if_neg c_1, if_neg c_2]) (z_nar (Or.inl rfl))
theorem z_X4_isWire (w : Int32) : fX4_isWire w = 0 ∨ fX4_isWire w = 1 := by
  unfold fX4_isWire; repeat (first | exact Or.inl rfl | exact Or.inr rfl | split)
def fX4_fractionBits (w : Int32) : Int32 := (if w = (2:Int32) then (23:Int32) else (52:Int32))
set_option maxHeartbeats 4000000 in
set_option maxRecDepth 100000 in
theorem kX4_fractionBits (l : Launch) (G : GT) (w : Int32) : CI l yX4_fractionBits wsX4_fractionBits { frames := 0, cells := 0, slots := 0, locals := 0 } G [.int w] [] (fX4_fractionBits w) [] := by
  refine en_i (cc := cX4_fractionBits) (maxL := 1) (ret := (some .int)) (own := RX4) (by decide) rfl rfl (Nat.le_of_ble_eq_true rfl) ?_
  intro p e s m below meth c A ls hx hb hr hts hown hml hlocks hA hK hE hP hD hS hl
  have hl : lv_has ls 1 [(0, .int w)] := hl
  refine lv_iload_n hx hb dX4_fractionBits_0 rfl (lv_at hl 0 rfl) ?_
  refine lv_iconst (v := (2:Int32)) hx hb dX4_fractionBits_1 (by decide) ?_
  refine bi_ne (tgt := 10) hx hb dX4_fractionBits_2 (by decide) (fun c_1 => ?_) (fun c_1 => ?_)
  · refine lv_bipush (v := (23:Int32)) hx hb dX4_fractionBits_5 (by decide) ?_
    refine lv_goto (tgt := 12) hx hb dX4_fractionBits_7 (by decide) ?_
    exact rt_i hx hb hr hlocks hP hD hS dX4_fractionBits_12 (by rw [fX4_fractionBits, if_pos c_1])
  · refine lv_bipush (v := (52:Int32)) hx hb dX4_fractionBits_10 (by decide) ?_
    exact rt_i hx hb hr hlocks hP hD hS dX4_fractionBits_12 (by rw [fX4_fractionBits, if_neg c_1])
def fX4_signBit (w : Int32) : Int64 := (if w = (2:Int32) then (2147483648:Int64) else (-9223372036854775808:Int64))
set_option maxHeartbeats 4000000 in
set_option maxRecDepth 100000 in
theorem kX4_signBit (l : Launch) (G : GT) (w : Int32) : CL l yX4_signBit wsX4_signBit { frames := 0, cells := 0, slots := 0, locals := 0 } G [.int w] [] (fX4_signBit w) [] := by
  refine en_l (cc := cX4_signBit) (maxL := 1) (ret := (some .long)) (own := RX4) (by decide) rfl rfl (Nat.le_of_ble_eq_true rfl) ?_
  intro p e s m below meth c A ls hx hb hr hts hown hml hlocks hA hK hE hP hD hS hl
  have hl : lv_has ls 1 [(0, .int w)] := hl
  refine lv_iload_n hx hb dX4_signBit_0 rfl (lv_at hl 0 rfl) ?_
  refine lv_iconst (v := (2:Int32)) hx hb dX4_signBit_1 (by decide) ?_
  refine bi_ne (tgt := 11) hx hb dX4_signBit_2 (by decide) (fun c_1 => ?_) (fun c_1 => ?_)
  · refine lv_ldc2 (v := (2147483648:Int64)) hx hb hown (hts (.constantLong RX4 67 (2147483648)) (by decide +kernel)) dX4_signBit_5 ?_
    refine lv_goto (tgt := 14) hx hb dX4_signBit_8 (by decide) ?_
    exact rt_l hx hb hr hlocks hP hD hS dX4_signBit_14 (by rw [fX4_signBit, if_pos c_1])
  · refine lv_ldc2 (v := (-9223372036854775808:Int64)) hx hb hown (hts (.constantLong RX4 69 (-9223372036854775808)) (by decide +kernel)) dX4_signBit_11 ?_
    exact rt_l hx hb hr hlocks hP hD hS dX4_signBit_14 (by rw [fX4_signBit, if_neg c_1])
def fX4_endless (w : Int32) : Int64 := (if w = (2:Int32) then (2139095040:Int64) else (9218868437227405312:Int64))
set_option maxHeartbeats 4000000 in
set_option maxRecDepth 100000 in
theorem kX4_endless (l : Launch) (G : GT) (w : Int32) : CL l yX4_endless wsX4_endless { frames := 0, cells := 0, slots := 0, locals := 0 } G [.int w] [] (fX4_endless w) [] := by
  refine en_l (cc := cX4_endless) (maxL := 1) (ret := (some .long)) (own := RX4) (by decide) rfl rfl (Nat.le_of_ble_eq_true rfl) ?_
  intro p e s m below meth c A ls hx hb hr hts hown hml hlocks hA hK hE hP hD hS hl
  have hl : lv_has ls 1 [(0, .int w)] := hl
  refine lv_iload_n hx hb dX4_endless_0 rfl (lv_at hl 0 rfl) ?_
  refine lv_iconst (v := (2:Int32)) hx hb dX4_endless_1 (by decide) ?_
  refine bi_ne (tgt := 11) hx hb dX4_endless_2 (by decide) (fun c_1 => ?_) (fun c_1 => ?_)
  · refine lv_ldc2 (v := (2139095040:Int64)) hx hb hown (hts (.constantLong RX4 71 (2139095040)) (by decide +kernel)) dX4_endless_5 ?_
    refine lv_goto (tgt := 14) hx hb dX4_endless_8 (by decide) ?_
    exact rt_l hx hb hr hlocks hP hD hS dX4_endless_14 (by rw [fX4_endless, if_pos c_1])
  · refine lv_ldc2 (v := (9218868437227405312:Int64)) hx hb hown (hts (.constantLong RX4 73 (9218868437227405312)) (by decide +kernel)) dX4_endless_11 ?_
    exact rt_l hx hb hr hlocks hP hD hS dX4_endless_14 (by rw [fX4_endless, if_neg c_1])
def fX4_bare (w : Int32) (v : Int64) : Int64 := (if w = (2:Int32) then (v &&& (4294967295:Int64)) else v)
set_option maxHeartbeats 4000000 in
set_option maxRecDepth 100000 in
theorem kX4_bare (l : Launch) (G : GT) (w : Int32) (v : Int64) : CL l yX4_bare wsX4_bare { frames := 0, cells := 0, slots := 0, locals := 0 } G [.int w, .long v] [] (fX4_bare w v) [] := by
  refine en_l (cc := cX4_bare) (maxL := 3) (ret := (some .long)) (own := RX4) (by decide) rfl rfl (Nat.le_of_ble_eq_true rfl) ?_
  intro p e s m below meth c A ls hx hb hr hts hown hml hlocks hA hK hE hP hD hS hl
  have hl : lv_has ls 3 [(0, .int w), (1, .long v)] := hl
  refine lv_iload_n hx hb dX4_bare_0 rfl (lv_at hl 0 rfl) ?_
  refine lv_iconst (v := (2:Int32)) hx hb dX4_bare_1 (by decide) ?_
  refine bi_ne (tgt := 13) hx hb dX4_bare_2 (by decide) (fun c_1 => ?_) (fun c_1 => ?_)
  · refine lv_lload_n hx hb dX4_bare_5 rfl (lv_at hl 1 rfl) ?_
    refine lv_ldc2 (v := (4294967295:Int64)) hx hb hown (hts (.constantLong RX4 75 (4294967295)) (by decide +kernel)) dX4_bare_6 ?_
    refine lv_land hx hb dX4_bare_9 ?_
    refine lv_goto (tgt := 14) hx hb dX4_bare_10 (by decide) ?_
    exact rt_l hx hb hr hlocks hP hD hS dX4_bare_14 (by rw [fX4_bare, if_pos c_1])
  · refine lv_lload_n hx hb dX4_bare_13 rfl (lv_at hl 1 rfl) ?_
    exact rt_l hx hb hr hlocks hP hD hS dX4_bare_14 (by rw [fX4_bare, if_neg c_1])
def fX4_asCode (w : Int32) (v : Int64) : Int64 := (if w = (2:Int32) then v.toInt32.toInt64 else v)
set_option maxHeartbeats 4000000 in
set_option maxRecDepth 100000 in
theorem kX4_asCode (l : Launch) (G : GT) (w : Int32) (v : Int64) : CL l yX4_asCode wsX4_asCode { frames := 0, cells := 0, slots := 0, locals := 0 } G [.int w, .long v] [] (fX4_asCode w v) [] := by
  refine en_l (cc := cX4_asCode) (maxL := 3) (ret := (some .long)) (own := RX4) (by decide) rfl rfl (Nat.le_of_ble_eq_true rfl) ?_
  intro p e s m below meth c A ls hx hb hr hts hown hml hlocks hA hK hE hP hD hS hl
  have hl : lv_has ls 3 [(0, .int w), (1, .long v)] := hl
  refine lv_iload_n hx hb dX4_asCode_0 rfl (lv_at hl 0 rfl) ?_
  refine lv_iconst (v := (2:Int32)) hx hb dX4_asCode_1 (by decide) ?_
  refine bi_ne (tgt := 11) hx hb dX4_asCode_2 (by decide) (fun c_1 => ?_) (fun c_1 => ?_)
  · refine lv_lload_n hx hb dX4_asCode_5 rfl (lv_at hl 1 rfl) ?_
    refine r_l2i hx hb dX4_asCode_6 ?_
    refine r_i2l hx hb dX4_asCode_7 ?_
    refine lv_goto (tgt := 12) hx hb dX4_asCode_8 (by decide) ?_
    exact rt_l hx hb hr hlocks hP hD hS dX4_asCode_12 (by rw [fX4_asCode, if_pos c_1])
  · refine lv_lload_n hx hb dX4_asCode_11 rfl (lv_at hl 1 rfl) ?_
    exact rt_l hx hb hr hlocks hP hD hS dX4_asCode_12 (by rw [fX4_asCode, if_neg c_1])
def fX4_size (w : Int32) (v : Int64) : Int64 := ((fX4_bare w v) &&& ((fX4_signBit w) ^^^ (-1:Int64)))
set_option maxHeartbeats 4000000 in
set_option maxRecDepth 100000 in
theorem kX4_size (l : Launch) (G : GT) (w : Int32) (v : Int64) : CL l yX4_size wsX4_size { frames := 1, cells := 0, slots := 0, locals := 22 } G [.int w, .long v] [] (fX4_size w v) [] := by
  refine en_l (cc := cX4_size) (maxL := 3) (ret := (some .long)) (own := RX4) (by decide) rfl rfl (Nat.le_of_ble_eq_true rfl) ?_
  intro p e s m below meth c A ls hx hb hr hts hown hml hlocks hA hK hE hP hD hS hl
  have hl : lv_has ls 3 [(0, .int w), (1, .long v)] := hl
  refine lv_iload_n hx hb dX4_size_0 rfl (lv_at hl 0 rfl) ?_
  refine lv_lload_n hx hb dX4_size_1 rfl (lv_at hl 1 rfl) ?_
  refine cs_l (As := [.int w, .long v]) (rest := []) ⟨hx, hb, hml, hown, hts⟩ (kX4_bare l G w v) (va_cwS 2 hts gX4_size_X4_bare rfl rfl rfl (by decide +kernel) ⟨Nat.le_of_ble_eq_true rfl, Nat.le_of_ble_eq_true rfl⟩) hE hK hP hD hS hA hl.1 [] rfl rfl rfl rfl rfl rfl (Nat.le_of_ble_eq_true rfl) dX4_size_2 ⟨Nat.zero_le _, Nat.zero_le _⟩ (fun H locs hP hD hS => ?_)
  have hP : va_P G.1 vwCl [] H := hP
  have hD : va_D A [] := hD
  refine lv_iload_n hx hb dX4_size_5 rfl (lv_at hl 0 rfl) ?_
  refine cs_l (As := [.int w]) (rest := [.long (fX4_bare w v)]) ⟨hx, hb, hml, hown, hts⟩ (kX4_signBit l G w) (va_cwS 1 hts gX4_size_X4_signBit rfl rfl rfl (by decide +kernel) ⟨Nat.le_of_ble_eq_true rfl, Nat.le_of_ble_eq_true rfl⟩) hE hK hP hD hS hA hl.1 [] rfl rfl rfl rfl rfl rfl (Nat.le_of_ble_eq_true rfl) dX4_size_6 ⟨Nat.zero_le _, Nat.zero_le _⟩ (fun H locs hP hD hS => ?_)
  have hP : va_P G.1 vwCl [] H := hP
  have hD : va_D A [] := hD
  refine lv_ldc2 (v := (-1:Int64)) hx hb hown (hts (.constantLong RX4 85 (-1)) (by decide +kernel)) dX4_size_9 ?_
  refine lv_lxor hx hb dX4_size_12 ?_
  refine lv_land hx hb dX4_size_13 ?_
  exact rt_l hx hb hr hlocks hP hD hS dX4_size_14 (by rw [fX4_size])
def fX4_below (w : Int32) (v : Int64) : Int32 := (if (v &&& (fX4_signBit w)) = (0:Int64) then (0:Int32) else (1:Int32))
set_option maxHeartbeats 4000000 in
set_option maxRecDepth 100000 in
theorem kX4_below (l : Launch) (G : GT) (w : Int32) (v : Int64) : CI l yX4_below wsX4_below { frames := 1, cells := 0, slots := 0, locals := 20 } G [.int w, .long v] [] (fX4_below w v) [] := by
  refine en_i (cc := cX4_below) (maxL := 3) (ret := (some .boolean)) (own := RX4) (by decide) rfl rfl (Nat.le_of_ble_eq_true rfl) ?_
  intro p e s m below meth c A ls hx hb hr hts hown hml hlocks hA hK hE hP hD hS hl
  have hl : lv_has ls 3 [(0, .int w), (1, .long v)] := hl
  refine lv_lload_n hx hb dX4_below_0 rfl (lv_at hl 1 rfl) ?_
  refine lv_iload_n hx hb dX4_below_1 rfl (lv_at hl 0 rfl) ?_
  refine cs_l (As := [.int w]) (rest := [.long v]) ⟨hx, hb, hml, hown, hts⟩ (kX4_signBit l G w) (va_cwS 1 hts gX4_below_X4_signBit rfl rfl rfl (by decide +kernel) ⟨Nat.le_of_ble_eq_true rfl, Nat.le_of_ble_eq_true rfl⟩) hE hK hP hD hS hA hl.1 [] rfl rfl rfl rfl rfl rfl (Nat.le_of_ble_eq_true rfl) dX4_below_2 ⟨Nat.zero_le _, Nat.zero_le _⟩ (fun H locs hP hD hS => ?_)
  have hP : va_P G.1 vwCl [] H := hP
  have hD : va_D A [] := hD
  refine lv_land hx hb dX4_below_5 ?_
  refine lv_lconst (v := (0:Int64)) hx hb dX4_below_6 (by decide) ?_
  refine bl_eq (tgt := 15) hx hb dX4_below_7 dX4_below_8 (by decide) (fun c_1 => ?_) (fun c_1 => ?_)
  · refine lv_iconst (v := (0:Int32)) hx hb dX4_below_15 (by decide) ?_
    exact rt_z hx hb hr hlocks hP hD hS dX4_below_16 (by rw [fX4_below, if_pos c_1]) (z_nar (Or.inl rfl))
  · refine lv_iconst (v := (1:Int32)) hx hb dX4_below_11 (by decide) ?_
    refine lv_goto (tgt := 16) hx hb dX4_below_12 (by decide) ?_
    exact rt_z hx hb hr hlocks hP hD hS dX4_below_16 (by rw [fX4_below, if_neg c_1]) (z_nar (Or.inr rfl))
theorem z_X4_below (w : Int32) (v : Int64) : fX4_below w v = 0 ∨ fX4_below w v = 1 := by
  unfold fX4_below; repeat (first | exact Or.inl rfl | exact Or.inr rfl | split)
def fX4_coded (w : Int32) (hh : Int32) (lo : Int32) : Int64 := (if w = 0 then lo.toInt64 else (if w = (2:Int32) then lo.toInt64 else ((shL hh.toInt64 (32:Int32)) ||| (lo.toInt64 &&& (4294967295:Int64)))))
set_option maxHeartbeats 4000000 in
set_option maxRecDepth 100000 in
theorem kX4_coded (l : Launch) (G : GT) (w : Int32) (hh : Int32) (lo : Int32) : CL l yX4_coded wsX4_coded { frames := 0, cells := 0, slots := 0, locals := 0 } G [.int w, .int hh, .int lo] [] (fX4_coded w hh lo) [] := by
  refine en_l (cc := cX4_coded) (maxL := 3) (ret := (some .long)) (own := RX4) (by decide) rfl rfl (Nat.le_of_ble_eq_true rfl) ?_
  intro p e s m below meth c A ls hx hb hr hts hown hml hlocks hA hK hE hP hD hS hl
  have hl : lv_has ls 3 [(0, .int w), (1, .int hh), (2, .int lo)] := hl
  refine lv_iload_n hx hb dX4_coded_0 rfl (lv_at hl 0 rfl) ?_
  refine bz_eq (tgt := 9) hx hb dX4_coded_1 (by decide) (fun c_1 => ?_) (fun c_1 => ?_)
  · refine lv_iload_n hx hb dX4_coded_9 rfl (lv_at hl 2 rfl) ?_
    refine r_i2l hx hb dX4_coded_10 ?_
    exact rt_l hx hb hr hlocks hP hD hS dX4_coded_11 (by rw [fX4_coded, if_pos c_1])
  · refine lv_iload_n hx hb dX4_coded_4 rfl (lv_at hl 0 rfl) ?_
    refine lv_iconst (v := (2:Int32)) hx hb dX4_coded_5 (by decide) ?_
    refine bi_ne (tgt := 12) hx hb dX4_coded_6 (by decide) (fun c_2 => ?_) (fun c_2 => ?_)
    · refine lv_iload_n hx hb dX4_coded_9 rfl (lv_at hl 2 rfl) ?_
      refine r_i2l hx hb dX4_coded_10 ?_
      exact rt_l hx hb hr hlocks hP hD hS dX4_coded_11 (by rw [fX4_coded, if_neg c_1, if_pos c_2])
    · refine lv_iload_n hx hb dX4_coded_12 rfl (lv_at hl 1 rfl) ?_
      refine r_i2l hx hb dX4_coded_13 ?_
      refine lv_bipush (v := (32:Int32)) hx hb dX4_coded_14 (by decide) ?_
      refine r_lshl hx hb dX4_coded_16 ?_
      refine lv_iload_n hx hb dX4_coded_17 rfl (lv_at hl 2 rfl) ?_
      refine r_i2l hx hb dX4_coded_18 ?_
      refine lv_ldc2 (v := (4294967295:Int64)) hx hb hown (hts (.constantLong RX4 75 (4294967295)) (by decide +kernel)) dX4_coded_19 ?_
      refine lv_land hx hb dX4_coded_22 ?_
      refine lv_lor hx hb dX4_coded_23 ?_
      exact rt_l hx hb hr hlocks hP hD hS dX4_coded_24 (by rw [fX4_coded, if_neg c_1, if_neg c_2])
def fX4_isIll (w : Int32) (v : Int64) : Int32 := (if (1:Int32) < w then (if (fX4_endless w) < (fX4_size w v) then (1:Int32) else (0:Int32)) else (0:Int32))
set_option maxHeartbeats 4000000 in
set_option maxRecDepth 100000 in
theorem kX4_isIll (l : Launch) (G : GT) (w : Int32) (v : Int64) : CI l yX4_isIll wsX4_isIll { frames := 2, cells := 0, slots := 0, locals := 44 } G [.int w, .long v] [] (fX4_isIll w v) [] := by
  refine en_i (cc := cX4_isIll) (maxL := 3) (ret := (some .boolean)) (own := RX4) (by decide) rfl rfl (Nat.le_of_ble_eq_true rfl) ?_
  intro p e s m below meth c A ls hx hb hr hts hown hml hlocks hA hK hE hP hD hS hl
  have hl : lv_has ls 3 [(0, .int w), (1, .long v)] := hl
  refine lv_iload_n hx hb dX4_isIll_0 rfl (lv_at hl 0 rfl) ?_
  refine lv_iconst (v := (1:Int32)) hx hb dX4_isIll_1 (by decide) ?_
  refine bi_le (tgt := 22) hx hb dX4_isIll_2 (by decide) (fun c_1 => ?_) (fun c_1 => ?_)
  · refine lv_iload_n hx hb dX4_isIll_5 rfl (lv_at hl 0 rfl) ?_
    refine lv_lload_n hx hb dX4_isIll_6 rfl (lv_at hl 1 rfl) ?_
    refine cs_l (As := [.int w, .long v]) (rest := []) ⟨hx, hb, hml, hown, hts⟩ (kX4_size l G w v) (va_cwS 2 hts gX4_isIll_X4_size rfl rfl rfl (by decide +kernel) ⟨Nat.le_of_ble_eq_true rfl, Nat.le_of_ble_eq_true rfl⟩) hE hK hP hD hS hA hl.1 [] rfl rfl rfl rfl rfl rfl (Nat.le_of_ble_eq_true rfl) dX4_isIll_7 ⟨Nat.zero_le _, Nat.zero_le _⟩ (fun H locs hP hD hS => ?_)
    have hP : va_P G.1 vwCl [] H := hP
    have hD : va_D A [] := hD
    refine lv_iload_n hx hb dX4_isIll_10 rfl (lv_at hl 0 rfl) ?_
    refine cs_l (As := [.int w]) (rest := [.long (fX4_size w v)]) ⟨hx, hb, hml, hown, hts⟩ (kX4_endless l G w) (va_cwS 1 hts gX4_isIll_X4_endless rfl rfl rfl (by decide +kernel) ⟨Nat.le_of_ble_eq_true rfl, Nat.le_of_ble_eq_true rfl⟩) hE hK hP hD hS hA hl.1 [] rfl rfl rfl rfl rfl rfl (Nat.le_of_ble_eq_true rfl) dX4_isIll_11 ⟨Nat.zero_le _, Nat.zero_le _⟩ (fun H locs hP hD hS => ?_)
    have hP : va_P G.1 vwCl [] H := hP
    have hD : va_D A [] := hD
    refine bl_le (tgt := 22) hx hb dX4_isIll_14 dX4_isIll_15 (by decide) (fun c_2 => ?_) (fun c_2 => ?_)
    · refine lv_iconst (v := (1:Int32)) hx hb dX4_isIll_18 (by decide) ?_
      refine lv_goto (tgt := 23) hx hb dX4_isIll_19 (by decide) ?_
      exact rt_z hx hb hr hlocks hP hD hS dX4_isIll_23 (by rw [fX4_isIll, if_pos c_1, if_pos c_2]) (z_nar (Or.inr rfl))
    · refine lv_iconst (v := (0:Int32)) hx hb dX4_isIll_22 (by decide) ?_
      exact rt_z hx hb hr hlocks hP hD hS dX4_isIll_23 (by rw [fX4_isIll, if_pos c_1, if_neg c_2]) (z_nar (Or.inl rfl))
  · refine lv_iconst (v := (0:Int32)) hx hb dX4_isIll_22 (by decide) ?_
    exact rt_z hx hb hr hlocks hP hD hS dX4_isIll_23 (by rw [fX4_isIll, if_neg c_1]) (z_nar (Or.inl rfl))
theorem z_X4_isIll (w : Int32) (v : Int64) : fX4_isIll w v = 0 ∨ fX4_isIll w v = 1 := by
  unfold fX4_isIll; repeat (first | exact Or.inl rfl | exact Or.inr rfl | split)
def fX4_order_96 (w : Int32) (a : Int64) (y_6 : Int32) : Int32 := (if (fX4_below w a) = 0 then (if y_6 = (1:Int32) then (-1:Int32) else (1:Int32)) else (if y_6 = (0:Int32) then (-1:Int32) else (1:Int32)))
def fX4_order (w : Int32) (a : Int64) (b : Int64) : Int32 := (if w < (2:Int32) then (if a < b then (-1:Int32) else (if a = b then (0:Int32) else (1:Int32))) else (if (fX4_below w a) = (fX4_below w b) then (if (fX4_size w a) = (fX4_size w b) then (0:Int32) else (fX4_order_96 w a (if (fX4_size w a) < (fX4_size w b) then (1:Int32) else (0:Int32)))) else (if (fX4_below w a) = 0 then (1:Int32) else (-1:Int32))))
set_option maxHeartbeats 4000000 in
set_option maxRecDepth 100000 in
theorem kX4_order (l : Launch) (G : GT) (w : Int32) (a : Int64) (b : Int64) : CI l yX4_order wsX4_order { frames := 2, cells := 0, slots := 0, locals := 44 } G [.int w, .long a, .long b] [] (fX4_order w a b) [] := by
  refine en_i (cc := cX4_order) (maxL := 11) (ret := (some .int)) (own := RX4) (by decide) rfl rfl (Nat.le_of_ble_eq_true rfl) ?_
  intro p e s m below meth c A ls hx hb hr hts hown hml hlocks hA hK hE hP hD hS hl
  have hl : lv_has ls 11 [(0, .int w), (1, .long a), (3, .long b)] := hl
  refine lv_iload_n hx hb dX4_order_0 rfl (lv_at hl 0 rfl) ?_
  refine lv_iconst (v := (2:Int32)) hx hb dX4_order_1 (by decide) ?_
  refine bi_ge (tgt := 27) hx hb dX4_order_2 (by decide) (fun c_1 => ?_) (fun c_1 => ?_)
  · refine lv_lload_n hx hb dX4_order_5 rfl (lv_at hl 1 rfl) ?_
    refine lv_lload_n hx hb dX4_order_6 rfl (lv_at hl 2 rfl) ?_
    refine bl_ge (tgt := 15) hx hb dX4_order_7 dX4_order_8 (by decide) (fun c_2 => ?_) (fun c_2 => ?_)
    · refine lv_iconst (v := (-1:Int32)) hx hb dX4_order_11 (by decide) ?_
      refine lv_goto (tgt := 26) hx hb dX4_order_12 (by decide) ?_
      exact rt_i hx hb hr hlocks hP hD hS dX4_order_26 (by rw [fX4_order, if_pos c_1, if_pos c_2])
    · refine lv_lload_n hx hb dX4_order_15 rfl (lv_at hl 1 rfl) ?_
      refine lv_lload_n hx hb dX4_order_16 rfl (lv_at hl 2 rfl) ?_
      refine bl_ne (tgt := 25) hx hb dX4_order_17 dX4_order_18 (by decide) (fun c_3 => ?_) (fun c_3 => ?_)
      · refine lv_iconst (v := (0:Int32)) hx hb dX4_order_21 (by decide) ?_
        refine lv_goto (tgt := 26) hx hb dX4_order_22 (by decide) ?_
        exact rt_i hx hb hr hlocks hP hD hS dX4_order_26 (by rw [fX4_order, if_pos c_1, if_neg c_2, if_pos c_3])
      · refine lv_iconst (v := (1:Int32)) hx hb dX4_order_25 (by decide) ?_
        exact rt_i hx hb hr hlocks hP hD hS dX4_order_26 (by rw [fX4_order, if_pos c_1, if_neg c_2, if_neg c_3])
  · refine lv_iload_n hx hb dX4_order_27 rfl (lv_at hl 0 rfl) ?_
    refine lv_lload_n hx hb dX4_order_28 rfl (lv_at hl 1 rfl) ?_
    refine cs_i (As := [.int w, .long a]) (rest := []) ⟨hx, hb, hml, hown, hts⟩ (kX4_below l G w a) (va_cwS 2 hts gX4_order_X4_below rfl rfl rfl (by decide +kernel) ⟨Nat.le_of_ble_eq_true rfl, Nat.le_of_ble_eq_true rfl⟩) hE hK hP hD hS hA hl.1 [] rfl rfl rfl rfl rfl rfl (Nat.le_of_ble_eq_true rfl) dX4_order_29 ⟨Nat.zero_le _, Nat.zero_le _⟩ (fun H locs hP hD hS => ?_)
    have hP : va_P G.1 vwCl [] H := hP
    have hD : va_D A [] := hD
    refine lv_istore (lv' := [(5, .int (fX4_below w a)), (0, .int w), (1, .long a), (3, .long b)]) hx hb dX4_order_32 hl (by decide) rfl (fun ls hl => ?_)
    refine lv_iload_n hx hb dX4_order_34 rfl (lv_at hl 1 rfl) ?_
    refine lv_lload_n hx hb dX4_order_35 rfl (lv_at hl 3 rfl) ?_
    refine cs_i (As := [.int w, .long b]) (rest := []) ⟨hx, hb, hml, hown, hts⟩ (kX4_below l G w b) (va_cwS 2 hts gX4_order_X4_below rfl rfl rfl (by decide +kernel) ⟨Nat.le_of_ble_eq_true rfl, Nat.le_of_ble_eq_true rfl⟩) hE hK hP hD hS hA hl.1 [] rfl rfl rfl rfl rfl rfl (Nat.le_of_ble_eq_true rfl) dX4_order_36 ⟨Nat.zero_le _, Nat.zero_le _⟩ (fun H locs hP hD hS => ?_)
    have hP : va_P G.1 vwCl [] H := hP
    have hD : va_D A [] := hD
    refine lv_istore (lv' := [(6, .int (fX4_below w b)), (5, .int (fX4_below w a)), (0, .int w), (1, .long a), (3, .long b)]) hx hb dX4_order_39 hl (by decide) rfl (fun ls hl => ?_)
    refine lv_iload hx hb dX4_order_41 (lv_at hl 1 rfl) ?_
    refine lv_iload hx hb dX4_order_43 (lv_at hl 0 rfl) ?_
    refine bi_eq (tgt := 59) hx hb dX4_order_45 (by decide) (fun c_4 => ?_) (fun c_4 => ?_)
    · refine lv_iload_n hx hb dX4_order_59 rfl (lv_at hl 2 rfl) ?_
      refine lv_lload_n hx hb dX4_order_60 rfl (lv_at hl 3 rfl) ?_
      refine cs_l (As := [.int w, .long a]) (rest := []) ⟨hx, hb, hml, hown, hts⟩ (kX4_size l G w a) (va_cwS 2 hts gX4_order_X4_size rfl rfl rfl (by decide +kernel) ⟨Nat.le_of_ble_eq_true rfl, Nat.le_of_ble_eq_true rfl⟩) hE hK hP hD hS hA hl.1 [] rfl rfl rfl rfl rfl rfl (Nat.le_of_ble_eq_true rfl) dX4_order_61 ⟨Nat.zero_le _, Nat.zero_le _⟩ (fun H locs hP hD hS => ?_)
      have hP : va_P G.1 vwCl [] H := hP
      have hD : va_D A [] := hD
      refine lv_lstore (lv' := [(7, .long (fX4_size w a)), (6, .int (fX4_below w b)), (5, .int (fX4_below w a)), (0, .int w), (1, .long a), (3, .long b)]) hx hb dX4_order_64 hl (by decide) rfl (fun ls hl => ?_)
      refine lv_iload_n hx hb dX4_order_66 rfl (lv_at hl 3 rfl) ?_
      refine lv_lload_n hx hb dX4_order_67 rfl (lv_at hl 5 rfl) ?_
      refine cs_l (As := [.int w, .long b]) (rest := []) ⟨hx, hb, hml, hown, hts⟩ (kX4_size l G w b) (va_cwS 2 hts gX4_order_X4_size rfl rfl rfl (by decide +kernel) ⟨Nat.le_of_ble_eq_true rfl, Nat.le_of_ble_eq_true rfl⟩) hE hK hP hD hS hA hl.1 [] rfl rfl rfl rfl rfl rfl (Nat.le_of_ble_eq_true rfl) dX4_order_68 ⟨Nat.zero_le _, Nat.zero_le _⟩ (fun H locs hP hD hS => ?_)
      have hP : va_P G.1 vwCl [] H := hP
      have hD : va_D A [] := hD
      refine lv_lstore (lv' := [(9, .long (fX4_size w b)), (7, .long (fX4_size w a)), (6, .int (fX4_below w b)), (5, .int (fX4_below w a)), (0, .int w), (1, .long a), (3, .long b)]) hx hb dX4_order_71 hl (by decide) rfl (fun ls hl => ?_)
      refine lv_lload hx hb dX4_order_73 (lv_at hl 1 rfl) ?_
      refine lv_lload hx hb dX4_order_75 (lv_at hl 0 rfl) ?_
      refine bl_ne (tgt := 83) hx hb dX4_order_77 dX4_order_78 (by decide) (fun c_5 => ?_) (fun c_5 => ?_)
      · refine lv_iconst (v := (0:Int32)) hx hb dX4_order_81 (by decide) ?_
        exact rt_i hx hb hr hlocks hP hD hS dX4_order_82 (by rw [fX4_order, if_neg c_1, if_pos c_4, if_pos c_5])
      · refine lv_lload hx hb dX4_order_83 (lv_at hl 1 rfl) ?_
        refine lv_lload hx hb dX4_order_85 (lv_at hl 0 rfl) ?_
        refine jn_1 (T := Int32) G A (if (fX4_size w a) < (fX4_size w b) then (1:Int32) else (0:Int32)) [] 11 (fun y => [(5, .int (fX4_below w a))]) (fun y => [.int y]) 96 ?_ ?_
        · intro y_6 ey_6 H locs ls hP hD hS hl
          have hr_8 : fX4_order w a b = fX4_order_96 w a y_6 := by rw [ey_6, fX4_order, if_neg c_1, if_pos c_4, if_neg c_5]
          refine lv_iload hx hb dX4_order_96 (lv_at hl 0 rfl) ?_
          refine bz_ne (tgt := 105) hx hb dX4_order_98 (by decide) (fun c_9 => ?_) (fun c_9 => ?_)
          · refine lv_iconst (v := (1:Int32)) hx hb dX4_order_101 (by decide) ?_
            refine lv_goto (tgt := 106) hx hb dX4_order_102 (by decide) ?_
            refine bi_ne (tgt := 113) hx hb dX4_order_106 (by decide) (fun c_10 => ?_) (fun c_10 => ?_)
            · refine lv_iconst (v := (-1:Int32)) hx hb dX4_order_109 (by decide) ?_
              refine lv_goto (tgt := 114) hx hb dX4_order_110 (by decide) ?_
              exact rt_i hx hb hr hlocks hP hD hS dX4_order_114 (by rw [hr_8, fX4_order_96, if_pos c_9, if_pos c_10])
            · refine lv_iconst (v := (1:Int32)) hx hb dX4_order_113 (by decide) ?_
              exact rt_i hx hb hr hlocks hP hD hS dX4_order_114 (by rw [hr_8, fX4_order_96, if_pos c_9, if_neg c_10])
          · refine lv_iconst (v := (0:Int32)) hx hb dX4_order_105 (by decide) ?_
            refine bi_ne (tgt := 113) hx hb dX4_order_106 (by decide) (fun c_11 => ?_) (fun c_11 => ?_)
            · refine lv_iconst (v := (-1:Int32)) hx hb dX4_order_109 (by decide) ?_
              refine lv_goto (tgt := 114) hx hb dX4_order_110 (by decide) ?_
              exact rt_i hx hb hr hlocks hP hD hS dX4_order_114 (by rw [hr_8, fX4_order_96, if_neg c_9, if_pos c_11])
            · refine lv_iconst (v := (1:Int32)) hx hb dX4_order_113 (by decide) ?_
              exact rt_i hx hb hr hlocks hP hD hS dX4_order_114 (by rw [hr_8, fX4_order_96, if_neg c_9, if_neg c_11])
        · intro kj_6
          refine bl_ge (tgt := 95) hx hb dX4_order_87 dX4_order_88 (by decide) (fun c_7 => ?_) (fun c_7 => ?_)
          · refine lv_iconst (v := (1:Int32)) hx hb dX4_order_91 (by decide) ?_
            refine lv_goto (tgt := 96) hx hb dX4_order_92 (by decide) ?_
            exact kj_6 (1:Int32) (by rw [if_pos c_7]) _ _ _ hP hD hS (lv_sub hl [3] rfl)
          · refine lv_iconst (v := (0:Int32)) hx hb dX4_order_95 (by decide) ?_
            exact kj_6 (0:Int32) (by rw [if_neg c_7]) _ _ _ hP hD hS (lv_sub hl [3] rfl)
    · refine lv_iload hx hb dX4_order_48 (lv_at hl 1 rfl) ?_
      refine bz_eq (tgt := 57) hx hb dX4_order_50 (by decide) (fun c_12 => ?_) (fun c_12 => ?_)
      · refine lv_iconst (v := (1:Int32)) hx hb dX4_order_57 (by decide) ?_
        exact rt_i hx hb hr hlocks hP hD hS dX4_order_58 (by rw [fX4_order, if_neg c_1, if_neg c_4, if_pos c_12])
      · refine lv_iconst (v := (-1:Int32)) hx hb dX4_order_53 (by decide) ?_
        refine lv_goto (tgt := 58) hx hb dX4_order_54 (by decide) ?_
        exact rt_i hx hb hr hlocks hP hD hS dX4_order_58 (by rw [fX4_order, if_neg c_1, if_neg c_4, if_neg c_12])
def fX4_negative (w : Int32) (v : Int64) : Int64 := (if w = 0 then (-v.toInt32).toInt64 else (if w = (1:Int32) then (-v) else (fX4_asCode w ((fX4_bare w v) ^^^ (fX4_signBit w)))))
set_option maxHeartbeats 4000000 in
set_option maxRecDepth 100000 in
theorem kX4_negative (l : Launch) (G : GT) (w : Int32) (v : Int64) : CL l yX4_negative wsX4_negative { frames := 1, cells := 0, slots := 0, locals := 22 } G [.int w, .long v] [] (fX4_negative w v) [] := by
  refine en_l (cc := cX4_negative) (maxL := 3) (ret := (some .long)) (own := RX4) (by decide) rfl rfl (Nat.le_of_ble_eq_true rfl) ?_
  intro p e s m below meth c A ls hx hb hr hts hown hml hlocks hA hK hE hP hD hS hl
  have hl : lv_has ls 3 [(0, .int w), (1, .long v)] := hl
  refine lv_iload_n hx hb dX4_negative_0 rfl (lv_at hl 0 rfl) ?_
  refine bz_ne (tgt := 9) hx hb dX4_negative_1 (by decide) (fun c_1 => ?_) (fun c_1 => ?_)
  · refine lv_lload_n hx hb dX4_negative_4 rfl (lv_at hl 1 rfl) ?_
    refine r_l2i hx hb dX4_negative_5 ?_
    refine lv_ineg hx hb dX4_negative_6 ?_
    refine r_i2l hx hb dX4_negative_7 ?_
    exact rt_l hx hb hr hlocks hP hD hS dX4_negative_8 (by rw [fX4_negative, if_pos c_1])
  · refine lv_iload_n hx hb dX4_negative_9 rfl (lv_at hl 0 rfl) ?_
    refine lv_iconst (v := (1:Int32)) hx hb dX4_negative_10 (by decide) ?_
    refine bi_ne (tgt := 19) hx hb dX4_negative_11 (by decide) (fun c_2 => ?_) (fun c_2 => ?_)
    · refine lv_lload_n hx hb dX4_negative_14 rfl (lv_at hl 1 rfl) ?_
      refine lv_lneg hx hb dX4_negative_15 ?_
      refine lv_goto (tgt := 33) hx hb dX4_negative_16 (by decide) ?_
      exact rt_l hx hb hr hlocks hP hD hS dX4_negative_33 (by rw [fX4_negative, if_neg c_1, if_pos c_2])
    · refine lv_iload_n hx hb dX4_negative_19 rfl (lv_at hl 0 rfl) ?_
      refine lv_iload_n hx hb dX4_negative_20 rfl (lv_at hl 0 rfl) ?_
      refine lv_lload_n hx hb dX4_negative_21 rfl (lv_at hl 1 rfl) ?_
      refine cs_l (As := [.int w, .long v]) (rest := [.int w]) ⟨hx, hb, hml, hown, hts⟩ (kX4_bare l G w v) (va_cwS 2 hts gX4_negative_X4_bare rfl rfl rfl (by decide +kernel) ⟨Nat.le_of_ble_eq_true rfl, Nat.le_of_ble_eq_true rfl⟩) hE hK hP hD hS hA hl.1 [] rfl rfl rfl rfl rfl rfl (Nat.le_of_ble_eq_true rfl) dX4_negative_22 ⟨Nat.zero_le _, Nat.zero_le _⟩ (fun H locs hP hD hS => ?_)
      have hP : va_P G.1 vwCl [] H := hP
      have hD : va_D A [] := hD
      refine lv_iload_n hx hb dX4_negative_25 rfl (lv_at hl 0 rfl) ?_
      refine cs_l (As := [.int w]) (rest := [.long (fX4_bare w v), .int w]) ⟨hx, hb, hml, hown, hts⟩ (kX4_signBit l G w) (va_cwS 1 hts gX4_negative_X4_signBit rfl rfl rfl (by decide +kernel) ⟨Nat.le_of_ble_eq_true rfl, Nat.le_of_ble_eq_true rfl⟩) hE hK hP hD hS hA hl.1 [] rfl rfl rfl rfl rfl rfl (Nat.le_of_ble_eq_true rfl) dX4_negative_26 ⟨Nat.zero_le _, Nat.zero_le _⟩ (fun H locs hP hD hS => ?_)
      have hP : va_P G.1 vwCl [] H := hP
      have hD : va_D A [] := hD
      refine lv_lxor hx hb dX4_negative_29 ?_
      refine cs_l (As := [.int w, .long ((fX4_bare w v) ^^^ (fX4_signBit w))]) (rest := []) ⟨hx, hb, hml, hown, hts⟩ (kX4_asCode l G w ((fX4_bare w v) ^^^ (fX4_signBit w))) (va_cwS 2 hts gX4_negative_X4_asCode rfl rfl rfl (by decide +kernel) ⟨Nat.le_of_ble_eq_true rfl, Nat.le_of_ble_eq_true rfl⟩) hE hK hP hD hS hA hl.1 [] rfl rfl rfl rfl rfl rfl (Nat.le_of_ble_eq_true rfl) dX4_negative_30 ⟨Nat.zero_le _, Nat.zero_le _⟩ (fun H locs hP hD hS => ?_)
      have hP : va_P G.1 vwCl [] H := hP
      have hD : va_D A [] := hD
      exact rt_l hx hb hr hlocks hP hD hS dX4_negative_33 (by rw [fX4_negative, if_neg c_1, if_neg c_2])
def fX4_upright (w : Int32) (v : Int64) : Int64 := (if w < (2:Int32) then (if v < (0:Int64) then (fX4_negative w v) else v) else (fX4_asCode w (fX4_size w v)))
set_option maxHeartbeats 4000000 in
set_option maxRecDepth 100000 in
theorem kX4_upright (l : Launch) (G : GT) (w : Int32) (v : Int64) : CL l yX4_upright wsX4_upright { frames := 2, cells := 0, slots := 0, locals := 44 } G [.int w, .long v] [] (fX4_upright w v) [] := by
  refine en_l (cc := cX4_upright) (maxL := 3) (ret := (some .long)) (own := RX4) (by decide) rfl rfl (Nat.le_of_ble_eq_true rfl) ?_
  intro p e s m below meth c A ls hx hb hr hts hown hml hlocks hA hK hE hP hD hS hl
  have hl : lv_has ls 3 [(0, .int w), (1, .long v)] := hl
  refine lv_iload_n hx hb dX4_upright_0 rfl (lv_at hl 0 rfl) ?_
  refine lv_iconst (v := (2:Int32)) hx hb dX4_upright_1 (by decide) ?_
  refine bi_ge (tgt := 21) hx hb dX4_upright_2 (by decide) (fun c_1 => ?_) (fun c_1 => ?_)
  · refine lv_lload_n hx hb dX4_upright_5 rfl (lv_at hl 1 rfl) ?_
    refine lv_lconst (v := (0:Int64)) hx hb dX4_upright_6 (by decide) ?_
    refine bl_ge (tgt := 19) hx hb dX4_upright_7 dX4_upright_8 (by decide) (fun c_2 => ?_) (fun c_2 => ?_)
    · refine lv_iload_n hx hb dX4_upright_11 rfl (lv_at hl 0 rfl) ?_
      refine lv_lload_n hx hb dX4_upright_12 rfl (lv_at hl 1 rfl) ?_
      refine cs_l (As := [.int w, .long v]) (rest := []) ⟨hx, hb, hml, hown, hts⟩ (kX4_negative l G w v) (va_cwS 2 hts gX4_upright_X4_negative rfl rfl rfl (by decide +kernel) ⟨Nat.le_of_ble_eq_true rfl, Nat.le_of_ble_eq_true rfl⟩) hE hK hP hD hS hA hl.1 [] rfl rfl rfl rfl rfl rfl (Nat.le_of_ble_eq_true rfl) dX4_upright_13 ⟨Nat.zero_le _, Nat.zero_le _⟩ (fun H locs hP hD hS => ?_)
      have hP : va_P G.1 vwCl [] H := hP
      have hD : va_D A [] := hD
      refine lv_goto (tgt := 20) hx hb dX4_upright_16 (by decide) ?_
      exact rt_l hx hb hr hlocks hP hD hS dX4_upright_20 (by rw [fX4_upright, if_pos c_1, if_pos c_2])
    · refine lv_lload_n hx hb dX4_upright_19 rfl (lv_at hl 1 rfl) ?_
      exact rt_l hx hb hr hlocks hP hD hS dX4_upright_20 (by rw [fX4_upright, if_pos c_1, if_neg c_2])
  · refine lv_iload_n hx hb dX4_upright_21 rfl (lv_at hl 0 rfl) ?_
    refine lv_iload_n hx hb dX4_upright_22 rfl (lv_at hl 0 rfl) ?_
    refine lv_lload_n hx hb dX4_upright_23 rfl (lv_at hl 1 rfl) ?_
    refine cs_l (As := [.int w, .long v]) (rest := [.int w]) ⟨hx, hb, hml, hown, hts⟩ (kX4_size l G w v) (va_cwS 2 hts gX4_upright_X4_size rfl rfl rfl (by decide +kernel) ⟨Nat.le_of_ble_eq_true rfl, Nat.le_of_ble_eq_true rfl⟩) hE hK hP hD hS hA hl.1 [] rfl rfl rfl rfl rfl rfl (Nat.le_of_ble_eq_true rfl) dX4_upright_24 ⟨Nat.zero_le _, Nat.zero_le _⟩ (fun H locs hP hD hS => ?_)
    have hP : va_P G.1 vwCl [] H := hP
    have hD : va_D A [] := hD
    refine cs_l (As := [.int w, .long (fX4_size w v)]) (rest := []) ⟨hx, hb, hml, hown, hts⟩ (kX4_asCode l G w (fX4_size w v)) (va_cwS 2 hts gX4_upright_X4_asCode rfl rfl rfl (by decide +kernel) ⟨Nat.le_of_ble_eq_true rfl, Nat.le_of_ble_eq_true rfl⟩) hE hK hP hD hS hA hl.1 [] rfl rfl rfl rfl rfl rfl (Nat.le_of_ble_eq_true rfl) dX4_upright_27 ⟨Nat.zero_le _, Nat.zero_le _⟩ (fun H locs hP hD hS => ?_)
    have hP : va_P G.1 vwCl [] H := hP
    have hD : va_D A [] := hD
    exact rt_l hx hb hr hlocks hP hD hS dX4_upright_30 (by rw [fX4_upright, if_neg c_1])
def fX4_whole_144 (w : Int32) (y_6 : Int64) (y_9 : Int64) (y_13 : Int32) : Int64 := (if y_13 = 0 then (fX4_asCode w (y_6 ||| (0:Int64))) else (fX4_asCode w (y_6 ||| y_9)))
def fX4_whole_271 (w : Int32) (v : Int64) (y_1 : Int32) (y_6 : Int64) (y_25 : Int32) : Int64 := (if y_25 = 0 then (fX4_asCode w (y_6 ||| (((fX4_size w v) - ((fX4_size w v) &&& ((shL (1:Int64) ((fX4_fractionBits w) - ((shR (fX4_size w v) (fX4_fractionBits w)).toInt32 - y_1))) - (1:Int64)))) + (0:Int64)))) else (fX4_asCode w (y_6 ||| (((fX4_size w v) - ((fX4_size w v) &&& ((shL (1:Int64) ((fX4_fractionBits w) - ((shR (fX4_size w v) (fX4_fractionBits w)).toInt32 - y_1))) - (1:Int64)))) + (shL (1:Int64) ((fX4_fractionBits w) - ((shR (fX4_size w v) (fX4_fractionBits w)).toInt32 - y_1)))))))
def fX4_whole_207 (w : Int32) (v : Int64) (how : Int32) (y_1 : Int32) (y_6 : Int64) (y_22 : Int32) : Int64 := (fX4_whole_271 w v y_1 y_6 (if how = (5:Int32) then (if (shL (1:Int64) ((fX4_fractionBits w) - ((shR (fX4_size w v) (fX4_fractionBits w)).toInt32 - y_1))) < ((2:Int64) * ((fX4_size w v) &&& ((shL (1:Int64) ((fX4_fractionBits w) - ((shR (fX4_size w v) (fX4_fractionBits w)).toInt32 - y_1))) - (1:Int64)))) then (1:Int32) else (if ((2:Int64) * ((fX4_size w v) &&& ((shL (1:Int64) ((fX4_fractionBits w) - ((shR (fX4_size w v) (fX4_fractionBits w)).toInt32 - y_1))) - (1:Int64)))) = (shL (1:Int64) ((fX4_fractionBits w) - ((shR (fX4_size w v) (fX4_fractionBits w)).toInt32 - y_1))) then (if y_22 = 0 then (0:Int32) else (1:Int32)) else (0:Int32))) else (if (fX4_below w v) = (if how = (3:Int32) then (1:Int32) else (0:Int32)) then (1:Int32) else (0:Int32))))
def fX4_whole_87 (w : Int32) (v : Int64) (how : Int32) (y_1 : Int32) (y_6 : Int64) (y_9 : Int64) : Int64 := (if ((shR (fX4_size w v) (fX4_fractionBits w)).toInt32 - y_1) < 0 then (fX4_whole_144 w y_6 y_9 (if how = (5:Int32) then (if (y_9 - (shL (1:Int64) (fX4_fractionBits w))) < (fX4_size w v) then (1:Int32) else (0:Int32)) else (if (fX4_below w v) = (if how = (3:Int32) then (1:Int32) else (0:Int32)) then (1:Int32) else (0:Int32)))) else (if ((fX4_size w v) &&& ((shL (1:Int64) ((fX4_fractionBits w) - ((shR (fX4_size w v) (fX4_fractionBits w)).toInt32 - y_1))) - (1:Int64))) = (0:Int64) then v else (fX4_whole_207 w v how y_1 y_6 (if ((fX4_size w v) &&& (shL (1:Int64) ((fX4_fractionBits w) - ((shR (fX4_size w v) (fX4_fractionBits w)).toInt32 - y_1)))) = (0:Int64) then (0:Int32) else (1:Int32)))))
def fX4_whole_71 (w : Int32) (v : Int64) (how : Int32) (y_1 : Int32) (y_6 : Int64) : Int64 := (fX4_whole_87 w v how y_1 y_6 (if w = (2:Int32) then (1065353216:Int64) else (4607182418800017408:Int64)))
def fX4_whole_32 (w : Int32) (v : Int64) (how : Int32) (y_1 : Int32) : Int64 := (if (fX4_size w v) = (0:Int64) then v else (if ((shR (fX4_size w v) (fX4_fractionBits w)).toInt32 - y_1) < (fX4_fractionBits w) then (fX4_whole_71 w v how y_1 (if (fX4_below w v) = 0 then (0:Int64) else (fX4_signBit w))) else v))
def fX4_whole (w : Int32) (v : Int64) (how : Int32) : Int64 := (fX4_whole_32 w v how (if w = (2:Int32) then (127:Int32) else (1023:Int32)))
set_option maxHeartbeats 4000000 in
set_option maxRecDepth 100000 in
theorem kX4_whole (l : Launch) (G : GT) (w : Int32) (v : Int64) (how : Int32) : CL l yX4_whole wsX4_whole { frames := 2, cells := 0, slots := 0, locals := 44 } G [.int w, .long v, .int how] [] (fX4_whole w v how) [] := by
  refine en_l (cc := cX4_whole) (maxL := 19) (ret := (some .long)) (own := RX4) (by decide) rfl rfl (Nat.le_of_ble_eq_true rfl) ?_
  intro p e s m below meth c A ls hx hb hr hts hown hml hlocks hA hK hE hP hD hS hl
  have hl : lv_has ls 19 [(0, .int w), (1, .long v), (3, .int how)] := hl
  refine lv_iload_n hx hb dX4_whole_0 rfl (lv_at hl 0 rfl) ?_
  refine lv_lload_n hx hb dX4_whole_1 rfl (lv_at hl 1 rfl) ?_
  refine cs_l (As := [.int w, .long v]) (rest := []) ⟨hx, hb, hml, hown, hts⟩ (kX4_size l G w v) (va_cwS 2 hts gX4_whole_X4_size rfl rfl rfl (by decide +kernel) ⟨Nat.le_of_ble_eq_true rfl, Nat.le_of_ble_eq_true rfl⟩) hE hK hP hD hS hA hl.1 [] rfl rfl rfl rfl rfl rfl (Nat.le_of_ble_eq_true rfl) dX4_whole_2 ⟨Nat.zero_le _, Nat.zero_le _⟩ (fun H locs hP hD hS => ?_)
  have hP : va_P G.1 vwCl [] H := hP
  have hD : va_D A [] := hD
  refine lv_lstore (lv' := [(4, .long (fX4_size w v)), (0, .int w), (1, .long v), (3, .int how)]) hx hb dX4_whole_5 hl (by decide) rfl (fun ls hl => ?_)
  refine lv_iload_n hx hb dX4_whole_7 rfl (lv_at hl 1 rfl) ?_
  refine cs_i (As := [.int w]) (rest := []) ⟨hx, hb, hml, hown, hts⟩ (kX4_fractionBits l G w) (va_cwS 1 hts gX4_whole_X4_fractionBits rfl rfl rfl (by decide +kernel) ⟨Nat.le_of_ble_eq_true rfl, Nat.le_of_ble_eq_true rfl⟩) hE hK hP hD hS hA hl.1 [] rfl rfl rfl rfl rfl rfl (Nat.le_of_ble_eq_true rfl) dX4_whole_8 ⟨Nat.zero_le _, Nat.zero_le _⟩ (fun H locs hP hD hS => ?_)
  have hP : va_P G.1 vwCl [] H := hP
  have hD : va_D A [] := hD
  refine lv_istore (lv' := [(6, .int (fX4_fractionBits w)), (4, .long (fX4_size w v)), (0, .int w), (1, .long v), (3, .int how)]) hx hb dX4_whole_11 hl (by decide) rfl (fun ls hl => ?_)
  refine lv_lload hx hb dX4_whole_13 (lv_at hl 1 rfl) ?_
  refine lv_iload hx hb dX4_whole_15 (lv_at hl 0 rfl) ?_
  refine r_lshr hx hb dX4_whole_17 ?_
  refine r_l2i hx hb dX4_whole_18 ?_
  refine lv_iload_n hx hb dX4_whole_19 rfl (lv_at hl 2 rfl) ?_
  refine lv_iconst (v := (2:Int32)) hx hb dX4_whole_20 (by decide) ?_
  refine jn_1 (T := Int32) G A (if w = (2:Int32) then (127:Int32) else (1023:Int32)) [] 19 (fun y => [(0, .int w), (1, .long v), (3, .int how), (4, .long (fX4_size w v)), (6, .int (fX4_fractionBits w))]) (fun y => [.int y, .int ((shR (fX4_size w v) (fX4_fractionBits w)).toInt32)]) 32 ?_ ?_
  · intro y_1 ey_1 H locs ls hP hD hS hl
    have hr_3 : fX4_whole w v how = fX4_whole_32 w v how y_1 := by rw [ey_1, fX4_whole]
    refine lv_isub hx hb dX4_whole_32 ?_
    refine lv_istore (lv' := [(7, .int ((shR (fX4_size w v) (fX4_fractionBits w)).toInt32 - y_1)), (0, .int w), (1, .long v), (3, .int how), (4, .long (fX4_size w v)), (6, .int (fX4_fractionBits w))]) hx hb dX4_whole_33 hl (by decide) rfl (fun ls hl => ?_)
    refine lv_lload hx hb dX4_whole_35 (lv_at hl 4 rfl) ?_
    refine lv_lconst (v := (0:Int64)) hx hb dX4_whole_37 (by decide) ?_
    refine bl_eq (tgt := 49) hx hb dX4_whole_38 dX4_whole_39 (by decide) (fun c_4 => ?_) (fun c_4 => ?_)
    · refine lv_lload_n hx hb dX4_whole_49 rfl (lv_at hl 2 rfl) ?_
      exact rt_l hx hb hr hlocks hP hD hS dX4_whole_50 (by rw [hr_3, fX4_whole_32, if_pos c_4])
    · refine lv_iload hx hb dX4_whole_42 (lv_at hl 0 rfl) ?_
      refine lv_iload hx hb dX4_whole_44 (lv_at hl 5 rfl) ?_
      refine bi_lt (tgt := 51) hx hb dX4_whole_46 (by decide) (fun c_5 => ?_) (fun c_5 => ?_)
      · refine lv_iload_n hx hb dX4_whole_51 rfl (lv_at hl 1 rfl) ?_
        refine lv_lload_n hx hb dX4_whole_52 rfl (lv_at hl 2 rfl) ?_
        refine cs_i (As := [.int w, .long v]) (rest := []) ⟨hx, hb, hml, hown, hts⟩ (kX4_below l G w v) (va_cwS 2 hts gX4_whole_X4_below rfl rfl rfl (by decide +kernel) ⟨Nat.le_of_ble_eq_true rfl, Nat.le_of_ble_eq_true rfl⟩) hE hK hP hD hS hA hl.1 [] rfl rfl rfl rfl rfl rfl (Nat.le_of_ble_eq_true rfl) dX4_whole_53 ⟨Nat.zero_le _, Nat.zero_le _⟩ (fun H locs hP hD hS => ?_)
        have hP : va_P G.1 vwCl [] H := hP
        have hD : va_D A [] := hD
        refine lv_istore (lv' := [(8, .int (fX4_below w v)), (7, .int ((shR (fX4_size w v) (fX4_fractionBits w)).toInt32 - y_1)), (0, .int w), (1, .long v), (3, .int how), (4, .long (fX4_size w v)), (6, .int (fX4_fractionBits w))]) hx hb dX4_whole_56 hl (by decide) rfl (fun ls hl => ?_)
        refine lv_iload hx hb dX4_whole_58 (lv_at hl 0 rfl) ?_
        refine jn_1 (T := Int64) G A (if (fX4_below w v) = 0 then (0:Int64) else (fX4_signBit w)) [] 19 (fun y => [(0, .int w), (1, .long v), (3, .int how), (4, .long (fX4_size w v)), (6, .int (fX4_fractionBits w)), (7, .int ((shR (fX4_size w v) (fX4_fractionBits w)).toInt32 - y_1)), (8, .int (fX4_below w v))]) (fun y => [.long y]) 71 ?_ ?_
        · intro y_6 ey_6 H locs ls hP hD hS hl
          have hr_8 : fX4_whole w v how = fX4_whole_71 w v how y_1 y_6 := by rw [ey_6, hr_3, fX4_whole_32, if_neg c_4, if_pos c_5]
          refine lv_lstore (lv' := [(9, .long y_6), (0, .int w), (1, .long v), (3, .int how), (4, .long (fX4_size w v)), (6, .int (fX4_fractionBits w)), (7, .int ((shR (fX4_size w v) (fX4_fractionBits w)).toInt32 - y_1)), (8, .int (fX4_below w v))]) hx hb dX4_whole_71 hl (by decide) rfl (fun ls hl => ?_)
          refine lv_iload_n hx hb dX4_whole_73 rfl (lv_at hl 1 rfl) ?_
          refine lv_iconst (v := (2:Int32)) hx hb dX4_whole_74 (by decide) ?_
          refine jn_1 (T := Int64) G A (if w = (2:Int32) then (1065353216:Int64) else (4607182418800017408:Int64)) [] 19 (fun y => [(0, .int w), (1, .long v), (3, .int how), (4, .long (fX4_size w v)), (6, .int (fX4_fractionBits w)), (7, .int ((shR (fX4_size w v) (fX4_fractionBits w)).toInt32 - y_1)), (8, .int (fX4_below w v)), (9, .long y_6)]) (fun y => [.long y]) 87 ?_ ?_
          · intro y_9 ey_9 H locs ls hP hD hS hl
            have hr_11 : fX4_whole w v how = fX4_whole_87 w v how y_1 y_6 y_9 := by rw [ey_9, hr_8, fX4_whole_71]
            refine lv_lstore (lv' := [(11, .long y_9), (0, .int w), (1, .long v), (3, .int how), (4, .long (fX4_size w v)), (6, .int (fX4_fractionBits w)), (7, .int ((shR (fX4_size w v) (fX4_fractionBits w)).toInt32 - y_1)), (8, .int (fX4_below w v)), (9, .long y_6)]) hx hb dX4_whole_87 hl (by decide) rfl (fun ls hl => ?_)
            refine lv_iload hx hb dX4_whole_89 (lv_at hl 6 rfl) ?_
            refine bz_ge (tgt := 165) hx hb dX4_whole_91 (by decide) (fun c_12 => ?_) (fun c_12 => ?_)
            · refine lv_lload hx hb dX4_whole_94 (lv_at hl 0 rfl) ?_
              refine lv_lconst (v := (1:Int64)) hx hb dX4_whole_96 (by decide) ?_
              refine lv_iload hx hb dX4_whole_97 (lv_at hl 5 rfl) ?_
              refine r_lshl hx hb dX4_whole_99 ?_
              refine lv_lsub hx hb dX4_whole_100 ?_
              refine lv_lstore (lv' := [(13, .long (y_9 - (shL (1:Int64) (fX4_fractionBits w)))), (11, .long y_9), (0, .int w), (1, .long v), (3, .int how), (4, .long (fX4_size w v)), (6, .int (fX4_fractionBits w)), (7, .int ((shR (fX4_size w v) (fX4_fractionBits w)).toInt32 - y_1)), (8, .int (fX4_below w v)), (9, .long y_6)]) hx hb dX4_whole_101 hl (by decide) rfl (fun ls hl => ?_)
              refine lv_iload_n hx hb dX4_whole_103 rfl (lv_at hl 4 rfl) ?_
              refine lv_iconst (v := (5:Int32)) hx hb dX4_whole_104 (by decide) ?_
              refine jn_1 (T := Int32) G A (if how = (5:Int32) then (if (y_9 - (shL (1:Int64) (fX4_fractionBits w))) < (fX4_size w v) then (1:Int32) else (0:Int32)) else (if (fX4_below w v) = (if how = (3:Int32) then (1:Int32) else (0:Int32)) then (1:Int32) else (0:Int32))) [] 19 (fun y => [(0, .int w), (9, .long y_6), (11, .long y_9)]) (fun y => [.int y]) 144 ?_ ?_
              · intro y_13 ey_13 H locs ls hP hD hS hl
                have hr_19 : fX4_whole w v how = fX4_whole_144 w y_6 y_9 y_13 := by rw [ey_13, hr_11, fX4_whole_87, if_pos c_12]
                refine lv_istore (lv' := [(15, .int y_13), (0, .int w), (9, .long y_6), (11, .long y_9)]) hx hb dX4_whole_144 hl (by decide) rfl (fun ls hl => ?_)
                refine lv_iload_n hx hb dX4_whole_146 rfl (lv_at hl 1 rfl) ?_
                refine lv_lload hx hb dX4_whole_147 (lv_at hl 2 rfl) ?_
                refine lv_iload hx hb dX4_whole_149 (lv_at hl 0 rfl) ?_
                refine bz_eq (tgt := 159) hx hb dX4_whole_151 (by decide) (fun c_20 => ?_) (fun c_20 => ?_)
                · refine lv_lconst (v := (0:Int64)) hx hb dX4_whole_159 (by decide) ?_
                  refine lv_lor hx hb dX4_whole_160 ?_
                  refine cs_l (As := [.int w, .long (y_6 ||| (0:Int64))]) (rest := []) ⟨hx, hb, hml, hown, hts⟩ (kX4_asCode l G w (y_6 ||| (0:Int64))) (va_cwS 2 hts gX4_whole_X4_asCode rfl rfl rfl (by decide +kernel) ⟨Nat.le_of_ble_eq_true rfl, Nat.le_of_ble_eq_true rfl⟩) hE hK hP hD hS hA hl.1 [] rfl rfl rfl rfl rfl rfl (Nat.le_of_ble_eq_true rfl) dX4_whole_161 ⟨Nat.zero_le _, Nat.zero_le _⟩ (fun H locs hP hD hS => ?_)
                  have hP : va_P G.1 vwCl [] H := hP
                  have hD : va_D A [] := hD
                  exact rt_l hx hb hr hlocks hP hD hS dX4_whole_164 (by rw [hr_19, fX4_whole_144, if_pos c_20])
                · refine lv_lload hx hb dX4_whole_154 (lv_at hl 3 rfl) ?_
                  refine lv_goto (tgt := 160) hx hb dX4_whole_156 (by decide) ?_
                  refine lv_lor hx hb dX4_whole_160 ?_
                  refine cs_l (As := [.int w, .long (y_6 ||| y_9)]) (rest := []) ⟨hx, hb, hml, hown, hts⟩ (kX4_asCode l G w (y_6 ||| y_9)) (va_cwS 2 hts gX4_whole_X4_asCode rfl rfl rfl (by decide +kernel) ⟨Nat.le_of_ble_eq_true rfl, Nat.le_of_ble_eq_true rfl⟩) hE hK hP hD hS hA hl.1 [] rfl rfl rfl rfl rfl rfl (Nat.le_of_ble_eq_true rfl) dX4_whole_161 ⟨Nat.zero_le _, Nat.zero_le _⟩ (fun H locs hP hD hS => ?_)
                  have hP : va_P G.1 vwCl [] H := hP
                  have hD : va_D A [] := hD
                  exact rt_l hx hb hr hlocks hP hD hS dX4_whole_164 (by rw [hr_19, fX4_whole_144, if_neg c_20])
              · intro kj_13
                refine bi_ne (tgt := 124) hx hb dX4_whole_105 (by decide) (fun c_14 => ?_) (fun c_14 => ?_)
                · refine lv_lload hx hb dX4_whole_108 (lv_at hl 5 rfl) ?_
                  refine lv_lload hx hb dX4_whole_110 (lv_at hl 0 rfl) ?_
                  refine bl_le (tgt := 120) hx hb dX4_whole_112 dX4_whole_113 (by decide) (fun c_15 => ?_) (fun c_15 => ?_)
                  · refine lv_iconst (v := (1:Int32)) hx hb dX4_whole_116 (by decide) ?_
                    refine lv_goto (tgt := 144) hx hb dX4_whole_117 (by decide) ?_
                    exact kj_13 (1:Int32) (by rw [if_pos c_14, if_pos c_15]) _ _ _ hP hD hS (lv_sub hl [2, 9, 1] rfl)
                  · refine lv_iconst (v := (0:Int32)) hx hb dX4_whole_120 (by decide) ?_
                    refine lv_goto (tgt := 144) hx hb dX4_whole_121 (by decide) ?_
                    exact kj_13 (0:Int32) (by rw [if_pos c_14, if_neg c_15]) _ _ _ hP hD hS (lv_sub hl [2, 9, 1] rfl)
                · refine lv_iload hx hb dX4_whole_124 (lv_at hl 8 rfl) ?_
                  refine lv_iload_n hx hb dX4_whole_126 rfl (lv_at hl 4 rfl) ?_
                  refine lv_iconst (v := (3:Int32)) hx hb dX4_whole_127 (by decide) ?_
                  refine jn_1 (T := Int32) G A (if how = (3:Int32) then (1:Int32) else (0:Int32)) [] 19 (fun y => [(0, .int w), (9, .long y_6), (11, .long y_9)]) (fun y => [.int y, .int (fX4_below w v)]) 136 ?_ ?_
                  · intro y_16 ey_16 H locs ls hP hD hS hl
                    refine bi_ne (tgt := 143) hx hb dX4_whole_136 (by decide) (fun c_18 => ?_) (fun c_18 => ?_)
                    · refine lv_iconst (v := (1:Int32)) hx hb dX4_whole_139 (by decide) ?_
                      refine lv_goto (tgt := 144) hx hb dX4_whole_140 (by decide) ?_
                      exact kj_13 (1:Int32) (by subst ey_16; rw [if_neg c_14, if_pos c_18]) _ _ _ hP hD hS (lv_sub hl [0, 1, 2] rfl)
                    · refine lv_iconst (v := (0:Int32)) hx hb dX4_whole_143 (by decide) ?_
                      exact kj_13 (0:Int32) (by subst ey_16; rw [if_neg c_14, if_neg c_18]) _ _ _ hP hD hS (lv_sub hl [0, 1, 2] rfl)
                  · intro kj_16
                    refine bi_ne (tgt := 135) hx hb dX4_whole_128 (by decide) (fun c_17 => ?_) (fun c_17 => ?_)
                    · refine lv_iconst (v := (1:Int32)) hx hb dX4_whole_131 (by decide) ?_
                      refine lv_goto (tgt := 136) hx hb dX4_whole_132 (by decide) ?_
                      exact kj_16 (1:Int32) (by rw [if_pos c_17]) _ _ _ hP hD hS (lv_sub hl [2, 9, 1] rfl)
                    · refine lv_iconst (v := (0:Int32)) hx hb dX4_whole_135 (by decide) ?_
                      exact kj_16 (0:Int32) (by rw [if_neg c_17]) _ _ _ hP hD hS (lv_sub hl [2, 9, 1] rfl)
            · refine lv_lconst (v := (1:Int64)) hx hb dX4_whole_165 (by decide) ?_
              refine lv_iload hx hb dX4_whole_166 (lv_at hl 5 rfl) ?_
              refine lv_iload hx hb dX4_whole_168 (lv_at hl 6 rfl) ?_
              refine lv_isub hx hb dX4_whole_170 ?_
              refine r_lshl hx hb dX4_whole_171 ?_
              refine lv_lstore (lv' := [(13, .long (shL (1:Int64) ((fX4_fractionBits w) - ((shR (fX4_size w v) (fX4_fractionBits w)).toInt32 - y_1)))), (11, .long y_9), (0, .int w), (1, .long v), (3, .int how), (4, .long (fX4_size w v)), (6, .int (fX4_fractionBits w)), (7, .int ((shR (fX4_size w v) (fX4_fractionBits w)).toInt32 - y_1)), (8, .int (fX4_below w v)), (9, .long y_6)]) hx hb dX4_whole_172 hl (by decide) rfl (fun ls hl => ?_)
              refine lv_lload hx hb dX4_whole_174 (lv_at hl 5 rfl) ?_
              refine lv_lload hx hb dX4_whole_176 (lv_at hl 0 rfl) ?_
              refine lv_lconst (v := (1:Int64)) hx hb dX4_whole_178 (by decide) ?_
              refine lv_lsub hx hb dX4_whole_179 ?_
              refine lv_land hx hb dX4_whole_180 ?_
              refine lv_lstore (lv' := [(15, .long ((fX4_size w v) &&& ((shL (1:Int64) ((fX4_fractionBits w) - ((shR (fX4_size w v) (fX4_fractionBits w)).toInt32 - y_1))) - (1:Int64)))), (13, .long (shL (1:Int64) ((fX4_fractionBits w) - ((shR (fX4_size w v) (fX4_fractionBits w)).toInt32 - y_1)))), (11, .long y_9), (0, .int w), (1, .long v), (3, .int how), (4, .long (fX4_size w v)), (6, .int (fX4_fractionBits w)), (7, .int ((shR (fX4_size w v) (fX4_fractionBits w)).toInt32 - y_1)), (8, .int (fX4_below w v)), (9, .long y_6)]) hx hb dX4_whole_181 hl (by decide) rfl (fun ls hl => ?_)
              refine lv_lload hx hb dX4_whole_183 (lv_at hl 0 rfl) ?_
              refine lv_lconst (v := (0:Int64)) hx hb dX4_whole_185 (by decide) ?_
              refine bl_ne (tgt := 192) hx hb dX4_whole_186 dX4_whole_187 (by decide) (fun c_21 => ?_) (fun c_21 => ?_)
              · refine lv_lload_n hx hb dX4_whole_190 rfl (lv_at hl 4 rfl) ?_
                exact rt_l hx hb hr hlocks hP hD hS dX4_whole_191 (by rw [hr_11, fX4_whole_87, if_neg c_12, if_pos c_21])
              · refine lv_lload hx hb dX4_whole_192 (lv_at hl 6 rfl) ?_
                refine lv_lload hx hb dX4_whole_194 (lv_at hl 1 rfl) ?_
                refine lv_land hx hb dX4_whole_196 ?_
                refine lv_lconst (v := (0:Int64)) hx hb dX4_whole_197 (by decide) ?_
                refine jn_1 (T := Int32) G A (if ((fX4_size w v) &&& (shL (1:Int64) ((fX4_fractionBits w) - ((shR (fX4_size w v) (fX4_fractionBits w)).toInt32 - y_1)))) = (0:Int64) then (0:Int32) else (1:Int32)) [] 19 (fun y => [(0, .int w), (3, .int how), (4, .long (fX4_size w v)), (8, .int (fX4_below w v)), (9, .long y_6), (13, .long (shL (1:Int64) ((fX4_fractionBits w) - ((shR (fX4_size w v) (fX4_fractionBits w)).toInt32 - y_1)))), (15, .long ((fX4_size w v) &&& ((shL (1:Int64) ((fX4_fractionBits w) - ((shR (fX4_size w v) (fX4_fractionBits w)).toInt32 - y_1))) - (1:Int64))))]) (fun y => [.int y]) 207 ?_ ?_
                · intro y_22 ey_22 H locs ls hP hD hS hl
                  have hr_24 : fX4_whole w v how = fX4_whole_207 w v how y_1 y_6 y_22 := by rw [ey_22, hr_11, fX4_whole_87, if_neg c_12, if_neg c_21]
                  refine lv_istore (lv' := [(17, .int y_22), (0, .int w), (3, .int how), (4, .long (fX4_size w v)), (8, .int (fX4_below w v)), (9, .long y_6), (13, .long (shL (1:Int64) ((fX4_fractionBits w) - ((shR (fX4_size w v) (fX4_fractionBits w)).toInt32 - y_1)))), (15, .long ((fX4_size w v) &&& ((shL (1:Int64) ((fX4_fractionBits w) - ((shR (fX4_size w v) (fX4_fractionBits w)).toInt32 - y_1))) - (1:Int64))))]) hx hb dX4_whole_207 hl (by decide) rfl (fun ls hl => ?_)
                  refine lv_iload_n hx hb dX4_whole_209 rfl (lv_at hl 2 rfl) ?_
                  refine lv_iconst (v := (5:Int32)) hx hb dX4_whole_210 (by decide) ?_
                  refine jn_1 (T := Int32) G A (if how = (5:Int32) then (if (shL (1:Int64) ((fX4_fractionBits w) - ((shR (fX4_size w v) (fX4_fractionBits w)).toInt32 - y_1))) < ((2:Int64) * ((fX4_size w v) &&& ((shL (1:Int64) ((fX4_fractionBits w) - ((shR (fX4_size w v) (fX4_fractionBits w)).toInt32 - y_1))) - (1:Int64)))) then (1:Int32) else (if ((2:Int64) * ((fX4_size w v) &&& ((shL (1:Int64) ((fX4_fractionBits w) - ((shR (fX4_size w v) (fX4_fractionBits w)).toInt32 - y_1))) - (1:Int64)))) = (shL (1:Int64) ((fX4_fractionBits w) - ((shR (fX4_size w v) (fX4_fractionBits w)).toInt32 - y_1))) then (if y_22 = 0 then (0:Int32) else (1:Int32)) else (0:Int32))) else (if (fX4_below w v) = (if how = (3:Int32) then (1:Int32) else (0:Int32)) then (1:Int32) else (0:Int32))) [] 19 (fun y => [(0, .int w), (4, .long (fX4_size w v)), (9, .long y_6), (13, .long (shL (1:Int64) ((fX4_fractionBits w) - ((shR (fX4_size w v) (fX4_fractionBits w)).toInt32 - y_1)))), (15, .long ((fX4_size w v) &&& ((shL (1:Int64) ((fX4_fractionBits w) - ((shR (fX4_size w v) (fX4_fractionBits w)).toInt32 - y_1))) - (1:Int64))))]) (fun y => [.int y]) 271 ?_ ?_
                  · intro y_25 ey_25 H locs ls hP hD hS hl
                    have hr_33 : fX4_whole w v how = fX4_whole_271 w v y_1 y_6 y_25 := by rw [ey_25, hr_24, fX4_whole_207]
                    refine lv_istore (lv' := [(18, .int y_25), (0, .int w), (4, .long (fX4_size w v)), (9, .long y_6), (13, .long (shL (1:Int64) ((fX4_fractionBits w) - ((shR (fX4_size w v) (fX4_fractionBits w)).toInt32 - y_1)))), (15, .long ((fX4_size w v) &&& ((shL (1:Int64) ((fX4_fractionBits w) - ((shR (fX4_size w v) (fX4_fractionBits w)).toInt32 - y_1))) - (1:Int64))))]) hx hb dX4_whole_271 hl (by decide) rfl (fun ls hl => ?_)
                    refine lv_iload_n hx hb dX4_whole_273 rfl (lv_at hl 1 rfl) ?_
                    refine lv_lload hx hb dX4_whole_274 (lv_at hl 3 rfl) ?_
                    refine lv_lload hx hb dX4_whole_276 (lv_at hl 2 rfl) ?_
                    refine lv_lload hx hb dX4_whole_278 (lv_at hl 5 rfl) ?_
                    refine lv_lsub hx hb dX4_whole_280 ?_
                    refine lv_iload hx hb dX4_whole_281 (lv_at hl 0 rfl) ?_
                    refine bz_eq (tgt := 291) hx hb dX4_whole_283 (by decide) (fun c_34 => ?_) (fun c_34 => ?_)
                    · refine lv_lconst (v := (0:Int64)) hx hb dX4_whole_291 (by decide) ?_
                      refine lv_ladd hx hb dX4_whole_292 ?_
                      refine lv_lor hx hb dX4_whole_293 ?_
                      refine cs_l (As := [.int w, .long (y_6 ||| (((fX4_size w v) - ((fX4_size w v) &&& ((shL (1:Int64) ((fX4_fractionBits w) - ((shR (fX4_size w v) (fX4_fractionBits w)).toInt32 - y_1))) - (1:Int64)))) + (0:Int64)))]) (rest := []) ⟨hx, hb, hml, hown, hts⟩ (kX4_asCode l G w (y_6 ||| (((fX4_size w v) - ((fX4_size w v) &&& ((shL (1:Int64) ((fX4_fractionBits w) - ((shR (fX4_size w v) (fX4_fractionBits w)).toInt32 - y_1))) - (1:Int64)))) + (0:Int64)))) (va_cwS 2 hts gX4_whole_X4_asCode rfl rfl rfl (by decide +kernel) ⟨Nat.le_of_ble_eq_true rfl, Nat.le_of_ble_eq_true rfl⟩) hE hK hP hD hS hA hl.1 [] rfl rfl rfl rfl rfl rfl (Nat.le_of_ble_eq_true rfl) dX4_whole_294 ⟨Nat.zero_le _, Nat.zero_le _⟩ (fun H locs hP hD hS => ?_)
                      have hP : va_P G.1 vwCl [] H := hP
                      have hD : va_D A [] := hD
                      exact rt_l hx hb hr hlocks hP hD hS dX4_whole_297 (by rw [hr_33, fX4_whole_271, if_pos c_34])
                    · refine lv_lload hx hb dX4_whole_286 (lv_at hl 4 rfl) ?_
                      refine lv_goto (tgt := 292) hx hb dX4_whole_288 (by decide) ?_
                      refine lv_ladd hx hb dX4_whole_292 ?_
                      refine lv_lor hx hb dX4_whole_293 ?_
                      refine cs_l (As := [.int w, .long (y_6 ||| (((fX4_size w v) - ((fX4_size w v) &&& ((shL (1:Int64) ((fX4_fractionBits w) - ((shR (fX4_size w v) (fX4_fractionBits w)).toInt32 - y_1))) - (1:Int64)))) + (shL (1:Int64) ((fX4_fractionBits w) - ((shR (fX4_size w v) (fX4_fractionBits w)).toInt32 - y_1)))))]) (rest := []) ⟨hx, hb, hml, hown, hts⟩ (kX4_asCode l G w (y_6 ||| (((fX4_size w v) - ((fX4_size w v) &&& ((shL (1:Int64) ((fX4_fractionBits w) - ((shR (fX4_size w v) (fX4_fractionBits w)).toInt32 - y_1))) - (1:Int64)))) + (shL (1:Int64) ((fX4_fractionBits w) - ((shR (fX4_size w v) (fX4_fractionBits w)).toInt32 - y_1)))))) (va_cwS 2 hts gX4_whole_X4_asCode rfl rfl rfl (by decide +kernel) ⟨Nat.le_of_ble_eq_true rfl, Nat.le_of_ble_eq_true rfl⟩) hE hK hP hD hS hA hl.1 [] rfl rfl rfl rfl rfl rfl (Nat.le_of_ble_eq_true rfl) dX4_whole_294 ⟨Nat.zero_le _, Nat.zero_le _⟩ (fun H locs hP hD hS => ?_)
                      have hP : va_P G.1 vwCl [] H := hP
                      have hD : va_D A [] := hD
                      exact rt_l hx hb hr hlocks hP hD hS dX4_whole_297 (by rw [hr_33, fX4_whole_271, if_neg c_34])
                  · intro kj_25
                    refine bi_ne (tgt := 251) hx hb dX4_whole_211 (by decide) (fun c_26 => ?_) (fun c_26 => ?_)
                    · refine lv_ldc2 (v := (2:Int64)) hx hb hown (hts (.constantLong RX4 111 (2)) (by decide +kernel)) dX4_whole_214 ?_
                      refine lv_lload hx hb dX4_whole_217 (lv_at hl 7 rfl) ?_
                      refine lv_lmul hx hb dX4_whole_219 ?_
                      refine lv_lload hx hb dX4_whole_220 (lv_at hl 6 rfl) ?_
                      refine bl_gt (tgt := 243) hx hb dX4_whole_222 dX4_whole_223 (by decide) (fun c_27 => ?_) (fun c_27 => ?_)
                      · refine lv_iconst (v := (1:Int32)) hx hb dX4_whole_243 (by decide) ?_
                        refine lv_goto (tgt := 271) hx hb dX4_whole_244 (by decide) ?_
                        exact kj_25 (1:Int32) (by rw [if_pos c_26, if_pos c_27]) _ _ _ hP hD hS (lv_sub hl [1, 3, 5, 6, 7] rfl)
                      · refine lv_ldc2 (v := (2:Int64)) hx hb hown (hts (.constantLong RX4 111 (2)) (by decide +kernel)) dX4_whole_226 ?_
                        refine lv_lload hx hb dX4_whole_229 (lv_at hl 7 rfl) ?_
                        refine lv_lmul hx hb dX4_whole_231 ?_
                        refine lv_lload hx hb dX4_whole_232 (lv_at hl 6 rfl) ?_
                        refine bl_ne (tgt := 247) hx hb dX4_whole_234 dX4_whole_235 (by decide) (fun c_28 => ?_) (fun c_28 => ?_)
                        · refine lv_iload hx hb dX4_whole_238 (lv_at hl 0 rfl) ?_
                          refine bz_eq (tgt := 247) hx hb dX4_whole_240 (by decide) (fun c_29 => ?_) (fun c_29 => ?_)
                          · refine lv_iconst (v := (0:Int32)) hx hb dX4_whole_247 (by decide) ?_
                            refine lv_goto (tgt := 271) hx hb dX4_whole_248 (by decide) ?_
                            exact kj_25 (0:Int32) (by rw [if_pos c_26, if_neg c_27, if_pos c_28, if_pos c_29]) _ _ _ hP hD hS (lv_sub hl [1, 3, 5, 6, 7] rfl)
                          · refine lv_iconst (v := (1:Int32)) hx hb dX4_whole_243 (by decide) ?_
                            refine lv_goto (tgt := 271) hx hb dX4_whole_244 (by decide) ?_
                            exact kj_25 (1:Int32) (by rw [if_pos c_26, if_neg c_27, if_pos c_28, if_neg c_29]) _ _ _ hP hD hS (lv_sub hl [1, 3, 5, 6, 7] rfl)
                        · refine lv_iconst (v := (0:Int32)) hx hb dX4_whole_247 (by decide) ?_
                          refine lv_goto (tgt := 271) hx hb dX4_whole_248 (by decide) ?_
                          exact kj_25 (0:Int32) (by rw [if_pos c_26, if_neg c_27, if_neg c_28]) _ _ _ hP hD hS (lv_sub hl [1, 3, 5, 6, 7] rfl)
                    · refine lv_iload hx hb dX4_whole_251 (lv_at hl 4 rfl) ?_
                      refine lv_iload_n hx hb dX4_whole_253 rfl (lv_at hl 2 rfl) ?_
                      refine lv_iconst (v := (3:Int32)) hx hb dX4_whole_254 (by decide) ?_
                      refine jn_1 (T := Int32) G A (if how = (3:Int32) then (1:Int32) else (0:Int32)) [] 19 (fun y => [(0, .int w), (4, .long (fX4_size w v)), (9, .long y_6), (13, .long (shL (1:Int64) ((fX4_fractionBits w) - ((shR (fX4_size w v) (fX4_fractionBits w)).toInt32 - y_1)))), (15, .long ((fX4_size w v) &&& ((shL (1:Int64) ((fX4_fractionBits w) - ((shR (fX4_size w v) (fX4_fractionBits w)).toInt32 - y_1))) - (1:Int64))))]) (fun y => [.int y, .int (fX4_below w v)]) 263 ?_ ?_
                      · intro y_30 ey_30 H locs ls hP hD hS hl
                        refine bi_ne (tgt := 270) hx hb dX4_whole_263 (by decide) (fun c_32 => ?_) (fun c_32 => ?_)
                        · refine lv_iconst (v := (1:Int32)) hx hb dX4_whole_266 (by decide) ?_
                          refine lv_goto (tgt := 271) hx hb dX4_whole_267 (by decide) ?_
                          exact kj_25 (1:Int32) (by subst ey_30; rw [if_neg c_26, if_pos c_32]) _ _ _ hP hD hS (lv_sub hl [0, 1, 2, 3, 4] rfl)
                        · refine lv_iconst (v := (0:Int32)) hx hb dX4_whole_270 (by decide) ?_
                          exact kj_25 (0:Int32) (by subst ey_30; rw [if_neg c_26, if_neg c_32]) _ _ _ hP hD hS (lv_sub hl [0, 1, 2, 3, 4] rfl)
                      · intro kj_30
                        refine bi_ne (tgt := 262) hx hb dX4_whole_255 (by decide) (fun c_31 => ?_) (fun c_31 => ?_)
                        · refine lv_iconst (v := (1:Int32)) hx hb dX4_whole_258 (by decide) ?_
                          refine lv_goto (tgt := 263) hx hb dX4_whole_259 (by decide) ?_
                          exact kj_30 (1:Int32) (by rw [if_pos c_31]) _ _ _ hP hD hS (lv_sub hl [1, 3, 5, 6, 7] rfl)
                        · refine lv_iconst (v := (0:Int32)) hx hb dX4_whole_262 (by decide) ?_
                          exact kj_30 (0:Int32) (by rw [if_neg c_31]) _ _ _ hP hD hS (lv_sub hl [1, 3, 5, 6, 7] rfl)
                · intro kj_22
                  refine bl_eq (tgt := 206) hx hb dX4_whole_198 dX4_whole_199 (by decide) (fun c_23 => ?_) (fun c_23 => ?_)
                  · refine lv_iconst (v := (0:Int32)) hx hb dX4_whole_206 (by decide) ?_
                    exact kj_22 (0:Int32) (by rw [if_pos c_23]) _ _ _ hP hD hS (lv_sub hl [3, 5, 6, 9, 10, 1, 0] rfl)
                  · refine lv_iconst (v := (1:Int32)) hx hb dX4_whole_202 (by decide) ?_
                    refine lv_goto (tgt := 207) hx hb dX4_whole_203 (by decide) ?_
                    exact kj_22 (1:Int32) (by rw [if_neg c_23]) _ _ _ hP hD hS (lv_sub hl [3, 5, 6, 9, 10, 1, 0] rfl)
          · intro kj_9
            refine bi_ne (tgt := 84) hx hb dX4_whole_75 (by decide) (fun c_10 => ?_) (fun c_10 => ?_)
            · refine lv_ldc2 (v := (1065353216:Int64)) hx hb hown (hts (.constantLong RX4 107 (1065353216)) (by decide +kernel)) dX4_whole_78 ?_
              refine lv_goto (tgt := 87) hx hb dX4_whole_81 (by decide) ?_
              exact kj_9 (1065353216:Int64) (by rw [if_pos c_10]) _ _ _ hP hD hS (lv_sub hl [1, 2, 3, 4, 5, 6, 7, 0] rfl)
            · refine lv_ldc2 (v := (4607182418800017408:Int64)) hx hb hown (hts (.constantLong RX4 109 (4607182418800017408)) (by decide +kernel)) dX4_whole_84 ?_
              exact kj_9 (4607182418800017408:Int64) (by rw [if_neg c_10]) _ _ _ hP hD hS (lv_sub hl [1, 2, 3, 4, 5, 6, 7, 0] rfl)
        · intro kj_6
          refine bz_eq (tgt := 70) hx hb dX4_whole_60 (by decide) (fun c_7 => ?_) (fun c_7 => ?_)
          · refine lv_lconst (v := (0:Int64)) hx hb dX4_whole_70 (by decide) ?_
            exact kj_6 (0:Int64) (by rw [if_pos c_7]) _ _ _ hP hD hS (lv_sub hl [2, 3, 4, 5, 6, 1, 0] rfl)
          · refine lv_iload_n hx hb dX4_whole_63 rfl (lv_at hl 2 rfl) ?_
            refine cs_l (As := [.int w]) (rest := []) ⟨hx, hb, hml, hown, hts⟩ (kX4_signBit l G w) (va_cwS 1 hts gX4_whole_X4_signBit rfl rfl rfl (by decide +kernel) ⟨Nat.le_of_ble_eq_true rfl, Nat.le_of_ble_eq_true rfl⟩) hE hK hP hD hS hA hl.1 [] rfl rfl rfl rfl rfl rfl (Nat.le_of_ble_eq_true rfl) dX4_whole_64 ⟨Nat.zero_le _, Nat.zero_le _⟩ (fun H locs hP hD hS => ?_)
            have hP : va_P G.1 vwCl [] H := hP
            have hD : va_D A [] := hD
            refine lv_goto (tgt := 71) hx hb dX4_whole_67 (by decide) ?_
            exact kj_6 (fX4_signBit w) (by rw [if_neg c_7]) _ _ _ hP hD hS (lv_sub hl [2, 3, 4, 5, 6, 1, 0] rfl)
      · refine lv_lload_n hx hb dX4_whole_49 rfl (lv_at hl 2 rfl) ?_
        exact rt_l hx hb hr hlocks hP hD hS dX4_whole_50 (by rw [hr_3, fX4_whole_32, if_neg c_4, if_neg c_5])
  · intro kj_1
    refine bi_ne (tgt := 29) hx hb dX4_whole_21 (by decide) (fun c_2 => ?_) (fun c_2 => ?_)
    · refine lv_bipush (v := (127:Int32)) hx hb dX4_whole_24 (by decide) ?_
      refine lv_goto (tgt := 32) hx hb dX4_whole_26 (by decide) ?_
      exact kj_1 (127:Int32) (by rw [if_pos c_2]) _ _ _ hP hD hS (lv_sub hl [2, 3, 4, 1, 0] rfl)
    · refine lv_sipush (v := (1023:Int32)) hx hb dX4_whole_29 (by decide) ?_
      exact kj_1 (1023:Int32) (by rw [if_neg c_2]) _ _ _ hP hD hS (lv_sub hl [2, 3, 4, 1, 0] rfl)
def fX4_signOf_26 (w : Int32) (v : Int64) (y_2 : Int64) : Int64 := (if (fX4_below w v) = 0 then (fX4_asCode w y_2) else (fX4_asCode w (y_2 ||| (fX4_signBit w))))
def fX4_signOf (w : Int32) (v : Int64) : Int64 := (if (fX4_size w v) = (0:Int64) then v else (fX4_signOf_26 w v (if w = (2:Int32) then (1065353216:Int64) else (4607182418800017408:Int64))))
set_option maxHeartbeats 4000000 in
set_option maxRecDepth 100000 in
theorem kX4_signOf (l : Launch) (G : GT) (w : Int32) (v : Int64) : CL l yX4_signOf wsX4_signOf { frames := 2, cells := 0, slots := 0, locals := 44 } G [.int w, .long v] [] (fX4_signOf w v) [] := by
  refine en_l (cc := cX4_signOf) (maxL := 5) (ret := (some .long)) (own := RX4) (by decide) rfl rfl (Nat.le_of_ble_eq_true rfl) ?_
  intro p e s m below meth c A ls hx hb hr hts hown hml hlocks hA hK hE hP hD hS hl
  have hl : lv_has ls 5 [(0, .int w), (1, .long v)] := hl
  refine lv_iload_n hx hb dX4_signOf_0 rfl (lv_at hl 0 rfl) ?_
  refine lv_lload_n hx hb dX4_signOf_1 rfl (lv_at hl 1 rfl) ?_
  refine cs_l (As := [.int w, .long v]) (rest := []) ⟨hx, hb, hml, hown, hts⟩ (kX4_size l G w v) (va_cwS 2 hts gX4_signOf_X4_size rfl rfl rfl (by decide +kernel) ⟨Nat.le_of_ble_eq_true rfl, Nat.le_of_ble_eq_true rfl⟩) hE hK hP hD hS hA hl.1 [] rfl rfl rfl rfl rfl rfl (Nat.le_of_ble_eq_true rfl) dX4_signOf_2 ⟨Nat.zero_le _, Nat.zero_le _⟩ (fun H locs hP hD hS => ?_)
  have hP : va_P G.1 vwCl [] H := hP
  have hD : va_D A [] := hD
  refine lv_lconst (v := (0:Int64)) hx hb dX4_signOf_5 (by decide) ?_
  refine bl_ne (tgt := 12) hx hb dX4_signOf_6 dX4_signOf_7 (by decide) (fun c_1 => ?_) (fun c_1 => ?_)
  · refine lv_lload_n hx hb dX4_signOf_10 rfl (lv_at hl 1 rfl) ?_
    exact rt_l hx hb hr hlocks hP hD hS dX4_signOf_11 (by rw [fX4_signOf, if_pos c_1])
  · refine lv_iload_n hx hb dX4_signOf_12 rfl (lv_at hl 0 rfl) ?_
    refine lv_iconst (v := (2:Int32)) hx hb dX4_signOf_13 (by decide) ?_
    refine jn_1 (T := Int64) G A (if w = (2:Int32) then (1065353216:Int64) else (4607182418800017408:Int64)) [] 5 (fun y => [(0, .int w), (1, .long v)]) (fun y => [.long y]) 26 ?_ ?_
    · intro y_2 ey_2 H locs ls hP hD hS hl
      have hr_4 : fX4_signOf w v = fX4_signOf_26 w v y_2 := by rw [ey_2, fX4_signOf, if_neg c_1]
      refine lv_lstore_n (lv' := [(3, .long y_2), (0, .int w), (1, .long v)]) hx hb dX4_signOf_26 rfl hl (by decide) rfl (fun ls hl => ?_)
      refine lv_iload_n hx hb dX4_signOf_27 rfl (lv_at hl 1 rfl) ?_
      refine lv_iload_n hx hb dX4_signOf_28 rfl (lv_at hl 1 rfl) ?_
      refine lv_lload_n hx hb dX4_signOf_29 rfl (lv_at hl 2 rfl) ?_
      refine cs_i (As := [.int w, .long v]) (rest := [.int w]) ⟨hx, hb, hml, hown, hts⟩ (kX4_below l G w v) (va_cwS 2 hts gX4_signOf_X4_below rfl rfl rfl (by decide +kernel) ⟨Nat.le_of_ble_eq_true rfl, Nat.le_of_ble_eq_true rfl⟩) hE hK hP hD hS hA hl.1 [] rfl rfl rfl rfl rfl rfl (Nat.le_of_ble_eq_true rfl) dX4_signOf_30 ⟨Nat.zero_le _, Nat.zero_le _⟩ (fun H locs hP hD hS => ?_)
      have hP : va_P G.1 vwCl [] H := hP
      have hD : va_D A [] := hD
      refine bz_eq (tgt := 45) hx hb dX4_signOf_33 (by decide) (fun c_5 => ?_) (fun c_5 => ?_)
      · refine lv_lload_n hx hb dX4_signOf_45 rfl (lv_at hl 0 rfl) ?_
        refine cs_l (As := [.int w, .long y_2]) (rest := []) ⟨hx, hb, hml, hown, hts⟩ (kX4_asCode l G w y_2) (va_cwS 2 hts gX4_signOf_X4_asCode rfl rfl rfl (by decide +kernel) ⟨Nat.le_of_ble_eq_true rfl, Nat.le_of_ble_eq_true rfl⟩) hE hK hP hD hS hA hl.1 [] rfl rfl rfl rfl rfl rfl (Nat.le_of_ble_eq_true rfl) dX4_signOf_46 ⟨Nat.zero_le _, Nat.zero_le _⟩ (fun H locs hP hD hS => ?_)
        have hP : va_P G.1 vwCl [] H := hP
        have hD : va_D A [] := hD
        exact rt_l hx hb hr hlocks hP hD hS dX4_signOf_49 (by rw [hr_4, fX4_signOf_26, if_pos c_5])
      · refine lv_lload_n hx hb dX4_signOf_36 rfl (lv_at hl 0 rfl) ?_
        refine lv_iload_n hx hb dX4_signOf_37 rfl (lv_at hl 1 rfl) ?_
        refine cs_l (As := [.int w]) (rest := [.long y_2, .int w]) ⟨hx, hb, hml, hown, hts⟩ (kX4_signBit l G w) (va_cwS 1 hts gX4_signOf_X4_signBit rfl rfl rfl (by decide +kernel) ⟨Nat.le_of_ble_eq_true rfl, Nat.le_of_ble_eq_true rfl⟩) hE hK hP hD hS hA hl.1 [] rfl rfl rfl rfl rfl rfl (Nat.le_of_ble_eq_true rfl) dX4_signOf_38 ⟨Nat.zero_le _, Nat.zero_le _⟩ (fun H locs hP hD hS => ?_)
        have hP : va_P G.1 vwCl [] H := hP
        have hD : va_D A [] := hD
        refine lv_lor hx hb dX4_signOf_41 ?_
        refine lv_goto (tgt := 46) hx hb dX4_signOf_42 (by decide) ?_
        refine cs_l (As := [.int w, .long (y_2 ||| (fX4_signBit w))]) (rest := []) ⟨hx, hb, hml, hown, hts⟩ (kX4_asCode l G w (y_2 ||| (fX4_signBit w))) (va_cwS 2 hts gX4_signOf_X4_asCode rfl rfl rfl (by decide +kernel) ⟨Nat.le_of_ble_eq_true rfl, Nat.le_of_ble_eq_true rfl⟩) hE hK hP hD hS hA hl.1 [] rfl rfl rfl rfl rfl rfl (Nat.le_of_ble_eq_true rfl) dX4_signOf_46 ⟨Nat.zero_le _, Nat.zero_le _⟩ (fun H locs hP hD hS => ?_)
        have hP : va_P G.1 vwCl [] H := hP
        have hD : va_D A [] := hD
        exact rt_l hx hb hr hlocks hP hD hS dX4_signOf_49 (by rw [hr_4, fX4_signOf_26, if_neg c_5])
    · intro kj_2
      refine bi_ne (tgt := 23) hx hb dX4_signOf_14 (by decide) (fun c_3 => ?_) (fun c_3 => ?_)
      · refine lv_ldc2 (v := (1065353216:Int64)) hx hb hown (hts (.constantLong RX4 107 (1065353216)) (by decide +kernel)) dX4_signOf_17 ?_
        refine lv_goto (tgt := 26) hx hb dX4_signOf_20 (by decide) ?_
        exact kj_2 (1065353216:Int64) (by rw [if_pos c_3]) _ _ _ hP hD hS (lv_sub hl [0, 1] rfl)
      · refine lv_ldc2 (v := (4607182418800017408:Int64)) hx hb hown (hts (.constantLong RX4 109 (4607182418800017408)) (by decide +kernel)) dX4_signOf_23 ?_
        exact kj_2 (4607182418800017408:Int64) (by rw [if_neg c_3]) _ _ _ hP hD hS (lv_sub hl [0, 1] rfl)
def fX4_works (w : Int32) (kd : Int32) (sg : Int64) (kn : Int64) : Int64 := (if kd = (0:Int32) then (fX4_upright w sg) else (if kd = (1:Int32) then (if 0 < (fX4_order w sg kn) then kn else sg) else (if kd = (2:Int32) then (if (fX4_order w sg kn) < 0 then kn else sg) else (if kd = (3:Int32) then (fX4_whole w sg kd) else (if kd = (4:Int32) then (fX4_whole w sg kd) else (if kd = (5:Int32) then (fX4_whole w sg kd) else (if kd = (6:Int32) then (fX4_signOf w sg) else (if kd = (7:Int32) then (if (fX4_below w kn) = 0 then (fX4_asCode w (fX4_size w sg)) else (fX4_asCode w ((fX4_size w sg) ||| (fX4_signBit w)))) else (fX4_negative w sg)))))))))
set_option maxHeartbeats 4000000 in
set_option maxRecDepth 100000 in
theorem kX4_works (l : Launch) (G : GT) (w : Int32) (kd : Int32) (sg : Int64) (kn : Int64) : CL l yX4_works wsX4_works { frames := 3, cells := 0, slots := 0, locals := 82 } G [.int w, .int kd, .long sg, .long kn] [] (fX4_works w kd sg kn) [] := by
  refine en_l (cc := cX4_works) (maxL := 6) (ret := (some .long)) (own := RX4) (by decide) rfl rfl (Nat.le_of_ble_eq_true rfl) ?_
  intro p e s m below meth c A ls hx hb hr hts hown hml hlocks hA hK hE hP hD hS hl
  have hl : lv_has ls 6 [(0, .int w), (1, .int kd), (2, .long sg), (4, .long kn)] := hl
  refine lv_iload_n hx hb dX4_works_0 rfl (lv_at hl 1 rfl) ?_
  by_cases k_1 : kd = (0:Int32)
  · refine sw_in (tgt := 48) (off := 47) hx hb dX4_works_1 k_1 (by decide) (by decide) (by decide) (by decide) ?_
    refine lv_iload_n hx hb dX4_works_48 rfl (lv_at hl 0 rfl) ?_
    refine lv_lload_n hx hb dX4_works_49 rfl (lv_at hl 2 rfl) ?_
    refine cs_l (As := [.int w, .long sg]) (rest := []) ⟨hx, hb, hml, hown, hts⟩ (kX4_upright l G w sg) (va_cwS 2 hts gX4_works_X4_upright rfl rfl rfl (by decide +kernel) ⟨Nat.le_of_ble_eq_true rfl, Nat.le_of_ble_eq_true rfl⟩) hE hK hP hD hS hA hl.1 [] rfl rfl rfl rfl rfl rfl (Nat.le_of_ble_eq_true rfl) dX4_works_50 ⟨Nat.zero_le _, Nat.zero_le _⟩ (fun H locs hP hD hS => ?_)
    have hP : va_P G.1 vwCl [] H := hP
    have hD : va_D A [] := hD
    exact rt_l hx hb hr hlocks hP hD hS dX4_works_53 (by rw [fX4_works, if_pos k_1])
  by_cases k_2 : kd = (1:Int32)
  · refine sw_in (tgt := 54) (off := 53) hx hb dX4_works_1 k_2 (by decide) (by decide) (by decide) (by decide) ?_
    refine lv_iload_n hx hb dX4_works_54 rfl (lv_at hl 0 rfl) ?_
    refine lv_lload_n hx hb dX4_works_55 rfl (lv_at hl 2 rfl) ?_
    refine lv_lload hx hb dX4_works_56 (lv_at hl 3 rfl) ?_
    refine cs_i (As := [.int w, .long sg, .long kn]) (rest := []) ⟨hx, hb, hml, hown, hts⟩ (kX4_order l G w sg kn) (va_cwS 3 hts gX4_works_X4_order rfl rfl rfl (by decide +kernel) ⟨Nat.le_of_ble_eq_true rfl, Nat.le_of_ble_eq_true rfl⟩) hE hK hP hD hS hA hl.1 [] rfl rfl rfl rfl rfl rfl (Nat.le_of_ble_eq_true rfl) dX4_works_58 ⟨Nat.zero_le _, Nat.zero_le _⟩ (fun H locs hP hD hS => ?_)
    have hP : va_P G.1 vwCl [] H := hP
    have hD : va_D A [] := hD
    refine bz_gt (tgt := 68) hx hb dX4_works_61 (by decide) (fun c_3 => ?_) (fun c_3 => ?_)
    · refine lv_lload hx hb dX4_works_68 (lv_at hl 3 rfl) ?_
      exact rt_l hx hb hr hlocks hP hD hS dX4_works_70 (by rw [fX4_works, if_neg k_1, if_pos k_2, if_pos c_3])
    · refine lv_lload_n hx hb dX4_works_64 rfl (lv_at hl 2 rfl) ?_
      refine lv_goto (tgt := 70) hx hb dX4_works_65 (by decide) ?_
      exact rt_l hx hb hr hlocks hP hD hS dX4_works_70 (by rw [fX4_works, if_neg k_1, if_pos k_2, if_neg c_3])
  by_cases k_4 : kd = (2:Int32)
  · refine sw_in (tgt := 71) (off := 70) hx hb dX4_works_1 k_4 (by decide) (by decide) (by decide) (by decide) ?_
    refine lv_iload_n hx hb dX4_works_71 rfl (lv_at hl 0 rfl) ?_
    refine lv_lload_n hx hb dX4_works_72 rfl (lv_at hl 2 rfl) ?_
    refine lv_lload hx hb dX4_works_73 (lv_at hl 3 rfl) ?_
    refine cs_i (As := [.int w, .long sg, .long kn]) (rest := []) ⟨hx, hb, hml, hown, hts⟩ (kX4_order l G w sg kn) (va_cwS 3 hts gX4_works_X4_order rfl rfl rfl (by decide +kernel) ⟨Nat.le_of_ble_eq_true rfl, Nat.le_of_ble_eq_true rfl⟩) hE hK hP hD hS hA hl.1 [] rfl rfl rfl rfl rfl rfl (Nat.le_of_ble_eq_true rfl) dX4_works_75 ⟨Nat.zero_le _, Nat.zero_le _⟩ (fun H locs hP hD hS => ?_)
    have hP : va_P G.1 vwCl [] H := hP
    have hD : va_D A [] := hD
    refine bz_lt (tgt := 85) hx hb dX4_works_78 (by decide) (fun c_5 => ?_) (fun c_5 => ?_)
    · refine lv_lload hx hb dX4_works_85 (lv_at hl 3 rfl) ?_
      exact rt_l hx hb hr hlocks hP hD hS dX4_works_87 (by rw [fX4_works, if_neg k_1, if_neg k_2, if_pos k_4, if_pos c_5])
    · refine lv_lload_n hx hb dX4_works_81 rfl (lv_at hl 2 rfl) ?_
      refine lv_goto (tgt := 87) hx hb dX4_works_82 (by decide) ?_
      exact rt_l hx hb hr hlocks hP hD hS dX4_works_87 (by rw [fX4_works, if_neg k_1, if_neg k_2, if_pos k_4, if_neg c_5])
  by_cases k_6 : kd = (3:Int32)
  · refine sw_in (tgt := 88) (off := 87) hx hb dX4_works_1 k_6 (by decide) (by decide) (by decide) (by decide) ?_
    refine lv_iload_n hx hb dX4_works_88 rfl (lv_at hl 0 rfl) ?_
    refine lv_lload_n hx hb dX4_works_89 rfl (lv_at hl 2 rfl) ?_
    refine lv_iload_n hx hb dX4_works_90 rfl (lv_at hl 1 rfl) ?_
    refine cs_l (As := [.int w, .long sg, .int kd]) (rest := []) ⟨hx, hb, hml, hown, hts⟩ (kX4_whole l G w sg kd) (va_cwS 3 hts gX4_works_X4_whole rfl rfl rfl (by decide +kernel) ⟨Nat.le_of_ble_eq_true rfl, Nat.le_of_ble_eq_true rfl⟩) hE hK hP hD hS hA hl.1 [] rfl rfl rfl rfl rfl rfl (Nat.le_of_ble_eq_true rfl) dX4_works_91 ⟨Nat.zero_le _, Nat.zero_le _⟩ (fun H locs hP hD hS => ?_)
    have hP : va_P G.1 vwCl [] H := hP
    have hD : va_D A [] := hD
    exact rt_l hx hb hr hlocks hP hD hS dX4_works_94 (by rw [fX4_works, if_neg k_1, if_neg k_2, if_neg k_4, if_pos k_6])
  by_cases k_7 : kd = (4:Int32)
  · refine sw_in (tgt := 88) (off := 87) hx hb dX4_works_1 k_7 (by decide) (by decide) (by decide) (by decide) ?_
    refine lv_iload_n hx hb dX4_works_88 rfl (lv_at hl 0 rfl) ?_
    refine lv_lload_n hx hb dX4_works_89 rfl (lv_at hl 2 rfl) ?_
    refine lv_iload_n hx hb dX4_works_90 rfl (lv_at hl 1 rfl) ?_
    refine cs_l (As := [.int w, .long sg, .int kd]) (rest := []) ⟨hx, hb, hml, hown, hts⟩ (kX4_whole l G w sg kd) (va_cwS 3 hts gX4_works_X4_whole rfl rfl rfl (by decide +kernel) ⟨Nat.le_of_ble_eq_true rfl, Nat.le_of_ble_eq_true rfl⟩) hE hK hP hD hS hA hl.1 [] rfl rfl rfl rfl rfl rfl (Nat.le_of_ble_eq_true rfl) dX4_works_91 ⟨Nat.zero_le _, Nat.zero_le _⟩ (fun H locs hP hD hS => ?_)
    have hP : va_P G.1 vwCl [] H := hP
    have hD : va_D A [] := hD
    exact rt_l hx hb hr hlocks hP hD hS dX4_works_94 (by rw [fX4_works, if_neg k_1, if_neg k_2, if_neg k_4, if_neg k_6, if_pos k_7])
  by_cases k_8 : kd = (5:Int32)
  · refine sw_in (tgt := 88) (off := 87) hx hb dX4_works_1 k_8 (by decide) (by decide) (by decide) (by decide) ?_
    refine lv_iload_n hx hb dX4_works_88 rfl (lv_at hl 0 rfl) ?_
    refine lv_lload_n hx hb dX4_works_89 rfl (lv_at hl 2 rfl) ?_
    refine lv_iload_n hx hb dX4_works_90 rfl (lv_at hl 1 rfl) ?_
    refine cs_l (As := [.int w, .long sg, .int kd]) (rest := []) ⟨hx, hb, hml, hown, hts⟩ (kX4_whole l G w sg kd) (va_cwS 3 hts gX4_works_X4_whole rfl rfl rfl (by decide +kernel) ⟨Nat.le_of_ble_eq_true rfl, Nat.le_of_ble_eq_true rfl⟩) hE hK hP hD hS hA hl.1 [] rfl rfl rfl rfl rfl rfl (Nat.le_of_ble_eq_true rfl) dX4_works_91 ⟨Nat.zero_le _, Nat.zero_le _⟩ (fun H locs hP hD hS => ?_)
    have hP : va_P G.1 vwCl [] H := hP
    have hD : va_D A [] := hD
    exact rt_l hx hb hr hlocks hP hD hS dX4_works_94 (by rw [fX4_works, if_neg k_1, if_neg k_2, if_neg k_4, if_neg k_6, if_neg k_7, if_pos k_8])
  by_cases k_9 : kd = (6:Int32)
  · refine sw_in (tgt := 95) (off := 94) hx hb dX4_works_1 k_9 (by decide) (by decide) (by decide) (by decide) ?_
    refine lv_iload_n hx hb dX4_works_95 rfl (lv_at hl 0 rfl) ?_
    refine lv_lload_n hx hb dX4_works_96 rfl (lv_at hl 2 rfl) ?_
    refine cs_l (As := [.int w, .long sg]) (rest := []) ⟨hx, hb, hml, hown, hts⟩ (kX4_signOf l G w sg) (va_cwS 2 hts gX4_works_X4_signOf rfl rfl rfl (by decide +kernel) ⟨Nat.le_of_ble_eq_true rfl, Nat.le_of_ble_eq_true rfl⟩) hE hK hP hD hS hA hl.1 [] rfl rfl rfl rfl rfl rfl (Nat.le_of_ble_eq_true rfl) dX4_works_97 ⟨Nat.zero_le _, Nat.zero_le _⟩ (fun H locs hP hD hS => ?_)
    have hP : va_P G.1 vwCl [] H := hP
    have hD : va_D A [] := hD
    exact rt_l hx hb hr hlocks hP hD hS dX4_works_100 (by rw [fX4_works, if_neg k_1, if_neg k_2, if_neg k_4, if_neg k_6, if_neg k_7, if_neg k_8, if_pos k_9])
  by_cases k_10 : kd = (7:Int32)
  · refine sw_in (tgt := 101) (off := 100) hx hb dX4_works_1 k_10 (by decide) (by decide) (by decide) (by decide) ?_
    refine lv_iload_n hx hb dX4_works_101 rfl (lv_at hl 0 rfl) ?_
    refine lv_iload_n hx hb dX4_works_102 rfl (lv_at hl 0 rfl) ?_
    refine lv_lload hx hb dX4_works_103 (lv_at hl 3 rfl) ?_
    refine cs_i (As := [.int w, .long kn]) (rest := [.int w]) ⟨hx, hb, hml, hown, hts⟩ (kX4_below l G w kn) (va_cwS 2 hts gX4_works_X4_below rfl rfl rfl (by decide +kernel) ⟨Nat.le_of_ble_eq_true rfl, Nat.le_of_ble_eq_true rfl⟩) hE hK hP hD hS hA hl.1 [] rfl rfl rfl rfl rfl rfl (Nat.le_of_ble_eq_true rfl) dX4_works_105 ⟨Nat.zero_le _, Nat.zero_le _⟩ (fun H locs hP hD hS => ?_)
    have hP : va_P G.1 vwCl [] H := hP
    have hD : va_D A [] := hD
    refine bz_eq (tgt := 124) hx hb dX4_works_108 (by decide) (fun c_11 => ?_) (fun c_11 => ?_)
    · refine lv_iload_n hx hb dX4_works_124 rfl (lv_at hl 0 rfl) ?_
      refine lv_lload_n hx hb dX4_works_125 rfl (lv_at hl 2 rfl) ?_
      refine cs_l (As := [.int w, .long sg]) (rest := [.int w]) ⟨hx, hb, hml, hown, hts⟩ (kX4_size l G w sg) (va_cwS 2 hts gX4_works_X4_size rfl rfl rfl (by decide +kernel) ⟨Nat.le_of_ble_eq_true rfl, Nat.le_of_ble_eq_true rfl⟩) hE hK hP hD hS hA hl.1 [] rfl rfl rfl rfl rfl rfl (Nat.le_of_ble_eq_true rfl) dX4_works_126 ⟨Nat.zero_le _, Nat.zero_le _⟩ (fun H locs hP hD hS => ?_)
      have hP : va_P G.1 vwCl [] H := hP
      have hD : va_D A [] := hD
      refine cs_l (As := [.int w, .long (fX4_size w sg)]) (rest := []) ⟨hx, hb, hml, hown, hts⟩ (kX4_asCode l G w (fX4_size w sg)) (va_cwS 2 hts gX4_works_X4_asCode rfl rfl rfl (by decide +kernel) ⟨Nat.le_of_ble_eq_true rfl, Nat.le_of_ble_eq_true rfl⟩) hE hK hP hD hS hA hl.1 [] rfl rfl rfl rfl rfl rfl (Nat.le_of_ble_eq_true rfl) dX4_works_129 ⟨Nat.zero_le _, Nat.zero_le _⟩ (fun H locs hP hD hS => ?_)
      have hP : va_P G.1 vwCl [] H := hP
      have hD : va_D A [] := hD
      exact rt_l hx hb hr hlocks hP hD hS dX4_works_132 (by rw [fX4_works, if_neg k_1, if_neg k_2, if_neg k_4, if_neg k_6, if_neg k_7, if_neg k_8, if_neg k_9, if_pos k_10, if_pos c_11])
    · refine lv_iload_n hx hb dX4_works_111 rfl (lv_at hl 0 rfl) ?_
      refine lv_lload_n hx hb dX4_works_112 rfl (lv_at hl 2 rfl) ?_
      refine cs_l (As := [.int w, .long sg]) (rest := [.int w]) ⟨hx, hb, hml, hown, hts⟩ (kX4_size l G w sg) (va_cwS 2 hts gX4_works_X4_size rfl rfl rfl (by decide +kernel) ⟨Nat.le_of_ble_eq_true rfl, Nat.le_of_ble_eq_true rfl⟩) hE hK hP hD hS hA hl.1 [] rfl rfl rfl rfl rfl rfl (Nat.le_of_ble_eq_true rfl) dX4_works_113 ⟨Nat.zero_le _, Nat.zero_le _⟩ (fun H locs hP hD hS => ?_)
      have hP : va_P G.1 vwCl [] H := hP
      have hD : va_D A [] := hD
      refine lv_iload_n hx hb dX4_works_116 rfl (lv_at hl 0 rfl) ?_
      refine cs_l (As := [.int w]) (rest := [.long (fX4_size w sg), .int w]) ⟨hx, hb, hml, hown, hts⟩ (kX4_signBit l G w) (va_cwS 1 hts gX4_works_X4_signBit rfl rfl rfl (by decide +kernel) ⟨Nat.le_of_ble_eq_true rfl, Nat.le_of_ble_eq_true rfl⟩) hE hK hP hD hS hA hl.1 [] rfl rfl rfl rfl rfl rfl (Nat.le_of_ble_eq_true rfl) dX4_works_117 ⟨Nat.zero_le _, Nat.zero_le _⟩ (fun H locs hP hD hS => ?_)
      have hP : va_P G.1 vwCl [] H := hP
      have hD : va_D A [] := hD
      refine lv_lor hx hb dX4_works_120 ?_
      refine lv_goto (tgt := 129) hx hb dX4_works_121 (by decide) ?_
      refine cs_l (As := [.int w, .long ((fX4_size w sg) ||| (fX4_signBit w))]) (rest := []) ⟨hx, hb, hml, hown, hts⟩ (kX4_asCode l G w ((fX4_size w sg) ||| (fX4_signBit w))) (va_cwS 2 hts gX4_works_X4_asCode rfl rfl rfl (by decide +kernel) ⟨Nat.le_of_ble_eq_true rfl, Nat.le_of_ble_eq_true rfl⟩) hE hK hP hD hS hA hl.1 [] rfl rfl rfl rfl rfl rfl (Nat.le_of_ble_eq_true rfl) dX4_works_129 ⟨Nat.zero_le _, Nat.zero_le _⟩ (fun H locs hP hD hS => ?_)
      have hP : va_P G.1 vwCl [] H := hP
      have hD : va_D A [] := hD
      exact rt_l hx hb hr hlocks hP hD hS dX4_works_132 (by rw [fX4_works, if_neg k_1, if_neg k_2, if_neg k_4, if_neg k_6, if_neg k_7, if_neg k_8, if_neg k_9, if_pos k_10, if_neg c_11])
  refine lv_tableOut (tgt := 133) hx hb dX4_works_1 (sw_out8 k_1 k_2 k_4 k_6 k_7 k_8 k_9 k_10) (by decide) ?_
  refine lv_iload_n hx hb dX4_works_133 rfl (lv_at hl 0 rfl) ?_
  refine lv_lload_n hx hb dX4_works_134 rfl (lv_at hl 2 rfl) ?_
  refine cs_l (As := [.int w, .long sg]) (rest := []) ⟨hx, hb, hml, hown, hts⟩ (kX4_negative l G w sg) (va_cwS 2 hts gX4_works_X4_negative rfl rfl rfl (by decide +kernel) ⟨Nat.le_of_ble_eq_true rfl, Nat.le_of_ble_eq_true rfl⟩) hE hK hP hD hS hA hl.1 [] rfl rfl rfl rfl rfl rfl (Nat.le_of_ble_eq_true rfl) dX4_works_135 ⟨Nat.zero_le _, Nat.zero_le _⟩ (fun H locs hP hD hS => ?_)
  have hP : va_P G.1 vwCl [] H := hP
  have hD : va_D A [] := hD
  exact rt_l hx hb hr hlocks hP hD hS dX4_works_138 (by rw [fX4_works, if_neg k_1, if_neg k_2, if_neg k_4, if_neg k_6, if_neg k_7, if_neg k_8, if_neg k_9, if_neg k_10])
def fX4_isKind (w : Int32) (kd : Int32) : Int32 := (if kd < 0 then (0:Int32) else (if kd < (9:Int32) then (if (1:Int32) < w then (1:Int32) else (if kd < (3:Int32) then (1:Int32) else (if kd = (8:Int32) then (1:Int32) else (0:Int32)))) else (0:Int32)))
set_option maxHeartbeats 4000000 in
set_option maxRecDepth 100000 in
theorem kX4_isKind (l : Launch) (G : GT) (w : Int32) (kd : Int32) : CI l yX4_isKind wsX4_isKind { frames := 0, cells := 0, slots := 0, locals := 0 } G [.int w, .int kd] [] (fX4_isKind w kd) [] := by
  refine en_i (cc := cX4_isKind) (maxL := 2) (ret := (some .boolean)) (own := RX4) (by decide) rfl rfl (Nat.le_of_ble_eq_true rfl) ?_
  intro p e s m below meth c A ls hx hb hr hts hown hml hlocks hA hK hE hP hD hS hl
  have hl : lv_has ls 2 [(0, .int w), (1, .int kd)] := hl
  refine lv_iload_n hx hb dX4_isKind_0 rfl (lv_at hl 1 rfl) ?_
  refine bz_lt (tgt := 30) hx hb dX4_isKind_1 (by decide) (fun c_1 => ?_) (fun c_1 => ?_)
  · refine lv_iconst (v := (0:Int32)) hx hb dX4_isKind_30 (by decide) ?_
    exact rt_z hx hb hr hlocks hP hD hS dX4_isKind_31 (by rw [fX4_isKind, if_pos c_1]) (z_nar (Or.inl rfl))
  · refine lv_iload_n hx hb dX4_isKind_4 rfl (lv_at hl 1 rfl) ?_
    refine lv_bipush (v := (9:Int32)) hx hb dX4_isKind_5 (by decide) ?_
    refine bi_ge (tgt := 30) hx hb dX4_isKind_7 (by decide) (fun c_2 => ?_) (fun c_2 => ?_)
    · refine lv_iload_n hx hb dX4_isKind_10 rfl (lv_at hl 0 rfl) ?_
      refine lv_iconst (v := (1:Int32)) hx hb dX4_isKind_11 (by decide) ?_
      refine bi_gt (tgt := 26) hx hb dX4_isKind_12 (by decide) (fun c_3 => ?_) (fun c_3 => ?_)
      · refine lv_iconst (v := (1:Int32)) hx hb dX4_isKind_26 (by decide) ?_
        refine lv_goto (tgt := 31) hx hb dX4_isKind_27 (by decide) ?_
        exact rt_z hx hb hr hlocks hP hD hS dX4_isKind_31 (by rw [fX4_isKind, if_neg c_1, if_pos c_2, if_pos c_3]) (z_nar (Or.inr rfl))
      · refine lv_iload_n hx hb dX4_isKind_15 rfl (lv_at hl 1 rfl) ?_
        refine lv_iconst (v := (3:Int32)) hx hb dX4_isKind_16 (by decide) ?_
        refine bi_lt (tgt := 26) hx hb dX4_isKind_17 (by decide) (fun c_4 => ?_) (fun c_4 => ?_)
        · refine lv_iconst (v := (1:Int32)) hx hb dX4_isKind_26 (by decide) ?_
          refine lv_goto (tgt := 31) hx hb dX4_isKind_27 (by decide) ?_
          exact rt_z hx hb hr hlocks hP hD hS dX4_isKind_31 (by rw [fX4_isKind, if_neg c_1, if_pos c_2, if_neg c_3, if_pos c_4]) (z_nar (Or.inr rfl))
        · refine lv_iload_n hx hb dX4_isKind_20 rfl (lv_at hl 1 rfl) ?_
          refine lv_bipush (v := (8:Int32)) hx hb dX4_isKind_21 (by decide) ?_
          refine bi_ne (tgt := 30) hx hb dX4_isKind_23 (by decide) (fun c_5 => ?_) (fun c_5 => ?_)
          · refine lv_iconst (v := (1:Int32)) hx hb dX4_isKind_26 (by decide) ?_
            refine lv_goto (tgt := 31) hx hb dX4_isKind_27 (by decide) ?_
            exact rt_z hx hb hr hlocks hP hD hS dX4_isKind_31 (by rw [fX4_isKind, if_neg c_1, if_pos c_2, if_neg c_3, if_neg c_4, if_pos c_5]) (z_nar (Or.inr rfl))
          · refine lv_iconst (v := (0:Int32)) hx hb dX4_isKind_30 (by decide) ?_
            exact rt_z hx hb hr hlocks hP hD hS dX4_isKind_31 (by rw [fX4_isKind, if_neg c_1, if_pos c_2, if_neg c_3, if_neg c_4, if_neg c_5]) (z_nar (Or.inl rfl))
    · refine lv_iconst (v := (0:Int32)) hx hb dX4_isKind_30 (by decide) ?_
      exact rt_z hx hb hr hlocks hP hD hS dX4_isKind_31 (by rw [fX4_isKind, if_neg c_1, if_neg c_2]) (z_nar (Or.inl rfl))
theorem z_X4_isKind (w : Int32) (kd : Int32) : fX4_isKind w kd = 0 ∨ fX4_isKind w kd = 1 := by
  unfold fX4_isKind; repeat (first | exact Or.inl rfl | exact Or.inr rfl | split)
