def fX1_roundedWhole (i : Nat) (v : Int64) : Int64 := (if v = (0:Int64) then (0:Int64) else (if v < (0:Int64) then (fX1_withSignOf i v (fX1_rounded i (-v) (0:Int32))) else (fX1_withSignOf i v (fX1_rounded i v (0:Int32)))))
set_option maxHeartbeats 4000000 in
set_option maxRecDepth 100000 in
theorem kX1_roundedWhole (l : Launch) (G : GT) (i : Nat) (v : Int64) (hi : i < 4) : CL l yX1_roundedWhole wsX1_roundedWhole { frames := 2, cells := 0, slots := 0, locals := 55 } G [.ref (G.2.2.1 i), .long v] [] (fX1_roundedWhole i v) [] := by
  refine en_l (cc := cX1_roundedWhole) (maxL := 3) (ret := (some .long)) (own := RX1) (by decide) rfl rfl (Nat.le_of_ble_eq_true rfl) ?_
  intro p e s m below meth c A ls hx hb hr hts hown hml hlocks hA hK hE hP hD hS hl
  have hl : lv_has ls 3 [(0, .ref (G.2.2.1 i)), (1, .long v)] := hl
  refine lv_lload_n hx hb dX1_roundedWhole_0 rfl (lv_at hl 1 rfl) ?_
  refine lv_lconst (v := (0:Int64)) hx hb dX1_roundedWhole_1 (by decide) ?_
  refine bl_ne (tgt := 10) hx hb dX1_roundedWhole_2 dX1_roundedWhole_3 (by decide) (fun c_1 => ?_) (fun c_1 => ?_)
  · refine lv_lconst (v := (0:Int64)) hx hb dX1_roundedWhole_6 (by decide) ?_
    refine lv_goto (tgt := 32) hx hb dX1_roundedWhole_7 (by decide) ?_
    exact rt_l hx hb hr hlocks hP hD hS dX1_roundedWhole_32 (by rw [fX1_roundedWhole, if_pos c_1])
  · refine lv_aload_n hx hb dX1_roundedWhole_10 rfl (lv_at hl 0 rfl) ?_
    refine lv_lload_n hx hb dX1_roundedWhole_11 rfl (lv_at hl 1 rfl) ?_
    refine lv_aload_n hx hb dX1_roundedWhole_12 rfl (lv_at hl 0 rfl) ?_
    refine lv_lload_n hx hb dX1_roundedWhole_13 rfl (lv_at hl 1 rfl) ?_
    refine lv_lconst (v := (0:Int64)) hx hb dX1_roundedWhole_14 (by decide) ?_
    refine bl_ge (tgt := 24) hx hb dX1_roundedWhole_15 dX1_roundedWhole_16 (by decide) (fun c_2 => ?_) (fun c_2 => ?_)
    · refine lv_lload_n hx hb dX1_roundedWhole_19 rfl (lv_at hl 1 rfl) ?_
      refine lv_lneg hx hb dX1_roundedWhole_20 ?_
      refine lv_goto (tgt := 25) hx hb dX1_roundedWhole_21 (by decide) ?_
      refine lv_iconst (v := (0:Int32)) hx hb dX1_roundedWhole_25 (by decide) ?_
      refine cv_l (As := [.long (-v), .int (0:Int32)]) (rest := [.long v, .ref (G.2.2.1 i)]) ⟨hx, hb, hml, hown, hts⟩ (kX1_rounded l G i (-v) (0:Int32) hi) (cwV 2 hts gX1_roundedWhole_X1_rounded rfl rfl rfl (by decide +kernel) ⟨Nat.le_of_ble_eq_true rfl, Nat.le_of_ble_eq_true rfl⟩) (so_rec hE hi hS) hE hK hP hD hS hA hl.1 [] rfl rfl rfl rfl rfl rfl (Nat.le_of_ble_eq_true rfl) dX1_roundedWhole_26 ⟨Nat.zero_le _, Nat.zero_le _⟩ (fun H locs hP hD hS => ?_)
      have hP : va_P G.1 vwCl [] H := hP
      have hD : va_D A [] := hD
      refine cv_l (As := [.long v, .long (fX1_rounded i (-v) (0:Int32))]) (rest := []) ⟨hx, hb, hml, hown, hts⟩ (kX1_withSignOf l G i v (fX1_rounded i (-v) (0:Int32)) hi) (cwV 2 hts gX1_roundedWhole_X1_withSignOf rfl rfl rfl (by decide +kernel) ⟨Nat.le_of_ble_eq_true rfl, Nat.le_of_ble_eq_true rfl⟩) (so_rec hE hi hS) hE hK hP hD hS hA hl.1 [] rfl rfl rfl rfl rfl rfl (Nat.le_of_ble_eq_true rfl) dX1_roundedWhole_29 ⟨Nat.zero_le _, Nat.zero_le _⟩ (fun H locs hP hD hS => ?_)
      have hP : va_P G.1 vwCl [] H := hP
      have hD : va_D A [] := hD
      exact rt_l hx hb hr hlocks hP hD hS dX1_roundedWhole_32 (by rw [fX1_roundedWhole, if_neg c_1, if_pos c_2])
    · refine lv_lload_n hx hb dX1_roundedWhole_24 rfl (lv_at hl 1 rfl) ?_
      refine lv_iconst (v := (0:Int32)) hx hb dX1_roundedWhole_25 (by decide) ?_
      refine cv_l (As := [.long v, .int (0:Int32)]) (rest := [.long v, .ref (G.2.2.1 i)]) ⟨hx, hb, hml, hown, hts⟩ (kX1_rounded l G i v (0:Int32) hi) (cwV 2 hts gX1_roundedWhole_X1_rounded rfl rfl rfl (by decide +kernel) ⟨Nat.le_of_ble_eq_true rfl, Nat.le_of_ble_eq_true rfl⟩) (so_rec hE hi hS) hE hK hP hD hS hA hl.1 [] rfl rfl rfl rfl rfl rfl (Nat.le_of_ble_eq_true rfl) dX1_roundedWhole_26 ⟨Nat.zero_le _, Nat.zero_le _⟩ (fun H locs hP hD hS => ?_)
      have hP : va_P G.1 vwCl [] H := hP
      have hD : va_D A [] := hD
      refine cv_l (As := [.long v, .long (fX1_rounded i v (0:Int32))]) (rest := []) ⟨hx, hb, hml, hown, hts⟩ (kX1_withSignOf l G i v (fX1_rounded i v (0:Int32)) hi) (cwV 2 hts gX1_roundedWhole_X1_withSignOf rfl rfl rfl (by decide +kernel) ⟨Nat.le_of_ble_eq_true rfl, Nat.le_of_ble_eq_true rfl⟩) (so_rec hE hi hS) hE hK hP hD hS hA hl.1 [] rfl rfl rfl rfl rfl rfl (Nat.le_of_ble_eq_true rfl) dX1_roundedWhole_29 ⟨Nat.zero_le _, Nat.zero_le _⟩ (fun H locs hP hD hS => ?_)
      have hP : va_P G.1 vwCl [] H := hP
      have hD : va_D A [] := hD
      exact rt_l hx hb hr hlocks hP hD hS dX1_roundedWhole_32 (by rw [fX1_roundedWhole, if_neg c_1, if_neg c_2])
def fX1_cutTo_111 (v : Int64) (y_3 : Int64) : Int64 := (if v < (0:Int64) then (-y_3) else y_3)
def fX1_cutTo (i : Nat) (j : Nat) (v : Int64) : Int64 := (if ((shR (v &&& (so_mask i)) (so_frac i)).toInt32 - (so_bias i)) < 0 then (0:Int64) else (if ((shR (v &&& (so_mask i)) (so_frac i)).toInt32 - (so_bias i)) < ((so_bits j) - (1:Int32)) then (fX1_cutTo_111 v (if (((shR (v &&& (so_mask i)) (so_frac i)).toInt32 - (so_bias i)) - (so_frac i)) < 0 then (shR (((v &&& (so_mask i)) &&& ((shL (1:Int64) (so_frac i)) - (1:Int64))) ||| (shL (1:Int64) (so_frac i))) (-(((shR (v &&& (so_mask i)) (so_frac i)).toInt32 - (so_bias i)) - (so_frac i)))) else (shL (((v &&& (so_mask i)) &&& ((shL (1:Int64) (so_frac i)) - (1:Int64))) ||| (shL (1:Int64) (so_frac i))) (((shR (v &&& (so_mask i)) (so_frac i)).toInt32 - (so_bias i)) - (so_frac i))))) else (if v < (0:Int64) then ((so_mask j) ^^^ (-1:Int64)) else (so_mask j))))
set_option maxHeartbeats 4000000 in
set_option maxRecDepth 100000 in
theorem kX1_cutTo (l : Launch) (G : GT) (i : Nat) (j : Nat) (v : Int64) (hi : i < 4) (hj : j < 4) : CL l yX1_cutTo wsX1_cutTo { frames := 0, cells := 0, slots := 0, locals := 0 } G [.ref (G.2.2.1 i), .ref (G.2.2.1 j), .long v] [] (fX1_cutTo i j v) [] := by
  refine en_l (cc := cX1_cutTo) (maxL := 14) (ret := (some .long)) (own := RX1) (by decide) rfl rfl (Nat.le_of_ble_eq_true rfl) ?_
  intro p e s m below meth c A ls hx hb hr hts hown hml hlocks hA hK hE hP hD hS hl
  have hl : lv_has ls 14 [(0, .ref (G.2.2.1 i)), (1, .ref (G.2.2.1 j)), (2, .long v)] := hl
  refine lv_lload_n hx hb dX1_cutTo_0 rfl (lv_at hl 2 rfl) ?_
  refine lv_aload_n hx hb dX1_cutTo_1 rfl (lv_at hl 0 rfl) ?_
  refine sg_sizeMask hx hb hE hi hS hown (hts (.fieldLink RX1 47 "PedalBoard$Sort" "sizeMask" "J") (by decide +kernel)) dX1_cutTo_2 ?_
  refine lv_land hx hb dX1_cutTo_5 ?_
  refine lv_lstore (lv' := [(4, .long (v &&& (so_mask i))), (0, .ref (G.2.2.1 i)), (1, .ref (G.2.2.1 j)), (2, .long v)]) hx hb dX1_cutTo_6 hl (by decide) rfl (fun ls hl => ?_)
  refine lv_lload hx hb dX1_cutTo_8 (lv_at hl 0 rfl) ?_
  refine lv_aload_n hx hb dX1_cutTo_10 rfl (lv_at hl 1 rfl) ?_
  refine sg_fraction hx hb hE hi hS hown (hts (.fieldLink RX1 41 "PedalBoard$Sort" "fraction" "I") (by decide +kernel)) dX1_cutTo_11 ?_
  refine r_lshr hx hb dX1_cutTo_14 ?_
  refine r_l2i hx hb dX1_cutTo_15 ?_
  refine lv_aload_n hx hb dX1_cutTo_16 rfl (lv_at hl 1 rfl) ?_
  refine sg_bias hx hb hE hi hS hown (hts (.fieldLink RX1 44 "PedalBoard$Sort" "bias" "I") (by decide +kernel)) dX1_cutTo_17 ?_
  refine lv_isub hx hb dX1_cutTo_20 ?_
  refine lv_istore (lv' := [(6, .int ((shR (v &&& (so_mask i)) (so_frac i)).toInt32 - (so_bias i))), (4, .long (v &&& (so_mask i))), (0, .ref (G.2.2.1 i)), (1, .ref (G.2.2.1 j)), (2, .long v)]) hx hb dX1_cutTo_21 hl (by decide) rfl (fun ls hl => ?_)
  refine lv_iload hx hb dX1_cutTo_23 (lv_at hl 0 rfl) ?_
  refine bz_ge (tgt := 30) hx hb dX1_cutTo_25 (by decide) (fun c_1 => ?_) (fun c_1 => ?_)
  · refine lv_lconst (v := (0:Int64)) hx hb dX1_cutTo_28 (by decide) ?_
    exact rt_l hx hb hr hlocks hP hD hS dX1_cutTo_29 (by rw [fX1_cutTo, if_pos c_1])
  · refine lv_iload hx hb dX1_cutTo_30 (lv_at hl 0 rfl) ?_
    refine lv_aload_n hx hb dX1_cutTo_32 rfl (lv_at hl 3 rfl) ?_
    refine sg_bits hx hb hE hj hS hown (hts (.fieldLink RX1 37 "PedalBoard$Sort" "bits" "I") (by decide +kernel)) dX1_cutTo_33 ?_
    refine lv_iconst (v := (1:Int32)) hx hb dX1_cutTo_36 (by decide) ?_
    refine lv_isub hx hb dX1_cutTo_37 ?_
    refine bi_lt (tgt := 63) hx hb dX1_cutTo_38 (by decide) (fun c_2 => ?_) (fun c_2 => ?_)
    · refine lv_lconst (v := (1:Int64)) hx hb dX1_cutTo_63 (by decide) ?_
      refine lv_aload_n hx hb dX1_cutTo_64 rfl (lv_at hl 2 rfl) ?_
      refine sg_fraction hx hb hE hi hS hown (hts (.fieldLink RX1 41 "PedalBoard$Sort" "fraction" "I") (by decide +kernel)) dX1_cutTo_65 ?_
      refine r_lshl hx hb dX1_cutTo_68 ?_
      refine lv_lstore (lv' := [(7, .long (shL (1:Int64) (so_frac i))), (6, .int ((shR (v &&& (so_mask i)) (so_frac i)).toInt32 - (so_bias i))), (4, .long (v &&& (so_mask i))), (0, .ref (G.2.2.1 i)), (1, .ref (G.2.2.1 j)), (2, .long v)]) hx hb dX1_cutTo_69 hl (by decide) rfl (fun ls hl => ?_)
      refine lv_lload hx hb dX1_cutTo_71 (lv_at hl 2 rfl) ?_
      refine lv_lload hx hb dX1_cutTo_73 (lv_at hl 0 rfl) ?_
      refine lv_lconst (v := (1:Int64)) hx hb dX1_cutTo_75 (by decide) ?_
      refine lv_lsub hx hb dX1_cutTo_76 ?_
      refine lv_land hx hb dX1_cutTo_77 ?_
      refine lv_lload hx hb dX1_cutTo_78 (lv_at hl 0 rfl) ?_
      refine lv_lor hx hb dX1_cutTo_80 ?_
      refine lv_lstore (lv' := [(9, .long (((v &&& (so_mask i)) &&& ((shL (1:Int64) (so_frac i)) - (1:Int64))) ||| (shL (1:Int64) (so_frac i)))), (7, .long (shL (1:Int64) (so_frac i))), (6, .int ((shR (v &&& (so_mask i)) (so_frac i)).toInt32 - (so_bias i))), (4, .long (v &&& (so_mask i))), (0, .ref (G.2.2.1 i)), (1, .ref (G.2.2.1 j)), (2, .long v)]) hx hb dX1_cutTo_81 hl (by decide) rfl (fun ls hl => ?_)
      refine lv_iload hx hb dX1_cutTo_83 (lv_at hl 2 rfl) ?_
      refine lv_aload_n hx hb dX1_cutTo_85 rfl (lv_at hl 4 rfl) ?_
      refine sg_fraction hx hb hE hi hS hown (hts (.fieldLink RX1 41 "PedalBoard$Sort" "fraction" "I") (by decide +kernel)) dX1_cutTo_86 ?_
      refine lv_isub hx hb dX1_cutTo_89 ?_
      refine lv_istore (lv' := [(11, .int (((shR (v &&& (so_mask i)) (so_frac i)).toInt32 - (so_bias i)) - (so_frac i))), (9, .long (((v &&& (so_mask i)) &&& ((shL (1:Int64) (so_frac i)) - (1:Int64))) ||| (shL (1:Int64) (so_frac i)))), (7, .long (shL (1:Int64) (so_frac i))), (6, .int ((shR (v &&& (so_mask i)) (so_frac i)).toInt32 - (so_bias i))), (4, .long (v &&& (so_mask i))), (0, .ref (G.2.2.1 i)), (1, .ref (G.2.2.1 j)), (2, .long v)]) hx hb dX1_cutTo_90 hl (by decide) rfl (fun ls hl => ?_)
      refine lv_iload hx hb dX1_cutTo_92 (lv_at hl 0 rfl) ?_
      refine jn_1 (T := Int64) G A (if (((shR (v &&& (so_mask i)) (so_frac i)).toInt32 - (so_bias i)) - (so_frac i)) < 0 then (shR (((v &&& (so_mask i)) &&& ((shL (1:Int64) (so_frac i)) - (1:Int64))) ||| (shL (1:Int64) (so_frac i))) (-(((shR (v &&& (so_mask i)) (so_frac i)).toInt32 - (so_bias i)) - (so_frac i)))) else (shL (((v &&& (so_mask i)) &&& ((shL (1:Int64) (so_frac i)) - (1:Int64))) ||| (shL (1:Int64) (so_frac i))) (((shR (v &&& (so_mask i)) (so_frac i)).toInt32 - (so_bias i)) - (so_frac i)))) [] 14 (fun y => [(2, .long v)]) (fun y => [.long y]) 111 ?_ ?_
      · intro y_3 ey_3 H locs ls hP hD hS hl
        have hr_5 : fX1_cutTo i j v = fX1_cutTo_111 v y_3 := by rw [ey_3, fX1_cutTo, if_neg c_1, if_pos c_2]
        refine lv_lstore (lv' := [(12, .long y_3), (2, .long v)]) hx hb dX1_cutTo_111 hl (by decide) rfl (fun ls hl => ?_)
        refine lv_lload_n hx hb dX1_cutTo_113 rfl (lv_at hl 1 rfl) ?_
        refine lv_lconst (v := (0:Int64)) hx hb dX1_cutTo_114 (by decide) ?_
        refine bl_ge (tgt := 125) hx hb dX1_cutTo_115 dX1_cutTo_116 (by decide) (fun c_6 => ?_) (fun c_6 => ?_)
        · refine lv_lload hx hb dX1_cutTo_119 (lv_at hl 0 rfl) ?_
          refine lv_lneg hx hb dX1_cutTo_121 ?_
          refine lv_goto (tgt := 127) hx hb dX1_cutTo_122 (by decide) ?_
          exact rt_l hx hb hr hlocks hP hD hS dX1_cutTo_127 (by rw [hr_5, fX1_cutTo_111, if_pos c_6])
        · refine lv_lload hx hb dX1_cutTo_125 (lv_at hl 0 rfl) ?_
          exact rt_l hx hb hr hlocks hP hD hS dX1_cutTo_127 (by rw [hr_5, fX1_cutTo_111, if_neg c_6])
      · intro kj_3
        refine bz_lt (tgt := 105) hx hb dX1_cutTo_94 (by decide) (fun c_4 => ?_) (fun c_4 => ?_)
        · refine lv_lload hx hb dX1_cutTo_105 (lv_at hl 1 rfl) ?_
          refine lv_iload hx hb dX1_cutTo_107 (lv_at hl 0 rfl) ?_
          refine lv_ineg hx hb dX1_cutTo_109 ?_
          refine r_lshr hx hb dX1_cutTo_110 ?_
          exact kj_3 (shR (((v &&& (so_mask i)) &&& ((shL (1:Int64) (so_frac i)) - (1:Int64))) ||| (shL (1:Int64) (so_frac i))) (-(((shR (v &&& (so_mask i)) (so_frac i)).toInt32 - (so_bias i)) - (so_frac i)))) (by rw [if_pos c_4]) _ _ _ hP hD hS (lv_sub hl [7] rfl)
        · refine lv_lload hx hb dX1_cutTo_97 (lv_at hl 1 rfl) ?_
          refine lv_iload hx hb dX1_cutTo_99 (lv_at hl 0 rfl) ?_
          refine r_lshl hx hb dX1_cutTo_101 ?_
          refine lv_goto (tgt := 111) hx hb dX1_cutTo_102 (by decide) ?_
          exact kj_3 (shL (((v &&& (so_mask i)) &&& ((shL (1:Int64) (so_frac i)) - (1:Int64))) ||| (shL (1:Int64) (so_frac i))) (((shR (v &&& (so_mask i)) (so_frac i)).toInt32 - (so_bias i)) - (so_frac i))) (by rw [if_neg c_4]) _ _ _ hP hD hS (lv_sub hl [7] rfl)
    · refine lv_lload_n hx hb dX1_cutTo_41 rfl (lv_at hl 4 rfl) ?_
      refine lv_lconst (v := (0:Int64)) hx hb dX1_cutTo_42 (by decide) ?_
      refine bl_ge (tgt := 58) hx hb dX1_cutTo_43 dX1_cutTo_44 (by decide) (fun c_7 => ?_) (fun c_7 => ?_)
      · refine lv_aload_n hx hb dX1_cutTo_47 rfl (lv_at hl 3 rfl) ?_
        refine sg_sizeMask hx hb hE hj hS hown (hts (.fieldLink RX1 47 "PedalBoard$Sort" "sizeMask" "J") (by decide +kernel)) dX1_cutTo_48 ?_
        refine lv_ldc2 (v := (-1:Int64)) hx hb hown (hts (.constantLong RX1 92 (-1)) (by decide +kernel)) dX1_cutTo_51 ?_
        refine lv_lxor hx hb dX1_cutTo_54 ?_
        refine lv_goto (tgt := 62) hx hb dX1_cutTo_55 (by decide) ?_
        exact rt_l hx hb hr hlocks hP hD hS dX1_cutTo_62 (by rw [fX1_cutTo, if_neg c_1, if_neg c_2, if_pos c_7])
      · refine lv_aload_n hx hb dX1_cutTo_58 rfl (lv_at hl 3 rfl) ?_
        refine sg_sizeMask hx hb hE hj hS hown (hts (.fieldLink RX1 47 "PedalBoard$Sort" "sizeMask" "J") (by decide +kernel)) dX1_cutTo_59 ?_
        exact rt_l hx hb hr hlocks hP hD hS dX1_cutTo_62 (by rw [fX1_cutTo, if_neg c_1, if_neg c_2, if_neg c_7])
def fX1_refit_80 (i : Nat) (j : Nat) (v : Int64) (y_3 : Int64) : Int64 := (fX1_withSignOf j v (fX1_rounded j y_3 (((if (shR (v &&& (so_mask i)) (so_frac i)).toInt32 < (1:Int32) then (1:Int32) else (shR (v &&& (so_mask i)) (so_frac i)).toInt32) - (so_bias i)) - (so_frac i))))
def fX1_refit (i : Nat) (j : Nat) (v : Int64) : Int64 := (if (v &&& (so_mask i)) = (0:Int64) then (fX1_withSignOf j v (0:Int64)) else (if (v &&& (so_mask i)) = (fX1_infinite i) then (fX1_withSignOf j v (fX1_infinite j)) else (fX1_refit_80 i j v (if (shR (v &&& (so_mask i)) (so_frac i)).toInt32 = 0 then (v &&& (so_mask i)) else (((v &&& (so_mask i)) &&& ((shL (1:Int64) (so_frac i)) - (1:Int64))) ||| (shL (1:Int64) (so_frac i)))))))
set_option maxHeartbeats 4000000 in
set_option maxRecDepth 100000 in
theorem kX1_refit (l : Launch) (G : GT) (i : Nat) (j : Nat) (v : Int64) (hi : i < 4) (hj : j < 4) : CL l yX1_refit wsX1_refit { frames := 2, cells := 0, slots := 0, locals := 55 } G [.ref (G.2.2.1 i), .ref (G.2.2.1 j), .long v] [] (fX1_refit i j v) [] := by
  refine en_l (cc := cX1_refit) (maxL := 12) (ret := (some .long)) (own := RX1) (by decide) rfl rfl (Nat.le_of_ble_eq_true rfl) ?_
  intro p e s m below meth c A ls hx hb hr hts hown hml hlocks hA hK hE hP hD hS hl
  have hl : lv_has ls 12 [(0, .ref (G.2.2.1 i)), (1, .ref (G.2.2.1 j)), (2, .long v)] := hl
  refine lv_lload_n hx hb dX1_refit_0 rfl (lv_at hl 2 rfl) ?_
  refine lv_aload_n hx hb dX1_refit_1 rfl (lv_at hl 0 rfl) ?_
  refine sg_sizeMask hx hb hE hi hS hown (hts (.fieldLink RX1 47 "PedalBoard$Sort" "sizeMask" "J") (by decide +kernel)) dX1_refit_2 ?_
  refine lv_land hx hb dX1_refit_5 ?_
  refine lv_lstore (lv' := [(4, .long (v &&& (so_mask i))), (0, .ref (G.2.2.1 i)), (1, .ref (G.2.2.1 j)), (2, .long v)]) hx hb dX1_refit_6 hl (by decide) rfl (fun ls hl => ?_)
  refine lv_lload hx hb dX1_refit_8 (lv_at hl 0 rfl) ?_
  refine lv_lconst (v := (0:Int64)) hx hb dX1_refit_10 (by decide) ?_
  refine bl_ne (tgt := 22) hx hb dX1_refit_11 dX1_refit_12 (by decide) (fun c_1 => ?_) (fun c_1 => ?_)
  · refine lv_aload_n hx hb dX1_refit_15 rfl (lv_at hl 2 rfl) ?_
    refine lv_lload_n hx hb dX1_refit_16 rfl (lv_at hl 3 rfl) ?_
    refine lv_lconst (v := (0:Int64)) hx hb dX1_refit_17 (by decide) ?_
    refine cv_l (As := [.long v, .long (0:Int64)]) (rest := []) ⟨hx, hb, hml, hown, hts⟩ (kX1_withSignOf l G j v (0:Int64) hj) (cwV 2 hts gX1_refit_X1_withSignOf rfl rfl rfl (by decide +kernel) ⟨Nat.le_of_ble_eq_true rfl, Nat.le_of_ble_eq_true rfl⟩) (so_rec hE hj hS) hE hK hP hD hS hA hl.1 [] rfl rfl rfl rfl rfl rfl (Nat.le_of_ble_eq_true rfl) dX1_refit_18 ⟨Nat.zero_le _, Nat.zero_le _⟩ (fun H locs hP hD hS => ?_)
    have hP : va_P G.1 vwCl [] H := hP
    have hD : va_D A [] := hD
    exact rt_l hx hb hr hlocks hP hD hS dX1_refit_21 (by rw [fX1_refit, if_pos c_1])
  · refine lv_lload hx hb dX1_refit_22 (lv_at hl 0 rfl) ?_
    refine lv_aload_n hx hb dX1_refit_24 rfl (lv_at hl 1 rfl) ?_
    refine cv_l (As := []) (rest := [.long (v &&& (so_mask i))]) ⟨hx, hb, hml, hown, hts⟩ (kX1_infinite l G i hi) (cwV 0 hts gX1_refit_X1_infinite rfl rfl rfl (by decide +kernel) ⟨Nat.le_of_ble_eq_true rfl, Nat.le_of_ble_eq_true rfl⟩) (so_rec hE hi hS) hE hK hP hD hS hA hl.1 [] rfl rfl rfl rfl rfl rfl (Nat.le_of_ble_eq_true rfl) dX1_refit_25 ⟨Nat.zero_le _, Nat.zero_le _⟩ (fun H locs hP hD hS => ?_)
    have hP : va_P G.1 vwCl [] H := hP
    have hD : va_D A [] := hD
    refine bl_ne (tgt := 42) hx hb dX1_refit_28 dX1_refit_29 (by decide) (fun c_2 => ?_) (fun c_2 => ?_)
    · refine lv_aload_n hx hb dX1_refit_32 rfl (lv_at hl 2 rfl) ?_
      refine lv_lload_n hx hb dX1_refit_33 rfl (lv_at hl 3 rfl) ?_
      refine lv_aload_n hx hb dX1_refit_34 rfl (lv_at hl 2 rfl) ?_
      refine cv_l (As := []) (rest := [.long v, .ref (G.2.2.1 j)]) ⟨hx, hb, hml, hown, hts⟩ (kX1_infinite l G j hj) (cwV 0 hts gX1_refit_X1_infinite rfl rfl rfl (by decide +kernel) ⟨Nat.le_of_ble_eq_true rfl, Nat.le_of_ble_eq_true rfl⟩) (so_rec hE hj hS) hE hK hP hD hS hA hl.1 [] rfl rfl rfl rfl rfl rfl (Nat.le_of_ble_eq_true rfl) dX1_refit_35 ⟨Nat.zero_le _, Nat.zero_le _⟩ (fun H locs hP hD hS => ?_)
      have hP : va_P G.1 vwCl [] H := hP
      have hD : va_D A [] := hD
      refine cv_l (As := [.long v, .long (fX1_infinite j)]) (rest := []) ⟨hx, hb, hml, hown, hts⟩ (kX1_withSignOf l G j v (fX1_infinite j) hj) (cwV 2 hts gX1_refit_X1_withSignOf rfl rfl rfl (by decide +kernel) ⟨Nat.le_of_ble_eq_true rfl, Nat.le_of_ble_eq_true rfl⟩) (so_rec hE hj hS) hE hK hP hD hS hA hl.1 [] rfl rfl rfl rfl rfl rfl (Nat.le_of_ble_eq_true rfl) dX1_refit_38 ⟨Nat.zero_le _, Nat.zero_le _⟩ (fun H locs hP hD hS => ?_)
      have hP : va_P G.1 vwCl [] H := hP
      have hD : va_D A [] := hD
      exact rt_l hx hb hr hlocks hP hD hS dX1_refit_41 (by rw [fX1_refit, if_neg c_1, if_pos c_2])
    · refine lv_lconst (v := (1:Int64)) hx hb dX1_refit_42 (by decide) ?_
      refine lv_aload_n hx hb dX1_refit_43 rfl (lv_at hl 1 rfl) ?_
      refine sg_fraction hx hb hE hi hS hown (hts (.fieldLink RX1 41 "PedalBoard$Sort" "fraction" "I") (by decide +kernel)) dX1_refit_44 ?_
      refine r_lshl hx hb dX1_refit_47 ?_
      refine lv_lstore (lv' := [(6, .long (shL (1:Int64) (so_frac i))), (4, .long (v &&& (so_mask i))), (0, .ref (G.2.2.1 i)), (1, .ref (G.2.2.1 j)), (2, .long v)]) hx hb dX1_refit_48 hl (by decide) rfl (fun ls hl => ?_)
      refine lv_lload hx hb dX1_refit_50 (lv_at hl 1 rfl) ?_
      refine lv_aload_n hx hb dX1_refit_52 rfl (lv_at hl 2 rfl) ?_
      refine sg_fraction hx hb hE hi hS hown (hts (.fieldLink RX1 41 "PedalBoard$Sort" "fraction" "I") (by decide +kernel)) dX1_refit_53 ?_
      refine r_lshr hx hb dX1_refit_56 ?_
      refine r_l2i hx hb dX1_refit_57 ?_
      refine lv_istore (lv' := [(8, .int ((shR (v &&& (so_mask i)) (so_frac i)).toInt32)), (6, .long (shL (1:Int64) (so_frac i))), (4, .long (v &&& (so_mask i))), (0, .ref (G.2.2.1 i)), (1, .ref (G.2.2.1 j)), (2, .long v)]) hx hb dX1_refit_58 hl (by decide) rfl (fun ls hl => ?_)
      refine lv_iload hx hb dX1_refit_60 (lv_at hl 0 rfl) ?_
      refine jn_1 (T := Int64) G A (if (shR (v &&& (so_mask i)) (so_frac i)).toInt32 = 0 then (v &&& (so_mask i)) else (((v &&& (so_mask i)) &&& ((shL (1:Int64) (so_frac i)) - (1:Int64))) ||| (shL (1:Int64) (so_frac i)))) [] 12 (fun y => [(0, .ref (G.2.2.1 i)), (1, .ref (G.2.2.1 j)), (2, .long v), (8, .int ((shR (v &&& (so_mask i)) (so_frac i)).toInt32))]) (fun y => [.long y]) 80 ?_ ?_
      · intro y_3 ey_3 H locs ls hP hD hS hl
        have hr_5 : fX1_refit i j v = fX1_refit_80 i j v y_3 := by rw [ey_3, fX1_refit, if_neg c_1, if_neg c_2]
        refine lv_lstore (lv' := [(9, .long y_3), (0, .ref (G.2.2.1 i)), (1, .ref (G.2.2.1 j)), (2, .long v), (8, .int ((shR (v &&& (so_mask i)) (so_frac i)).toInt32))]) hx hb dX1_refit_80 hl (by decide) rfl (fun ls hl => ?_)
        refine lv_iload hx hb dX1_refit_82 (lv_at hl 4 rfl) ?_
        refine lv_iconst (v := (1:Int32)) hx hb dX1_refit_84 (by decide) ?_
        refine va_mmax hx hb (hml.trans hl.1.symm) hown (hts (.methodLink RX1 119 Lib.Math.max.name) (by decide +kernel)) (hts (.static Lib.Math.max.name) (by decide +kernel)) (hts (.initialized "java/lang/Math") (by decide +kernel)) (hts (.code Lib.Math.max.name Lib.Math.max.code 2 (some .int)) (by decide +kernel)) (Nat.le_of_ble_eq_true rfl) (Nat.le_of_ble_eq_true rfl) (Nat.zero_le _) (Nat.zero_le _) dX1_refit_85 ?_
        refine lv_aload_n hx hb dX1_refit_88 rfl (lv_at hl 1 rfl) ?_
        refine sg_bias hx hb hE hi hS hown (hts (.fieldLink RX1 44 "PedalBoard$Sort" "bias" "I") (by decide +kernel)) dX1_refit_89 ?_
        refine lv_isub hx hb dX1_refit_92 ?_
        refine lv_aload_n hx hb dX1_refit_93 rfl (lv_at hl 1 rfl) ?_
        refine sg_fraction hx hb hE hi hS hown (hts (.fieldLink RX1 41 "PedalBoard$Sort" "fraction" "I") (by decide +kernel)) dX1_refit_94 ?_
        refine lv_isub hx hb dX1_refit_97 ?_
        refine lv_istore (lv' := [(11, .int (((if (shR (v &&& (so_mask i)) (so_frac i)).toInt32 < (1:Int32) then (1:Int32) else (shR (v &&& (so_mask i)) (so_frac i)).toInt32) - (so_bias i)) - (so_frac i))), (9, .long y_3), (0, .ref (G.2.2.1 i)), (1, .ref (G.2.2.1 j)), (2, .long v), (8, .int ((shR (v &&& (so_mask i)) (so_frac i)).toInt32))]) hx hb dX1_refit_98 hl (by decide) rfl (fun ls hl => ?_)
        refine lv_aload_n hx hb dX1_refit_100 rfl (lv_at hl 3 rfl) ?_
        refine lv_lload_n hx hb dX1_refit_101 rfl (lv_at hl 4 rfl) ?_
        refine lv_aload_n hx hb dX1_refit_102 rfl (lv_at hl 3 rfl) ?_
        refine lv_lload hx hb dX1_refit_103 (lv_at hl 1 rfl) ?_
        refine lv_iload hx hb dX1_refit_105 (lv_at hl 0 rfl) ?_
        refine cv_l (As := [.long y_3, .int (((if (shR (v &&& (so_mask i)) (so_frac i)).toInt32 < (1:Int32) then (1:Int32) else (shR (v &&& (so_mask i)) (so_frac i)).toInt32) - (so_bias i)) - (so_frac i))]) (rest := [.long v, .ref (G.2.2.1 j)]) ⟨hx, hb, hml, hown, hts⟩ (kX1_rounded l G j y_3 (((if (shR (v &&& (so_mask i)) (so_frac i)).toInt32 < (1:Int32) then (1:Int32) else (shR (v &&& (so_mask i)) (so_frac i)).toInt32) - (so_bias i)) - (so_frac i)) hj) (cwV 2 hts gX1_refit_X1_rounded rfl rfl rfl (by decide +kernel) ⟨Nat.le_of_ble_eq_true rfl, Nat.le_of_ble_eq_true rfl⟩) (so_rec hE hj hS) hE hK hP hD hS hA hl.1 [] rfl rfl rfl rfl rfl rfl (Nat.le_of_ble_eq_true rfl) dX1_refit_107 ⟨Nat.zero_le _, Nat.zero_le _⟩ (fun H locs hP hD hS => ?_)
        have hP : va_P G.1 vwCl [] H := hP
        have hD : va_D A [] := hD
        refine cv_l (As := [.long v, .long (fX1_rounded j y_3 (((if (shR (v &&& (so_mask i)) (so_frac i)).toInt32 < (1:Int32) then (1:Int32) else (shR (v &&& (so_mask i)) (so_frac i)).toInt32) - (so_bias i)) - (so_frac i)))]) (rest := []) ⟨hx, hb, hml, hown, hts⟩ (kX1_withSignOf l G j v (fX1_rounded j y_3 (((if (shR (v &&& (so_mask i)) (so_frac i)).toInt32 < (1:Int32) then (1:Int32) else (shR (v &&& (so_mask i)) (so_frac i)).toInt32) - (so_bias i)) - (so_frac i))) hj) (cwV 2 hts gX1_refit_X1_withSignOf rfl rfl rfl (by decide +kernel) ⟨Nat.le_of_ble_eq_true rfl, Nat.le_of_ble_eq_true rfl⟩) (so_rec hE hj hS) hE hK hP hD hS hA hl.1 [] rfl rfl rfl rfl rfl rfl (Nat.le_of_ble_eq_true rfl) dX1_refit_110 ⟨Nat.zero_le _, Nat.zero_le _⟩ (fun H locs hP hD hS => ?_)
        have hP : va_P G.1 vwCl [] H := hP
        have hD : va_D A [] := hD
        exact rt_l hx hb hr hlocks hP hD hS dX1_refit_113 (by rw [hr_5, fX1_refit_80])
      · intro kj_3
        refine bz_ne (tgt := 70) hx hb dX1_refit_62 (by decide) (fun c_4 => ?_) (fun c_4 => ?_)
        · refine lv_lload hx hb dX1_refit_65 (lv_at hl 2 rfl) ?_
          refine lv_goto (tgt := 80) hx hb dX1_refit_67 (by decide) ?_
          exact kj_3 (v &&& (so_mask i)) (by rw [if_pos c_4]) _ _ _ hP hD hS (lv_sub hl [3, 4, 5, 0] rfl)
        · refine lv_lload hx hb dX1_refit_70 (lv_at hl 2 rfl) ?_
          refine lv_lload hx hb dX1_refit_72 (lv_at hl 1 rfl) ?_
          refine lv_lconst (v := (1:Int64)) hx hb dX1_refit_74 (by decide) ?_
          refine lv_lsub hx hb dX1_refit_75 ?_
          refine lv_land hx hb dX1_refit_76 ?_
          refine lv_lload hx hb dX1_refit_77 (lv_at hl 1 rfl) ?_
          refine lv_lor hx hb dX1_refit_79 ?_
          exact kj_3 (((v &&& (so_mask i)) &&& ((shL (1:Int64) (so_frac i)) - (1:Int64))) ||| (shL (1:Int64) (so_frac i))) (by rw [if_neg c_4]) _ _ _ hP hD hS (lv_sub hl [3, 4, 5, 0] rfl)
def fX1_castTo (i : Nat) (j : Nat) (v : Int64) : Int64 := (if (fX1_isWhole i) = 0 then (if (fX1_isWhole j) = 0 then (fX1_refit i j v) else (fX1_cutTo i j v)) else (if (fX1_isWhole j) = 0 then (fX1_roundedWhole j v) else (fX1_fitted j v)))
set_option maxHeartbeats 4000000 in
set_option maxRecDepth 100000 in
theorem kX1_castTo (l : Launch) (G : GT) (i : Nat) (j : Nat) (v : Int64) (hi : i < 4) (hj : j < 4) : CL l yX1_castTo wsX1_castTo { frames := 3, cells := 0, slots := 0, locals := 86 } G [.ref (G.2.2.1 i), .ref (G.2.2.1 j), .long v] [] (fX1_castTo i j v) [] := by
  refine en_l (cc := cX1_castTo) (maxL := 4) (ret := (some .long)) (own := RX1) (by decide) rfl rfl (Nat.le_of_ble_eq_true rfl) ?_
  intro p e s m below meth c A ls hx hb hr hts hown hml hlocks hA hK hE hP hD hS hl
  have hl : lv_has ls 4 [(0, .ref (G.2.2.1 i)), (1, .ref (G.2.2.1 j)), (2, .long v)] := hl
  refine lv_aload_n hx hb dX1_castTo_0 rfl (lv_at hl 0 rfl) ?_
  refine cv_i (As := []) (rest := []) ⟨hx, hb, hml, hown, hts⟩ (kX1_isWhole l G i hi) (cwV 0 hts gX1_castTo_X1_isWhole rfl rfl rfl (by decide +kernel) ⟨Nat.le_of_ble_eq_true rfl, Nat.le_of_ble_eq_true rfl⟩) (so_rec hE hi hS) hE hK hP hD hS hA hl.1 [] rfl rfl rfl rfl rfl rfl (Nat.le_of_ble_eq_true rfl) dX1_castTo_1 ⟨Nat.zero_le _, Nat.zero_le _⟩ (fun H locs hP hD hS => ?_)
  have hP : va_P G.1 vwCl [] H := hP
  have hD : va_D A [] := hD
  refine bz_eq (tgt := 28) hx hb dX1_castTo_4 (by decide) (fun c_1 => ?_) (fun c_1 => ?_)
  · refine lv_aload_n hx hb dX1_castTo_28 rfl (lv_at hl 1 rfl) ?_
    refine cv_i (As := []) (rest := []) ⟨hx, hb, hml, hown, hts⟩ (kX1_isWhole l G j hj) (cwV 0 hts gX1_castTo_X1_isWhole rfl rfl rfl (by decide +kernel) ⟨Nat.le_of_ble_eq_true rfl, Nat.le_of_ble_eq_true rfl⟩) (so_rec hE hj hS) hE hK hP hD hS hA hl.1 [] rfl rfl rfl rfl rfl rfl (Nat.le_of_ble_eq_true rfl) dX1_castTo_29 ⟨Nat.zero_le _, Nat.zero_le _⟩ (fun H locs hP hD hS => ?_)
    have hP : va_P G.1 vwCl [] H := hP
    have hD : va_D A [] := hD
    refine bz_eq (tgt := 44) hx hb dX1_castTo_32 (by decide) (fun c_2 => ?_) (fun c_2 => ?_)
    · refine lv_aload_n hx hb dX1_castTo_44 rfl (lv_at hl 0 rfl) ?_
      refine lv_aload_n hx hb dX1_castTo_45 rfl (lv_at hl 1 rfl) ?_
      refine lv_lload_n hx hb dX1_castTo_46 rfl (lv_at hl 2 rfl) ?_
      refine cv_l (As := [.ref (G.2.2.1 j), .long v]) (rest := []) ⟨hx, hb, hml, hown, hts⟩ (kX1_refit l G i j v hi hj) (cwV 2 hts gX1_castTo_X1_refit rfl rfl rfl (by decide +kernel) ⟨Nat.le_of_ble_eq_true rfl, Nat.le_of_ble_eq_true rfl⟩) (so_rec hE hi hS) hE hK hP hD hS hA hl.1 [] rfl rfl rfl rfl rfl rfl (Nat.le_of_ble_eq_true rfl) dX1_castTo_47 ⟨Nat.zero_le _, Nat.zero_le _⟩ (fun H locs hP hD hS => ?_)
      have hP : va_P G.1 vwCl [] H := hP
      have hD : va_D A [] := hD
      exact rt_l hx hb hr hlocks hP hD hS dX1_castTo_50 (by rw [fX1_castTo, if_pos c_1, if_pos c_2])
    · refine lv_aload_n hx hb dX1_castTo_35 rfl (lv_at hl 0 rfl) ?_
      refine lv_aload_n hx hb dX1_castTo_36 rfl (lv_at hl 1 rfl) ?_
      refine lv_lload_n hx hb dX1_castTo_37 rfl (lv_at hl 2 rfl) ?_
      refine cv_l (As := [.ref (G.2.2.1 j), .long v]) (rest := []) ⟨hx, hb, hml, hown, hts⟩ (kX1_cutTo l G i j v hi hj) (cwV 2 hts gX1_castTo_X1_cutTo rfl rfl rfl (by decide +kernel) ⟨Nat.le_of_ble_eq_true rfl, Nat.le_of_ble_eq_true rfl⟩) (so_rec hE hi hS) hE hK hP hD hS hA hl.1 [] rfl rfl rfl rfl rfl rfl (Nat.le_of_ble_eq_true rfl) dX1_castTo_38 ⟨Nat.zero_le _, Nat.zero_le _⟩ (fun H locs hP hD hS => ?_)
      have hP : va_P G.1 vwCl [] H := hP
      have hD : va_D A [] := hD
      refine lv_goto (tgt := 50) hx hb dX1_castTo_41 (by decide) ?_
      exact rt_l hx hb hr hlocks hP hD hS dX1_castTo_50 (by rw [fX1_castTo, if_pos c_1, if_neg c_2])
  · refine lv_aload_n hx hb dX1_castTo_7 rfl (lv_at hl 1 rfl) ?_
    refine cv_i (As := []) (rest := []) ⟨hx, hb, hml, hown, hts⟩ (kX1_isWhole l G j hj) (cwV 0 hts gX1_castTo_X1_isWhole rfl rfl rfl (by decide +kernel) ⟨Nat.le_of_ble_eq_true rfl, Nat.le_of_ble_eq_true rfl⟩) (so_rec hE hj hS) hE hK hP hD hS hA hl.1 [] rfl rfl rfl rfl rfl rfl (Nat.le_of_ble_eq_true rfl) dX1_castTo_8 ⟨Nat.zero_le _, Nat.zero_le _⟩ (fun H locs hP hD hS => ?_)
    have hP : va_P G.1 vwCl [] H := hP
    have hD : va_D A [] := hD
    refine bz_eq (tgt := 22) hx hb dX1_castTo_11 (by decide) (fun c_3 => ?_) (fun c_3 => ?_)
    · refine lv_aload_n hx hb dX1_castTo_22 rfl (lv_at hl 1 rfl) ?_
      refine lv_lload_n hx hb dX1_castTo_23 rfl (lv_at hl 2 rfl) ?_
      refine cv_l (As := [.long v]) (rest := []) ⟨hx, hb, hml, hown, hts⟩ (kX1_roundedWhole l G j v hj) (cwV 1 hts gX1_castTo_X1_roundedWhole rfl rfl rfl (by decide +kernel) ⟨Nat.le_of_ble_eq_true rfl, Nat.le_of_ble_eq_true rfl⟩) (so_rec hE hj hS) hE hK hP hD hS hA hl.1 [] rfl rfl rfl rfl rfl rfl (Nat.le_of_ble_eq_true rfl) dX1_castTo_24 ⟨Nat.zero_le _, Nat.zero_le _⟩ (fun H locs hP hD hS => ?_)
      have hP : va_P G.1 vwCl [] H := hP
      have hD : va_D A [] := hD
      exact rt_l hx hb hr hlocks hP hD hS dX1_castTo_27 (by rw [fX1_castTo, if_neg c_1, if_pos c_3])
    · refine lv_aload_n hx hb dX1_castTo_14 rfl (lv_at hl 1 rfl) ?_
      refine lv_lload_n hx hb dX1_castTo_15 rfl (lv_at hl 2 rfl) ?_
      refine cv_l (As := [.long v]) (rest := []) ⟨hx, hb, hml, hown, hts⟩ (kX1_fitted l G j v hj) (cwV 1 hts gX1_castTo_X1_fitted rfl rfl rfl (by decide +kernel) ⟨Nat.le_of_ble_eq_true rfl, Nat.le_of_ble_eq_true rfl⟩) (so_rec hE hj hS) hE hK hP hD hS hA hl.1 [] rfl rfl rfl rfl rfl rfl (Nat.le_of_ble_eq_true rfl) dX1_castTo_16 ⟨Nat.zero_le _, Nat.zero_le _⟩ (fun H locs hP hD hS => ?_)
      have hP : va_P G.1 vwCl [] H := hP
      have hD : va_D A [] := hD
      refine lv_goto (tgt := 27) hx hb dX1_castTo_19 (by decide) ?_
      exact rt_l hx hb hr hlocks hP hD hS dX1_castTo_27 (by rw [fX1_castTo, if_neg c_1, if_neg c_3])
