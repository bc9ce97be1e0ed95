def fX4_castTo_46 (to : Int32) (v : Int64) (y_7 : Int32) : Int64 := (if v < (0:Int64) then (fX4_near to y_7 (-v) (0:Int32)) else (fX4_near to y_7 v (0:Int32)))
def fX4_castTo_200 (fr : Int32) (to : Int32) (v : Int64) (y_17 : Int64) (y_20 : Int32) : Int64 := (if (1:Int32) < to then (fX4_near to (fX4_below fr v) y_17 y_20) else (fX4_held to (fX4_below fr v) y_17 y_20))
def fX4_castTo_181 (fr : Int32) (to : Int32) (v : Int64) (y_11 : Int32) (y_17 : Int64) : Int64 := (fX4_castTo_200 fr to v y_17 (if (shR (fX4_size fr v) (fX4_fractionBits fr)).toInt32 = 0 then y_11 else ((y_11 + (shR (fX4_size fr v) (fX4_fractionBits fr)).toInt32) - (1:Int32))))
def fX4_castTo_97 (fr : Int32) (to : Int32) (v : Int64) (y_11 : Int32) : Int64 := (if (fX4_size fr v) = (fX4_endless fr) then (if (1:Int32) < to then (if (fX4_below fr v) = 0 then (fX4_asCode to ((fX4_endless to) ||| (0:Int64))) else (fX4_asCode to ((fX4_endless to) ||| (fX4_signBit to)))) else (fX4_held to (fX4_below fr v) (1:Int64) (100:Int32))) else (fX4_castTo_181 fr to v y_11 (if (shR (fX4_size fr v) (fX4_fractionBits fr)).toInt32 = 0 then (fX4_size fr v) else (((fX4_size fr v) - (shL (((shR (fX4_size fr v) (fX4_fractionBits fr)).toInt32).toInt64) (fX4_fractionBits fr))) + (shL (1:Int64) (fX4_fractionBits fr))))))
def fX4_castTo (fr : Int32) (to : Int32) (v : Int64) : Int64 := (if fr = to then v else (if fr = 0 then (if to = (1:Int32) then v else (if fr < (2:Int32) then (if to = 0 then v.toInt32.toInt64 else (if fr < (2:Int32) then (fX4_castTo_46 to v (if v < (0:Int64) then (1:Int32) else (0:Int32))) else (fX4_castTo_97 fr to v (if fr = (2:Int32) then (-149:Int32) else (-1074:Int32))))) else (if fr < (2:Int32) then (fX4_castTo_46 to v (if v < (0:Int64) then (1:Int32) else (0:Int32))) else (fX4_castTo_97 fr to v (if fr = (2:Int32) then (-149:Int32) else (-1074:Int32)))))) else (if fr < (2:Int32) then (if to = 0 then v.toInt32.toInt64 else (if fr < (2:Int32) then (fX4_castTo_46 to v (if v < (0:Int64) then (1:Int32) else (0:Int32))) else (fX4_castTo_97 fr to v (if fr = (2:Int32) then (-149:Int32) else (-1074:Int32))))) else (if fr < (2:Int32) then (fX4_castTo_46 to v (if v < (0:Int64) then (1:Int32) else (0:Int32))) else (fX4_castTo_97 fr to v (if fr = (2:Int32) then (-149:Int32) else (-1074:Int32)))))))
set_option maxHeartbeats 4000000 in
set_option maxRecDepth 100000 in
theorem kX4_castTo (l : Launch) (G : GT) (fr : Int32) (to : Int32) (v : Int64) : CL l yX4_castTo wsX4_castTo { frames := 2, cells := 0, slots := 0, locals := 59 } G [.int fr, .int to, .long v] [] (fX4_castTo fr to v) [] := by
  refine en_l (cc := cX4_castTo) (maxL := 13) (ret := (some .long)) (own := RX4) (by decide) rfl rfl (Nat.le_of_ble_eq_true rfl) ?_
  intro p e s m below meth c A ls hx hb hr hts hown hml hlocks hA hK hE hP hD hS hl
  have hl : lv_has ls 13 [(0, .int fr), (1, .int to), (2, .long v)] := hl
  refine lv_iload_n hx hb dX4_castTo_0 rfl (lv_at hl 0 rfl) ?_
  refine lv_iload_n hx hb dX4_castTo_1 rfl (lv_at hl 1 rfl) ?_
  refine bi_eq (tgt := 14) hx hb dX4_castTo_2 (by decide) (fun c_1 => ?_) (fun c_1 => ?_)
  · refine lv_lload_n hx hb dX4_castTo_14 rfl (lv_at hl 2 rfl) ?_
    exact rt_l hx hb hr hlocks hP hD hS dX4_castTo_15 (by rw [fX4_castTo, if_pos c_1])
  · refine lv_iload_n hx hb dX4_castTo_5 rfl (lv_at hl 0 rfl) ?_
    refine bz_ne (tgt := 16) hx hb dX4_castTo_6 (by decide) (fun c_2 => ?_) (fun c_2 => ?_)
    · refine lv_iload_n hx hb dX4_castTo_9 rfl (lv_at hl 1 rfl) ?_
      refine lv_iconst (v := (1:Int32)) hx hb dX4_castTo_10 (by decide) ?_
      refine bi_ne (tgt := 16) hx hb dX4_castTo_11 (by decide) (fun c_3 => ?_) (fun c_3 => ?_)
      · refine lv_lload_n hx hb dX4_castTo_14 rfl (lv_at hl 2 rfl) ?_
        exact rt_l hx hb hr hlocks hP hD hS dX4_castTo_15 (by rw [fX4_castTo, if_neg c_1, if_pos c_2, if_pos c_3])
      · refine lv_iload_n hx hb dX4_castTo_16 rfl (lv_at hl 0 rfl) ?_
        refine lv_iconst (v := (2:Int32)) hx hb dX4_castTo_17 (by decide) ?_
        refine bi_ge (tgt := 29) hx hb dX4_castTo_18 (by decide) (fun c_4 => ?_) (fun c_4 => ?_)
        · refine lv_iload_n hx hb dX4_castTo_21 rfl (lv_at hl 1 rfl) ?_
          refine bz_ne (tgt := 29) hx hb dX4_castTo_22 (by decide) (fun c_5 => ?_) (fun c_5 => ?_)
          · refine lv_lload_n hx hb dX4_castTo_25 rfl (lv_at hl 2 rfl) ?_
            refine r_l2i hx hb dX4_castTo_26 ?_
            refine r_i2l hx hb dX4_castTo_27 ?_
            exact rt_l hx hb hr hlocks hP hD hS dX4_castTo_28 (by rw [fX4_castTo, if_neg c_1, if_pos c_2, if_neg c_3, if_pos c_4, if_pos c_5])
          · refine lv_iload_n hx hb dX4_castTo_29 rfl (lv_at hl 0 rfl) ?_
            refine lv_iconst (v := (2:Int32)) hx hb dX4_castTo_30 (by decide) ?_
            refine bi_ge (tgt := 63) hx hb dX4_castTo_31 (by decide) (fun c_6 => ?_) (fun c_6 => ?_)
            · refine lv_iload_n hx hb dX4_castTo_34 rfl (lv_at hl 1 rfl) ?_
              refine lv_lload_n hx hb dX4_castTo_35 rfl (lv_at hl 2 rfl) ?_
              refine lv_lconst (v := (0:Int64)) hx hb dX4_castTo_36 (by decide) ?_
              refine jn_1 (T := Int32) G A (if v < (0:Int64) then (1:Int32) else (0:Int32)) [] 13 (fun y => [(2, .long v)]) (fun y => [.int y, .int to]) 46 ?_ ?_
              · intro y_7 ey_7 H locs ls hP hD hS hl
                have hr_9 : fX4_castTo fr to v = fX4_castTo_46 to v y_7 := by rw [ey_7, fX4_castTo, if_neg c_1, if_pos c_2, if_neg c_3, if_pos c_4, if_neg c_5, if_pos c_6]
                refine lv_lload_n hx hb dX4_castTo_46 rfl (lv_at hl 0 rfl) ?_
                refine lv_lconst (v := (0:Int64)) hx hb dX4_castTo_47 (by decide) ?_
                refine bl_ge (tgt := 57) hx hb dX4_castTo_48 dX4_castTo_49 (by decide) (fun c_10 => ?_) (fun c_10 => ?_)
                · refine lv_lload_n hx hb dX4_castTo_52 rfl (lv_at hl 0 rfl) ?_
                  refine lv_lneg hx hb dX4_castTo_53 ?_
                  refine lv_goto (tgt := 58) hx hb dX4_castTo_54 (by decide) ?_
                  refine lv_iconst (v := (0:Int32)) hx hb dX4_castTo_58 (by decide) ?_
                  refine cs_l (As := [.int to, .int y_7, .long (-v), .int (0:Int32)]) (rest := []) ⟨hx, hb, hml, hown, hts⟩ (kX4_near l G to y_7 (-v) (0:Int32)) (va_cwS 4 hts gX4_castTo_X4_near rfl rfl rfl (by decide +kernel) ⟨Nat.le_of_ble_eq_true rfl, Nat.le_of_ble_eq_true rfl⟩) hE hK hP hD hS hA hl.1 [] rfl rfl rfl rfl rfl rfl (Nat.le_of_ble_eq_true rfl) dX4_castTo_59 ⟨Nat.zero_le _, Nat.zero_le _⟩ (fun H locs hP hD hS => ?_)
                  have hP : va_P G.1 vwCl [] H := hP
                  have hD : va_D A [] := hD
                  exact rt_l hx hb hr hlocks hP hD hS dX4_castTo_62 (by rw [hr_9, fX4_castTo_46, if_pos c_10])
                · refine lv_lload_n hx hb dX4_castTo_57 rfl (lv_at hl 0 rfl) ?_
                  refine lv_iconst (v := (0:Int32)) hx hb dX4_castTo_58 (by decide) ?_
                  refine cs_l (As := [.int to, .int y_7, .long v, .int (0:Int32)]) (rest := []) ⟨hx, hb, hml, hown, hts⟩ (kX4_near l G to y_7 v (0:Int32)) (va_cwS 4 hts gX4_castTo_X4_near rfl rfl rfl (by decide +kernel) ⟨Nat.le_of_ble_eq_true rfl, Nat.le_of_ble_eq_true rfl⟩) hE hK hP hD hS hA hl.1 [] rfl rfl rfl rfl rfl rfl (Nat.le_of_ble_eq_true rfl) dX4_castTo_59 ⟨Nat.zero_le _, Nat.zero_le _⟩ (fun H locs hP hD hS => ?_)
                  have hP : va_P G.1 vwCl [] H := hP
                  have hD : va_D A [] := hD
                  exact rt_l hx hb hr hlocks hP hD hS dX4_castTo_62 (by rw [hr_9, fX4_castTo_46, if_neg c_10])
              · intro kj_7
                refine bl_ge (tgt := 45) hx hb dX4_castTo_37 dX4_castTo_38 (by decide) (fun c_8 => ?_) (fun c_8 => ?_)
                · refine lv_iconst (v := (1:Int32)) hx hb dX4_castTo_41 (by decide) ?_
                  refine lv_goto (tgt := 46) hx hb dX4_castTo_42 (by decide) ?_
                  exact kj_7 (1:Int32) (by rw [if_pos c_8]) _ _ _ hP hD hS (lv_sub hl [2] rfl)
                · refine lv_iconst (v := (0:Int32)) hx hb dX4_castTo_45 (by decide) ?_
                  exact kj_7 (0:Int32) (by rw [if_neg c_8]) _ _ _ hP hD hS (lv_sub hl [2] rfl)
            · refine lv_iload_n hx hb dX4_castTo_63 rfl (lv_at hl 0 rfl) ?_
              refine lv_lload_n hx hb dX4_castTo_64 rfl (lv_at hl 2 rfl) ?_
              refine cs_l (As := [.int fr, .long v]) (rest := []) ⟨hx, hb, hml, hown, hts⟩ (kX4_size l G fr v) (va_cwS 2 hts gX4_castTo_X4_size rfl rfl rfl (by decide +kernel) ⟨Nat.le_of_ble_eq_true rfl, Nat.le_of_ble_eq_true rfl⟩) hE hK hP hD hS hA hl.1 [] rfl rfl rfl rfl rfl rfl (Nat.le_of_ble_eq_true rfl) dX4_castTo_65 ⟨Nat.zero_le _, Nat.zero_le _⟩ (fun H locs hP hD hS => ?_)
              have hP : va_P G.1 vwCl [] H := hP
              have hD : va_D A [] := hD
              refine lv_lstore (lv' := [(4, .long (fX4_size fr v)), (0, .int fr), (1, .int to), (2, .long v)]) hx hb dX4_castTo_68 hl (by decide) rfl (fun ls hl => ?_)
              refine lv_iload_n hx hb dX4_castTo_70 rfl (lv_at hl 1 rfl) ?_
              refine lv_lload_n hx hb dX4_castTo_71 rfl (lv_at hl 3 rfl) ?_
              refine cs_i (As := [.int fr, .long v]) (rest := []) ⟨hx, hb, hml, hown, hts⟩ (kX4_below l G fr v) (va_cwS 2 hts gX4_castTo_X4_below rfl rfl rfl (by decide +kernel) ⟨Nat.le_of_ble_eq_true rfl, Nat.le_of_ble_eq_true rfl⟩) hE hK hP hD hS hA hl.1 [] rfl rfl rfl rfl rfl rfl (Nat.le_of_ble_eq_true rfl) dX4_castTo_72 ⟨Nat.zero_le _, Nat.zero_le _⟩ (fun H locs hP hD hS => ?_)
              have hP : va_P G.1 vwCl [] H := hP
              have hD : va_D A [] := hD
              refine lv_istore (lv' := [(6, .int (fX4_below fr v)), (4, .long (fX4_size fr v)), (0, .int fr), (1, .int to), (2, .long v)]) hx hb dX4_castTo_75 hl (by decide) rfl (fun ls hl => ?_)
              refine lv_iload_n hx hb dX4_castTo_77 rfl (lv_at hl 2 rfl) ?_
              refine cs_i (As := [.int fr]) (rest := []) ⟨hx, hb, hml, hown, hts⟩ (kX4_fractionBits l G fr) (va_cwS 1 hts gX4_castTo_X4_fractionBits rfl rfl rfl (by decide +kernel) ⟨Nat.le_of_ble_eq_true rfl, Nat.le_of_ble_eq_true rfl⟩) hE hK hP hD hS hA hl.1 [] rfl rfl rfl rfl rfl rfl (Nat.le_of_ble_eq_true rfl) dX4_castTo_78 ⟨Nat.zero_le _, Nat.zero_le _⟩ (fun H locs hP hD hS => ?_)
              have hP : va_P G.1 vwCl [] H := hP
              have hD : va_D A [] := hD
              refine lv_istore (lv' := [(7, .int (fX4_fractionBits fr)), (6, .int (fX4_below fr v)), (4, .long (fX4_size fr v)), (0, .int fr), (1, .int to), (2, .long v)]) hx hb dX4_castTo_81 hl (by decide) rfl (fun ls hl => ?_)
              refine lv_iload_n hx hb dX4_castTo_83 rfl (lv_at hl 3 rfl) ?_
              refine lv_iconst (v := (2:Int32)) hx hb dX4_castTo_84 (by decide) ?_
              refine jn_1 (T := Int32) G A (if fr = (2:Int32) then (-149:Int32) else (-1074:Int32)) [] 13 (fun y => [(0, .int fr), (1, .int to), (4, .long (fX4_size fr v)), (6, .int (fX4_below fr v)), (7, .int (fX4_fractionBits fr))]) (fun y => [.int y]) 97 ?_ ?_
              · intro y_11 ey_11 H locs ls hP hD hS hl
                have hr_13 : fX4_castTo fr to v = fX4_castTo_97 fr to v y_11 := by rw [ey_11, fX4_castTo, if_neg c_1, if_pos c_2, if_neg c_3, if_pos c_4, if_neg c_5, if_neg c_6]
                refine lv_istore (lv' := [(8, .int y_11), (0, .int fr), (1, .int to), (4, .long (fX4_size fr v)), (6, .int (fX4_below fr v)), (7, .int (fX4_fractionBits fr))]) hx hb dX4_castTo_97 hl (by decide) rfl (fun ls hl => ?_)
                refine lv_lload hx hb dX4_castTo_99 (lv_at hl 3 rfl) ?_
                refine lv_iload hx hb dX4_castTo_101 (lv_at hl 5 rfl) ?_
                refine r_lshr hx hb dX4_castTo_103 ?_
                refine r_l2i hx hb dX4_castTo_104 ?_
                refine lv_istore (lv' := [(9, .int ((shR (fX4_size fr v) (fX4_fractionBits fr)).toInt32)), (8, .int y_11), (0, .int fr), (1, .int to), (4, .long (fX4_size fr v)), (6, .int (fX4_below fr v)), (7, .int (fX4_fractionBits fr))]) hx hb dX4_castTo_105 hl (by decide) rfl (fun ls hl => ?_)
                refine lv_lload hx hb dX4_castTo_107 (lv_at hl 4 rfl) ?_
                refine lv_iload_n hx hb dX4_castTo_109 rfl (lv_at hl 2 rfl) ?_
                refine cs_l (As := [.int fr]) (rest := [.long (fX4_size fr v)]) ⟨hx, hb, hml, hown, hts⟩ (kX4_endless l G fr) (va_cwS 1 hts gX4_castTo_X4_endless rfl rfl rfl (by decide +kernel) ⟨Nat.le_of_ble_eq_true rfl, Nat.le_of_ble_eq_true rfl⟩) hE hK hP hD hS hA hl.1 [] rfl rfl rfl rfl rfl rfl (Nat.le_of_ble_eq_true rfl) dX4_castTo_110 ⟨Nat.zero_le _, Nat.zero_le _⟩ (fun H locs hP hD hS => ?_)
                have hP : va_P G.1 vwCl [] H := hP
                have hD : va_D A [] := hD
                refine bl_ne (tgt := 157) hx hb dX4_castTo_113 dX4_castTo_114 (by decide) (fun c_14 => ?_) (fun c_14 => ?_)
                · refine lv_iload_n hx hb dX4_castTo_117 rfl (lv_at hl 3 rfl) ?_
                  refine lv_iconst (v := (1:Int32)) hx hb dX4_castTo_118 (by decide) ?_
                  refine bi_le (tgt := 147) hx hb dX4_castTo_119 (by decide) (fun c_15 => ?_) (fun c_15 => ?_)
                  · refine lv_iload_n hx hb dX4_castTo_122 rfl (lv_at hl 3 rfl) ?_
                    refine lv_iload_n hx hb dX4_castTo_123 rfl (lv_at hl 3 rfl) ?_
                    refine cs_l (As := [.int to]) (rest := [.int to]) ⟨hx, hb, hml, hown, hts⟩ (kX4_endless l G to) (va_cwS 1 hts gX4_castTo_X4_endless rfl rfl rfl (by decide +kernel) ⟨Nat.le_of_ble_eq_true rfl, Nat.le_of_ble_eq_true rfl⟩) hE hK hP hD hS hA hl.1 [] rfl rfl rfl rfl rfl rfl (Nat.le_of_ble_eq_true rfl) dX4_castTo_124 ⟨Nat.zero_le _, Nat.zero_le _⟩ (fun H locs hP hD hS => ?_)
                    have hP : va_P G.1 vwCl [] H := hP
                    have hD : va_D A [] := hD
                    refine lv_iload hx hb dX4_castTo_127 (lv_at hl 5 rfl) ?_
                    refine bz_eq (tgt := 139) hx hb dX4_castTo_129 (by decide) (fun c_16 => ?_) (fun c_16 => ?_)
                    · refine lv_lconst (v := (0:Int64)) hx hb dX4_castTo_139 (by decide) ?_
                      refine lv_lor hx hb dX4_castTo_140 ?_
                      refine cs_l (As := [.int to, .long ((fX4_endless to) ||| (0:Int64))]) (rest := []) ⟨hx, hb, hml, hown, hts⟩ (kX4_asCode l G to ((fX4_endless to) ||| (0:Int64))) (va_cwS 2 hts gX4_castTo_X4_asCode rfl rfl rfl (by decide +kernel) ⟨Nat.le_of_ble_eq_true rfl, Nat.le_of_ble_eq_true rfl⟩) hE hK hP hD hS hA hl.1 [] rfl rfl rfl rfl rfl rfl (Nat.le_of_ble_eq_true rfl) dX4_castTo_141 ⟨Nat.zero_le _, Nat.zero_le _⟩ (fun H locs hP hD hS => ?_)
                      have hP : va_P G.1 vwCl [] H := hP
                      have hD : va_D A [] := hD
                      refine lv_goto (tgt := 156) hx hb dX4_castTo_144 (by decide) ?_
                      exact rt_l hx hb hr hlocks hP hD hS dX4_castTo_156 (by rw [hr_13, fX4_castTo_97, if_pos c_14, if_pos c_15, if_pos c_16])
                    · refine lv_iload_n hx hb dX4_castTo_132 rfl (lv_at hl 3 rfl) ?_
                      refine cs_l (As := [.int to]) (rest := [.long (fX4_endless to), .int to]) ⟨hx, hb, hml, hown, hts⟩ (kX4_signBit l G to) (va_cwS 1 hts gX4_castTo_X4_signBit rfl rfl rfl (by decide +kernel) ⟨Nat.le_of_ble_eq_true rfl, Nat.le_of_ble_eq_true rfl⟩) hE hK hP hD hS hA hl.1 [] rfl rfl rfl rfl rfl rfl (Nat.le_of_ble_eq_true rfl) dX4_castTo_133 ⟨Nat.zero_le _, Nat.zero_le _⟩ (fun H locs hP hD hS => ?_)
                      have hP : va_P G.1 vwCl [] H := hP
                      have hD : va_D A [] := hD
                      refine lv_goto (tgt := 140) hx hb dX4_castTo_136 (by decide) ?_
                      refine lv_lor hx hb dX4_castTo_140 ?_
                      refine cs_l (As := [.int to, .long ((fX4_endless to) ||| (fX4_signBit to))]) (rest := []) ⟨hx, hb, hml, hown, hts⟩ (kX4_asCode l G to ((fX4_endless to) ||| (fX4_signBit to))) (va_cwS 2 hts gX4_castTo_X4_asCode rfl rfl rfl (by decide +kernel) ⟨Nat.le_of_ble_eq_true rfl, Nat.le_of_ble_eq_true rfl⟩) hE hK hP hD hS hA hl.1 [] rfl rfl rfl rfl rfl rfl (Nat.le_of_ble_eq_true rfl) dX4_castTo_141 ⟨Nat.zero_le _, Nat.zero_le _⟩ (fun H locs hP hD hS => ?_)
                      have hP : va_P G.1 vwCl [] H := hP
                      have hD : va_D A [] := hD
                      refine lv_goto (tgt := 156) hx hb dX4_castTo_144 (by decide) ?_
                      exact rt_l hx hb hr hlocks hP hD hS dX4_castTo_156 (by rw [hr_13, fX4_castTo_97, if_pos c_14, if_pos c_15, if_neg c_16])
                  · refine lv_iload_n hx hb dX4_castTo_147 rfl (lv_at hl 3 rfl) ?_
                    refine lv_iload hx hb dX4_castTo_148 (lv_at hl 5 rfl) ?_
                    refine lv_lconst (v := (1:Int64)) hx hb dX4_castTo_150 (by decide) ?_
                    refine lv_bipush (v := (100:Int32)) hx hb dX4_castTo_151 (by decide) ?_
                    refine cs_l (As := [.int to, .int (fX4_below fr v), .long (1:Int64), .int (100:Int32)]) (rest := []) ⟨hx, hb, hml, hown, hts⟩ (kX4_held l G to (fX4_below fr v) (1:Int64) (100:Int32)) (va_cwS 4 hts gX4_castTo_X4_held rfl rfl rfl (by decide +kernel) ⟨Nat.le_of_ble_eq_true rfl, Nat.le_of_ble_eq_true rfl⟩) hE hK hP hD hS hA hl.1 [] rfl rfl rfl rfl rfl rfl (Nat.le_of_ble_eq_true rfl) dX4_castTo_153 ⟨Nat.zero_le _, Nat.zero_le _⟩ (fun H locs hP hD hS => ?_)
                    have hP : va_P G.1 vwCl [] H := hP
                    have hD : va_D A [] := hD
                    exact rt_l hx hb hr hlocks hP hD hS dX4_castTo_156 (by rw [hr_13, fX4_castTo_97, if_pos c_14, if_neg c_15])
                · refine lv_iload hx hb dX4_castTo_157 (lv_at hl 0 rfl) ?_
                  refine jn_1 (T := Int64) G A (if (shR (fX4_size fr v) (fX4_fractionBits fr)).toInt32 = 0 then (fX4_size fr v) else (((fX4_size fr v) - (shL (((shR (fX4_size fr v) (fX4_fractionBits fr)).toInt32).toInt64) (fX4_fractionBits fr))) + (shL (1:Int64) (fX4_fractionBits fr)))) [] 13 (fun y => [(1, .int to), (6, .int (fX4_below fr v)), (8, .int y_11), (9, .int ((shR (fX4_size fr v) (fX4_fractionBits fr)).toInt32))]) (fun y => [.long y]) 181 ?_ ?_
                  · intro y_17 ey_17 H locs ls hP hD hS hl
                    have hr_19 : fX4_castTo fr to v = fX4_castTo_181 fr to v y_11 y_17 := by rw [ey_17, hr_13, fX4_castTo_97, if_neg c_14]
                    refine lv_lstore (lv' := [(10, .long y_17), (1, .int to), (6, .int (fX4_below fr v)), (8, .int y_11), (9, .int ((shR (fX4_size fr v) (fX4_fractionBits fr)).toInt32))]) hx hb dX4_castTo_181 hl (by decide) rfl (fun ls hl => ?_)
                    refine lv_iload hx hb dX4_castTo_183 (lv_at hl 4 rfl) ?_
                    refine jn_1 (T := Int32) G A (if (shR (fX4_size fr v) (fX4_fractionBits fr)).toInt32 = 0 then y_11 else ((y_11 + (shR (fX4_size fr v) (fX4_fractionBits fr)).toInt32) - (1:Int32))) [] 13 (fun y => [(1, .int to), (6, .int (fX4_below fr v)), (10, .long y_17)]) (fun y => [.int y]) 200 ?_ ?_
                    · intro y_20 ey_20 H locs ls hP hD hS hl
                      have hr_22 : fX4_castTo fr to v = fX4_castTo_200 fr to v y_17 y_20 := by rw [ey_20, hr_19, fX4_castTo_181]
                      refine lv_istore (lv' := [(12, .int y_20), (1, .int to), (6, .int (fX4_below fr v)), (10, .long y_17)]) hx hb dX4_castTo_200 hl (by decide) rfl (fun ls hl => ?_)
                      refine lv_iload_n hx hb dX4_castTo_202 rfl (lv_at hl 1 rfl) ?_
                      refine lv_iconst (v := (1:Int32)) hx hb dX4_castTo_203 (by decide) ?_
                      refine bi_le (tgt := 220) hx hb dX4_castTo_204 (by decide) (fun c_23 => ?_) (fun c_23 => ?_)
                      · refine lv_iload_n hx hb dX4_castTo_207 rfl (lv_at hl 1 rfl) ?_
                        refine lv_iload hx hb dX4_castTo_208 (lv_at hl 2 rfl) ?_
                        refine lv_lload hx hb dX4_castTo_210 (lv_at hl 3 rfl) ?_
                        refine lv_iload hx hb dX4_castTo_212 (lv_at hl 0 rfl) ?_
                        refine cs_l (As := [.int to, .int (fX4_below fr v), .long y_17, .int y_20]) (rest := []) ⟨hx, hb, hml, hown, hts⟩ (kX4_near l G to (fX4_below fr v) y_17 y_20) (va_cwS 4 hts gX4_castTo_X4_near rfl rfl rfl (by decide +kernel) ⟨Nat.le_of_ble_eq_true rfl, Nat.le_of_ble_eq_true rfl⟩) hE hK hP hD hS hA hl.1 [] rfl rfl rfl rfl rfl rfl (Nat.le_of_ble_eq_true rfl) dX4_castTo_214 ⟨Nat.zero_le _, Nat.zero_le _⟩ (fun H locs hP hD hS => ?_)
                        have hP : va_P G.1 vwCl [] H := hP
                        have hD : va_D A [] := hD
                        refine lv_goto (tgt := 230) hx hb dX4_castTo_217 (by decide) ?_
                        exact rt_l hx hb hr hlocks hP hD hS dX4_castTo_230 (by rw [hr_22, fX4_castTo_200, if_pos c_23])
                      · refine lv_iload_n hx hb dX4_castTo_220 rfl (lv_at hl 1 rfl) ?_
                        refine lv_iload hx hb dX4_castTo_221 (lv_at hl 2 rfl) ?_
                        refine lv_lload hx hb dX4_castTo_223 (lv_at hl 3 rfl) ?_
                        refine lv_iload hx hb dX4_castTo_225 (lv_at hl 0 rfl) ?_
                        refine cs_l (As := [.int to, .int (fX4_below fr v), .long y_17, .int y_20]) (rest := []) ⟨hx, hb, hml, hown, hts⟩ (kX4_held l G to (fX4_below fr v) y_17 y_20) (va_cwS 4 hts gX4_castTo_X4_held rfl rfl rfl (by decide +kernel) ⟨Nat.le_of_ble_eq_true rfl, Nat.le_of_ble_eq_true rfl⟩) hE hK hP hD hS hA hl.1 [] rfl rfl rfl rfl rfl rfl (Nat.le_of_ble_eq_true rfl) dX4_castTo_227 ⟨Nat.zero_le _, Nat.zero_le _⟩ (fun H locs hP hD hS => ?_)
                        have hP : va_P G.1 vwCl [] H := hP
                        have hD : va_D A [] := hD
                        exact rt_l hx hb hr hlocks hP hD hS dX4_castTo_230 (by rw [hr_22, fX4_castTo_200, if_neg c_23])
                    · intro kj_20
                      refine bz_ne (tgt := 193) hx hb dX4_castTo_185 (by decide) (fun c_21 => ?_) (fun c_21 => ?_)
                      · refine lv_iload hx hb dX4_castTo_188 (lv_at hl 3 rfl) ?_
                        refine lv_goto (tgt := 200) hx hb dX4_castTo_190 (by decide) ?_
                        exact kj_20 y_11 (by rw [if_pos c_21]) _ _ _ hP hD hS (lv_sub hl [1, 2, 0] rfl)
                      · refine lv_iload hx hb dX4_castTo_193 (lv_at hl 3 rfl) ?_
                        refine lv_iload hx hb dX4_castTo_195 (lv_at hl 4 rfl) ?_
                        refine lv_iadd hx hb dX4_castTo_197 ?_
                        refine lv_iconst (v := (1:Int32)) hx hb dX4_castTo_198 (by decide) ?_
                        refine lv_isub hx hb dX4_castTo_199 ?_
                        exact kj_20 ((y_11 + (shR (fX4_size fr v) (fX4_fractionBits fr)).toInt32) - (1:Int32)) (by rw [if_neg c_21]) _ _ _ hP hD hS (lv_sub hl [1, 2, 0] rfl)
                  · intro kj_17
                    refine bz_ne (tgt := 167) hx hb dX4_castTo_159 (by decide) (fun c_18 => ?_) (fun c_18 => ?_)
                    · refine lv_lload hx hb dX4_castTo_162 (lv_at hl 4 rfl) ?_
                      refine lv_goto (tgt := 181) hx hb dX4_castTo_164 (by decide) ?_
                      exact kj_17 (fX4_size fr v) (by rw [if_pos c_18]) _ _ _ hP hD hS (lv_sub hl [3, 5, 1, 0] rfl)
                    · refine lv_lload hx hb dX4_castTo_167 (lv_at hl 4 rfl) ?_
                      refine lv_iload hx hb dX4_castTo_169 (lv_at hl 0 rfl) ?_
                      refine r_i2l hx hb dX4_castTo_171 ?_
                      refine lv_iload hx hb dX4_castTo_172 (lv_at hl 6 rfl) ?_
                      refine r_lshl hx hb dX4_castTo_174 ?_
                      refine lv_lsub hx hb dX4_castTo_175 ?_
                      refine lv_lconst (v := (1:Int64)) hx hb dX4_castTo_176 (by decide) ?_
                      refine lv_iload hx hb dX4_castTo_177 (lv_at hl 6 rfl) ?_
                      refine r_lshl hx hb dX4_castTo_179 ?_
                      refine lv_ladd hx hb dX4_castTo_180 ?_
                      exact kj_17 (((fX4_size fr v) - (shL (((shR (fX4_size fr v) (fX4_fractionBits fr)).toInt32).toInt64) (fX4_fractionBits fr))) + (shL (1:Int64) (fX4_fractionBits fr))) (by rw [if_neg c_18]) _ _ _ hP hD hS (lv_sub hl [3, 5, 1, 0] rfl)
              · intro kj_11
                refine bi_ne (tgt := 94) hx hb dX4_castTo_85 (by decide) (fun c_12 => ?_) (fun c_12 => ?_)
                · refine lv_sipush (v := (-149:Int32)) hx hb dX4_castTo_88 (by decide) ?_
                  refine lv_goto (tgt := 97) hx hb dX4_castTo_91 (by decide) ?_
                  exact kj_11 (-149:Int32) (by rw [if_pos c_12]) _ _ _ hP hD hS (lv_sub hl [3, 4, 2, 1, 0] rfl)
                · refine lv_sipush (v := (-1074:Int32)) hx hb dX4_castTo_94 (by decide) ?_
                  exact kj_11 (-1074:Int32) (by rw [if_neg c_12]) _ _ _ hP hD hS (lv_sub hl [3, 4, 2, 1, 0] rfl)
        · refine lv_iload_n hx hb dX4_castTo_29 rfl (lv_at hl 0 rfl) ?_
          refine lv_iconst (v := (2:Int32)) hx hb dX4_castTo_30 (by decide) ?_
          refine bi_ge (tgt := 63) hx hb dX4_castTo_31 (by decide) (fun c_24 => ?_) (fun c_24 => ?_)
          · refine lv_iload_n hx hb dX4_castTo_34 rfl (lv_at hl 1 rfl) ?_
            refine lv_lload_n hx hb dX4_castTo_35 rfl (lv_at hl 2 rfl) ?_
            refine lv_lconst (v := (0:Int64)) hx hb dX4_castTo_36 (by decide) ?_
            refine jn_1 (T := Int32) G A (if v < (0:Int64) then (1:Int32) else (0:Int32)) [] 13 (fun y => [(2, .long v)]) (fun y => [.int y, .int to]) 46 ?_ ?_
            · intro y_25 ey_25 H locs ls hP hD hS hl
              have hr_27 : fX4_castTo fr to v = fX4_castTo_46 to v y_25 := by rw [ey_25, fX4_castTo, if_neg c_1, if_pos c_2, if_neg c_3, if_neg c_4, if_pos c_24]
              refine lv_lload_n hx hb dX4_castTo_46 rfl (lv_at hl 0 rfl) ?_
              refine lv_lconst (v := (0:Int64)) hx hb dX4_castTo_47 (by decide) ?_
              refine bl_ge (tgt := 57) hx hb dX4_castTo_48 dX4_castTo_49 (by decide) (fun c_28 => ?_) (fun c_28 => ?_)
              · refine lv_lload_n hx hb dX4_castTo_52 rfl (lv_at hl 0 rfl) ?_
                refine lv_lneg hx hb dX4_castTo_53 ?_
                refine lv_goto (tgt := 58) hx hb dX4_castTo_54 (by decide) ?_
                refine lv_iconst (v := (0:Int32)) hx hb dX4_castTo_58 (by decide) ?_
                refine cs_l (As := [.int to, .int y_25, .long (-v), .int (0:Int32)]) (rest := []) ⟨hx, hb, hml, hown, hts⟩ (kX4_near l G to y_25 (-v) (0:Int32)) (va_cwS 4 hts gX4_castTo_X4_near rfl rfl rfl (by decide +kernel) ⟨Nat.le_of_ble_eq_true rfl, Nat.le_of_ble_eq_true rfl⟩) hE hK hP hD hS hA hl.1 [] rfl rfl rfl rfl rfl rfl (Nat.le_of_ble_eq_true rfl) dX4_castTo_59 ⟨Nat.zero_le _, Nat.zero_le _⟩ (fun H locs hP hD hS => ?_)
                have hP : va_P G.1 vwCl [] H := hP
                have hD : va_D A [] := hD
                exact rt_l hx hb hr hlocks hP hD hS dX4_castTo_62 (by rw [hr_27, fX4_castTo_46, if_pos c_28])
              · refine lv_lload_n hx hb dX4_castTo_57 rfl (lv_at hl 0 rfl) ?_
                refine lv_iconst (v := (0:Int32)) hx hb dX4_castTo_58 (by decide) ?_
                refine cs_l (As := [.int to, .int y_25, .long v, .int (0:Int32)]) (rest := []) ⟨hx, hb, hml, hown, hts⟩ (kX4_near l G to y_25 v (0:Int32)) (va_cwS 4 hts gX4_castTo_X4_near rfl rfl rfl (by decide +kernel) ⟨Nat.le_of_ble_eq_true rfl, Nat.le_of_ble_eq_true rfl⟩) hE hK hP hD hS hA hl.1 [] rfl rfl rfl rfl rfl rfl (Nat.le_of_ble_eq_true rfl) dX4_castTo_59 ⟨Nat.zero_le _, Nat.zero_le _⟩ (fun H locs hP hD hS => ?_)
                have hP : va_P G.1 vwCl [] H := hP
                have hD : va_D A [] := hD
                exact rt_l hx hb hr hlocks hP hD hS dX4_castTo_62 (by rw [hr_27, fX4_castTo_46, if_neg c_28])
            · intro kj_25
              refine bl_ge (tgt := 45) hx hb dX4_castTo_37 dX4_castTo_38 (by decide) (fun c_26 => ?_) (fun c_26 => ?_)
              · refine lv_iconst (v := (1:Int32)) hx hb dX4_castTo_41 (by decide) ?_
                refine lv_goto (tgt := 46) hx hb dX4_castTo_42 (by decide) ?_
                exact kj_25 (1:Int32) (by rw [if_pos c_26]) _ _ _ hP hD hS (lv_sub hl [2] rfl)
              · refine lv_iconst (v := (0:Int32)) hx hb dX4_castTo_45 (by decide) ?_
                exact kj_25 (0:Int32) (by rw [if_neg c_26]) _ _ _ hP hD hS (lv_sub hl [2] rfl)
          · refine lv_iload_n hx hb dX4_castTo_63 rfl (lv_at hl 0 rfl) ?_
            refine lv_lload_n hx hb dX4_castTo_64 rfl (lv_at hl 2 rfl) ?_
            refine cs_l (As := [.int fr, .long v]) (rest := []) ⟨hx, hb, hml, hown, hts⟩ (kX4_size l G fr v) (va_cwS 2 hts gX4_castTo_X4_size rfl rfl rfl (by decide +kernel) ⟨Nat.le_of_ble_eq_true rfl, Nat.le_of_ble_eq_true rfl⟩) hE hK hP hD hS hA hl.1 [] rfl rfl rfl rfl rfl rfl (Nat.le_of_ble_eq_true rfl) dX4_castTo_65 ⟨Nat.zero_le _, Nat.zero_le _⟩ (fun H locs hP hD hS => ?_)
            have hP : va_P G.1 vwCl [] H := hP
            have hD : va_D A [] := hD
            refine lv_lstore (lv' := [(4, .long (fX4_size fr v)), (0, .int fr), (1, .int to), (2, .long v)]) hx hb dX4_castTo_68 hl (by decide) rfl (fun ls hl => ?_)
            refine lv_iload_n hx hb dX4_castTo_70 rfl (lv_at hl 1 rfl) ?_
            refine lv_lload_n hx hb dX4_castTo_71 rfl (lv_at hl 3 rfl) ?_
            refine cs_i (As := [.int fr, .long v]) (rest := []) ⟨hx, hb, hml, hown, hts⟩ (kX4_below l G fr v) (va_cwS 2 hts gX4_castTo_X4_below rfl rfl rfl (by decide +kernel) ⟨Nat.le_of_ble_eq_true rfl, Nat.le_of_ble_eq_true rfl⟩) hE hK hP hD hS hA hl.1 [] rfl rfl rfl rfl rfl rfl (Nat.le_of_ble_eq_true rfl) dX4_castTo_72 ⟨Nat.zero_le _, Nat.zero_le _⟩ (fun H locs hP hD hS => ?_)
            have hP : va_P G.1 vwCl [] H := hP
            have hD : va_D A [] := hD
            refine lv_istore (lv' := [(6, .int (fX4_below fr v)), (4, .long (fX4_size fr v)), (0, .int fr), (1, .int to), (2, .long v)]) hx hb dX4_castTo_75 hl (by decide) rfl (fun ls hl => ?_)
            refine lv_iload_n hx hb dX4_castTo_77 rfl (lv_at hl 2 rfl) ?_
            refine cs_i (As := [.int fr]) (rest := []) ⟨hx, hb, hml, hown, hts⟩ (kX4_fractionBits l G fr) (va_cwS 1 hts gX4_castTo_X4_fractionBits rfl rfl rfl (by decide +kernel) ⟨Nat.le_of_ble_eq_true rfl, Nat.le_of_ble_eq_true rfl⟩) hE hK hP hD hS hA hl.1 [] rfl rfl rfl rfl rfl rfl (Nat.le_of_ble_eq_true rfl) dX4_castTo_78 ⟨Nat.zero_le _, Nat.zero_le _⟩ (fun H locs hP hD hS => ?_)
            have hP : va_P G.1 vwCl [] H := hP
            have hD : va_D A [] := hD
            refine lv_istore (lv' := [(7, .int (fX4_fractionBits fr)), (6, .int (fX4_below fr v)), (4, .long (fX4_size fr v)), (0, .int fr), (1, .int to), (2, .long v)]) hx hb dX4_castTo_81 hl (by decide) rfl (fun ls hl => ?_)
            refine lv_iload_n hx hb dX4_castTo_83 rfl (lv_at hl 3 rfl) ?_
            refine lv_iconst (v := (2:Int32)) hx hb dX4_castTo_84 (by decide) ?_
            refine jn_1 (T := Int32) G A (if fr = (2:Int32) then (-149:Int32) else (-1074:Int32)) [] 13 (fun y => [(0, .int fr), (1, .int to), (4, .long (fX4_size fr v)), (6, .int (fX4_below fr v)), (7, .int (fX4_fractionBits fr))]) (fun y => [.int y]) 97 ?_ ?_
            · intro y_29 ey_29 H locs ls hP hD hS hl
              have hr_31 : fX4_castTo fr to v = fX4_castTo_97 fr to v y_29 := by rw [ey_29, fX4_castTo, if_neg c_1, if_pos c_2, if_neg c_3, if_neg c_4, if_neg c_24]
              refine lv_istore (lv' := [(8, .int y_29), (0, .int fr), (1, .int to), (4, .long (fX4_size fr v)), (6, .int (fX4_below fr v)), (7, .int (fX4_fractionBits fr))]) hx hb dX4_castTo_97 hl (by decide) rfl (fun ls hl => ?_)
              refine lv_lload hx hb dX4_castTo_99 (lv_at hl 3 rfl) ?_
              refine lv_iload hx hb dX4_castTo_101 (lv_at hl 5 rfl) ?_
              refine r_lshr hx hb dX4_castTo_103 ?_
              refine r_l2i hx hb dX4_castTo_104 ?_
              refine lv_istore (lv' := [(9, .int ((shR (fX4_size fr v) (fX4_fractionBits fr)).toInt32)), (8, .int y_29), (0, .int fr), (1, .int to), (4, .long (fX4_size fr v)), (6, .int (fX4_below fr v)), (7, .int (fX4_fractionBits fr))]) hx hb dX4_castTo_105 hl (by decide) rfl (fun ls hl => ?_)
              refine lv_lload hx hb dX4_castTo_107 (lv_at hl 4 rfl) ?_
              refine lv_iload_n hx hb dX4_castTo_109 rfl (lv_at hl 2 rfl) ?_
              refine cs_l (As := [.int fr]) (rest := [.long (fX4_size fr v)]) ⟨hx, hb, hml, hown, hts⟩ (kX4_endless l G fr) (va_cwS 1 hts gX4_castTo_X4_endless rfl rfl rfl (by decide +kernel) ⟨Nat.le_of_ble_eq_true rfl, Nat.le_of_ble_eq_true rfl⟩) hE hK hP hD hS hA hl.1 [] rfl rfl rfl rfl rfl rfl (Nat.le_of_ble_eq_true rfl) dX4_castTo_110 ⟨Nat.zero_le _, Nat.zero_le _⟩ (fun H locs hP hD hS => ?_)
              have hP : va_P G.1 vwCl [] H := hP
              have hD : va_D A [] := hD
              refine bl_ne (tgt := 157) hx hb dX4_castTo_113 dX4_castTo_114 (by decide) (fun c_32 => ?_) (fun c_32 => ?_)
              · refine lv_iload_n hx hb dX4_castTo_117 rfl (lv_at hl 3 rfl) ?_
                refine lv_iconst (v := (1:Int32)) hx hb dX4_castTo_118 (by decide) ?_
                refine bi_le (tgt := 147) hx hb dX4_castTo_119 (by decide) (fun c_33 => ?_) (fun c_33 => ?_)
                · refine lv_iload_n hx hb dX4_castTo_122 rfl (lv_at hl 3 rfl) ?_
                  refine lv_iload_n hx hb dX4_castTo_123 rfl (lv_at hl 3 rfl) ?_
                  refine cs_l (As := [.int to]) (rest := [.int to]) ⟨hx, hb, hml, hown, hts⟩ (kX4_endless l G to) (va_cwS 1 hts gX4_castTo_X4_endless rfl rfl rfl (by decide +kernel) ⟨Nat.le_of_ble_eq_true rfl, Nat.le_of_ble_eq_true rfl⟩) hE hK hP hD hS hA hl.1 [] rfl rfl rfl rfl rfl rfl (Nat.le_of_ble_eq_true rfl) dX4_castTo_124 ⟨Nat.zero_le _, Nat.zero_le _⟩ (fun H locs hP hD hS => ?_)
                  have hP : va_P G.1 vwCl [] H := hP
                  have hD : va_D A [] := hD
                  refine lv_iload hx hb dX4_castTo_127 (lv_at hl 5 rfl) ?_
                  refine bz_eq (tgt := 139) hx hb dX4_castTo_129 (by decide) (fun c_34 => ?_) (fun c_34 => ?_)
                  · refine lv_lconst (v := (0:Int64)) hx hb dX4_castTo_139 (by decide) ?_
                    refine lv_lor hx hb dX4_castTo_140 ?_
                    refine cs_l (As := [.int to, .long ((fX4_endless to) ||| (0:Int64))]) (rest := []) ⟨hx, hb, hml, hown, hts⟩ (kX4_asCode l G to ((fX4_endless to) ||| (0:Int64))) (va_cwS 2 hts gX4_castTo_X4_asCode rfl rfl rfl (by decide +kernel) ⟨Nat.le_of_ble_eq_true rfl, Nat.le_of_ble_eq_true rfl⟩) hE hK hP hD hS hA hl.1 [] rfl rfl rfl rfl rfl rfl (Nat.le_of_ble_eq_true rfl) dX4_castTo_141 ⟨Nat.zero_le _, Nat.zero_le _⟩ (fun H locs hP hD hS => ?_)
                    have hP : va_P G.1 vwCl [] H := hP
                    have hD : va_D A [] := hD
                    refine lv_goto (tgt := 156) hx hb dX4_castTo_144 (by decide) ?_
                    exact rt_l hx hb hr hlocks hP hD hS dX4_castTo_156 (by rw [hr_31, fX4_castTo_97, if_pos c_32, if_pos c_33, if_pos c_34])
                  · refine lv_iload_n hx hb dX4_castTo_132 rfl (lv_at hl 3 rfl) ?_
                    refine cs_l (As := [.int to]) (rest := [.long (fX4_endless to), .int to]) ⟨hx, hb, hml, hown, hts⟩ (kX4_signBit l G to) (va_cwS 1 hts gX4_castTo_X4_signBit rfl rfl rfl (by decide +kernel) ⟨Nat.le_of_ble_eq_true rfl, Nat.le_of_ble_eq_true rfl⟩) hE hK hP hD hS hA hl.1 [] rfl rfl rfl rfl rfl rfl (Nat.le_of_ble_eq_true rfl) dX4_castTo_133 ⟨Nat.zero_le _, Nat.zero_le _⟩ (fun H locs hP hD hS => ?_)
                    have hP : va_P G.1 vwCl [] H := hP
                    have hD : va_D A [] := hD
                    refine lv_goto (tgt := 140) hx hb dX4_castTo_136 (by decide) ?_
                    refine lv_lor hx hb dX4_castTo_140 ?_
                    refine cs_l (As := [.int to, .long ((fX4_endless to) ||| (fX4_signBit to))]) (rest := []) ⟨hx, hb, hml, hown, hts⟩ (kX4_asCode l G to ((fX4_endless to) ||| (fX4_signBit to))) (va_cwS 2 hts gX4_castTo_X4_asCode rfl rfl rfl (by decide +kernel) ⟨Nat.le_of_ble_eq_true rfl, Nat.le_of_ble_eq_true rfl⟩) hE hK hP hD hS hA hl.1 [] rfl rfl rfl rfl rfl rfl (Nat.le_of_ble_eq_true rfl) dX4_castTo_141 ⟨Nat.zero_le _, Nat.zero_le _⟩ (fun H locs hP hD hS => ?_)
                    have hP : va_P G.1 vwCl [] H := hP
                    have hD : va_D A [] := hD
                    refine lv_goto (tgt := 156) hx hb dX4_castTo_144 (by decide) ?_
                    exact rt_l hx hb hr hlocks hP hD hS dX4_castTo_156 (by rw [hr_31, fX4_castTo_97, if_pos c_32, if_pos c_33, if_neg c_34])
                · refine lv_iload_n hx hb dX4_castTo_147 rfl (lv_at hl 3 rfl) ?_
                  refine lv_iload hx hb dX4_castTo_148 (lv_at hl 5 rfl) ?_
                  refine lv_lconst (v := (1:Int64)) hx hb dX4_castTo_150 (by decide) ?_
                  refine lv_bipush (v := (100:Int32)) hx hb dX4_castTo_151 (by decide) ?_
                  refine cs_l (As := [.int to, .int (fX4_below fr v), .long (1:Int64), .int (100:Int32)]) (rest := []) ⟨hx, hb, hml, hown, hts⟩ (kX4_held l G to (fX4_below fr v) (1:Int64) (100:Int32)) (va_cwS 4 hts gX4_castTo_X4_held rfl rfl rfl (by decide +kernel) ⟨Nat.le_of_ble_eq_true rfl, Nat.le_of_ble_eq_true rfl⟩) hE hK hP hD hS hA hl.1 [] rfl rfl rfl rfl rfl rfl (Nat.le_of_ble_eq_true rfl) dX4_castTo_153 ⟨Nat.zero_le _, Nat.zero_le _⟩ (fun H locs hP hD hS => ?_)
                  have hP : va_P G.1 vwCl [] H := hP
                  have hD : va_D A [] := hD
                  exact rt_l hx hb hr hlocks hP hD hS dX4_castTo_156 (by rw [hr_31, fX4_castTo_97, if_pos c_32, if_neg c_33])
              · refine lv_iload hx hb dX4_castTo_157 (lv_at hl 0 rfl) ?_
                refine jn_1 (T := Int64) G A (if (shR (fX4_size fr v) (fX4_fractionBits fr)).toInt32 = 0 then (fX4_size fr v) else (((fX4_size fr v) - (shL (((shR (fX4_size fr v) (fX4_fractionBits fr)).toInt32).toInt64) (fX4_fractionBits fr))) + (shL (1:Int64) (fX4_fractionBits fr)))) [] 13 (fun y => [(1, .int to), (6, .int (fX4_below fr v)), (8, .int y_29), (9, .int ((shR (fX4_size fr v) (fX4_fractionBits fr)).toInt32))]) (fun y => [.long y]) 181 ?_ ?_
                · intro y_35 ey_35 H locs ls hP hD hS hl
                  have hr_37 : fX4_castTo fr to v = fX4_castTo_181 fr to v y_29 y_35 := by rw [ey_35, hr_31, fX4_castTo_97, if_neg c_32]
                  refine lv_lstore (lv' := [(10, .long y_35), (1, .int to), (6, .int (fX4_below fr v)), (8, .int y_29), (9, .int ((shR (fX4_size fr v) (fX4_fractionBits fr)).toInt32))]) hx hb dX4_castTo_181 hl (by decide) rfl (fun ls hl => ?_)
                  refine lv_iload hx hb dX4_castTo_183 (lv_at hl 4 rfl) ?_
                  refine jn_1 (T := Int32) G A (if (shR (fX4_size fr v) (fX4_fractionBits fr)).toInt32 = 0 then y_29 else ((y_29 + (shR (fX4_size fr v) (fX4_fractionBits fr)).toInt32) - (1:Int32))) [] 13 (fun y => [(1, .int to), (6, .int (fX4_below fr v)), (10, .long y_35)]) (fun y => [.int y]) 200 ?_ ?_
                  · intro y_38 ey_38 H locs ls hP hD hS hl
                    have hr_40 : fX4_castTo fr to v = fX4_castTo_200 fr to v y_35 y_38 := by rw [ey_38, hr_37, fX4_castTo_181]
                    refine lv_istore (lv' := [(12, .int y_38), (1, .int to), (6, .int (fX4_below fr v)), (10, .long y_35)]) hx hb dX4_castTo_200 hl (by decide) rfl (fun ls hl => ?_)
                    refine lv_iload_n hx hb dX4_castTo_202 rfl (lv_at hl 1 rfl) ?_
                    refine lv_iconst (v := (1:Int32)) hx hb dX4_castTo_203 (by decide) ?_
                    refine bi_le (tgt := 220) hx hb dX4_castTo_204 (by decide) (fun c_41 => ?_) (fun c_41 => ?_)
                    · refine lv_iload_n hx hb dX4_castTo_207 rfl (lv_at hl 1 rfl) ?_
                      refine lv_iload hx hb dX4_castTo_208 (lv_at hl 2 rfl) ?_
                      refine lv_lload hx hb dX4_castTo_210 (lv_at hl 3 rfl) ?_
                      refine lv_iload hx hb dX4_castTo_212 (lv_at hl 0 rfl) ?_
                      refine cs_l (As := [.int to, .int (fX4_below fr v), .long y_35, .int y_38]) (rest := []) ⟨hx, hb, hml, hown, hts⟩ (kX4_near l G to (fX4_below fr v) y_35 y_38) (va_cwS 4 hts gX4_castTo_X4_near rfl rfl rfl (by decide +kernel) ⟨Nat.le_of_ble_eq_true rfl, Nat.le_of_ble_eq_true rfl⟩) hE hK hP hD hS hA hl.1 [] rfl rfl rfl rfl rfl rfl (Nat.le_of_ble_eq_true rfl) dX4_castTo_214 ⟨Nat.zero_le _, Nat.zero_le _⟩ (fun H locs hP hD hS => ?_)
                      have hP : va_P G.1 vwCl [] H := hP
                      have hD : va_D A [] := hD
                      refine lv_goto (tgt := 230) hx hb dX4_castTo_217 (by decide) ?_
                      exact rt_l hx hb hr hlocks hP hD hS dX4_castTo_230 (by rw [hr_40, fX4_castTo_200, if_pos c_41])
                    · refine lv_iload_n hx hb dX4_castTo_220 rfl (lv_at hl 1 rfl) ?_
                      refine lv_iload hx hb dX4_castTo_221 (lv_at hl 2 rfl) ?_
                      refine lv_lload hx hb dX4_castTo_223 (lv_at hl 3 rfl) ?_
                      refine lv_iload hx hb dX4_castTo_225 (lv_at hl 0 rfl) ?_
                      refine cs_l (As := [.int to, .int (fX4_below fr v), .long y_35, .int y_38]) (rest := []) ⟨hx, hb, hml, hown, hts⟩ (kX4_held l G to (fX4_below fr v) y_35 y_38) (va_cwS 4 hts gX4_castTo_X4_held rfl rfl rfl (by decide +kernel) ⟨Nat.le_of_ble_eq_true rfl, Nat.le_of_ble_eq_true rfl⟩) hE hK hP hD hS hA hl.1 [] rfl rfl rfl rfl rfl rfl (Nat.le_of_ble_eq_true rfl) dX4_castTo_227 ⟨Nat.zero_le _, Nat.zero_le _⟩ (fun H locs hP hD hS => ?_)
                      have hP : va_P G.1 vwCl [] H := hP
                      have hD : va_D A [] := hD
                      exact rt_l hx hb hr hlocks hP hD hS dX4_castTo_230 (by rw [hr_40, fX4_castTo_200, if_neg c_41])
                  · intro kj_38
                    refine bz_ne (tgt := 193) hx hb dX4_castTo_185 (by decide) (fun c_39 => ?_) (fun c_39 => ?_)
                    · refine lv_iload hx hb dX4_castTo_188 (lv_at hl 3 rfl) ?_
                      refine lv_goto (tgt := 200) hx hb dX4_castTo_190 (by decide) ?_
                      exact kj_38 y_29 (by rw [if_pos c_39]) _ _ _ hP hD hS (lv_sub hl [1, 2, 0] rfl)
                    · refine lv_iload hx hb dX4_castTo_193 (lv_at hl 3 rfl) ?_
                      refine lv_iload hx hb dX4_castTo_195 (lv_at hl 4 rfl) ?_
                      refine lv_iadd hx hb dX4_castTo_197 ?_
                      refine lv_iconst (v := (1:Int32)) hx hb dX4_castTo_198 (by decide) ?_
                      refine lv_isub hx hb dX4_castTo_199 ?_
                      exact kj_38 ((y_29 + (shR (fX4_size fr v) (fX4_fractionBits fr)).toInt32) - (1:Int32)) (by rw [if_neg c_39]) _ _ _ hP hD hS (lv_sub hl [1, 2, 0] rfl)
                · intro kj_35
                  refine bz_ne (tgt := 167) hx hb dX4_castTo_159 (by decide) (fun c_36 => ?_) (fun c_36 => ?_)
                  · refine lv_lload hx hb dX4_castTo_162 (lv_at hl 4 rfl) ?_
                    refine lv_goto (tgt := 181) hx hb dX4_castTo_164 (by decide) ?_
                    exact kj_35 (fX4_size fr v) (by rw [if_pos c_36]) _ _ _ hP hD hS (lv_sub hl [3, 5, 1, 0] rfl)
                  · refine lv_lload hx hb dX4_castTo_167 (lv_at hl 4 rfl) ?_
                    refine lv_iload hx hb dX4_castTo_169 (lv_at hl 0 rfl) ?_
                    refine r_i2l hx hb dX4_castTo_171 ?_
                    refine lv_iload hx hb dX4_castTo_172 (lv_at hl 6 rfl) ?_
                    refine r_lshl hx hb dX4_castTo_174 ?_
                    refine lv_lsub hx hb dX4_castTo_175 ?_
                    refine lv_lconst (v := (1:Int64)) hx hb dX4_castTo_176 (by decide) ?_
                    refine lv_iload hx hb dX4_castTo_177 (lv_at hl 6 rfl) ?_
                    refine r_lshl hx hb dX4_castTo_179 ?_
                    refine lv_ladd hx hb dX4_castTo_180 ?_
                    exact kj_35 (((fX4_size fr v) - (shL (((shR (fX4_size fr v) (fX4_fractionBits fr)).toInt32).toInt64) (fX4_fractionBits fr))) + (shL (1:Int64) (fX4_fractionBits fr))) (by rw [if_neg c_36]) _ _ _ hP hD hS (lv_sub hl [3, 5, 1, 0] rfl)
            · intro kj_29
              refine bi_ne (tgt := 94) hx hb dX4_castTo_85 (by decide) (fun c_30 => ?_) (fun c_30 => ?_)
              · refine lv_sipush (v := (-149:Int32)) hx hb dX4_castTo_88 (by decide) ?_
                refine lv_goto (tgt := 97) hx hb dX4_castTo_91 (by decide) ?_
                exact kj_29 (-149:Int32) (by rw [if_pos c_30]) _ _ _ hP hD hS (lv_sub hl [3, 4, 2, 1, 0] rfl)
              · refine lv_sipush (v := (-1074:Int32)) hx hb dX4_castTo_94 (by decide) ?_
                exact kj_29 (-1074:Int32) (by rw [if_neg c_30]) _ _ _ hP hD hS (lv_sub hl [3, 4, 2, 1, 0] rfl)
    · refine lv_iload_n hx hb dX4_castTo_16 rfl (lv_at hl 0 rfl) ?_
      refine lv_iconst (v := (2:Int32)) hx hb dX4_castTo_17 (by decide) ?_
      refine bi_ge (tgt := 29) hx hb dX4_castTo_18 (by decide) (fun c_42 => ?_) (fun c_42 => ?_)
      · refine lv_iload_n hx hb dX4_castTo_21 rfl (lv_at hl 1 rfl) ?_
        refine bz_ne (tgt := 29) hx hb dX4_castTo_22 (by decide) (fun c_43 => ?_) (fun c_43 => ?_)
        · refine lv_lload_n hx hb dX4_castTo_25 rfl (lv_at hl 2 rfl) ?_
          refine r_l2i hx hb dX4_castTo_26 ?_
          refine r_i2l hx hb dX4_castTo_27 ?_
          exact rt_l hx hb hr hlocks hP hD hS dX4_castTo_28 (by rw [fX4_castTo, if_neg c_1, if_neg c_2, if_pos c_42, if_pos c_43])
        · refine lv_iload_n hx hb dX4_castTo_29 rfl (lv_at hl 0 rfl) ?_
          refine lv_iconst (v := (2:Int32)) hx hb dX4_castTo_30 (by decide) ?_
          refine bi_ge (tgt := 63) hx hb dX4_castTo_31 (by decide) (fun c_44 => ?_) (fun c_44 => ?_)
          · refine lv_iload_n hx hb dX4_castTo_34 rfl (lv_at hl 1 rfl) ?_
            refine lv_lload_n hx hb dX4_castTo_35 rfl (lv_at hl 2 rfl) ?_
            refine lv_lconst (v := (0:Int64)) hx hb dX4_castTo_36 (by decide) ?_
            refine jn_1 (T := Int32) G A (if v < (0:Int64) then (1:Int32) else (0:Int32)) [] 13 (fun y => [(2, .long v)]) (fun y => [.int y, .int to]) 46 ?_ ?_
            · intro y_45 ey_45 H locs ls hP hD hS hl
              have hr_47 : fX4_castTo fr to v = fX4_castTo_46 to v y_45 := by rw [ey_45, fX4_castTo, if_neg c_1, if_neg c_2, if_pos c_42, if_neg c_43, if_pos c_44]
              refine lv_lload_n hx hb dX4_castTo_46 rfl (lv_at hl 0 rfl) ?_
              refine lv_lconst (v := (0:Int64)) hx hb dX4_castTo_47 (by decide) ?_
              refine bl_ge (tgt := 57) hx hb dX4_castTo_48 dX4_castTo_49 (by decide) (fun c_48 => ?_) (fun c_48 => ?_)
              · refine lv_lload_n hx hb dX4_castTo_52 rfl (lv_at hl 0 rfl) ?_
                refine lv_lneg hx hb dX4_castTo_53 ?_
                refine lv_goto (tgt := 58) hx hb dX4_castTo_54 (by decide) ?_
                refine lv_iconst (v := (0:Int32)) hx hb dX4_castTo_58 (by decide) ?_
                refine cs_l (As := [.int to, .int y_45, .long (-v), .int (0:Int32)]) (rest := []) ⟨hx, hb, hml, hown, hts⟩ (kX4_near l G to y_45 (-v) (0:Int32)) (va_cwS 4 hts gX4_castTo_X4_near rfl rfl rfl (by decide +kernel) ⟨Nat.le_of_ble_eq_true rfl, Nat.le_of_ble_eq_true rfl⟩) hE hK hP hD hS hA hl.1 [] rfl rfl rfl rfl rfl rfl (Nat.le_of_ble_eq_true rfl) dX4_castTo_59 ⟨Nat.zero_le _, Nat.zero_le _⟩ (fun H locs hP hD hS => ?_)
                have hP : va_P G.1 vwCl [] H := hP
                have hD : va_D A [] := hD
                exact rt_l hx hb hr hlocks hP hD hS dX4_castTo_62 (by rw [hr_47, fX4_castTo_46, if_pos c_48])
              · refine lv_lload_n hx hb dX4_castTo_57 rfl (lv_at hl 0 rfl) ?_
                refine lv_iconst (v := (0:Int32)) hx hb dX4_castTo_58 (by decide) ?_
                refine cs_l (As := [.int to, .int y_45, .long v, .int (0:Int32)]) (rest := []) ⟨hx, hb, hml, hown, hts⟩ (kX4_near l G to y_45 v (0:Int32)) (va_cwS 4 hts gX4_castTo_X4_near rfl rfl rfl (by decide +kernel) ⟨Nat.le_of_ble_eq_true rfl, Nat.le_of_ble_eq_true rfl⟩) hE hK hP hD hS hA hl.1 [] rfl rfl rfl rfl rfl rfl (Nat.le_of_ble_eq_true rfl) dX4_castTo_59 ⟨Nat.zero_le _, Nat.zero_le _⟩ (fun H locs hP hD hS => ?_)
                have hP : va_P G.1 vwCl [] H := hP
                have hD : va_D A [] := hD
                exact rt_l hx hb hr hlocks hP hD hS dX4_castTo_62 (by rw [hr_47, fX4_castTo_46, if_neg c_48])
            · intro kj_45
              refine bl_ge (tgt := 45) hx hb dX4_castTo_37 dX4_castTo_38 (by decide) (fun c_46 => ?_) (fun c_46 => ?_)
              · refine lv_iconst (v := (1:Int32)) hx hb dX4_castTo_41 (by decide) ?_
                refine lv_goto (tgt := 46) hx hb dX4_castTo_42 (by decide) ?_
                exact kj_45 (1:Int32) (by rw [if_pos c_46]) _ _ _ hP hD hS (lv_sub hl [2] rfl)
              · refine lv_iconst (v := (0:Int32)) hx hb dX4_castTo_45 (by decide) ?_
                exact kj_45 (0:Int32) (by rw [if_neg c_46]) _ _ _ hP hD hS (lv_sub hl [2] rfl)
          · refine lv_iload_n hx hb dX4_castTo_63 rfl (lv_at hl 0 rfl) ?_
            refine lv_lload_n hx hb dX4_castTo_64 rfl (lv_at hl 2 rfl) ?_
            refine cs_l (As := [.int fr, .long v]) (rest := []) ⟨hx, hb, hml, hown, hts⟩ (kX4_size l G fr v) (va_cwS 2 hts gX4_castTo_X4_size rfl rfl rfl (by decide +kernel) ⟨Nat.le_of_ble_eq_true rfl, Nat.le_of_ble_eq_true rfl⟩) hE hK hP hD hS hA hl.1 [] rfl rfl rfl rfl rfl rfl (Nat.le_of_ble_eq_true rfl) dX4_castTo_65 ⟨Nat.zero_le _, Nat.zero_le _⟩ (fun H locs hP hD hS => ?_)
            have hP : va_P G.1 vwCl [] H := hP
            have hD : va_D A [] := hD
            refine lv_lstore (lv' := [(4, .long (fX4_size fr v)), (0, .int fr), (1, .int to), (2, .long v)]) hx hb dX4_castTo_68 hl (by decide) rfl (fun ls hl => ?_)
            refine lv_iload_n hx hb dX4_castTo_70 rfl (lv_at hl 1 rfl) ?_
            refine lv_lload_n hx hb dX4_castTo_71 rfl (lv_at hl 3 rfl) ?_
            refine cs_i (As := [.int fr, .long v]) (rest := []) ⟨hx, hb, hml, hown, hts⟩ (kX4_below l G fr v) (va_cwS 2 hts gX4_castTo_X4_below rfl rfl rfl (by decide +kernel) ⟨Nat.le_of_ble_eq_true rfl, Nat.le_of_ble_eq_true rfl⟩) hE hK hP hD hS hA hl.1 [] rfl rfl rfl rfl rfl rfl (Nat.le_of_ble_eq_true rfl) dX4_castTo_72 ⟨Nat.zero_le _, Nat.zero_le _⟩ (fun H locs hP hD hS => ?_)
            have hP : va_P G.1 vwCl [] H := hP
            have hD : va_D A [] := hD
            refine lv_istore (lv' := [(6, .int (fX4_below fr v)), (4, .long (fX4_size fr v)), (0, .int fr), (1, .int to), (2, .long v)]) hx hb dX4_castTo_75 hl (by decide) rfl (fun ls hl => ?_)
            refine lv_iload_n hx hb dX4_castTo_77 rfl (lv_at hl 2 rfl) ?_
            refine cs_i (As := [.int fr]) (rest := []) ⟨hx, hb, hml, hown, hts⟩ (kX4_fractionBits l G fr) (va_cwS 1 hts gX4_castTo_X4_fractionBits rfl rfl rfl (by decide +kernel) ⟨Nat.le_of_ble_eq_true rfl, Nat.le_of_ble_eq_true rfl⟩) hE hK hP hD hS hA hl.1 [] rfl rfl rfl rfl rfl rfl (Nat.le_of_ble_eq_true rfl) dX4_castTo_78 ⟨Nat.zero_le _, Nat.zero_le _⟩ (fun H locs hP hD hS => ?_)
            have hP : va_P G.1 vwCl [] H := hP
            have hD : va_D A [] := hD
            refine lv_istore (lv' := [(7, .int (fX4_fractionBits fr)), (6, .int (fX4_below fr v)), (4, .long (fX4_size fr v)), (0, .int fr), (1, .int to), (2, .long v)]) hx hb dX4_castTo_81 hl (by decide) rfl (fun ls hl => ?_)
            refine lv_iload_n hx hb dX4_castTo_83 rfl (lv_at hl 3 rfl) ?_
            refine lv_iconst (v := (2:Int32)) hx hb dX4_castTo_84 (by decide) ?_
            refine jn_1 (T := Int32) G A (if fr = (2:Int32) then (-149:Int32) else (-1074:Int32)) [] 13 (fun y => [(0, .int fr), (1, .int to), (4, .long (fX4_size fr v)), (6, .int (fX4_below fr v)), (7, .int (fX4_fractionBits fr))]) (fun y => [.int y]) 97 ?_ ?_
            · intro y_49 ey_49 H locs ls hP hD hS hl
              have hr_51 : fX4_castTo fr to v = fX4_castTo_97 fr to v y_49 := by rw [ey_49, fX4_castTo, if_neg c_1, if_neg c_2, if_pos c_42, if_neg c_43, if_neg c_44]
              refine lv_istore (lv' := [(8, .int y_49), (0, .int fr), (1, .int to), (4, .long (fX4_size fr v)), (6, .int (fX4_below fr v)), (7, .int (fX4_fractionBits fr))]) hx hb dX4_castTo_97 hl (by decide) rfl (fun ls hl => ?_)
              refine lv_lload hx hb dX4_castTo_99 (lv_at hl 3 rfl) ?_
              refine lv_iload hx hb dX4_castTo_101 (lv_at hl 5 rfl) ?_
              refine r_lshr hx hb dX4_castTo_103 ?_
              refine r_l2i hx hb dX4_castTo_104 ?_
              refine lv_istore (lv' := [(9, .int ((shR (fX4_size fr v) (fX4_fractionBits fr)).toInt32)), (8, .int y_49), (0, .int fr), (1, .int to), (4, .long (fX4_size fr v)), (6, .int (fX4_below fr v)), (7, .int (fX4_fractionBits fr))]) hx hb dX4_castTo_105 hl (by decide) rfl (fun ls hl => ?_)
              refine lv_lload hx hb dX4_castTo_107 (lv_at hl 4 rfl) ?_
              refine lv_iload_n hx hb dX4_castTo_109 rfl (lv_at hl 2 rfl) ?_
              refine cs_l (As := [.int fr]) (rest := [.long (fX4_size fr v)]) ⟨hx, hb, hml, hown, hts⟩ (kX4_endless l G fr) (va_cwS 1 hts gX4_castTo_X4_endless rfl rfl rfl (by decide +kernel) ⟨Nat.le_of_ble_eq_true rfl, Nat.le_of_ble_eq_true rfl⟩) hE hK hP hD hS hA hl.1 [] rfl rfl rfl rfl rfl rfl (Nat.le_of_ble_eq_true rfl) dX4_castTo_110 ⟨Nat.zero_le _, Nat.zero_le _⟩ (fun H locs hP hD hS => ?_)
              have hP : va_P G.1 vwCl [] H := hP
              have hD : va_D A [] := hD
              refine bl_ne (tgt := 157) hx hb dX4_castTo_113 dX4_castTo_114 (by decide) (fun c_52 => ?_) (fun c_52 => ?_)
              · refine lv_iload_n hx hb dX4_castTo_117 rfl (lv_at hl 3 rfl) ?_
                refine lv_iconst (v := (1:Int32)) hx hb dX4_castTo_118 (by decide) ?_
                refine bi_le (tgt := 147) hx hb dX4_castTo_119 (by decide) (fun c_53 => ?_) (fun c_53 => ?_)
                · refine lv_iload_n hx hb dX4_castTo_122 rfl (lv_at hl 3 rfl) ?_
                  refine lv_iload_n hx hb dX4_castTo_123 rfl (lv_at hl 3 rfl) ?_
                  refine cs_l (As := [.int to]) (rest := [.int to]) ⟨hx, hb, hml, hown, hts⟩ (kX4_endless l G to) (va_cwS 1 hts gX4_castTo_X4_endless rfl rfl rfl (by decide +kernel) ⟨Nat.le_of_ble_eq_true rfl, Nat.le_of_ble_eq_true rfl⟩) hE hK hP hD hS hA hl.1 [] rfl rfl rfl rfl rfl rfl (Nat.le_of_ble_eq_true rfl) dX4_castTo_124 ⟨Nat.zero_le _, Nat.zero_le _⟩ (fun H locs hP hD hS => ?_)
                  have hP : va_P G.1 vwCl [] H := hP
                  have hD : va_D A [] := hD
                  refine lv_iload hx hb dX4_castTo_127 (lv_at hl 5 rfl) ?_
                  refine bz_eq (tgt := 139) hx hb dX4_castTo_129 (by decide) (fun c_54 => ?_) (fun c_54 => ?_)
                  · refine lv_lconst (v := (0:Int64)) hx hb dX4_castTo_139 (by decide) ?_
                    refine lv_lor hx hb dX4_castTo_140 ?_
                    refine cs_l (As := [.int to, .long ((fX4_endless to) ||| (0:Int64))]) (rest := []) ⟨hx, hb, hml, hown, hts⟩ (kX4_asCode l G to ((fX4_endless to) ||| (0:Int64))) (va_cwS 2 hts gX4_castTo_X4_asCode rfl rfl rfl (by decide +kernel) ⟨Nat.le_of_ble_eq_true rfl, Nat.le_of_ble_eq_true rfl⟩) hE hK hP hD hS hA hl.1 [] rfl rfl rfl rfl rfl rfl (Nat.le_of_ble_eq_true rfl) dX4_castTo_141 ⟨Nat.zero_le _, Nat.zero_le _⟩ (fun H locs hP hD hS => ?_)
                    have hP : va_P G.1 vwCl [] H := hP
                    have hD : va_D A [] := hD
                    refine lv_goto (tgt := 156) hx hb dX4_castTo_144 (by decide) ?_
                    exact rt_l hx hb hr hlocks hP hD hS dX4_castTo_156 (by rw [hr_51, fX4_castTo_97, if_pos c_52, if_pos c_53, if_pos c_54])
                  · refine lv_iload_n hx hb dX4_castTo_132 rfl (lv_at hl 3 rfl) ?_
                    refine cs_l (As := [.int to]) (rest := [.long (fX4_endless to), .int to]) ⟨hx, hb, hml, hown, hts⟩ (kX4_signBit l G to) (va_cwS 1 hts gX4_castTo_X4_signBit rfl rfl rfl (by decide +kernel) ⟨Nat.le_of_ble_eq_true rfl, Nat.le_of_ble_eq_true rfl⟩) hE hK hP hD hS hA hl.1 [] rfl rfl rfl rfl rfl rfl (Nat.le_of_ble_eq_true rfl) dX4_castTo_133 ⟨Nat.zero_le _, Nat.zero_le _⟩ (fun H locs hP hD hS => ?_)
                    have hP : va_P G.1 vwCl [] H := hP
                    have hD : va_D A [] := hD
                    refine lv_goto (tgt := 140) hx hb dX4_castTo_136 (by decide) ?_
                    refine lv_lor hx hb dX4_castTo_140 ?_
                    refine cs_l (As := [.int to, .long ((fX4_endless to) ||| (fX4_signBit to))]) (rest := []) ⟨hx, hb, hml, hown, hts⟩ (kX4_asCode l G to ((fX4_endless to) ||| (fX4_signBit to))) (va_cwS 2 hts gX4_castTo_X4_asCode rfl rfl rfl (by decide +kernel) ⟨Nat.le_of_ble_eq_true rfl, Nat.le_of_ble_eq_true rfl⟩) hE hK hP hD hS hA hl.1 [] rfl rfl rfl rfl rfl rfl (Nat.le_of_ble_eq_true rfl) dX4_castTo_141 ⟨Nat.zero_le _, Nat.zero_le _⟩ (fun H locs hP hD hS => ?_)
                    have hP : va_P G.1 vwCl [] H := hP
                    have hD : va_D A [] := hD
                    refine lv_goto (tgt := 156) hx hb dX4_castTo_144 (by decide) ?_
                    exact rt_l hx hb hr hlocks hP hD hS dX4_castTo_156 (by rw [hr_51, fX4_castTo_97, if_pos c_52, if_pos c_53, if_neg c_54])
                · refine lv_iload_n hx hb dX4_castTo_147 rfl (lv_at hl 3 rfl) ?_
                  refine lv_iload hx hb dX4_castTo_148 (lv_at hl 5 rfl) ?_
                  refine lv_lconst (v := (1:Int64)) hx hb dX4_castTo_150 (by decide) ?_
                  refine lv_bipush (v := (100:Int32)) hx hb dX4_castTo_151 (by decide) ?_
                  refine cs_l (As := [.int to, .int (fX4_below fr v), .long (1:Int64), .int (100:Int32)]) (rest := []) ⟨hx, hb, hml, hown, hts⟩ (kX4_held l G to (fX4_below fr v) (1:Int64) (100:Int32)) (va_cwS 4 hts gX4_castTo_X4_held rfl rfl rfl (by decide +kernel) ⟨Nat.le_of_ble_eq_true rfl, Nat.le_of_ble_eq_true rfl⟩) hE hK hP hD hS hA hl.1 [] rfl rfl rfl rfl rfl rfl (Nat.le_of_ble_eq_true rfl) dX4_castTo_153 ⟨Nat.zero_le _, Nat.zero_le _⟩ (fun H locs hP hD hS => ?_)
                  have hP : va_P G.1 vwCl [] H := hP
                  have hD : va_D A [] := hD
                  exact rt_l hx hb hr hlocks hP hD hS dX4_castTo_156 (by rw [hr_51, fX4_castTo_97, if_pos c_52, if_neg c_53])
              · refine lv_iload hx hb dX4_castTo_157 (lv_at hl 0 rfl) ?_
                refine jn_1 (T := Int64) G A (if (shR (fX4_size fr v) (fX4_fractionBits fr)).toInt32 = 0 then (fX4_size fr v) else (((fX4_size fr v) - (shL (((shR (fX4_size fr v) (fX4_fractionBits fr)).toInt32).toInt64) (fX4_fractionBits fr))) + (shL (1:Int64) (fX4_fractionBits fr)))) [] 13 (fun y => [(1, .int to), (6, .int (fX4_below fr v)), (8, .int y_49), (9, .int ((shR (fX4_size fr v) (fX4_fractionBits fr)).toInt32))]) (fun y => [.long y]) 181 ?_ ?_
                · intro y_55 ey_55 H locs ls hP hD hS hl
                  have hr_57 : fX4_castTo fr to v = fX4_castTo_181 fr to v y_49 y_55 := by rw [ey_55, hr_51, fX4_castTo_97, if_neg c_52]
                  refine lv_lstore (lv' := [(10, .long y_55), (1, .int to), (6, .int (fX4_below fr v)), (8, .int y_49), (9, .int ((shR (fX4_size fr v) (fX4_fractionBits fr)).toInt32))]) hx hb dX4_castTo_181 hl (by decide) rfl (fun ls hl => ?_)
                  refine lv_iload hx hb dX4_castTo_183 (lv_at hl 4 rfl) ?_
                  refine jn_1 (T := Int32) G A (if (shR (fX4_size fr v) (fX4_fractionBits fr)).toInt32 = 0 then y_49 else ((y_49 + (shR (fX4_size fr v) (fX4_fractionBits fr)).toInt32) - (1:Int32))) [] 13 (fun y => [(1, .int to), (6, .int (fX4_below fr v)), (10, .long y_55)]) (fun y => [.int y]) 200 ?_ ?_
                  · intro y_58 ey_58 H locs ls hP hD hS hl
                    have hr_60 : fX4_castTo fr to v = fX4_castTo_200 fr to v y_55 y_58 := by rw [ey_58, hr_57, fX4_castTo_181]
                    refine lv_istore (lv' := [(12, .int y_58), (1, .int to), (6, .int (fX4_below fr v)), (10, .long y_55)]) hx hb dX4_castTo_200 hl (by decide) rfl (fun ls hl => ?_)
                    refine lv_iload_n hx hb dX4_castTo_202 rfl (lv_at hl 1 rfl) ?_
                    refine lv_iconst (v := (1:Int32)) hx hb dX4_castTo_203 (by decide) ?_
                    refine bi_le (tgt := 220) hx hb dX4_castTo_204 (by decide) (fun c_61 => ?_) (fun c_61 => ?_)
                    · refine lv_iload_n hx hb dX4_castTo_207 rfl (lv_at hl 1 rfl) ?_
                      refine lv_iload hx hb dX4_castTo_208 (lv_at hl 2 rfl) ?_
                      refine lv_lload hx hb dX4_castTo_210 (lv_at hl 3 rfl) ?_
                      refine lv_iload hx hb dX4_castTo_212 (lv_at hl 0 rfl) ?_
                      refine cs_l (As := [.int to, .int (fX4_below fr v), .long y_55, .int y_58]) (rest := []) ⟨hx, hb, hml, hown, hts⟩ (kX4_near l G to (fX4_below fr v) y_55 y_58) (va_cwS 4 hts gX4_castTo_X4_near rfl rfl rfl (by decide +kernel) ⟨Nat.le_of_ble_eq_true rfl, Nat.le_of_ble_eq_true rfl⟩) hE hK hP hD hS hA hl.1 [] rfl rfl rfl rfl rfl rfl (Nat.le_of_ble_eq_true rfl) dX4_castTo_214 ⟨Nat.zero_le _, Nat.zero_le _⟩ (fun H locs hP hD hS => ?_)
                      have hP : va_P G.1 vwCl [] H := hP
                      have hD : va_D A [] := hD
                      refine lv_goto (tgt := 230) hx hb dX4_castTo_217 (by decide) ?_
                      exact rt_l hx hb hr hlocks hP hD hS dX4_castTo_230 (by rw [hr_60, fX4_castTo_200, if_pos c_61])
                    · refine lv_iload_n hx hb dX4_castTo_220 rfl (lv_at hl 1 rfl) ?_
                      refine lv_iload hx hb dX4_castTo_221 (lv_at hl 2 rfl) ?_
                      refine lv_lload hx hb dX4_castTo_223 (lv_at hl 3 rfl) ?_
                      refine lv_iload hx hb dX4_castTo_225 (lv_at hl 0 rfl) ?_
                      refine cs_l (As := [.int to, .int (fX4_below fr v), .long y_55, .int y_58]) (rest := []) ⟨hx, hb, hml, hown, hts⟩ (kX4_held l G to (fX4_below fr v) y_55 y_58) (va_cwS 4 hts gX4_castTo_X4_held rfl rfl rfl (by decide +kernel) ⟨Nat.le_of_ble_eq_true rfl, Nat.le_of_ble_eq_true rfl⟩) hE hK hP hD hS hA hl.1 [] rfl rfl rfl rfl rfl rfl (Nat.le_of_ble_eq_true rfl) dX4_castTo_227 ⟨Nat.zero_le _, Nat.zero_le _⟩ (fun H locs hP hD hS => ?_)
                      have hP : va_P G.1 vwCl [] H := hP
                      have hD : va_D A [] := hD
                      exact rt_l hx hb hr hlocks hP hD hS dX4_castTo_230 (by rw [hr_60, fX4_castTo_200, if_neg c_61])
                  · intro kj_58
                    refine bz_ne (tgt := 193) hx hb dX4_castTo_185 (by decide) (fun c_59 => ?_) (fun c_59 => ?_)
                    · refine lv_iload hx hb dX4_castTo_188 (lv_at hl 3 rfl) ?_
                      refine lv_goto (tgt := 200) hx hb dX4_castTo_190 (by decide) ?_
                      exact kj_58 y_49 (by rw [if_pos c_59]) _ _ _ hP hD hS (lv_sub hl [1, 2, 0] rfl)
                    · refine lv_iload hx hb dX4_castTo_193 (lv_at hl 3 rfl) ?_
                      refine lv_iload hx hb dX4_castTo_195 (lv_at hl 4 rfl) ?_
                      refine lv_iadd hx hb dX4_castTo_197 ?_
                      refine lv_iconst (v := (1:Int32)) hx hb dX4_castTo_198 (by decide) ?_
                      refine lv_isub hx hb dX4_castTo_199 ?_
                      exact kj_58 ((y_49 + (shR (fX4_size fr v) (fX4_fractionBits fr)).toInt32) - (1:Int32)) (by rw [if_neg c_59]) _ _ _ hP hD hS (lv_sub hl [1, 2, 0] rfl)
                · intro kj_55
                  refine bz_ne (tgt := 167) hx hb dX4_castTo_159 (by decide) (fun c_56 => ?_) (fun c_56 => ?_)
                  · refine lv_lload hx hb dX4_castTo_162 (lv_at hl 4 rfl) ?_
                    refine lv_goto (tgt := 181) hx hb dX4_castTo_164 (by decide) ?_
                    exact kj_55 (fX4_size fr v) (by rw [if_pos c_56]) _ _ _ hP hD hS (lv_sub hl [3, 5, 1, 0] rfl)
                  · refine lv_lload hx hb dX4_castTo_167 (lv_at hl 4 rfl) ?_
                    refine lv_iload hx hb dX4_castTo_169 (lv_at hl 0 rfl) ?_
                    refine r_i2l hx hb dX4_castTo_171 ?_
                    refine lv_iload hx hb dX4_castTo_172 (lv_at hl 6 rfl) ?_
                    refine r_lshl hx hb dX4_castTo_174 ?_
                    refine lv_lsub hx hb dX4_castTo_175 ?_
                    refine lv_lconst (v := (1:Int64)) hx hb dX4_castTo_176 (by decide) ?_
                    refine lv_iload hx hb dX4_castTo_177 (lv_at hl 6 rfl) ?_
                    refine r_lshl hx hb dX4_castTo_179 ?_
                    refine lv_ladd hx hb dX4_castTo_180 ?_
                    exact kj_55 (((fX4_size fr v) - (shL (((shR (fX4_size fr v) (fX4_fractionBits fr)).toInt32).toInt64) (fX4_fractionBits fr))) + (shL (1:Int64) (fX4_fractionBits fr))) (by rw [if_neg c_56]) _ _ _ hP hD hS (lv_sub hl [3, 5, 1, 0] rfl)
            · intro kj_49
              refine bi_ne (tgt := 94) hx hb dX4_castTo_85 (by decide) (fun c_50 => ?_) (fun c_50 => ?_)
              · refine lv_sipush (v := (-149:Int32)) hx hb dX4_castTo_88 (by decide) ?_
                refine lv_goto (tgt := 97) hx hb dX4_castTo_91 (by decide) ?_
                exact kj_49 (-149:Int32) (by rw [if_pos c_50]) _ _ _ hP hD hS (lv_sub hl [3, 4, 2, 1, 0] rfl)
              · refine lv_sipush (v := (-1074:Int32)) hx hb dX4_castTo_94 (by decide) ?_
                exact kj_49 (-1074:Int32) (by rw [if_neg c_50]) _ _ _ hP hD hS (lv_sub hl [3, 4, 2, 1, 0] rfl)
      · refine lv_iload_n hx hb dX4_castTo_29 rfl (lv_at hl 0 rfl) ?_
        refine lv_iconst (v := (2:Int32)) hx hb dX4_castTo_30 (by decide) ?_
        refine bi_ge (tgt := 63) hx hb dX4_castTo_31 (by decide) (fun c_62 => ?_) (fun c_62 => ?_)
        · refine lv_iload_n hx hb dX4_castTo_34 rfl (lv_at hl 1 rfl) ?_
          refine lv_lload_n hx hb dX4_castTo_35 rfl (lv_at hl 2 rfl) ?_
          refine lv_lconst (v := (0:Int64)) hx hb dX4_castTo_36 (by decide) ?_
          refine jn_1 (T := Int32) G A (if v < (0:Int64) then (1:Int32) else (0:Int32)) [] 13 (fun y => [(2, .long v)]) (fun y => [.int y, .int to]) 46 ?_ ?_
          · intro y_63 ey_63 H locs ls hP hD hS hl
            have hr_65 : fX4_castTo fr to v = fX4_castTo_46 to v y_63 := by rw [ey_63, fX4_castTo, if_neg c_1, if_neg c_2, if_neg c_42, if_pos c_62]
            refine lv_lload_n hx hb dX4_castTo_46 rfl (lv_at hl 0 rfl) ?_
            refine lv_lconst (v := (0:Int64)) hx hb dX4_castTo_47 (by decide) ?_
            refine bl_ge (tgt := 57) hx hb dX4_castTo_48 dX4_castTo_49 (by decide) (fun c_66 => ?_) (fun c_66 => ?_)
            · refine lv_lload_n hx hb dX4_castTo_52 rfl (lv_at hl 0 rfl) ?_
              refine lv_lneg hx hb dX4_castTo_53 ?_
              refine lv_goto (tgt := 58) hx hb dX4_castTo_54 (by decide) ?_
              refine lv_iconst (v := (0:Int32)) hx hb dX4_castTo_58 (by decide) ?_
              refine cs_l (As := [.int to, .int y_63, .long (-v), .int (0:Int32)]) (rest := []) ⟨hx, hb, hml, hown, hts⟩ (kX4_near l G to y_63 (-v) (0:Int32)) (va_cwS 4 hts gX4_castTo_X4_near rfl rfl rfl (by decide +kernel) ⟨Nat.le_of_ble_eq_true rfl, Nat.le_of_ble_eq_true rfl⟩) hE hK hP hD hS hA hl.1 [] rfl rfl rfl rfl rfl rfl (Nat.le_of_ble_eq_true rfl) dX4_castTo_59 ⟨Nat.zero_le _, Nat.zero_le _⟩ (fun H locs hP hD hS => ?_)
              have hP : va_P G.1 vwCl [] H := hP
              have hD : va_D A [] := hD
              exact rt_l hx hb hr hlocks hP hD hS dX4_castTo_62 (by rw [hr_65, fX4_castTo_46, if_pos c_66])
            · refine lv_lload_n hx hb dX4_castTo_57 rfl (lv_at hl 0 rfl) ?_
              refine lv_iconst (v := (0:Int32)) hx hb dX4_castTo_58 (by decide) ?_
              refine cs_l (As := [.int to, .int y_63, .long v, .int (0:Int32)]) (rest := []) ⟨hx, hb, hml, hown, hts⟩ (kX4_near l G to y_63 v (0:Int32)) (va_cwS 4 hts gX4_castTo_X4_near rfl rfl rfl (by decide +kernel) ⟨Nat.le_of_ble_eq_true rfl, Nat.le_of_ble_eq_true rfl⟩) hE hK hP hD hS hA hl.1 [] rfl rfl rfl rfl rfl rfl (Nat.le_of_ble_eq_true rfl) dX4_castTo_59 ⟨Nat.zero_le _, Nat.zero_le _⟩ (fun H locs hP hD hS => ?_)
              have hP : va_P G.1 vwCl [] H := hP
              have hD : va_D A [] := hD
              exact rt_l hx hb hr hlocks hP hD hS dX4_castTo_62 (by rw [hr_65, fX4_castTo_46, if_neg c_66])
          · intro kj_63
            refine bl_ge (tgt := 45) hx hb dX4_castTo_37 dX4_castTo_38 (by decide) (fun c_64 => ?_) (fun c_64 => ?_)
            · refine lv_iconst (v := (1:Int32)) hx hb dX4_castTo_41 (by decide) ?_
              refine lv_goto (tgt := 46) hx hb dX4_castTo_42 (by decide) ?_
              exact kj_63 (1:Int32) (by rw [if_pos c_64]) _ _ _ hP hD hS (lv_sub hl [2] rfl)
            · refine lv_iconst (v := (0:Int32)) hx hb dX4_castTo_45 (by decide) ?_
              exact kj_63 (0:Int32) (by rw [if_neg c_64]) _ _ _ hP hD hS (lv_sub hl [2] rfl)
        · refine lv_iload_n hx hb dX4_castTo_63 rfl (lv_at hl 0 rfl) ?_
          refine lv_lload_n hx hb dX4_castTo_64 rfl (lv_at hl 2 rfl) ?_
          refine cs_l (As := [.int fr, .long v]) (rest := []) ⟨hx, hb, hml, hown, hts⟩ (kX4_size l G fr v) (va_cwS 2 hts gX4_castTo_X4_size rfl rfl rfl (by decide +kernel) ⟨Nat.le_of_ble_eq_true rfl, Nat.le_of_ble_eq_true rfl⟩) hE hK hP hD hS hA hl.1 [] rfl rfl rfl rfl rfl rfl (Nat.le_of_ble_eq_true rfl) dX4_castTo_65 ⟨Nat.zero_le _, Nat.zero_le _⟩ (fun H locs hP hD hS => ?_)
          have hP : va_P G.1 vwCl [] H := hP
          have hD : va_D A [] := hD
          refine lv_lstore (lv' := [(4, .long (fX4_size fr v)), (0, .int fr), (1, .int to), (2, .long v)]) hx hb dX4_castTo_68 hl (by decide) rfl (fun ls hl => ?_)
          refine lv_iload_n hx hb dX4_castTo_70 rfl (lv_at hl 1 rfl) ?_
          refine lv_lload_n hx hb dX4_castTo_71 rfl (lv_at hl 3 rfl) ?_
          refine cs_i (As := [.int fr, .long v]) (rest := []) ⟨hx, hb, hml, hown, hts⟩ (kX4_below l G fr v) (va_cwS 2 hts gX4_castTo_X4_below rfl rfl rfl (by decide +kernel) ⟨Nat.le_of_ble_eq_true rfl, Nat.le_of_ble_eq_true rfl⟩) hE hK hP hD hS hA hl.1 [] rfl rfl rfl rfl rfl rfl (Nat.le_of_ble_eq_true rfl) dX4_castTo_72 ⟨Nat.zero_le _, Nat.zero_le _⟩ (fun H locs hP hD hS => ?_)
          have hP : va_P G.1 vwCl [] H := hP
          have hD : va_D A [] := hD
          refine lv_istore (lv' := [(6, .int (fX4_below fr v)), (4, .long (fX4_size fr v)), (0, .int fr), (1, .int to), (2, .long v)]) hx hb dX4_castTo_75 hl (by decide) rfl (fun ls hl => ?_)
          refine lv_iload_n hx hb dX4_castTo_77 rfl (lv_at hl 2 rfl) ?_
          refine cs_i (As := [.int fr]) (rest := []) ⟨hx, hb, hml, hown, hts⟩ (kX4_fractionBits l G fr) (va_cwS 1 hts gX4_castTo_X4_fractionBits rfl rfl rfl (by decide +kernel) ⟨Nat.le_of_ble_eq_true rfl, Nat.le_of_ble_eq_true rfl⟩) hE hK hP hD hS hA hl.1 [] rfl rfl rfl rfl rfl rfl (Nat.le_of_ble_eq_true rfl) dX4_castTo_78 ⟨Nat.zero_le _, Nat.zero_le _⟩ (fun H locs hP hD hS => ?_)
          have hP : va_P G.1 vwCl [] H := hP
          have hD : va_D A [] := hD
          refine lv_istore (lv' := [(7, .int (fX4_fractionBits fr)), (6, .int (fX4_below fr v)), (4, .long (fX4_size fr v)), (0, .int fr), (1, .int to), (2, .long v)]) hx hb dX4_castTo_81 hl (by decide) rfl (fun ls hl => ?_)
          refine lv_iload_n hx hb dX4_castTo_83 rfl (lv_at hl 3 rfl) ?_
          refine lv_iconst (v := (2:Int32)) hx hb dX4_castTo_84 (by decide) ?_
          refine jn_1 (T := Int32) G A (if fr = (2:Int32) then (-149:Int32) else (-1074:Int32)) [] 13 (fun y => [(0, .int fr), (1, .int to), (4, .long (fX4_size fr v)), (6, .int (fX4_below fr v)), (7, .int (fX4_fractionBits fr))]) (fun y => [.int y]) 97 ?_ ?_
          · intro y_67 ey_67 H locs ls hP hD hS hl
            have hr_69 : fX4_castTo fr to v = fX4_castTo_97 fr to v y_67 := by rw [ey_67, fX4_castTo, if_neg c_1, if_neg c_2, if_neg c_42, if_neg c_62]
            refine lv_istore (lv' := [(8, .int y_67), (0, .int fr), (1, .int to), (4, .long (fX4_size fr v)), (6, .int (fX4_below fr v)), (7, .int (fX4_fractionBits fr))]) hx hb dX4_castTo_97 hl (by decide) rfl (fun ls hl => ?_)
            refine lv_lload hx hb dX4_castTo_99 (lv_at hl 3 rfl) ?_
            refine lv_iload hx hb dX4_castTo_101 (lv_at hl 5 rfl) ?_
            refine r_lshr hx hb dX4_castTo_103 ?_
            refine r_l2i hx hb dX4_castTo_104 ?_
            refine lv_istore (lv' := [(9, .int ((shR (fX4_size fr v) (fX4_fractionBits fr)).toInt32)), (8, .int y_67), (0, .int fr), (1, .int to), (4, .long (fX4_size fr v)), (6, .int (fX4_below fr v)), (7, .int (fX4_fractionBits fr))]) hx hb dX4_castTo_105 hl (by decide) rfl (fun ls hl => ?_)
            refine lv_lload hx hb dX4_castTo_107 (lv_at hl 4 rfl) ?_
            refine lv_iload_n hx hb dX4_castTo_109 rfl (lv_at hl 2 rfl) ?_
            refine cs_l (As := [.int fr]) (rest := [.long (fX4_size fr v)]) ⟨hx, hb, hml, hown, hts⟩ (kX4_endless l G fr) (va_cwS 1 hts gX4_castTo_X4_endless rfl rfl rfl (by decide +kernel) ⟨Nat.le_of_ble_eq_true rfl, Nat.le_of_ble_eq_true rfl⟩) hE hK hP hD hS hA hl.1 [] rfl rfl rfl rfl rfl rfl (Nat.le_of_ble_eq_true rfl) dX4_castTo_110 ⟨Nat.zero_le _, Nat.zero_le _⟩ (fun H locs hP hD hS => ?_)
            have hP : va_P G.1 vwCl [] H := hP
            have hD : va_D A [] := hD
            refine bl_ne (tgt := 157) hx hb dX4_castTo_113 dX4_castTo_114 (by decide) (fun c_70 => ?_) (fun c_70 => ?_)
            · refine lv_iload_n hx hb dX4_castTo_117 rfl (lv_at hl 3 rfl) ?_
              refine lv_iconst (v := (1:Int32)) hx hb dX4_castTo_118 (by decide) ?_
              refine bi_le (tgt := 147) hx hb dX4_castTo_119 (by decide) (fun c_71 => ?_) (fun c_71 => ?_)
              · refine lv_iload_n hx hb dX4_castTo_122 rfl (lv_at hl 3 rfl) ?_
                refine lv_iload_n hx hb dX4_castTo_123 rfl (lv_at hl 3 rfl) ?_
                refine cs_l (As := [.int to]) (rest := [.int to]) ⟨hx, hb, hml, hown, hts⟩ (kX4_endless l G to) (va_cwS 1 hts gX4_castTo_X4_endless rfl rfl rfl (by decide +kernel) ⟨Nat.le_of_ble_eq_true rfl, Nat.le_of_ble_eq_true rfl⟩) hE hK hP hD hS hA hl.1 [] rfl rfl rfl rfl rfl rfl (Nat.le_of_ble_eq_true rfl) dX4_castTo_124 ⟨Nat.zero_le _, Nat.zero_le _⟩ (fun H locs hP hD hS => ?_)
                have hP : va_P G.1 vwCl [] H := hP
                have hD : va_D A [] := hD
                refine lv_iload hx hb dX4_castTo_127 (lv_at hl 5 rfl) ?_
                refine bz_eq (tgt := 139) hx hb dX4_castTo_129 (by decide) (fun c_72 => ?_) (fun c_72 => ?_)
                · refine lv_lconst (v := (0:Int64)) hx hb dX4_castTo_139 (by decide) ?_
                  refine lv_lor hx hb dX4_castTo_140 ?_
                  refine cs_l (As := [.int to, .long ((fX4_endless to) ||| (0:Int64))]) (rest := []) ⟨hx, hb, hml, hown, hts⟩ (kX4_asCode l G to ((fX4_endless to) ||| (0:Int64))) (va_cwS 2 hts gX4_castTo_X4_asCode rfl rfl rfl (by decide +kernel) ⟨Nat.le_of_ble_eq_true rfl, Nat.le_of_ble_eq_true rfl⟩) hE hK hP hD hS hA hl.1 [] rfl rfl rfl rfl rfl rfl (Nat.le_of_ble_eq_true rfl) dX4_castTo_141 ⟨Nat.zero_le _, Nat.zero_le _⟩ (fun H locs hP hD hS => ?_)
                  have hP : va_P G.1 vwCl [] H := hP
                  have hD : va_D A [] := hD
                  refine lv_goto (tgt := 156) hx hb dX4_castTo_144 (by decide) ?_
                  exact rt_l hx hb hr hlocks hP hD hS dX4_castTo_156 (by rw [hr_69, fX4_castTo_97, if_pos c_70, if_pos c_71, if_pos c_72])
                · refine lv_iload_n hx hb dX4_castTo_132 rfl (lv_at hl 3 rfl) ?_
                  refine cs_l (As := [.int to]) (rest := [.long (fX4_endless to), .int to]) ⟨hx, hb, hml, hown, hts⟩ (kX4_signBit l G to) (va_cwS 1 hts gX4_castTo_X4_signBit rfl rfl rfl (by decide +kernel) ⟨Nat.le_of_ble_eq_true rfl, Nat.le_of_ble_eq_true rfl⟩) hE hK hP hD hS hA hl.1 [] rfl rfl rfl rfl rfl rfl (Nat.le_of_ble_eq_true rfl) dX4_castTo_133 ⟨Nat.zero_le _, Nat.zero_le _⟩ (fun H locs hP hD hS => ?_)
                  have hP : va_P G.1 vwCl [] H := hP
                  have hD : va_D A [] := hD
                  refine lv_goto (tgt := 140) hx hb dX4_castTo_136 (by decide) ?_
                  refine lv_lor hx hb dX4_castTo_140 ?_
                  refine cs_l (As := [.int to, .long ((fX4_endless to) ||| (fX4_signBit to))]) (rest := []) ⟨hx, hb, hml, hown, hts⟩ (kX4_asCode l G to ((fX4_endless to) ||| (fX4_signBit to))) (va_cwS 2 hts gX4_castTo_X4_asCode rfl rfl rfl (by decide +kernel) ⟨Nat.le_of_ble_eq_true rfl, Nat.le_of_ble_eq_true rfl⟩) hE hK hP hD hS hA hl.1 [] rfl rfl rfl rfl rfl rfl (Nat.le_of_ble_eq_true rfl) dX4_castTo_141 ⟨Nat.zero_le _, Nat.zero_le _⟩ (fun H locs hP hD hS => ?_)
                  have hP : va_P G.1 vwCl [] H := hP
                  have hD : va_D A [] := hD
                  refine lv_goto (tgt := 156) hx hb dX4_castTo_144 (by decide) ?_
                  exact rt_l hx hb hr hlocks hP hD hS dX4_castTo_156 (by rw [hr_69, fX4_castTo_97, if_pos c_70, if_pos c_71, if_neg c_72])
              · refine lv_iload_n hx hb dX4_castTo_147 rfl (lv_at hl 3 rfl) ?_
                refine lv_iload hx hb dX4_castTo_148 (lv_at hl 5 rfl) ?_
                refine lv_lconst (v := (1:Int64)) hx hb dX4_castTo_150 (by decide) ?_
                refine lv_bipush (v := (100:Int32)) hx hb dX4_castTo_151 (by decide) ?_
                refine cs_l (As := [.int to, .int (fX4_below fr v), .long (1:Int64), .int (100:Int32)]) (rest := []) ⟨hx, hb, hml, hown, hts⟩ (kX4_held l G to (fX4_below fr v) (1:Int64) (100:Int32)) (va_cwS 4 hts gX4_castTo_X4_held rfl rfl rfl (by decide +kernel) ⟨Nat.le_of_ble_eq_true rfl, Nat.le_of_ble_eq_true rfl⟩) hE hK hP hD hS hA hl.1 [] rfl rfl rfl rfl rfl rfl (Nat.le_of_ble_eq_true rfl) dX4_castTo_153 ⟨Nat.zero_le _, Nat.zero_le _⟩ (fun H locs hP hD hS => ?_)
                have hP : va_P G.1 vwCl [] H := hP
                have hD : va_D A [] := hD
                exact rt_l hx hb hr hlocks hP hD hS dX4_castTo_156 (by rw [hr_69, fX4_castTo_97, if_pos c_70, if_neg c_71])
            · refine lv_iload hx hb dX4_castTo_157 (lv_at hl 0 rfl) ?_
              refine jn_1 (T := Int64) G A (if (shR (fX4_size fr v) (fX4_fractionBits fr)).toInt32 = 0 then (fX4_size fr v) else (((fX4_size fr v) - (shL (((shR (fX4_size fr v) (fX4_fractionBits fr)).toInt32).toInt64) (fX4_fractionBits fr))) + (shL (1:Int64) (fX4_fractionBits fr)))) [] 13 (fun y => [(1, .int to), (6, .int (fX4_below fr v)), (8, .int y_67), (9, .int ((shR (fX4_size fr v) (fX4_fractionBits fr)).toInt32))]) (fun y => [.long y]) 181 ?_ ?_
              · intro y_73 ey_73 H locs ls hP hD hS hl
                have hr_75 : fX4_castTo fr to v = fX4_castTo_181 fr to v y_67 y_73 := by rw [ey_73, hr_69, fX4_castTo_97, if_neg c_70]
                refine lv_lstore (lv' := [(10, .long y_73), (1, .int to), (6, .int (fX4_below fr v)), (8, .int y_67), (9, .int ((shR (fX4_size fr v) (fX4_fractionBits fr)).toInt32))]) hx hb dX4_castTo_181 hl (by decide) rfl (fun ls hl => ?_)
                refine lv_iload hx hb dX4_castTo_183 (lv_at hl 4 rfl) ?_
                refine jn_1 (T := Int32) G A (if (shR (fX4_size fr v) (fX4_fractionBits fr)).toInt32 = 0 then y_67 else ((y_67 + (shR (fX4_size fr v) (fX4_fractionBits fr)).toInt32) - (1:Int32))) [] 13 (fun y => [(1, .int to), (6, .int (fX4_below fr v)), (10, .long y_73)]) (fun y => [.int y]) 200 ?_ ?_
                · intro y_76 ey_76 H locs ls hP hD hS hl
                  have hr_78 : fX4_castTo fr to v = fX4_castTo_200 fr to v y_73 y_76 := by rw [ey_76, hr_75, fX4_castTo_181]
                  refine lv_istore (lv' := [(12, .int y_76), (1, .int to), (6, .int (fX4_below fr v)), (10, .long y_73)]) hx hb dX4_castTo_200 hl (by decide) rfl (fun ls hl => ?_)
                  refine lv_iload_n hx hb dX4_castTo_202 rfl (lv_at hl 1 rfl) ?_
                  refine lv_iconst (v := (1:Int32)) hx hb dX4_castTo_203 (by decide) ?_
                  refine bi_le (tgt := 220) hx hb dX4_castTo_204 (by decide) (fun c_79 => ?_) (fun c_79 => ?_)
                  · refine lv_iload_n hx hb dX4_castTo_207 rfl (lv_at hl 1 rfl) ?_
                    refine lv_iload hx hb dX4_castTo_208 (lv_at hl 2 rfl) ?_
                    refine lv_lload hx hb dX4_castTo_210 (lv_at hl 3 rfl) ?_
                    refine lv_iload hx hb dX4_castTo_212 (lv_at hl 0 rfl) ?_
                    refine cs_l (As := [.int to, .int (fX4_below fr v), .long y_73, .int y_76]) (rest := []) ⟨hx, hb, hml, hown, hts⟩ (kX4_near l G to (fX4_below fr v) y_73 y_76) (va_cwS 4 hts gX4_castTo_X4_near rfl rfl rfl (by decide +kernel) ⟨Nat.le_of_ble_eq_true rfl, Nat.le_of_ble_eq_true rfl⟩) hE hK hP hD hS hA hl.1 [] rfl rfl rfl rfl rfl rfl (Nat.le_of_ble_eq_true rfl) dX4_castTo_214 ⟨Nat.zero_le _, Nat.zero_le _⟩ (fun H locs hP hD hS => ?_)
                    have hP : va_P G.1 vwCl [] H := hP
                    have hD : va_D A [] := hD
                    refine lv_goto (tgt := 230) hx hb dX4_castTo_217 (by decide) ?_
                    exact rt_l hx hb hr hlocks hP hD hS dX4_castTo_230 (by rw [hr_78, fX4_castTo_200, if_pos c_79])
                  · refine lv_iload_n hx hb dX4_castTo_220 rfl (lv_at hl 1 rfl) ?_
                    refine lv_iload hx hb dX4_castTo_221 (lv_at hl 2 rfl) ?_
                    refine lv_lload hx hb dX4_castTo_223 (lv_at hl 3 rfl) ?_
                    refine lv_iload hx hb dX4_castTo_225 (lv_at hl 0 rfl) ?_
                    refine cs_l (As := [.int to, .int (fX4_below fr v), .long y_73, .int y_76]) (rest := []) ⟨hx, hb, hml, hown, hts⟩ (kX4_held l G to (fX4_below fr v) y_73 y_76) (va_cwS 4 hts gX4_castTo_X4_held rfl rfl rfl (by decide +kernel) ⟨Nat.le_of_ble_eq_true rfl, Nat.le_of_ble_eq_true rfl⟩) hE hK hP hD hS hA hl.1 [] rfl rfl rfl rfl rfl rfl (Nat.le_of_ble_eq_true rfl) dX4_castTo_227 ⟨Nat.zero_le _, Nat.zero_le _⟩ (fun H locs hP hD hS => ?_)
                    have hP : va_P G.1 vwCl [] H := hP
                    have hD : va_D A [] := hD
                    exact rt_l hx hb hr hlocks hP hD hS dX4_castTo_230 (by rw [hr_78, fX4_castTo_200, if_neg c_79])
                · intro kj_76
                  refine bz_ne (tgt := 193) hx hb dX4_castTo_185 (by decide) (fun c_77 => ?_) (fun c_77 => ?_)
                  · refine lv_iload hx hb dX4_castTo_188 (lv_at hl 3 rfl) ?_
                    refine lv_goto (tgt := 200) hx hb dX4_castTo_190 (by decide) ?_
                    exact kj_76 y_67 (by rw [if_pos c_77]) _ _ _ hP hD hS (lv_sub hl [1, 2, 0] rfl)
                  · refine lv_iload hx hb dX4_castTo_193 (lv_at hl 3 rfl) ?_
                    refine lv_iload hx hb dX4_castTo_195 (lv_at hl 4 rfl) ?_
                    refine lv_iadd hx hb dX4_castTo_197 ?_
                    refine lv_iconst (v := (1:Int32)) hx hb dX4_castTo_198 (by decide) ?_
                    refine lv_isub hx hb dX4_castTo_199 ?_
                    exact kj_76 ((y_67 + (shR (fX4_size fr v) (fX4_fractionBits fr)).toInt32) - (1:Int32)) (by rw [if_neg c_77]) _ _ _ hP hD hS (lv_sub hl [1, 2, 0] rfl)
              · intro kj_73
                refine bz_ne (tgt := 167) hx hb dX4_castTo_159 (by decide) (fun c_74 => ?_) (fun c_74 => ?_)
                · refine lv_lload hx hb dX4_castTo_162 (lv_at hl 4 rfl) ?_
                  refine lv_goto (tgt := 181) hx hb dX4_castTo_164 (by decide) ?_
                  exact kj_73 (fX4_size fr v) (by rw [if_pos c_74]) _ _ _ hP hD hS (lv_sub hl [3, 5, 1, 0] rfl)
                · refine lv_lload hx hb dX4_castTo_167 (lv_at hl 4 rfl) ?_
                  refine lv_iload hx hb dX4_castTo_169 (lv_at hl 0 rfl) ?_
                  refine r_i2l hx hb dX4_castTo_171 ?_
                  refine lv_iload hx hb dX4_castTo_172 (lv_at hl 6 rfl) ?_
                  refine r_lshl hx hb dX4_castTo_174 ?_
                  refine lv_lsub hx hb dX4_castTo_175 ?_
                  refine lv_lconst (v := (1:Int64)) hx hb dX4_castTo_176 (by decide) ?_
                  refine lv_iload hx hb dX4_castTo_177 (lv_at hl 6 rfl) ?_
                  refine r_lshl hx hb dX4_castTo_179 ?_
                  refine lv_ladd hx hb dX4_castTo_180 ?_
                  exact kj_73 (((fX4_size fr v) - (shL (((shR (fX4_size fr v) (fX4_fractionBits fr)).toInt32).toInt64) (fX4_fractionBits fr))) + (shL (1:Int64) (fX4_fractionBits fr))) (by rw [if_neg c_74]) _ _ _ hP hD hS (lv_sub hl [3, 5, 1, 0] rfl)
          · intro kj_67
            refine bi_ne (tgt := 94) hx hb dX4_castTo_85 (by decide) (fun c_68 => ?_) (fun c_68 => ?_)
            · refine lv_sipush (v := (-149:Int32)) hx hb dX4_castTo_88 (by decide) ?_
              refine lv_goto (tgt := 97) hx hb dX4_castTo_91 (by decide) ?_
              exact kj_67 (-149:Int32) (by rw [if_pos c_68]) _ _ _ hP hD hS (lv_sub hl [3, 4, 2, 1, 0] rfl)
            · refine lv_sipush (v := (-1074:Int32)) hx hb dX4_castTo_94 (by decide) ?_
              exact kj_67 (-1074:Int32) (by rw [if_neg c_68]) _ _ _ hP hD hS (lv_sub hl [3, 4, 2, 1, 0] rfl)
