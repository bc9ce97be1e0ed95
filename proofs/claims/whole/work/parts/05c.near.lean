def fX4_near_205 (w : Int32) (y_1 : Int64) (y_5 : Int32) (y_18a : Int32) (y_18b : Int64) (y_21 : Int32) : Int64 := (if y_21 < y_18a then (fX4_asCode w (y_1 ||| (fX4_endless w))) else (if y_18b < (shL (1:Int64) (((fX4_fractionBits w) + (1:Int32)) - (1:Int32))) then (fX4_asCode w (y_1 ||| y_18b)) else (fX4_asCode w ((y_1 ||| (shL (((y_18a - y_5) + (1:Int32)).toInt64) (((fX4_fractionBits w) + (1:Int32)) - (1:Int32)))) ||| (y_18b - (shL (1:Int64) (((fX4_fractionBits w) + (1:Int32)) - (1:Int32))))))))
def fX4_near_190 (w : Int32) (y_1 : Int64) (y_5 : Int32) (y_18a : Int32) (y_18b : Int64) : Int64 := (fX4_near_205 w y_1 y_5 y_18a y_18b (if w = (2:Int32) then (104:Int32) else (971:Int32)))
def fX4_near_171 (w : Int32) (y_1 : Int64) (y_5 : Int32) (y_8 : Int32) (y_11 : Int64) : Int64 := (fX4_near_190 w y_1 y_5 (if y_11 = (shL (1:Int64) ((fX4_fractionBits w) + (1:Int32))) then (y_8 + (1:Int32)) else y_8) (if y_11 = (shL (1:Int64) ((fX4_fractionBits w) + (1:Int32))) then (shR y_11 (1:Int32)) else y_11))
def fX4_near_74 (w : Int32) (mm : Int64) (pw : Int32) (y_1 : Int64) (y_5 : Int32) (y_8 : Int32) : Int64 := (fX4_near_171 w y_1 y_5 y_8 (if pw < y_8 then (if (63:Int32) < (y_8 - pw) then (0:Int64) else (if (shL (1:Int64) ((y_8 - pw) - (1:Int32))) < (mm &&& ((shL (1:Int64) (y_8 - pw)) - (1:Int64))) then ((shU mm (y_8 - pw)) + (1:Int64)) else (if (mm &&& ((shL (1:Int64) (y_8 - pw)) - (1:Int64))) = (shL (1:Int64) ((y_8 - pw) - (1:Int32))) then (if ((shU mm (y_8 - pw)) &&& (1:Int64)) = (1:Int64) then ((shU mm (y_8 - pw)) + (1:Int64)) else (shU mm (y_8 - pw))) else (shU mm (y_8 - pw))))) else (shL mm (pw - y_8))))
def fX4_near_49 (w : Int32) (mm : Int64) (pw : Int32) (y_1 : Int64) (y_5 : Int32) : Int64 := (fX4_near_74 w mm pw y_1 y_5 (if ((pw + (fX4_bitsOf mm)) - ((fX4_fractionBits w) + (1:Int32))) < y_5 then y_5 else ((pw + (fX4_bitsOf mm)) - ((fX4_fractionBits w) + (1:Int32)))))
def fX4_near_12 (w : Int32) (mm : Int64) (pw : Int32) (y_1 : Int64) : Int64 := (if mm = (0:Int64) then (fX4_asCode w y_1) else (fX4_near_49 w mm pw y_1 (if w = (2:Int32) then (-149:Int32) else (-1074:Int32))))
def fX4_near (w : Int32) (mi : Int32) (mm : Int64) (pw : Int32) : Int64 := (fX4_near_12 w mm pw (if mi = 0 then (0:Int64) else (fX4_signBit w)))
set_option maxHeartbeats 4000000 in
set_option maxRecDepth 100000 in
theorem kX4_near (l : Launch) (G : GT) (w : Int32) (mi : Int32) (mm : Int64) (pw : Int32) : CL l yX4_near wsX4_near { frames := 1, cells := 0, slots := 0, locals := 23 } G [.int w, .int mi, .long mm, .int pw] [] (fX4_near w mi mm pw) [] := by
  refine en_l (cc := cX4_near) (maxL := 17) (ret := (some .long)) (own := RX4) (by decide) rfl rfl (Nat.le_of_ble_eq_true rfl) ?_
  intro p e s m below meth c A ls hx hb hr hts hown hml hlocks hA hK hE hP hD hS hl
  have hl : lv_has ls 17 [(0, .int w), (1, .int mi), (2, .long mm), (4, .int pw)] := hl
  refine lv_iload_n hx hb dX4_near_0 rfl (lv_at hl 1 rfl) ?_
  refine jn_1 (T := Int64) G A (if mi = 0 then (0:Int64) else (fX4_signBit w)) [] 17 (fun y => [(0, .int w), (2, .long mm), (4, .int pw)]) (fun y => [.long y]) 12 ?_ ?_
  · intro y_1 ey_1 H locs ls hP hD hS hl
    have hr_3 : fX4_near w mi mm pw = fX4_near_12 w mm pw y_1 := by rw [ey_1, fX4_near]
    refine lv_lstore (lv' := [(5, .long y_1), (0, .int w), (2, .long mm), (4, .int pw)]) hx hb dX4_near_12 hl (by decide) rfl (fun ls hl => ?_)
    refine lv_lload_n hx hb dX4_near_14 rfl (lv_at hl 2 rfl) ?_
    refine lv_lconst (v := (0:Int64)) hx hb dX4_near_15 (by decide) ?_
    refine bl_ne (tgt := 27) hx hb dX4_near_16 dX4_near_17 (by decide) (fun c_4 => ?_) (fun c_4 => ?_)
    · refine lv_iload_n hx hb dX4_near_20 rfl (lv_at hl 1 rfl) ?_
      refine lv_lload hx hb dX4_near_21 (lv_at hl 0 rfl) ?_
      refine cs_l (As := [.int w, .long y_1]) (rest := []) ⟨hx, hb, hml, hown, hts⟩ (kX4_asCode l G w y_1) (va_cwS 2 hts gX4_near_X4_asCode rfl rfl rfl (by decide +kernel) ⟨Nat.le_of_ble_eq_true rfl, Nat.le_of_ble_eq_true rfl⟩) hE hK hP hD hS hA hl.1 [] rfl rfl rfl rfl rfl rfl (Nat.le_of_ble_eq_true rfl) dX4_near_23 ⟨Nat.zero_le _, Nat.zero_le _⟩ (fun H locs hP hD hS => ?_)
      have hP : va_P G.1 vwCl [] H := hP
      have hD : va_D A [] := hD
      exact rt_l hx hb hr hlocks hP hD hS dX4_near_26 (by rw [hr_3, fX4_near_12, if_pos c_4])
    · refine lv_iload_n hx hb dX4_near_27 rfl (lv_at hl 1 rfl) ?_
      refine cs_i (As := [.int w]) (rest := []) ⟨hx, hb, hml, hown, hts⟩ (kX4_fractionBits l G w) (va_cwS 1 hts gX4_near_X4_fractionBits rfl rfl rfl (by decide +kernel) ⟨Nat.le_of_ble_eq_true rfl, Nat.le_of_ble_eq_true rfl⟩) hE hK hP hD hS hA hl.1 [] rfl rfl rfl rfl rfl rfl (Nat.le_of_ble_eq_true rfl) dX4_near_28 ⟨Nat.zero_le _, Nat.zero_le _⟩ (fun H locs hP hD hS => ?_)
      have hP : va_P G.1 vwCl [] H := hP
      have hD : va_D A [] := hD
      refine lv_iconst (v := (1:Int32)) hx hb dX4_near_31 (by decide) ?_
      refine lv_iadd hx hb dX4_near_32 ?_
      refine lv_istore (lv' := [(7, .int ((fX4_fractionBits w) + (1:Int32))), (5, .long y_1), (0, .int w), (2, .long mm), (4, .int pw)]) hx hb dX4_near_33 hl (by decide) rfl (fun ls hl => ?_)
      refine lv_iload_n hx hb dX4_near_35 rfl (lv_at hl 2 rfl) ?_
      refine lv_iconst (v := (2:Int32)) hx hb dX4_near_36 (by decide) ?_
      refine jn_1 (T := Int32) G A (if w = (2:Int32) then (-149:Int32) else (-1074:Int32)) [] 17 (fun y => [(0, .int w), (2, .long mm), (4, .int pw), (5, .long y_1), (7, .int ((fX4_fractionBits w) + (1:Int32)))]) (fun y => [.int y]) 49 ?_ ?_
      · intro y_5 ey_5 H locs ls hP hD hS hl
        have hr_7 : fX4_near w mi mm pw = fX4_near_49 w mm pw y_1 y_5 := by rw [ey_5, hr_3, fX4_near_12, if_neg c_4]
        refine lv_istore (lv' := [(8, .int y_5), (0, .int w), (2, .long mm), (4, .int pw), (5, .long y_1), (7, .int ((fX4_fractionBits w) + (1:Int32)))]) hx hb dX4_near_49 hl (by decide) rfl (fun ls hl => ?_)
        refine lv_iload hx hb dX4_near_51 (lv_at hl 3 rfl) ?_
        refine lv_lload_n hx hb dX4_near_53 rfl (lv_at hl 2 rfl) ?_
        refine cs_i (As := [.long mm]) (rest := [.int pw]) ⟨hx, hb, hml, hown, hts⟩ (kX4_bitsOf l G mm) (va_cwS 1 hts gX4_near_X4_bitsOf rfl rfl rfl (by decide +kernel) ⟨Nat.le_of_ble_eq_true rfl, Nat.le_of_ble_eq_true rfl⟩) hE hK hP hD hS hA hl.1 [] rfl rfl rfl rfl rfl rfl (Nat.le_of_ble_eq_true rfl) dX4_near_54 ⟨Nat.zero_le _, Nat.zero_le _⟩ (fun H locs hP hD hS => ?_)
        have hP : va_P G.1 vwCl [] H := hP
        have hD : va_D A [] := hD
        refine lv_iadd hx hb dX4_near_57 ?_
        refine lv_iload hx hb dX4_near_58 (lv_at hl 5 rfl) ?_
        refine lv_isub hx hb dX4_near_60 ?_
        refine lv_istore (lv' := [(9, .int ((pw + (fX4_bitsOf mm)) - ((fX4_fractionBits w) + (1:Int32)))), (8, .int y_5), (0, .int w), (2, .long mm), (4, .int pw), (5, .long y_1), (7, .int ((fX4_fractionBits w) + (1:Int32)))]) hx hb dX4_near_61 hl (by decide) rfl (fun ls hl => ?_)
        refine lv_iload hx hb dX4_near_63 (lv_at hl 0 rfl) ?_
        refine lv_iload hx hb dX4_near_65 (lv_at hl 1 rfl) ?_
        refine jn_1 (T := Int32) G A (if ((pw + (fX4_bitsOf mm)) - ((fX4_fractionBits w) + (1:Int32))) < y_5 then y_5 else ((pw + (fX4_bitsOf mm)) - ((fX4_fractionBits w) + (1:Int32)))) [] 17 (fun y => [(0, .int w), (2, .long mm), (4, .int pw), (5, .long y_1), (7, .int ((fX4_fractionBits w) + (1:Int32))), (8, .int y_5), (9, .int y)]) (fun y => []) 74 ?_ ?_
        · intro y_8 ey_8 H locs ls hP hD hS hl
          have hr_10 : fX4_near w mi mm pw = fX4_near_74 w mm pw y_1 y_5 y_8 := by rw [ey_8, hr_7, fX4_near_49]
          refine lv_iload hx hb dX4_near_74 (lv_at hl 6 rfl) ?_
          refine lv_iload hx hb dX4_near_76 (lv_at hl 2 rfl) ?_
          refine jn_1 (T := Int64) G A (if pw < y_8 then (if (63:Int32) < (y_8 - pw) then (0:Int64) else (if (shL (1:Int64) ((y_8 - pw) - (1:Int32))) < (mm &&& ((shL (1:Int64) (y_8 - pw)) - (1:Int64))) then ((shU mm (y_8 - pw)) + (1:Int64)) else (if (mm &&& ((shL (1:Int64) (y_8 - pw)) - (1:Int64))) = (shL (1:Int64) ((y_8 - pw) - (1:Int32))) then (if ((shU mm (y_8 - pw)) &&& (1:Int64)) = (1:Int64) then ((shU mm (y_8 - pw)) + (1:Int64)) else (shU mm (y_8 - pw))) else (shU mm (y_8 - pw))))) else (shL mm (pw - y_8))) [] 17 (fun y => [(0, .int w), (5, .long y_1), (7, .int ((fX4_fractionBits w) + (1:Int32))), (8, .int y_5), (9, .int y_8), (10, .long y)]) (fun y => []) 171 ?_ ?_
          · intro y_11 ey_11 H locs ls hP hD hS hl
            have hr_17 : fX4_near w mi mm pw = fX4_near_171 w y_1 y_5 y_8 y_11 := by rw [ey_11, hr_10, fX4_near_74]
            refine lv_lload hx hb dX4_near_171 (lv_at hl 5 rfl) ?_
            refine lv_lconst (v := (1:Int64)) hx hb dX4_near_173 (by decide) ?_
            refine lv_iload hx hb dX4_near_174 (lv_at hl 2 rfl) ?_
            refine r_lshl hx hb dX4_near_176 ?_
            refine jn_1 (T := Int32 × Int64) G A ((if y_11 = (shL (1:Int64) ((fX4_fractionBits w) + (1:Int32))) then (y_8 + (1:Int32)) else y_8), (if y_11 = (shL (1:Int64) ((fX4_fractionBits w) + (1:Int32))) then (shR y_11 (1:Int32)) else y_11)) [] 17 (fun y => [(0, .int w), (5, .long y_1), (7, .int ((fX4_fractionBits w) + (1:Int32))), (8, .int y_5), (9, .int y.1), (10, .long y.2)]) (fun y => []) 190 ?_ ?_
            · intro yy ey_18 H locs ls hP hD hS hl
              obtain ⟨y_18a, y_18b⟩ := yy
              obtain ⟨ey_18a, ey_18b⟩ := ep2_inj ey_18
              have hl : lv_has ls 17 [(0, .int w), (5, .long y_1), (7, .int ((fX4_fractionBits w) + (1:Int32))), (8, .int y_5), (9, .int y_18a), (10, .long y_18b)] := hl
              have hr_20 : fX4_near w mi mm pw = fX4_near_190 w y_1 y_5 y_18a y_18b := by rw [ey_18a, ey_18b, hr_17, fX4_near_171]
              refine lv_iload hx hb dX4_near_190 (lv_at hl 4 rfl) ?_
              refine lv_iload_n hx hb dX4_near_192 rfl (lv_at hl 0 rfl) ?_
              refine lv_iconst (v := (2:Int32)) hx hb dX4_near_193 (by decide) ?_
              refine jn_1 (T := Int32) G A (if w = (2:Int32) then (104:Int32) else (971:Int32)) [] 17 (fun y => [(0, .int w), (5, .long y_1), (7, .int ((fX4_fractionBits w) + (1:Int32))), (8, .int y_5), (9, .int y_18a), (10, .long y_18b)]) (fun y => [.int y, .int y_18a]) 205 ?_ ?_
              · intro y_21 ey_21 H locs ls hP hD hS hl
                have hr_23 : fX4_near w mi mm pw = fX4_near_205 w y_1 y_5 y_18a y_18b y_21 := by rw [ey_21, hr_20, fX4_near_190]
                refine bi_le (tgt := 220) hx hb dX4_near_205 (by decide) (fun c_24 => ?_) (fun c_24 => ?_)
                · refine lv_iload_n hx hb dX4_near_208 rfl (lv_at hl 0 rfl) ?_
                  refine lv_lload hx hb dX4_near_209 (lv_at hl 1 rfl) ?_
                  refine lv_iload_n hx hb dX4_near_211 rfl (lv_at hl 0 rfl) ?_
                  refine cs_l (As := [.int w]) (rest := [.long y_1, .int w]) ⟨hx, hb, hml, hown, hts⟩ (kX4_endless l G w) (va_cwS 1 hts gX4_near_X4_endless rfl rfl rfl (by decide +kernel) ⟨Nat.le_of_ble_eq_true rfl, Nat.le_of_ble_eq_true rfl⟩) hE hK hP hD hS hA hl.1 [] rfl rfl rfl rfl rfl rfl (Nat.le_of_ble_eq_true rfl) dX4_near_212 ⟨Nat.zero_le _, Nat.zero_le _⟩ (fun H locs hP hD hS => ?_)
                  have hP : va_P G.1 vwCl [] H := hP
                  have hD : va_D A [] := hD
                  refine lv_lor hx hb dX4_near_215 ?_
                  refine cs_l (As := [.int w, .long (y_1 ||| (fX4_endless w))]) (rest := []) ⟨hx, hb, hml, hown, hts⟩ (kX4_asCode l G w (y_1 ||| (fX4_endless w))) (va_cwS 2 hts gX4_near_X4_asCode rfl rfl rfl (by decide +kernel) ⟨Nat.le_of_ble_eq_true rfl, Nat.le_of_ble_eq_true rfl⟩) hE hK hP hD hS hA hl.1 [] rfl rfl rfl rfl rfl rfl (Nat.le_of_ble_eq_true rfl) dX4_near_216 ⟨Nat.zero_le _, Nat.zero_le _⟩ (fun H locs hP hD hS => ?_)
                  have hP : va_P G.1 vwCl [] H := hP
                  have hD : va_D A [] := hD
                  exact rt_l hx hb hr hlocks hP hD hS dX4_near_219 (by rw [hr_23, fX4_near_205, if_pos c_24])
                · refine lv_lconst (v := (1:Int64)) hx hb dX4_near_220 (by decide) ?_
                  refine lv_iload hx hb dX4_near_221 (lv_at hl 2 rfl) ?_
                  refine lv_iconst (v := (1:Int32)) hx hb dX4_near_223 (by decide) ?_
                  refine lv_isub hx hb dX4_near_224 ?_
                  refine r_lshl hx hb dX4_near_225 ?_
                  refine lv_lstore (lv' := [(12, .long (shL (1:Int64) (((fX4_fractionBits w) + (1:Int32)) - (1:Int32)))), (0, .int w), (5, .long y_1), (7, .int ((fX4_fractionBits w) + (1:Int32))), (8, .int y_5), (9, .int y_18a), (10, .long y_18b)]) hx hb dX4_near_226 hl (by decide) rfl (fun ls hl => ?_)
                  refine lv_lload hx hb dX4_near_228 (lv_at hl 6 rfl) ?_
                  refine lv_lload hx hb dX4_near_230 (lv_at hl 0 rfl) ?_
                  refine bl_ge (tgt := 246) hx hb dX4_near_232 dX4_near_233 (by decide) (fun c_25 => ?_) (fun c_25 => ?_)
                  · refine lv_iload_n hx hb dX4_near_236 rfl (lv_at hl 1 rfl) ?_
                    refine lv_lload hx hb dX4_near_237 (lv_at hl 2 rfl) ?_
                    refine lv_lload hx hb dX4_near_239 (lv_at hl 6 rfl) ?_
                    refine lv_lor hx hb dX4_near_241 ?_
                    refine cs_l (As := [.int w, .long (y_1 ||| y_18b)]) (rest := []) ⟨hx, hb, hml, hown, hts⟩ (kX4_asCode l G w (y_1 ||| y_18b)) (va_cwS 2 hts gX4_near_X4_asCode rfl rfl rfl (by decide +kernel) ⟨Nat.le_of_ble_eq_true rfl, Nat.le_of_ble_eq_true rfl⟩) hE hK hP hD hS hA hl.1 [] rfl rfl rfl rfl rfl rfl (Nat.le_of_ble_eq_true rfl) dX4_near_242 ⟨Nat.zero_le _, Nat.zero_le _⟩ (fun H locs hP hD hS => ?_)
                    have hP : va_P G.1 vwCl [] H := hP
                    have hD : va_D A [] := hD
                    exact rt_l hx hb hr hlocks hP hD hS dX4_near_245 (by rw [hr_23, fX4_near_205, if_neg c_24, if_pos c_25])
                  · refine lv_iload_n hx hb dX4_near_246 rfl (lv_at hl 1 rfl) ?_
                    refine lv_lload hx hb dX4_near_247 (lv_at hl 2 rfl) ?_
                    refine lv_iload hx hb dX4_near_249 (lv_at hl 5 rfl) ?_
                    refine lv_iload hx hb dX4_near_251 (lv_at hl 4 rfl) ?_
                    refine lv_isub hx hb dX4_near_253 ?_
                    refine lv_iconst (v := (1:Int32)) hx hb dX4_near_254 (by decide) ?_
                    refine lv_iadd hx hb dX4_near_255 ?_
                    refine r_i2l hx hb dX4_near_256 ?_
                    refine lv_iload hx hb dX4_near_257 (lv_at hl 3 rfl) ?_
                    refine lv_iconst (v := (1:Int32)) hx hb dX4_near_259 (by decide) ?_
                    refine lv_isub hx hb dX4_near_260 ?_
                    refine r_lshl hx hb dX4_near_261 ?_
                    refine lv_lor hx hb dX4_near_262 ?_
                    refine lv_lload hx hb dX4_near_263 (lv_at hl 6 rfl) ?_
                    refine lv_lload hx hb dX4_near_265 (lv_at hl 0 rfl) ?_
                    refine lv_lsub hx hb dX4_near_267 ?_
                    refine lv_lor hx hb dX4_near_268 ?_
                    refine cs_l (As := [.int w, .long ((y_1 ||| (shL (((y_18a - y_5) + (1:Int32)).toInt64) (((fX4_fractionBits w) + (1:Int32)) - (1:Int32)))) ||| (y_18b - (shL (1:Int64) (((fX4_fractionBits w) + (1:Int32)) - (1:Int32)))))]) (rest := []) ⟨hx, hb, hml, hown, hts⟩ (kX4_asCode l G w ((y_1 ||| (shL (((y_18a - y_5) + (1:Int32)).toInt64) (((fX4_fractionBits w) + (1:Int32)) - (1:Int32)))) ||| (y_18b - (shL (1:Int64) (((fX4_fractionBits w) + (1:Int32)) - (1:Int32)))))) (va_cwS 2 hts gX4_near_X4_asCode rfl rfl rfl (by decide +kernel) ⟨Nat.le_of_ble_eq_true rfl, Nat.le_of_ble_eq_true rfl⟩) hE hK hP hD hS hA hl.1 [] rfl rfl rfl rfl rfl rfl (Nat.le_of_ble_eq_true rfl) dX4_near_269 ⟨Nat.zero_le _, Nat.zero_le _⟩ (fun H locs hP hD hS => ?_)
                    have hP : va_P G.1 vwCl [] H := hP
                    have hD : va_D A [] := hD
                    exact rt_l hx hb hr hlocks hP hD hS dX4_near_272 (by rw [hr_23, fX4_near_205, if_neg c_24, if_neg c_25])
              · intro kj_21
                refine bi_ne (tgt := 202) hx hb dX4_near_194 (by decide) (fun c_22 => ?_) (fun c_22 => ?_)
                · refine lv_bipush (v := (104:Int32)) hx hb dX4_near_197 (by decide) ?_
                  refine lv_goto (tgt := 205) hx hb dX4_near_199 (by decide) ?_
                  exact kj_21 (104:Int32) (by rw [if_pos c_22]) _ _ _ hP hD hS (lv_sub hl [0, 1, 2, 3, 4, 5] rfl)
                · refine lv_sipush (v := (971:Int32)) hx hb dX4_near_202 (by decide) ?_
                  exact kj_21 (971:Int32) (by rw [if_neg c_22]) _ _ _ hP hD hS (lv_sub hl [0, 1, 2, 3, 4, 5] rfl)
            · intro kj_18
              refine bl_ne (tgt := 190) hx hb dX4_near_177 dX4_near_178 (by decide) (fun c_19 => ?_) (fun c_19 => ?_)
              · refine lv_lload hx hb dX4_near_181 (lv_at hl 5 rfl) ?_
                refine lv_iconst (v := (1:Int32)) hx hb dX4_near_183 (by decide) ?_
                refine r_lshr hx hb dX4_near_184 ?_
                refine lv_lstore (lv' := [(10, .long (shR y_11 (1:Int32))), (0, .int w), (5, .long y_1), (7, .int ((fX4_fractionBits w) + (1:Int32))), (8, .int y_5), (9, .int y_8)]) hx hb dX4_near_185 hl (by decide) rfl (fun ls hl => ?_)
                refine lv_iinc (v := (y_8 + (1:Int32))) (lv' := [(9, .int (y_8 + (1:Int32))), (10, .long (shR y_11 (1:Int32))), (0, .int w), (5, .long y_1), (7, .int ((fX4_fractionBits w) + (1:Int32))), (8, .int y_5)]) hx hb dX4_near_187 hl (k := 5) rfl (by rfl) (by decide) rfl (fun ls hl => ?_)
                exact kj_18 ((y_8 + (1:Int32)), (shR y_11 (1:Int32))) (by simp only [if_pos c_19]) _ _ _ hP hD hS (lv_sub hl [2, 3, 4, 5, 0, 1] rfl)
              · exact kj_18 (y_8, y_11) (by simp only [if_neg c_19]) _ _ _ hP hD hS (lv_sub hl [0, 1, 2, 3, 4, 5] rfl)
          · intro kj_11
            refine bi_gt (tgt := 93) hx hb dX4_near_78 (by decide) (fun c_12 => ?_) (fun c_12 => ?_)
            · refine lv_iload hx hb dX4_near_93 (lv_at hl 6 rfl) ?_
              refine lv_iload hx hb dX4_near_95 (lv_at hl 2 rfl) ?_
              refine lv_isub hx hb dX4_near_97 ?_
              refine lv_bipush (v := (63:Int32)) hx hb dX4_near_98 (by decide) ?_
              refine bi_le (tgt := 109) hx hb dX4_near_100 (by decide) (fun c_13 => ?_) (fun c_13 => ?_)
              · refine lv_lconst (v := (0:Int64)) hx hb dX4_near_103 (by decide) ?_
                refine lv_lstore (lv' := [(10, .long (0:Int64)), (0, .int w), (2, .long mm), (4, .int pw), (5, .long y_1), (7, .int ((fX4_fractionBits w) + (1:Int32))), (8, .int y_5), (9, .int y_8)]) hx hb dX4_near_104 hl (by decide) rfl (fun ls hl => ?_)
                refine lv_goto (tgt := 171) hx hb dX4_near_106 (by decide) ?_
                exact kj_11 (0:Int64) (by rw [if_pos c_12, if_pos c_13]) _ _ _ hP hD hS (lv_sub hl [1, 4, 5, 6, 7, 0] rfl)
              · refine lv_iload hx hb dX4_near_109 (lv_at hl 6 rfl) ?_
                refine lv_iload hx hb dX4_near_111 (lv_at hl 2 rfl) ?_
                refine lv_isub hx hb dX4_near_113 ?_
                refine lv_istore (lv' := [(12, .int (y_8 - pw)), (0, .int w), (2, .long mm), (4, .int pw), (5, .long y_1), (7, .int ((fX4_fractionBits w) + (1:Int32))), (8, .int y_5), (9, .int y_8)]) hx hb dX4_near_114 hl (by decide) rfl (fun ls hl => ?_)
                refine lv_lload_n hx hb dX4_near_116 rfl (lv_at hl 2 rfl) ?_
                refine lv_iload hx hb dX4_near_117 (lv_at hl 0 rfl) ?_
                refine r_lushr hx hb dX4_near_119 ?_
                refine lv_lstore (lv' := [(10, .long (shU mm (y_8 - pw))), (12, .int (y_8 - pw)), (0, .int w), (2, .long mm), (4, .int pw), (5, .long y_1), (7, .int ((fX4_fractionBits w) + (1:Int32))), (8, .int y_5), (9, .int y_8)]) hx hb dX4_near_120 hl (by decide) rfl (fun ls hl => ?_)
                refine lv_lload_n hx hb dX4_near_122 rfl (lv_at hl 3 rfl) ?_
                refine lv_lconst (v := (1:Int64)) hx hb dX4_near_123 (by decide) ?_
                refine lv_iload hx hb dX4_near_124 (lv_at hl 1 rfl) ?_
                refine r_lshl hx hb dX4_near_126 ?_
                refine lv_lconst (v := (1:Int64)) hx hb dX4_near_127 (by decide) ?_
                refine lv_lsub hx hb dX4_near_128 ?_
                refine lv_land hx hb dX4_near_129 ?_
                refine lv_lstore (lv' := [(13, .long (mm &&& ((shL (1:Int64) (y_8 - pw)) - (1:Int64)))), (10, .long (shU mm (y_8 - pw))), (12, .int (y_8 - pw)), (0, .int w), (2, .long mm), (4, .int pw), (5, .long y_1), (7, .int ((fX4_fractionBits w) + (1:Int32))), (8, .int y_5), (9, .int y_8)]) hx hb dX4_near_130 hl (by decide) rfl (fun ls hl => ?_)
                refine lv_lconst (v := (1:Int64)) hx hb dX4_near_132 (by decide) ?_
                refine lv_iload hx hb dX4_near_133 (lv_at hl 2 rfl) ?_
                refine lv_iconst (v := (1:Int32)) hx hb dX4_near_135 (by decide) ?_
                refine lv_isub hx hb dX4_near_136 ?_
                refine r_lshl hx hb dX4_near_137 ?_
                refine lv_lstore (lv' := [(15, .long (shL (1:Int64) ((y_8 - pw) - (1:Int32)))), (13, .long (mm &&& ((shL (1:Int64) (y_8 - pw)) - (1:Int64)))), (10, .long (shU mm (y_8 - pw))), (12, .int (y_8 - pw)), (0, .int w), (2, .long mm), (4, .int pw), (5, .long y_1), (7, .int ((fX4_fractionBits w) + (1:Int32))), (8, .int y_5), (9, .int y_8)]) hx hb dX4_near_138 hl (by decide) rfl (fun ls hl => ?_)
                refine lv_lload hx hb dX4_near_140 (lv_at hl 1 rfl) ?_
                refine lv_lload hx hb dX4_near_142 (lv_at hl 0 rfl) ?_
                refine bl_gt (tgt := 165) hx hb dX4_near_144 dX4_near_145 (by decide) (fun c_14 => ?_) (fun c_14 => ?_)
                · refine lv_lload hx hb dX4_near_165 (lv_at hl 2 rfl) ?_
                  refine lv_lconst (v := (1:Int64)) hx hb dX4_near_167 (by decide) ?_
                  refine lv_ladd hx hb dX4_near_168 ?_
                  refine lv_lstore (lv' := [(10, .long ((shU mm (y_8 - pw)) + (1:Int64))), (15, .long (shL (1:Int64) ((y_8 - pw) - (1:Int32)))), (13, .long (mm &&& ((shL (1:Int64) (y_8 - pw)) - (1:Int64)))), (12, .int (y_8 - pw)), (0, .int w), (2, .long mm), (4, .int pw), (5, .long y_1), (7, .int ((fX4_fractionBits w) + (1:Int32))), (8, .int y_5), (9, .int y_8)]) hx hb dX4_near_169 hl (by decide) rfl (fun ls hl => ?_)
                  exact kj_11 ((shU mm (y_8 - pw)) + (1:Int64)) (by rw [if_pos c_12, if_neg c_13, if_pos c_14]) _ _ _ hP hD hS (lv_sub hl [4, 7, 8, 9, 10, 0] rfl)
                · refine lv_lload hx hb dX4_near_148 (lv_at hl 1 rfl) ?_
                  refine lv_lload hx hb dX4_near_150 (lv_at hl 0 rfl) ?_
                  refine bl_ne (tgt := 171) hx hb dX4_near_152 dX4_near_153 (by decide) (fun c_15 => ?_) (fun c_15 => ?_)
                  · refine lv_lload hx hb dX4_near_156 (lv_at hl 2 rfl) ?_
                    refine lv_lconst (v := (1:Int64)) hx hb dX4_near_158 (by decide) ?_
                    refine lv_land hx hb dX4_near_159 ?_
                    refine lv_lconst (v := (1:Int64)) hx hb dX4_near_160 (by decide) ?_
                    refine bl_ne (tgt := 171) hx hb dX4_near_161 dX4_near_162 (by decide) (fun c_16 => ?_) (fun c_16 => ?_)
                    · refine lv_lload hx hb dX4_near_165 (lv_at hl 2 rfl) ?_
                      refine lv_lconst (v := (1:Int64)) hx hb dX4_near_167 (by decide) ?_
                      refine lv_ladd hx hb dX4_near_168 ?_
                      refine lv_lstore (lv' := [(10, .long ((shU mm (y_8 - pw)) + (1:Int64))), (15, .long (shL (1:Int64) ((y_8 - pw) - (1:Int32)))), (13, .long (mm &&& ((shL (1:Int64) (y_8 - pw)) - (1:Int64)))), (12, .int (y_8 - pw)), (0, .int w), (2, .long mm), (4, .int pw), (5, .long y_1), (7, .int ((fX4_fractionBits w) + (1:Int32))), (8, .int y_5), (9, .int y_8)]) hx hb dX4_near_169 hl (by decide) rfl (fun ls hl => ?_)
                      exact kj_11 ((shU mm (y_8 - pw)) + (1:Int64)) (by rw [if_pos c_12, if_neg c_13, if_neg c_14, if_pos c_15, if_pos c_16]) _ _ _ hP hD hS (lv_sub hl [4, 7, 8, 9, 10, 0] rfl)
                    · exact kj_11 (shU mm (y_8 - pw)) (by rw [if_pos c_12, if_neg c_13, if_neg c_14, if_pos c_15, if_neg c_16]) _ _ _ hP hD hS (lv_sub hl [4, 7, 8, 9, 10, 2] rfl)
                  · exact kj_11 (shU mm (y_8 - pw)) (by rw [if_pos c_12, if_neg c_13, if_neg c_14, if_neg c_15]) _ _ _ hP hD hS (lv_sub hl [4, 7, 8, 9, 10, 2] rfl)
            · refine lv_lload_n hx hb dX4_near_81 rfl (lv_at hl 1 rfl) ?_
              refine lv_iload hx hb dX4_near_82 (lv_at hl 2 rfl) ?_
              refine lv_iload hx hb dX4_near_84 (lv_at hl 6 rfl) ?_
              refine lv_isub hx hb dX4_near_86 ?_
              refine r_lshl hx hb dX4_near_87 ?_
              refine lv_lstore (lv' := [(10, .long (shL mm (pw - y_8))), (0, .int w), (2, .long mm), (4, .int pw), (5, .long y_1), (7, .int ((fX4_fractionBits w) + (1:Int32))), (8, .int y_5), (9, .int y_8)]) hx hb dX4_near_88 hl (by decide) rfl (fun ls hl => ?_)
              refine lv_goto (tgt := 171) hx hb dX4_near_90 (by decide) ?_
              exact kj_11 (shL mm (pw - y_8)) (by rw [if_neg c_12]) _ _ _ hP hD hS (lv_sub hl [1, 4, 5, 6, 7, 0] rfl)
        · intro kj_8
          refine bi_ge (tgt := 74) hx hb dX4_near_67 (by decide) (fun c_9 => ?_) (fun c_9 => ?_)
          · refine lv_iload hx hb dX4_near_70 (lv_at hl 1 rfl) ?_
            refine lv_istore (lv' := [(9, .int y_5), (8, .int y_5), (0, .int w), (2, .long mm), (4, .int pw), (5, .long y_1), (7, .int ((fX4_fractionBits w) + (1:Int32)))]) hx hb dX4_near_72 hl (by decide) rfl (fun ls hl => ?_)
            exact kj_8 y_5 (by rw [if_pos c_9]) _ _ _ hP hD hS (lv_sub hl [2, 3, 4, 5, 6, 1, 0] rfl)
          · exact kj_8 ((pw + (fX4_bitsOf mm)) - ((fX4_fractionBits w) + (1:Int32))) (by rw [if_neg c_9]) _ _ _ hP hD hS (lv_sub hl [2, 3, 4, 5, 6, 1, 0] rfl)
      · intro kj_5
        refine bi_ne (tgt := 46) hx hb dX4_near_37 (by decide) (fun c_6 => ?_) (fun c_6 => ?_)
        · refine lv_sipush (v := (-149:Int32)) hx hb dX4_near_40 (by decide) ?_
          refine lv_goto (tgt := 49) hx hb dX4_near_43 (by decide) ?_
          exact kj_5 (-149:Int32) (by rw [if_pos c_6]) _ _ _ hP hD hS (lv_sub hl [2, 3, 4, 1, 0] rfl)
        · refine lv_sipush (v := (-1074:Int32)) hx hb dX4_near_46 (by decide) ?_
          exact kj_5 (-1074:Int32) (by rw [if_neg c_6]) _ _ _ hP hD hS (lv_sub hl [2, 3, 4, 1, 0] rfl)
  · intro kj_1
    refine bz_eq (tgt := 11) hx hb dX4_near_1 (by decide) (fun c_2 => ?_) (fun c_2 => ?_)
    · refine lv_lconst (v := (0:Int64)) hx hb dX4_near_11 (by decide) ?_
      exact kj_1 (0:Int64) (by rw [if_pos c_2]) _ _ _ hP hD hS (lv_sub hl [0, 2, 3] rfl)
    · refine lv_iload_n hx hb dX4_near_4 rfl (lv_at hl 0 rfl) ?_
      refine cs_l (As := [.int w]) (rest := []) ⟨hx, hb, hml, hown, hts⟩ (kX4_signBit l G w) (va_cwS 1 hts gX4_near_X4_signBit rfl rfl rfl (by decide +kernel) ⟨Nat.le_of_ble_eq_true rfl, Nat.le_of_ble_eq_true rfl⟩) hE hK hP hD hS hA hl.1 [] rfl rfl rfl rfl rfl rfl (Nat.le_of_ble_eq_true rfl) dX4_near_5 ⟨Nat.zero_le _, Nat.zero_le _⟩ (fun H locs hP hD hS => ?_)
      have hP : va_P G.1 vwCl [] H := hP
      have hD : va_D A [] := hD
      refine lv_goto (tgt := 12) hx hb dX4_near_8 (by decide) ?_
      exact kj_1 (fX4_signBit w) (by rw [if_neg c_2]) _ _ _ hP hD hS (lv_sub hl [0, 2, 3] rfl)
