def fX4_held_77 (mi : Int32) (y_1 : Int64) (y_4 : Int32) (y_8 : Int64) : Int64 := (if mi = 0 then (if y_1 < y_8 then y_1 else y_8) else (if y_4 = 0 then (if y_1 < y_8 then ((-y_1) - (1:Int64)) else (-y_8)) else ((-y_1) - (1:Int64))))
def fX4_held_37 (mi : Int32) (mm : Int64) (pw : Int32) (y_1 : Int64) (y_4 : Int32) : Int64 := (fX4_held_77 mi y_1 y_4 (if y_4 = 0 then (if pw < 0 then (if pw < (-63:Int32) then (0:Int64) else (shR mm (-pw))) else (shL mm pw)) else y_1))
def fX4_held_13 (mi : Int32) (mm : Int64) (pw : Int32) (y_1 : Int64) : Int64 := (fX4_held_37 mi mm pw y_1 (if 0 < pw then (if (63:Int32) < ((fX4_bitsOf mm) + pw) then (1:Int32) else (0:Int32)) else (0:Int32)))
def fX4_held (to : Int32) (mi : Int32) (mm : Int64) (pw : Int32) : Int64 := (fX4_held_13 mi mm pw (if to = 0 then (2147483647:Int64) else (9223372036854775807:Int64)))
set_option maxHeartbeats 4000000 in
set_option maxRecDepth 100000 in
theorem kX4_held (l : Launch) (G : GT) (to : Int32) (mi : Int32) (mm : Int64) (pw : Int32) : CL l yX4_held wsX4_held { frames := 1, cells := 0, slots := 0, locals := 23 } G [.int to, .int mi, .long mm, .int pw] [] (fX4_held to mi mm pw) [] := by
  refine en_l (cc := cX4_held) (maxL := 10) (ret := (some .long)) (own := RX4) (by decide) rfl rfl (Nat.le_of_ble_eq_true rfl) ?_
  intro p e s m below meth c A ls hx hb hr hts hown hml hlocks hA hK hE hP hD hS hl
  have hl : lv_has ls 10 [(0, .int to), (1, .int mi), (2, .long mm), (4, .int pw)] := hl
  refine lv_iload_n hx hb dX4_held_0 rfl (lv_at hl 0 rfl) ?_
  refine jn_1 (T := Int64) G A (if to = 0 then (2147483647:Int64) else (9223372036854775807:Int64)) [] 10 (fun y => [(1, .int mi), (2, .long mm), (4, .int pw)]) (fun y => [.long y]) 13 ?_ ?_
  · intro y_1 ey_1 H locs ls hP hD hS hl
    have hr_3 : fX4_held to mi mm pw = fX4_held_13 mi mm pw y_1 := by rw [ey_1, fX4_held]
    refine lv_lstore (lv' := [(5, .long y_1), (1, .int mi), (2, .long mm), (4, .int pw)]) hx hb dX4_held_13 hl (by decide) rfl (fun ls hl => ?_)
    refine lv_iload hx hb dX4_held_15 (lv_at hl 3 rfl) ?_
    refine jn_1 (T := Int32) G A (if 0 < pw then (if (63:Int32) < ((fX4_bitsOf mm) + pw) then (1:Int32) else (0:Int32)) else (0:Int32)) [] 10 (fun y => [(1, .int mi), (2, .long mm), (4, .int pw), (5, .long y_1)]) (fun y => [.int y]) 37 ?_ ?_
    · intro y_4 ey_4 H locs ls hP hD hS hl
      have hr_7 : fX4_held to mi mm pw = fX4_held_37 mi mm pw y_1 y_4 := by rw [ey_4, hr_3, fX4_held_13]
      refine lv_istore (lv' := [(7, .int y_4), (1, .int mi), (2, .long mm), (4, .int pw), (5, .long y_1)]) hx hb dX4_held_37 hl (by decide) rfl (fun ls hl => ?_)
      refine lv_iload hx hb dX4_held_39 (lv_at hl 0 rfl) ?_
      refine jn_1 (T := Int64) G A (if y_4 = 0 then (if pw < 0 then (if pw < (-63:Int32) then (0:Int64) else (shR mm (-pw))) else (shL mm pw)) else y_1) [] 10 (fun y => [(1, .int mi), (5, .long y_1), (7, .int y_4)]) (fun y => [.long y]) 77 ?_ ?_
      · intro y_8 ey_8 H locs ls hP hD hS hl
        have hr_12 : fX4_held to mi mm pw = fX4_held_77 mi y_1 y_4 y_8 := by rw [ey_8, hr_7, fX4_held_37]
        refine lv_lstore (lv' := [(8, .long y_8), (1, .int mi), (5, .long y_1), (7, .int y_4)]) hx hb dX4_held_77 hl (by decide) rfl (fun ls hl => ?_)
        refine lv_iload_n hx hb dX4_held_79 rfl (lv_at hl 1 rfl) ?_
        refine bz_eq (tgt := 108) hx hb dX4_held_80 (by decide) (fun c_13 => ?_) (fun c_13 => ?_)
        · refine lv_lload hx hb dX4_held_108 (lv_at hl 0 rfl) ?_
          refine lv_lload hx hb dX4_held_110 (lv_at hl 2 rfl) ?_
          refine bl_le (tgt := 121) hx hb dX4_held_112 dX4_held_113 (by decide) (fun c_14 => ?_) (fun c_14 => ?_)
          · refine lv_lload hx hb dX4_held_116 (lv_at hl 2 rfl) ?_
            refine lv_goto (tgt := 123) hx hb dX4_held_118 (by decide) ?_
            exact rt_l hx hb hr hlocks hP hD hS dX4_held_123 (by rw [hr_12, fX4_held_77, if_pos c_13, if_pos c_14])
          · refine lv_lload hx hb dX4_held_121 (lv_at hl 0 rfl) ?_
            exact rt_l hx hb hr hlocks hP hD hS dX4_held_123 (by rw [hr_12, fX4_held_77, if_pos c_13, if_neg c_14])
        · refine lv_iload hx hb dX4_held_83 (lv_at hl 3 rfl) ?_
          refine bz_ne (tgt := 96) hx hb dX4_held_85 (by decide) (fun c_15 => ?_) (fun c_15 => ?_)
          · refine lv_lload hx hb dX4_held_88 (lv_at hl 0 rfl) ?_
            refine lv_lload hx hb dX4_held_90 (lv_at hl 2 rfl) ?_
            refine bl_le (tgt := 104) hx hb dX4_held_92 dX4_held_93 (by decide) (fun c_16 => ?_) (fun c_16 => ?_)
            · refine lv_lload hx hb dX4_held_96 (lv_at hl 2 rfl) ?_
              refine lv_lneg hx hb dX4_held_98 ?_
              refine lv_lconst (v := (1:Int64)) hx hb dX4_held_99 (by decide) ?_
              refine lv_lsub hx hb dX4_held_100 ?_
              refine lv_goto (tgt := 107) hx hb dX4_held_101 (by decide) ?_
              exact rt_l hx hb hr hlocks hP hD hS dX4_held_107 (by rw [hr_12, fX4_held_77, if_neg c_13, if_pos c_15, if_pos c_16])
            · refine lv_lload hx hb dX4_held_104 (lv_at hl 0 rfl) ?_
              refine lv_lneg hx hb dX4_held_106 ?_
              exact rt_l hx hb hr hlocks hP hD hS dX4_held_107 (by rw [hr_12, fX4_held_77, if_neg c_13, if_pos c_15, if_neg c_16])
          · refine lv_lload hx hb dX4_held_96 (lv_at hl 2 rfl) ?_
            refine lv_lneg hx hb dX4_held_98 ?_
            refine lv_lconst (v := (1:Int64)) hx hb dX4_held_99 (by decide) ?_
            refine lv_lsub hx hb dX4_held_100 ?_
            refine lv_goto (tgt := 107) hx hb dX4_held_101 (by decide) ?_
            exact rt_l hx hb hr hlocks hP hD hS dX4_held_107 (by rw [hr_12, fX4_held_77, if_neg c_13, if_neg c_15])
      · intro kj_8
        refine bz_eq (tgt := 49) hx hb dX4_held_41 (by decide) (fun c_9 => ?_) (fun c_9 => ?_)
        · refine lv_iload hx hb dX4_held_49 (lv_at hl 3 rfl) ?_
          refine bz_lt (tgt := 61) hx hb dX4_held_51 (by decide) (fun c_10 => ?_) (fun c_10 => ?_)
          · refine lv_iload hx hb dX4_held_61 (lv_at hl 3 rfl) ?_
            refine lv_bipush (v := (-63:Int32)) hx hb dX4_held_63 (by decide) ?_
            refine bi_ge (tgt := 72) hx hb dX4_held_65 (by decide) (fun c_11 => ?_) (fun c_11 => ?_)
            · refine lv_lconst (v := (0:Int64)) hx hb dX4_held_68 (by decide) ?_
              refine lv_goto (tgt := 77) hx hb dX4_held_69 (by decide) ?_
              exact kj_8 (0:Int64) (by rw [if_pos c_9, if_pos c_10, if_pos c_11]) _ _ _ hP hD hS (lv_sub hl [1, 4, 0] rfl)
            · refine lv_lload_n hx hb dX4_held_72 rfl (lv_at hl 2 rfl) ?_
              refine lv_iload hx hb dX4_held_73 (lv_at hl 3 rfl) ?_
              refine lv_ineg hx hb dX4_held_75 ?_
              refine r_lshr hx hb dX4_held_76 ?_
              exact kj_8 (shR mm (-pw)) (by rw [if_pos c_9, if_pos c_10, if_neg c_11]) _ _ _ hP hD hS (lv_sub hl [1, 4, 0] rfl)
          · refine lv_lload_n hx hb dX4_held_54 rfl (lv_at hl 2 rfl) ?_
            refine lv_iload hx hb dX4_held_55 (lv_at hl 3 rfl) ?_
            refine r_lshl hx hb dX4_held_57 ?_
            refine lv_goto (tgt := 77) hx hb dX4_held_58 (by decide) ?_
            exact kj_8 (shL mm pw) (by rw [if_pos c_9, if_neg c_10]) _ _ _ hP hD hS (lv_sub hl [1, 4, 0] rfl)
        · refine lv_lload hx hb dX4_held_44 (lv_at hl 4 rfl) ?_
          refine lv_goto (tgt := 77) hx hb dX4_held_46 (by decide) ?_
          exact kj_8 y_1 (by rw [if_neg c_9]) _ _ _ hP hD hS (lv_sub hl [1, 4, 0] rfl)
    · intro kj_4
      refine bz_le (tgt := 36) hx hb dX4_held_17 (by decide) (fun c_5 => ?_) (fun c_5 => ?_)
      · refine lv_lload_n hx hb dX4_held_20 rfl (lv_at hl 2 rfl) ?_
        refine cs_i (As := [.long mm]) (rest := []) ⟨hx, hb, hml, hown, hts⟩ (kX4_bitsOf l G mm) (va_cwS 1 hts gX4_held_X4_bitsOf rfl rfl rfl (by decide +kernel) ⟨Nat.le_of_ble_eq_true rfl, Nat.le_of_ble_eq_true rfl⟩) hE hK hP hD hS hA hl.1 [] rfl rfl rfl rfl rfl rfl (Nat.le_of_ble_eq_true rfl) dX4_held_21 ⟨Nat.zero_le _, Nat.zero_le _⟩ (fun H locs hP hD hS => ?_)
        have hP : va_P G.1 vwCl [] H := hP
        have hD : va_D A [] := hD
        refine lv_iload hx hb dX4_held_24 (lv_at hl 3 rfl) ?_
        refine lv_iadd hx hb dX4_held_26 ?_
        refine lv_bipush (v := (63:Int32)) hx hb dX4_held_27 (by decide) ?_
        refine bi_le (tgt := 36) hx hb dX4_held_29 (by decide) (fun c_6 => ?_) (fun c_6 => ?_)
        · refine lv_iconst (v := (1:Int32)) hx hb dX4_held_32 (by decide) ?_
          refine lv_goto (tgt := 37) hx hb dX4_held_33 (by decide) ?_
          exact kj_4 (1:Int32) (by rw [if_pos c_5, if_pos c_6]) _ _ _ hP hD hS (lv_sub hl [1, 2, 3, 0] rfl)
        · refine lv_iconst (v := (0:Int32)) hx hb dX4_held_36 (by decide) ?_
          exact kj_4 (0:Int32) (by rw [if_pos c_5, if_neg c_6]) _ _ _ hP hD hS (lv_sub hl [1, 2, 3, 0] rfl)
      · refine lv_iconst (v := (0:Int32)) hx hb dX4_held_36 (by decide) ?_
        exact kj_4 (0:Int32) (by rw [if_neg c_5]) _ _ _ hP hD hS (lv_sub hl [1, 2, 3, 0] rfl)
  · intro kj_1
    refine bz_ne (tgt := 10) hx hb dX4_held_1 (by decide) (fun c_2 => ?_) (fun c_2 => ?_)
    · refine lv_ldc2 (v := (2147483647:Int64)) hx hb hown (hts (.constantLong RX4 131 (2147483647)) (by decide +kernel)) dX4_held_4 ?_
      refine lv_goto (tgt := 13) hx hb dX4_held_7 (by decide) ?_
      exact kj_1 (2147483647:Int64) (by rw [if_pos c_2]) _ _ _ hP hD hS (lv_sub hl [1, 2, 3] rfl)
    · refine lv_ldc2 (v := (9223372036854775807:Int64)) hx hb hown (hts (.constantLong RX4 133 (9223372036854775807)) (by decide +kernel)) dX4_held_10 ?_
      exact kj_1 (9223372036854775807:Int64) (by rw [if_neg c_2]) _ _ _ hP hD hS (lv_sub hl [1, 2, 3] rfl)
