/-- the digits' top bit comes to the front: at most n steps -/
def lpR : Nat → Int64 → Int32 → Int64 × Int32
  | 0, t, e => (t, e)
  | n + 1, t, e => if (0:Int64) < t then lpR n (shL t (1:Int32)) (e + (-1:Int32)) else (t, e)
theorem lpR_end1 {k : Nat} {t : Int64} {e : Int32} (hk : k ≤ 63) (h : ¬ (nI k) < (63:Int32)) : lpR (63 - k) t e = (t, e) := by
  have h2 : ¬ k < 63 := fun g => h (show nI k < nI 63 from (nI_ltI (by omega) (by omega)).mpr g)
  have h3 : 63 - k = 0 := by omega
  rw [h3, lpR]
theorem lpR_end2 {n : Nat} {t : Int64} {e : Int32} (h : ¬ (0:Int64) < t) : lpR n t e = (t, e) := by
  cases n with
  | zero => rw [lpR]
  | succ n => rw [lpR, if_neg h]
theorem lpR_k {k : Nat} (hk : k ≤ 63) (h : (nI k) < (63:Int32)) : k < 63 := (nI_ltI (by omega) (by omega)).mp (show nI k < nI 63 from h)
theorem lpR_step {k : Nat} {t : Int64} {e : Int32} (hk : k < 63) (h : (0:Int64) < t) : lpR (63 - k) t e = lpR (63 - (k + 1)) (shL t (1:Int32)) (e + (-1:Int32)) := by
  have h3 : 63 - k = (63 - (k + 1)) + 1 := by omega
  rw [h3, lpR, if_pos h]
def sc63 (sc : Int32) : Int32 := sc + (63:Int32)
def fX1_rounded_137 (i : Nat) (ex : Int32) (y_5 : Int64) : Int64 := (if (fX1_infinite i) < (y_5 + (shL ((if (ex + (so_bias i)) < (1:Int32) then (1:Int32) else (ex + (so_bias i))).toInt64 - (1:Int64)) (so_frac i))) then (fX1_infinite i) else (y_5 + (shL ((if (ex + (so_bias i)) < (1:Int32) then (1:Int32) else (ex + (so_bias i))).toInt64 - (1:Int64)) (so_frac i))))
def fX1_rounded_93 (i : Nat) (tp : Int64) (ex : Int32) (y_2 : Int64) : Int64 := (fX1_rounded_137 i ex (if (fX1_isOverHalf (shL tp ((64:Int32) - (((63:Int32) - (so_frac i)) + (if (0:Int32) < ((1:Int32) - (ex + (so_bias i))) then ((1:Int32) - (ex + (so_bias i))) else (0:Int32)))))) = 0 then (if (shL tp ((64:Int32) - (((63:Int32) - (so_frac i)) + (if (0:Int32) < ((1:Int32) - (ex + (so_bias i))) then ((1:Int32) - (ex + (so_bias i))) else (0:Int32))))) = (-9223372036854775808:Int64) then (if (y_2 &&& (1:Int64)) = (0:Int64) then y_2 else (y_2 + (1:Int64))) else y_2) else (y_2 + (1:Int64))))
def fX1_rounded_41 (i : Nat) (tp : Int64) (ex : Int32) : Int64 := (if (64:Int32) < (((63:Int32) - (so_frac i)) + (if (0:Int32) < ((1:Int32) - (ex + (so_bias i))) then ((1:Int32) - (ex + (so_bias i))) else (0:Int32))) then (0:Int64) else (fX1_rounded_93 i tp ex (if (((63:Int32) - (so_frac i)) + (if (0:Int32) < ((1:Int32) - (ex + (so_bias i))) then ((1:Int32) - (ex + (so_bias i))) else (0:Int32))) = (64:Int32) then (0:Int64) else (shU tp (((63:Int32) - (so_frac i)) + (if (0:Int32) < ((1:Int32) - (ex + (so_bias i))) then ((1:Int32) - (ex + (so_bias i))) else (0:Int32)))))))
def fX1_rounded (i : Nat) (dg : Int64) (sc : Int32) : Int64 := fX1_rounded_41 i (lpR 63 dg (sc + (63:Int32))).1 (lpR 63 dg (sc + (63:Int32))).2
set_option maxHeartbeats 4000000 in
set_option maxRecDepth 100000 in
theorem kX1_rounded (l : Launch) (G : GT) (i : Nat) (dg : Int64) (sc : Int32) (hi : i < 4) : CL l yX1_rounded wsX1_rounded { frames := 1, cells := 0, slots := 0, locals := 21 } G [.ref (G.2.2.1 i), .long dg, .int sc] [] (fX1_rounded i dg sc) [] := by
  refine en_l (cc := cX1_rounded) (maxL := 15) (ret := (some .long)) (own := RX1) (by decide) rfl rfl (Nat.le_of_ble_eq_true rfl) ?_
  intro p e s m below meth c A ls hx hb hr hts hown hml hlocks hA hK hE hP hD hS hl
  have hl : lv_has ls 15 [(0, .ref (G.2.2.1 i)), (1, .long dg), (3, .int sc)] := hl
  refine lv_lload_n hx hb dX1_rounded_0 rfl (lv_at hl 1 rfl) ?_
  refine lv_lstore (lv' := [(4, .long dg), (0, .ref (G.2.2.1 i)), (1, .long dg), (3, .int sc)]) hx hb dX1_rounded_1 hl (by decide) rfl (fun ls hl => ?_)
  refine lv_iload_n hx hb dX1_rounded_3 rfl (lv_at hl 3 rfl) ?_
  refine lv_bipush (v := (63:Int32)) hx hb dX1_rounded_4 (by decide) ?_
  refine lv_iadd hx hb dX1_rounded_6 ?_
  refine lv_istore (lv' := [(6, .int (sc + (63:Int32))), (4, .long dg), (0, .ref (G.2.2.1 i)), (1, .long dg), (3, .int sc)]) hx hb dX1_rounded_7 hl (by decide) rfl (fun ls hl => ?_)
  refine lv_iconst (v := (0:Int32)) hx hb dX1_rounded_9 (by decide) ?_
  refine lv_istore (lv' := [(7, .int (0:Int32)), (6, .int (sc + (63:Int32))), (4, .long dg), (0, .ref (G.2.2.1 i)), (1, .long dg), (3, .int sc)]) hx hb dX1_rounded_10 hl (by decide) rfl (fun ls hl => ?_)
  refine jn_1 (T := Int64 × Int32) G A (lpR 63 dg (sc + (63:Int32))) [] 15 (fun y => [(0, .ref (G.2.2.1 i)), (4, .long y.1), (6, .int y.2)]) (fun y => []) 41 ?_ ?_
  · intro yy eyy H locs ls hP hD hS hl
    obtain ⟨tp, ex⟩ := yy
    have hl : lv_has ls 15 [(0, .ref (G.2.2.1 i)), (4, .long tp), (6, .int ex)] := hl
    have hr9 : fX1_rounded i dg sc = fX1_rounded_41 i tp ex := by rw [fX1_rounded, ← eyy]
    refine lv_iload hx hb dX1_rounded_41 (lv_at hl 2 rfl) ?_
    refine lv_aload_n hx hb dX1_rounded_43 rfl (lv_at hl 0 rfl) ?_
    refine sg_bias hx hb hE hi hS hown (hts (.fieldLink RX1 44 "PedalBoard$Sort" "bias" "I") (by decide +kernel)) dX1_rounded_44 ?_
    refine lv_iadd hx hb dX1_rounded_47 ?_
    refine lv_istore (lv' := [(7, .int (ex + (so_bias i))), (0, .ref (G.2.2.1 i)), (4, .long tp), (6, .int ex)]) hx hb dX1_rounded_48 hl (by decide) rfl (fun ls hl => ?_)
    refine lv_bipush (v := (63:Int32)) hx hb dX1_rounded_50 (by decide) ?_
    refine lv_aload_n hx hb dX1_rounded_52 rfl (lv_at hl 1 rfl) ?_
    refine sg_fraction hx hb hE hi hS hown (hts (.fieldLink RX1 41 "PedalBoard$Sort" "fraction" "I") (by decide +kernel)) dX1_rounded_53 ?_
    refine lv_isub hx hb dX1_rounded_56 ?_
    refine lv_iconst (v := (0:Int32)) hx hb dX1_rounded_57 (by decide) ?_
    refine lv_iconst (v := (1:Int32)) hx hb dX1_rounded_58 (by decide) ?_
    refine lv_iload hx hb dX1_rounded_59 (lv_at hl 0 rfl) ?_
    refine lv_isub hx hb dX1_rounded_61 ?_
    refine va_mmax hx hb (hml.trans hl.1.symm) hown (hts (.methodLink RX1 119 Lib.Math.max.name) (by decide +kernel)) (hts (.static Lib.Math.max.name) (by decide +kernel)) (hts (.initialized "java/lang/Math") (by decide +kernel)) (hts (.code Lib.Math.max.name Lib.Math.max.code 2 (some .int)) (by decide +kernel)) (Nat.le_of_ble_eq_true rfl) (Nat.le_of_ble_eq_true rfl) (Nat.zero_le _) (Nat.zero_le _) dX1_rounded_62 ?_
    refine lv_iadd hx hb dX1_rounded_65 ?_
    refine lv_istore (lv' := [(8, .int (((63:Int32) - (so_frac i)) + (if (0:Int32) < ((1:Int32) - (ex + (so_bias i))) then ((1:Int32) - (ex + (so_bias i))) else (0:Int32)))), (7, .int (ex + (so_bias i))), (0, .ref (G.2.2.1 i)), (4, .long tp), (6, .int ex)]) hx hb dX1_rounded_66 hl (by decide) rfl (fun ls hl => ?_)
    refine lv_iload hx hb dX1_rounded_68 (lv_at hl 0 rfl) ?_
    refine lv_bipush (v := (64:Int32)) hx hb dX1_rounded_70 (by decide) ?_
    refine bi_le (tgt := 77) hx hb dX1_rounded_72 (by decide) (fun c_1 => ?_) (fun c_1 => ?_)
    · refine lv_lconst (v := (0:Int64)) hx hb dX1_rounded_75 (by decide) ?_
      exact rt_l hx hb hr hlocks hP hD hS dX1_rounded_76 (by rw [hr9, fX1_rounded_41, if_pos c_1])
    · refine lv_iload hx hb dX1_rounded_77 (lv_at hl 0 rfl) ?_
      refine lv_bipush (v := (64:Int32)) hx hb dX1_rounded_79 (by decide) ?_
      refine jn_1 (T := Int64) G A (if (((63:Int32) - (so_frac i)) + (if (0:Int32) < ((1:Int32) - (ex + (so_bias i))) then ((1:Int32) - (ex + (so_bias i))) else (0:Int32))) = (64:Int32) then (0:Int64) else (shU tp (((63:Int32) - (so_frac i)) + (if (0:Int32) < ((1:Int32) - (ex + (so_bias i))) then ((1:Int32) - (ex + (so_bias i))) else (0:Int32))))) [] 15 (fun y => [(0, .ref (G.2.2.1 i)), (4, .long tp), (7, .int (ex + (so_bias i))), (8, .int (((63:Int32) - (so_frac i)) + (if (0:Int32) < ((1:Int32) - (ex + (so_bias i))) then ((1:Int32) - (ex + (so_bias i))) else (0:Int32))))]) (fun y => [.long y]) 93 ?_ ?_
      · intro y_2 ey_2 H locs ls hP hD hS hl
        have hr_4 : fX1_rounded i dg sc = fX1_rounded_93 i tp ex y_2 := by rw [ey_2, hr9, fX1_rounded_41, if_neg c_1]
        refine lv_lstore (lv' := [(9, .long y_2), (0, .ref (G.2.2.1 i)), (4, .long tp), (7, .int (ex + (so_bias i))), (8, .int (((63:Int32) - (so_frac i)) + (if (0:Int32) < ((1:Int32) - (ex + (so_bias i))) then ((1:Int32) - (ex + (so_bias i))) else (0:Int32))))]) hx hb dX1_rounded_93 hl (by decide) rfl (fun ls hl => ?_)
        refine lv_lload hx hb dX1_rounded_95 (lv_at hl 2 rfl) ?_
        refine lv_bipush (v := (64:Int32)) hx hb dX1_rounded_97 (by decide) ?_
        refine lv_iload hx hb dX1_rounded_99 (lv_at hl 4 rfl) ?_
        refine lv_isub hx hb dX1_rounded_101 ?_
        refine r_lshl hx hb dX1_rounded_102 ?_
        refine lv_lstore (lv' := [(11, .long (shL tp ((64:Int32) - (((63:Int32) - (so_frac i)) + (if (0:Int32) < ((1:Int32) - (ex + (so_bias i))) then ((1:Int32) - (ex + (so_bias i))) else (0:Int32)))))), (9, .long y_2), (0, .ref (G.2.2.1 i)), (4, .long tp), (7, .int (ex + (so_bias i))), (8, .int (((63:Int32) - (so_frac i)) + (if (0:Int32) < ((1:Int32) - (ex + (so_bias i))) then ((1:Int32) - (ex + (so_bias i))) else (0:Int32))))]) hx hb dX1_rounded_103 hl (by decide) rfl (fun ls hl => ?_)
        refine lv_lload hx hb dX1_rounded_105 (lv_at hl 0 rfl) ?_
        refine cs_i (As := [.long (shL tp ((64:Int32) - (((63:Int32) - (so_frac i)) + (if (0:Int32) < ((1:Int32) - (ex + (so_bias i))) then ((1:Int32) - (ex + (so_bias i))) else (0:Int32)))))]) (rest := []) ⟨hx, hb, hml, hown, hts⟩ (kX1_isOverHalf l G (shL tp ((64:Int32) - (((63:Int32) - (so_frac i)) + (if (0:Int32) < ((1:Int32) - (ex + (so_bias i))) then ((1:Int32) - (ex + (so_bias i))) else (0:Int32)))))) (va_cwS 1 hts gX1_rounded_X1_isOverHalf rfl rfl rfl (by decide +kernel) ⟨Nat.le_of_ble_eq_true rfl, Nat.le_of_ble_eq_true rfl⟩) hE hK hP hD hS hA hl.1 [] rfl rfl rfl rfl rfl rfl (Nat.le_of_ble_eq_true rfl) dX1_rounded_107 ⟨Nat.zero_le _, Nat.zero_le _⟩ (fun H locs hP hD hS => ?_)
        have hP : va_P G.1 vwCl [] H := hP
        have hD : va_D A [] := hD
        refine jn_1 (T := Int64) G A (if (fX1_isOverHalf (shL tp ((64:Int32) - (((63:Int32) - (so_frac i)) + (if (0:Int32) < ((1:Int32) - (ex + (so_bias i))) then ((1:Int32) - (ex + (so_bias i))) else (0:Int32)))))) = 0 then (if (shL tp ((64:Int32) - (((63:Int32) - (so_frac i)) + (if (0:Int32) < ((1:Int32) - (ex + (so_bias i))) then ((1:Int32) - (ex + (so_bias i))) else (0:Int32))))) = (-9223372036854775808:Int64) then (if (y_2 &&& (1:Int64)) = (0:Int64) then y_2 else (y_2 + (1:Int64))) else y_2) else (y_2 + (1:Int64))) [] 15 (fun y => [(0, .ref (G.2.2.1 i)), (7, .int (ex + (so_bias i))), (9, .long y)]) (fun y => []) 137 ?_ ?_
        · intro y_5 ey_5 H locs ls hP hD hS hl
          have hr_9 : fX1_rounded i dg sc = fX1_rounded_137 i ex y_5 := by rw [ey_5, hr_4, fX1_rounded_93]
          refine lv_lload hx hb dX1_rounded_137 (lv_at hl 2 rfl) ?_
          refine lv_iload hx hb dX1_rounded_139 (lv_at hl 1 rfl) ?_
          refine lv_iconst (v := (1:Int32)) hx hb dX1_rounded_141 (by decide) ?_
          refine va_mmax hx hb (hml.trans hl.1.symm) hown (hts (.methodLink RX1 119 Lib.Math.max.name) (by decide +kernel)) (hts (.static Lib.Math.max.name) (by decide +kernel)) (hts (.initialized "java/lang/Math") (by decide +kernel)) (hts (.code Lib.Math.max.name Lib.Math.max.code 2 (some .int)) (by decide +kernel)) (Nat.le_of_ble_eq_true rfl) (Nat.le_of_ble_eq_true rfl) (Nat.zero_le _) (Nat.zero_le _) dX1_rounded_142 ?_
          refine r_i2l hx hb dX1_rounded_145 ?_
          refine lv_lconst (v := (1:Int64)) hx hb dX1_rounded_146 (by decide) ?_
          refine lv_lsub hx hb dX1_rounded_147 ?_
          refine lv_aload_n hx hb dX1_rounded_148 rfl (lv_at hl 0 rfl) ?_
          refine sg_fraction hx hb hE hi hS hown (hts (.fieldLink RX1 41 "PedalBoard$Sort" "fraction" "I") (by decide +kernel)) dX1_rounded_149 ?_
          refine r_lshl hx hb dX1_rounded_152 ?_
          refine lv_ladd hx hb dX1_rounded_153 ?_
          refine lv_lstore (lv' := [(13, .long (y_5 + (shL ((if (ex + (so_bias i)) < (1:Int32) then (1:Int32) else (ex + (so_bias i))).toInt64 - (1:Int64)) (so_frac i)))), (0, .ref (G.2.2.1 i)), (7, .int (ex + (so_bias i))), (9, .long y_5)]) hx hb dX1_rounded_154 hl (by decide) rfl (fun ls hl => ?_)
          refine lv_lload hx hb dX1_rounded_156 (lv_at hl 0 rfl) ?_
          refine lv_aload_n hx hb dX1_rounded_158 rfl (lv_at hl 1 rfl) ?_
          refine cv_l (As := []) (rest := [.long (y_5 + (shL ((if (ex + (so_bias i)) < (1:Int32) then (1:Int32) else (ex + (so_bias i))).toInt64 - (1:Int64)) (so_frac i)))]) ⟨hx, hb, hml, hown, hts⟩ (kX1_infinite l G i hi) (cwV 0 hts gX1_rounded_X1_infinite rfl rfl rfl (by decide +kernel) ⟨Nat.le_of_ble_eq_true rfl, Nat.le_of_ble_eq_true rfl⟩) (so_rec hE hi hS) hE hK hP hD hS hA hl.1 [] rfl rfl rfl rfl rfl rfl (Nat.le_of_ble_eq_true rfl) dX1_rounded_159 ⟨Nat.zero_le _, Nat.zero_le _⟩ (fun H locs hP hD hS => ?_)
          have hP : va_P G.1 vwCl [] H := hP
          have hD : va_D A [] := hD
          refine va_mmin_long hx hb (hml.trans hl.1.symm) hown (hts (.methodLink RX1 132 Lib.MathLoose.min_long.x) (by decide +kernel)) (hts (.static Lib.MathLoose.min_long.x) (by decide +kernel)) (hts (.initialized "java/lang/Math") (by decide +kernel)) (hts (.code Lib.MathLoose.min_long.x Lib.MathLoose.min_long.code 4 (some .long)) (by decide +kernel)) (Nat.le_of_ble_eq_true rfl) (Nat.le_of_ble_eq_true rfl) (Nat.zero_le _) (Nat.zero_le _) dX1_rounded_162 ?_
          exact rt_l hx hb hr hlocks hP hD hS dX1_rounded_165 (by rw [hr_9, fX1_rounded_137])
        · intro kj_5
          refine bz_ne (tgt := 131) hx hb dX1_rounded_110 (by decide) (fun c_6 => ?_) (fun c_6 => ?_)
          · refine lv_lload hx hb dX1_rounded_113 (lv_at hl 0 rfl) ?_
            refine lv_ldc2 (v := (-9223372036854775808:Int64)) hx hb hown (hts (.constantLong RX1 130 (-9223372036854775808)) (by decide +kernel)) dX1_rounded_115 ?_
            refine bl_ne (tgt := 137) hx hb dX1_rounded_118 dX1_rounded_119 (by decide) (fun c_7 => ?_) (fun c_7 => ?_)
            · refine lv_lload hx hb dX1_rounded_122 (lv_at hl 1 rfl) ?_
              refine lv_lconst (v := (1:Int64)) hx hb dX1_rounded_124 (by decide) ?_
              refine lv_land hx hb dX1_rounded_125 ?_
              refine lv_lconst (v := (0:Int64)) hx hb dX1_rounded_126 (by decide) ?_
              refine bl_eq (tgt := 137) hx hb dX1_rounded_127 dX1_rounded_128 (by decide) (fun c_8 => ?_) (fun c_8 => ?_)
              · exact kj_5 y_2 (by rw [if_pos c_6, if_pos c_7, if_pos c_8]) _ _ _ hP hD hS (lv_sub hl [2, 4, 1] rfl)
              · refine lv_lload hx hb dX1_rounded_131 (lv_at hl 1 rfl) ?_
                refine lv_lconst (v := (1:Int64)) hx hb dX1_rounded_133 (by decide) ?_
                refine lv_ladd hx hb dX1_rounded_134 ?_
                refine lv_lstore (lv' := [(9, .long (y_2 + (1:Int64))), (11, .long (shL tp ((64:Int32) - (((63:Int32) - (so_frac i)) + (if (0:Int32) < ((1:Int32) - (ex + (so_bias i))) then ((1:Int32) - (ex + (so_bias i))) else (0:Int32)))))), (0, .ref (G.2.2.1 i)), (4, .long tp), (7, .int (ex + (so_bias i))), (8, .int (((63:Int32) - (so_frac i)) + (if (0:Int32) < ((1:Int32) - (ex + (so_bias i))) then ((1:Int32) - (ex + (so_bias i))) else (0:Int32))))]) hx hb dX1_rounded_135 hl (by decide) rfl (fun ls hl => ?_)
                exact kj_5 (y_2 + (1:Int64)) (by rw [if_pos c_6, if_pos c_7, if_neg c_8]) _ _ _ hP hD hS (lv_sub hl [2, 4, 0] rfl)
            · exact kj_5 y_2 (by rw [if_pos c_6, if_neg c_7]) _ _ _ hP hD hS (lv_sub hl [2, 4, 1] rfl)
          · refine lv_lload hx hb dX1_rounded_131 (lv_at hl 1 rfl) ?_
            refine lv_lconst (v := (1:Int64)) hx hb dX1_rounded_133 (by decide) ?_
            refine lv_ladd hx hb dX1_rounded_134 ?_
            refine lv_lstore (lv' := [(9, .long (y_2 + (1:Int64))), (11, .long (shL tp ((64:Int32) - (((63:Int32) - (so_frac i)) + (if (0:Int32) < ((1:Int32) - (ex + (so_bias i))) then ((1:Int32) - (ex + (so_bias i))) else (0:Int32)))))), (0, .ref (G.2.2.1 i)), (4, .long tp), (7, .int (ex + (so_bias i))), (8, .int (((63:Int32) - (so_frac i)) + (if (0:Int32) < ((1:Int32) - (ex + (so_bias i))) then ((1:Int32) - (ex + (so_bias i))) else (0:Int32))))]) hx hb dX1_rounded_135 hl (by decide) rfl (fun ls hl => ?_)
            exact kj_5 (y_2 + (1:Int64)) (by rw [if_neg c_6]) _ _ _ hP hD hS (lv_sub hl [2, 4, 0] rfl)
      · intro kj_2
        refine bi_ne (tgt := 88) hx hb dX1_rounded_81 (by decide) (fun c_3 => ?_) (fun c_3 => ?_)
        · refine lv_lconst (v := (0:Int64)) hx hb dX1_rounded_84 (by decide) ?_
          refine lv_goto (tgt := 93) hx hb dX1_rounded_85 (by decide) ?_
          exact kj_2 (0:Int64) (by rw [if_pos c_3]) _ _ _ hP hD hS (lv_sub hl [2, 3, 1, 0] rfl)
        · refine lv_lload hx hb dX1_rounded_88 (lv_at hl 3 rfl) ?_
          refine lv_iload hx hb dX1_rounded_90 (lv_at hl 0 rfl) ?_
          refine r_lushr hx hb dX1_rounded_92 ?_
          exact kj_2 (shU tp (((63:Int32) - (so_frac i)) + (if (0:Int32) < ((1:Int32) - (ex + (so_bias i))) then ((1:Int32) - (ex + (so_bias i))) else (0:Int32)))) (by rw [if_neg c_3]) _ _ _ hP hD hS (lv_sub hl [2, 3, 1, 0] rfl)
  · intro kj
    refine lp_1 (T := Int64 × Int32) G A 63 (fun k y => lpR (63 - k) y.1 y.2 = lpR 63 dg (sc + (63:Int32))) (fun _ _ => []) 15 (fun k y => [(0, .ref (G.2.2.1 i)), (4, .long y.1), (6, .int y.2), (7, .int (nI k))]) 12 (fun k yy hk hi ih H locs ls hP hD hS hl => ?_) 0 (dg, (sc + (63:Int32))) (Nat.zero_le _) rfl _ _ _ hP hD hS (lv_sub hl [3, 2, 1, 0] rfl)
    obtain ⟨tt, ee⟩ := yy
    have hl : lv_has ls 15 [(0, .ref (G.2.2.1 i)), (4, .long tt), (6, .int ee), (7, .int (nI k))] := hl
    have hi : lpR (63 - k) tt ee = lpR 63 dg (sc + (63:Int32)) := hi
    refine lv_iload hx hb dX1_rounded_12 (lv_at hl 3 rfl) ?_
    refine lv_bipush (v := (63:Int32)) hx hb dX1_rounded_14 (by decide) ?_
    refine bi_ge (tgt := 41) hx hb dX1_rounded_16 (by decide) (fun c_10 => ?_) (fun c_10 => ?_)
    · refine lv_lload hx hb dX1_rounded_19 (lv_at hl 1 rfl) ?_
      refine lv_lconst (v := (0:Int64)) hx hb dX1_rounded_21 (by decide) ?_
      refine bl_le (tgt := 41) hx hb dX1_rounded_22 dX1_rounded_23 (by decide) (fun c_11 => ?_) (fun c_11 => ?_)
      · refine lv_lload hx hb dX1_rounded_26 (lv_at hl 1 rfl) ?_
        refine lv_iconst (v := (1:Int32)) hx hb dX1_rounded_28 (by decide) ?_
        refine r_lshl hx hb dX1_rounded_29 ?_
        refine lv_lstore (lv' := [(4, .long (shL tt (1:Int32))), (0, .ref (G.2.2.1 i)), (6, .int ee), (7, .int (nI k))]) hx hb dX1_rounded_30 hl (by decide) rfl (fun ls hl => ?_)
        refine lv_iinc (v := (ee + (-1:Int32))) (lv' := [(6, .int (ee + (-1:Int32))), (4, .long (shL tt (1:Int32))), (0, .ref (G.2.2.1 i)), (7, .int (nI k))]) hx hb dX1_rounded_32 hl (k := 2) rfl (by rfl) (by decide) rfl (fun ls hl => ?_)
        refine lv_iinc (v := (nI (k + 1))) (lv' := [(7, .int (nI (k + 1))), (6, .int (ee + (-1:Int32))), (4, .long (shL tt (1:Int32))), (0, .ref (G.2.2.1 i))]) hx hb dX1_rounded_35 hl (k := 3) rfl (by rw [← nI_1]; rfl) (by decide) rfl (fun ls hl => ?_)
        refine lv_goto (tgt := 12) hx hb dX1_rounded_38 (by decide) ?_
        exact ih (lpR_k hk c_10) ((shL tt (1:Int32)), (ee + (-1:Int32))) ((lpR_step (lpR_k hk c_10) c_11).symm.trans hi) _ _ _ hP hD hS (lv_sub hl [3, 2, 1, 0] rfl)
      · exact kj (tt, ee) (by rw [← hi, lpR_end2 c_11]) _ _ _ hP hD hS (lv_sub hl [0, 1, 2] rfl)
    · exact kj (tt, ee) (by rw [← hi, lpR_end1 hk c_10]) _ _ _ hP hD hS (lv_sub hl [0, 1, 2] rfl)
