/-- the least number of bits that hold m -/
def bO (m : Int64) : Nat → Int32
  | 0 => 0
  | k + 1 => if ((shU m (nI k)) &&& (1:Int64)) = (1:Int64) then (nI k) + (1:Int32) else bO m k
theorem k_lt63 {k : Nat} (hk : k ≤ 64) (h : (nI k) < (64:Int32)) : k < 64 := (nI_ltI (by omega) (by omega)).mp (show nI k < nI 64 from h)
theorem k_ge63 {k : Nat} (hk : k ≤ 64) (h : ¬ (nI k) < (64:Int32)) : k = 64 := by
  have h2 : ¬ k < 64 := fun g => h (show nI k < nI 64 from (nI_ltI (by omega) (by omega)).mpr g)
  omega
def fX4_bitsOf (mm : Int64) : Int32 := bO mm 64
set_option maxHeartbeats 4000000 in
set_option maxRecDepth 100000 in
theorem kX4_bitsOf (l : Launch) (G : GT) (mm : Int64) : CI l yX4_bitsOf wsX4_bitsOf { frames := 0, cells := 0, slots := 0, locals := 0 } G [.long mm] [] (fX4_bitsOf mm) [] := by
  refine en_i (cc := cX4_bitsOf) (maxL := 4) (ret := (some .int)) (own := RX4) (by decide) rfl rfl (Nat.le_of_ble_eq_true rfl) ?_
  intro p e s m below meth c A ls hx hb hr hts hown hml hlocks hA hK hE hP hD hS hl
  have hl : lv_has ls 4 [(0, .long mm)] := hl
  refine lv_iconst (v := (0:Int32)) hx hb dX4_bitsOf_0 (by decide) ?_
  refine lv_istore_n (lv' := [(2, .int (0:Int32)), (0, .long mm)]) hx hb dX4_bitsOf_1 rfl hl (by decide) rfl (fun ls hl => ?_)
  refine lv_iconst (v := (0:Int32)) hx hb dX4_bitsOf_2 (by decide) ?_
  refine lv_istore_n (lv' := [(3, .int (0:Int32)), (2, .int (0:Int32)), (0, .long mm)]) hx hb dX4_bitsOf_3 rfl hl (by decide) rfl (fun ls hl => ?_)
  refine lp_1 (T := Int32) G A 64 (fun k y => y = bO mm k) (fun _ _ => []) 4 (fun k y => [(3, .int (nI k)), (2, .int y), (0, .long mm)]) 4 (fun k yy hk hi ih H locs ls hP hD hS hl => ?_) 0 (0:Int32) (Nat.zero_le _) rfl _ _ _ hP hD hS (lv_sub hl [0, 1, 2] rfl)
  obtain ⟨n, rfl⟩ : ∃ z, z = yy := ⟨_, rfl⟩
  have hl : lv_has ls 4 [(3, .int (nI k)), (2, .int n), (0, .long mm)] := hl
  have hi : n = bO mm k := hi
  refine lv_iload_n hx hb dX4_bitsOf_4 rfl (lv_at hl 0 rfl) ?_
  refine lv_bipush (v := (64:Int32)) hx hb dX4_bitsOf_5 (by decide) ?_
  refine bi_ge (tgt := 34) hx hb dX4_bitsOf_7 (by decide) (fun c_1 => ?_) (fun c_1 => ?_)
  · refine lv_lload_n hx hb dX4_bitsOf_10 rfl (lv_at hl 2 rfl) ?_
    refine lv_iload_n hx hb dX4_bitsOf_11 rfl (lv_at hl 0 rfl) ?_
    refine r_lushr hx hb dX4_bitsOf_12 ?_
    refine lv_lconst (v := (1:Int64)) hx hb dX4_bitsOf_13 (by decide) ?_
    refine lv_land hx hb dX4_bitsOf_14 ?_
    refine lv_lconst (v := (1:Int64)) hx hb dX4_bitsOf_15 (by decide) ?_
    refine bl_ne (tgt := 26) hx hb dX4_bitsOf_16 dX4_bitsOf_17 (by decide) (fun c_2 => ?_) (fun c_2 => ?_)
    · refine lv_iload_n hx hb dX4_bitsOf_20 rfl (lv_at hl 0 rfl) ?_
      refine lv_iconst (v := (1:Int32)) hx hb dX4_bitsOf_21 (by decide) ?_
      refine lv_iadd hx hb dX4_bitsOf_22 ?_
      refine lv_goto (tgt := 27) hx hb dX4_bitsOf_23 (by decide) ?_
      refine lv_istore_n (lv' := [(2, .int ((nI k) + (1:Int32))), (3, .int (nI k)), (0, .long mm)]) hx hb dX4_bitsOf_27 rfl hl (by decide) rfl (fun ls hl => ?_)
      refine lv_iinc (v := (nI (k + 1))) (lv' := [(3, .int (nI (k + 1))), (2, .int ((nI k) + (1:Int32))), (0, .long mm)]) hx hb dX4_bitsOf_28 hl (k := 1) rfl (by rw [← nI_1]; rfl) (by decide) rfl (fun ls hl => ?_)
      refine lv_goto (tgt := 4) hx hb dX4_bitsOf_31 (by decide) ?_
      exact ih (k_lt63 hk c_1) ((nI k) + (1:Int32)) (by show _ = bO mm (k + 1); rw [bO, if_pos c_2]) _ _ _ hP hD hS (lv_sub hl [0, 1, 2] rfl)
    · refine lv_iload_n hx hb dX4_bitsOf_26 rfl (lv_at hl 1 rfl) ?_
      refine lv_istore_n (lv' := [(2, .int n), (3, .int (nI k)), (0, .long mm)]) hx hb dX4_bitsOf_27 rfl hl (by decide) rfl (fun ls hl => ?_)
      refine lv_iinc (v := (nI (k + 1))) (lv' := [(3, .int (nI (k + 1))), (2, .int n), (0, .long mm)]) hx hb dX4_bitsOf_28 hl (k := 1) rfl (by rw [← nI_1]; rfl) (by decide) rfl (fun ls hl => ?_)
      refine lv_goto (tgt := 4) hx hb dX4_bitsOf_31 (by decide) ?_
      exact ih (k_lt63 hk c_1) n (by show _ = bO mm (k + 1); rw [bO, if_neg c_2]; exact hi) _ _ _ hP hD hS (lv_sub hl [0, 1, 2] rfl)
  · refine lv_iload_n hx hb dX4_bitsOf_34 rfl (lv_at hl 1 rfl) ?_
    exact rt_i hx hb hr hlocks hP hD hS dX4_bitsOf_35 (by rw [hi, k_ge63 hk c_1]; rfl)
