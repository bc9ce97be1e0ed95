def fX2_takeDry_14 (y_1 : Int32) : Int32 := y_1
def fX2_takeDry (dr : Int64) (sg : Int64) : Int32 := (fX2_takeDry_14 (if dr = sg then (0:Int32) else (1:Int32)))
set_option maxHeartbeats 4000000 in
set_option maxRecDepth 100000 in
theorem kX2_takeDry (l : Launch) (G : GT) (wa : Nat) (i : Nat) (pa : Nat) (pr : Nat) (wo : Nat) (wl : Nat) (tr : Int32) (dr : Int64) (wt : Int64) (r : Nat) (gr : Int64) (le : Int64) (sg : Int64) : CI l yX2_takeDry wsX2_takeDry { frames := 0, cells := 0, slots := 0, locals := 0 } G [.ref wa, .long sg] [(wa, .inr (2, [.ref (G.2.2.1 i), .ref pa, .ref pr, .ref wo, .ref wl, .int tr, .long dr, .long wt, .int (nI r), .long gr, .long le]))] (fX2_takeDry dr sg) [(wa, .inr (2, [.ref (G.2.2.1 i), .ref pa, .ref pr, .ref wo, .ref wl, .int (0:Int32), .long sg, .long sg, .int (0:Int32), .long gr, .long le]))] := by
  refine en_i (cc := cX2_takeDry) (maxL := 4) (ret := (some .boolean)) (own := RX2) (by decide) rfl rfl (Nat.le_of_ble_eq_true rfl) ?_
  intro p e s m below meth c A ls hx hb hr hts hown hml hlocks hA hK hE hP hD hS hl
  have hl : lv_has ls 4 [(0, .ref wa), (1, .long sg)] := hl
  refine lv_aload_n hx hb dX2_takeDry_0 rfl (lv_at hl 0 rfl) ?_
  refine va_get (D := G.1) (ci := 2) (v := .long dr) (C := RX2) (T := TX2) (N := 11) hx hb hts (by decide +kernel) hown hK hP 0 rfl rfl 6 (by decide) (hts (.fieldLink RX2 34 "PedalBoard$Wire" "dry" "J") (by decide +kernel)) (fun _ h9 => h9) rfl dX2_takeDry_1 ?_
  refine lv_lload_n hx hb dX2_takeDry_4 rfl (lv_at hl 1 rfl) ?_
  refine jn_2 (T := Int32) G A (if dr = sg then (0:Int32) else (1:Int32)) (fun y => [(wa, .inr (2, [.ref (G.2.2.1 i), .ref pa, .ref pr, .ref wo, .ref wl, .int tr, .long dr, .long wt, .int (nI r), .long gr, .long le]))]) 4 (fun y => [(0, .ref wa), (1, .long sg)]) (fun y => [.int y]) 14 ?_ ?_
  · intro y_1 ey_1 H locs ls hP hD hS hl
    have hl : lv_has ls 4 [(0, .ref wa), (1, .long sg)] := hl
    have hP : va_P G.1 vwCl [(wa, .inr (2, [.ref (G.2.2.1 i), .ref pa, .ref pr, .ref wo, .ref wl, .int tr, .long dr, .long wt, .int (nI r), .long gr, .long le]))] H := hP
    have hD : va_D A [(wa, .inr (2, [.ref (G.2.2.1 i), .ref pa, .ref pr, .ref wo, .ref wl, .int tr, .long dr, .long wt, .int (nI r), .long gr, .long le]))] := hD
    have hr_3 : (fX2_takeDry dr sg) = fX2_takeDry_14 y_1 := by rw [ey_1, fX2_takeDry]
    refine lv_istore_n (lv' := [(3, .int y_1), (0, .ref wa), (1, .long sg)]) hx hb dX2_takeDry_14 rfl hl (by decide) rfl (fun ls hl => ?_)
    refine lv_aload_n hx hb dX2_takeDry_15 rfl (lv_at hl 1 rfl) ?_
    refine lv_lload_n hx hb dX2_takeDry_16 rfl (lv_at hl 2 rfl) ?_
    refine va_put (D := G.1) (ci := 2) (v := .long sg) (ty := .long) (C := RX2) (T := TX2) (N := 11) hx hb hts (by decide +kernel) tyX2 tyX2_ok nmX2 hown hK hP hD hS 0 rfl rfl 6 (by decide) (hts (.fieldLink RX2 34 "PedalBoard$Wire" "dry" "J") (by decide +kernel)) (fun _ h9 => h9) rfl (by decide +kernel) rfl rfl (Nat.le_of_ble_eq_true rfl) dX2_takeDry_17 (fun H locs hP hD hS => ?_)
    have hP : va_P G.1 vwCl [(wa, .inr (2, [.ref (G.2.2.1 i), .ref pa, .ref pr, .ref wo, .ref wl, .int tr, .long sg, .long wt, .int (nI r), .long gr, .long le]))] H := hP
    have hD : va_D A [(wa, .inr (2, [.ref (G.2.2.1 i), .ref pa, .ref pr, .ref wo, .ref wl, .int tr, .long sg, .long wt, .int (nI r), .long gr, .long le]))] := hD
    refine lv_aload_n hx hb dX2_takeDry_20 rfl (lv_at hl 1 rfl) ?_
    refine lv_lload_n hx hb dX2_takeDry_21 rfl (lv_at hl 2 rfl) ?_
    refine va_put (D := G.1) (ci := 2) (v := .long sg) (ty := .long) (C := RX2) (T := TX2) (N := 11) hx hb hts (by decide +kernel) tyX2 tyX2_ok nmX2 hown hK hP hD hS 0 rfl rfl 7 (by decide) (hts (.fieldLink RX2 38 "PedalBoard$Wire" "wet" "J") (by decide +kernel)) (fun _ h9 => h9) rfl (by decide +kernel) rfl rfl (Nat.le_of_ble_eq_true rfl) dX2_takeDry_22 (fun H locs hP hD hS => ?_)
    have hP : va_P G.1 vwCl [(wa, .inr (2, [.ref (G.2.2.1 i), .ref pa, .ref pr, .ref wo, .ref wl, .int tr, .long sg, .long sg, .int (nI r), .long gr, .long le]))] H := hP
    have hD : va_D A [(wa, .inr (2, [.ref (G.2.2.1 i), .ref pa, .ref pr, .ref wo, .ref wl, .int tr, .long sg, .long sg, .int (nI r), .long gr, .long le]))] := hD
    refine lv_aload_n hx hb dX2_takeDry_25 rfl (lv_at hl 1 rfl) ?_
    refine lv_iconst (v := (0:Int32)) hx hb dX2_takeDry_26 (by decide) ?_
    refine va_put (D := G.1) (ci := 2) (v := .int (0:Int32)) (ty := .int) (C := RX2) (T := TX2) (N := 11) hx hb hts (by decide +kernel) tyX2 tyX2_ok nmX2 hown hK hP hD hS 0 rfl rfl 8 (by decide) (hts (.fieldLink RX2 41 "PedalBoard$Wire" "rounds" "I") (by decide +kernel)) (fun _ h9 => h9) rfl (by decide +kernel) rfl rfl (Nat.le_of_ble_eq_true rfl) dX2_takeDry_27 (fun H locs hP hD hS => ?_)
    have hP : va_P G.1 vwCl [(wa, .inr (2, [.ref (G.2.2.1 i), .ref pa, .ref pr, .ref wo, .ref wl, .int tr, .long sg, .long sg, .int (0:Int32), .long gr, .long le]))] H := hP
    have hD : va_D A [(wa, .inr (2, [.ref (G.2.2.1 i), .ref pa, .ref pr, .ref wo, .ref wl, .int tr, .long sg, .long sg, .int (0:Int32), .long gr, .long le]))] := hD
    refine lv_aload_n hx hb dX2_takeDry_30 rfl (lv_at hl 1 rfl) ?_
    refine lv_iconst (v := (0:Int32)) hx hb dX2_takeDry_31 (by decide) ?_
    refine va_put (D := G.1) (ci := 2) (v := .int (0:Int32)) (ty := .boolean) (C := RX2) (T := TX2) (N := 11) hx hb hts (by decide +kernel) tyX2 tyX2_ok nmX2 hown hK hP hD hS 0 rfl rfl 5 (by decide) (hts (.fieldLink RX2 45 "PedalBoard$Wire" "traced" "Z") (by decide +kernel)) (fun _ h9 => h9) rfl (by decide +kernel) (z_nar (Or.inl rfl)) (z_fit (Or.inl rfl)) (Nat.le_of_ble_eq_true rfl) dX2_takeDry_32 (fun H locs hP hD hS => ?_)
    have hP : va_P G.1 vwCl [(wa, .inr (2, [.ref (G.2.2.1 i), .ref pa, .ref pr, .ref wo, .ref wl, .int (0:Int32), .long sg, .long sg, .int (0:Int32), .long gr, .long le]))] H := hP
    have hD : va_D A [(wa, .inr (2, [.ref (G.2.2.1 i), .ref pa, .ref pr, .ref wo, .ref wl, .int (0:Int32), .long sg, .long sg, .int (0:Int32), .long gr, .long le]))] := hD
    refine lv_iload_n hx hb dX2_takeDry_35 rfl (lv_at hl 0 rfl) ?_
    subst ey_1
    exact rt_z hx hb hr hlocks hP hD hS dX2_takeDry_36 (by rw [hr_3, fX2_takeDry_14]) (z_nar (by repeat (first | exact Or.inl rfl | exact Or.inr rfl | split)))
  · intro kj_1
    refine bl_eq (tgt := 13) hx hb dX2_takeDry_5 dX2_takeDry_6 (by decide) (fun c_2 => ?_) (fun c_2 => ?_)
    · refine lv_iconst (v := (0:Int32)) hx hb dX2_takeDry_13 (by decide) ?_
      exact kj_1 (0:Int32) (by rw [if_pos c_2]) _ _ _ hP hD hS (lv_sub hl [0, 1] rfl)
    · refine lv_iconst (v := (1:Int32)) hx hb dX2_takeDry_9 (by decide) ?_
      refine lv_goto (tgt := 14) hx hb dX2_takeDry_10 (by decide) ?_
      exact kj_1 (1:Int32) (by rw [if_neg c_2]) _ _ _ hP hD hS (lv_sub hl [0, 1] rfl)
theorem z_X2_takeDry (dr : Int64) (sg : Int64) : (fX2_takeDry dr sg) = 0 ∨ (fX2_takeDry dr sg) = 1 := by
  unfold fX2_takeDry fX2_takeDry_14; repeat (first | exact Or.inl rfl | exact Or.inr rfl | split)
def fX2_hasPeaks (r : Nat) : Int32 := (if 0 < (nI r) then (1:Int32) else (0:Int32))
set_option maxHeartbeats 4000000 in
set_option maxRecDepth 100000 in
theorem kX2_hasPeaks (l : Launch) (G : GT) (wa : Nat) (i : Nat) (pa : Nat) (pr : Nat) (wo : Nat) (wl : Nat) (tr : Int32) (dr : Int64) (wt : Int64) (r : Nat) (gr : Int64) (le : Int64) : CI l yX2_hasPeaks wsX2_hasPeaks { frames := 0, cells := 0, slots := 0, locals := 0 } G [.ref wa] [(wa, .inr (2, [.ref (G.2.2.1 i), .ref pa, .ref pr, .ref wo, .ref wl, .int tr, .long dr, .long wt, .int (nI r), .long gr, .long le]))] (fX2_hasPeaks r) [(wa, .inr (2, [.ref (G.2.2.1 i), .ref pa, .ref pr, .ref wo, .ref wl, .int tr, .long dr, .long wt, .int (nI r), .long gr, .long le]))] := by
  refine en_i (cc := cX2_hasPeaks) (maxL := 1) (ret := (some .boolean)) (own := RX2) (by decide) rfl rfl (Nat.le_of_ble_eq_true rfl) ?_
  intro p e s m below meth c A ls hx hb hr hts hown hml hlocks hA hK hE hP hD hS hl
  have hl : lv_has ls 1 [(0, .ref wa)] := hl
  refine lv_aload_n hx hb dX2_hasPeaks_0 rfl (lv_at hl 0 rfl) ?_
  refine va_get (D := G.1) (ci := 2) (v := .int (nI r)) (C := RX2) (T := TX2) (N := 11) hx hb hts (by decide +kernel) hown hK hP 0 rfl rfl 8 (by decide) (hts (.fieldLink RX2 41 "PedalBoard$Wire" "rounds" "I") (by decide +kernel)) (fun _ h9 => h9) rfl dX2_hasPeaks_1 ?_
  refine bz_le (tgt := 11) hx hb dX2_hasPeaks_4 (by decide) (fun c_1 => ?_) (fun c_1 => ?_)
  · refine lv_iconst (v := (1:Int32)) hx hb dX2_hasPeaks_7 (by decide) ?_
    refine lv_goto (tgt := 12) hx hb dX2_hasPeaks_8 (by decide) ?_
    exact rt_z hx hb hr hlocks hP hD hS dX2_hasPeaks_12 (by rw [fX2_hasPeaks, if_pos c_1]) (z_nar (Or.inr rfl))
  · refine lv_iconst (v := (0:Int32)) hx hb dX2_hasPeaks_11 (by decide) ?_
    exact rt_z hx hb hr hlocks hP hD hS dX2_hasPeaks_12 (by rw [fX2_hasPeaks, if_neg c_1]) (z_nar (Or.inl rfl))
theorem z_X2_hasPeaks (r : Nat) : (fX2_hasPeaks r) = 0 ∨ (fX2_hasPeaks r) = 1 := by
  unfold fX2_hasPeaks; repeat (first | exact Or.inl rfl | exact Or.inr rfl | split)
set_option maxHeartbeats 4000000 in
set_option maxRecDepth 100000 in
theorem kX2_keepPeaks (l : Launch) (G : GT) (wa : Nat) (i : Nat) (pa : Nat) (pr : Nat) (wo : Nat) (wl : Nat) (tr : Int32) (dr : Int64) (wt : Int64) (r : Nat) (gr : Int64) (le : Int64) (hi4 : i < 4) : CV l yX2_keepPeaks wsX2_keepPeaks { frames := 3, cells := 0, slots := 0, locals := 66 } G [.ref wa] [(wa, .inr (2, [.ref (G.2.2.1 i), .ref pa, .ref pr, .ref wo, .ref wl, .int tr, .long dr, .long wt, .int (nI r), .long gr, .long le]))] [(wa, .inr (2, [.ref (G.2.2.1 i), .ref pa, .ref pr, .ref wo, .ref wl, .int tr, .long dr, .long wt, .int (nI r), .long (if (fX2_hasPeaks r) = 0 then wt else (if (fX1_isLess i gr wt) = 0 then gr else wt)), .long (if (fX2_hasPeaks r) = 0 then wt else (if (fX1_isLess i wt le) = 0 then le else wt))]))] := by
  refine en_v (cc := cX2_keepPeaks) (maxL := 1) (ret := none) (own := RX2) (by decide) rfl rfl (Nat.le_of_ble_eq_true rfl) ?_
  intro p e s m below meth c A ls hx hb hr hts hown hml hlocks hA hK hE hP hD hS hl
  have hl : lv_has ls 1 [(0, .ref wa)] := hl
  refine lv_aload_n hx hb dX2_keepPeaks_0 rfl (lv_at hl 0 rfl) ?_
  refine cv_i (As := []) (rest := []) (ws' := [(wa, .inr (2, [.ref (G.2.2.1 i), .ref pa, .ref pr, .ref wo, .ref wl, .int tr, .long dr, .long wt, .int (nI r), .long gr, .long le]))]) ⟨hx, hb, hml, hown, hts⟩ (kX2_hasPeaks l G wa i pa pr wo wl tr dr wt r gr le) (cwV 0 hts gX2_keepPeaks_X2_hasPeaks rfl rfl rfl (by decide +kernel) ⟨Nat.le_of_ble_eq_true rfl, Nat.le_of_ble_eq_true rfl⟩) (va_recv hK hP (ci := 2) (q0 := 0) rfl rfl) hE hK hP hD hS hA hl.1 [0] rfl rfl rfl rfl rfl rfl (Nat.le_of_ble_eq_true rfl) dX2_keepPeaks_1 ⟨Nat.zero_le _, Nat.zero_le _⟩ (fun H locs hP hD hS => ?_)
  refine jn_2 (T := Int64) G A (if (fX2_hasPeaks r) = 0 then wt else (if (fX1_isLess i gr wt) = 0 then gr else wt)) (fun y => [(wa, .inr (2, [.ref (G.2.2.1 i), .ref pa, .ref pr, .ref wo, .ref wl, .int tr, .long dr, .long wt, .int (nI r), .long y, .long le]))]) 1 (fun y => [(0, .ref wa)]) (fun y => []) 33 ?_ ?_
  · intro y_1 ey_1 H locs ls hP hD hS hl
    have hl : lv_has ls 1 [(0, .ref wa)] := hl
    have hP : va_P G.1 vwCl [(wa, .inr (2, [.ref (G.2.2.1 i), .ref pa, .ref pr, .ref wo, .ref wl, .int tr, .long dr, .long wt, .int (nI r), .long y_1, .long le]))] H := hP
    have hD : va_D A [(wa, .inr (2, [.ref (G.2.2.1 i), .ref pa, .ref pr, .ref wo, .ref wl, .int tr, .long dr, .long wt, .int (nI r), .long y_1, .long le]))] := hD
    refine lv_aload_n hx hb dX2_keepPeaks_33 rfl (lv_at hl 0 rfl) ?_
    refine cv_i (As := []) (rest := []) (ws' := [(wa, .inr (2, [.ref (G.2.2.1 i), .ref pa, .ref pr, .ref wo, .ref wl, .int tr, .long dr, .long wt, .int (nI r), .long y_1, .long le]))]) ⟨hx, hb, hml, hown, hts⟩ (kX2_hasPeaks l G wa i pa pr wo wl tr dr wt r y_1 le) (cwV 0 hts gX2_keepPeaks_X2_hasPeaks rfl rfl rfl (by decide +kernel) ⟨Nat.le_of_ble_eq_true rfl, Nat.le_of_ble_eq_true rfl⟩) (va_recv hK hP (ci := 2) (q0 := 0) rfl rfl) hE hK hP hD hS hA hl.1 [0] rfl rfl rfl rfl rfl rfl (Nat.le_of_ble_eq_true rfl) dX2_keepPeaks_34 ⟨Nat.zero_le _, Nat.zero_le _⟩ (fun H locs hP hD hS => ?_)
    refine jn_2 (T := Int64) G A (if (fX2_hasPeaks r) = 0 then wt else (if (fX1_isLess i wt le) = 0 then le else wt)) (fun y => [(wa, .inr (2, [.ref (G.2.2.1 i), .ref pa, .ref pr, .ref wo, .ref wl, .int tr, .long dr, .long wt, .int (nI r), .long y_1, .long y]))]) 1 (fun y => []) (fun y => []) 66 ?_ ?_
    · intro y_4 ey_4 H locs ls hP hD hS hl
      have hl : lv_has ls 1 [] := hl
      have hP : va_P G.1 vwCl [(wa, .inr (2, [.ref (G.2.2.1 i), .ref pa, .ref pr, .ref wo, .ref wl, .int tr, .long dr, .long wt, .int (nI r), .long y_1, .long y_4]))] H := hP
      have hD : va_D A [(wa, .inr (2, [.ref (G.2.2.1 i), .ref pa, .ref pr, .ref wo, .ref wl, .int tr, .long dr, .long wt, .int (nI r), .long y_1, .long y_4]))] := hD
      subst ey_4
      subst ey_1
      exact rt_v hx hb hr hlocks hP hD hS dX2_keepPeaks_66
    · intro kj_4
      refine bz_eq (tgt := 58) hx hb dX2_keepPeaks_37 (by decide) (fun c_5 => ?_) (fun c_5 => ?_)
      · refine lv_aload_n hx hb dX2_keepPeaks_58 rfl (lv_at hl 0 rfl) ?_
        refine lv_aload_n hx hb dX2_keepPeaks_59 rfl (lv_at hl 0 rfl) ?_
        refine va_get (D := G.1) (ci := 2) (v := .long wt) (C := RX2) (T := TX2) (N := 11) hx hb hts (by decide +kernel) hown hK hP 0 rfl rfl 7 (by decide) (hts (.fieldLink RX2 38 "PedalBoard$Wire" "wet" "J") (by decide +kernel)) (fun _ h9 => h9) rfl dX2_keepPeaks_60 ?_
        refine va_put (D := G.1) (ci := 2) (v := .long wt) (ty := .long) (C := RX2) (T := TX2) (N := 11) hx hb hts (by decide +kernel) tyX2 tyX2_ok nmX2 hown hK hP hD hS 0 rfl rfl 10 (by decide) (hts (.fieldLink RX2 82 "PedalBoard$Wire" "least" "J") (by decide +kernel)) (fun _ h9 => h9) rfl (by decide +kernel) rfl rfl (Nat.le_of_ble_eq_true rfl) dX2_keepPeaks_63 (fun H locs hP hD hS => ?_)
        have hP : va_P G.1 vwCl [(wa, .inr (2, [.ref (G.2.2.1 i), .ref pa, .ref pr, .ref wo, .ref wl, .int tr, .long dr, .long wt, .int (nI r), .long y_1, .long wt]))] H := hP
        have hD : va_D A [(wa, .inr (2, [.ref (G.2.2.1 i), .ref pa, .ref pr, .ref wo, .ref wl, .int tr, .long dr, .long wt, .int (nI r), .long y_1, .long wt]))] := hD
        exact kj_4 wt (by rw [if_pos c_5]) _ _ _ hP hD hS (lv_sub hl [] rfl)
      · refine lv_aload_n hx hb dX2_keepPeaks_40 rfl (lv_at hl 0 rfl) ?_
        refine va_get (D := G.1) (ci := 2) (v := .ref (G.2.2.1 i)) (C := RX2) (T := TX2) (N := 11) hx hb hts (by decide +kernel) hown hK hP 0 rfl rfl 0 (by decide) (hts (.fieldLink RX2 9 "PedalBoard$Wire" "sort" "LPedalBoard$Sort;") (by decide +kernel)) (fun _ h9 => h9) rfl dX2_keepPeaks_41 ?_
        refine lv_aload_n hx hb dX2_keepPeaks_44 rfl (lv_at hl 0 rfl) ?_
        refine va_get (D := G.1) (ci := 2) (v := .long wt) (C := RX2) (T := TX2) (N := 11) hx hb hts (by decide +kernel) hown hK hP 0 rfl rfl 7 (by decide) (hts (.fieldLink RX2 38 "PedalBoard$Wire" "wet" "J") (by decide +kernel)) (fun _ h9 => h9) rfl dX2_keepPeaks_45 ?_
        refine lv_aload_n hx hb dX2_keepPeaks_48 rfl (lv_at hl 0 rfl) ?_
        refine va_get (D := G.1) (ci := 2) (v := .long le) (C := RX2) (T := TX2) (N := 11) hx hb hts (by decide +kernel) hown hK hP 0 rfl rfl 10 (by decide) (hts (.fieldLink RX2 82 "PedalBoard$Wire" "least" "J") (by decide +kernel)) (fun _ h9 => h9) rfl dX2_keepPeaks_49 ?_
        refine cv_i (As := [.long wt, .long le]) (rest := []) ⟨hx, hb, hml, hown, hts⟩ (kX1_isLess l G i wt le hi4) (cwV 2 hts gX2_keepPeaks_X1_isLess rfl rfl rfl (by decide +kernel) ⟨Nat.le_of_ble_eq_true rfl, Nat.le_of_ble_eq_true rfl⟩) (so_rec hE hi4 hS) hE hK hP hD hS hA hl.1 [] rfl rfl rfl rfl rfl rfl (Nat.le_of_ble_eq_true rfl) dX2_keepPeaks_52 ⟨Nat.zero_le _, Nat.zero_le _⟩ (fun H locs hP hD hS => ?_)
        have hP : va_P G.1 vwCl [(wa, .inr (2, [.ref (G.2.2.1 i), .ref pa, .ref pr, .ref wo, .ref wl, .int tr, .long dr, .long wt, .int (nI r), .long y_1, .long le]))] H := hP
        have hD : va_D A [(wa, .inr (2, [.ref (G.2.2.1 i), .ref pa, .ref pr, .ref wo, .ref wl, .int tr, .long dr, .long wt, .int (nI r), .long y_1, .long le]))] := hD
        refine bz_eq (tgt := 66) hx hb dX2_keepPeaks_55 (by decide) (fun c_6 => ?_) (fun c_6 => ?_)
        · exact kj_4 le (by rw [if_neg c_5, if_pos c_6]) _ _ _ hP hD hS (lv_sub hl [] rfl)
        · refine lv_aload_n hx hb dX2_keepPeaks_58 rfl (lv_at hl 0 rfl) ?_
          refine lv_aload_n hx hb dX2_keepPeaks_59 rfl (lv_at hl 0 rfl) ?_
          refine va_get (D := G.1) (ci := 2) (v := .long wt) (C := RX2) (T := TX2) (N := 11) hx hb hts (by decide +kernel) hown hK hP 0 rfl rfl 7 (by decide) (hts (.fieldLink RX2 38 "PedalBoard$Wire" "wet" "J") (by decide +kernel)) (fun _ h9 => h9) rfl dX2_keepPeaks_60 ?_
          refine va_put (D := G.1) (ci := 2) (v := .long wt) (ty := .long) (C := RX2) (T := TX2) (N := 11) hx hb hts (by decide +kernel) tyX2 tyX2_ok nmX2 hown hK hP hD hS 0 rfl rfl 10 (by decide) (hts (.fieldLink RX2 82 "PedalBoard$Wire" "least" "J") (by decide +kernel)) (fun _ h9 => h9) rfl (by decide +kernel) rfl rfl (Nat.le_of_ble_eq_true rfl) dX2_keepPeaks_63 (fun H locs hP hD hS => ?_)
          have hP : va_P G.1 vwCl [(wa, .inr (2, [.ref (G.2.2.1 i), .ref pa, .ref pr, .ref wo, .ref wl, .int tr, .long dr, .long wt, .int (nI r), .long y_1, .long wt]))] H := hP
          have hD : va_D A [(wa, .inr (2, [.ref (G.2.2.1 i), .ref pa, .ref pr, .ref wo, .ref wl, .int tr, .long dr, .long wt, .int (nI r), .long y_1, .long wt]))] := hD
          exact kj_4 wt (by rw [if_neg c_5, if_neg c_6]) _ _ _ hP hD hS (lv_sub hl [] rfl)
  · intro kj_1
    refine bz_eq (tgt := 25) hx hb dX2_keepPeaks_4 (by decide) (fun c_2 => ?_) (fun c_2 => ?_)
    · refine lv_aload_n hx hb dX2_keepPeaks_25 rfl (lv_at hl 0 rfl) ?_
      refine lv_aload_n hx hb dX2_keepPeaks_26 rfl (lv_at hl 0 rfl) ?_
      refine va_get (D := G.1) (ci := 2) (v := .long wt) (C := RX2) (T := TX2) (N := 11) hx hb hts (by decide +kernel) hown hK hP 0 rfl rfl 7 (by decide) (hts (.fieldLink RX2 38 "PedalBoard$Wire" "wet" "J") (by decide +kernel)) (fun _ h9 => h9) rfl dX2_keepPeaks_27 ?_
      refine va_put (D := G.1) (ci := 2) (v := .long wt) (ty := .long) (C := RX2) (T := TX2) (N := 11) hx hb hts (by decide +kernel) tyX2 tyX2_ok nmX2 hown hK hP hD hS 0 rfl rfl 9 (by decide) (hts (.fieldLink RX2 75 "PedalBoard$Wire" "greatest" "J") (by decide +kernel)) (fun _ h9 => h9) rfl (by decide +kernel) rfl rfl (Nat.le_of_ble_eq_true rfl) dX2_keepPeaks_30 (fun H locs hP hD hS => ?_)
      have hP : va_P G.1 vwCl [(wa, .inr (2, [.ref (G.2.2.1 i), .ref pa, .ref pr, .ref wo, .ref wl, .int tr, .long dr, .long wt, .int (nI r), .long wt, .long le]))] H := hP
      have hD : va_D A [(wa, .inr (2, [.ref (G.2.2.1 i), .ref pa, .ref pr, .ref wo, .ref wl, .int tr, .long dr, .long wt, .int (nI r), .long wt, .long le]))] := hD
      exact kj_1 wt (by rw [if_pos c_2]) _ _ _ hP hD hS (lv_sub hl [0] rfl)
    · refine lv_aload_n hx hb dX2_keepPeaks_7 rfl (lv_at hl 0 rfl) ?_
      refine va_get (D := G.1) (ci := 2) (v := .ref (G.2.2.1 i)) (C := RX2) (T := TX2) (N := 11) hx hb hts (by decide +kernel) hown hK hP 0 rfl rfl 0 (by decide) (hts (.fieldLink RX2 9 "PedalBoard$Wire" "sort" "LPedalBoard$Sort;") (by decide +kernel)) (fun _ h9 => h9) rfl dX2_keepPeaks_8 ?_
      refine lv_aload_n hx hb dX2_keepPeaks_11 rfl (lv_at hl 0 rfl) ?_
      refine va_get (D := G.1) (ci := 2) (v := .long gr) (C := RX2) (T := TX2) (N := 11) hx hb hts (by decide +kernel) hown hK hP 0 rfl rfl 9 (by decide) (hts (.fieldLink RX2 75 "PedalBoard$Wire" "greatest" "J") (by decide +kernel)) (fun _ h9 => h9) rfl dX2_keepPeaks_12 ?_
      refine lv_aload_n hx hb dX2_keepPeaks_15 rfl (lv_at hl 0 rfl) ?_
      refine va_get (D := G.1) (ci := 2) (v := .long wt) (C := RX2) (T := TX2) (N := 11) hx hb hts (by decide +kernel) hown hK hP 0 rfl rfl 7 (by decide) (hts (.fieldLink RX2 38 "PedalBoard$Wire" "wet" "J") (by decide +kernel)) (fun _ h9 => h9) rfl dX2_keepPeaks_16 ?_
      refine cv_i (As := [.long gr, .long wt]) (rest := []) ⟨hx, hb, hml, hown, hts⟩ (kX1_isLess l G i gr wt hi4) (cwV 2 hts gX2_keepPeaks_X1_isLess rfl rfl rfl (by decide +kernel) ⟨Nat.le_of_ble_eq_true rfl, Nat.le_of_ble_eq_true rfl⟩) (so_rec hE hi4 hS) hE hK hP hD hS hA hl.1 [] rfl rfl rfl rfl rfl rfl (Nat.le_of_ble_eq_true rfl) dX2_keepPeaks_19 ⟨Nat.zero_le _, Nat.zero_le _⟩ (fun H locs hP hD hS => ?_)
      have hP : va_P G.1 vwCl [(wa, .inr (2, [.ref (G.2.2.1 i), .ref pa, .ref pr, .ref wo, .ref wl, .int tr, .long dr, .long wt, .int (nI r), .long gr, .long le]))] H := hP
      have hD : va_D A [(wa, .inr (2, [.ref (G.2.2.1 i), .ref pa, .ref pr, .ref wo, .ref wl, .int tr, .long dr, .long wt, .int (nI r), .long gr, .long le]))] := hD
      refine bz_eq (tgt := 33) hx hb dX2_keepPeaks_22 (by decide) (fun c_3 => ?_) (fun c_3 => ?_)
      · exact kj_1 gr (by rw [if_neg c_2, if_pos c_3]) _ _ _ hP hD hS (lv_sub hl [0] rfl)
      · refine lv_aload_n hx hb dX2_keepPeaks_25 rfl (lv_at hl 0 rfl) ?_
        refine lv_aload_n hx hb dX2_keepPeaks_26 rfl (lv_at hl 0 rfl) ?_
        refine va_get (D := G.1) (ci := 2) (v := .long wt) (C := RX2) (T := TX2) (N := 11) hx hb hts (by decide +kernel) hown hK hP 0 rfl rfl 7 (by decide) (hts (.fieldLink RX2 38 "PedalBoard$Wire" "wet" "J") (by decide +kernel)) (fun _ h9 => h9) rfl dX2_keepPeaks_27 ?_
        refine va_put (D := G.1) (ci := 2) (v := .long wt) (ty := .long) (C := RX2) (T := TX2) (N := 11) hx hb hts (by decide +kernel) tyX2 tyX2_ok nmX2 hown hK hP hD hS 0 rfl rfl 9 (by decide) (hts (.fieldLink RX2 75 "PedalBoard$Wire" "greatest" "J") (by decide +kernel)) (fun _ h9 => h9) rfl (by decide +kernel) rfl rfl (Nat.le_of_ble_eq_true rfl) dX2_keepPeaks_30 (fun H locs hP hD hS => ?_)
        have hP : va_P G.1 vwCl [(wa, .inr (2, [.ref (G.2.2.1 i), .ref pa, .ref pr, .ref wo, .ref wl, .int tr, .long dr, .long wt, .int (nI r), .long wt, .long le]))] H := hP
        have hD : va_D A [(wa, .inr (2, [.ref (G.2.2.1 i), .ref pa, .ref pr, .ref wo, .ref wl, .int tr, .long dr, .long wt, .int (nI r), .long wt, .long le]))] := hD
        exact kj_1 wt (by rw [if_neg c_2, if_neg c_3]) _ _ _ hP hD hS (lv_sub hl [0] rfl)
theorem has_ix {n : Nat} {pl : Int32} (hn : n ≤ 12) (h : ¬ fX0_has n pl = 0) : pl = nI pl.toNatClampNeg ∧ pl.toNatClampNeg < n := by
  unfold fX0_has at h
  by_cases h1 : pl < 0
  · rw [if_pos h1] at h; exact absurd rfl h
  · rw [if_neg h1] at h
    by_cases h2 : pl < nI n
    · obtain ⟨j, hj, rfl⟩ := nI_of h1
      rw [nI_clamp hj]
      exact ⟨rfl, (nI_ltI hj (by omega)).mp h2⟩
    · rw [if_neg h2] at h; exact absurd rfl h
theorem has_1 {n u : Nat} (hn : n ≤ 12) (h : u < n) : ¬ fX0_has n (nI u) = 0 := by
  unfold fX0_has
  rw [if_neg (nI_pos (by omega)), if_pos (nI_lt h (by omega))]
  decide
def fX2_isLit (tr : Int32) (n : Nat) (li : Nat → Int32) (pl : Int32) : Int32 := (if tr = 0 then (0:Int32) else (if (fX0_has n pl) = 0 then (0:Int32) else (if (li pl.toNatClampNeg) = 0 then (0:Int32) else (1:Int32))))
set_option maxHeartbeats 4000000 in
set_option maxRecDepth 100000 in
theorem kX2_isLit (l : Launch) (G : GT) (wa : Nat) (i : Nat) (pa : Nat) (pr : Nat) (wo : Nat) (wl : Nat) (tr : Int32) (dr : Int64) (wt : Int64) (r : Nat) (gr : Int64) (le : Int64) (pk : Nat) (pn : Nat) (po : Nat) (n : Nat) (li : Nat → Int32) (pl : Int32) (hn : n ≤ 12) : CI l yX2_isLit wsX2_isLit { frames := 1, cells := 0, slots := 0, locals := 21 } G [.ref wa, .int pl] [(wa, .inr (2, [.ref (G.2.2.1 i), .ref pa, .ref pr, .ref wo, .ref wl, .int tr, .long dr, .long wt, .int (nI r), .long gr, .long le])), (pa, .inr (0, [.ref pk, .ref pn, .ref po, .int (nI n)])), (wl, .inl (G.2.1 2, 12, .inl li))] (fX2_isLit tr n li pl) [(wa, .inr (2, [.ref (G.2.2.1 i), .ref pa, .ref pr, .ref wo, .ref wl, .int tr, .long dr, .long wt, .int (nI r), .long gr, .long le])), (pa, .inr (0, [.ref pk, .ref pn, .ref po, .int (nI n)])), (wl, .inl (G.2.1 2, 12, .inl li))] := by
  refine en_i (cc := cX2_isLit) (maxL := 2) (ret := (some .boolean)) (own := RX2) (by decide) rfl rfl (Nat.le_of_ble_eq_true rfl) ?_
  intro p e s m below meth c A ls hx hb hr hts hown hml hlocks hA hK hE hP hD hS hl
  have hl : lv_has ls 2 [(0, .ref wa), (1, .int pl)] := hl
  refine lv_aload_n hx hb dX2_isLit_0 rfl (lv_at hl 0 rfl) ?_
  refine va_get (D := G.1) (ci := 2) (v := .int tr) (C := RX2) (T := TX2) (N := 11) hx hb hts (by decide +kernel) hown hK hP 0 rfl rfl 5 (by decide) (hts (.fieldLink RX2 45 "PedalBoard$Wire" "traced" "Z") (by decide +kernel)) (fun _ h9 => h9) rfl dX2_isLit_1 ?_
  refine bz_eq (tgt := 31) hx hb dX2_isLit_4 (by decide) (fun c_1 => ?_) (fun c_1 => ?_)
  · refine lv_iconst (v := (0:Int32)) hx hb dX2_isLit_31 (by decide) ?_
    exact rt_z hx hb hr hlocks hP hD hS dX2_isLit_32 (by rw [fX2_isLit, if_pos c_1]) (z_nar (Or.inl rfl))
  · refine lv_aload_n hx hb dX2_isLit_7 rfl (lv_at hl 0 rfl) ?_
    refine va_get (D := G.1) (ci := 2) (v := .ref pa) (C := RX2) (T := TX2) (N := 11) hx hb hts (by decide +kernel) hown hK hP 0 rfl rfl 1 (by decide) (hts (.fieldLink RX2 18 "PedalBoard$Wire" "pedals" "LPedalBoard$Pedals;") (by decide +kernel)) (fun _ h9 => h9) rfl dX2_isLit_8 ?_
    refine lv_iload_n hx hb dX2_isLit_11 rfl (lv_at hl 1 rfl) ?_
    refine cv_i (As := [.int pl]) (rest := []) (ws' := [(wa, .inr (2, [.ref (G.2.2.1 i), .ref pa, .ref pr, .ref wo, .ref wl, .int tr, .long dr, .long wt, .int (nI r), .long gr, .long le])), (pa, .inr (0, [.ref pk, .ref pn, .ref po, .int (nI n)])), (wl, .inl (G.2.1 2, 12, .inl li))]) ⟨hx, hb, hml, hown, hts⟩ (kX0_has l G pa pk pn po n pl) (cwV 1 hts gX2_isLit_X0_has rfl rfl rfl (by decide +kernel) ⟨Nat.le_of_ble_eq_true rfl, Nat.le_of_ble_eq_true rfl⟩) (va_recv hK hP (ci := 0) (q0 := 1) rfl rfl) hE hK hP hD hS hA hl.1 [1] rfl rfl rfl rfl rfl rfl (Nat.le_of_ble_eq_true rfl) dX2_isLit_12 ⟨Nat.zero_le _, Nat.zero_le _⟩ (fun H locs hP hD hS => ?_)
    refine bz_eq (tgt := 31) hx hb dX2_isLit_15 (by decide) (fun c_2 => ?_) (fun c_2 => ?_)
    · refine lv_iconst (v := (0:Int32)) hx hb dX2_isLit_31 (by decide) ?_
      exact rt_z hx hb hr hlocks hP hD hS dX2_isLit_32 (by rw [fX2_isLit, if_neg c_1, if_pos c_2]) (z_nar (Or.inl rfl))
    · refine lv_aload_n hx hb dX2_isLit_18 rfl (lv_at hl 0 rfl) ?_
      refine va_get (D := G.1) (ci := 2) (v := .ref wl) (C := RX2) (T := TX2) (N := 11) hx hb hts (by decide +kernel) hown hK hP 0 rfl rfl 4 (by decide) (hts (.fieldLink RX2 30 "PedalBoard$Wire" "lights" "[Z") (by decide +kernel)) (fun _ h9 => h9) rfl dX2_isLit_19 ?_
      refine lv_iload_n hx hb dX2_isLit_22 rfl (lv_at hl 1 rfl) ?_
      refine ar_zld hx hb hK hP 2 rfl pl.toNatClampNeg (has_ix hn c_2).1 (Nat.lt_of_lt_of_le (has_ix hn c_2).2 hn) (by decide) dX2_isLit_23 ?_
      refine bz_eq (tgt := 31) hx hb dX2_isLit_24 (by decide) (fun c_3 => ?_) (fun c_3 => ?_)
      · refine lv_iconst (v := (0:Int32)) hx hb dX2_isLit_31 (by decide) ?_
        exact rt_z hx hb hr hlocks hP hD hS dX2_isLit_32 (by rw [fX2_isLit, if_neg c_1, if_neg c_2, if_pos c_3]) (z_nar (Or.inl rfl))
      · refine lv_iconst (v := (1:Int32)) hx hb dX2_isLit_27 (by decide) ?_
        refine lv_goto (tgt := 32) hx hb dX2_isLit_28 (by decide) ?_
        exact rt_z hx hb hr hlocks hP hD hS dX2_isLit_32 (by rw [fX2_isLit, if_neg c_1, if_neg c_2, if_neg c_3]) (z_nar (Or.inr rfl))
theorem z_X2_isLit (tr : Int32) (n : Nat) (li : Nat → Int32) (pl : Int32) : (fX2_isLit tr n li pl) = 0 ∨ (fX2_isLit tr n li pl) = 1 := by
  unfold fX2_isLit; repeat (first | exact Or.inl rfl | exact Or.inr rfl | split)
def cLit (tr : Int32) (n : Nat) (li : Nat → Int32) : Nat → Int32
  | 0 => 0
  | k + 1 => if fX2_isLit tr n li (nI k) = 0 then cLit tr n li k else cLit tr n li k + (1:Int32)
def fX2_countLit (tr : Int32) (n : Nat) (li : Nat → Int32) : Int32 := cLit tr n li n
set_option maxHeartbeats 4000000 in
set_option maxRecDepth 100000 in
theorem kX2_countLit (l : Launch) (G : GT) (wa : Nat) (i : Nat) (pa : Nat) (pr : Nat) (wo : Nat) (wl : Nat) (tr : Int32) (dr : Int64) (wt : Int64) (r : Nat) (gr : Int64) (le : Int64) (pk : Nat) (pn : Nat) (po : Nat) (n : Nat) (li : Nat → Int32) (hn : n ≤ 12) : CI l yX2_countLit wsX2_countLit { frames := 2, cells := 0, slots := 0, locals := 42 } G [.ref wa] [(wa, .inr (2, [.ref (G.2.2.1 i), .ref pa, .ref pr, .ref wo, .ref wl, .int tr, .long dr, .long wt, .int (nI r), .long gr, .long le])), (pa, .inr (0, [.ref pk, .ref pn, .ref po, .int (nI n)])), (wl, .inl (G.2.1 2, 12, .inl li))] (fX2_countLit tr n li) [(wa, .inr (2, [.ref (G.2.2.1 i), .ref pa, .ref pr, .ref wo, .ref wl, .int tr, .long dr, .long wt, .int (nI r), .long gr, .long le])), (pa, .inr (0, [.ref pk, .ref pn, .ref po, .int (nI n)])), (wl, .inl (G.2.1 2, 12, .inl li))] := by
  refine en_i (cc := cX2_countLit) (maxL := 3) (ret := (some .int)) (own := RX2) (by decide) rfl rfl (Nat.le_of_ble_eq_true rfl) ?_
  intro p e s m below meth c A ls hx hb hr hts hown hml hlocks hA hK hE hP hD hS hl
  have hl : lv_has ls 3 [(0, .ref wa)] := hl
  refine lv_iconst (v := (0:Int32)) hx hb dX2_countLit_0 (by decide) ?_
  refine lv_istore_n (lv' := [(1, .int (0:Int32)), (0, .ref wa)]) hx hb dX2_countLit_1 rfl hl (by decide) rfl (fun ls hl => ?_)
  refine lv_iconst (v := (0:Int32)) hx hb dX2_countLit_2 (by decide) ?_
  refine lv_istore_n (lv' := [(2, .int (0:Int32)), (1, .int (0:Int32)), (0, .ref wa)]) hx hb dX2_countLit_3 rfl hl (by decide) rfl (fun ls hl => ?_)
  refine lp_1 (T := Int32) G A n (fun k y => y = cLit tr n li k) (fun k y => [(wa, .inr (2, [.ref (G.2.2.1 i), .ref pa, .ref pr, .ref wo, .ref wl, .int tr, .long dr, .long wt, .int (nI r), .long gr, .long le])), (pa, .inr (0, [.ref pk, .ref pn, .ref po, .int (nI n)])), (wl, .inl (G.2.1 2, 12, .inl li))]) 3 (fun k y => [(2, .int (nI k)), (1, .int y), (0, .ref wa)]) 4 (fun k yy hk hi ih H locs ls hP hD hS hl => ?_) 0 (0:Int32) (by first | exact Nat.zero_le _ | omega) rfl _ _ _ hP hD hS (lv_sub hl [0, 1, 2] rfl)
  obtain ⟨fd, rfl⟩ : ∃ z, z = yy := ⟨_, rfl⟩
  have hl : lv_has ls 3 [(2, .int (nI k)), (1, .int fd), (0, .ref wa)] := hl
  have hi : fd = cLit tr n li k := hi
  have hP : va_P G.1 vwCl [(wa, .inr (2, [.ref (G.2.2.1 i), .ref pa, .ref pr, .ref wo, .ref wl, .int tr, .long dr, .long wt, .int (nI r), .long gr, .long le])), (pa, .inr (0, [.ref pk, .ref pn, .ref po, .int (nI n)])), (wl, .inl (G.2.1 2, 12, .inl li))] H := hP
  have hD : va_D A [(wa, .inr (2, [.ref (G.2.2.1 i), .ref pa, .ref pr, .ref wo, .ref wl, .int tr, .long dr, .long wt, .int (nI r), .long gr, .long le])), (pa, .inr (0, [.ref pk, .ref pn, .ref po, .int (nI n)])), (wl, .inl (G.2.1 2, 12, .inl li))] := hD
  refine lv_iload_n hx hb dX2_countLit_4 rfl (lv_at hl 0 rfl) ?_
  refine lv_aload_n hx hb dX2_countLit_5 rfl (lv_at hl 2 rfl) ?_
  refine va_get (D := G.1) (ci := 2) (v := .ref pa) (C := RX2) (T := TX2) (N := 11) hx hb hts (by decide +kernel) hown hK hP 0 rfl rfl 1 (by decide) (hts (.fieldLink RX2 18 "PedalBoard$Wire" "pedals" "LPedalBoard$Pedals;") (by decide +kernel)) (fun _ h9 => h9) rfl dX2_countLit_6 ?_
  refine va_get (D := G.1) (ci := 0) (v := .int (nI n)) (C := RX0) (T := TX0) (N := 4) hx hb hts (by decide +kernel) hown hK hP 1 rfl rfl 3 (by decide) (hts (.fieldLink RX2 49 "PedalBoard$Pedals" "count" "I") (by decide +kernel)) (fun _ h9 => h9) rfl dX2_countLit_9 ?_
  refine bi_ge (tgt := 32) hx hb dX2_countLit_12 (by decide) (fun c_1 => ?_) (fun c_1 => ?_)
  · refine lv_aload_n hx hb dX2_countLit_15 rfl (lv_at hl 2 rfl) ?_
    refine lv_iload_n hx hb dX2_countLit_16 rfl (lv_at hl 0 rfl) ?_
    refine cv_i (As := [.int (nI k)]) (rest := []) (ws' := [(wa, .inr (2, [.ref (G.2.2.1 i), .ref pa, .ref pr, .ref wo, .ref wl, .int tr, .long dr, .long wt, .int (nI r), .long gr, .long le])), (pa, .inr (0, [.ref pk, .ref pn, .ref po, .int (nI n)])), (wl, .inl (G.2.1 2, 12, .inl li))]) ⟨hx, hb, hml, hown, hts⟩ (kX2_isLit l G wa i pa pr wo wl tr dr wt r gr le pk pn po n li (nI k) (by first | assumption | omega)) (cwV 1 hts gX2_countLit_X2_isLit rfl rfl rfl (by decide +kernel) ⟨Nat.le_of_ble_eq_true rfl, Nat.le_of_ble_eq_true rfl⟩) (va_recv hK hP (ci := 2) (q0 := 0) rfl rfl) hE hK hP hD hS hA hl.1 [0, 1, 2] rfl rfl rfl rfl rfl rfl (Nat.le_of_ble_eq_true rfl) dX2_countLit_17 ⟨Nat.zero_le _, Nat.zero_le _⟩ (fun H locs hP hD hS => ?_)
    refine bz_eq (tgt := 26) hx hb dX2_countLit_20 (by decide) (fun c_2 => ?_) (fun c_2 => ?_)
    · refine lv_iinc (v := (nI (k + 1))) (lv' := [(2, .int (nI (k + 1))), (1, .int fd), (0, .ref wa)]) hx hb dX2_countLit_26 hl (k := 0) rfl (by rw [← nI_1]; rfl) (by decide) rfl (fun ls hl => ?_)
      refine lv_goto (tgt := 4) hx hb dX2_countLit_29 (by decide) ?_
      exact ih (nk_lt hk (by omega) c_1) fd (by show _ = cLit tr n li (k + 1); rw [cLit, if_pos c_2]; exact hi) _ _ _ hP hD hS (lv_sub hl [0, 1, 2] rfl)
    · refine lv_iinc (v := (fd + (1:Int32))) (lv' := [(1, .int (fd + (1:Int32))), (2, .int (nI k)), (0, .ref wa)]) hx hb dX2_countLit_23 hl (k := 1) rfl (by rfl) (by decide) rfl (fun ls hl => ?_)
      refine lv_iinc (v := (nI (k + 1))) (lv' := [(2, .int (nI (k + 1))), (1, .int (fd + (1:Int32))), (0, .ref wa)]) hx hb dX2_countLit_26 hl (k := 1) rfl (by rw [← nI_1]; rfl) (by decide) rfl (fun ls hl => ?_)
      refine lv_goto (tgt := 4) hx hb dX2_countLit_29 (by decide) ?_
      exact ih (nk_lt hk (by omega) c_1) (fd + (1:Int32)) (by show _ = cLit tr n li (k + 1); rw [cLit, if_neg c_2, ← hi]) _ _ _ hP hD hS (lv_sub hl [0, 1, 2] rfl)
  · refine lv_iload_n hx hb dX2_countLit_32 rfl (lv_at hl 1 rfl) ?_
    exact rt_i hx hb hr hlocks hP hD hS dX2_countLit_33 (by rw [hi, nk_ge hk (by omega) c_1]; rfl)
/-- a round: the signal behind k pedals; what came out of each; its light; the changes -/
def rW (i : Nat) (ki : Nat → Int32) (kn : Nat → Int64) (on : Nat → Int32) (wt : Int64) : Nat → Int64
  | 0 => wt
  | k + 1 => if on k = 0 then rW i ki kn on wt k else fX1_through i (ki k) (kn k) (rW i ki kn on wt k)
def rO (i : Nat) (ki : Nat → Int32) (kn : Nat → Int64) (on : Nat → Int32) (wt : Int64) : Nat → Int64 := fun k => rW i ki kn on wt (k + 1)
def rL (i : Nat) (ki : Nat → Int32) (kn : Nat → Int64) (on : Nat → Int32) (wt : Int64) : Nat → Int32 := fun k => if rW i ki kn on wt (k + 1) = rW i ki kn on wt k then 0 else 1
def rC (i : Nat) (ki : Nat → Int32) (kn : Nat → Int64) (on : Nat → Int32) (wt : Int64) : Nat → Int32
  | 0 => 0
  | k + 1 => if rW i ki kn on wt (k + 1) = rW i ki kn on wt k then rC i ki kn on wt k else rC i ki kn on wt k + (1:Int32)
section RW
variable {i : Nat} {ki : Nat → Int32} {kn : Nat → Int64} {on : Nat → Int32} {wt : Int64} {k : Nat}
theorem rW_off (h : on k = 0) : rW i ki kn on wt (k + 1) = rW i ki kn on wt k := if_pos h
theorem rW_on (h : ¬ on k = 0) : rW i ki kn on wt (k + 1) = fX1_through i (ki k) (kn k) (rW i ki kn on wt k) := if_neg h
theorem rO_s (ou : Nat → Int64) : vp_updL (mx k (rO i ki kn on wt) ou) k (rW i ki kn on wt (k + 1)) = mx (k + 1) (rO i ki kn on wt) ou := mx_sJ k (rO i ki kn on wt) ou
theorem rL_0 (li : Nat → Int32) (h : rW i ki kn on wt (k + 1) = rW i ki kn on wt k) : upd (mx k (rL i ki kn on wt) li) k 0 = mx (k + 1) (rL i ki kn on wt) li := by
  rw [← mx_sI]; unfold rL; rw [if_pos h]
theorem rL_1 (li : Nat → Int32) (h : ¬ rW i ki kn on wt (k + 1) = rW i ki kn on wt k) : upd (mx k (rL i ki kn on wt) li) k 1 = mx (k + 1) (rL i ki kn on wt) li := by
  rw [← mx_sI]; unfold rL; rw [if_neg h]
theorem rC_0 (h : rW i ki kn on wt (k + 1) = rW i ki kn on wt k) : rC i ki kn on wt (k + 1) = rC i ki kn on wt k := if_pos h
theorem rC_1 (h : ¬ rW i ki kn on wt (k + 1) = rW i ki kn on wt k) : rC i ki kn on wt (k + 1) = rC i ki kn on wt k + (1:Int32) := if_neg h
theorem upd_same (f : Nat → Int32) (k : Nat) (x : Int32) : (upd f k x) k = x := pk_us
end RW
def fX2_runRound (i : Nat) (wt : Int64) (n : Nat) (ki : Nat → Int32) (kn : Nat → Int64) (on : Nat → Int32) : Int32 := rC i ki kn on wt n
set_option maxHeartbeats 4000000 in
set_option maxRecDepth 100000 in
theorem kX2_runRound (l : Launch) (G : GT) (wa : Nat) (i : Nat) (pa : Nat) (pr : Nat) (wo : Nat) (wl : Nat) (tr : Int32) (dr : Int64) (wt : Int64) (r : Nat) (gr : Int64) (le : Int64) (pk : Nat) (pn : Nat) (po : Nat) (n : Nat) (ki : Nat → Int32) (kn : Nat → Int64) (on : Nat → Int32) (ou : Nat → Int64) (li : Nat → Int32) (hi4 : i < 4) (hn : n ≤ 12) : CI l yX2_runRound wsX2_runRound { frames := 4, cells := 0, slots := 0, locals := 91 } G [.ref wa] [(wa, .inr (2, [.ref (G.2.2.1 i), .ref pa, .ref pr, .ref wo, .ref wl, .int tr, .long dr, .long wt, .int (nI r), .long gr, .long le])), (pa, .inr (0, [.ref pk, .ref pn, .ref po, .int (nI n)])), (pk, .inl (G.2.1 0, 12, .inl ki)), (pn, .inl (G.2.1 1, 12, .inr (.inl kn))), (po, .inl (G.2.1 2, 12, .inl on)), (wo, .inl (G.2.1 1, 12, .inr (.inl ou))), (wl, .inl (G.2.1 2, 12, .inl li))] (fX2_runRound i wt n ki kn on) [(wa, .inr (2, [.ref (G.2.2.1 i), .ref pa, .ref pr, .ref wo, .ref wl, .int (1:Int32), .long dr, .long (rW i ki kn on wt n), .int (nI (r + 1)), .long (if (fX2_hasPeaks r) = 0 then (rW i ki kn on wt n) else (if (fX1_isLess i gr (rW i ki kn on wt n)) = 0 then gr else (rW i ki kn on wt n))), .long (if (fX2_hasPeaks r) = 0 then (rW i ki kn on wt n) else (if (fX1_isLess i (rW i ki kn on wt n) le) = 0 then le else (rW i ki kn on wt n)))])), (pa, .inr (0, [.ref pk, .ref pn, .ref po, .int (nI n)])), (pk, .inl (G.2.1 0, 12, .inl ki)), (pn, .inl (G.2.1 1, 12, .inr (.inl kn))), (po, .inl (G.2.1 2, 12, .inl on)), (wo, .inl (G.2.1 1, 12, .inr (.inl (mx n (rO i ki kn on wt) ou)))), (wl, .inl (G.2.1 2, 12, .inl (mx n (rL i ki kn on wt) li)))] := by
  refine en_i (cc := cX2_runRound) (maxL := 5) (ret := (some .int)) (own := RX2) (by decide) rfl rfl (Nat.le_of_ble_eq_true rfl) ?_
  intro p e s m below meth c A ls hx hb hr hts hown hml hlocks hA hK hE hP hD hS hl
  have hl : lv_has ls 5 [(0, .ref wa)] := hl
  refine lv_iconst (v := (0:Int32)) hx hb dX2_runRound_0 (by decide) ?_
  refine lv_istore_n (lv' := [(1, .int (0:Int32)), (0, .ref wa)]) hx hb dX2_runRound_1 rfl hl (by decide) rfl (fun ls hl => ?_)
  refine lv_iconst (v := (0:Int32)) hx hb dX2_runRound_2 (by decide) ?_
  refine lv_istore_n (lv' := [(2, .int (0:Int32)), (1, .int (0:Int32)), (0, .ref wa)]) hx hb dX2_runRound_3 rfl hl (by decide) rfl (fun ls hl => ?_)
  have hP : va_P G.1 vwCl [(wa, .inr (2, [.ref (G.2.2.1 i), .ref pa, .ref pr, .ref wo, .ref wl, .int tr, .long dr, .long (rW i ki kn on wt 0), .int (nI r), .long gr, .long le])), (pa, .inr (0, [.ref pk, .ref pn, .ref po, .int (nI n)])), (pk, .inl (G.2.1 0, 12, .inl ki)), (pn, .inl (G.2.1 1, 12, .inr (.inl kn))), (po, .inl (G.2.1 2, 12, .inl on)), (wo, .inl (G.2.1 1, 12, .inr (.inl (mx 0 (rO i ki kn on wt) ou)))), (wl, .inl (G.2.1 2, 12, .inl (mx 0 (rL i ki kn on wt) li)))] s.heap := by rw [mx_0, mx_0]; exact hP
  have hD : va_D A [(wa, .inr (2, [.ref (G.2.2.1 i), .ref pa, .ref pr, .ref wo, .ref wl, .int tr, .long dr, .long (rW i ki kn on wt 0), .int (nI r), .long gr, .long le])), (pa, .inr (0, [.ref pk, .ref pn, .ref po, .int (nI n)])), (pk, .inl (G.2.1 0, 12, .inl ki)), (pn, .inl (G.2.1 1, 12, .inr (.inl kn))), (po, .inl (G.2.1 2, 12, .inl on)), (wo, .inl (G.2.1 1, 12, .inr (.inl (mx 0 (rO i ki kn on wt) ou)))), (wl, .inl (G.2.1 2, 12, .inl (mx 0 (rL i ki kn on wt) li)))] := by rw [mx_0, mx_0]; exact hD
  refine lp_1 (T := Int32) G A n (fun k y => y = rC i ki kn on wt k) (fun k y => [(wa, .inr (2, [.ref (G.2.2.1 i), .ref pa, .ref pr, .ref wo, .ref wl, .int tr, .long dr, .long (rW i ki kn on wt k), .int (nI r), .long gr, .long le])), (pa, .inr (0, [.ref pk, .ref pn, .ref po, .int (nI n)])), (pk, .inl (G.2.1 0, 12, .inl ki)), (pn, .inl (G.2.1 1, 12, .inr (.inl kn))), (po, .inl (G.2.1 2, 12, .inl on)), (wo, .inl (G.2.1 1, 12, .inr (.inl (mx k (rO i ki kn on wt) ou)))), (wl, .inl (G.2.1 2, 12, .inl (mx k (rL i ki kn on wt) li)))]) 5 (fun k y => [(2, .int (nI k)), (1, .int y), (0, .ref wa)]) 4 (fun k yy hk hi ih H locs ls hP hD hS hl => ?_) 0 (0:Int32) (by first | exact Nat.zero_le _ | omega) rfl _ _ _ hP hD hS (lv_sub hl [0, 1, 2] rfl)
  obtain ⟨ch, rfl⟩ : ∃ z, z = yy := ⟨_, rfl⟩
  have hl : lv_has ls 5 [(2, .int (nI k)), (1, .int ch), (0, .ref wa)] := hl
  have hi : ch = rC i ki kn on wt k := hi
  have hP : va_P G.1 vwCl [(wa, .inr (2, [.ref (G.2.2.1 i), .ref pa, .ref pr, .ref wo, .ref wl, .int tr, .long dr, .long (rW i ki kn on wt k), .int (nI r), .long gr, .long le])), (pa, .inr (0, [.ref pk, .ref pn, .ref po, .int (nI n)])), (pk, .inl (G.2.1 0, 12, .inl ki)), (pn, .inl (G.2.1 1, 12, .inr (.inl kn))), (po, .inl (G.2.1 2, 12, .inl on)), (wo, .inl (G.2.1 1, 12, .inr (.inl (mx k (rO i ki kn on wt) ou)))), (wl, .inl (G.2.1 2, 12, .inl (mx k (rL i ki kn on wt) li)))] H := hP
  have hD : va_D A [(wa, .inr (2, [.ref (G.2.2.1 i), .ref pa, .ref pr, .ref wo, .ref wl, .int tr, .long dr, .long (rW i ki kn on wt k), .int (nI r), .long gr, .long le])), (pa, .inr (0, [.ref pk, .ref pn, .ref po, .int (nI n)])), (pk, .inl (G.2.1 0, 12, .inl ki)), (pn, .inl (G.2.1 1, 12, .inr (.inl kn))), (po, .inl (G.2.1 2, 12, .inl on)), (wo, .inl (G.2.1 1, 12, .inr (.inl (mx k (rO i ki kn on wt) ou)))), (wl, .inl (G.2.1 2, 12, .inl (mx k (rL i ki kn on wt) li)))] := hD
  refine lv_iload_n hx hb dX2_runRound_4 rfl (lv_at hl 0 rfl) ?_
  refine lv_aload_n hx hb dX2_runRound_5 rfl (lv_at hl 2 rfl) ?_
  refine va_get (D := G.1) (ci := 2) (v := .ref pa) (C := RX2) (T := TX2) (N := 11) hx hb hts (by decide +kernel) hown hK hP 0 rfl rfl 1 (by decide) (hts (.fieldLink RX2 18 "PedalBoard$Wire" "pedals" "LPedalBoard$Pedals;") (by decide +kernel)) (fun _ h9 => h9) rfl dX2_runRound_6 ?_
  refine va_get (D := G.1) (ci := 0) (v := .int (nI n)) (C := RX0) (T := TX0) (N := 4) hx hb hts (by decide +kernel) hown hK hP 1 rfl rfl 3 (by decide) (hts (.fieldLink RX2 49 "PedalBoard$Pedals" "count" "I") (by decide +kernel)) (fun _ h9 => h9) rfl dX2_runRound_9 ?_
  refine bi_ge (tgt := 114) hx hb dX2_runRound_12 (by decide) (fun c_1 => ?_) (fun c_1 => ?_)
  · refine lv_aload_n hx hb dX2_runRound_15 rfl (lv_at hl 2 rfl) ?_
    refine va_get (D := G.1) (ci := 2) (v := .long (rW i ki kn on wt k)) (C := RX2) (T := TX2) (N := 11) hx hb hts (by decide +kernel) hown hK hP 0 rfl rfl 7 (by decide) (hts (.fieldLink RX2 38 "PedalBoard$Wire" "wet" "J") (by decide +kernel)) (fun _ h9 => h9) rfl dX2_runRound_16 ?_
    refine lv_lstore_n (lv' := [(3, .long (rW i ki kn on wt k)), (2, .int (nI k)), (1, .int ch), (0, .ref wa)]) hx hb dX2_runRound_19 rfl hl (by decide) rfl (fun ls hl => ?_)
    refine lv_aload_n hx hb dX2_runRound_20 rfl (lv_at hl 3 rfl) ?_
    refine lv_aload_n hx hb dX2_runRound_21 rfl (lv_at hl 3 rfl) ?_
    refine va_get (D := G.1) (ci := 2) (v := .ref pa) (C := RX2) (T := TX2) (N := 11) hx hb hts (by decide +kernel) hown hK hP 0 rfl rfl 1 (by decide) (hts (.fieldLink RX2 18 "PedalBoard$Wire" "pedals" "LPedalBoard$Pedals;") (by decide +kernel)) (fun _ h9 => h9) rfl dX2_runRound_22 ?_
    refine va_get (D := G.1) (ci := 0) (v := .ref po) (C := RX0) (T := TX0) (N := 4) hx hb hts (by decide +kernel) hown hK hP 1 rfl rfl 2 (by decide) (hts (.fieldLink RX2 52 "PedalBoard$Pedals" "on" "[Z") (by decide +kernel)) (fun _ h9 => h9) rfl dX2_runRound_25 ?_
    refine lv_iload_n hx hb dX2_runRound_28 rfl (lv_at hl 1 rfl) ?_
    refine ar_zld hx hb hK hP 4 rfl k rfl (by have := nk_lt hk (by omega) c_1; omega) (by decide) dX2_runRound_29 ?_
    refine bz_eq (tgt := 62) hx hb dX2_runRound_30 (by decide) (fun c_2 => ?_) (fun c_2 => ?_)
    · refine lv_lload_n hx hb dX2_runRound_62 rfl (lv_at hl 0 rfl) ?_
      refine va_put (D := G.1) (ci := 2) (v := .long (rW i ki kn on wt k)) (ty := .long) (C := RX2) (T := TX2) (N := 11) hx hb hts (by decide +kernel) tyX2 tyX2_ok nmX2 hown hK hP hD hS 0 rfl rfl 7 (by decide) (hts (.fieldLink RX2 38 "PedalBoard$Wire" "wet" "J") (by decide +kernel)) (fun _ h9 => h9) rfl (by decide +kernel) rfl rfl (Nat.le_of_ble_eq_true rfl) dX2_runRound_63 (fun H locs hP hD hS => ?_)
      have hP : va_P G.1 vwCl [(wa, .inr (2, [.ref (G.2.2.1 i), .ref pa, .ref pr, .ref wo, .ref wl, .int tr, .long dr, .long (rW i ki kn on wt k), .int (nI r), .long gr, .long le])), (pa, .inr (0, [.ref pk, .ref pn, .ref po, .int (nI n)])), (pk, .inl (G.2.1 0, 12, .inl ki)), (pn, .inl (G.2.1 1, 12, .inr (.inl kn))), (po, .inl (G.2.1 2, 12, .inl on)), (wo, .inl (G.2.1 1, 12, .inr (.inl (mx k (rO i ki kn on wt) ou)))), (wl, .inl (G.2.1 2, 12, .inl (mx k (rL i ki kn on wt) li)))] H := hP
      have hD : va_D A [(wa, .inr (2, [.ref (G.2.2.1 i), .ref pa, .ref pr, .ref wo, .ref wl, .int tr, .long dr, .long (rW i ki kn on wt k), .int (nI r), .long gr, .long le])), (pa, .inr (0, [.ref pk, .ref pn, .ref po, .int (nI n)])), (pk, .inl (G.2.1 0, 12, .inl ki)), (pn, .inl (G.2.1 1, 12, .inr (.inl kn))), (po, .inl (G.2.1 2, 12, .inl on)), (wo, .inl (G.2.1 1, 12, .inr (.inl (mx k (rO i ki kn on wt) ou)))), (wl, .inl (G.2.1 2, 12, .inl (mx k (rL i ki kn on wt) li)))] := hD
      refine lv_aload_n hx hb dX2_runRound_66 rfl (lv_at hl 3 rfl) ?_
      refine va_get (D := G.1) (ci := 2) (v := .ref wo) (C := RX2) (T := TX2) (N := 11) hx hb hts (by decide +kernel) hown hK hP 0 rfl rfl 3 (by decide) (hts (.fieldLink RX2 26 "PedalBoard$Wire" "outs" "[J") (by decide +kernel)) (fun _ h9 => h9) rfl dX2_runRound_67 ?_
      refine lv_iload_n hx hb dX2_runRound_70 rfl (lv_at hl 1 rfl) ?_
      refine lv_aload_n hx hb dX2_runRound_71 rfl (lv_at hl 3 rfl) ?_
      refine va_get (D := G.1) (ci := 2) (v := .long (rW i ki kn on wt k)) (C := RX2) (T := TX2) (N := 11) hx hb hts (by decide +kernel) hown hK hP 0 rfl rfl 7 (by decide) (hts (.fieldLink RX2 38 "PedalBoard$Wire" "wet" "J") (by decide +kernel)) (fun _ h9 => h9) rfl dX2_runRound_72 ?_
      refine ar_lst hx hb hK hP hD hS 5 rfl k rfl (by have := nk_lt hk (by omega) c_1; omega) (by decide) dX2_runRound_75 (fun H locs hP hD hS => ?_)
      have hP : va_P G.1 vwCl [(wa, .inr (2, [.ref (G.2.2.1 i), .ref pa, .ref pr, .ref wo, .ref wl, .int tr, .long dr, .long (rW i ki kn on wt k), .int (nI r), .long gr, .long le])), (pa, .inr (0, [.ref pk, .ref pn, .ref po, .int (nI n)])), (pk, .inl (G.2.1 0, 12, .inl ki)), (pn, .inl (G.2.1 1, 12, .inr (.inl kn))), (po, .inl (G.2.1 2, 12, .inl on)), (wo, .inl (G.2.1 1, 12, .inr (.inl (vp_updL (mx k (rO i ki kn on wt) ou) k (rW i ki kn on wt k))))), (wl, .inl (G.2.1 2, 12, .inl (mx k (rL i ki kn on wt) li)))] H := hP
      have hD : va_D A [(wa, .inr (2, [.ref (G.2.2.1 i), .ref pa, .ref pr, .ref wo, .ref wl, .int tr, .long dr, .long (rW i ki kn on wt k), .int (nI r), .long gr, .long le])), (pa, .inr (0, [.ref pk, .ref pn, .ref po, .int (nI n)])), (pk, .inl (G.2.1 0, 12, .inl ki)), (pn, .inl (G.2.1 1, 12, .inr (.inl kn))), (po, .inl (G.2.1 2, 12, .inl on)), (wo, .inl (G.2.1 1, 12, .inr (.inl (vp_updL (mx k (rO i ki kn on wt) ou) k (rW i ki kn on wt k))))), (wl, .inl (G.2.1 2, 12, .inl (mx k (rL i ki kn on wt) li)))] := hD
      refine lv_aload_n hx hb dX2_runRound_76 rfl (lv_at hl 3 rfl) ?_
      refine va_get (D := G.1) (ci := 2) (v := .ref wl) (C := RX2) (T := TX2) (N := 11) hx hb hts (by decide +kernel) hown hK hP 0 rfl rfl 4 (by decide) (hts (.fieldLink RX2 30 "PedalBoard$Wire" "lights" "[Z") (by decide +kernel)) (fun _ h9 => h9) rfl dX2_runRound_77 ?_
      refine lv_iload_n hx hb dX2_runRound_80 rfl (lv_at hl 1 rfl) ?_
      refine lv_aload_n hx hb dX2_runRound_81 rfl (lv_at hl 3 rfl) ?_
      refine va_get (D := G.1) (ci := 2) (v := .long (rW i ki kn on wt k)) (C := RX2) (T := TX2) (N := 11) hx hb hts (by decide +kernel) hown hK hP 0 rfl rfl 7 (by decide) (hts (.fieldLink RX2 38 "PedalBoard$Wire" "wet" "J") (by decide +kernel)) (fun _ h9 => h9) rfl dX2_runRound_82 ?_
      refine lv_lload_n hx hb dX2_runRound_85 rfl (lv_at hl 0 rfl) ?_
      refine bl_eq (tgt := 94) hx hb dX2_runRound_86 dX2_runRound_87 (by decide) (fun c_3 => ?_) (fun c_3 => ?_)
      · refine lv_iconst (v := (0:Int32)) hx hb dX2_runRound_94 (by decide) ?_
        refine ar_zst hx hb hK hP hD hS 6 rfl k rfl (by have := nk_lt hk (by omega) c_1; omega) (by decide) (Or.inl rfl) dX2_runRound_95 (fun H locs hP hD hS => ?_)
        have hP : va_P G.1 vwCl [(wa, .inr (2, [.ref (G.2.2.1 i), .ref pa, .ref pr, .ref wo, .ref wl, .int tr, .long dr, .long (rW i ki kn on wt k), .int (nI r), .long gr, .long le])), (pa, .inr (0, [.ref pk, .ref pn, .ref po, .int (nI n)])), (pk, .inl (G.2.1 0, 12, .inl ki)), (pn, .inl (G.2.1 1, 12, .inr (.inl kn))), (po, .inl (G.2.1 2, 12, .inl on)), (wo, .inl (G.2.1 1, 12, .inr (.inl (vp_updL (mx k (rO i ki kn on wt) ou) k (rW i ki kn on wt k))))), (wl, .inl (G.2.1 2, 12, .inl (upd (mx k (rL i ki kn on wt) li) k (0:Int32))))] H := hP
        have hD : va_D A [(wa, .inr (2, [.ref (G.2.2.1 i), .ref pa, .ref pr, .ref wo, .ref wl, .int tr, .long dr, .long (rW i ki kn on wt k), .int (nI r), .long gr, .long le])), (pa, .inr (0, [.ref pk, .ref pn, .ref po, .int (nI n)])), (pk, .inl (G.2.1 0, 12, .inl ki)), (pn, .inl (G.2.1 1, 12, .inr (.inl kn))), (po, .inl (G.2.1 2, 12, .inl on)), (wo, .inl (G.2.1 1, 12, .inr (.inl (vp_updL (mx k (rO i ki kn on wt) ou) k (rW i ki kn on wt k))))), (wl, .inl (G.2.1 2, 12, .inl (upd (mx k (rL i ki kn on wt) li) k (0:Int32))))] := hD
        refine lv_aload_n hx hb dX2_runRound_96 rfl (lv_at hl 3 rfl) ?_
        refine va_get (D := G.1) (ci := 2) (v := .ref wl) (C := RX2) (T := TX2) (N := 11) hx hb hts (by decide +kernel) hown hK hP 0 rfl rfl 4 (by decide) (hts (.fieldLink RX2 30 "PedalBoard$Wire" "lights" "[Z") (by decide +kernel)) (fun _ h9 => h9) rfl dX2_runRound_97 ?_
        refine lv_iload_n hx hb dX2_runRound_100 rfl (lv_at hl 1 rfl) ?_
        refine ar_zld hx hb hK hP 6 rfl k rfl (by have := nk_lt hk (by omega) c_1; omega) (by decide) dX2_runRound_101 ?_
        refine bz_eq (tgt := 108) hx hb dX2_runRound_102 (by decide) (fun _ => ?_) (fun h9 => absurd (upd_same _ _ _) h9)
        refine lv_iinc (v := (nI (k + 1))) (lv' := [(2, .int (nI (k + 1))), (3, .long (rW i ki kn on wt k)), (1, .int ch), (0, .ref wa)]) hx hb dX2_runRound_108 hl (k := 1) rfl (by rw [← nI_1]; rfl) (by decide) rfl (fun ls hl => ?_)
        refine lv_goto (tgt := 4) hx hb dX2_runRound_111 (by decide) ?_
        have e9 : ([(wa, .inr (2, [.ref (G.2.2.1 i), .ref pa, .ref pr, .ref wo, .ref wl, .int tr, .long dr, .long (rW i ki kn on wt k), .int (nI r), .long gr, .long le])), (pa, .inr (0, [.ref pk, .ref pn, .ref po, .int (nI n)])), (pk, .inl (G.2.1 0, 12, .inl ki)), (pn, .inl (G.2.1 1, 12, .inr (.inl kn))), (po, .inl (G.2.1 2, 12, .inl on)), (wo, .inl (G.2.1 1, 12, .inr (.inl (vp_updL (mx k (rO i ki kn on wt) ou) k (rW i ki kn on wt k))))), (wl, .inl (G.2.1 2, 12, .inl (upd (mx k (rL i ki kn on wt) li) k (0:Int32))))] : va_W) = [(wa, .inr (2, [.ref (G.2.2.1 i), .ref pa, .ref pr, .ref wo, .ref wl, .int tr, .long dr, .long (rW i ki kn on wt (k + 1)), .int (nI r), .long gr, .long le])), (pa, .inr (0, [.ref pk, .ref pn, .ref po, .int (nI n)])), (pk, .inl (G.2.1 0, 12, .inl ki)), (pn, .inl (G.2.1 1, 12, .inr (.inl kn))), (po, .inl (G.2.1 2, 12, .inl on)), (wo, .inl (G.2.1 1, 12, .inr (.inl (mx (k + 1) (rO i ki kn on wt) ou)))), (wl, .inl (G.2.1 2, 12, .inl (mx (k + 1) (rL i ki kn on wt) li)))] := by rw [← rO_s, ← rL_0 li (rW_off c_2), rW_off c_2]
        rw [e9] at hP hD
        exact ih (nk_lt hk (by omega) c_1) ch (by show _ = rC i ki kn on wt (k + 1); rw [rC_0 (rW_off c_2), ← hi]) _ _ _ hP hD hS (lv_sub hl [0, 2, 3] rfl)
      · refine lv_iconst (v := (1:Int32)) hx hb dX2_runRound_90 (by decide) ?_
        refine lv_goto (tgt := 95) hx hb dX2_runRound_91 (by decide) ?_
        refine ar_zst hx hb hK hP hD hS 6 rfl k rfl (by have := nk_lt hk (by omega) c_1; omega) (by decide) (Or.inr rfl) dX2_runRound_95 (fun H locs hP hD hS => ?_)
        have hP : va_P G.1 vwCl [(wa, .inr (2, [.ref (G.2.2.1 i), .ref pa, .ref pr, .ref wo, .ref wl, .int tr, .long dr, .long (rW i ki kn on wt k), .int (nI r), .long gr, .long le])), (pa, .inr (0, [.ref pk, .ref pn, .ref po, .int (nI n)])), (pk, .inl (G.2.1 0, 12, .inl ki)), (pn, .inl (G.2.1 1, 12, .inr (.inl kn))), (po, .inl (G.2.1 2, 12, .inl on)), (wo, .inl (G.2.1 1, 12, .inr (.inl (vp_updL (mx k (rO i ki kn on wt) ou) k (rW i ki kn on wt k))))), (wl, .inl (G.2.1 2, 12, .inl (upd (mx k (rL i ki kn on wt) li) k (1:Int32))))] H := hP
        have hD : va_D A [(wa, .inr (2, [.ref (G.2.2.1 i), .ref pa, .ref pr, .ref wo, .ref wl, .int tr, .long dr, .long (rW i ki kn on wt k), .int (nI r), .long gr, .long le])), (pa, .inr (0, [.ref pk, .ref pn, .ref po, .int (nI n)])), (pk, .inl (G.2.1 0, 12, .inl ki)), (pn, .inl (G.2.1 1, 12, .inr (.inl kn))), (po, .inl (G.2.1 2, 12, .inl on)), (wo, .inl (G.2.1 1, 12, .inr (.inl (vp_updL (mx k (rO i ki kn on wt) ou) k (rW i ki kn on wt k))))), (wl, .inl (G.2.1 2, 12, .inl (upd (mx k (rL i ki kn on wt) li) k (1:Int32))))] := hD
        refine lv_aload_n hx hb dX2_runRound_96 rfl (lv_at hl 3 rfl) ?_
        refine va_get (D := G.1) (ci := 2) (v := .ref wl) (C := RX2) (T := TX2) (N := 11) hx hb hts (by decide +kernel) hown hK hP 0 rfl rfl 4 (by decide) (hts (.fieldLink RX2 30 "PedalBoard$Wire" "lights" "[Z") (by decide +kernel)) (fun _ h9 => h9) rfl dX2_runRound_97 ?_
        refine lv_iload_n hx hb dX2_runRound_100 rfl (lv_at hl 1 rfl) ?_
        refine ar_zld hx hb hK hP 6 rfl k rfl (by have := nk_lt hk (by omega) c_1; omega) (by decide) dX2_runRound_101 ?_
        refine bz_eq (tgt := 108) hx hb dX2_runRound_102 (by decide) (fun h9 => absurd h9 (by rw [upd_same]; decide)) (fun _ => ?_)
        refine lv_iinc (v := (ch + (1:Int32))) (lv' := [(1, .int (ch + (1:Int32))), (3, .long (rW i ki kn on wt k)), (2, .int (nI k)), (0, .ref wa)]) hx hb dX2_runRound_105 hl (k := 2) rfl (by rfl) (by decide) rfl (fun ls hl => ?_)
        refine lv_iinc (v := (nI (k + 1))) (lv' := [(2, .int (nI (k + 1))), (1, .int (ch + (1:Int32))), (3, .long (rW i ki kn on wt k)), (0, .ref wa)]) hx hb dX2_runRound_108 hl (k := 2) rfl (by rw [← nI_1]; rfl) (by decide) rfl (fun ls hl => ?_)
        refine lv_goto (tgt := 4) hx hb dX2_runRound_111 (by decide) ?_
        exact absurd rfl c_3
    · refine lv_aload_n hx hb dX2_runRound_33 rfl (lv_at hl 3 rfl) ?_
      refine va_get (D := G.1) (ci := 2) (v := .ref (G.2.2.1 i)) (C := RX2) (T := TX2) (N := 11) hx hb hts (by decide +kernel) hown hK hP 0 rfl rfl 0 (by decide) (hts (.fieldLink RX2 9 "PedalBoard$Wire" "sort" "LPedalBoard$Sort;") (by decide +kernel)) (fun _ h9 => h9) rfl dX2_runRound_34 ?_
      refine lv_aload_n hx hb dX2_runRound_37 rfl (lv_at hl 3 rfl) ?_
      refine va_get (D := G.1) (ci := 2) (v := .ref pa) (C := RX2) (T := TX2) (N := 11) hx hb hts (by decide +kernel) hown hK hP 0 rfl rfl 1 (by decide) (hts (.fieldLink RX2 18 "PedalBoard$Wire" "pedals" "LPedalBoard$Pedals;") (by decide +kernel)) (fun _ h9 => h9) rfl dX2_runRound_38 ?_
      refine va_get (D := G.1) (ci := 0) (v := .ref pk) (C := RX0) (T := TX0) (N := 4) hx hb hts (by decide +kernel) hown hK hP 1 rfl rfl 0 (by decide) (hts (.fieldLink RX2 55 "PedalBoard$Pedals" "kinds" "[I") (by decide +kernel)) (fun _ h9 => h9) rfl dX2_runRound_41 ?_
      refine lv_iload_n hx hb dX2_runRound_44 rfl (lv_at hl 1 rfl) ?_
      refine ar_ild hx hb hK hP 2 rfl k rfl (by have := nk_lt hk (by omega) c_1; omega) (by decide) dX2_runRound_45 ?_
      refine lv_aload_n hx hb dX2_runRound_46 rfl (lv_at hl 3 rfl) ?_
      refine va_get (D := G.1) (ci := 2) (v := .ref pa) (C := RX2) (T := TX2) (N := 11) hx hb hts (by decide +kernel) hown hK hP 0 rfl rfl 1 (by decide) (hts (.fieldLink RX2 18 "PedalBoard$Wire" "pedals" "LPedalBoard$Pedals;") (by decide +kernel)) (fun _ h9 => h9) rfl dX2_runRound_47 ?_
      refine va_get (D := G.1) (ci := 0) (v := .ref pn) (C := RX0) (T := TX0) (N := 4) hx hb hts (by decide +kernel) hown hK hP 1 rfl rfl 1 (by decide) (hts (.fieldLink RX2 59 "PedalBoard$Pedals" "knobs" "[J") (by decide +kernel)) (fun _ h9 => h9) rfl dX2_runRound_50 ?_
      refine lv_iload_n hx hb dX2_runRound_53 rfl (lv_at hl 1 rfl) ?_
      refine ar_lld hx hb hK hP 3 rfl k rfl (by have := nk_lt hk (by omega) c_1; omega) (by decide) dX2_runRound_54 ?_
      refine lv_lload_n hx hb dX2_runRound_55 rfl (lv_at hl 0 rfl) ?_
      refine cv_l (As := [.int (ki k), .long (kn k), .long (rW i ki kn on wt k)]) (rest := [.ref wa]) ⟨hx, hb, hml, hown, hts⟩ (kX1_through l G i (ki k) (kn k) (rW i ki kn on wt k) hi4) (cwV 3 hts gX2_runRound_X1_through rfl rfl rfl (by decide +kernel) ⟨Nat.le_of_ble_eq_true rfl, Nat.le_of_ble_eq_true rfl⟩) (so_rec hE hi4 hS) hE hK hP hD hS hA hl.1 [] rfl rfl rfl rfl rfl rfl (Nat.le_of_ble_eq_true rfl) dX2_runRound_56 ⟨Nat.zero_le _, Nat.zero_le _⟩ (fun H locs hP hD hS => ?_)
      have hP : va_P G.1 vwCl [(wa, .inr (2, [.ref (G.2.2.1 i), .ref pa, .ref pr, .ref wo, .ref wl, .int tr, .long dr, .long (rW i ki kn on wt k), .int (nI r), .long gr, .long le])), (pa, .inr (0, [.ref pk, .ref pn, .ref po, .int (nI n)])), (pk, .inl (G.2.1 0, 12, .inl ki)), (pn, .inl (G.2.1 1, 12, .inr (.inl kn))), (po, .inl (G.2.1 2, 12, .inl on)), (wo, .inl (G.2.1 1, 12, .inr (.inl (mx k (rO i ki kn on wt) ou)))), (wl, .inl (G.2.1 2, 12, .inl (mx k (rL i ki kn on wt) li)))] H := hP
      have hD : va_D A [(wa, .inr (2, [.ref (G.2.2.1 i), .ref pa, .ref pr, .ref wo, .ref wl, .int tr, .long dr, .long (rW i ki kn on wt k), .int (nI r), .long gr, .long le])), (pa, .inr (0, [.ref pk, .ref pn, .ref po, .int (nI n)])), (pk, .inl (G.2.1 0, 12, .inl ki)), (pn, .inl (G.2.1 1, 12, .inr (.inl kn))), (po, .inl (G.2.1 2, 12, .inl on)), (wo, .inl (G.2.1 1, 12, .inr (.inl (mx k (rO i ki kn on wt) ou)))), (wl, .inl (G.2.1 2, 12, .inl (mx k (rL i ki kn on wt) li)))] := hD
      refine lv_goto (tgt := 63) hx hb dX2_runRound_59 (by decide) ?_
      refine va_put (D := G.1) (ci := 2) (v := .long (fX1_through i (ki k) (kn k) (rW i ki kn on wt k))) (ty := .long) (C := RX2) (T := TX2) (N := 11) hx hb hts (by decide +kernel) tyX2 tyX2_ok nmX2 hown hK hP hD hS 0 rfl rfl 7 (by decide) (hts (.fieldLink RX2 38 "PedalBoard$Wire" "wet" "J") (by decide +kernel)) (fun _ h9 => h9) rfl (by decide +kernel) rfl rfl (Nat.le_of_ble_eq_true rfl) dX2_runRound_63 (fun H locs hP hD hS => ?_)
      have hP : va_P G.1 vwCl [(wa, .inr (2, [.ref (G.2.2.1 i), .ref pa, .ref pr, .ref wo, .ref wl, .int tr, .long dr, .long (fX1_through i (ki k) (kn k) (rW i ki kn on wt k)), .int (nI r), .long gr, .long le])), (pa, .inr (0, [.ref pk, .ref pn, .ref po, .int (nI n)])), (pk, .inl (G.2.1 0, 12, .inl ki)), (pn, .inl (G.2.1 1, 12, .inr (.inl kn))), (po, .inl (G.2.1 2, 12, .inl on)), (wo, .inl (G.2.1 1, 12, .inr (.inl (mx k (rO i ki kn on wt) ou)))), (wl, .inl (G.2.1 2, 12, .inl (mx k (rL i ki kn on wt) li)))] H := hP
      have hD : va_D A [(wa, .inr (2, [.ref (G.2.2.1 i), .ref pa, .ref pr, .ref wo, .ref wl, .int tr, .long dr, .long (fX1_through i (ki k) (kn k) (rW i ki kn on wt k)), .int (nI r), .long gr, .long le])), (pa, .inr (0, [.ref pk, .ref pn, .ref po, .int (nI n)])), (pk, .inl (G.2.1 0, 12, .inl ki)), (pn, .inl (G.2.1 1, 12, .inr (.inl kn))), (po, .inl (G.2.1 2, 12, .inl on)), (wo, .inl (G.2.1 1, 12, .inr (.inl (mx k (rO i ki kn on wt) ou)))), (wl, .inl (G.2.1 2, 12, .inl (mx k (rL i ki kn on wt) li)))] := hD
      refine lv_aload_n hx hb dX2_runRound_66 rfl (lv_at hl 3 rfl) ?_
      refine va_get (D := G.1) (ci := 2) (v := .ref wo) (C := RX2) (T := TX2) (N := 11) hx hb hts (by decide +kernel) hown hK hP 0 rfl rfl 3 (by decide) (hts (.fieldLink RX2 26 "PedalBoard$Wire" "outs" "[J") (by decide +kernel)) (fun _ h9 => h9) rfl dX2_runRound_67 ?_
      refine lv_iload_n hx hb dX2_runRound_70 rfl (lv_at hl 1 rfl) ?_
      refine lv_aload_n hx hb dX2_runRound_71 rfl (lv_at hl 3 rfl) ?_
      refine va_get (D := G.1) (ci := 2) (v := .long (fX1_through i (ki k) (kn k) (rW i ki kn on wt k))) (C := RX2) (T := TX2) (N := 11) hx hb hts (by decide +kernel) hown hK hP 0 rfl rfl 7 (by decide) (hts (.fieldLink RX2 38 "PedalBoard$Wire" "wet" "J") (by decide +kernel)) (fun _ h9 => h9) rfl dX2_runRound_72 ?_
      refine ar_lst hx hb hK hP hD hS 5 rfl k rfl (by have := nk_lt hk (by omega) c_1; omega) (by decide) dX2_runRound_75 (fun H locs hP hD hS => ?_)
      have hP : va_P G.1 vwCl [(wa, .inr (2, [.ref (G.2.2.1 i), .ref pa, .ref pr, .ref wo, .ref wl, .int tr, .long dr, .long (fX1_through i (ki k) (kn k) (rW i ki kn on wt k)), .int (nI r), .long gr, .long le])), (pa, .inr (0, [.ref pk, .ref pn, .ref po, .int (nI n)])), (pk, .inl (G.2.1 0, 12, .inl ki)), (pn, .inl (G.2.1 1, 12, .inr (.inl kn))), (po, .inl (G.2.1 2, 12, .inl on)), (wo, .inl (G.2.1 1, 12, .inr (.inl (vp_updL (mx k (rO i ki kn on wt) ou) k (fX1_through i (ki k) (kn k) (rW i ki kn on wt k)))))), (wl, .inl (G.2.1 2, 12, .inl (mx k (rL i ki kn on wt) li)))] H := hP
      have hD : va_D A [(wa, .inr (2, [.ref (G.2.2.1 i), .ref pa, .ref pr, .ref wo, .ref wl, .int tr, .long dr, .long (fX1_through i (ki k) (kn k) (rW i ki kn on wt k)), .int (nI r), .long gr, .long le])), (pa, .inr (0, [.ref pk, .ref pn, .ref po, .int (nI n)])), (pk, .inl (G.2.1 0, 12, .inl ki)), (pn, .inl (G.2.1 1, 12, .inr (.inl kn))), (po, .inl (G.2.1 2, 12, .inl on)), (wo, .inl (G.2.1 1, 12, .inr (.inl (vp_updL (mx k (rO i ki kn on wt) ou) k (fX1_through i (ki k) (kn k) (rW i ki kn on wt k)))))), (wl, .inl (G.2.1 2, 12, .inl (mx k (rL i ki kn on wt) li)))] := hD
      refine lv_aload_n hx hb dX2_runRound_76 rfl (lv_at hl 3 rfl) ?_
      refine va_get (D := G.1) (ci := 2) (v := .ref wl) (C := RX2) (T := TX2) (N := 11) hx hb hts (by decide +kernel) hown hK hP 0 rfl rfl 4 (by decide) (hts (.fieldLink RX2 30 "PedalBoard$Wire" "lights" "[Z") (by decide +kernel)) (fun _ h9 => h9) rfl dX2_runRound_77 ?_
      refine lv_iload_n hx hb dX2_runRound_80 rfl (lv_at hl 1 rfl) ?_
      refine lv_aload_n hx hb dX2_runRound_81 rfl (lv_at hl 3 rfl) ?_
      refine va_get (D := G.1) (ci := 2) (v := .long (fX1_through i (ki k) (kn k) (rW i ki kn on wt k))) (C := RX2) (T := TX2) (N := 11) hx hb hts (by decide +kernel) hown hK hP 0 rfl rfl 7 (by decide) (hts (.fieldLink RX2 38 "PedalBoard$Wire" "wet" "J") (by decide +kernel)) (fun _ h9 => h9) rfl dX2_runRound_82 ?_
      refine lv_lload_n hx hb dX2_runRound_85 rfl (lv_at hl 0 rfl) ?_
      refine bl_eq (tgt := 94) hx hb dX2_runRound_86 dX2_runRound_87 (by decide) (fun c_4 => ?_) (fun c_4 => ?_)
      · refine lv_iconst (v := (0:Int32)) hx hb dX2_runRound_94 (by decide) ?_
        refine ar_zst hx hb hK hP hD hS 6 rfl k rfl (by have := nk_lt hk (by omega) c_1; omega) (by decide) (Or.inl rfl) dX2_runRound_95 (fun H locs hP hD hS => ?_)
        have hP : va_P G.1 vwCl [(wa, .inr (2, [.ref (G.2.2.1 i), .ref pa, .ref pr, .ref wo, .ref wl, .int tr, .long dr, .long (fX1_through i (ki k) (kn k) (rW i ki kn on wt k)), .int (nI r), .long gr, .long le])), (pa, .inr (0, [.ref pk, .ref pn, .ref po, .int (nI n)])), (pk, .inl (G.2.1 0, 12, .inl ki)), (pn, .inl (G.2.1 1, 12, .inr (.inl kn))), (po, .inl (G.2.1 2, 12, .inl on)), (wo, .inl (G.2.1 1, 12, .inr (.inl (vp_updL (mx k (rO i ki kn on wt) ou) k (fX1_through i (ki k) (kn k) (rW i ki kn on wt k)))))), (wl, .inl (G.2.1 2, 12, .inl (upd (mx k (rL i ki kn on wt) li) k (0:Int32))))] H := hP
        have hD : va_D A [(wa, .inr (2, [.ref (G.2.2.1 i), .ref pa, .ref pr, .ref wo, .ref wl, .int tr, .long dr, .long (fX1_through i (ki k) (kn k) (rW i ki kn on wt k)), .int (nI r), .long gr, .long le])), (pa, .inr (0, [.ref pk, .ref pn, .ref po, .int (nI n)])), (pk, .inl (G.2.1 0, 12, .inl ki)), (pn, .inl (G.2.1 1, 12, .inr (.inl kn))), (po, .inl (G.2.1 2, 12, .inl on)), (wo, .inl (G.2.1 1, 12, .inr (.inl (vp_updL (mx k (rO i ki kn on wt) ou) k (fX1_through i (ki k) (kn k) (rW i ki kn on wt k)))))), (wl, .inl (G.2.1 2, 12, .inl (upd (mx k (rL i ki kn on wt) li) k (0:Int32))))] := hD
        refine lv_aload_n hx hb dX2_runRound_96 rfl (lv_at hl 3 rfl) ?_
        refine va_get (D := G.1) (ci := 2) (v := .ref wl) (C := RX2) (T := TX2) (N := 11) hx hb hts (by decide +kernel) hown hK hP 0 rfl rfl 4 (by decide) (hts (.fieldLink RX2 30 "PedalBoard$Wire" "lights" "[Z") (by decide +kernel)) (fun _ h9 => h9) rfl dX2_runRound_97 ?_
        refine lv_iload_n hx hb dX2_runRound_100 rfl (lv_at hl 1 rfl) ?_
        refine ar_zld hx hb hK hP 6 rfl k rfl (by have := nk_lt hk (by omega) c_1; omega) (by decide) dX2_runRound_101 ?_
        refine bz_eq (tgt := 108) hx hb dX2_runRound_102 (by decide) (fun _ => ?_) (fun h9 => absurd (upd_same _ _ _) h9)
        refine lv_iinc (v := (nI (k + 1))) (lv' := [(2, .int (nI (k + 1))), (3, .long (rW i ki kn on wt k)), (1, .int ch), (0, .ref wa)]) hx hb dX2_runRound_108 hl (k := 1) rfl (by rw [← nI_1]; rfl) (by decide) rfl (fun ls hl => ?_)
        refine lv_goto (tgt := 4) hx hb dX2_runRound_111 (by decide) ?_
        have e9 : ([(wa, .inr (2, [.ref (G.2.2.1 i), .ref pa, .ref pr, .ref wo, .ref wl, .int tr, .long dr, .long (fX1_through i (ki k) (kn k) (rW i ki kn on wt k)), .int (nI r), .long gr, .long le])), (pa, .inr (0, [.ref pk, .ref pn, .ref po, .int (nI n)])), (pk, .inl (G.2.1 0, 12, .inl ki)), (pn, .inl (G.2.1 1, 12, .inr (.inl kn))), (po, .inl (G.2.1 2, 12, .inl on)), (wo, .inl (G.2.1 1, 12, .inr (.inl (vp_updL (mx k (rO i ki kn on wt) ou) k (fX1_through i (ki k) (kn k) (rW i ki kn on wt k)))))), (wl, .inl (G.2.1 2, 12, .inl (upd (mx k (rL i ki kn on wt) li) k (0:Int32))))] : va_W) = [(wa, .inr (2, [.ref (G.2.2.1 i), .ref pa, .ref pr, .ref wo, .ref wl, .int tr, .long dr, .long (rW i ki kn on wt (k + 1)), .int (nI r), .long gr, .long le])), (pa, .inr (0, [.ref pk, .ref pn, .ref po, .int (nI n)])), (pk, .inl (G.2.1 0, 12, .inl ki)), (pn, .inl (G.2.1 1, 12, .inr (.inl kn))), (po, .inl (G.2.1 2, 12, .inl on)), (wo, .inl (G.2.1 1, 12, .inr (.inl (mx (k + 1) (rO i ki kn on wt) ou)))), (wl, .inl (G.2.1 2, 12, .inl (mx (k + 1) (rL i ki kn on wt) li)))] := by rw [← rO_s, ← rL_0 li (by rw [rW_on c_2]; exact c_4), rW_on c_2]
        rw [e9] at hP hD
        exact ih (nk_lt hk (by omega) c_1) ch (by show _ = rC i ki kn on wt (k + 1); rw [rC_0 (by rw [rW_on c_2]; exact c_4), ← hi]) _ _ _ hP hD hS (lv_sub hl [0, 2, 3] rfl)
      · refine lv_iconst (v := (1:Int32)) hx hb dX2_runRound_90 (by decide) ?_
        refine lv_goto (tgt := 95) hx hb dX2_runRound_91 (by decide) ?_
        refine ar_zst hx hb hK hP hD hS 6 rfl k rfl (by have := nk_lt hk (by omega) c_1; omega) (by decide) (Or.inr rfl) dX2_runRound_95 (fun H locs hP hD hS => ?_)
        have hP : va_P G.1 vwCl [(wa, .inr (2, [.ref (G.2.2.1 i), .ref pa, .ref pr, .ref wo, .ref wl, .int tr, .long dr, .long (fX1_through i (ki k) (kn k) (rW i ki kn on wt k)), .int (nI r), .long gr, .long le])), (pa, .inr (0, [.ref pk, .ref pn, .ref po, .int (nI n)])), (pk, .inl (G.2.1 0, 12, .inl ki)), (pn, .inl (G.2.1 1, 12, .inr (.inl kn))), (po, .inl (G.2.1 2, 12, .inl on)), (wo, .inl (G.2.1 1, 12, .inr (.inl (vp_updL (mx k (rO i ki kn on wt) ou) k (fX1_through i (ki k) (kn k) (rW i ki kn on wt k)))))), (wl, .inl (G.2.1 2, 12, .inl (upd (mx k (rL i ki kn on wt) li) k (1:Int32))))] H := hP
        have hD : va_D A [(wa, .inr (2, [.ref (G.2.2.1 i), .ref pa, .ref pr, .ref wo, .ref wl, .int tr, .long dr, .long (fX1_through i (ki k) (kn k) (rW i ki kn on wt k)), .int (nI r), .long gr, .long le])), (pa, .inr (0, [.ref pk, .ref pn, .ref po, .int (nI n)])), (pk, .inl (G.2.1 0, 12, .inl ki)), (pn, .inl (G.2.1 1, 12, .inr (.inl kn))), (po, .inl (G.2.1 2, 12, .inl on)), (wo, .inl (G.2.1 1, 12, .inr (.inl (vp_updL (mx k (rO i ki kn on wt) ou) k (fX1_through i (ki k) (kn k) (rW i ki kn on wt k)))))), (wl, .inl (G.2.1 2, 12, .inl (upd (mx k (rL i ki kn on wt) li) k (1:Int32))))] := hD
        refine lv_aload_n hx hb dX2_runRound_96 rfl (lv_at hl 3 rfl) ?_
        refine va_get (D := G.1) (ci := 2) (v := .ref wl) (C := RX2) (T := TX2) (N := 11) hx hb hts (by decide +kernel) hown hK hP 0 rfl rfl 4 (by decide) (hts (.fieldLink RX2 30 "PedalBoard$Wire" "lights" "[Z") (by decide +kernel)) (fun _ h9 => h9) rfl dX2_runRound_97 ?_
        refine lv_iload_n hx hb dX2_runRound_100 rfl (lv_at hl 1 rfl) ?_
        refine ar_zld hx hb hK hP 6 rfl k rfl (by have := nk_lt hk (by omega) c_1; omega) (by decide) dX2_runRound_101 ?_
        refine bz_eq (tgt := 108) hx hb dX2_runRound_102 (by decide) (fun h9 => absurd h9 (by rw [upd_same]; decide)) (fun _ => ?_)
        refine lv_iinc (v := (ch + (1:Int32))) (lv' := [(1, .int (ch + (1:Int32))), (3, .long (rW i ki kn on wt k)), (2, .int (nI k)), (0, .ref wa)]) hx hb dX2_runRound_105 hl (k := 2) rfl (by rfl) (by decide) rfl (fun ls hl => ?_)
        refine lv_iinc (v := (nI (k + 1))) (lv' := [(2, .int (nI (k + 1))), (1, .int (ch + (1:Int32))), (3, .long (rW i ki kn on wt k)), (0, .ref wa)]) hx hb dX2_runRound_108 hl (k := 2) rfl (by rw [← nI_1]; rfl) (by decide) rfl (fun ls hl => ?_)
        refine lv_goto (tgt := 4) hx hb dX2_runRound_111 (by decide) ?_
        have e9 : ([(wa, .inr (2, [.ref (G.2.2.1 i), .ref pa, .ref pr, .ref wo, .ref wl, .int tr, .long dr, .long (fX1_through i (ki k) (kn k) (rW i ki kn on wt k)), .int (nI r), .long gr, .long le])), (pa, .inr (0, [.ref pk, .ref pn, .ref po, .int (nI n)])), (pk, .inl (G.2.1 0, 12, .inl ki)), (pn, .inl (G.2.1 1, 12, .inr (.inl kn))), (po, .inl (G.2.1 2, 12, .inl on)), (wo, .inl (G.2.1 1, 12, .inr (.inl (vp_updL (mx k (rO i ki kn on wt) ou) k (fX1_through i (ki k) (kn k) (rW i ki kn on wt k)))))), (wl, .inl (G.2.1 2, 12, .inl (upd (mx k (rL i ki kn on wt) li) k (1:Int32))))] : va_W) = [(wa, .inr (2, [.ref (G.2.2.1 i), .ref pa, .ref pr, .ref wo, .ref wl, .int tr, .long dr, .long (rW i ki kn on wt (k + 1)), .int (nI r), .long gr, .long le])), (pa, .inr (0, [.ref pk, .ref pn, .ref po, .int (nI n)])), (pk, .inl (G.2.1 0, 12, .inl ki)), (pn, .inl (G.2.1 1, 12, .inr (.inl kn))), (po, .inl (G.2.1 2, 12, .inl on)), (wo, .inl (G.2.1 1, 12, .inr (.inl (mx (k + 1) (rO i ki kn on wt) ou)))), (wl, .inl (G.2.1 2, 12, .inl (mx (k + 1) (rL i ki kn on wt) li)))] := by rw [← rO_s, ← rL_1 li (by rw [rW_on c_2]; exact c_4), rW_on c_2]
        rw [e9] at hP hD
        exact ih (nk_lt hk (by omega) c_1) (ch + (1:Int32)) (by show _ = rC i ki kn on wt (k + 1); rw [rC_1 (by rw [rW_on c_2]; exact c_4), ← hi]) _ _ _ hP hD hS (lv_sub hl [0, 1, 3] rfl)
  · rw [nk_ge hk (by omega) c_1] at hP hD
    have hP : va_P G.1 vwCl [(wa, .inr (2, [.ref (G.2.2.1 i), .ref pa, .ref pr, .ref wo, .ref wl, .int tr, .long dr, .long (rW i ki kn on wt n), .int (nI r), .long gr, .long le])), (pa, .inr (0, [.ref pk, .ref pn, .ref po, .int (nI n)])), (pk, .inl (G.2.1 0, 12, .inl ki)), (pn, .inl (G.2.1 1, 12, .inr (.inl kn))), (po, .inl (G.2.1 2, 12, .inl on)), (wo, .inl (G.2.1 1, 12, .inr (.inl (mx n (rO i ki kn on wt) ou)))), (wl, .inl (G.2.1 2, 12, .inl (mx n (rL i ki kn on wt) li)))] H := hP
    have hD : va_D A [(wa, .inr (2, [.ref (G.2.2.1 i), .ref pa, .ref pr, .ref wo, .ref wl, .int tr, .long dr, .long (rW i ki kn on wt n), .int (nI r), .long gr, .long le])), (pa, .inr (0, [.ref pk, .ref pn, .ref po, .int (nI n)])), (pk, .inl (G.2.1 0, 12, .inl ki)), (pn, .inl (G.2.1 1, 12, .inr (.inl kn))), (po, .inl (G.2.1 2, 12, .inl on)), (wo, .inl (G.2.1 1, 12, .inr (.inl (mx n (rO i ki kn on wt) ou)))), (wl, .inl (G.2.1 2, 12, .inl (mx n (rL i ki kn on wt) li)))] := hD
    refine lv_aload_n hx hb dX2_runRound_114 rfl (lv_at hl 2 rfl) ?_
    refine lv_iconst (v := (1:Int32)) hx hb dX2_runRound_115 (by decide) ?_
    refine va_put (D := G.1) (ci := 2) (v := .int (1:Int32)) (ty := .boolean) (C := RX2) (T := TX2) (N := 11) hx hb hts (by decide +kernel) tyX2 tyX2_ok nmX2 hown hK hP hD hS 0 rfl rfl 5 (by decide) (hts (.fieldLink RX2 45 "PedalBoard$Wire" "traced" "Z") (by decide +kernel)) (fun _ h9 => h9) rfl (by decide +kernel) (z_nar (Or.inr rfl)) (z_fit (Or.inr rfl)) (Nat.le_of_ble_eq_true rfl) dX2_runRound_116 (fun H locs hP hD hS => ?_)
    have hP : va_P G.1 vwCl [(wa, .inr (2, [.ref (G.2.2.1 i), .ref pa, .ref pr, .ref wo, .ref wl, .int (1:Int32), .long dr, .long (rW i ki kn on wt n), .int (nI r), .long gr, .long le])), (pa, .inr (0, [.ref pk, .ref pn, .ref po, .int (nI n)])), (pk, .inl (G.2.1 0, 12, .inl ki)), (pn, .inl (G.2.1 1, 12, .inr (.inl kn))), (po, .inl (G.2.1 2, 12, .inl on)), (wo, .inl (G.2.1 1, 12, .inr (.inl (mx n (rO i ki kn on wt) ou)))), (wl, .inl (G.2.1 2, 12, .inl (mx n (rL i ki kn on wt) li)))] H := hP
    have hD : va_D A [(wa, .inr (2, [.ref (G.2.2.1 i), .ref pa, .ref pr, .ref wo, .ref wl, .int (1:Int32), .long dr, .long (rW i ki kn on wt n), .int (nI r), .long gr, .long le])), (pa, .inr (0, [.ref pk, .ref pn, .ref po, .int (nI n)])), (pk, .inl (G.2.1 0, 12, .inl ki)), (pn, .inl (G.2.1 1, 12, .inr (.inl kn))), (po, .inl (G.2.1 2, 12, .inl on)), (wo, .inl (G.2.1 1, 12, .inr (.inl (mx n (rO i ki kn on wt) ou)))), (wl, .inl (G.2.1 2, 12, .inl (mx n (rL i ki kn on wt) li)))] := hD
    refine lv_aload_n hx hb dX2_runRound_119 rfl (lv_at hl 2 rfl) ?_
    refine cv_v (As := []) (rest := []) (ws' := [(wa, .inr (2, [.ref (G.2.2.1 i), .ref pa, .ref pr, .ref wo, .ref wl, .int (1:Int32), .long dr, .long (rW i ki kn on wt n), .int (nI r), .long (if (fX2_hasPeaks r) = 0 then (rW i ki kn on wt n) else (if (fX1_isLess i gr (rW i ki kn on wt n)) = 0 then gr else (rW i ki kn on wt n))), .long (if (fX2_hasPeaks r) = 0 then (rW i ki kn on wt n) else (if (fX1_isLess i (rW i ki kn on wt n) le) = 0 then le else (rW i ki kn on wt n)))])), (pa, .inr (0, [.ref pk, .ref pn, .ref po, .int (nI n)])), (pk, .inl (G.2.1 0, 12, .inl ki)), (pn, .inl (G.2.1 1, 12, .inr (.inl kn))), (po, .inl (G.2.1 2, 12, .inl on)), (wo, .inl (G.2.1 1, 12, .inr (.inl (mx n (rO i ki kn on wt) ou)))), (wl, .inl (G.2.1 2, 12, .inl (mx n (rL i ki kn on wt) li)))]) ⟨hx, hb, hml, hown, hts⟩ (kX2_keepPeaks l G wa i pa pr wo wl (1:Int32) dr (rW i ki kn on wt n) r gr le (by first | assumption | omega)) (cwV 0 hts gX2_runRound_X2_keepPeaks rfl rfl rfl (by decide +kernel) ⟨Nat.le_of_ble_eq_true rfl, Nat.le_of_ble_eq_true rfl⟩) (va_recv hK hP (ci := 2) (q0 := 0) rfl rfl) hE hK hP hD hS hA hl.1 [0] rfl rfl rfl rfl rfl rfl (Nat.le_of_ble_eq_true rfl) dX2_runRound_120 ⟨Nat.zero_le _, Nat.zero_le _⟩ (fun H locs hP hD hS => ?_)
    refine lv_aload_n hx hb dX2_runRound_123 rfl (lv_at hl 2 rfl) ?_
    refine lv_dup hx hb dX2_runRound_124 rfl ?_
    refine va_get (D := G.1) (ci := 2) (v := .int (nI r)) (C := RX2) (T := TX2) (N := 11) hx hb hts (by decide +kernel) hown hK hP 0 rfl rfl 8 (by decide) (hts (.fieldLink RX2 41 "PedalBoard$Wire" "rounds" "I") (by decide +kernel)) (fun _ h9 => h9) rfl dX2_runRound_125 ?_
    refine lv_iconst (v := (1:Int32)) hx hb dX2_runRound_128 (by decide) ?_
    refine lv_iadd hx hb dX2_runRound_129 ?_
    rw [show (nI r + (1:Int32)) = nI (r + 1) from nI_1 _]
    refine va_put (D := G.1) (ci := 2) (v := .int (nI (r + 1))) (ty := .int) (C := RX2) (T := TX2) (N := 11) hx hb hts (by decide +kernel) tyX2 tyX2_ok nmX2 hown hK hP hD hS 0 rfl rfl 8 (by decide) (hts (.fieldLink RX2 41 "PedalBoard$Wire" "rounds" "I") (by decide +kernel)) (fun _ h9 => h9) rfl (by decide +kernel) rfl rfl (Nat.le_of_ble_eq_true rfl) dX2_runRound_130 (fun H locs hP hD hS => ?_)
    have hP : va_P G.1 vwCl [(wa, .inr (2, [.ref (G.2.2.1 i), .ref pa, .ref pr, .ref wo, .ref wl, .int (1:Int32), .long dr, .long (rW i ki kn on wt n), .int (nI (r + 1)), .long (if (fX2_hasPeaks r) = 0 then (rW i ki kn on wt n) else (if (fX1_isLess i gr (rW i ki kn on wt n)) = 0 then gr else (rW i ki kn on wt n))), .long (if (fX2_hasPeaks r) = 0 then (rW i ki kn on wt n) else (if (fX1_isLess i (rW i ki kn on wt n) le) = 0 then le else (rW i ki kn on wt n)))])), (pa, .inr (0, [.ref pk, .ref pn, .ref po, .int (nI n)])), (pk, .inl (G.2.1 0, 12, .inl ki)), (pn, .inl (G.2.1 1, 12, .inr (.inl kn))), (po, .inl (G.2.1 2, 12, .inl on)), (wo, .inl (G.2.1 1, 12, .inr (.inl (mx n (rO i ki kn on wt) ou)))), (wl, .inl (G.2.1 2, 12, .inl (mx n (rL i ki kn on wt) li)))] H := hP
    have hD : va_D A [(wa, .inr (2, [.ref (G.2.2.1 i), .ref pa, .ref pr, .ref wo, .ref wl, .int (1:Int32), .long dr, .long (rW i ki kn on wt n), .int (nI (r + 1)), .long (if (fX2_hasPeaks r) = 0 then (rW i ki kn on wt n) else (if (fX1_isLess i gr (rW i ki kn on wt n)) = 0 then gr else (rW i ki kn on wt n))), .long (if (fX2_hasPeaks r) = 0 then (rW i ki kn on wt n) else (if (fX1_isLess i (rW i ki kn on wt n) le) = 0 then le else (rW i ki kn on wt n)))])), (pa, .inr (0, [.ref pk, .ref pn, .ref po, .int (nI n)])), (pk, .inl (G.2.1 0, 12, .inl ki)), (pn, .inl (G.2.1 1, 12, .inr (.inl kn))), (po, .inl (G.2.1 2, 12, .inl on)), (wo, .inl (G.2.1 1, 12, .inr (.inl (mx n (rO i ki kn on wt) ou)))), (wl, .inl (G.2.1 2, 12, .inl (mx n (rL i ki kn on wt) li)))] := hD
    refine lv_iload_n hx hb dX2_runRound_133 rfl (lv_at hl 1 rfl) ?_
    exact rt_i hx hb hr hlocks hP hD hS dX2_runRound_134 (by rw [hi, nk_ge hk (by omega) c_1]; rfl)
