theorem isW4_1 {w : Nat} (h : w < 4) : ¬ fX4_isWire (nI w) = 0 := by
  rcases (show w = 0 ∨ w = 1 ∨ w = 2 ∨ w = 3 by omega) with rfl | rfl | rfl | rfl <;> decide
theorem ne12 {n : Nat} (h : n < 12) : ¬ (nI n) = (12:Int32) := fun g => absurd ((nI_eq (by omega) (by decide)).mp (show nI n = nI 12 from g)) (by omega)
theorem eq12 {n : Nat} (h : n = 12) : (nI n) = (12:Int32) := by subst h; rfl
theorem nk_lt2 {a k n : Nat} (ha : a ≤ 1000) (hk : k ≤ n) (hn : n ≤ 1000) (h : (nI (a + k)) < (nI (a + n))) : k < n := by
  have := (nI_ltI (by omega) (by omega)).mp h
  omega
theorem nk_ge2 {a k n : Nat} (ha : a ≤ 1000) (hk : k ≤ n) (hn : n ≤ 1000) (h : ¬ (nI (a + k)) < (nI (a + n))) : k = n := by
  have h2 : ¬ a + k < a + n := fun g => h ((nI_ltI (by omega) (by omega)).mpr g)
  omega
/-- from b on, k places out of f, the others out of g -/
def mo {α : Type} (b k : Nat) (f g : Nat → α) : Nat → α := fun j => if b ≤ j ∧ j < b + k then f (j - b) else g j
theorem mo_0 {α : Type} (b : Nat) (f g : Nat → α) : mo b 0 f g = g := by
  funext j; unfold mo; rw [if_neg (by omega)]
theorem mo_sI (b k : Nat) (f g : Nat → Int32) : upd (mo b k f g) (b + k) (f k) = mo b (k + 1) f g := by
  funext j
  simp only [upd, mo]
  by_cases h : j = b + k
  · subst h; rw [if_pos rfl, if_pos (by omega), show b + k - b = k by omega]
  · rw [if_neg h]
    by_cases h2 : b ≤ j ∧ j < b + k
    · rw [if_pos h2, if_pos (by omega)]
    · rw [if_neg h2, if_neg (by omega)]
theorem mo_sJ (b k : Nat) (f g : Nat → Int64) : vp_updL (mo b k f g) (b + k) (f k) = mo b (k + 1) f g := by
  funext j
  simp only [vp_updL, mo]
  by_cases h : j = b + k
  · subst h; rw [if_pos rfl, if_pos (by omega), show b + k - b = k by omega]
  · rw [if_neg h]
    by_cases h2 : b ≤ j ∧ j < b + k
    · rw [if_pos h2, if_pos (by omega)]
    · rw [if_neg h2, if_neg (by omega)]
def sl {α : Type} (b : Nat) (f : Nat → α) : Nat → α := fun k => f (b + k)
set_option maxHeartbeats 4000000 in
set_option maxRecDepth 100000 in
theorem kX4_thrown (l : Launch) (G : GT) (ma : Nat) (d0 : Nat) (d1 : Nat) (d2 : Nat) (d3 : Nat) (d4 : Nat) (d5 : Nat) (d6 : Nat) (d7 : Nat) (d8 : Nat) (d9 : Nat) (d10 : Nat) (d11 : Nat) (d12 : Nat) (d13 : Nat) (d14 : Nat) (d15 : Nat) (d16 : Nat) (cd : Int32) : CI l yX4_thrown wsX4_thrown { frames := 0, cells := 0, slots := 0, locals := 0 } G [.ref ma] [(ma, .inr (4, [.ref d0, .ref d1, .ref d2, .ref d3, .ref d4, .ref d5, .ref d6, .ref d7, .ref d8, .ref d9, .ref d10, .ref d11, .ref d12, .ref d13, .ref d14, .ref d15, .ref d16, .int cd]))] cd [(ma, .inr (4, [.ref d0, .ref d1, .ref d2, .ref d3, .ref d4, .ref d5, .ref d6, .ref d7, .ref d8, .ref d9, .ref d10, .ref d11, .ref d12, .ref d13, .ref d14, .ref d15, .ref d16, .int cd]))] := by
  refine en_i (cc := cX4_thrown) (maxL := 1) (ret := (some .int)) (own := RX4) (by decide) rfl rfl (Nat.le_of_ble_eq_true rfl) ?_
  intro p e s m below meth c A ls hx hb hr hts hown hml hlocks hA hK hE hP hD hS hl
  have hl : lv_has ls 1 [(0, .ref ma)] := hl
  refine lv_aload_n hx hb dX4_thrown_0 rfl (lv_at hl 0 rfl) ?_
  refine va_get (D := G.1) (ci := 4) (v := .int cd) (C := RX4) (T := TX4) (N := 18) hx hb hts (by decide +kernel) hown hK hP 0 rfl rfl 17 (by decide) (hts (.fieldLink RX4 63 "PedalBoardModel" "code" "I") (by decide +kernel)) (fun _ h9 => h9) rfl dX4_thrown_1 ?_
  exact rt_i hx hb hr hlocks hP hD hS dX4_thrown_4 rfl
set_option maxHeartbeats 4000000 in
set_option maxRecDepth 100000 in
theorem kX4_refuses00 (l : Launch) (G : GT) (ma : Nat) (d0 : Nat) (d1 : Nat) (d2 : Nat) (d3 : Nat) (d4 : Nat) (d5 : Nat) (d6 : Nat) (d7 : Nat) (d8 : Nat) (d9 : Nat) (d10 : Nat) (d11 : Nat) (d12 : Nat) (d13 : Nat) (d14 : Nat) (d15 : Nat) (d16 : Nat) (cd : Int32) : CI l yX4_refuses wsX4_refuses { frames := 0, cells := 0, slots := 0, locals := 0 } G [.ref ma, .int (0:Int32), .int (0:Int32)] [(ma, .inr (4, [.ref d0, .ref d1, .ref d2, .ref d3, .ref d4, .ref d5, .ref d6, .ref d7, .ref d8, .ref d9, .ref d10, .ref d11, .ref d12, .ref d13, .ref d14, .ref d15, .ref d16, .int cd]))] (0:Int32) [(ma, .inr (4, [.ref d0, .ref d1, .ref d2, .ref d3, .ref d4, .ref d5, .ref d6, .ref d7, .ref d8, .ref d9, .ref d10, .ref d11, .ref d12, .ref d13, .ref d14, .ref d15, .ref d16, .int (0:Int32)]))] := by
  refine en_i (cc := cX4_refuses) (maxL := 3) (ret := (some .boolean)) (own := RX4) (by decide) rfl rfl (Nat.le_of_ble_eq_true rfl) ?_
  intro p e s m below meth c A ls hx hb hr hts hown hml hlocks hA hK hE hP hD hS hl
  have hl : lv_has ls 3 [(0, .ref ma), (1, .int (0:Int32)), (2, .int (0:Int32))] := hl
  refine lv_aload_n hx hb dX4_refuses_0 rfl (lv_at hl 0 rfl) ?_
  refine lv_iload_n hx hb dX4_refuses_1 rfl (lv_at hl 1 rfl) ?_
  refine bz_eq (tgt := 9) hx hb dX4_refuses_2 (by decide) (fun _ => ?_) (fun h9 => absurd rfl h9)
  refine lv_iload_n hx hb dX4_refuses_9 rfl (lv_at hl 2 rfl) ?_
  refine bz_eq (tgt := 17) hx hb dX4_refuses_10 (by decide) (fun _ => ?_) (fun h9 => absurd rfl h9)
  refine lv_iconst (v := (0:Int32)) hx hb dX4_refuses_17 (by decide) ?_
  refine va_put (D := G.1) (ci := 4) (v := .int (0:Int32)) (ty := .int) (C := RX4) (T := TX4) (N := 18) hx hb hts (by decide +kernel) tyX4 tyX4_ok nmX4 hown hK hP hD hS 0 rfl rfl 17 (by decide) (hts (.fieldLink RX4 63 "PedalBoardModel" "code" "I") (by decide +kernel)) (fun _ h9 => h9) rfl (by decide +kernel) rfl rfl (Nat.le_of_ble_eq_true rfl) dX4_refuses_18 (fun H locs hP hD hS => ?_)
  have hP : va_P G.1 vwCl [(ma, .inr (4, [.ref d0, .ref d1, .ref d2, .ref d3, .ref d4, .ref d5, .ref d6, .ref d7, .ref d8, .ref d9, .ref d10, .ref d11, .ref d12, .ref d13, .ref d14, .ref d15, .ref d16, .int (0:Int32)]))] H := hP
  have hD : va_D A [(ma, .inr (4, [.ref d0, .ref d1, .ref d2, .ref d3, .ref d4, .ref d5, .ref d6, .ref d7, .ref d8, .ref d9, .ref d10, .ref d11, .ref d12, .ref d13, .ref d14, .ref d15, .ref d16, .int (0:Int32)]))] := hD
  refine lv_aload_n hx hb dX4_refuses_21 rfl (lv_at hl 0 rfl) ?_
  refine va_get (D := G.1) (ci := 4) (v := .int (0:Int32)) (C := RX4) (T := TX4) (N := 18) hx hb hts (by decide +kernel) hown hK hP 0 rfl rfl 17 (by decide) (hts (.fieldLink RX4 63 "PedalBoardModel" "code" "I") (by decide +kernel)) (fun _ h9 => h9) rfl dX4_refuses_22 ?_
  refine bz_eq (tgt := 32) hx hb dX4_refuses_25 (by decide) (fun _ => ?_) (fun h9 => absurd rfl h9)
  refine lv_iconst (v := (0:Int32)) hx hb dX4_refuses_32 (by decide) ?_
  exact rt_z hx hb hr hlocks hP hD hS dX4_refuses_33 rfl (z_nar (Or.inl rfl))
set_option maxHeartbeats 4000000 in
set_option maxRecDepth 100000 in
theorem kX4_refuses10 (l : Launch) (G : GT) (ma : Nat) (d0 : Nat) (d1 : Nat) (d2 : Nat) (d3 : Nat) (d4 : Nat) (d5 : Nat) (d6 : Nat) (d7 : Nat) (d8 : Nat) (d9 : Nat) (d10 : Nat) (d11 : Nat) (d12 : Nat) (d13 : Nat) (d14 : Nat) (d15 : Nat) (d16 : Nat) (cd : Int32) : CI l yX4_refuses wsX4_refuses { frames := 0, cells := 0, slots := 0, locals := 0 } G [.ref ma, .int (1:Int32), .int (0:Int32)] [(ma, .inr (4, [.ref d0, .ref d1, .ref d2, .ref d3, .ref d4, .ref d5, .ref d6, .ref d7, .ref d8, .ref d9, .ref d10, .ref d11, .ref d12, .ref d13, .ref d14, .ref d15, .ref d16, .int cd]))] (1:Int32) [(ma, .inr (4, [.ref d0, .ref d1, .ref d2, .ref d3, .ref d4, .ref d5, .ref d6, .ref d7, .ref d8, .ref d9, .ref d10, .ref d11, .ref d12, .ref d13, .ref d14, .ref d15, .ref d16, .int (1:Int32)]))] := by
  refine en_i (cc := cX4_refuses) (maxL := 3) (ret := (some .boolean)) (own := RX4) (by decide) rfl rfl (Nat.le_of_ble_eq_true rfl) ?_
  intro p e s m below meth c A ls hx hb hr hts hown hml hlocks hA hK hE hP hD hS hl
  have hl : lv_has ls 3 [(0, .ref ma), (1, .int (1:Int32)), (2, .int (0:Int32))] := hl
  refine lv_aload_n hx hb dX4_refuses_0 rfl (lv_at hl 0 rfl) ?_
  refine lv_iload_n hx hb dX4_refuses_1 rfl (lv_at hl 1 rfl) ?_
  refine bz_eq (tgt := 9) hx hb dX4_refuses_2 (by decide) (fun h9 => absurd h9 (by decide)) (fun _ => ?_)
  refine lv_iconst (v := (1:Int32)) hx hb dX4_refuses_5 (by decide) ?_
  refine lv_goto (tgt := 18) hx hb dX4_refuses_6 (by decide) ?_
  refine va_put (D := G.1) (ci := 4) (v := .int (1:Int32)) (ty := .int) (C := RX4) (T := TX4) (N := 18) hx hb hts (by decide +kernel) tyX4 tyX4_ok nmX4 hown hK hP hD hS 0 rfl rfl 17 (by decide) (hts (.fieldLink RX4 63 "PedalBoardModel" "code" "I") (by decide +kernel)) (fun _ h9 => h9) rfl (by decide +kernel) rfl rfl (Nat.le_of_ble_eq_true rfl) dX4_refuses_18 (fun H locs hP hD hS => ?_)
  have hP : va_P G.1 vwCl [(ma, .inr (4, [.ref d0, .ref d1, .ref d2, .ref d3, .ref d4, .ref d5, .ref d6, .ref d7, .ref d8, .ref d9, .ref d10, .ref d11, .ref d12, .ref d13, .ref d14, .ref d15, .ref d16, .int (1:Int32)]))] H := hP
  have hD : va_D A [(ma, .inr (4, [.ref d0, .ref d1, .ref d2, .ref d3, .ref d4, .ref d5, .ref d6, .ref d7, .ref d8, .ref d9, .ref d10, .ref d11, .ref d12, .ref d13, .ref d14, .ref d15, .ref d16, .int (1:Int32)]))] := hD
  refine lv_aload_n hx hb dX4_refuses_21 rfl (lv_at hl 0 rfl) ?_
  refine va_get (D := G.1) (ci := 4) (v := .int (1:Int32)) (C := RX4) (T := TX4) (N := 18) hx hb hts (by decide +kernel) hown hK hP 0 rfl rfl 17 (by decide) (hts (.fieldLink RX4 63 "PedalBoardModel" "code" "I") (by decide +kernel)) (fun _ h9 => h9) rfl dX4_refuses_22 ?_
  refine bz_eq (tgt := 32) hx hb dX4_refuses_25 (by decide) (fun h9 => absurd h9 (by decide)) (fun _ => ?_)
  refine lv_iconst (v := (1:Int32)) hx hb dX4_refuses_28 (by decide) ?_
  refine lv_goto (tgt := 33) hx hb dX4_refuses_29 (by decide) ?_
  exact rt_z hx hb hr hlocks hP hD hS dX4_refuses_33 rfl (z_nar (Or.inr rfl))
set_option maxHeartbeats 4000000 in
set_option maxRecDepth 100000 in
theorem kX4_refuses01 (l : Launch) (G : GT) (ma : Nat) (d0 : Nat) (d1 : Nat) (d2 : Nat) (d3 : Nat) (d4 : Nat) (d5 : Nat) (d6 : Nat) (d7 : Nat) (d8 : Nat) (d9 : Nat) (d10 : Nat) (d11 : Nat) (d12 : Nat) (d13 : Nat) (d14 : Nat) (d15 : Nat) (d16 : Nat) (cd : Int32) : CI l yX4_refuses wsX4_refuses { frames := 0, cells := 0, slots := 0, locals := 0 } G [.ref ma, .int (0:Int32), .int (1:Int32)] [(ma, .inr (4, [.ref d0, .ref d1, .ref d2, .ref d3, .ref d4, .ref d5, .ref d6, .ref d7, .ref d8, .ref d9, .ref d10, .ref d11, .ref d12, .ref d13, .ref d14, .ref d15, .ref d16, .int cd]))] (1:Int32) [(ma, .inr (4, [.ref d0, .ref d1, .ref d2, .ref d3, .ref d4, .ref d5, .ref d6, .ref d7, .ref d8, .ref d9, .ref d10, .ref d11, .ref d12, .ref d13, .ref d14, .ref d15, .ref d16, .int (2:Int32)]))] := by
  refine en_i (cc := cX4_refuses) (maxL := 3) (ret := (some .boolean)) (own := RX4) (by decide) rfl rfl (Nat.le_of_ble_eq_true rfl) ?_
  intro p e s m below meth c A ls hx hb hr hts hown hml hlocks hA hK hE hP hD hS hl
  have hl : lv_has ls 3 [(0, .ref ma), (1, .int (0:Int32)), (2, .int (1:Int32))] := hl
  refine lv_aload_n hx hb dX4_refuses_0 rfl (lv_at hl 0 rfl) ?_
  refine lv_iload_n hx hb dX4_refuses_1 rfl (lv_at hl 1 rfl) ?_
  refine bz_eq (tgt := 9) hx hb dX4_refuses_2 (by decide) (fun _ => ?_) (fun h9 => absurd rfl h9)
  refine lv_iload_n hx hb dX4_refuses_9 rfl (lv_at hl 2 rfl) ?_
  refine bz_eq (tgt := 17) hx hb dX4_refuses_10 (by decide) (fun h9 => absurd h9 (by decide)) (fun _ => ?_)
  refine lv_iconst (v := (2:Int32)) hx hb dX4_refuses_13 (by decide) ?_
  refine lv_goto (tgt := 18) hx hb dX4_refuses_14 (by decide) ?_
  refine va_put (D := G.1) (ci := 4) (v := .int (2:Int32)) (ty := .int) (C := RX4) (T := TX4) (N := 18) hx hb hts (by decide +kernel) tyX4 tyX4_ok nmX4 hown hK hP hD hS 0 rfl rfl 17 (by decide) (hts (.fieldLink RX4 63 "PedalBoardModel" "code" "I") (by decide +kernel)) (fun _ h9 => h9) rfl (by decide +kernel) rfl rfl (Nat.le_of_ble_eq_true rfl) dX4_refuses_18 (fun H locs hP hD hS => ?_)
  have hP : va_P G.1 vwCl [(ma, .inr (4, [.ref d0, .ref d1, .ref d2, .ref d3, .ref d4, .ref d5, .ref d6, .ref d7, .ref d8, .ref d9, .ref d10, .ref d11, .ref d12, .ref d13, .ref d14, .ref d15, .ref d16, .int (2:Int32)]))] H := hP
  have hD : va_D A [(ma, .inr (4, [.ref d0, .ref d1, .ref d2, .ref d3, .ref d4, .ref d5, .ref d6, .ref d7, .ref d8, .ref d9, .ref d10, .ref d11, .ref d12, .ref d13, .ref d14, .ref d15, .ref d16, .int (2:Int32)]))] := hD
  refine lv_aload_n hx hb dX4_refuses_21 rfl (lv_at hl 0 rfl) ?_
  refine va_get (D := G.1) (ci := 4) (v := .int (2:Int32)) (C := RX4) (T := TX4) (N := 18) hx hb hts (by decide +kernel) hown hK hP 0 rfl rfl 17 (by decide) (hts (.fieldLink RX4 63 "PedalBoardModel" "code" "I") (by decide +kernel)) (fun _ h9 => h9) rfl dX4_refuses_22 ?_
  refine bz_eq (tgt := 32) hx hb dX4_refuses_25 (by decide) (fun h9 => absurd h9 (by decide)) (fun _ => ?_)
  refine lv_iconst (v := (1:Int32)) hx hb dX4_refuses_28 (by decide) ?_
  refine lv_goto (tgt := 33) hx hb dX4_refuses_29 (by decide) ?_
  exact rt_z hx hb hr hlocks hP hD hS dX4_refuses_33 rfl (z_nar (Or.inr rfl))
def fX4_isPedal (n : Nat) (pl : Int32) : Int32 := (if pl < 0 then (0:Int32) else (if pl < (nI n) then (1:Int32) else (0:Int32)))
set_option maxHeartbeats 4000000 in
set_option maxRecDepth 100000 in
theorem kX4_isPedal (l : Launch) (G : GT) (ma : Nat) (d0 : Nat) (d1 : Nat) (d2 : Nat) (d3 : Nat) (d4 : Nat) (d5 : Nat) (d6 : Nat) (d7 : Nat) (d8 : Nat) (d9 : Nat) (d10 : Nat) (d11 : Nat) (d12 : Nat) (d13 : Nat) (d14 : Nat) (d15 : Nat) (d16 : Nat) (cd : Int32) (f5 : Nat → Int32) (i : Nat) (n : Nat) (pl : Int32) (hi4 : i < 4) (hm : f5 i = nI n) : CI l yX4_isPedal wsX4_isPedal { frames := 1, cells := 0, slots := 0, locals := 20 } G [.ref ma, .int (nI i), .int pl] [(ma, .inr (4, [.ref d0, .ref d1, .ref d2, .ref d3, .ref d4, .ref d5, .ref d6, .ref d7, .ref d8, .ref d9, .ref d10, .ref d11, .ref d12, .ref d13, .ref d14, .ref d15, .ref d16, .int cd])), (d5, .inl (G.2.1 0, 4, .inl f5))] (fX4_isPedal n pl) [(ma, .inr (4, [.ref d0, .ref d1, .ref d2, .ref d3, .ref d4, .ref d5, .ref d6, .ref d7, .ref d8, .ref d9, .ref d10, .ref d11, .ref d12, .ref d13, .ref d14, .ref d15, .ref d16, .int cd])), (d5, .inl (G.2.1 0, 4, .inl f5))] := by
  refine en_i (cc := cX4_isPedal) (maxL := 3) (ret := (some .boolean)) (own := RX4) (by decide) rfl rfl (Nat.le_of_ble_eq_true rfl) ?_
  intro p e s m below meth c A ls hx hb hr hts hown hml hlocks hA hK hE hP hD hS hl
  have hl : lv_has ls 3 [(0, .ref ma), (1, .int (nI i)), (2, .int pl)] := hl
  refine lv_iload_n hx hb dX4_isPedal_0 rfl (lv_at hl 1 rfl) ?_
  refine cs_i (As := [.int (nI i)]) (rest := []) ⟨hx, hb, hml, hown, hts⟩ (kX4_isWire l G (nI i)) (va_cwS 1 hts gX4_isPedal_X4_isWire rfl rfl rfl (by decide +kernel) ⟨Nat.le_of_ble_eq_true rfl, Nat.le_of_ble_eq_true rfl⟩) hE hK hP hD hS hA hl.1 [] rfl rfl rfl rfl rfl rfl (Nat.le_of_ble_eq_true rfl) dX4_isPedal_1 ⟨Nat.zero_le _, Nat.zero_le _⟩ (fun H locs hP hD hS => ?_)
  have hP : va_P G.1 vwCl [(ma, .inr (4, [.ref d0, .ref d1, .ref d2, .ref d3, .ref d4, .ref d5, .ref d6, .ref d7, .ref d8, .ref d9, .ref d10, .ref d11, .ref d12, .ref d13, .ref d14, .ref d15, .ref d16, .int cd])), (d5, .inl (G.2.1 0, 4, .inl f5))] H := hP
  have hD : va_D A [(ma, .inr (4, [.ref d0, .ref d1, .ref d2, .ref d3, .ref d4, .ref d5, .ref d6, .ref d7, .ref d8, .ref d9, .ref d10, .ref d11, .ref d12, .ref d13, .ref d14, .ref d15, .ref d16, .int cd])), (d5, .inl (G.2.1 0, 4, .inl f5))] := hD
  refine bz_eq (tgt := 25) hx hb dX4_isPedal_4 (by decide) (fun h9 => absurd h9 (isW4_1 hi4)) (fun _ => ?_)
  refine lv_iload_n hx hb dX4_isPedal_7 rfl (lv_at hl 2 rfl) ?_
  refine bz_lt (tgt := 25) hx hb dX4_isPedal_8 (by decide) (fun c_1 => ?_) (fun c_1 => ?_)
  · refine lv_iconst (v := (0:Int32)) hx hb dX4_isPedal_25 (by decide) ?_
    exact rt_z hx hb hr hlocks hP hD hS dX4_isPedal_26 (by rw [fX4_isPedal, if_pos c_1]) (z_nar (Or.inl rfl))
  · refine lv_iload_n hx hb dX4_isPedal_11 rfl (lv_at hl 2 rfl) ?_
    refine lv_aload_n hx hb dX4_isPedal_12 rfl (lv_at hl 0 rfl) ?_
    refine va_get (D := G.1) (ci := 4) (v := .ref d5) (C := RX4) (T := TX4) (N := 18) hx hb hts (by decide +kernel) hown hK hP 0 rfl rfl 5 (by decide) (hts (.fieldLink RX4 26 "PedalBoardModel" "many" "[I") (by decide +kernel)) (fun _ h9 => h9) rfl dX4_isPedal_13 ?_
    refine lv_iload_n hx hb dX4_isPedal_16 rfl (lv_at hl 1 rfl) ?_
    refine ar_ild hx hb hK hP 1 rfl i rfl (by omega) (by decide) dX4_isPedal_17 ?_
    rw [hm]
    refine bi_ge (tgt := 25) hx hb dX4_isPedal_18 (by decide) (fun c_2 => ?_) (fun c_2 => ?_)
    · refine lv_iconst (v := (1:Int32)) hx hb dX4_isPedal_21 (by decide) ?_
      refine lv_goto (tgt := 26) hx hb dX4_isPedal_22 (by decide) ?_
      exact rt_z hx hb hr hlocks hP hD hS dX4_isPedal_26 (by rw [fX4_isPedal, if_neg c_1, if_pos c_2]) (z_nar (Or.inr rfl))
    · refine lv_iconst (v := (0:Int32)) hx hb dX4_isPedal_25 (by decide) ?_
      exact rt_z hx hb hr hlocks hP hD hS dX4_isPedal_26 (by rw [fX4_isPedal, if_neg c_1, if_neg c_2]) (z_nar (Or.inl rfl))
theorem z_X4_isPedal (n : Nat) (pl : Int32) : (fX4_isPedal n pl) = 0 ∨ (fX4_isPedal n pl) = 1 := by
  unfold fX4_isPedal; repeat (first | exact Or.inl rfl | exact Or.inr rfl | split)
set_option maxHeartbeats 4000000 in
set_option maxRecDepth 100000 in
theorem kX4_isPedalN (l : Launch) (G : GT) (ma : Nat) (d0 : Nat) (d1 : Nat) (d2 : Nat) (d3 : Nat) (d4 : Nat) (d5 : Nat) (d6 : Nat) (d7 : Nat) (d8 : Nat) (d9 : Nat) (d10 : Nat) (d11 : Nat) (d12 : Nat) (d13 : Nat) (d14 : Nat) (d15 : Nat) (d16 : Nat) (cd : Int32) (wi : Int32) (pl : Int32) (hwi : fX4_isWire wi = 0) : CI l yX4_isPedal wsX4_isPedal { frames := 1, cells := 0, slots := 0, locals := 20 } G [.ref ma, .int wi, .int pl] [(ma, .inr (4, [.ref d0, .ref d1, .ref d2, .ref d3, .ref d4, .ref d5, .ref d6, .ref d7, .ref d8, .ref d9, .ref d10, .ref d11, .ref d12, .ref d13, .ref d14, .ref d15, .ref d16, .int cd]))] (0:Int32) [(ma, .inr (4, [.ref d0, .ref d1, .ref d2, .ref d3, .ref d4, .ref d5, .ref d6, .ref d7, .ref d8, .ref d9, .ref d10, .ref d11, .ref d12, .ref d13, .ref d14, .ref d15, .ref d16, .int cd]))] := by
  refine en_i (cc := cX4_isPedal) (maxL := 3) (ret := (some .boolean)) (own := RX4) (by decide) rfl rfl (Nat.le_of_ble_eq_true rfl) ?_
  intro p e s m below meth c A ls hx hb hr hts hown hml hlocks hA hK hE hP hD hS hl
  have hl : lv_has ls 3 [(0, .ref ma), (1, .int wi), (2, .int pl)] := hl
  refine lv_iload_n hx hb dX4_isPedal_0 rfl (lv_at hl 1 rfl) ?_
  refine cs_i (As := [.int wi]) (rest := []) ⟨hx, hb, hml, hown, hts⟩ (kX4_isWire l G wi) (va_cwS 1 hts gX4_isPedal_X4_isWire rfl rfl rfl (by decide +kernel) ⟨Nat.le_of_ble_eq_true rfl, Nat.le_of_ble_eq_true rfl⟩) hE hK hP hD hS hA hl.1 [] rfl rfl rfl rfl rfl rfl (Nat.le_of_ble_eq_true rfl) dX4_isPedal_1 ⟨Nat.zero_le _, Nat.zero_le _⟩ (fun H locs hP hD hS => ?_)
  have hP : va_P G.1 vwCl [(ma, .inr (4, [.ref d0, .ref d1, .ref d2, .ref d3, .ref d4, .ref d5, .ref d6, .ref d7, .ref d8, .ref d9, .ref d10, .ref d11, .ref d12, .ref d13, .ref d14, .ref d15, .ref d16, .int cd]))] H := hP
  have hD : va_D A [(ma, .inr (4, [.ref d0, .ref d1, .ref d2, .ref d3, .ref d4, .ref d5, .ref d6, .ref d7, .ref d8, .ref d9, .ref d10, .ref d11, .ref d12, .ref d13, .ref d14, .ref d15, .ref d16, .int cd]))] := hD
  refine bz_eq (tgt := 25) hx hb dX4_isPedal_4 (by decide) (fun _ => ?_) (fun h9 => absurd hwi h9)
  refine lv_iconst (v := (0:Int32)) hx hb dX4_isPedal_25 (by decide) ?_
  exact rt_z hx hb hr hlocks hP hD hS dX4_isPedal_26 rfl (z_nar (Or.inl rfl))
theorem isP_1 {n u : Nat} (hn : n ≤ 12) (h : u < n) : ¬ fX4_isPedal n (nI u) = 0 := has_1 hn h
theorem isP_has (n : Nat) (pl : Int32) : fX4_isPedal n pl = fX0_has n pl := rfl
def fX4_come_16 (y_1 : Int32) : Int32 := y_1
def fX4_come (f0 : Nat → Int64) (i : Nat) (sg : Int64) : Int32 := (fX4_come_16 (if (f0 i) = sg then (0:Int32) else (1:Int32)))
set_option maxHeartbeats 4000000 in
set_option maxRecDepth 100000 in
theorem kX4_come (l : Launch) (G : GT) (ma : Nat) (d0 : Nat) (d1 : Nat) (d2 : Nat) (d3 : Nat) (d4 : Nat) (d5 : Nat) (d6 : Nat) (d7 : Nat) (d8 : Nat) (d9 : Nat) (d10 : Nat) (d11 : Nat) (d12 : Nat) (d13 : Nat) (d14 : Nat) (d15 : Nat) (d16 : Nat) (cd : Int32) (f0 : Nat → Int64) (f1 : Nat → Int64) (f4 : Nat → Int32) (f6 : Nat → Int32) (f7 : Nat → Int32) (i : Nat) (sg : Int64) (hi4 : i < 4) : CI l yX4_come wsX4_come { frames := 0, cells := 0, slots := 0, locals := 0 } G [.ref ma, .int (nI i), .long sg] [(ma, .inr (4, [.ref d0, .ref d1, .ref d2, .ref d3, .ref d4, .ref d5, .ref d6, .ref d7, .ref d8, .ref d9, .ref d10, .ref d11, .ref d12, .ref d13, .ref d14, .ref d15, .ref d16, .int cd])), (d0, .inl (G.2.1 1, 4, .inr (.inl f0))), (d1, .inl (G.2.1 1, 4, .inr (.inl f1))), (d4, .inl (G.2.1 0, 4, .inl f4)), (d6, .inl (G.2.1 2, 4, .inl f6)), (d7, .inl (G.2.1 2, 4, .inl f7))] (fX4_come f0 i sg) [(ma, .inr (4, [.ref d0, .ref d1, .ref d2, .ref d3, .ref d4, .ref d5, .ref d6, .ref d7, .ref d8, .ref d9, .ref d10, .ref d11, .ref d12, .ref d13, .ref d14, .ref d15, .ref d16, .int cd])), (d0, .inl (G.2.1 1, 4, .inr (.inl (vp_updL f0 i sg)))), (d1, .inl (G.2.1 1, 4, .inr (.inl (vp_updL f1 i sg)))), (d4, .inl (G.2.1 0, 4, .inl (upd f4 i (0:Int32)))), (d6, .inl (G.2.1 2, 4, .inl (upd f6 i (0:Int32)))), (d7, .inl (G.2.1 2, 4, .inl (upd f7 i (0:Int32))))] := by
  refine en_i (cc := cX4_come) (maxL := 5) (ret := (some .boolean)) (own := RX4) (by decide) rfl rfl (Nat.le_of_ble_eq_true rfl) ?_
  intro p e s m below meth c A ls hx hb hr hts hown hml hlocks hA hK hE hP hD hS hl
  have hl : lv_has ls 5 [(0, .ref ma), (1, .int (nI i)), (2, .long sg)] := hl
  refine lv_aload_n hx hb dX4_come_0 rfl (lv_at hl 0 rfl) ?_
  refine va_get (D := G.1) (ci := 4) (v := .ref d0) (C := RX4) (T := TX4) (N := 18) hx hb hts (by decide +kernel) hown hK hP 0 rfl rfl 0 (by decide) (hts (.fieldLink RX4 7 "PedalBoardModel" "dry" "[J") (by decide +kernel)) (fun _ h9 => h9) rfl dX4_come_1 ?_
  refine lv_iload_n hx hb dX4_come_4 rfl (lv_at hl 1 rfl) ?_
  refine ar_lld hx hb hK hP 1 rfl i rfl (by omega) (by decide) dX4_come_5 ?_
  refine lv_lload_n hx hb dX4_come_6 rfl (lv_at hl 2 rfl) ?_
  refine jn_2 (T := Int32) G A (if (f0 i) = sg then (0:Int32) else (1:Int32)) (fun y => [(ma, .inr (4, [.ref d0, .ref d1, .ref d2, .ref d3, .ref d4, .ref d5, .ref d6, .ref d7, .ref d8, .ref d9, .ref d10, .ref d11, .ref d12, .ref d13, .ref d14, .ref d15, .ref d16, .int cd])), (d0, .inl (G.2.1 1, 4, .inr (.inl f0))), (d1, .inl (G.2.1 1, 4, .inr (.inl f1))), (d4, .inl (G.2.1 0, 4, .inl f4)), (d6, .inl (G.2.1 2, 4, .inl f6)), (d7, .inl (G.2.1 2, 4, .inl f7))]) 5 (fun y => [(0, .ref ma), (1, .int (nI i)), (2, .long sg)]) (fun y => [.int y]) 16 ?_ ?_
  · intro y_1 ey_1 H locs ls hP hD hS hl
    have hl : lv_has ls 5 [(0, .ref ma), (1, .int (nI i)), (2, .long sg)] := hl
    have hP : va_P G.1 vwCl [(ma, .inr (4, [.ref d0, .ref d1, .ref d2, .ref d3, .ref d4, .ref d5, .ref d6, .ref d7, .ref d8, .ref d9, .ref d10, .ref d11, .ref d12, .ref d13, .ref d14, .ref d15, .ref d16, .int cd])), (d0, .inl (G.2.1 1, 4, .inr (.inl f0))), (d1, .inl (G.2.1 1, 4, .inr (.inl f1))), (d4, .inl (G.2.1 0, 4, .inl f4)), (d6, .inl (G.2.1 2, 4, .inl f6)), (d7, .inl (G.2.1 2, 4, .inl f7))] H := hP
    have hD : va_D A [(ma, .inr (4, [.ref d0, .ref d1, .ref d2, .ref d3, .ref d4, .ref d5, .ref d6, .ref d7, .ref d8, .ref d9, .ref d10, .ref d11, .ref d12, .ref d13, .ref d14, .ref d15, .ref d16, .int cd])), (d0, .inl (G.2.1 1, 4, .inr (.inl f0))), (d1, .inl (G.2.1 1, 4, .inr (.inl f1))), (d4, .inl (G.2.1 0, 4, .inl f4)), (d6, .inl (G.2.1 2, 4, .inl f6)), (d7, .inl (G.2.1 2, 4, .inl f7))] := hD
    have hr_3 : (fX4_come f0 i sg) = fX4_come_16 y_1 := by rw [ey_1, fX4_come]
    refine lv_istore (lv' := [(4, .int y_1), (0, .ref ma), (1, .int (nI i)), (2, .long sg)]) hx hb dX4_come_16 hl (by decide) rfl (fun ls hl => ?_)
    refine lv_aload_n hx hb dX4_come_18 rfl (lv_at hl 1 rfl) ?_
    refine va_get (D := G.1) (ci := 4) (v := .ref d0) (C := RX4) (T := TX4) (N := 18) hx hb hts (by decide +kernel) hown hK hP 0 rfl rfl 0 (by decide) (hts (.fieldLink RX4 7 "PedalBoardModel" "dry" "[J") (by decide +kernel)) (fun _ h9 => h9) rfl dX4_come_19 ?_
    refine lv_iload_n hx hb dX4_come_22 rfl (lv_at hl 2 rfl) ?_
    refine lv_lload_n hx hb dX4_come_23 rfl (lv_at hl 3 rfl) ?_
    refine ar_lst hx hb hK hP hD hS 1 rfl i rfl (by omega) (by decide) dX4_come_24 (fun H locs hP hD hS => ?_)
    have hP : va_P G.1 vwCl [(ma, .inr (4, [.ref d0, .ref d1, .ref d2, .ref d3, .ref d4, .ref d5, .ref d6, .ref d7, .ref d8, .ref d9, .ref d10, .ref d11, .ref d12, .ref d13, .ref d14, .ref d15, .ref d16, .int cd])), (d0, .inl (G.2.1 1, 4, .inr (.inl (vp_updL f0 i sg)))), (d1, .inl (G.2.1 1, 4, .inr (.inl f1))), (d4, .inl (G.2.1 0, 4, .inl f4)), (d6, .inl (G.2.1 2, 4, .inl f6)), (d7, .inl (G.2.1 2, 4, .inl f7))] H := hP
    have hD : va_D A [(ma, .inr (4, [.ref d0, .ref d1, .ref d2, .ref d3, .ref d4, .ref d5, .ref d6, .ref d7, .ref d8, .ref d9, .ref d10, .ref d11, .ref d12, .ref d13, .ref d14, .ref d15, .ref d16, .int cd])), (d0, .inl (G.2.1 1, 4, .inr (.inl (vp_updL f0 i sg)))), (d1, .inl (G.2.1 1, 4, .inr (.inl f1))), (d4, .inl (G.2.1 0, 4, .inl f4)), (d6, .inl (G.2.1 2, 4, .inl f6)), (d7, .inl (G.2.1 2, 4, .inl f7))] := hD
    refine lv_aload_n hx hb dX4_come_25 rfl (lv_at hl 1 rfl) ?_
    refine va_get (D := G.1) (ci := 4) (v := .ref d1) (C := RX4) (T := TX4) (N := 18) hx hb hts (by decide +kernel) hown hK hP 0 rfl rfl 1 (by decide) (hts (.fieldLink RX4 13 "PedalBoardModel" "wet" "[J") (by decide +kernel)) (fun _ h9 => h9) rfl dX4_come_26 ?_
    refine lv_iload_n hx hb dX4_come_29 rfl (lv_at hl 2 rfl) ?_
    refine lv_lload_n hx hb dX4_come_30 rfl (lv_at hl 3 rfl) ?_
    refine ar_lst hx hb hK hP hD hS 2 rfl i rfl (by omega) (by decide) dX4_come_31 (fun H locs hP hD hS => ?_)
    have hP : va_P G.1 vwCl [(ma, .inr (4, [.ref d0, .ref d1, .ref d2, .ref d3, .ref d4, .ref d5, .ref d6, .ref d7, .ref d8, .ref d9, .ref d10, .ref d11, .ref d12, .ref d13, .ref d14, .ref d15, .ref d16, .int cd])), (d0, .inl (G.2.1 1, 4, .inr (.inl (vp_updL f0 i sg)))), (d1, .inl (G.2.1 1, 4, .inr (.inl (vp_updL f1 i sg)))), (d4, .inl (G.2.1 0, 4, .inl f4)), (d6, .inl (G.2.1 2, 4, .inl f6)), (d7, .inl (G.2.1 2, 4, .inl f7))] H := hP
    have hD : va_D A [(ma, .inr (4, [.ref d0, .ref d1, .ref d2, .ref d3, .ref d4, .ref d5, .ref d6, .ref d7, .ref d8, .ref d9, .ref d10, .ref d11, .ref d12, .ref d13, .ref d14, .ref d15, .ref d16, .int cd])), (d0, .inl (G.2.1 1, 4, .inr (.inl (vp_updL f0 i sg)))), (d1, .inl (G.2.1 1, 4, .inr (.inl (vp_updL f1 i sg)))), (d4, .inl (G.2.1 0, 4, .inl f4)), (d6, .inl (G.2.1 2, 4, .inl f6)), (d7, .inl (G.2.1 2, 4, .inl f7))] := hD
    refine lv_aload_n hx hb dX4_come_32 rfl (lv_at hl 1 rfl) ?_
    refine va_get (D := G.1) (ci := 4) (v := .ref d4) (C := RX4) (T := TX4) (N := 18) hx hb hts (by decide +kernel) hown hK hP 0 rfl rfl 4 (by decide) (hts (.fieldLink RX4 22 "PedalBoardModel" "played" "[I") (by decide +kernel)) (fun _ h9 => h9) rfl dX4_come_33 ?_
    refine lv_iload_n hx hb dX4_come_36 rfl (lv_at hl 2 rfl) ?_
    refine lv_iconst (v := (0:Int32)) hx hb dX4_come_37 (by decide) ?_
    refine ar_ist hx hb hK hP hD hS 3 rfl i rfl (by omega) (by decide) dX4_come_38 (fun H locs hP hD hS => ?_)
    have hP : va_P G.1 vwCl [(ma, .inr (4, [.ref d0, .ref d1, .ref d2, .ref d3, .ref d4, .ref d5, .ref d6, .ref d7, .ref d8, .ref d9, .ref d10, .ref d11, .ref d12, .ref d13, .ref d14, .ref d15, .ref d16, .int cd])), (d0, .inl (G.2.1 1, 4, .inr (.inl (vp_updL f0 i sg)))), (d1, .inl (G.2.1 1, 4, .inr (.inl (vp_updL f1 i sg)))), (d4, .inl (G.2.1 0, 4, .inl (upd f4 i (0:Int32)))), (d6, .inl (G.2.1 2, 4, .inl f6)), (d7, .inl (G.2.1 2, 4, .inl f7))] H := hP
    have hD : va_D A [(ma, .inr (4, [.ref d0, .ref d1, .ref d2, .ref d3, .ref d4, .ref d5, .ref d6, .ref d7, .ref d8, .ref d9, .ref d10, .ref d11, .ref d12, .ref d13, .ref d14, .ref d15, .ref d16, .int cd])), (d0, .inl (G.2.1 1, 4, .inr (.inl (vp_updL f0 i sg)))), (d1, .inl (G.2.1 1, 4, .inr (.inl (vp_updL f1 i sg)))), (d4, .inl (G.2.1 0, 4, .inl (upd f4 i (0:Int32)))), (d6, .inl (G.2.1 2, 4, .inl f6)), (d7, .inl (G.2.1 2, 4, .inl f7))] := hD
    refine lv_aload_n hx hb dX4_come_39 rfl (lv_at hl 1 rfl) ?_
    refine va_get (D := G.1) (ci := 4) (v := .ref d7) (C := RX4) (T := TX4) (N := 18) hx hb hts (by decide +kernel) hown hK hP 0 rfl rfl 7 (by decide) (hts (.fieldLink RX4 33 "PedalBoardModel" "peaked" "[Z") (by decide +kernel)) (fun _ h9 => h9) rfl dX4_come_40 ?_
    refine lv_iload_n hx hb dX4_come_43 rfl (lv_at hl 2 rfl) ?_
    refine lv_iconst (v := (0:Int32)) hx hb dX4_come_44 (by decide) ?_
    refine ar_zst hx hb hK hP hD hS 5 rfl i rfl (by omega) (by decide) (Or.inl rfl) dX4_come_45 (fun H locs hP hD hS => ?_)
    have hP : va_P G.1 vwCl [(ma, .inr (4, [.ref d0, .ref d1, .ref d2, .ref d3, .ref d4, .ref d5, .ref d6, .ref d7, .ref d8, .ref d9, .ref d10, .ref d11, .ref d12, .ref d13, .ref d14, .ref d15, .ref d16, .int cd])), (d0, .inl (G.2.1 1, 4, .inr (.inl (vp_updL f0 i sg)))), (d1, .inl (G.2.1 1, 4, .inr (.inl (vp_updL f1 i sg)))), (d4, .inl (G.2.1 0, 4, .inl (upd f4 i (0:Int32)))), (d6, .inl (G.2.1 2, 4, .inl f6)), (d7, .inl (G.2.1 2, 4, .inl (upd f7 i (0:Int32))))] H := hP
    have hD : va_D A [(ma, .inr (4, [.ref d0, .ref d1, .ref d2, .ref d3, .ref d4, .ref d5, .ref d6, .ref d7, .ref d8, .ref d9, .ref d10, .ref d11, .ref d12, .ref d13, .ref d14, .ref d15, .ref d16, .int cd])), (d0, .inl (G.2.1 1, 4, .inr (.inl (vp_updL f0 i sg)))), (d1, .inl (G.2.1 1, 4, .inr (.inl (vp_updL f1 i sg)))), (d4, .inl (G.2.1 0, 4, .inl (upd f4 i (0:Int32)))), (d6, .inl (G.2.1 2, 4, .inl f6)), (d7, .inl (G.2.1 2, 4, .inl (upd f7 i (0:Int32))))] := hD
    refine lv_aload_n hx hb dX4_come_46 rfl (lv_at hl 1 rfl) ?_
    refine va_get (D := G.1) (ci := 4) (v := .ref d6) (C := RX4) (T := TX4) (N := 18) hx hb hts (by decide +kernel) hown hK hP 0 rfl rfl 6 (by decide) (hts (.fieldLink RX4 29 "PedalBoardModel" "traced" "[Z") (by decide +kernel)) (fun _ h9 => h9) rfl dX4_come_47 ?_
    refine lv_iload_n hx hb dX4_come_50 rfl (lv_at hl 2 rfl) ?_
    refine lv_iconst (v := (0:Int32)) hx hb dX4_come_51 (by decide) ?_
    refine ar_zst hx hb hK hP hD hS 4 rfl i rfl (by omega) (by decide) (Or.inl rfl) dX4_come_52 (fun H locs hP hD hS => ?_)
    have hP : va_P G.1 vwCl [(ma, .inr (4, [.ref d0, .ref d1, .ref d2, .ref d3, .ref d4, .ref d5, .ref d6, .ref d7, .ref d8, .ref d9, .ref d10, .ref d11, .ref d12, .ref d13, .ref d14, .ref d15, .ref d16, .int cd])), (d0, .inl (G.2.1 1, 4, .inr (.inl (vp_updL f0 i sg)))), (d1, .inl (G.2.1 1, 4, .inr (.inl (vp_updL f1 i sg)))), (d4, .inl (G.2.1 0, 4, .inl (upd f4 i (0:Int32)))), (d6, .inl (G.2.1 2, 4, .inl (upd f6 i (0:Int32)))), (d7, .inl (G.2.1 2, 4, .inl (upd f7 i (0:Int32))))] H := hP
    have hD : va_D A [(ma, .inr (4, [.ref d0, .ref d1, .ref d2, .ref d3, .ref d4, .ref d5, .ref d6, .ref d7, .ref d8, .ref d9, .ref d10, .ref d11, .ref d12, .ref d13, .ref d14, .ref d15, .ref d16, .int cd])), (d0, .inl (G.2.1 1, 4, .inr (.inl (vp_updL f0 i sg)))), (d1, .inl (G.2.1 1, 4, .inr (.inl (vp_updL f1 i sg)))), (d4, .inl (G.2.1 0, 4, .inl (upd f4 i (0:Int32)))), (d6, .inl (G.2.1 2, 4, .inl (upd f6 i (0:Int32)))), (d7, .inl (G.2.1 2, 4, .inl (upd f7 i (0:Int32))))] := hD
    refine lv_iload hx hb dX4_come_53 (lv_at hl 0 rfl) ?_
    subst ey_1
    exact rt_z hx hb hr hlocks hP hD hS dX4_come_55 (by rw [hr_3, fX4_come_16]) (z_nar (by repeat (first | exact Or.inl rfl | exact Or.inr rfl | split)))
  · intro kj_1
    refine bl_eq (tgt := 15) hx hb dX4_come_7 dX4_come_8 (by decide) (fun c_2 => ?_) (fun c_2 => ?_)
    · refine lv_iconst (v := (0:Int32)) hx hb dX4_come_15 (by decide) ?_
      exact kj_1 (0:Int32) (by rw [if_pos c_2]) _ _ _ hP hD hS (lv_sub hl [0, 1, 2] rfl)
    · refine lv_iconst (v := (1:Int32)) hx hb dX4_come_11 (by decide) ?_
      refine lv_goto (tgt := 16) hx hb dX4_come_12 (by decide) ?_
      exact kj_1 (1:Int32) (by rw [if_neg c_2]) _ _ _ hP hD hS (lv_sub hl [0, 1, 2] rfl)
theorem z_X4_come (f0 : Nat → Int64) (i : Nat) (sg : Int64) : (fX4_come f0 i sg) = 0 ∨ (fX4_come f0 i sg) = 1 := by
  unfold fX4_come fX4_come_16; repeat (first | exact Or.inl rfl | exact Or.inr rfl | split)
def fX4_put (f0 : Nat → Int64) (i : Nat) (hh : Int32) (lo : Int32) : Int32 := (fX4_come f0 i (fX4_coded (nI i) hh lo))
set_option maxHeartbeats 4000000 in
set_option maxRecDepth 100000 in
theorem kX4_put (l : Launch) (G : GT) (ma : Nat) (d0 : Nat) (d1 : Nat) (d2 : Nat) (d3 : Nat) (d4 : Nat) (d5 : Nat) (d6 : Nat) (d7 : Nat) (d8 : Nat) (d9 : Nat) (d10 : Nat) (d11 : Nat) (d12 : Nat) (d13 : Nat) (d14 : Nat) (d15 : Nat) (d16 : Nat) (cd : Int32) (f0 : Nat → Int64) (f1 : Nat → Int64) (f4 : Nat → Int32) (f6 : Nat → Int32) (f7 : Nat → Int32) (i : Nat) (hh : Int32) (lo : Int32) (hi4 : i < 4) (hill : fX4_isIll (nI i) (fX4_coded (nI i) hh lo) = 0) : CI l yX4_put wsX4_put { frames := 3, cells := 0, slots := 0, locals := 66 } G [.ref ma, .int (nI i), .int hh, .int lo] [(ma, .inr (4, [.ref d0, .ref d1, .ref d2, .ref d3, .ref d4, .ref d5, .ref d6, .ref d7, .ref d8, .ref d9, .ref d10, .ref d11, .ref d12, .ref d13, .ref d14, .ref d15, .ref d16, .int cd])), (d0, .inl (G.2.1 1, 4, .inr (.inl f0))), (d1, .inl (G.2.1 1, 4, .inr (.inl f1))), (d4, .inl (G.2.1 0, 4, .inl f4)), (d6, .inl (G.2.1 2, 4, .inl f6)), (d7, .inl (G.2.1 2, 4, .inl f7))] (fX4_put f0 i hh lo) [(ma, .inr (4, [.ref d0, .ref d1, .ref d2, .ref d3, .ref d4, .ref d5, .ref d6, .ref d7, .ref d8, .ref d9, .ref d10, .ref d11, .ref d12, .ref d13, .ref d14, .ref d15, .ref d16, .int (0:Int32)])), (d0, .inl (G.2.1 1, 4, .inr (.inl (vp_updL f0 i (fX4_coded (nI i) hh lo))))), (d1, .inl (G.2.1 1, 4, .inr (.inl (vp_updL f1 i (fX4_coded (nI i) hh lo))))), (d4, .inl (G.2.1 0, 4, .inl (upd f4 i (0:Int32)))), (d6, .inl (G.2.1 2, 4, .inl (upd f6 i (0:Int32)))), (d7, .inl (G.2.1 2, 4, .inl (upd f7 i (0:Int32))))] := by
  refine en_i (cc := cX4_put) (maxL := 4) (ret := (some .boolean)) (own := RX4) (by decide) rfl rfl (Nat.le_of_ble_eq_true rfl) ?_
  intro p e s m below meth c A ls hx hb hr hts hown hml hlocks hA hK hE hP hD hS hl
  have hl : lv_has ls 4 [(0, .ref ma), (1, .int (nI i)), (2, .int hh), (3, .int lo)] := hl
  refine lv_aload_n hx hb dX4_put_0 rfl (lv_at hl 0 rfl) ?_
  refine lv_iload_n hx hb dX4_put_1 rfl (lv_at hl 1 rfl) ?_
  refine cs_i (As := [.int (nI i)]) (rest := [.ref ma]) ⟨hx, hb, hml, hown, hts⟩ (kX4_isWire l G (nI i)) (va_cwS 1 hts gX4_put_X4_isWire rfl rfl rfl (by decide +kernel) ⟨Nat.le_of_ble_eq_true rfl, Nat.le_of_ble_eq_true rfl⟩) hE hK hP hD hS hA hl.1 [] rfl rfl rfl rfl rfl rfl (Nat.le_of_ble_eq_true rfl) dX4_put_2 ⟨Nat.zero_le _, Nat.zero_le _⟩ (fun H locs hP hD hS => ?_)
  have hP : va_P G.1 vwCl [(ma, .inr (4, [.ref d0, .ref d1, .ref d2, .ref d3, .ref d4, .ref d5, .ref d6, .ref d7, .ref d8, .ref d9, .ref d10, .ref d11, .ref d12, .ref d13, .ref d14, .ref d15, .ref d16, .int cd])), (d0, .inl (G.2.1 1, 4, .inr (.inl f0))), (d1, .inl (G.2.1 1, 4, .inr (.inl f1))), (d4, .inl (G.2.1 0, 4, .inl f4)), (d6, .inl (G.2.1 2, 4, .inl f6)), (d7, .inl (G.2.1 2, 4, .inl f7))] H := hP
  have hD : va_D A [(ma, .inr (4, [.ref d0, .ref d1, .ref d2, .ref d3, .ref d4, .ref d5, .ref d6, .ref d7, .ref d8, .ref d9, .ref d10, .ref d11, .ref d12, .ref d13, .ref d14, .ref d15, .ref d16, .int cd])), (d0, .inl (G.2.1 1, 4, .inr (.inl f0))), (d1, .inl (G.2.1 1, 4, .inr (.inl f1))), (d4, .inl (G.2.1 0, 4, .inl f4)), (d6, .inl (G.2.1 2, 4, .inl f6)), (d7, .inl (G.2.1 2, 4, .inl f7))] := hD
  refine bz_eq (tgt := 21) hx hb dX4_put_5 (by decide) (fun h9 => absurd h9 (isW4_1 hi4)) (fun _ => ?_)
  refine lv_iload_n hx hb dX4_put_8 rfl (lv_at hl 1 rfl) ?_
  refine lv_iload_n hx hb dX4_put_9 rfl (lv_at hl 1 rfl) ?_
  refine lv_iload_n hx hb dX4_put_10 rfl (lv_at hl 2 rfl) ?_
  refine lv_iload_n hx hb dX4_put_11 rfl (lv_at hl 3 rfl) ?_
  refine cs_l (As := [.int (nI i), .int hh, .int lo]) (rest := [.int (nI i), .ref ma]) ⟨hx, hb, hml, hown, hts⟩ (kX4_coded l G (nI i) hh lo) (va_cwS 3 hts gX4_put_X4_coded rfl rfl rfl (by decide +kernel) ⟨Nat.le_of_ble_eq_true rfl, Nat.le_of_ble_eq_true rfl⟩) hE hK hP hD hS hA hl.1 [] rfl rfl rfl rfl rfl rfl (Nat.le_of_ble_eq_true rfl) dX4_put_12 ⟨Nat.zero_le _, Nat.zero_le _⟩ (fun H locs hP hD hS => ?_)
  have hP : va_P G.1 vwCl [(ma, .inr (4, [.ref d0, .ref d1, .ref d2, .ref d3, .ref d4, .ref d5, .ref d6, .ref d7, .ref d8, .ref d9, .ref d10, .ref d11, .ref d12, .ref d13, .ref d14, .ref d15, .ref d16, .int cd])), (d0, .inl (G.2.1 1, 4, .inr (.inl f0))), (d1, .inl (G.2.1 1, 4, .inr (.inl f1))), (d4, .inl (G.2.1 0, 4, .inl f4)), (d6, .inl (G.2.1 2, 4, .inl f6)), (d7, .inl (G.2.1 2, 4, .inl f7))] H := hP
  have hD : va_D A [(ma, .inr (4, [.ref d0, .ref d1, .ref d2, .ref d3, .ref d4, .ref d5, .ref d6, .ref d7, .ref d8, .ref d9, .ref d10, .ref d11, .ref d12, .ref d13, .ref d14, .ref d15, .ref d16, .int cd])), (d0, .inl (G.2.1 1, 4, .inr (.inl f0))), (d1, .inl (G.2.1 1, 4, .inr (.inl f1))), (d4, .inl (G.2.1 0, 4, .inl f4)), (d6, .inl (G.2.1 2, 4, .inl f6)), (d7, .inl (G.2.1 2, 4, .inl f7))] := hD
  refine cs_i (As := [.int (nI i), .long (fX4_coded (nI i) hh lo)]) (rest := [.ref ma]) ⟨hx, hb, hml, hown, hts⟩ (kX4_isIll l G (nI i) (fX4_coded (nI i) hh lo)) (va_cwS 2 hts gX4_put_X4_isIll rfl rfl rfl (by decide +kernel) ⟨Nat.le_of_ble_eq_true rfl, Nat.le_of_ble_eq_true rfl⟩) hE hK hP hD hS hA hl.1 [] rfl rfl rfl rfl rfl rfl (Nat.le_of_ble_eq_true rfl) dX4_put_15 ⟨Nat.zero_le _, Nat.zero_le _⟩ (fun H locs hP hD hS => ?_)
  have hP : va_P G.1 vwCl [(ma, .inr (4, [.ref d0, .ref d1, .ref d2, .ref d3, .ref d4, .ref d5, .ref d6, .ref d7, .ref d8, .ref d9, .ref d10, .ref d11, .ref d12, .ref d13, .ref d14, .ref d15, .ref d16, .int cd])), (d0, .inl (G.2.1 1, 4, .inr (.inl f0))), (d1, .inl (G.2.1 1, 4, .inr (.inl f1))), (d4, .inl (G.2.1 0, 4, .inl f4)), (d6, .inl (G.2.1 2, 4, .inl f6)), (d7, .inl (G.2.1 2, 4, .inl f7))] H := hP
  have hD : va_D A [(ma, .inr (4, [.ref d0, .ref d1, .ref d2, .ref d3, .ref d4, .ref d5, .ref d6, .ref d7, .ref d8, .ref d9, .ref d10, .ref d11, .ref d12, .ref d13, .ref d14, .ref d15, .ref d16, .int cd])), (d0, .inl (G.2.1 1, 4, .inr (.inl f0))), (d1, .inl (G.2.1 1, 4, .inr (.inl f1))), (d4, .inl (G.2.1 0, 4, .inl f4)), (d6, .inl (G.2.1 2, 4, .inl f6)), (d7, .inl (G.2.1 2, 4, .inl f7))] := hD
  refine bz_eq (tgt := 25) hx hb dX4_put_18 (by decide) (fun _ => ?_) (fun h9 => absurd hill h9)
  refine lv_iconst (v := (0:Int32)) hx hb dX4_put_25 (by decide) ?_
  refine lv_iconst (v := (0:Int32)) hx hb dX4_put_26 (by decide) ?_
  refine cv_i (As := [.int (0:Int32), .int (0:Int32)]) (rest := []) (ws' := [(ma, .inr (4, [.ref d0, .ref d1, .ref d2, .ref d3, .ref d4, .ref d5, .ref d6, .ref d7, .ref d8, .ref d9, .ref d10, .ref d11, .ref d12, .ref d13, .ref d14, .ref d15, .ref d16, .int (0:Int32)])), (d0, .inl (G.2.1 1, 4, .inr (.inl f0))), (d1, .inl (G.2.1 1, 4, .inr (.inl f1))), (d4, .inl (G.2.1 0, 4, .inl f4)), (d6, .inl (G.2.1 2, 4, .inl f6)), (d7, .inl (G.2.1 2, 4, .inl f7))]) ⟨hx, hb, hml, hown, hts⟩ (kX4_refuses00 l G ma d0 d1 d2 d3 d4 d5 d6 d7 d8 d9 d10 d11 d12 d13 d14 d15 d16 cd) (cwV 2 hts gX4_put_X4_refuses rfl rfl rfl (by decide +kernel) ⟨Nat.le_of_ble_eq_true rfl, Nat.le_of_ble_eq_true rfl⟩) (va_recv hK hP (ci := 4) (q0 := 0) rfl rfl) hE hK hP hD hS hA hl.1 [0] rfl rfl rfl rfl rfl rfl (Nat.le_of_ble_eq_true rfl) dX4_put_27 ⟨Nat.zero_le _, Nat.zero_le _⟩ (fun H locs hP hD hS => ?_)
  refine bz_eq (tgt := 35) hx hb dX4_put_30 (by decide) (fun _ => ?_) (fun h9 => absurd rfl h9)
  refine lv_aload_n hx hb dX4_put_35 rfl (lv_at hl 0 rfl) ?_
  refine lv_iload_n hx hb dX4_put_36 rfl (lv_at hl 1 rfl) ?_
  refine lv_iload_n hx hb dX4_put_37 rfl (lv_at hl 1 rfl) ?_
  refine lv_iload_n hx hb dX4_put_38 rfl (lv_at hl 2 rfl) ?_
  refine lv_iload_n hx hb dX4_put_39 rfl (lv_at hl 3 rfl) ?_
  refine cs_l (As := [.int (nI i), .int hh, .int lo]) (rest := [.int (nI i), .ref ma]) ⟨hx, hb, hml, hown, hts⟩ (kX4_coded l G (nI i) hh lo) (va_cwS 3 hts gX4_put_X4_coded rfl rfl rfl (by decide +kernel) ⟨Nat.le_of_ble_eq_true rfl, Nat.le_of_ble_eq_true rfl⟩) hE hK hP hD hS hA hl.1 [] rfl rfl rfl rfl rfl rfl (Nat.le_of_ble_eq_true rfl) dX4_put_40 ⟨Nat.zero_le _, Nat.zero_le _⟩ (fun H locs hP hD hS => ?_)
  have hP : va_P G.1 vwCl [(ma, .inr (4, [.ref d0, .ref d1, .ref d2, .ref d3, .ref d4, .ref d5, .ref d6, .ref d7, .ref d8, .ref d9, .ref d10, .ref d11, .ref d12, .ref d13, .ref d14, .ref d15, .ref d16, .int (0:Int32)])), (d0, .inl (G.2.1 1, 4, .inr (.inl f0))), (d1, .inl (G.2.1 1, 4, .inr (.inl f1))), (d4, .inl (G.2.1 0, 4, .inl f4)), (d6, .inl (G.2.1 2, 4, .inl f6)), (d7, .inl (G.2.1 2, 4, .inl f7))] H := hP
  have hD : va_D A [(ma, .inr (4, [.ref d0, .ref d1, .ref d2, .ref d3, .ref d4, .ref d5, .ref d6, .ref d7, .ref d8, .ref d9, .ref d10, .ref d11, .ref d12, .ref d13, .ref d14, .ref d15, .ref d16, .int (0:Int32)])), (d0, .inl (G.2.1 1, 4, .inr (.inl f0))), (d1, .inl (G.2.1 1, 4, .inr (.inl f1))), (d4, .inl (G.2.1 0, 4, .inl f4)), (d6, .inl (G.2.1 2, 4, .inl f6)), (d7, .inl (G.2.1 2, 4, .inl f7))] := hD
  refine cv_i (As := [.int (nI i), .long (fX4_coded (nI i) hh lo)]) (rest := []) (ws' := [(ma, .inr (4, [.ref d0, .ref d1, .ref d2, .ref d3, .ref d4, .ref d5, .ref d6, .ref d7, .ref d8, .ref d9, .ref d10, .ref d11, .ref d12, .ref d13, .ref d14, .ref d15, .ref d16, .int (0:Int32)])), (d0, .inl (G.2.1 1, 4, .inr (.inl (vp_updL f0 i (fX4_coded (nI i) hh lo))))), (d1, .inl (G.2.1 1, 4, .inr (.inl (vp_updL f1 i (fX4_coded (nI i) hh lo))))), (d4, .inl (G.2.1 0, 4, .inl (upd f4 i (0:Int32)))), (d6, .inl (G.2.1 2, 4, .inl (upd f6 i (0:Int32)))), (d7, .inl (G.2.1 2, 4, .inl (upd f7 i (0:Int32))))]) ⟨hx, hb, hml, hown, hts⟩ (kX4_come l G ma d0 d1 d2 d3 d4 d5 d6 d7 d8 d9 d10 d11 d12 d13 d14 d15 d16 (0:Int32) f0 f1 f4 f6 f7 i (fX4_coded (nI i) hh lo) (by first | assumption | omega)) (cwV 2 hts gX4_put_X4_come rfl rfl rfl (by decide +kernel) ⟨Nat.le_of_ble_eq_true rfl, Nat.le_of_ble_eq_true rfl⟩) (va_recv hK hP (ci := 4) (q0 := 0) rfl rfl) hE hK hP hD hS hA hl.1 [0, 1, 2, 3, 4, 5] rfl rfl rfl rfl rfl rfl (Nat.le_of_ble_eq_true rfl) dX4_put_43 ⟨Nat.zero_le _, Nat.zero_le _⟩ (fun H locs hP hD hS => ?_)
  exact rt_z hx hb hr hlocks hP hD hS dX4_put_46 (by rw [fX4_put]) (z_nar (z_X4_come _ _ _))
set_option maxHeartbeats 4000000 in
set_option maxRecDepth 100000 in
theorem kX4_putB0 (l : Launch) (G : GT) (ma : Nat) (d0 : Nat) (d1 : Nat) (d2 : Nat) (d3 : Nat) (d4 : Nat) (d5 : Nat) (d6 : Nat) (d7 : Nat) (d8 : Nat) (d9 : Nat) (d10 : Nat) (d11 : Nat) (d12 : Nat) (d13 : Nat) (d14 : Nat) (d15 : Nat) (d16 : Nat) (cd : Int32) (wi : Int32) (hh : Int32) (lo : Int32) (hwi : fX4_isWire wi = 0) : CI l yX4_put wsX4_put { frames := 1, cells := 0, slots := 0, locals := 22 } G [.ref ma, .int wi, .int hh, .int lo] [(ma, .inr (4, [.ref d0, .ref d1, .ref d2, .ref d3, .ref d4, .ref d5, .ref d6, .ref d7, .ref d8, .ref d9, .ref d10, .ref d11, .ref d12, .ref d13, .ref d14, .ref d15, .ref d16, .int cd]))] (0:Int32) [(ma, .inr (4, [.ref d0, .ref d1, .ref d2, .ref d3, .ref d4, .ref d5, .ref d6, .ref d7, .ref d8, .ref d9, .ref d10, .ref d11, .ref d12, .ref d13, .ref d14, .ref d15, .ref d16, .int (1:Int32)]))] := by
  refine en_i (cc := cX4_put) (maxL := 4) (ret := (some .boolean)) (own := RX4) (by decide) rfl rfl (Nat.le_of_ble_eq_true rfl) ?_
  intro p e s m below meth c A ls hx hb hr hts hown hml hlocks hA hK hE hP hD hS hl
  have hl : lv_has ls 4 [(0, .ref ma), (1, .int wi), (2, .int hh), (3, .int lo)] := hl
  refine lv_aload_n hx hb dX4_put_0 rfl (lv_at hl 0 rfl) ?_
  refine lv_iload_n hx hb dX4_put_1 rfl (lv_at hl 1 rfl) ?_
  refine cs_i (As := [.int wi]) (rest := [.ref ma]) ⟨hx, hb, hml, hown, hts⟩ (kX4_isWire l G wi) (va_cwS 1 hts gX4_put_X4_isWire rfl rfl rfl (by decide +kernel) ⟨Nat.le_of_ble_eq_true rfl, Nat.le_of_ble_eq_true rfl⟩) hE hK hP hD hS hA hl.1 [] rfl rfl rfl rfl rfl rfl (Nat.le_of_ble_eq_true rfl) dX4_put_2 ⟨Nat.zero_le _, Nat.zero_le _⟩ (fun H locs hP hD hS => ?_)
  have hP : va_P G.1 vwCl [(ma, .inr (4, [.ref d0, .ref d1, .ref d2, .ref d3, .ref d4, .ref d5, .ref d6, .ref d7, .ref d8, .ref d9, .ref d10, .ref d11, .ref d12, .ref d13, .ref d14, .ref d15, .ref d16, .int cd]))] H := hP
  have hD : va_D A [(ma, .inr (4, [.ref d0, .ref d1, .ref d2, .ref d3, .ref d4, .ref d5, .ref d6, .ref d7, .ref d8, .ref d9, .ref d10, .ref d11, .ref d12, .ref d13, .ref d14, .ref d15, .ref d16, .int cd]))] := hD
  refine bz_eq (tgt := 21) hx hb dX4_put_5 (by decide) (fun _ => ?_) (fun h9 => absurd hwi h9)
  refine lv_iconst (v := (1:Int32)) hx hb dX4_put_21 (by decide) ?_
  refine lv_goto (tgt := 26) hx hb dX4_put_22 (by decide) ?_
  refine lv_iconst (v := (0:Int32)) hx hb dX4_put_26 (by decide) ?_
  refine cv_i (As := [.int (1:Int32), .int (0:Int32)]) (rest := []) (ws' := [(ma, .inr (4, [.ref d0, .ref d1, .ref d2, .ref d3, .ref d4, .ref d5, .ref d6, .ref d7, .ref d8, .ref d9, .ref d10, .ref d11, .ref d12, .ref d13, .ref d14, .ref d15, .ref d16, .int (1:Int32)]))]) ⟨hx, hb, hml, hown, hts⟩ (kX4_refuses10 l G ma d0 d1 d2 d3 d4 d5 d6 d7 d8 d9 d10 d11 d12 d13 d14 d15 d16 cd) (cwV 2 hts gX4_put_X4_refuses rfl rfl rfl (by decide +kernel) ⟨Nat.le_of_ble_eq_true rfl, Nat.le_of_ble_eq_true rfl⟩) (va_recv hK hP (ci := 4) (q0 := 0) rfl rfl) hE hK hP hD hS hA hl.1 [0] rfl rfl rfl rfl rfl rfl (Nat.le_of_ble_eq_true rfl) dX4_put_27 ⟨Nat.zero_le _, Nat.zero_le _⟩ (fun H locs hP hD hS => ?_)
  refine bz_eq (tgt := 35) hx hb dX4_put_30 (by decide) (fun h9 => absurd h9 (by decide)) (fun _ => ?_)
  refine lv_iconst (v := (0:Int32)) hx hb dX4_put_33 (by decide) ?_
  exact rt_z hx hb hr hlocks hP hD hS dX4_put_34 rfl (z_nar (Or.inl rfl))
set_option maxHeartbeats 4000000 in
set_option maxRecDepth 100000 in
theorem kX4_putB1 (l : Launch) (G : GT) (ma : Nat) (d0 : Nat) (d1 : Nat) (d2 : Nat) (d3 : Nat) (d4 : Nat) (d5 : Nat) (d6 : Nat) (d7 : Nat) (d8 : Nat) (d9 : Nat) (d10 : Nat) (d11 : Nat) (d12 : Nat) (d13 : Nat) (d14 : Nat) (d15 : Nat) (d16 : Nat) (cd : Int32) (i : Nat) (hh : Int32) (lo : Int32) (hi4 : i < 4) (hill : ¬ fX4_isIll (nI i) (fX4_coded (nI i) hh lo) = 0) : CI l yX4_put wsX4_put { frames := 3, cells := 0, slots := 0, locals := 66 } G [.ref ma, .int (nI i), .int hh, .int lo] [(ma, .inr (4, [.ref d0, .ref d1, .ref d2, .ref d3, .ref d4, .ref d5, .ref d6, .ref d7, .ref d8, .ref d9, .ref d10, .ref d11, .ref d12, .ref d13, .ref d14, .ref d15, .ref d16, .int cd]))] (0:Int32) [(ma, .inr (4, [.ref d0, .ref d1, .ref d2, .ref d3, .ref d4, .ref d5, .ref d6, .ref d7, .ref d8, .ref d9, .ref d10, .ref d11, .ref d12, .ref d13, .ref d14, .ref d15, .ref d16, .int (1:Int32)]))] := by
  refine en_i (cc := cX4_put) (maxL := 4) (ret := (some .boolean)) (own := RX4) (by decide) rfl rfl (Nat.le_of_ble_eq_true rfl) ?_
  intro p e s m below meth c A ls hx hb hr hts hown hml hlocks hA hK hE hP hD hS hl
  have hl : lv_has ls 4 [(0, .ref ma), (1, .int (nI i)), (2, .int hh), (3, .int lo)] := hl
  refine lv_aload_n hx hb dX4_put_0 rfl (lv_at hl 0 rfl) ?_
  refine lv_iload_n hx hb dX4_put_1 rfl (lv_at hl 1 rfl) ?_
  refine cs_i (As := [.int (nI i)]) (rest := [.ref ma]) ⟨hx, hb, hml, hown, hts⟩ (kX4_isWire l G (nI i)) (va_cwS 1 hts gX4_put_X4_isWire rfl rfl rfl (by decide +kernel) ⟨Nat.le_of_ble_eq_true rfl, Nat.le_of_ble_eq_true rfl⟩) hE hK hP hD hS hA hl.1 [] rfl rfl rfl rfl rfl rfl (Nat.le_of_ble_eq_true rfl) dX4_put_2 ⟨Nat.zero_le _, Nat.zero_le _⟩ (fun H locs hP hD hS => ?_)
  have hP : va_P G.1 vwCl [(ma, .inr (4, [.ref d0, .ref d1, .ref d2, .ref d3, .ref d4, .ref d5, .ref d6, .ref d7, .ref d8, .ref d9, .ref d10, .ref d11, .ref d12, .ref d13, .ref d14, .ref d15, .ref d16, .int cd]))] H := hP
  have hD : va_D A [(ma, .inr (4, [.ref d0, .ref d1, .ref d2, .ref d3, .ref d4, .ref d5, .ref d6, .ref d7, .ref d8, .ref d9, .ref d10, .ref d11, .ref d12, .ref d13, .ref d14, .ref d15, .ref d16, .int cd]))] := hD
  refine bz_eq (tgt := 21) hx hb dX4_put_5 (by decide) (fun h9 => absurd h9 (isW4_1 hi4)) (fun _ => ?_)
  refine lv_iload_n hx hb dX4_put_8 rfl (lv_at hl 1 rfl) ?_
  refine lv_iload_n hx hb dX4_put_9 rfl (lv_at hl 1 rfl) ?_
  refine lv_iload_n hx hb dX4_put_10 rfl (lv_at hl 2 rfl) ?_
  refine lv_iload_n hx hb dX4_put_11 rfl (lv_at hl 3 rfl) ?_
  refine cs_l (As := [.int (nI i), .int hh, .int lo]) (rest := [.int (nI i), .ref ma]) ⟨hx, hb, hml, hown, hts⟩ (kX4_coded l G (nI i) hh lo) (va_cwS 3 hts gX4_put_X4_coded rfl rfl rfl (by decide +kernel) ⟨Nat.le_of_ble_eq_true rfl, Nat.le_of_ble_eq_true rfl⟩) hE hK hP hD hS hA hl.1 [] rfl rfl rfl rfl rfl rfl (Nat.le_of_ble_eq_true rfl) dX4_put_12 ⟨Nat.zero_le _, Nat.zero_le _⟩ (fun H locs hP hD hS => ?_)
  have hP : va_P G.1 vwCl [(ma, .inr (4, [.ref d0, .ref d1, .ref d2, .ref d3, .ref d4, .ref d5, .ref d6, .ref d7, .ref d8, .ref d9, .ref d10, .ref d11, .ref d12, .ref d13, .ref d14, .ref d15, .ref d16, .int cd]))] H := hP
  have hD : va_D A [(ma, .inr (4, [.ref d0, .ref d1, .ref d2, .ref d3, .ref d4, .ref d5, .ref d6, .ref d7, .ref d8, .ref d9, .ref d10, .ref d11, .ref d12, .ref d13, .ref d14, .ref d15, .ref d16, .int cd]))] := hD
  refine cs_i (As := [.int (nI i), .long (fX4_coded (nI i) hh lo)]) (rest := [.ref ma]) ⟨hx, hb, hml, hown, hts⟩ (kX4_isIll l G (nI i) (fX4_coded (nI i) hh lo)) (va_cwS 2 hts gX4_put_X4_isIll rfl rfl rfl (by decide +kernel) ⟨Nat.le_of_ble_eq_true rfl, Nat.le_of_ble_eq_true rfl⟩) hE hK hP hD hS hA hl.1 [] rfl rfl rfl rfl rfl rfl (Nat.le_of_ble_eq_true rfl) dX4_put_15 ⟨Nat.zero_le _, Nat.zero_le _⟩ (fun H locs hP hD hS => ?_)
  have hP : va_P G.1 vwCl [(ma, .inr (4, [.ref d0, .ref d1, .ref d2, .ref d3, .ref d4, .ref d5, .ref d6, .ref d7, .ref d8, .ref d9, .ref d10, .ref d11, .ref d12, .ref d13, .ref d14, .ref d15, .ref d16, .int cd]))] H := hP
  have hD : va_D A [(ma, .inr (4, [.ref d0, .ref d1, .ref d2, .ref d3, .ref d4, .ref d5, .ref d6, .ref d7, .ref d8, .ref d9, .ref d10, .ref d11, .ref d12, .ref d13, .ref d14, .ref d15, .ref d16, .int cd]))] := hD
  refine bz_eq (tgt := 25) hx hb dX4_put_18 (by decide) (fun h9 => absurd h9 hill) (fun _ => ?_)
  refine lv_iconst (v := (1:Int32)) hx hb dX4_put_21 (by decide) ?_
  refine lv_goto (tgt := 26) hx hb dX4_put_22 (by decide) ?_
  refine lv_iconst (v := (0:Int32)) hx hb dX4_put_26 (by decide) ?_
  refine cv_i (As := [.int (1:Int32), .int (0:Int32)]) (rest := []) (ws' := [(ma, .inr (4, [.ref d0, .ref d1, .ref d2, .ref d3, .ref d4, .ref d5, .ref d6, .ref d7, .ref d8, .ref d9, .ref d10, .ref d11, .ref d12, .ref d13, .ref d14, .ref d15, .ref d16, .int (1:Int32)]))]) ⟨hx, hb, hml, hown, hts⟩ (kX4_refuses10 l G ma d0 d1 d2 d3 d4 d5 d6 d7 d8 d9 d10 d11 d12 d13 d14 d15 d16 cd) (cwV 2 hts gX4_put_X4_refuses rfl rfl rfl (by decide +kernel) ⟨Nat.le_of_ble_eq_true rfl, Nat.le_of_ble_eq_true rfl⟩) (va_recv hK hP (ci := 4) (q0 := 0) rfl rfl) hE hK hP hD hS hA hl.1 [0] rfl rfl rfl rfl rfl rfl (Nat.le_of_ble_eq_true rfl) dX4_put_27 ⟨Nat.zero_le _, Nat.zero_le _⟩ (fun H locs hP hD hS => ?_)
  refine bz_eq (tgt := 35) hx hb dX4_put_30 (by decide) (fun h9 => absurd h9 (by decide)) (fun _ => ?_)
  refine lv_iconst (v := (0:Int32)) hx hb dX4_put_33 (by decide) ?_
  exact rt_z hx hb hr hlocks hP hD hS dX4_put_34 rfl (z_nar (Or.inl rfl))
set_option maxHeartbeats 4000000 in
set_option maxRecDepth 100000 in
theorem kX4_patch (l : Launch) (G : GT) (ma : Nat) (d0 : Nat) (d1 : Nat) (d2 : Nat) (d3 : Nat) (d4 : Nat) (d5 : Nat) (d6 : Nat) (d7 : Nat) (d8 : Nat) (d9 : Nat) (d10 : Nat) (d11 : Nat) (d12 : Nat) (d13 : Nat) (d14 : Nat) (d15 : Nat) (d16 : Nat) (cd : Int32) (f0 : Nat → Int64) (f1 : Nat → Int64) (f4 : Nat → Int32) (f6 : Nat → Int32) (f7 : Nat → Int32) (i : Nat) (j : Nat) (hi4 : i < 4) (hj4 : j < 4) : CL l yX4_patch wsX4_patch { frames := 3, cells := 0, slots := 0, locals := 91 } G [.ref ma, .int (nI i), .int (nI j)] [(ma, .inr (4, [.ref d0, .ref d1, .ref d2, .ref d3, .ref d4, .ref d5, .ref d6, .ref d7, .ref d8, .ref d9, .ref d10, .ref d11, .ref d12, .ref d13, .ref d14, .ref d15, .ref d16, .int cd])), (d0, .inl (G.2.1 1, 4, .inr (.inl f0))), (d1, .inl (G.2.1 1, 4, .inr (.inl f1))), (d4, .inl (G.2.1 0, 4, .inl f4)), (d6, .inl (G.2.1 2, 4, .inl f6)), (d7, .inl (G.2.1 2, 4, .inl f7))] (fX4_castTo (nI i) (nI j) (f1 i)) [(ma, .inr (4, [.ref d0, .ref d1, .ref d2, .ref d3, .ref d4, .ref d5, .ref d6, .ref d7, .ref d8, .ref d9, .ref d10, .ref d11, .ref d12, .ref d13, .ref d14, .ref d15, .ref d16, .int (0:Int32)])), (d0, .inl (G.2.1 1, 4, .inr (.inl (vp_updL f0 j (fX4_castTo (nI i) (nI j) (f1 i)))))), (d1, .inl (G.2.1 1, 4, .inr (.inl (vp_updL f1 j (fX4_castTo (nI i) (nI j) (f1 i)))))), (d4, .inl (G.2.1 0, 4, .inl (upd f4 j (0:Int32)))), (d6, .inl (G.2.1 2, 4, .inl (upd f6 j (0:Int32)))), (d7, .inl (G.2.1 2, 4, .inl (upd f7 j (0:Int32))))] := by
  refine en_l (cc := cX4_patch) (maxL := 6) (ret := (some .long)) (own := RX4) (by decide) rfl rfl (Nat.le_of_ble_eq_true rfl) ?_
  intro p e s m below meth c A ls hx hb hr hts hown hml hlocks hA hK hE hP hD hS hl
  have hl : lv_has ls 6 [(0, .ref ma), (1, .int (nI i)), (2, .int (nI j))] := hl
  refine lv_aload_n hx hb dX4_patch_0 rfl (lv_at hl 0 rfl) ?_
  refine lv_iload_n hx hb dX4_patch_1 rfl (lv_at hl 1 rfl) ?_
  refine cs_i (As := [.int (nI i)]) (rest := [.ref ma]) ⟨hx, hb, hml, hown, hts⟩ (kX4_isWire l G (nI i)) (va_cwS 1 hts gX4_patch_X4_isWire rfl rfl rfl (by decide +kernel) ⟨Nat.le_of_ble_eq_true rfl, Nat.le_of_ble_eq_true rfl⟩) hE hK hP hD hS hA hl.1 [] rfl rfl rfl rfl rfl rfl (Nat.le_of_ble_eq_true rfl) dX4_patch_2 ⟨Nat.zero_le _, Nat.zero_le _⟩ (fun H locs hP hD hS => ?_)
  have hP : va_P G.1 vwCl [(ma, .inr (4, [.ref d0, .ref d1, .ref d2, .ref d3, .ref d4, .ref d5, .ref d6, .ref d7, .ref d8, .ref d9, .ref d10, .ref d11, .ref d12, .ref d13, .ref d14, .ref d15, .ref d16, .int cd])), (d0, .inl (G.2.1 1, 4, .inr (.inl f0))), (d1, .inl (G.2.1 1, 4, .inr (.inl f1))), (d4, .inl (G.2.1 0, 4, .inl f4)), (d6, .inl (G.2.1 2, 4, .inl f6)), (d7, .inl (G.2.1 2, 4, .inl f7))] H := hP
  have hD : va_D A [(ma, .inr (4, [.ref d0, .ref d1, .ref d2, .ref d3, .ref d4, .ref d5, .ref d6, .ref d7, .ref d8, .ref d9, .ref d10, .ref d11, .ref d12, .ref d13, .ref d14, .ref d15, .ref d16, .int cd])), (d0, .inl (G.2.1 1, 4, .inr (.inl f0))), (d1, .inl (G.2.1 1, 4, .inr (.inl f1))), (d4, .inl (G.2.1 0, 4, .inl f4)), (d6, .inl (G.2.1 2, 4, .inl f6)), (d7, .inl (G.2.1 2, 4, .inl f7))] := hD
  refine bz_eq (tgt := 15) hx hb dX4_patch_5 (by decide) (fun h9 => absurd h9 (isW4_1 hi4)) (fun _ => ?_)
  refine lv_iload_n hx hb dX4_patch_8 rfl (lv_at hl 2 rfl) ?_
  refine cs_i (As := [.int (nI j)]) (rest := [.ref ma]) ⟨hx, hb, hml, hown, hts⟩ (kX4_isWire l G (nI j)) (va_cwS 1 hts gX4_patch_X4_isWire rfl rfl rfl (by decide +kernel) ⟨Nat.le_of_ble_eq_true rfl, Nat.le_of_ble_eq_true rfl⟩) hE hK hP hD hS hA hl.1 [] rfl rfl rfl rfl rfl rfl (Nat.le_of_ble_eq_true rfl) dX4_patch_9 ⟨Nat.zero_le _, Nat.zero_le _⟩ (fun H locs hP hD hS => ?_)
  have hP : va_P G.1 vwCl [(ma, .inr (4, [.ref d0, .ref d1, .ref d2, .ref d3, .ref d4, .ref d5, .ref d6, .ref d7, .ref d8, .ref d9, .ref d10, .ref d11, .ref d12, .ref d13, .ref d14, .ref d15, .ref d16, .int cd])), (d0, .inl (G.2.1 1, 4, .inr (.inl f0))), (d1, .inl (G.2.1 1, 4, .inr (.inl f1))), (d4, .inl (G.2.1 0, 4, .inl f4)), (d6, .inl (G.2.1 2, 4, .inl f6)), (d7, .inl (G.2.1 2, 4, .inl f7))] H := hP
  have hD : va_D A [(ma, .inr (4, [.ref d0, .ref d1, .ref d2, .ref d3, .ref d4, .ref d5, .ref d6, .ref d7, .ref d8, .ref d9, .ref d10, .ref d11, .ref d12, .ref d13, .ref d14, .ref d15, .ref d16, .int cd])), (d0, .inl (G.2.1 1, 4, .inr (.inl f0))), (d1, .inl (G.2.1 1, 4, .inr (.inl f1))), (d4, .inl (G.2.1 0, 4, .inl f4)), (d6, .inl (G.2.1 2, 4, .inl f6)), (d7, .inl (G.2.1 2, 4, .inl f7))] := hD
  refine bz_ne (tgt := 19) hx hb dX4_patch_12 (by decide) (fun h9 => absurd h9 (isW4_1 hj4)) (fun _ => ?_)
  refine lv_iconst (v := (0:Int32)) hx hb dX4_patch_19 (by decide) ?_
  refine lv_iconst (v := (0:Int32)) hx hb dX4_patch_20 (by decide) ?_
  refine cv_i (As := [.int (0:Int32), .int (0:Int32)]) (rest := []) (ws' := [(ma, .inr (4, [.ref d0, .ref d1, .ref d2, .ref d3, .ref d4, .ref d5, .ref d6, .ref d7, .ref d8, .ref d9, .ref d10, .ref d11, .ref d12, .ref d13, .ref d14, .ref d15, .ref d16, .int (0:Int32)])), (d0, .inl (G.2.1 1, 4, .inr (.inl f0))), (d1, .inl (G.2.1 1, 4, .inr (.inl f1))), (d4, .inl (G.2.1 0, 4, .inl f4)), (d6, .inl (G.2.1 2, 4, .inl f6)), (d7, .inl (G.2.1 2, 4, .inl f7))]) ⟨hx, hb, hml, hown, hts⟩ (kX4_refuses00 l G ma d0 d1 d2 d3 d4 d5 d6 d7 d8 d9 d10 d11 d12 d13 d14 d15 d16 cd) (cwV 2 hts gX4_patch_X4_refuses rfl rfl rfl (by decide +kernel) ⟨Nat.le_of_ble_eq_true rfl, Nat.le_of_ble_eq_true rfl⟩) (va_recv hK hP (ci := 4) (q0 := 0) rfl rfl) hE hK hP hD hS hA hl.1 [0] rfl rfl rfl rfl rfl rfl (Nat.le_of_ble_eq_true rfl) dX4_patch_21 ⟨Nat.zero_le _, Nat.zero_le _⟩ (fun H locs hP hD hS => ?_)
  refine bz_eq (tgt := 29) hx hb dX4_patch_24 (by decide) (fun _ => ?_) (fun h9 => absurd rfl h9)
  refine lv_iload_n hx hb dX4_patch_29 rfl (lv_at hl 1 rfl) ?_
  refine lv_iload_n hx hb dX4_patch_30 rfl (lv_at hl 2 rfl) ?_
  refine lv_aload_n hx hb dX4_patch_31 rfl (lv_at hl 0 rfl) ?_
  refine va_get (D := G.1) (ci := 4) (v := .ref d1) (C := RX4) (T := TX4) (N := 18) hx hb hts (by decide +kernel) hown hK hP 0 rfl rfl 1 (by decide) (hts (.fieldLink RX4 13 "PedalBoardModel" "wet" "[J") (by decide +kernel)) (fun _ h9 => h9) rfl dX4_patch_32 ?_
  refine lv_iload_n hx hb dX4_patch_35 rfl (lv_at hl 1 rfl) ?_
  refine ar_lld hx hb hK hP 2 rfl i rfl (by omega) (by decide) dX4_patch_36 ?_
  refine cs_l (As := [.int (nI i), .int (nI j), .long (f1 i)]) (rest := []) ⟨hx, hb, hml, hown, hts⟩ (kX4_castTo l G (nI i) (nI j) (f1 i)) (va_cwS 3 hts gX4_patch_X4_castTo rfl rfl rfl (by decide +kernel) ⟨Nat.le_of_ble_eq_true rfl, Nat.le_of_ble_eq_true rfl⟩) hE hK hP hD hS hA hl.1 [] rfl rfl rfl rfl rfl rfl (Nat.le_of_ble_eq_true rfl) dX4_patch_37 ⟨Nat.zero_le _, Nat.zero_le _⟩ (fun H locs hP hD hS => ?_)
  have hP : va_P G.1 vwCl [(ma, .inr (4, [.ref d0, .ref d1, .ref d2, .ref d3, .ref d4, .ref d5, .ref d6, .ref d7, .ref d8, .ref d9, .ref d10, .ref d11, .ref d12, .ref d13, .ref d14, .ref d15, .ref d16, .int (0:Int32)])), (d0, .inl (G.2.1 1, 4, .inr (.inl f0))), (d1, .inl (G.2.1 1, 4, .inr (.inl f1))), (d4, .inl (G.2.1 0, 4, .inl f4)), (d6, .inl (G.2.1 2, 4, .inl f6)), (d7, .inl (G.2.1 2, 4, .inl f7))] H := hP
  have hD : va_D A [(ma, .inr (4, [.ref d0, .ref d1, .ref d2, .ref d3, .ref d4, .ref d5, .ref d6, .ref d7, .ref d8, .ref d9, .ref d10, .ref d11, .ref d12, .ref d13, .ref d14, .ref d15, .ref d16, .int (0:Int32)])), (d0, .inl (G.2.1 1, 4, .inr (.inl f0))), (d1, .inl (G.2.1 1, 4, .inr (.inl f1))), (d4, .inl (G.2.1 0, 4, .inl f4)), (d6, .inl (G.2.1 2, 4, .inl f6)), (d7, .inl (G.2.1 2, 4, .inl f7))] := hD
  refine lv_lstore_n (lv' := [(3, .long (fX4_castTo (nI i) (nI j) (f1 i))), (0, .ref ma), (1, .int (nI i)), (2, .int (nI j))]) hx hb dX4_patch_40 rfl hl (by decide) rfl (fun ls hl => ?_)
  refine lv_aload_n hx hb dX4_patch_41 rfl (lv_at hl 1 rfl) ?_
  refine lv_iload_n hx hb dX4_patch_42 rfl (lv_at hl 3 rfl) ?_
  refine lv_lload_n hx hb dX4_patch_43 rfl (lv_at hl 0 rfl) ?_
  refine cv_i (As := [.int (nI j), .long (fX4_castTo (nI i) (nI j) (f1 i))]) (rest := []) (ws' := [(ma, .inr (4, [.ref d0, .ref d1, .ref d2, .ref d3, .ref d4, .ref d5, .ref d6, .ref d7, .ref d8, .ref d9, .ref d10, .ref d11, .ref d12, .ref d13, .ref d14, .ref d15, .ref d16, .int (0:Int32)])), (d0, .inl (G.2.1 1, 4, .inr (.inl (vp_updL f0 j (fX4_castTo (nI i) (nI j) (f1 i)))))), (d1, .inl (G.2.1 1, 4, .inr (.inl (vp_updL f1 j (fX4_castTo (nI i) (nI j) (f1 i)))))), (d4, .inl (G.2.1 0, 4, .inl (upd f4 j (0:Int32)))), (d6, .inl (G.2.1 2, 4, .inl (upd f6 j (0:Int32)))), (d7, .inl (G.2.1 2, 4, .inl (upd f7 j (0:Int32))))]) ⟨hx, hb, hml, hown, hts⟩ (kX4_come l G ma d0 d1 d2 d3 d4 d5 d6 d7 d8 d9 d10 d11 d12 d13 d14 d15 d16 (0:Int32) f0 f1 f4 f6 f7 j (fX4_castTo (nI i) (nI j) (f1 i)) (by first | assumption | omega)) (cwV 2 hts gX4_patch_X4_come rfl rfl rfl (by decide +kernel) ⟨Nat.le_of_ble_eq_true rfl, Nat.le_of_ble_eq_true rfl⟩) (va_recv hK hP (ci := 4) (q0 := 0) rfl rfl) hE hK hP hD hS hA hl.1 [0, 1, 2, 3, 4, 5] rfl rfl rfl rfl rfl rfl (Nat.le_of_ble_eq_true rfl) dX4_patch_44 ⟨Nat.zero_le _, Nat.zero_le _⟩ (fun H locs hP hD hS => ?_)
  refine lv_istore (lv' := [(5, .int (fX4_come f0 j (fX4_castTo (nI i) (nI j) (f1 i)))), (3, .long (fX4_castTo (nI i) (nI j) (f1 i))), (0, .ref ma), (1, .int (nI i)), (2, .int (nI j))]) hx hb dX4_patch_47 hl (by decide) rfl (fun ls hl => ?_)
  refine lv_lload_n hx hb dX4_patch_49 rfl (lv_at hl 1 rfl) ?_
  exact rt_l hx hb hr hlocks hP hD hS dX4_patch_50 rfl
set_option maxHeartbeats 4000000 in
set_option maxRecDepth 100000 in
theorem kX4_patchB0 (l : Launch) (G : GT) (ma : Nat) (d0 : Nat) (d1 : Nat) (d2 : Nat) (d3 : Nat) (d4 : Nat) (d5 : Nat) (d6 : Nat) (d7 : Nat) (d8 : Nat) (d9 : Nat) (d10 : Nat) (d11 : Nat) (d12 : Nat) (d13 : Nat) (d14 : Nat) (d15 : Nat) (d16 : Nat) (cd : Int32) (wi : Int32) (a1 : Int32) (hwi : fX4_isWire wi = 0) : CL l yX4_patch wsX4_patch { frames := 1, cells := 0, slots := 0, locals := 22 } G [.ref ma, .int wi, .int a1] [(ma, .inr (4, [.ref d0, .ref d1, .ref d2, .ref d3, .ref d4, .ref d5, .ref d6, .ref d7, .ref d8, .ref d9, .ref d10, .ref d11, .ref d12, .ref d13, .ref d14, .ref d15, .ref d16, .int cd]))] (0:Int64) [(ma, .inr (4, [.ref d0, .ref d1, .ref d2, .ref d3, .ref d4, .ref d5, .ref d6, .ref d7, .ref d8, .ref d9, .ref d10, .ref d11, .ref d12, .ref d13, .ref d14, .ref d15, .ref d16, .int (1:Int32)]))] := by
  refine en_l (cc := cX4_patch) (maxL := 6) (ret := (some .long)) (own := RX4) (by decide) rfl rfl (Nat.le_of_ble_eq_true rfl) ?_
  intro p e s m below meth c A ls hx hb hr hts hown hml hlocks hA hK hE hP hD hS hl
  have hl : lv_has ls 6 [(0, .ref ma), (1, .int wi), (2, .int a1)] := hl
  refine lv_aload_n hx hb dX4_patch_0 rfl (lv_at hl 0 rfl) ?_
  refine lv_iload_n hx hb dX4_patch_1 rfl (lv_at hl 1 rfl) ?_
  refine cs_i (As := [.int wi]) (rest := [.ref ma]) ⟨hx, hb, hml, hown, hts⟩ (kX4_isWire l G wi) (va_cwS 1 hts gX4_patch_X4_isWire rfl rfl rfl (by decide +kernel) ⟨Nat.le_of_ble_eq_true rfl, Nat.le_of_ble_eq_true rfl⟩) hE hK hP hD hS hA hl.1 [] rfl rfl rfl rfl rfl rfl (Nat.le_of_ble_eq_true rfl) dX4_patch_2 ⟨Nat.zero_le _, Nat.zero_le _⟩ (fun H locs hP hD hS => ?_)
  have hP : va_P G.1 vwCl [(ma, .inr (4, [.ref d0, .ref d1, .ref d2, .ref d3, .ref d4, .ref d5, .ref d6, .ref d7, .ref d8, .ref d9, .ref d10, .ref d11, .ref d12, .ref d13, .ref d14, .ref d15, .ref d16, .int cd]))] H := hP
  have hD : va_D A [(ma, .inr (4, [.ref d0, .ref d1, .ref d2, .ref d3, .ref d4, .ref d5, .ref d6, .ref d7, .ref d8, .ref d9, .ref d10, .ref d11, .ref d12, .ref d13, .ref d14, .ref d15, .ref d16, .int cd]))] := hD
  refine bz_eq (tgt := 15) hx hb dX4_patch_5 (by decide) (fun _ => ?_) (fun h9 => absurd hwi h9)
  refine lv_iconst (v := (1:Int32)) hx hb dX4_patch_15 (by decide) ?_
  refine lv_goto (tgt := 20) hx hb dX4_patch_16 (by decide) ?_
  refine lv_iconst (v := (0:Int32)) hx hb dX4_patch_20 (by decide) ?_
  refine cv_i (As := [.int (1:Int32), .int (0:Int32)]) (rest := []) (ws' := [(ma, .inr (4, [.ref d0, .ref d1, .ref d2, .ref d3, .ref d4, .ref d5, .ref d6, .ref d7, .ref d8, .ref d9, .ref d10, .ref d11, .ref d12, .ref d13, .ref d14, .ref d15, .ref d16, .int (1:Int32)]))]) ⟨hx, hb, hml, hown, hts⟩ (kX4_refuses10 l G ma d0 d1 d2 d3 d4 d5 d6 d7 d8 d9 d10 d11 d12 d13 d14 d15 d16 cd) (cwV 2 hts gX4_patch_X4_refuses rfl rfl rfl (by decide +kernel) ⟨Nat.le_of_ble_eq_true rfl, Nat.le_of_ble_eq_true rfl⟩) (va_recv hK hP (ci := 4) (q0 := 0) rfl rfl) hE hK hP hD hS hA hl.1 [0] rfl rfl rfl rfl rfl rfl (Nat.le_of_ble_eq_true rfl) dX4_patch_21 ⟨Nat.zero_le _, Nat.zero_le _⟩ (fun H locs hP hD hS => ?_)
  refine bz_eq (tgt := 29) hx hb dX4_patch_24 (by decide) (fun h9 => absurd h9 (by decide)) (fun _ => ?_)
  refine lv_lconst (v := (0:Int64)) hx hb dX4_patch_27 (by decide) ?_
  exact rt_l hx hb hr hlocks hP hD hS dX4_patch_28 rfl
set_option maxHeartbeats 4000000 in
set_option maxRecDepth 100000 in
theorem kX4_patchB1 (l : Launch) (G : GT) (ma : Nat) (d0 : Nat) (d1 : Nat) (d2 : Nat) (d3 : Nat) (d4 : Nat) (d5 : Nat) (d6 : Nat) (d7 : Nat) (d8 : Nat) (d9 : Nat) (d10 : Nat) (d11 : Nat) (d12 : Nat) (d13 : Nat) (d14 : Nat) (d15 : Nat) (d16 : Nat) (cd : Int32) (i : Nat) (wi : Int32) (hi4 : i < 4) (hwi : fX4_isWire wi = 0) : CL l yX4_patch wsX4_patch { frames := 1, cells := 0, slots := 0, locals := 22 } G [.ref ma, .int (nI i), .int wi] [(ma, .inr (4, [.ref d0, .ref d1, .ref d2, .ref d3, .ref d4, .ref d5, .ref d6, .ref d7, .ref d8, .ref d9, .ref d10, .ref d11, .ref d12, .ref d13, .ref d14, .ref d15, .ref d16, .int cd]))] (0:Int64) [(ma, .inr (4, [.ref d0, .ref d1, .ref d2, .ref d3, .ref d4, .ref d5, .ref d6, .ref d7, .ref d8, .ref d9, .ref d10, .ref d11, .ref d12, .ref d13, .ref d14, .ref d15, .ref d16, .int (1:Int32)]))] := by
  refine en_l (cc := cX4_patch) (maxL := 6) (ret := (some .long)) (own := RX4) (by decide) rfl rfl (Nat.le_of_ble_eq_true rfl) ?_
  intro p e s m below meth c A ls hx hb hr hts hown hml hlocks hA hK hE hP hD hS hl
  have hl : lv_has ls 6 [(0, .ref ma), (1, .int (nI i)), (2, .int wi)] := hl
  refine lv_aload_n hx hb dX4_patch_0 rfl (lv_at hl 0 rfl) ?_
  refine lv_iload_n hx hb dX4_patch_1 rfl (lv_at hl 1 rfl) ?_
  refine cs_i (As := [.int (nI i)]) (rest := [.ref ma]) ⟨hx, hb, hml, hown, hts⟩ (kX4_isWire l G (nI i)) (va_cwS 1 hts gX4_patch_X4_isWire rfl rfl rfl (by decide +kernel) ⟨Nat.le_of_ble_eq_true rfl, Nat.le_of_ble_eq_true rfl⟩) hE hK hP hD hS hA hl.1 [] rfl rfl rfl rfl rfl rfl (Nat.le_of_ble_eq_true rfl) dX4_patch_2 ⟨Nat.zero_le _, Nat.zero_le _⟩ (fun H locs hP hD hS => ?_)
  have hP : va_P G.1 vwCl [(ma, .inr (4, [.ref d0, .ref d1, .ref d2, .ref d3, .ref d4, .ref d5, .ref d6, .ref d7, .ref d8, .ref d9, .ref d10, .ref d11, .ref d12, .ref d13, .ref d14, .ref d15, .ref d16, .int cd]))] H := hP
  have hD : va_D A [(ma, .inr (4, [.ref d0, .ref d1, .ref d2, .ref d3, .ref d4, .ref d5, .ref d6, .ref d7, .ref d8, .ref d9, .ref d10, .ref d11, .ref d12, .ref d13, .ref d14, .ref d15, .ref d16, .int cd]))] := hD
  refine bz_eq (tgt := 15) hx hb dX4_patch_5 (by decide) (fun h9 => absurd h9 (isW4_1 hi4)) (fun _ => ?_)
  refine lv_iload_n hx hb dX4_patch_8 rfl (lv_at hl 2 rfl) ?_
  refine cs_i (As := [.int wi]) (rest := [.ref ma]) ⟨hx, hb, hml, hown, hts⟩ (kX4_isWire l G wi) (va_cwS 1 hts gX4_patch_X4_isWire rfl rfl rfl (by decide +kernel) ⟨Nat.le_of_ble_eq_true rfl, Nat.le_of_ble_eq_true rfl⟩) hE hK hP hD hS hA hl.1 [] rfl rfl rfl rfl rfl rfl (Nat.le_of_ble_eq_true rfl) dX4_patch_9 ⟨Nat.zero_le _, Nat.zero_le _⟩ (fun H locs hP hD hS => ?_)
  have hP : va_P G.1 vwCl [(ma, .inr (4, [.ref d0, .ref d1, .ref d2, .ref d3, .ref d4, .ref d5, .ref d6, .ref d7, .ref d8, .ref d9, .ref d10, .ref d11, .ref d12, .ref d13, .ref d14, .ref d15, .ref d16, .int cd]))] H := hP
  have hD : va_D A [(ma, .inr (4, [.ref d0, .ref d1, .ref d2, .ref d3, .ref d4, .ref d5, .ref d6, .ref d7, .ref d8, .ref d9, .ref d10, .ref d11, .ref d12, .ref d13, .ref d14, .ref d15, .ref d16, .int cd]))] := hD
  refine bz_ne (tgt := 19) hx hb dX4_patch_12 (by decide) (fun _ => ?_) (fun h9 => absurd hwi h9)
  refine lv_iconst (v := (1:Int32)) hx hb dX4_patch_15 (by decide) ?_
  refine lv_goto (tgt := 20) hx hb dX4_patch_16 (by decide) ?_
  refine lv_iconst (v := (0:Int32)) hx hb dX4_patch_20 (by decide) ?_
  refine cv_i (As := [.int (1:Int32), .int (0:Int32)]) (rest := []) (ws' := [(ma, .inr (4, [.ref d0, .ref d1, .ref d2, .ref d3, .ref d4, .ref d5, .ref d6, .ref d7, .ref d8, .ref d9, .ref d10, .ref d11, .ref d12, .ref d13, .ref d14, .ref d15, .ref d16, .int (1:Int32)]))]) ⟨hx, hb, hml, hown, hts⟩ (kX4_refuses10 l G ma d0 d1 d2 d3 d4 d5 d6 d7 d8 d9 d10 d11 d12 d13 d14 d15 d16 cd) (cwV 2 hts gX4_patch_X4_refuses rfl rfl rfl (by decide +kernel) ⟨Nat.le_of_ble_eq_true rfl, Nat.le_of_ble_eq_true rfl⟩) (va_recv hK hP (ci := 4) (q0 := 0) rfl rfl) hE hK hP hD hS hA hl.1 [0] rfl rfl rfl rfl rfl rfl (Nat.le_of_ble_eq_true rfl) dX4_patch_21 ⟨Nat.zero_le _, Nat.zero_le _⟩ (fun H locs hP hD hS => ?_)
  refine bz_eq (tgt := 29) hx hb dX4_patch_24 (by decide) (fun h9 => absurd h9 (by decide)) (fun _ => ?_)
  refine lv_lconst (v := (0:Int64)) hx hb dX4_patch_27 (by decide) ?_
  exact rt_l hx hb hr hlocks hP hD hS dX4_patch_28 rfl
set_option maxHeartbeats 4000000 in
set_option maxRecDepth 100000 in
theorem kX4_pedal (l : Launch) (G : GT) (ma : Nat) (d0 : Nat) (d1 : Nat) (d2 : Nat) (d3 : Nat) (d4 : Nat) (d5 : Nat) (d6 : Nat) (d7 : Nat) (d8 : Nat) (d9 : Nat) (d10 : Nat) (d11 : Nat) (d12 : Nat) (d13 : Nat) (d14 : Nat) (d15 : Nat) (d16 : Nat) (cd : Int32) (f5 : Nat → Int32) (f6 : Nat → Int32) (f8 : Nat → Int32) (f9 : Nat → Int64) (f11 : Nat → Int32) (i : Nat) (n : Nat) (kd : Int32) (hh : Int32) (lo : Int32) (hi4 : i < 4) (hm : f5 i = nI n) (hn : n < 12) (hkd : ¬ fX4_isKind (nI i) kd = 0) (hill : fX4_isIll (nI i) (fX4_coded (nI i) hh lo) = 0) : CI l yX4_pedal wsX4_pedal { frames := 3, cells := 0, slots := 0, locals := 66 } G [.ref ma, .int (nI i), .int kd, .int hh, .int lo] [(ma, .inr (4, [.ref d0, .ref d1, .ref d2, .ref d3, .ref d4, .ref d5, .ref d6, .ref d7, .ref d8, .ref d9, .ref d10, .ref d11, .ref d12, .ref d13, .ref d14, .ref d15, .ref d16, .int cd])), (d5, .inl (G.2.1 0, 4, .inl f5)), (d6, .inl (G.2.1 2, 4, .inl f6)), (d8, .inl (G.2.1 0, 48, .inl f8)), (d9, .inl (G.2.1 1, 48, .inr (.inl f9))), (d11, .inl (G.2.1 2, 48, .inl f11))] (nI n) [(ma, .inr (4, [.ref d0, .ref d1, .ref d2, .ref d3, .ref d4, .ref d5, .ref d6, .ref d7, .ref d8, .ref d9, .ref d10, .ref d11, .ref d12, .ref d13, .ref d14, .ref d15, .ref d16, .int (0:Int32)])), (d5, .inl (G.2.1 0, 4, .inl (upd f5 i (nI (n + 1))))), (d6, .inl (G.2.1 2, 4, .inl (upd f6 i (0:Int32)))), (d8, .inl (G.2.1 0, 48, .inl (upd f8 ((12 * i) + n) kd))), (d9, .inl (G.2.1 1, 48, .inr (.inl (vp_updL f9 ((12 * i) + n) (fX4_coded (nI i) hh lo))))), (d11, .inl (G.2.1 2, 48, .inl (upd f11 ((12 * i) + n) (1:Int32))))] := by
  refine en_i (cc := cX4_pedal) (maxL := 7) (ret := (some .int)) (own := RX4) (by decide) rfl rfl (Nat.le_of_ble_eq_true rfl) ?_
  intro p e s m below meth c A ls hx hb hr hts hown hml hlocks hA hK hE hP hD hS hl
  have hl : lv_has ls 7 [(0, .ref ma), (1, .int (nI i)), (2, .int kd), (3, .int hh), (4, .int lo)] := hl
  refine lv_iload_n hx hb dX4_pedal_0 rfl (lv_at hl 1 rfl) ?_
  refine cs_i (As := [.int (nI i)]) (rest := []) ⟨hx, hb, hml, hown, hts⟩ (kX4_isWire l G (nI i)) (va_cwS 1 hts gX4_pedal_X4_isWire rfl rfl rfl (by decide +kernel) ⟨Nat.le_of_ble_eq_true rfl, Nat.le_of_ble_eq_true rfl⟩) hE hK hP hD hS hA hl.1 [] rfl rfl rfl rfl rfl rfl (Nat.le_of_ble_eq_true rfl) dX4_pedal_1 ⟨Nat.zero_le _, Nat.zero_le _⟩ (fun H locs hP hD hS => ?_)
  have hP : va_P G.1 vwCl [(ma, .inr (4, [.ref d0, .ref d1, .ref d2, .ref d3, .ref d4, .ref d5, .ref d6, .ref d7, .ref d8, .ref d9, .ref d10, .ref d11, .ref d12, .ref d13, .ref d14, .ref d15, .ref d16, .int cd])), (d5, .inl (G.2.1 0, 4, .inl f5)), (d6, .inl (G.2.1 2, 4, .inl f6)), (d8, .inl (G.2.1 0, 48, .inl f8)), (d9, .inl (G.2.1 1, 48, .inr (.inl f9))), (d11, .inl (G.2.1 2, 48, .inl f11))] H := hP
  have hD : va_D A [(ma, .inr (4, [.ref d0, .ref d1, .ref d2, .ref d3, .ref d4, .ref d5, .ref d6, .ref d7, .ref d8, .ref d9, .ref d10, .ref d11, .ref d12, .ref d13, .ref d14, .ref d15, .ref d16, .int cd])), (d5, .inl (G.2.1 0, 4, .inl f5)), (d6, .inl (G.2.1 2, 4, .inl f6)), (d8, .inl (G.2.1 0, 48, .inl f8)), (d9, .inl (G.2.1 1, 48, .inr (.inl f9))), (d11, .inl (G.2.1 2, 48, .inl f11))] := hD
  refine bz_eq (tgt := 29) hx hb dX4_pedal_4 (by decide) (fun h9 => absurd h9 (isW4_1 hi4)) (fun _ => ?_)
  refine lv_iload_n hx hb dX4_pedal_7 rfl (lv_at hl 1 rfl) ?_
  refine lv_iload_n hx hb dX4_pedal_8 rfl (lv_at hl 2 rfl) ?_
  refine cs_i (As := [.int (nI i), .int kd]) (rest := []) ⟨hx, hb, hml, hown, hts⟩ (kX4_isKind l G (nI i) kd) (va_cwS 2 hts gX4_pedal_X4_isKind rfl rfl rfl (by decide +kernel) ⟨Nat.le_of_ble_eq_true rfl, Nat.le_of_ble_eq_true rfl⟩) hE hK hP hD hS hA hl.1 [] rfl rfl rfl rfl rfl rfl (Nat.le_of_ble_eq_true rfl) dX4_pedal_9 ⟨Nat.zero_le _, Nat.zero_le _⟩ (fun H locs hP hD hS => ?_)
  have hP : va_P G.1 vwCl [(ma, .inr (4, [.ref d0, .ref d1, .ref d2, .ref d3, .ref d4, .ref d5, .ref d6, .ref d7, .ref d8, .ref d9, .ref d10, .ref d11, .ref d12, .ref d13, .ref d14, .ref d15, .ref d16, .int cd])), (d5, .inl (G.2.1 0, 4, .inl f5)), (d6, .inl (G.2.1 2, 4, .inl f6)), (d8, .inl (G.2.1 0, 48, .inl f8)), (d9, .inl (G.2.1 1, 48, .inr (.inl f9))), (d11, .inl (G.2.1 2, 48, .inl f11))] H := hP
  have hD : va_D A [(ma, .inr (4, [.ref d0, .ref d1, .ref d2, .ref d3, .ref d4, .ref d5, .ref d6, .ref d7, .ref d8, .ref d9, .ref d10, .ref d11, .ref d12, .ref d13, .ref d14, .ref d15, .ref d16, .int cd])), (d5, .inl (G.2.1 0, 4, .inl f5)), (d6, .inl (G.2.1 2, 4, .inl f6)), (d8, .inl (G.2.1 0, 48, .inl f8)), (d9, .inl (G.2.1 1, 48, .inr (.inl f9))), (d11, .inl (G.2.1 2, 48, .inl f11))] := hD
  refine bz_eq (tgt := 29) hx hb dX4_pedal_12 (by decide) (fun h9 => absurd h9 hkd) (fun _ => ?_)
  refine lv_iload_n hx hb dX4_pedal_15 rfl (lv_at hl 1 rfl) ?_
  refine lv_iload_n hx hb dX4_pedal_16 rfl (lv_at hl 1 rfl) ?_
  refine lv_iload_n hx hb dX4_pedal_17 rfl (lv_at hl 3 rfl) ?_
  refine lv_iload hx hb dX4_pedal_18 (lv_at hl 4 rfl) ?_
  refine cs_l (As := [.int (nI i), .int hh, .int lo]) (rest := [.int (nI i)]) ⟨hx, hb, hml, hown, hts⟩ (kX4_coded l G (nI i) hh lo) (va_cwS 3 hts gX4_pedal_X4_coded rfl rfl rfl (by decide +kernel) ⟨Nat.le_of_ble_eq_true rfl, Nat.le_of_ble_eq_true rfl⟩) hE hK hP hD hS hA hl.1 [] rfl rfl rfl rfl rfl rfl (Nat.le_of_ble_eq_true rfl) dX4_pedal_20 ⟨Nat.zero_le _, Nat.zero_le _⟩ (fun H locs hP hD hS => ?_)
  have hP : va_P G.1 vwCl [(ma, .inr (4, [.ref d0, .ref d1, .ref d2, .ref d3, .ref d4, .ref d5, .ref d6, .ref d7, .ref d8, .ref d9, .ref d10, .ref d11, .ref d12, .ref d13, .ref d14, .ref d15, .ref d16, .int cd])), (d5, .inl (G.2.1 0, 4, .inl f5)), (d6, .inl (G.2.1 2, 4, .inl f6)), (d8, .inl (G.2.1 0, 48, .inl f8)), (d9, .inl (G.2.1 1, 48, .inr (.inl f9))), (d11, .inl (G.2.1 2, 48, .inl f11))] H := hP
  have hD : va_D A [(ma, .inr (4, [.ref d0, .ref d1, .ref d2, .ref d3, .ref d4, .ref d5, .ref d6, .ref d7, .ref d8, .ref d9, .ref d10, .ref d11, .ref d12, .ref d13, .ref d14, .ref d15, .ref d16, .int cd])), (d5, .inl (G.2.1 0, 4, .inl f5)), (d6, .inl (G.2.1 2, 4, .inl f6)), (d8, .inl (G.2.1 0, 48, .inl f8)), (d9, .inl (G.2.1 1, 48, .inr (.inl f9))), (d11, .inl (G.2.1 2, 48, .inl f11))] := hD
  refine cs_i (As := [.int (nI i), .long (fX4_coded (nI i) hh lo)]) (rest := []) ⟨hx, hb, hml, hown, hts⟩ (kX4_isIll l G (nI i) (fX4_coded (nI i) hh lo)) (va_cwS 2 hts gX4_pedal_X4_isIll rfl rfl rfl (by decide +kernel) ⟨Nat.le_of_ble_eq_true rfl, Nat.le_of_ble_eq_true rfl⟩) hE hK hP hD hS hA hl.1 [] rfl rfl rfl rfl rfl rfl (Nat.le_of_ble_eq_true rfl) dX4_pedal_23 ⟨Nat.zero_le _, Nat.zero_le _⟩ (fun H locs hP hD hS => ?_)
  have hP : va_P G.1 vwCl [(ma, .inr (4, [.ref d0, .ref d1, .ref d2, .ref d3, .ref d4, .ref d5, .ref d6, .ref d7, .ref d8, .ref d9, .ref d10, .ref d11, .ref d12, .ref d13, .ref d14, .ref d15, .ref d16, .int cd])), (d5, .inl (G.2.1 0, 4, .inl f5)), (d6, .inl (G.2.1 2, 4, .inl f6)), (d8, .inl (G.2.1 0, 48, .inl f8)), (d9, .inl (G.2.1 1, 48, .inr (.inl f9))), (d11, .inl (G.2.1 2, 48, .inl f11))] H := hP
  have hD : va_D A [(ma, .inr (4, [.ref d0, .ref d1, .ref d2, .ref d3, .ref d4, .ref d5, .ref d6, .ref d7, .ref d8, .ref d9, .ref d10, .ref d11, .ref d12, .ref d13, .ref d14, .ref d15, .ref d16, .int cd])), (d5, .inl (G.2.1 0, 4, .inl f5)), (d6, .inl (G.2.1 2, 4, .inl f6)), (d8, .inl (G.2.1 0, 48, .inl f8)), (d9, .inl (G.2.1 1, 48, .inr (.inl f9))), (d11, .inl (G.2.1 2, 48, .inl f11))] := hD
  refine bz_eq (tgt := 33) hx hb dX4_pedal_26 (by decide) (fun _ => ?_) (fun h9 => absurd hill h9)
  refine lv_iconst (v := (0:Int32)) hx hb dX4_pedal_33 (by decide) ?_
  refine lv_istore (lv' := [(5, .int (0:Int32)), (0, .ref ma), (1, .int (nI i)), (2, .int kd), (3, .int hh), (4, .int lo)]) hx hb dX4_pedal_34 hl (by decide) rfl (fun ls hl => ?_)
  refine lv_aload_n hx hb dX4_pedal_36 rfl (lv_at hl 1 rfl) ?_
  refine lv_iload hx hb dX4_pedal_37 (lv_at hl 0 rfl) ?_
  refine lv_iload hx hb dX4_pedal_39 (lv_at hl 0 rfl) ?_
  refine bz_ne (tgt := 68) hx hb dX4_pedal_41 (by decide) (fun _ => ?_) (fun h9 => absurd rfl h9)
  refine lv_aload_n hx hb dX4_pedal_44 rfl (lv_at hl 1 rfl) ?_
  refine va_get (D := G.1) (ci := 4) (v := .ref d5) (C := RX4) (T := TX4) (N := 18) hx hb hts (by decide +kernel) hown hK hP 0 rfl rfl 5 (by decide) (hts (.fieldLink RX4 26 "PedalBoardModel" "many" "[I") (by decide +kernel)) (fun _ h9 => h9) rfl dX4_pedal_45 ?_
  refine lv_iload hx hb dX4_pedal_48 (lv_at hl 0 rfl) ?_
  refine bz_eq (tgt := 57) hx hb dX4_pedal_50 (by decide) (fun _ => ?_) (fun h9 => absurd rfl h9)
  refine lv_iload_n hx hb dX4_pedal_57 rfl (lv_at hl 2 rfl) ?_
  refine ar_ild hx hb hK hP 1 rfl i rfl (by omega) (by decide) dX4_pedal_58 ?_
  rw [hm]
  refine lv_bipush (v := (12:Int32)) hx hb dX4_pedal_59 (by decide) ?_
  refine bi_ne (tgt := 68) hx hb dX4_pedal_61 (by decide) (fun h9 => absurd h9 (ne12 hn)) (fun _ => ?_)
  refine lv_iconst (v := (0:Int32)) hx hb dX4_pedal_68 (by decide) ?_
  refine cv_i (As := [.int (0:Int32), .int (0:Int32)]) (rest := []) (ws' := [(ma, .inr (4, [.ref d0, .ref d1, .ref d2, .ref d3, .ref d4, .ref d5, .ref d6, .ref d7, .ref d8, .ref d9, .ref d10, .ref d11, .ref d12, .ref d13, .ref d14, .ref d15, .ref d16, .int (0:Int32)])), (d5, .inl (G.2.1 0, 4, .inl f5)), (d6, .inl (G.2.1 2, 4, .inl f6)), (d8, .inl (G.2.1 0, 48, .inl f8)), (d9, .inl (G.2.1 1, 48, .inr (.inl f9))), (d11, .inl (G.2.1 2, 48, .inl f11))]) ⟨hx, hb, hml, hown, hts⟩ (kX4_refuses00 l G ma d0 d1 d2 d3 d4 d5 d6 d7 d8 d9 d10 d11 d12 d13 d14 d15 d16 cd) (cwV 2 hts gX4_pedal_X4_refuses rfl rfl rfl (by decide +kernel) ⟨Nat.le_of_ble_eq_true rfl, Nat.le_of_ble_eq_true rfl⟩) (va_recv hK hP (ci := 4) (q0 := 0) rfl rfl) hE hK hP hD hS hA hl.1 [0] rfl rfl rfl rfl rfl rfl (Nat.le_of_ble_eq_true rfl) dX4_pedal_69 ⟨Nat.zero_le _, Nat.zero_le _⟩ (fun H locs hP hD hS => ?_)
  refine bz_eq (tgt := 77) hx hb dX4_pedal_72 (by decide) (fun _ => ?_) (fun h9 => absurd rfl h9)
  refine lv_bipush (v := (12:Int32)) hx hb dX4_pedal_77 (by decide) ?_
  refine lv_iload_n hx hb dX4_pedal_79 rfl (lv_at hl 2 rfl) ?_
  refine lv_imul hx hb dX4_pedal_80 ?_
  rw [show ((12:Int32) * (nI i)) = nI (12 * i) from pk_mul 12 i]
  refine lv_aload_n hx hb dX4_pedal_81 rfl (lv_at hl 1 rfl) ?_
  refine va_get (D := G.1) (ci := 4) (v := .ref d5) (C := RX4) (T := TX4) (N := 18) hx hb hts (by decide +kernel) hown hK hP 0 rfl rfl 5 (by decide) (hts (.fieldLink RX4 26 "PedalBoardModel" "many" "[I") (by decide +kernel)) (fun _ h9 => h9) rfl dX4_pedal_82 ?_
  refine lv_iload_n hx hb dX4_pedal_85 rfl (lv_at hl 2 rfl) ?_
  refine ar_ild hx hb hK hP 1 rfl i rfl (by omega) (by decide) dX4_pedal_86 ?_
  rw [hm]
  refine lv_iadd hx hb dX4_pedal_87 ?_
  rw [nI_add]
  refine lv_istore (lv' := [(6, .int (nI ((12 * i) + n))), (5, .int (0:Int32)), (0, .ref ma), (1, .int (nI i)), (2, .int kd), (3, .int hh), (4, .int lo)]) hx hb dX4_pedal_88 hl (by decide) rfl (fun ls hl => ?_)
  refine lv_aload_n hx hb dX4_pedal_90 rfl (lv_at hl 2 rfl) ?_
  refine va_get (D := G.1) (ci := 4) (v := .ref d8) (C := RX4) (T := TX4) (N := 18) hx hb hts (by decide +kernel) hown hK hP 0 rfl rfl 8 (by decide) (hts (.fieldLink RX4 36 "PedalBoardModel" "sort" "[I") (by decide +kernel)) (fun _ h9 => h9) rfl dX4_pedal_91 ?_
  refine lv_iload hx hb dX4_pedal_94 (lv_at hl 0 rfl) ?_
  refine lv_iload_n hx hb dX4_pedal_96 rfl (lv_at hl 4 rfl) ?_
  refine ar_ist hx hb hK hP hD hS 3 rfl ((12 * i) + n) rfl (by omega) (by decide) dX4_pedal_97 (fun H locs hP hD hS => ?_)
  have hP : va_P G.1 vwCl [(ma, .inr (4, [.ref d0, .ref d1, .ref d2, .ref d3, .ref d4, .ref d5, .ref d6, .ref d7, .ref d8, .ref d9, .ref d10, .ref d11, .ref d12, .ref d13, .ref d14, .ref d15, .ref d16, .int (0:Int32)])), (d5, .inl (G.2.1 0, 4, .inl f5)), (d6, .inl (G.2.1 2, 4, .inl f6)), (d8, .inl (G.2.1 0, 48, .inl (upd f8 ((12 * i) + n) kd))), (d9, .inl (G.2.1 1, 48, .inr (.inl f9))), (d11, .inl (G.2.1 2, 48, .inl f11))] H := hP
  have hD : va_D A [(ma, .inr (4, [.ref d0, .ref d1, .ref d2, .ref d3, .ref d4, .ref d5, .ref d6, .ref d7, .ref d8, .ref d9, .ref d10, .ref d11, .ref d12, .ref d13, .ref d14, .ref d15, .ref d16, .int (0:Int32)])), (d5, .inl (G.2.1 0, 4, .inl f5)), (d6, .inl (G.2.1 2, 4, .inl f6)), (d8, .inl (G.2.1 0, 48, .inl (upd f8 ((12 * i) + n) kd))), (d9, .inl (G.2.1 1, 48, .inr (.inl f9))), (d11, .inl (G.2.1 2, 48, .inl f11))] := hD
  refine lv_aload_n hx hb dX4_pedal_98 rfl (lv_at hl 2 rfl) ?_
  refine va_get (D := G.1) (ci := 4) (v := .ref d9) (C := RX4) (T := TX4) (N := 18) hx hb hts (by decide +kernel) hown hK hP 0 rfl rfl 9 (by decide) (hts (.fieldLink RX4 39 "PedalBoardModel" "knob" "[J") (by decide +kernel)) (fun _ h9 => h9) rfl dX4_pedal_99 ?_
  refine lv_iload hx hb dX4_pedal_102 (lv_at hl 0 rfl) ?_
  refine lv_iload_n hx hb dX4_pedal_104 rfl (lv_at hl 3 rfl) ?_
  refine lv_iload_n hx hb dX4_pedal_105 rfl (lv_at hl 5 rfl) ?_
  refine lv_iload hx hb dX4_pedal_106 (lv_at hl 6 rfl) ?_
  refine cs_l (As := [.int (nI i), .int hh, .int lo]) (rest := [.int (nI ((12 * i) + n)), .ref d9]) ⟨hx, hb, hml, hown, hts⟩ (kX4_coded l G (nI i) hh lo) (va_cwS 3 hts gX4_pedal_X4_coded rfl rfl rfl (by decide +kernel) ⟨Nat.le_of_ble_eq_true rfl, Nat.le_of_ble_eq_true rfl⟩) hE hK hP hD hS hA hl.1 [] rfl rfl rfl rfl rfl rfl (Nat.le_of_ble_eq_true rfl) dX4_pedal_108 ⟨Nat.zero_le _, Nat.zero_le _⟩ (fun H locs hP hD hS => ?_)
  have hP : va_P G.1 vwCl [(ma, .inr (4, [.ref d0, .ref d1, .ref d2, .ref d3, .ref d4, .ref d5, .ref d6, .ref d7, .ref d8, .ref d9, .ref d10, .ref d11, .ref d12, .ref d13, .ref d14, .ref d15, .ref d16, .int (0:Int32)])), (d5, .inl (G.2.1 0, 4, .inl f5)), (d6, .inl (G.2.1 2, 4, .inl f6)), (d8, .inl (G.2.1 0, 48, .inl (upd f8 ((12 * i) + n) kd))), (d9, .inl (G.2.1 1, 48, .inr (.inl f9))), (d11, .inl (G.2.1 2, 48, .inl f11))] H := hP
  have hD : va_D A [(ma, .inr (4, [.ref d0, .ref d1, .ref d2, .ref d3, .ref d4, .ref d5, .ref d6, .ref d7, .ref d8, .ref d9, .ref d10, .ref d11, .ref d12, .ref d13, .ref d14, .ref d15, .ref d16, .int (0:Int32)])), (d5, .inl (G.2.1 0, 4, .inl f5)), (d6, .inl (G.2.1 2, 4, .inl f6)), (d8, .inl (G.2.1 0, 48, .inl (upd f8 ((12 * i) + n) kd))), (d9, .inl (G.2.1 1, 48, .inr (.inl f9))), (d11, .inl (G.2.1 2, 48, .inl f11))] := hD
  refine ar_lst hx hb hK hP hD hS 4 rfl ((12 * i) + n) rfl (by omega) (by decide) dX4_pedal_111 (fun H locs hP hD hS => ?_)
  have hP : va_P G.1 vwCl [(ma, .inr (4, [.ref d0, .ref d1, .ref d2, .ref d3, .ref d4, .ref d5, .ref d6, .ref d7, .ref d8, .ref d9, .ref d10, .ref d11, .ref d12, .ref d13, .ref d14, .ref d15, .ref d16, .int (0:Int32)])), (d5, .inl (G.2.1 0, 4, .inl f5)), (d6, .inl (G.2.1 2, 4, .inl f6)), (d8, .inl (G.2.1 0, 48, .inl (upd f8 ((12 * i) + n) kd))), (d9, .inl (G.2.1 1, 48, .inr (.inl (vp_updL f9 ((12 * i) + n) (fX4_coded (nI i) hh lo))))), (d11, .inl (G.2.1 2, 48, .inl f11))] H := hP
  have hD : va_D A [(ma, .inr (4, [.ref d0, .ref d1, .ref d2, .ref d3, .ref d4, .ref d5, .ref d6, .ref d7, .ref d8, .ref d9, .ref d10, .ref d11, .ref d12, .ref d13, .ref d14, .ref d15, .ref d16, .int (0:Int32)])), (d5, .inl (G.2.1 0, 4, .inl f5)), (d6, .inl (G.2.1 2, 4, .inl f6)), (d8, .inl (G.2.1 0, 48, .inl (upd f8 ((12 * i) + n) kd))), (d9, .inl (G.2.1 1, 48, .inr (.inl (vp_updL f9 ((12 * i) + n) (fX4_coded (nI i) hh lo))))), (d11, .inl (G.2.1 2, 48, .inl f11))] := hD
  refine lv_aload_n hx hb dX4_pedal_112 rfl (lv_at hl 2 rfl) ?_
  refine va_get (D := G.1) (ci := 4) (v := .ref d11) (C := RX4) (T := TX4) (N := 18) hx hb hts (by decide +kernel) hown hK hP 0 rfl rfl 11 (by decide) (hts (.fieldLink RX4 45 "PedalBoardModel" "on" "[Z") (by decide +kernel)) (fun _ h9 => h9) rfl dX4_pedal_113 ?_
  refine lv_iload hx hb dX4_pedal_116 (lv_at hl 0 rfl) ?_
  refine lv_iconst (v := (1:Int32)) hx hb dX4_pedal_118 (by decide) ?_
  refine ar_zst hx hb hK hP hD hS 5 rfl ((12 * i) + n) rfl (by omega) (by decide) (Or.inr rfl) dX4_pedal_119 (fun H locs hP hD hS => ?_)
  have hP : va_P G.1 vwCl [(ma, .inr (4, [.ref d0, .ref d1, .ref d2, .ref d3, .ref d4, .ref d5, .ref d6, .ref d7, .ref d8, .ref d9, .ref d10, .ref d11, .ref d12, .ref d13, .ref d14, .ref d15, .ref d16, .int (0:Int32)])), (d5, .inl (G.2.1 0, 4, .inl f5)), (d6, .inl (G.2.1 2, 4, .inl f6)), (d8, .inl (G.2.1 0, 48, .inl (upd f8 ((12 * i) + n) kd))), (d9, .inl (G.2.1 1, 48, .inr (.inl (vp_updL f9 ((12 * i) + n) (fX4_coded (nI i) hh lo))))), (d11, .inl (G.2.1 2, 48, .inl (upd f11 ((12 * i) + n) (1:Int32))))] H := hP
  have hD : va_D A [(ma, .inr (4, [.ref d0, .ref d1, .ref d2, .ref d3, .ref d4, .ref d5, .ref d6, .ref d7, .ref d8, .ref d9, .ref d10, .ref d11, .ref d12, .ref d13, .ref d14, .ref d15, .ref d16, .int (0:Int32)])), (d5, .inl (G.2.1 0, 4, .inl f5)), (d6, .inl (G.2.1 2, 4, .inl f6)), (d8, .inl (G.2.1 0, 48, .inl (upd f8 ((12 * i) + n) kd))), (d9, .inl (G.2.1 1, 48, .inr (.inl (vp_updL f9 ((12 * i) + n) (fX4_coded (nI i) hh lo))))), (d11, .inl (G.2.1 2, 48, .inl (upd f11 ((12 * i) + n) (1:Int32))))] := hD
  refine lv_aload_n hx hb dX4_pedal_120 rfl (lv_at hl 2 rfl) ?_
  refine va_get (D := G.1) (ci := 4) (v := .ref d5) (C := RX4) (T := TX4) (N := 18) hx hb hts (by decide +kernel) hown hK hP 0 rfl rfl 5 (by decide) (hts (.fieldLink RX4 26 "PedalBoardModel" "many" "[I") (by decide +kernel)) (fun _ h9 => h9) rfl dX4_pedal_121 ?_
  refine lv_iload_n hx hb dX4_pedal_124 rfl (lv_at hl 3 rfl) ?_
  refine lv_dup2_11 hx hb dX4_pedal_125 rfl rfl ?_
  refine ar_ild hx hb hK hP 1 rfl i rfl (by omega) (by decide) dX4_pedal_126 ?_
  rw [hm]
  refine lv_iconst (v := (1:Int32)) hx hb dX4_pedal_127 (by decide) ?_
  refine lv_iadd hx hb dX4_pedal_128 ?_
  rw [show (nI n + (1:Int32)) = nI (n + 1) from nI_1 _]
  refine ar_ist hx hb hK hP hD hS 1 rfl i rfl (by omega) (by decide) dX4_pedal_129 (fun H locs hP hD hS => ?_)
  have hP : va_P G.1 vwCl [(ma, .inr (4, [.ref d0, .ref d1, .ref d2, .ref d3, .ref d4, .ref d5, .ref d6, .ref d7, .ref d8, .ref d9, .ref d10, .ref d11, .ref d12, .ref d13, .ref d14, .ref d15, .ref d16, .int (0:Int32)])), (d5, .inl (G.2.1 0, 4, .inl (upd f5 i (nI (n + 1))))), (d6, .inl (G.2.1 2, 4, .inl f6)), (d8, .inl (G.2.1 0, 48, .inl (upd f8 ((12 * i) + n) kd))), (d9, .inl (G.2.1 1, 48, .inr (.inl (vp_updL f9 ((12 * i) + n) (fX4_coded (nI i) hh lo))))), (d11, .inl (G.2.1 2, 48, .inl (upd f11 ((12 * i) + n) (1:Int32))))] H := hP
  have hD : va_D A [(ma, .inr (4, [.ref d0, .ref d1, .ref d2, .ref d3, .ref d4, .ref d5, .ref d6, .ref d7, .ref d8, .ref d9, .ref d10, .ref d11, .ref d12, .ref d13, .ref d14, .ref d15, .ref d16, .int (0:Int32)])), (d5, .inl (G.2.1 0, 4, .inl (upd f5 i (nI (n + 1))))), (d6, .inl (G.2.1 2, 4, .inl f6)), (d8, .inl (G.2.1 0, 48, .inl (upd f8 ((12 * i) + n) kd))), (d9, .inl (G.2.1 1, 48, .inr (.inl (vp_updL f9 ((12 * i) + n) (fX4_coded (nI i) hh lo))))), (d11, .inl (G.2.1 2, 48, .inl (upd f11 ((12 * i) + n) (1:Int32))))] := hD
  refine lv_aload_n hx hb dX4_pedal_130 rfl (lv_at hl 2 rfl) ?_
  refine va_get (D := G.1) (ci := 4) (v := .ref d6) (C := RX4) (T := TX4) (N := 18) hx hb hts (by decide +kernel) hown hK hP 0 rfl rfl 6 (by decide) (hts (.fieldLink RX4 29 "PedalBoardModel" "traced" "[Z") (by decide +kernel)) (fun _ h9 => h9) rfl dX4_pedal_131 ?_
  refine lv_iload_n hx hb dX4_pedal_134 rfl (lv_at hl 3 rfl) ?_
  refine lv_iconst (v := (0:Int32)) hx hb dX4_pedal_135 (by decide) ?_
  refine ar_zst hx hb hK hP hD hS 2 rfl i rfl (by omega) (by decide) (Or.inl rfl) dX4_pedal_136 (fun H locs hP hD hS => ?_)
  have hP : va_P G.1 vwCl [(ma, .inr (4, [.ref d0, .ref d1, .ref d2, .ref d3, .ref d4, .ref d5, .ref d6, .ref d7, .ref d8, .ref d9, .ref d10, .ref d11, .ref d12, .ref d13, .ref d14, .ref d15, .ref d16, .int (0:Int32)])), (d5, .inl (G.2.1 0, 4, .inl (upd f5 i (nI (n + 1))))), (d6, .inl (G.2.1 2, 4, .inl (upd f6 i (0:Int32)))), (d8, .inl (G.2.1 0, 48, .inl (upd f8 ((12 * i) + n) kd))), (d9, .inl (G.2.1 1, 48, .inr (.inl (vp_updL f9 ((12 * i) + n) (fX4_coded (nI i) hh lo))))), (d11, .inl (G.2.1 2, 48, .inl (upd f11 ((12 * i) + n) (1:Int32))))] H := hP
  have hD : va_D A [(ma, .inr (4, [.ref d0, .ref d1, .ref d2, .ref d3, .ref d4, .ref d5, .ref d6, .ref d7, .ref d8, .ref d9, .ref d10, .ref d11, .ref d12, .ref d13, .ref d14, .ref d15, .ref d16, .int (0:Int32)])), (d5, .inl (G.2.1 0, 4, .inl (upd f5 i (nI (n + 1))))), (d6, .inl (G.2.1 2, 4, .inl (upd f6 i (0:Int32)))), (d8, .inl (G.2.1 0, 48, .inl (upd f8 ((12 * i) + n) kd))), (d9, .inl (G.2.1 1, 48, .inr (.inl (vp_updL f9 ((12 * i) + n) (fX4_coded (nI i) hh lo))))), (d11, .inl (G.2.1 2, 48, .inl (upd f11 ((12 * i) + n) (1:Int32))))] := hD
  refine lv_aload_n hx hb dX4_pedal_137 rfl (lv_at hl 2 rfl) ?_
  refine va_get (D := G.1) (ci := 4) (v := .ref d5) (C := RX4) (T := TX4) (N := 18) hx hb hts (by decide +kernel) hown hK hP 0 rfl rfl 5 (by decide) (hts (.fieldLink RX4 26 "PedalBoardModel" "many" "[I") (by decide +kernel)) (fun _ h9 => h9) rfl dX4_pedal_138 ?_
  refine lv_iload_n hx hb dX4_pedal_141 rfl (lv_at hl 3 rfl) ?_
  refine ar_ild hx hb hK hP 1 rfl i rfl (by omega) (by decide) dX4_pedal_142 ?_
  rw [upd_same]
  refine lv_iconst (v := (1:Int32)) hx hb dX4_pedal_143 (by decide) ?_
  refine lv_isub hx hb dX4_pedal_144 ?_
  rw [show (nI (n + 1) - (1:Int32)) = nI n from nI_pred _]
  exact rt_i hx hb hr hlocks hP hD hS dX4_pedal_145 rfl
set_option maxHeartbeats 4000000 in
set_option maxRecDepth 100000 in
theorem kX4_pedalB0 (l : Launch) (G : GT) (ma : Nat) (d0 : Nat) (d1 : Nat) (d2 : Nat) (d3 : Nat) (d4 : Nat) (d5 : Nat) (d6 : Nat) (d7 : Nat) (d8 : Nat) (d9 : Nat) (d10 : Nat) (d11 : Nat) (d12 : Nat) (d13 : Nat) (d14 : Nat) (d15 : Nat) (d16 : Nat) (cd : Int32) (wi : Int32) (kd : Int32) (hh : Int32) (lo : Int32) (hwi : fX4_isWire wi = 0) : CI l yX4_pedal wsX4_pedal { frames := 1, cells := 0, slots := 0, locals := 22 } G [.ref ma, .int wi, .int kd, .int hh, .int lo] [(ma, .inr (4, [.ref d0, .ref d1, .ref d2, .ref d3, .ref d4, .ref d5, .ref d6, .ref d7, .ref d8, .ref d9, .ref d10, .ref d11, .ref d12, .ref d13, .ref d14, .ref d15, .ref d16, .int cd]))] (0:Int32) [(ma, .inr (4, [.ref d0, .ref d1, .ref d2, .ref d3, .ref d4, .ref d5, .ref d6, .ref d7, .ref d8, .ref d9, .ref d10, .ref d11, .ref d12, .ref d13, .ref d14, .ref d15, .ref d16, .int (1:Int32)]))] := by
  refine en_i (cc := cX4_pedal) (maxL := 7) (ret := (some .int)) (own := RX4) (by decide) rfl rfl (Nat.le_of_ble_eq_true rfl) ?_
  intro p e s m below meth c A ls hx hb hr hts hown hml hlocks hA hK hE hP hD hS hl
  have hl : lv_has ls 7 [(0, .ref ma), (1, .int wi), (2, .int kd), (3, .int hh), (4, .int lo)] := hl
  refine lv_iload_n hx hb dX4_pedal_0 rfl (lv_at hl 1 rfl) ?_
  refine cs_i (As := [.int wi]) (rest := []) ⟨hx, hb, hml, hown, hts⟩ (kX4_isWire l G wi) (va_cwS 1 hts gX4_pedal_X4_isWire rfl rfl rfl (by decide +kernel) ⟨Nat.le_of_ble_eq_true rfl, Nat.le_of_ble_eq_true rfl⟩) hE hK hP hD hS hA hl.1 [] rfl rfl rfl rfl rfl rfl (Nat.le_of_ble_eq_true rfl) dX4_pedal_1 ⟨Nat.zero_le _, Nat.zero_le _⟩ (fun H locs hP hD hS => ?_)
  have hP : va_P G.1 vwCl [(ma, .inr (4, [.ref d0, .ref d1, .ref d2, .ref d3, .ref d4, .ref d5, .ref d6, .ref d7, .ref d8, .ref d9, .ref d10, .ref d11, .ref d12, .ref d13, .ref d14, .ref d15, .ref d16, .int cd]))] H := hP
  have hD : va_D A [(ma, .inr (4, [.ref d0, .ref d1, .ref d2, .ref d3, .ref d4, .ref d5, .ref d6, .ref d7, .ref d8, .ref d9, .ref d10, .ref d11, .ref d12, .ref d13, .ref d14, .ref d15, .ref d16, .int cd]))] := hD
  refine bz_eq (tgt := 29) hx hb dX4_pedal_4 (by decide) (fun _ => ?_) (fun h9 => absurd hwi h9)
  refine lv_iconst (v := (1:Int32)) hx hb dX4_pedal_29 (by decide) ?_
  refine lv_goto (tgt := 34) hx hb dX4_pedal_30 (by decide) ?_
  refine lv_istore (lv' := [(5, .int (1:Int32)), (0, .ref ma), (1, .int wi), (2, .int kd), (3, .int hh), (4, .int lo)]) hx hb dX4_pedal_34 hl (by decide) rfl (fun ls hl => ?_)
  refine lv_aload_n hx hb dX4_pedal_36 rfl (lv_at hl 1 rfl) ?_
  refine lv_iload hx hb dX4_pedal_37 (lv_at hl 0 rfl) ?_
  refine lv_iload hx hb dX4_pedal_39 (lv_at hl 0 rfl) ?_
  refine bz_ne (tgt := 68) hx hb dX4_pedal_41 (by decide) (fun h9 => absurd h9 (by decide)) (fun _ => ?_)
  refine lv_iconst (v := (0:Int32)) hx hb dX4_pedal_68 (by decide) ?_
  refine cv_i (As := [.int (1:Int32), .int (0:Int32)]) (rest := []) (ws' := [(ma, .inr (4, [.ref d0, .ref d1, .ref d2, .ref d3, .ref d4, .ref d5, .ref d6, .ref d7, .ref d8, .ref d9, .ref d10, .ref d11, .ref d12, .ref d13, .ref d14, .ref d15, .ref d16, .int (1:Int32)]))]) ⟨hx, hb, hml, hown, hts⟩ (kX4_refuses10 l G ma d0 d1 d2 d3 d4 d5 d6 d7 d8 d9 d10 d11 d12 d13 d14 d15 d16 cd) (cwV 2 hts gX4_pedal_X4_refuses rfl rfl rfl (by decide +kernel) ⟨Nat.le_of_ble_eq_true rfl, Nat.le_of_ble_eq_true rfl⟩) (va_recv hK hP (ci := 4) (q0 := 0) rfl rfl) hE hK hP hD hS hA hl.1 [0] rfl rfl rfl rfl rfl rfl (Nat.le_of_ble_eq_true rfl) dX4_pedal_69 ⟨Nat.zero_le _, Nat.zero_le _⟩ (fun H locs hP hD hS => ?_)
  refine bz_eq (tgt := 77) hx hb dX4_pedal_72 (by decide) (fun h9 => absurd h9 (by decide)) (fun _ => ?_)
  refine lv_iconst (v := (0:Int32)) hx hb dX4_pedal_75 (by decide) ?_
  exact rt_i hx hb hr hlocks hP hD hS dX4_pedal_76 rfl
set_option maxHeartbeats 4000000 in
set_option maxRecDepth 100000 in
theorem kX4_pedalB1 (l : Launch) (G : GT) (ma : Nat) (d0 : Nat) (d1 : Nat) (d2 : Nat) (d3 : Nat) (d4 : Nat) (d5 : Nat) (d6 : Nat) (d7 : Nat) (d8 : Nat) (d9 : Nat) (d10 : Nat) (d11 : Nat) (d12 : Nat) (d13 : Nat) (d14 : Nat) (d15 : Nat) (d16 : Nat) (cd : Int32) (i : Nat) (kd : Int32) (hh : Int32) (lo : Int32) (hi4 : i < 4) (hkd : fX4_isKind (nI i) kd = 0) : CI l yX4_pedal wsX4_pedal { frames := 1, cells := 0, slots := 0, locals := 22 } G [.ref ma, .int (nI i), .int kd, .int hh, .int lo] [(ma, .inr (4, [.ref d0, .ref d1, .ref d2, .ref d3, .ref d4, .ref d5, .ref d6, .ref d7, .ref d8, .ref d9, .ref d10, .ref d11, .ref d12, .ref d13, .ref d14, .ref d15, .ref d16, .int cd]))] (0:Int32) [(ma, .inr (4, [.ref d0, .ref d1, .ref d2, .ref d3, .ref d4, .ref d5, .ref d6, .ref d7, .ref d8, .ref d9, .ref d10, .ref d11, .ref d12, .ref d13, .ref d14, .ref d15, .ref d16, .int (1:Int32)]))] := by
  refine en_i (cc := cX4_pedal) (maxL := 7) (ret := (some .int)) (own := RX4) (by decide) rfl rfl (Nat.le_of_ble_eq_true rfl) ?_
  intro p e s m below meth c A ls hx hb hr hts hown hml hlocks hA hK hE hP hD hS hl
  have hl : lv_has ls 7 [(0, .ref ma), (1, .int (nI i)), (2, .int kd), (3, .int hh), (4, .int lo)] := hl
  refine lv_iload_n hx hb dX4_pedal_0 rfl (lv_at hl 1 rfl) ?_
  refine cs_i (As := [.int (nI i)]) (rest := []) ⟨hx, hb, hml, hown, hts⟩ (kX4_isWire l G (nI i)) (va_cwS 1 hts gX4_pedal_X4_isWire rfl rfl rfl (by decide +kernel) ⟨Nat.le_of_ble_eq_true rfl, Nat.le_of_ble_eq_true rfl⟩) hE hK hP hD hS hA hl.1 [] rfl rfl rfl rfl rfl rfl (Nat.le_of_ble_eq_true rfl) dX4_pedal_1 ⟨Nat.zero_le _, Nat.zero_le _⟩ (fun H locs hP hD hS => ?_)
  have hP : va_P G.1 vwCl [(ma, .inr (4, [.ref d0, .ref d1, .ref d2, .ref d3, .ref d4, .ref d5, .ref d6, .ref d7, .ref d8, .ref d9, .ref d10, .ref d11, .ref d12, .ref d13, .ref d14, .ref d15, .ref d16, .int cd]))] H := hP
  have hD : va_D A [(ma, .inr (4, [.ref d0, .ref d1, .ref d2, .ref d3, .ref d4, .ref d5, .ref d6, .ref d7, .ref d8, .ref d9, .ref d10, .ref d11, .ref d12, .ref d13, .ref d14, .ref d15, .ref d16, .int cd]))] := hD
  refine bz_eq (tgt := 29) hx hb dX4_pedal_4 (by decide) (fun h9 => absurd h9 (isW4_1 hi4)) (fun _ => ?_)
  refine lv_iload_n hx hb dX4_pedal_7 rfl (lv_at hl 1 rfl) ?_
  refine lv_iload_n hx hb dX4_pedal_8 rfl (lv_at hl 2 rfl) ?_
  refine cs_i (As := [.int (nI i), .int kd]) (rest := []) ⟨hx, hb, hml, hown, hts⟩ (kX4_isKind l G (nI i) kd) (va_cwS 2 hts gX4_pedal_X4_isKind rfl rfl rfl (by decide +kernel) ⟨Nat.le_of_ble_eq_true rfl, Nat.le_of_ble_eq_true rfl⟩) hE hK hP hD hS hA hl.1 [] rfl rfl rfl rfl rfl rfl (Nat.le_of_ble_eq_true rfl) dX4_pedal_9 ⟨Nat.zero_le _, Nat.zero_le _⟩ (fun H locs hP hD hS => ?_)
  have hP : va_P G.1 vwCl [(ma, .inr (4, [.ref d0, .ref d1, .ref d2, .ref d3, .ref d4, .ref d5, .ref d6, .ref d7, .ref d8, .ref d9, .ref d10, .ref d11, .ref d12, .ref d13, .ref d14, .ref d15, .ref d16, .int cd]))] H := hP
  have hD : va_D A [(ma, .inr (4, [.ref d0, .ref d1, .ref d2, .ref d3, .ref d4, .ref d5, .ref d6, .ref d7, .ref d8, .ref d9, .ref d10, .ref d11, .ref d12, .ref d13, .ref d14, .ref d15, .ref d16, .int cd]))] := hD
  refine bz_eq (tgt := 29) hx hb dX4_pedal_12 (by decide) (fun _ => ?_) (fun h9 => absurd hkd h9)
  refine lv_iconst (v := (1:Int32)) hx hb dX4_pedal_29 (by decide) ?_
  refine lv_goto (tgt := 34) hx hb dX4_pedal_30 (by decide) ?_
  refine lv_istore (lv' := [(5, .int (1:Int32)), (0, .ref ma), (1, .int (nI i)), (2, .int kd), (3, .int hh), (4, .int lo)]) hx hb dX4_pedal_34 hl (by decide) rfl (fun ls hl => ?_)
  refine lv_aload_n hx hb dX4_pedal_36 rfl (lv_at hl 1 rfl) ?_
  refine lv_iload hx hb dX4_pedal_37 (lv_at hl 0 rfl) ?_
  refine lv_iload hx hb dX4_pedal_39 (lv_at hl 0 rfl) ?_
  refine bz_ne (tgt := 68) hx hb dX4_pedal_41 (by decide) (fun h9 => absurd h9 (by decide)) (fun _ => ?_)
  refine lv_iconst (v := (0:Int32)) hx hb dX4_pedal_68 (by decide) ?_
  refine cv_i (As := [.int (1:Int32), .int (0:Int32)]) (rest := []) (ws' := [(ma, .inr (4, [.ref d0, .ref d1, .ref d2, .ref d3, .ref d4, .ref d5, .ref d6, .ref d7, .ref d8, .ref d9, .ref d10, .ref d11, .ref d12, .ref d13, .ref d14, .ref d15, .ref d16, .int (1:Int32)]))]) ⟨hx, hb, hml, hown, hts⟩ (kX4_refuses10 l G ma d0 d1 d2 d3 d4 d5 d6 d7 d8 d9 d10 d11 d12 d13 d14 d15 d16 cd) (cwV 2 hts gX4_pedal_X4_refuses rfl rfl rfl (by decide +kernel) ⟨Nat.le_of_ble_eq_true rfl, Nat.le_of_ble_eq_true rfl⟩) (va_recv hK hP (ci := 4) (q0 := 0) rfl rfl) hE hK hP hD hS hA hl.1 [0] rfl rfl rfl rfl rfl rfl (Nat.le_of_ble_eq_true rfl) dX4_pedal_69 ⟨Nat.zero_le _, Nat.zero_le _⟩ (fun H locs hP hD hS => ?_)
  refine bz_eq (tgt := 77) hx hb dX4_pedal_72 (by decide) (fun h9 => absurd h9 (by decide)) (fun _ => ?_)
  refine lv_iconst (v := (0:Int32)) hx hb dX4_pedal_75 (by decide) ?_
  exact rt_i hx hb hr hlocks hP hD hS dX4_pedal_76 rfl
set_option maxHeartbeats 4000000 in
set_option maxRecDepth 100000 in
theorem kX4_pedalB2 (l : Launch) (G : GT) (ma : Nat) (d0 : Nat) (d1 : Nat) (d2 : Nat) (d3 : Nat) (d4 : Nat) (d5 : Nat) (d6 : Nat) (d7 : Nat) (d8 : Nat) (d9 : Nat) (d10 : Nat) (d11 : Nat) (d12 : Nat) (d13 : Nat) (d14 : Nat) (d15 : Nat) (d16 : Nat) (cd : Int32) (i : Nat) (kd : Int32) (hh : Int32) (lo : Int32) (hi4 : i < 4) (hkd : ¬ fX4_isKind (nI i) kd = 0) (hill : ¬ fX4_isIll (nI i) (fX4_coded (nI i) hh lo) = 0) : CI l yX4_pedal wsX4_pedal { frames := 3, cells := 0, slots := 0, locals := 66 } G [.ref ma, .int (nI i), .int kd, .int hh, .int lo] [(ma, .inr (4, [.ref d0, .ref d1, .ref d2, .ref d3, .ref d4, .ref d5, .ref d6, .ref d7, .ref d8, .ref d9, .ref d10, .ref d11, .ref d12, .ref d13, .ref d14, .ref d15, .ref d16, .int cd]))] (0:Int32) [(ma, .inr (4, [.ref d0, .ref d1, .ref d2, .ref d3, .ref d4, .ref d5, .ref d6, .ref d7, .ref d8, .ref d9, .ref d10, .ref d11, .ref d12, .ref d13, .ref d14, .ref d15, .ref d16, .int (1:Int32)]))] := by
  refine en_i (cc := cX4_pedal) (maxL := 7) (ret := (some .int)) (own := RX4) (by decide) rfl rfl (Nat.le_of_ble_eq_true rfl) ?_
  intro p e s m below meth c A ls hx hb hr hts hown hml hlocks hA hK hE hP hD hS hl
  have hl : lv_has ls 7 [(0, .ref ma), (1, .int (nI i)), (2, .int kd), (3, .int hh), (4, .int lo)] := hl
  refine lv_iload_n hx hb dX4_pedal_0 rfl (lv_at hl 1 rfl) ?_
  refine cs_i (As := [.int (nI i)]) (rest := []) ⟨hx, hb, hml, hown, hts⟩ (kX4_isWire l G (nI i)) (va_cwS 1 hts gX4_pedal_X4_isWire rfl rfl rfl (by decide +kernel) ⟨Nat.le_of_ble_eq_true rfl, Nat.le_of_ble_eq_true rfl⟩) hE hK hP hD hS hA hl.1 [] rfl rfl rfl rfl rfl rfl (Nat.le_of_ble_eq_true rfl) dX4_pedal_1 ⟨Nat.zero_le _, Nat.zero_le _⟩ (fun H locs hP hD hS => ?_)
  have hP : va_P G.1 vwCl [(ma, .inr (4, [.ref d0, .ref d1, .ref d2, .ref d3, .ref d4, .ref d5, .ref d6, .ref d7, .ref d8, .ref d9, .ref d10, .ref d11, .ref d12, .ref d13, .ref d14, .ref d15, .ref d16, .int cd]))] H := hP
  have hD : va_D A [(ma, .inr (4, [.ref d0, .ref d1, .ref d2, .ref d3, .ref d4, .ref d5, .ref d6, .ref d7, .ref d8, .ref d9, .ref d10, .ref d11, .ref d12, .ref d13, .ref d14, .ref d15, .ref d16, .int cd]))] := hD
  refine bz_eq (tgt := 29) hx hb dX4_pedal_4 (by decide) (fun h9 => absurd h9 (isW4_1 hi4)) (fun _ => ?_)
  refine lv_iload_n hx hb dX4_pedal_7 rfl (lv_at hl 1 rfl) ?_
  refine lv_iload_n hx hb dX4_pedal_8 rfl (lv_at hl 2 rfl) ?_
  refine cs_i (As := [.int (nI i), .int kd]) (rest := []) ⟨hx, hb, hml, hown, hts⟩ (kX4_isKind l G (nI i) kd) (va_cwS 2 hts gX4_pedal_X4_isKind rfl rfl rfl (by decide +kernel) ⟨Nat.le_of_ble_eq_true rfl, Nat.le_of_ble_eq_true rfl⟩) hE hK hP hD hS hA hl.1 [] rfl rfl rfl rfl rfl rfl (Nat.le_of_ble_eq_true rfl) dX4_pedal_9 ⟨Nat.zero_le _, Nat.zero_le _⟩ (fun H locs hP hD hS => ?_)
  have hP : va_P G.1 vwCl [(ma, .inr (4, [.ref d0, .ref d1, .ref d2, .ref d3, .ref d4, .ref d5, .ref d6, .ref d7, .ref d8, .ref d9, .ref d10, .ref d11, .ref d12, .ref d13, .ref d14, .ref d15, .ref d16, .int cd]))] H := hP
  have hD : va_D A [(ma, .inr (4, [.ref d0, .ref d1, .ref d2, .ref d3, .ref d4, .ref d5, .ref d6, .ref d7, .ref d8, .ref d9, .ref d10, .ref d11, .ref d12, .ref d13, .ref d14, .ref d15, .ref d16, .int cd]))] := hD
  refine bz_eq (tgt := 29) hx hb dX4_pedal_12 (by decide) (fun h9 => absurd h9 hkd) (fun _ => ?_)
  refine lv_iload_n hx hb dX4_pedal_15 rfl (lv_at hl 1 rfl) ?_
  refine lv_iload_n hx hb dX4_pedal_16 rfl (lv_at hl 1 rfl) ?_
  refine lv_iload_n hx hb dX4_pedal_17 rfl (lv_at hl 3 rfl) ?_
  refine lv_iload hx hb dX4_pedal_18 (lv_at hl 4 rfl) ?_
  refine cs_l (As := [.int (nI i), .int hh, .int lo]) (rest := [.int (nI i)]) ⟨hx, hb, hml, hown, hts⟩ (kX4_coded l G (nI i) hh lo) (va_cwS 3 hts gX4_pedal_X4_coded rfl rfl rfl (by decide +kernel) ⟨Nat.le_of_ble_eq_true rfl, Nat.le_of_ble_eq_true rfl⟩) hE hK hP hD hS hA hl.1 [] rfl rfl rfl rfl rfl rfl (Nat.le_of_ble_eq_true rfl) dX4_pedal_20 ⟨Nat.zero_le _, Nat.zero_le _⟩ (fun H locs hP hD hS => ?_)
  have hP : va_P G.1 vwCl [(ma, .inr (4, [.ref d0, .ref d1, .ref d2, .ref d3, .ref d4, .ref d5, .ref d6, .ref d7, .ref d8, .ref d9, .ref d10, .ref d11, .ref d12, .ref d13, .ref d14, .ref d15, .ref d16, .int cd]))] H := hP
  have hD : va_D A [(ma, .inr (4, [.ref d0, .ref d1, .ref d2, .ref d3, .ref d4, .ref d5, .ref d6, .ref d7, .ref d8, .ref d9, .ref d10, .ref d11, .ref d12, .ref d13, .ref d14, .ref d15, .ref d16, .int cd]))] := hD
  refine cs_i (As := [.int (nI i), .long (fX4_coded (nI i) hh lo)]) (rest := []) ⟨hx, hb, hml, hown, hts⟩ (kX4_isIll l G (nI i) (fX4_coded (nI i) hh lo)) (va_cwS 2 hts gX4_pedal_X4_isIll rfl rfl rfl (by decide +kernel) ⟨Nat.le_of_ble_eq_true rfl, Nat.le_of_ble_eq_true rfl⟩) hE hK hP hD hS hA hl.1 [] rfl rfl rfl rfl rfl rfl (Nat.le_of_ble_eq_true rfl) dX4_pedal_23 ⟨Nat.zero_le _, Nat.zero_le _⟩ (fun H locs hP hD hS => ?_)
  have hP : va_P G.1 vwCl [(ma, .inr (4, [.ref d0, .ref d1, .ref d2, .ref d3, .ref d4, .ref d5, .ref d6, .ref d7, .ref d8, .ref d9, .ref d10, .ref d11, .ref d12, .ref d13, .ref d14, .ref d15, .ref d16, .int cd]))] H := hP
  have hD : va_D A [(ma, .inr (4, [.ref d0, .ref d1, .ref d2, .ref d3, .ref d4, .ref d5, .ref d6, .ref d7, .ref d8, .ref d9, .ref d10, .ref d11, .ref d12, .ref d13, .ref d14, .ref d15, .ref d16, .int cd]))] := hD
  refine bz_eq (tgt := 33) hx hb dX4_pedal_26 (by decide) (fun h9 => absurd h9 hill) (fun _ => ?_)
  refine lv_iconst (v := (1:Int32)) hx hb dX4_pedal_29 (by decide) ?_
  refine lv_goto (tgt := 34) hx hb dX4_pedal_30 (by decide) ?_
  refine lv_istore (lv' := [(5, .int (1:Int32)), (0, .ref ma), (1, .int (nI i)), (2, .int kd), (3, .int hh), (4, .int lo)]) hx hb dX4_pedal_34 hl (by decide) rfl (fun ls hl => ?_)
  refine lv_aload_n hx hb dX4_pedal_36 rfl (lv_at hl 1 rfl) ?_
  refine lv_iload hx hb dX4_pedal_37 (lv_at hl 0 rfl) ?_
  refine lv_iload hx hb dX4_pedal_39 (lv_at hl 0 rfl) ?_
  refine bz_ne (tgt := 68) hx hb dX4_pedal_41 (by decide) (fun h9 => absurd h9 (by decide)) (fun _ => ?_)
  refine lv_iconst (v := (0:Int32)) hx hb dX4_pedal_68 (by decide) ?_
  refine cv_i (As := [.int (1:Int32), .int (0:Int32)]) (rest := []) (ws' := [(ma, .inr (4, [.ref d0, .ref d1, .ref d2, .ref d3, .ref d4, .ref d5, .ref d6, .ref d7, .ref d8, .ref d9, .ref d10, .ref d11, .ref d12, .ref d13, .ref d14, .ref d15, .ref d16, .int (1:Int32)]))]) ⟨hx, hb, hml, hown, hts⟩ (kX4_refuses10 l G ma d0 d1 d2 d3 d4 d5 d6 d7 d8 d9 d10 d11 d12 d13 d14 d15 d16 cd) (cwV 2 hts gX4_pedal_X4_refuses rfl rfl rfl (by decide +kernel) ⟨Nat.le_of_ble_eq_true rfl, Nat.le_of_ble_eq_true rfl⟩) (va_recv hK hP (ci := 4) (q0 := 0) rfl rfl) hE hK hP hD hS hA hl.1 [0] rfl rfl rfl rfl rfl rfl (Nat.le_of_ble_eq_true rfl) dX4_pedal_69 ⟨Nat.zero_le _, Nat.zero_le _⟩ (fun H locs hP hD hS => ?_)
  refine bz_eq (tgt := 77) hx hb dX4_pedal_72 (by decide) (fun h9 => absurd h9 (by decide)) (fun _ => ?_)
  refine lv_iconst (v := (0:Int32)) hx hb dX4_pedal_75 (by decide) ?_
  exact rt_i hx hb hr hlocks hP hD hS dX4_pedal_76 rfl
set_option maxHeartbeats 4000000 in
set_option maxRecDepth 100000 in
theorem kX4_pedalB3 (l : Launch) (G : GT) (ma : Nat) (d0 : Nat) (d1 : Nat) (d2 : Nat) (d3 : Nat) (d4 : Nat) (d5 : Nat) (d6 : Nat) (d7 : Nat) (d8 : Nat) (d9 : Nat) (d10 : Nat) (d11 : Nat) (d12 : Nat) (d13 : Nat) (d14 : Nat) (d15 : Nat) (d16 : Nat) (cd : Int32) (f5 : Nat → Int32) (i : Nat) (n : Nat) (kd : Int32) (hh : Int32) (lo : Int32) (hi4 : i < 4) (hm : f5 i = nI n) (hn : n = 12) (hkd : ¬ fX4_isKind (nI i) kd = 0) (hill : fX4_isIll (nI i) (fX4_coded (nI i) hh lo) = 0) : CI l yX4_pedal wsX4_pedal { frames := 3, cells := 0, slots := 0, locals := 66 } G [.ref ma, .int (nI i), .int kd, .int hh, .int lo] [(ma, .inr (4, [.ref d0, .ref d1, .ref d2, .ref d3, .ref d4, .ref d5, .ref d6, .ref d7, .ref d8, .ref d9, .ref d10, .ref d11, .ref d12, .ref d13, .ref d14, .ref d15, .ref d16, .int cd])), (d5, .inl (G.2.1 0, 4, .inl f5))] (0:Int32) [(ma, .inr (4, [.ref d0, .ref d1, .ref d2, .ref d3, .ref d4, .ref d5, .ref d6, .ref d7, .ref d8, .ref d9, .ref d10, .ref d11, .ref d12, .ref d13, .ref d14, .ref d15, .ref d16, .int (2:Int32)])), (d5, .inl (G.2.1 0, 4, .inl f5))] := by
  refine en_i (cc := cX4_pedal) (maxL := 7) (ret := (some .int)) (own := RX4) (by decide) rfl rfl (Nat.le_of_ble_eq_true rfl) ?_
  intro p e s m below meth c A ls hx hb hr hts hown hml hlocks hA hK hE hP hD hS hl
  have hl : lv_has ls 7 [(0, .ref ma), (1, .int (nI i)), (2, .int kd), (3, .int hh), (4, .int lo)] := hl
  refine lv_iload_n hx hb dX4_pedal_0 rfl (lv_at hl 1 rfl) ?_
  refine cs_i (As := [.int (nI i)]) (rest := []) ⟨hx, hb, hml, hown, hts⟩ (kX4_isWire l G (nI i)) (va_cwS 1 hts gX4_pedal_X4_isWire rfl rfl rfl (by decide +kernel) ⟨Nat.le_of_ble_eq_true rfl, Nat.le_of_ble_eq_true rfl⟩) hE hK hP hD hS hA hl.1 [] rfl rfl rfl rfl rfl rfl (Nat.le_of_ble_eq_true rfl) dX4_pedal_1 ⟨Nat.zero_le _, Nat.zero_le _⟩ (fun H locs hP hD hS => ?_)
  have hP : va_P G.1 vwCl [(ma, .inr (4, [.ref d0, .ref d1, .ref d2, .ref d3, .ref d4, .ref d5, .ref d6, .ref d7, .ref d8, .ref d9, .ref d10, .ref d11, .ref d12, .ref d13, .ref d14, .ref d15, .ref d16, .int cd])), (d5, .inl (G.2.1 0, 4, .inl f5))] H := hP
  have hD : va_D A [(ma, .inr (4, [.ref d0, .ref d1, .ref d2, .ref d3, .ref d4, .ref d5, .ref d6, .ref d7, .ref d8, .ref d9, .ref d10, .ref d11, .ref d12, .ref d13, .ref d14, .ref d15, .ref d16, .int cd])), (d5, .inl (G.2.1 0, 4, .inl f5))] := hD
  refine bz_eq (tgt := 29) hx hb dX4_pedal_4 (by decide) (fun h9 => absurd h9 (isW4_1 hi4)) (fun _ => ?_)
  refine lv_iload_n hx hb dX4_pedal_7 rfl (lv_at hl 1 rfl) ?_
  refine lv_iload_n hx hb dX4_pedal_8 rfl (lv_at hl 2 rfl) ?_
  refine cs_i (As := [.int (nI i), .int kd]) (rest := []) ⟨hx, hb, hml, hown, hts⟩ (kX4_isKind l G (nI i) kd) (va_cwS 2 hts gX4_pedal_X4_isKind rfl rfl rfl (by decide +kernel) ⟨Nat.le_of_ble_eq_true rfl, Nat.le_of_ble_eq_true rfl⟩) hE hK hP hD hS hA hl.1 [] rfl rfl rfl rfl rfl rfl (Nat.le_of_ble_eq_true rfl) dX4_pedal_9 ⟨Nat.zero_le _, Nat.zero_le _⟩ (fun H locs hP hD hS => ?_)
  have hP : va_P G.1 vwCl [(ma, .inr (4, [.ref d0, .ref d1, .ref d2, .ref d3, .ref d4, .ref d5, .ref d6, .ref d7, .ref d8, .ref d9, .ref d10, .ref d11, .ref d12, .ref d13, .ref d14, .ref d15, .ref d16, .int cd])), (d5, .inl (G.2.1 0, 4, .inl f5))] H := hP
  have hD : va_D A [(ma, .inr (4, [.ref d0, .ref d1, .ref d2, .ref d3, .ref d4, .ref d5, .ref d6, .ref d7, .ref d8, .ref d9, .ref d10, .ref d11, .ref d12, .ref d13, .ref d14, .ref d15, .ref d16, .int cd])), (d5, .inl (G.2.1 0, 4, .inl f5))] := hD
  refine bz_eq (tgt := 29) hx hb dX4_pedal_12 (by decide) (fun h9 => absurd h9 hkd) (fun _ => ?_)
  refine lv_iload_n hx hb dX4_pedal_15 rfl (lv_at hl 1 rfl) ?_
  refine lv_iload_n hx hb dX4_pedal_16 rfl (lv_at hl 1 rfl) ?_
  refine lv_iload_n hx hb dX4_pedal_17 rfl (lv_at hl 3 rfl) ?_
  refine lv_iload hx hb dX4_pedal_18 (lv_at hl 4 rfl) ?_
  refine cs_l (As := [.int (nI i), .int hh, .int lo]) (rest := [.int (nI i)]) ⟨hx, hb, hml, hown, hts⟩ (kX4_coded l G (nI i) hh lo) (va_cwS 3 hts gX4_pedal_X4_coded rfl rfl rfl (by decide +kernel) ⟨Nat.le_of_ble_eq_true rfl, Nat.le_of_ble_eq_true rfl⟩) hE hK hP hD hS hA hl.1 [] rfl rfl rfl rfl rfl rfl (Nat.le_of_ble_eq_true rfl) dX4_pedal_20 ⟨Nat.zero_le _, Nat.zero_le _⟩ (fun H locs hP hD hS => ?_)
  have hP : va_P G.1 vwCl [(ma, .inr (4, [.ref d0, .ref d1, .ref d2, .ref d3, .ref d4, .ref d5, .ref d6, .ref d7, .ref d8, .ref d9, .ref d10, .ref d11, .ref d12, .ref d13, .ref d14, .ref d15, .ref d16, .int cd])), (d5, .inl (G.2.1 0, 4, .inl f5))] H := hP
  have hD : va_D A [(ma, .inr (4, [.ref d0, .ref d1, .ref d2, .ref d3, .ref d4, .ref d5, .ref d6, .ref d7, .ref d8, .ref d9, .ref d10, .ref d11, .ref d12, .ref d13, .ref d14, .ref d15, .ref d16, .int cd])), (d5, .inl (G.2.1 0, 4, .inl f5))] := hD
  refine cs_i (As := [.int (nI i), .long (fX4_coded (nI i) hh lo)]) (rest := []) ⟨hx, hb, hml, hown, hts⟩ (kX4_isIll l G (nI i) (fX4_coded (nI i) hh lo)) (va_cwS 2 hts gX4_pedal_X4_isIll rfl rfl rfl (by decide +kernel) ⟨Nat.le_of_ble_eq_true rfl, Nat.le_of_ble_eq_true rfl⟩) hE hK hP hD hS hA hl.1 [] rfl rfl rfl rfl rfl rfl (Nat.le_of_ble_eq_true rfl) dX4_pedal_23 ⟨Nat.zero_le _, Nat.zero_le _⟩ (fun H locs hP hD hS => ?_)
  have hP : va_P G.1 vwCl [(ma, .inr (4, [.ref d0, .ref d1, .ref d2, .ref d3, .ref d4, .ref d5, .ref d6, .ref d7, .ref d8, .ref d9, .ref d10, .ref d11, .ref d12, .ref d13, .ref d14, .ref d15, .ref d16, .int cd])), (d5, .inl (G.2.1 0, 4, .inl f5))] H := hP
  have hD : va_D A [(ma, .inr (4, [.ref d0, .ref d1, .ref d2, .ref d3, .ref d4, .ref d5, .ref d6, .ref d7, .ref d8, .ref d9, .ref d10, .ref d11, .ref d12, .ref d13, .ref d14, .ref d15, .ref d16, .int cd])), (d5, .inl (G.2.1 0, 4, .inl f5))] := hD
  refine bz_eq (tgt := 33) hx hb dX4_pedal_26 (by decide) (fun _ => ?_) (fun h9 => absurd hill h9)
  refine lv_iconst (v := (0:Int32)) hx hb dX4_pedal_33 (by decide) ?_
  refine lv_istore (lv' := [(5, .int (0:Int32)), (0, .ref ma), (1, .int (nI i)), (2, .int kd), (3, .int hh), (4, .int lo)]) hx hb dX4_pedal_34 hl (by decide) rfl (fun ls hl => ?_)
  refine lv_aload_n hx hb dX4_pedal_36 rfl (lv_at hl 1 rfl) ?_
  refine lv_iload hx hb dX4_pedal_37 (lv_at hl 0 rfl) ?_
  refine lv_iload hx hb dX4_pedal_39 (lv_at hl 0 rfl) ?_
  refine bz_ne (tgt := 68) hx hb dX4_pedal_41 (by decide) (fun _ => ?_) (fun h9 => absurd rfl h9)
  refine lv_aload_n hx hb dX4_pedal_44 rfl (lv_at hl 1 rfl) ?_
  refine va_get (D := G.1) (ci := 4) (v := .ref d5) (C := RX4) (T := TX4) (N := 18) hx hb hts (by decide +kernel) hown hK hP 0 rfl rfl 5 (by decide) (hts (.fieldLink RX4 26 "PedalBoardModel" "many" "[I") (by decide +kernel)) (fun _ h9 => h9) rfl dX4_pedal_45 ?_
  refine lv_iload hx hb dX4_pedal_48 (lv_at hl 0 rfl) ?_
  refine bz_eq (tgt := 57) hx hb dX4_pedal_50 (by decide) (fun _ => ?_) (fun h9 => absurd rfl h9)
  refine lv_iload_n hx hb dX4_pedal_57 rfl (lv_at hl 2 rfl) ?_
  refine ar_ild hx hb hK hP 1 rfl i rfl (by omega) (by decide) dX4_pedal_58 ?_
  rw [hm]
  refine lv_bipush (v := (12:Int32)) hx hb dX4_pedal_59 (by decide) ?_
  refine bi_ne (tgt := 68) hx hb dX4_pedal_61 (by decide) (fun _ => ?_) (fun h9 => absurd (eq12 hn) h9)
  refine lv_iconst (v := (1:Int32)) hx hb dX4_pedal_64 (by decide) ?_
  refine lv_goto (tgt := 69) hx hb dX4_pedal_65 (by decide) ?_
  refine cv_i (As := [.int (0:Int32), .int (1:Int32)]) (rest := []) (ws' := [(ma, .inr (4, [.ref d0, .ref d1, .ref d2, .ref d3, .ref d4, .ref d5, .ref d6, .ref d7, .ref d8, .ref d9, .ref d10, .ref d11, .ref d12, .ref d13, .ref d14, .ref d15, .ref d16, .int (2:Int32)])), (d5, .inl (G.2.1 0, 4, .inl f5))]) ⟨hx, hb, hml, hown, hts⟩ (kX4_refuses01 l G ma d0 d1 d2 d3 d4 d5 d6 d7 d8 d9 d10 d11 d12 d13 d14 d15 d16 cd) (cwV 2 hts gX4_pedal_X4_refuses rfl rfl rfl (by decide +kernel) ⟨Nat.le_of_ble_eq_true rfl, Nat.le_of_ble_eq_true rfl⟩) (va_recv hK hP (ci := 4) (q0 := 0) rfl rfl) hE hK hP hD hS hA hl.1 [0] rfl rfl rfl rfl rfl rfl (Nat.le_of_ble_eq_true rfl) dX4_pedal_69 ⟨Nat.zero_le _, Nat.zero_le _⟩ (fun H locs hP hD hS => ?_)
  refine bz_eq (tgt := 77) hx hb dX4_pedal_72 (by decide) (fun h9 => absurd h9 (by decide)) (fun _ => ?_)
  refine lv_iconst (v := (0:Int32)) hx hb dX4_pedal_75 (by decide) ?_
  exact rt_i hx hb hr hlocks hP hD hS dX4_pedal_76 rfl
def fX4_turn_69 (y_1 : Int32) : Int32 := y_1
def fX4_turn (f9 : Nat → Int64) (i : Nat) (u : Nat) (hh : Int32) (lo : Int32) : Int32 := (fX4_turn_69 (if (f9 ((12 * i) + u)) = (fX4_coded (nI i) hh lo) then (0:Int32) else (1:Int32)))
set_option maxHeartbeats 4000000 in
set_option maxRecDepth 100000 in
theorem kX4_turn (l : Launch) (G : GT) (ma : Nat) (d0 : Nat) (d1 : Nat) (d2 : Nat) (d3 : Nat) (d4 : Nat) (d5 : Nat) (d6 : Nat) (d7 : Nat) (d8 : Nat) (d9 : Nat) (d10 : Nat) (d11 : Nat) (d12 : Nat) (d13 : Nat) (d14 : Nat) (d15 : Nat) (d16 : Nat) (cd : Int32) (f5 : Nat → Int32) (f9 : Nat → Int64) (i : Nat) (n : Nat) (u : Nat) (hh : Int32) (lo : Int32) (hi4 : i < 4) (hm : f5 i = nI n) (hn : n ≤ 12) (hu : u < n) (hill : fX4_isIll (nI i) (fX4_coded (nI i) hh lo) = 0) : CI l yX4_turn wsX4_turn { frames := 3, cells := 0, slots := 0, locals := 66 } G [.ref ma, .int (nI i), .int (nI u), .int hh, .int lo] [(ma, .inr (4, [.ref d0, .ref d1, .ref d2, .ref d3, .ref d4, .ref d5, .ref d6, .ref d7, .ref d8, .ref d9, .ref d10, .ref d11, .ref d12, .ref d13, .ref d14, .ref d15, .ref d16, .int cd])), (d5, .inl (G.2.1 0, 4, .inl f5)), (d9, .inl (G.2.1 1, 48, .inr (.inl f9)))] (fX4_turn f9 i u hh lo) [(ma, .inr (4, [.ref d0, .ref d1, .ref d2, .ref d3, .ref d4, .ref d5, .ref d6, .ref d7, .ref d8, .ref d9, .ref d10, .ref d11, .ref d12, .ref d13, .ref d14, .ref d15, .ref d16, .int (0:Int32)])), (d5, .inl (G.2.1 0, 4, .inl f5)), (d9, .inl (G.2.1 1, 48, .inr (.inl (vp_updL f9 ((12 * i) + u) (fX4_coded (nI i) hh lo)))))] := by
  refine en_i (cc := cX4_turn) (maxL := 7) (ret := (some .boolean)) (own := RX4) (by decide) rfl rfl (Nat.le_of_ble_eq_true rfl) ?_
  intro p e s m below meth c A ls hx hb hr hts hown hml hlocks hA hK hE hP hD hS hl
  have hl : lv_has ls 7 [(0, .ref ma), (1, .int (nI i)), (2, .int (nI u)), (3, .int hh), (4, .int lo)] := hl
  refine lv_aload_n hx hb dX4_turn_0 rfl (lv_at hl 0 rfl) ?_
  refine lv_aload_n hx hb dX4_turn_1 rfl (lv_at hl 0 rfl) ?_
  refine lv_iload_n hx hb dX4_turn_2 rfl (lv_at hl 1 rfl) ?_
  refine lv_iload_n hx hb dX4_turn_3 rfl (lv_at hl 2 rfl) ?_
  refine cv_i (As := [.int (nI i), .int (nI u)]) (rest := [.ref ma]) (ws' := [(ma, .inr (4, [.ref d0, .ref d1, .ref d2, .ref d3, .ref d4, .ref d5, .ref d6, .ref d7, .ref d8, .ref d9, .ref d10, .ref d11, .ref d12, .ref d13, .ref d14, .ref d15, .ref d16, .int cd])), (d5, .inl (G.2.1 0, 4, .inl f5)), (d9, .inl (G.2.1 1, 48, .inr (.inl f9)))]) ⟨hx, hb, hml, hown, hts⟩ (kX4_isPedal l G ma d0 d1 d2 d3 d4 d5 d6 d7 d8 d9 d10 d11 d12 d13 d14 d15 d16 cd f5 i n (nI u) (by first | assumption | omega) (by first | assumption | omega)) (cwV 2 hts gX4_turn_X4_isPedal rfl rfl rfl (by decide +kernel) ⟨Nat.le_of_ble_eq_true rfl, Nat.le_of_ble_eq_true rfl⟩) (va_recv hK hP (ci := 4) (q0 := 0) rfl rfl) hE hK hP hD hS hA hl.1 [0, 1] rfl rfl rfl rfl rfl rfl (Nat.le_of_ble_eq_true rfl) dX4_turn_4 ⟨Nat.zero_le _, Nat.zero_le _⟩ (fun H locs hP hD hS => ?_)
  refine bz_eq (tgt := 24) hx hb dX4_turn_7 (by decide) (fun h9 => absurd h9 (isP_1 hn hu)) (fun _ => ?_)
  refine lv_iload_n hx hb dX4_turn_10 rfl (lv_at hl 1 rfl) ?_
  refine lv_iload_n hx hb dX4_turn_11 rfl (lv_at hl 1 rfl) ?_
  refine lv_iload_n hx hb dX4_turn_12 rfl (lv_at hl 3 rfl) ?_
  refine lv_iload hx hb dX4_turn_13 (lv_at hl 4 rfl) ?_
  refine cs_l (As := [.int (nI i), .int hh, .int lo]) (rest := [.int (nI i), .ref ma]) ⟨hx, hb, hml, hown, hts⟩ (kX4_coded l G (nI i) hh lo) (va_cwS 3 hts gX4_turn_X4_coded rfl rfl rfl (by decide +kernel) ⟨Nat.le_of_ble_eq_true rfl, Nat.le_of_ble_eq_true rfl⟩) hE hK hP hD hS hA hl.1 [] rfl rfl rfl rfl rfl rfl (Nat.le_of_ble_eq_true rfl) dX4_turn_15 ⟨Nat.zero_le _, Nat.zero_le _⟩ (fun H locs hP hD hS => ?_)
  have hP : va_P G.1 vwCl [(ma, .inr (4, [.ref d0, .ref d1, .ref d2, .ref d3, .ref d4, .ref d5, .ref d6, .ref d7, .ref d8, .ref d9, .ref d10, .ref d11, .ref d12, .ref d13, .ref d14, .ref d15, .ref d16, .int cd])), (d5, .inl (G.2.1 0, 4, .inl f5)), (d9, .inl (G.2.1 1, 48, .inr (.inl f9)))] H := hP
  have hD : va_D A [(ma, .inr (4, [.ref d0, .ref d1, .ref d2, .ref d3, .ref d4, .ref d5, .ref d6, .ref d7, .ref d8, .ref d9, .ref d10, .ref d11, .ref d12, .ref d13, .ref d14, .ref d15, .ref d16, .int cd])), (d5, .inl (G.2.1 0, 4, .inl f5)), (d9, .inl (G.2.1 1, 48, .inr (.inl f9)))] := hD
  refine cs_i (As := [.int (nI i), .long (fX4_coded (nI i) hh lo)]) (rest := [.ref ma]) ⟨hx, hb, hml, hown, hts⟩ (kX4_isIll l G (nI i) (fX4_coded (nI i) hh lo)) (va_cwS 2 hts gX4_turn_X4_isIll rfl rfl rfl (by decide +kernel) ⟨Nat.le_of_ble_eq_true rfl, Nat.le_of_ble_eq_true rfl⟩) hE hK hP hD hS hA hl.1 [] rfl rfl rfl rfl rfl rfl (Nat.le_of_ble_eq_true rfl) dX4_turn_18 ⟨Nat.zero_le _, Nat.zero_le _⟩ (fun H locs hP hD hS => ?_)
  have hP : va_P G.1 vwCl [(ma, .inr (4, [.ref d0, .ref d1, .ref d2, .ref d3, .ref d4, .ref d5, .ref d6, .ref d7, .ref d8, .ref d9, .ref d10, .ref d11, .ref d12, .ref d13, .ref d14, .ref d15, .ref d16, .int cd])), (d5, .inl (G.2.1 0, 4, .inl f5)), (d9, .inl (G.2.1 1, 48, .inr (.inl f9)))] H := hP
  have hD : va_D A [(ma, .inr (4, [.ref d0, .ref d1, .ref d2, .ref d3, .ref d4, .ref d5, .ref d6, .ref d7, .ref d8, .ref d9, .ref d10, .ref d11, .ref d12, .ref d13, .ref d14, .ref d15, .ref d16, .int cd])), (d5, .inl (G.2.1 0, 4, .inl f5)), (d9, .inl (G.2.1 1, 48, .inr (.inl f9)))] := hD
  refine bz_eq (tgt := 28) hx hb dX4_turn_21 (by decide) (fun _ => ?_) (fun h9 => absurd hill h9)
  refine lv_iconst (v := (0:Int32)) hx hb dX4_turn_28 (by decide) ?_
  refine lv_iconst (v := (0:Int32)) hx hb dX4_turn_29 (by decide) ?_
  refine cv_i (As := [.int (0:Int32), .int (0:Int32)]) (rest := []) (ws' := [(ma, .inr (4, [.ref d0, .ref d1, .ref d2, .ref d3, .ref d4, .ref d5, .ref d6, .ref d7, .ref d8, .ref d9, .ref d10, .ref d11, .ref d12, .ref d13, .ref d14, .ref d15, .ref d16, .int (0:Int32)])), (d5, .inl (G.2.1 0, 4, .inl f5)), (d9, .inl (G.2.1 1, 48, .inr (.inl f9)))]) ⟨hx, hb, hml, hown, hts⟩ (kX4_refuses00 l G ma d0 d1 d2 d3 d4 d5 d6 d7 d8 d9 d10 d11 d12 d13 d14 d15 d16 cd) (cwV 2 hts gX4_turn_X4_refuses rfl rfl rfl (by decide +kernel) ⟨Nat.le_of_ble_eq_true rfl, Nat.le_of_ble_eq_true rfl⟩) (va_recv hK hP (ci := 4) (q0 := 0) rfl rfl) hE hK hP hD hS hA hl.1 [0] rfl rfl rfl rfl rfl rfl (Nat.le_of_ble_eq_true rfl) dX4_turn_30 ⟨Nat.zero_le _, Nat.zero_le _⟩ (fun H locs hP hD hS => ?_)
  refine bz_eq (tgt := 38) hx hb dX4_turn_33 (by decide) (fun _ => ?_) (fun h9 => absurd rfl h9)
  refine lv_bipush (v := (12:Int32)) hx hb dX4_turn_38 (by decide) ?_
  refine lv_iload_n hx hb dX4_turn_40 rfl (lv_at hl 1 rfl) ?_
  refine lv_imul hx hb dX4_turn_41 ?_
  rw [show ((12:Int32) * (nI i)) = nI (12 * i) from pk_mul 12 i]
  refine lv_iload_n hx hb dX4_turn_42 rfl (lv_at hl 2 rfl) ?_
  refine lv_iadd hx hb dX4_turn_43 ?_
  rw [nI_add]
  refine lv_istore (lv' := [(5, .int (nI ((12 * i) + u))), (0, .ref ma), (1, .int (nI i)), (2, .int (nI u)), (3, .int hh), (4, .int lo)]) hx hb dX4_turn_44 hl (by decide) rfl (fun ls hl => ?_)
  refine lv_aload_n hx hb dX4_turn_46 rfl (lv_at hl 1 rfl) ?_
  refine va_get (D := G.1) (ci := 4) (v := .ref d9) (C := RX4) (T := TX4) (N := 18) hx hb hts (by decide +kernel) hown hK hP 0 rfl rfl 9 (by decide) (hts (.fieldLink RX4 39 "PedalBoardModel" "knob" "[J") (by decide +kernel)) (fun _ h9 => h9) rfl dX4_turn_47 ?_
  refine lv_iload hx hb dX4_turn_50 (lv_at hl 0 rfl) ?_
  refine ar_lld hx hb hK hP 2 rfl ((12 * i) + u) rfl (by omega) (by decide) dX4_turn_52 ?_
  refine lv_iload_n hx hb dX4_turn_53 rfl (lv_at hl 2 rfl) ?_
  refine lv_iload_n hx hb dX4_turn_54 rfl (lv_at hl 4 rfl) ?_
  refine lv_iload hx hb dX4_turn_55 (lv_at hl 5 rfl) ?_
  refine cs_l (As := [.int (nI i), .int hh, .int lo]) (rest := [.long (f9 ((12 * i) + u))]) ⟨hx, hb, hml, hown, hts⟩ (kX4_coded l G (nI i) hh lo) (va_cwS 3 hts gX4_turn_X4_coded rfl rfl rfl (by decide +kernel) ⟨Nat.le_of_ble_eq_true rfl, Nat.le_of_ble_eq_true rfl⟩) hE hK hP hD hS hA hl.1 [] rfl rfl rfl rfl rfl rfl (Nat.le_of_ble_eq_true rfl) dX4_turn_57 ⟨Nat.zero_le _, Nat.zero_le _⟩ (fun H locs hP hD hS => ?_)
  have hP : va_P G.1 vwCl [(ma, .inr (4, [.ref d0, .ref d1, .ref d2, .ref d3, .ref d4, .ref d5, .ref d6, .ref d7, .ref d8, .ref d9, .ref d10, .ref d11, .ref d12, .ref d13, .ref d14, .ref d15, .ref d16, .int (0:Int32)])), (d5, .inl (G.2.1 0, 4, .inl f5)), (d9, .inl (G.2.1 1, 48, .inr (.inl f9)))] H := hP
  have hD : va_D A [(ma, .inr (4, [.ref d0, .ref d1, .ref d2, .ref d3, .ref d4, .ref d5, .ref d6, .ref d7, .ref d8, .ref d9, .ref d10, .ref d11, .ref d12, .ref d13, .ref d14, .ref d15, .ref d16, .int (0:Int32)])), (d5, .inl (G.2.1 0, 4, .inl f5)), (d9, .inl (G.2.1 1, 48, .inr (.inl f9)))] := hD
  refine jn_2 (T := Int32) G A (if (f9 ((12 * i) + u)) = (fX4_coded (nI i) hh lo) then (0:Int32) else (1:Int32)) (fun y => [(ma, .inr (4, [.ref d0, .ref d1, .ref d2, .ref d3, .ref d4, .ref d5, .ref d6, .ref d7, .ref d8, .ref d9, .ref d10, .ref d11, .ref d12, .ref d13, .ref d14, .ref d15, .ref d16, .int (0:Int32)])), (d5, .inl (G.2.1 0, 4, .inl f5)), (d9, .inl (G.2.1 1, 48, .inr (.inl f9)))]) 7 (fun y => [(0, .ref ma), (1, .int (nI i)), (3, .int hh), (4, .int lo), (5, .int (nI ((12 * i) + u)))]) (fun y => [.int y]) 69 ?_ ?_
  · intro y_1 ey_1 H locs ls hP hD hS hl
    have hl : lv_has ls 7 [(0, .ref ma), (1, .int (nI i)), (3, .int hh), (4, .int lo), (5, .int (nI ((12 * i) + u)))] := hl
    have hP : va_P G.1 vwCl [(ma, .inr (4, [.ref d0, .ref d1, .ref d2, .ref d3, .ref d4, .ref d5, .ref d6, .ref d7, .ref d8, .ref d9, .ref d10, .ref d11, .ref d12, .ref d13, .ref d14, .ref d15, .ref d16, .int (0:Int32)])), (d5, .inl (G.2.1 0, 4, .inl f5)), (d9, .inl (G.2.1 1, 48, .inr (.inl f9)))] H := hP
    have hD : va_D A [(ma, .inr (4, [.ref d0, .ref d1, .ref d2, .ref d3, .ref d4, .ref d5, .ref d6, .ref d7, .ref d8, .ref d9, .ref d10, .ref d11, .ref d12, .ref d13, .ref d14, .ref d15, .ref d16, .int (0:Int32)])), (d5, .inl (G.2.1 0, 4, .inl f5)), (d9, .inl (G.2.1 1, 48, .inr (.inl f9)))] := hD
    have hr_3 : (fX4_turn f9 i u hh lo) = fX4_turn_69 y_1 := by rw [ey_1, fX4_turn]
    refine lv_istore (lv' := [(6, .int y_1), (0, .ref ma), (1, .int (nI i)), (3, .int hh), (4, .int lo), (5, .int (nI ((12 * i) + u)))]) hx hb dX4_turn_69 hl (by decide) rfl (fun ls hl => ?_)
    refine lv_aload_n hx hb dX4_turn_71 rfl (lv_at hl 1 rfl) ?_
    refine va_get (D := G.1) (ci := 4) (v := .ref d9) (C := RX4) (T := TX4) (N := 18) hx hb hts (by decide +kernel) hown hK hP 0 rfl rfl 9 (by decide) (hts (.fieldLink RX4 39 "PedalBoardModel" "knob" "[J") (by decide +kernel)) (fun _ h9 => h9) rfl dX4_turn_72 ?_
    refine lv_iload hx hb dX4_turn_75 (lv_at hl 5 rfl) ?_
    refine lv_iload_n hx hb dX4_turn_77 rfl (lv_at hl 2 rfl) ?_
    refine lv_iload_n hx hb dX4_turn_78 rfl (lv_at hl 3 rfl) ?_
    refine lv_iload hx hb dX4_turn_79 (lv_at hl 4 rfl) ?_
    refine cs_l (As := [.int (nI i), .int hh, .int lo]) (rest := [.int (nI ((12 * i) + u)), .ref d9]) ⟨hx, hb, hml, hown, hts⟩ (kX4_coded l G (nI i) hh lo) (va_cwS 3 hts gX4_turn_X4_coded rfl rfl rfl (by decide +kernel) ⟨Nat.le_of_ble_eq_true rfl, Nat.le_of_ble_eq_true rfl⟩) hE hK hP hD hS hA hl.1 [] rfl rfl rfl rfl rfl rfl (Nat.le_of_ble_eq_true rfl) dX4_turn_81 ⟨Nat.zero_le _, Nat.zero_le _⟩ (fun H locs hP hD hS => ?_)
    have hP : va_P G.1 vwCl [(ma, .inr (4, [.ref d0, .ref d1, .ref d2, .ref d3, .ref d4, .ref d5, .ref d6, .ref d7, .ref d8, .ref d9, .ref d10, .ref d11, .ref d12, .ref d13, .ref d14, .ref d15, .ref d16, .int (0:Int32)])), (d5, .inl (G.2.1 0, 4, .inl f5)), (d9, .inl (G.2.1 1, 48, .inr (.inl f9)))] H := hP
    have hD : va_D A [(ma, .inr (4, [.ref d0, .ref d1, .ref d2, .ref d3, .ref d4, .ref d5, .ref d6, .ref d7, .ref d8, .ref d9, .ref d10, .ref d11, .ref d12, .ref d13, .ref d14, .ref d15, .ref d16, .int (0:Int32)])), (d5, .inl (G.2.1 0, 4, .inl f5)), (d9, .inl (G.2.1 1, 48, .inr (.inl f9)))] := hD
    refine ar_lst hx hb hK hP hD hS 2 rfl ((12 * i) + u) rfl (by omega) (by decide) dX4_turn_84 (fun H locs hP hD hS => ?_)
    have hP : va_P G.1 vwCl [(ma, .inr (4, [.ref d0, .ref d1, .ref d2, .ref d3, .ref d4, .ref d5, .ref d6, .ref d7, .ref d8, .ref d9, .ref d10, .ref d11, .ref d12, .ref d13, .ref d14, .ref d15, .ref d16, .int (0:Int32)])), (d5, .inl (G.2.1 0, 4, .inl f5)), (d9, .inl (G.2.1 1, 48, .inr (.inl (vp_updL f9 ((12 * i) + u) (fX4_coded (nI i) hh lo)))))] H := hP
    have hD : va_D A [(ma, .inr (4, [.ref d0, .ref d1, .ref d2, .ref d3, .ref d4, .ref d5, .ref d6, .ref d7, .ref d8, .ref d9, .ref d10, .ref d11, .ref d12, .ref d13, .ref d14, .ref d15, .ref d16, .int (0:Int32)])), (d5, .inl (G.2.1 0, 4, .inl f5)), (d9, .inl (G.2.1 1, 48, .inr (.inl (vp_updL f9 ((12 * i) + u) (fX4_coded (nI i) hh lo)))))] := hD
    refine lv_iload hx hb dX4_turn_85 (lv_at hl 0 rfl) ?_
    subst ey_1
    exact rt_z hx hb hr hlocks hP hD hS dX4_turn_87 (by rw [hr_3, fX4_turn_69]) (z_nar (by repeat (first | exact Or.inl rfl | exact Or.inr rfl | split)))
  · intro kj_1
    refine bl_eq (tgt := 68) hx hb dX4_turn_60 dX4_turn_61 (by decide) (fun c_2 => ?_) (fun c_2 => ?_)
    · refine lv_iconst (v := (0:Int32)) hx hb dX4_turn_68 (by decide) ?_
      exact kj_1 (0:Int32) (by rw [if_pos c_2]) _ _ _ hP hD hS (lv_sub hl [1, 2, 4, 5, 0] rfl)
    · refine lv_iconst (v := (1:Int32)) hx hb dX4_turn_64 (by decide) ?_
      refine lv_goto (tgt := 69) hx hb dX4_turn_65 (by decide) ?_
      exact kj_1 (1:Int32) (by rw [if_neg c_2]) _ _ _ hP hD hS (lv_sub hl [1, 2, 4, 5, 0] rfl)
theorem z_X4_turn (f9 : Nat → Int64) (i : Nat) (u : Nat) (hh : Int32) (lo : Int32) : (fX4_turn f9 i u hh lo) = 0 ∨ (fX4_turn f9 i u hh lo) = 1 := by
  unfold fX4_turn fX4_turn_69; repeat (first | exact Or.inl rfl | exact Or.inr rfl | split)
set_option maxHeartbeats 4000000 in
set_option maxRecDepth 100000 in
theorem kX4_turnB0 (l : Launch) (G : GT) (ma : Nat) (d0 : Nat) (d1 : Nat) (d2 : Nat) (d3 : Nat) (d4 : Nat) (d5 : Nat) (d6 : Nat) (d7 : Nat) (d8 : Nat) (d9 : Nat) (d10 : Nat) (d11 : Nat) (d12 : Nat) (d13 : Nat) (d14 : Nat) (d15 : Nat) (d16 : Nat) (cd : Int32) (wi : Int32) (pl : Int32) (hh : Int32) (lo : Int32) (hwi : fX4_isWire wi = 0) : CI l yX4_turn wsX4_turn { frames := 2, cells := 0, slots := 0, locals := 42 } G [.ref ma, .int wi, .int pl, .int hh, .int lo] [(ma, .inr (4, [.ref d0, .ref d1, .ref d2, .ref d3, .ref d4, .ref d5, .ref d6, .ref d7, .ref d8, .ref d9, .ref d10, .ref d11, .ref d12, .ref d13, .ref d14, .ref d15, .ref d16, .int cd]))] (0:Int32) [(ma, .inr (4, [.ref d0, .ref d1, .ref d2, .ref d3, .ref d4, .ref d5, .ref d6, .ref d7, .ref d8, .ref d9, .ref d10, .ref d11, .ref d12, .ref d13, .ref d14, .ref d15, .ref d16, .int (1:Int32)]))] := by
  refine en_i (cc := cX4_turn) (maxL := 7) (ret := (some .boolean)) (own := RX4) (by decide) rfl rfl (Nat.le_of_ble_eq_true rfl) ?_
  intro p e s m below meth c A ls hx hb hr hts hown hml hlocks hA hK hE hP hD hS hl
  have hl : lv_has ls 7 [(0, .ref ma), (1, .int wi), (2, .int pl), (3, .int hh), (4, .int lo)] := hl
  refine lv_aload_n hx hb dX4_turn_0 rfl (lv_at hl 0 rfl) ?_
  refine lv_aload_n hx hb dX4_turn_1 rfl (lv_at hl 0 rfl) ?_
  refine lv_iload_n hx hb dX4_turn_2 rfl (lv_at hl 1 rfl) ?_
  refine lv_iload_n hx hb dX4_turn_3 rfl (lv_at hl 2 rfl) ?_
  refine cv_i (As := [.int wi, .int pl]) (rest := [.ref ma]) (ws' := [(ma, .inr (4, [.ref d0, .ref d1, .ref d2, .ref d3, .ref d4, .ref d5, .ref d6, .ref d7, .ref d8, .ref d9, .ref d10, .ref d11, .ref d12, .ref d13, .ref d14, .ref d15, .ref d16, .int cd]))]) ⟨hx, hb, hml, hown, hts⟩ (kX4_isPedalN l G ma d0 d1 d2 d3 d4 d5 d6 d7 d8 d9 d10 d11 d12 d13 d14 d15 d16 cd wi pl (by first | assumption | omega)) (cwV 2 hts gX4_turn_X4_isPedal rfl rfl rfl (by decide +kernel) ⟨Nat.le_of_ble_eq_true rfl, Nat.le_of_ble_eq_true rfl⟩) (va_recv hK hP (ci := 4) (q0 := 0) rfl rfl) hE hK hP hD hS hA hl.1 [0] rfl rfl rfl rfl rfl rfl (Nat.le_of_ble_eq_true rfl) dX4_turn_4 ⟨Nat.zero_le _, Nat.zero_le _⟩ (fun H locs hP hD hS => ?_)
  refine bz_eq (tgt := 24) hx hb dX4_turn_7 (by decide) (fun _ => ?_) (fun h9 => absurd rfl h9)
  refine lv_iconst (v := (1:Int32)) hx hb dX4_turn_24 (by decide) ?_
  refine lv_goto (tgt := 29) hx hb dX4_turn_25 (by decide) ?_
  refine lv_iconst (v := (0:Int32)) hx hb dX4_turn_29 (by decide) ?_
  refine cv_i (As := [.int (1:Int32), .int (0:Int32)]) (rest := []) (ws' := [(ma, .inr (4, [.ref d0, .ref d1, .ref d2, .ref d3, .ref d4, .ref d5, .ref d6, .ref d7, .ref d8, .ref d9, .ref d10, .ref d11, .ref d12, .ref d13, .ref d14, .ref d15, .ref d16, .int (1:Int32)]))]) ⟨hx, hb, hml, hown, hts⟩ (kX4_refuses10 l G ma d0 d1 d2 d3 d4 d5 d6 d7 d8 d9 d10 d11 d12 d13 d14 d15 d16 cd) (cwV 2 hts gX4_turn_X4_refuses rfl rfl rfl (by decide +kernel) ⟨Nat.le_of_ble_eq_true rfl, Nat.le_of_ble_eq_true rfl⟩) (va_recv hK hP (ci := 4) (q0 := 0) rfl rfl) hE hK hP hD hS hA hl.1 [0] rfl rfl rfl rfl rfl rfl (Nat.le_of_ble_eq_true rfl) dX4_turn_30 ⟨Nat.zero_le _, Nat.zero_le _⟩ (fun H locs hP hD hS => ?_)
  refine bz_eq (tgt := 38) hx hb dX4_turn_33 (by decide) (fun h9 => absurd h9 (by decide)) (fun _ => ?_)
  refine lv_iconst (v := (0:Int32)) hx hb dX4_turn_36 (by decide) ?_
  exact rt_z hx hb hr hlocks hP hD hS dX4_turn_37 rfl (z_nar (Or.inl rfl))
set_option maxHeartbeats 4000000 in
set_option maxRecDepth 100000 in
theorem kX4_turnB1 (l : Launch) (G : GT) (ma : Nat) (d0 : Nat) (d1 : Nat) (d2 : Nat) (d3 : Nat) (d4 : Nat) (d5 : Nat) (d6 : Nat) (d7 : Nat) (d8 : Nat) (d9 : Nat) (d10 : Nat) (d11 : Nat) (d12 : Nat) (d13 : Nat) (d14 : Nat) (d15 : Nat) (d16 : Nat) (cd : Int32) (f5 : Nat → Int32) (i : Nat) (n : Nat) (pl : Int32) (hh : Int32) (lo : Int32) (hi4 : i < 4) (hm : f5 i = nI n) (hpl : fX4_isPedal n pl = 0) : CI l yX4_turn wsX4_turn { frames := 2, cells := 0, slots := 0, locals := 42 } G [.ref ma, .int (nI i), .int pl, .int hh, .int lo] [(ma, .inr (4, [.ref d0, .ref d1, .ref d2, .ref d3, .ref d4, .ref d5, .ref d6, .ref d7, .ref d8, .ref d9, .ref d10, .ref d11, .ref d12, .ref d13, .ref d14, .ref d15, .ref d16, .int cd])), (d5, .inl (G.2.1 0, 4, .inl f5))] (0:Int32) [(ma, .inr (4, [.ref d0, .ref d1, .ref d2, .ref d3, .ref d4, .ref d5, .ref d6, .ref d7, .ref d8, .ref d9, .ref d10, .ref d11, .ref d12, .ref d13, .ref d14, .ref d15, .ref d16, .int (1:Int32)])), (d5, .inl (G.2.1 0, 4, .inl f5))] := by
  refine en_i (cc := cX4_turn) (maxL := 7) (ret := (some .boolean)) (own := RX4) (by decide) rfl rfl (Nat.le_of_ble_eq_true rfl) ?_
  intro p e s m below meth c A ls hx hb hr hts hown hml hlocks hA hK hE hP hD hS hl
  have hl : lv_has ls 7 [(0, .ref ma), (1, .int (nI i)), (2, .int pl), (3, .int hh), (4, .int lo)] := hl
  refine lv_aload_n hx hb dX4_turn_0 rfl (lv_at hl 0 rfl) ?_
  refine lv_aload_n hx hb dX4_turn_1 rfl (lv_at hl 0 rfl) ?_
  refine lv_iload_n hx hb dX4_turn_2 rfl (lv_at hl 1 rfl) ?_
  refine lv_iload_n hx hb dX4_turn_3 rfl (lv_at hl 2 rfl) ?_
  refine cv_i (As := [.int (nI i), .int pl]) (rest := [.ref ma]) (ws' := [(ma, .inr (4, [.ref d0, .ref d1, .ref d2, .ref d3, .ref d4, .ref d5, .ref d6, .ref d7, .ref d8, .ref d9, .ref d10, .ref d11, .ref d12, .ref d13, .ref d14, .ref d15, .ref d16, .int cd])), (d5, .inl (G.2.1 0, 4, .inl f5))]) ⟨hx, hb, hml, hown, hts⟩ (kX4_isPedal l G ma d0 d1 d2 d3 d4 d5 d6 d7 d8 d9 d10 d11 d12 d13 d14 d15 d16 cd f5 i n pl (by first | assumption | omega) (by first | assumption | omega)) (cwV 2 hts gX4_turn_X4_isPedal rfl rfl rfl (by decide +kernel) ⟨Nat.le_of_ble_eq_true rfl, Nat.le_of_ble_eq_true rfl⟩) (va_recv hK hP (ci := 4) (q0 := 0) rfl rfl) hE hK hP hD hS hA hl.1 [0, 1] rfl rfl rfl rfl rfl rfl (Nat.le_of_ble_eq_true rfl) dX4_turn_4 ⟨Nat.zero_le _, Nat.zero_le _⟩ (fun H locs hP hD hS => ?_)
  refine bz_eq (tgt := 24) hx hb dX4_turn_7 (by decide) (fun _ => ?_) (fun h9 => absurd hpl h9)
  refine lv_iconst (v := (1:Int32)) hx hb dX4_turn_24 (by decide) ?_
  refine lv_goto (tgt := 29) hx hb dX4_turn_25 (by decide) ?_
  refine lv_iconst (v := (0:Int32)) hx hb dX4_turn_29 (by decide) ?_
  refine cv_i (As := [.int (1:Int32), .int (0:Int32)]) (rest := []) (ws' := [(ma, .inr (4, [.ref d0, .ref d1, .ref d2, .ref d3, .ref d4, .ref d5, .ref d6, .ref d7, .ref d8, .ref d9, .ref d10, .ref d11, .ref d12, .ref d13, .ref d14, .ref d15, .ref d16, .int (1:Int32)])), (d5, .inl (G.2.1 0, 4, .inl f5))]) ⟨hx, hb, hml, hown, hts⟩ (kX4_refuses10 l G ma d0 d1 d2 d3 d4 d5 d6 d7 d8 d9 d10 d11 d12 d13 d14 d15 d16 cd) (cwV 2 hts gX4_turn_X4_refuses rfl rfl rfl (by decide +kernel) ⟨Nat.le_of_ble_eq_true rfl, Nat.le_of_ble_eq_true rfl⟩) (va_recv hK hP (ci := 4) (q0 := 0) rfl rfl) hE hK hP hD hS hA hl.1 [0] rfl rfl rfl rfl rfl rfl (Nat.le_of_ble_eq_true rfl) dX4_turn_30 ⟨Nat.zero_le _, Nat.zero_le _⟩ (fun H locs hP hD hS => ?_)
  refine bz_eq (tgt := 38) hx hb dX4_turn_33 (by decide) (fun h9 => absurd h9 (by decide)) (fun _ => ?_)
  refine lv_iconst (v := (0:Int32)) hx hb dX4_turn_36 (by decide) ?_
  exact rt_z hx hb hr hlocks hP hD hS dX4_turn_37 rfl (z_nar (Or.inl rfl))
set_option maxHeartbeats 4000000 in
set_option maxRecDepth 100000 in
theorem kX4_turnB2 (l : Launch) (G : GT) (ma : Nat) (d0 : Nat) (d1 : Nat) (d2 : Nat) (d3 : Nat) (d4 : Nat) (d5 : Nat) (d6 : Nat) (d7 : Nat) (d8 : Nat) (d9 : Nat) (d10 : Nat) (d11 : Nat) (d12 : Nat) (d13 : Nat) (d14 : Nat) (d15 : Nat) (d16 : Nat) (cd : Int32) (f5 : Nat → Int32) (i : Nat) (n : Nat) (pl : Int32) (hh : Int32) (lo : Int32) (hi4 : i < 4) (hm : f5 i = nI n) (hpl : ¬ fX4_isPedal n pl = 0) (hill : ¬ fX4_isIll (nI i) (fX4_coded (nI i) hh lo) = 0) : CI l yX4_turn wsX4_turn { frames := 3, cells := 0, slots := 0, locals := 66 } G [.ref ma, .int (nI i), .int pl, .int hh, .int lo] [(ma, .inr (4, [.ref d0, .ref d1, .ref d2, .ref d3, .ref d4, .ref d5, .ref d6, .ref d7, .ref d8, .ref d9, .ref d10, .ref d11, .ref d12, .ref d13, .ref d14, .ref d15, .ref d16, .int cd])), (d5, .inl (G.2.1 0, 4, .inl f5))] (0:Int32) [(ma, .inr (4, [.ref d0, .ref d1, .ref d2, .ref d3, .ref d4, .ref d5, .ref d6, .ref d7, .ref d8, .ref d9, .ref d10, .ref d11, .ref d12, .ref d13, .ref d14, .ref d15, .ref d16, .int (1:Int32)])), (d5, .inl (G.2.1 0, 4, .inl f5))] := by
  refine en_i (cc := cX4_turn) (maxL := 7) (ret := (some .boolean)) (own := RX4) (by decide) rfl rfl (Nat.le_of_ble_eq_true rfl) ?_
  intro p e s m below meth c A ls hx hb hr hts hown hml hlocks hA hK hE hP hD hS hl
  have hl : lv_has ls 7 [(0, .ref ma), (1, .int (nI i)), (2, .int pl), (3, .int hh), (4, .int lo)] := hl
  refine lv_aload_n hx hb dX4_turn_0 rfl (lv_at hl 0 rfl) ?_
  refine lv_aload_n hx hb dX4_turn_1 rfl (lv_at hl 0 rfl) ?_
  refine lv_iload_n hx hb dX4_turn_2 rfl (lv_at hl 1 rfl) ?_
  refine lv_iload_n hx hb dX4_turn_3 rfl (lv_at hl 2 rfl) ?_
  refine cv_i (As := [.int (nI i), .int pl]) (rest := [.ref ma]) (ws' := [(ma, .inr (4, [.ref d0, .ref d1, .ref d2, .ref d3, .ref d4, .ref d5, .ref d6, .ref d7, .ref d8, .ref d9, .ref d10, .ref d11, .ref d12, .ref d13, .ref d14, .ref d15, .ref d16, .int cd])), (d5, .inl (G.2.1 0, 4, .inl f5))]) ⟨hx, hb, hml, hown, hts⟩ (kX4_isPedal l G ma d0 d1 d2 d3 d4 d5 d6 d7 d8 d9 d10 d11 d12 d13 d14 d15 d16 cd f5 i n pl (by first | assumption | omega) (by first | assumption | omega)) (cwV 2 hts gX4_turn_X4_isPedal rfl rfl rfl (by decide +kernel) ⟨Nat.le_of_ble_eq_true rfl, Nat.le_of_ble_eq_true rfl⟩) (va_recv hK hP (ci := 4) (q0 := 0) rfl rfl) hE hK hP hD hS hA hl.1 [0, 1] rfl rfl rfl rfl rfl rfl (Nat.le_of_ble_eq_true rfl) dX4_turn_4 ⟨Nat.zero_le _, Nat.zero_le _⟩ (fun H locs hP hD hS => ?_)
  refine bz_eq (tgt := 24) hx hb dX4_turn_7 (by decide) (fun h9 => absurd h9 hpl) (fun _ => ?_)
  refine lv_iload_n hx hb dX4_turn_10 rfl (lv_at hl 1 rfl) ?_
  refine lv_iload_n hx hb dX4_turn_11 rfl (lv_at hl 1 rfl) ?_
  refine lv_iload_n hx hb dX4_turn_12 rfl (lv_at hl 3 rfl) ?_
  refine lv_iload hx hb dX4_turn_13 (lv_at hl 4 rfl) ?_
  refine cs_l (As := [.int (nI i), .int hh, .int lo]) (rest := [.int (nI i), .ref ma]) ⟨hx, hb, hml, hown, hts⟩ (kX4_coded l G (nI i) hh lo) (va_cwS 3 hts gX4_turn_X4_coded rfl rfl rfl (by decide +kernel) ⟨Nat.le_of_ble_eq_true rfl, Nat.le_of_ble_eq_true rfl⟩) hE hK hP hD hS hA hl.1 [] rfl rfl rfl rfl rfl rfl (Nat.le_of_ble_eq_true rfl) dX4_turn_15 ⟨Nat.zero_le _, Nat.zero_le _⟩ (fun H locs hP hD hS => ?_)
  have hP : va_P G.1 vwCl [(ma, .inr (4, [.ref d0, .ref d1, .ref d2, .ref d3, .ref d4, .ref d5, .ref d6, .ref d7, .ref d8, .ref d9, .ref d10, .ref d11, .ref d12, .ref d13, .ref d14, .ref d15, .ref d16, .int cd])), (d5, .inl (G.2.1 0, 4, .inl f5))] H := hP
  have hD : va_D A [(ma, .inr (4, [.ref d0, .ref d1, .ref d2, .ref d3, .ref d4, .ref d5, .ref d6, .ref d7, .ref d8, .ref d9, .ref d10, .ref d11, .ref d12, .ref d13, .ref d14, .ref d15, .ref d16, .int cd])), (d5, .inl (G.2.1 0, 4, .inl f5))] := hD
  refine cs_i (As := [.int (nI i), .long (fX4_coded (nI i) hh lo)]) (rest := [.ref ma]) ⟨hx, hb, hml, hown, hts⟩ (kX4_isIll l G (nI i) (fX4_coded (nI i) hh lo)) (va_cwS 2 hts gX4_turn_X4_isIll rfl rfl rfl (by decide +kernel) ⟨Nat.le_of_ble_eq_true rfl, Nat.le_of_ble_eq_true rfl⟩) hE hK hP hD hS hA hl.1 [] rfl rfl rfl rfl rfl rfl (Nat.le_of_ble_eq_true rfl) dX4_turn_18 ⟨Nat.zero_le _, Nat.zero_le _⟩ (fun H locs hP hD hS => ?_)
  have hP : va_P G.1 vwCl [(ma, .inr (4, [.ref d0, .ref d1, .ref d2, .ref d3, .ref d4, .ref d5, .ref d6, .ref d7, .ref d8, .ref d9, .ref d10, .ref d11, .ref d12, .ref d13, .ref d14, .ref d15, .ref d16, .int cd])), (d5, .inl (G.2.1 0, 4, .inl f5))] H := hP
  have hD : va_D A [(ma, .inr (4, [.ref d0, .ref d1, .ref d2, .ref d3, .ref d4, .ref d5, .ref d6, .ref d7, .ref d8, .ref d9, .ref d10, .ref d11, .ref d12, .ref d13, .ref d14, .ref d15, .ref d16, .int cd])), (d5, .inl (G.2.1 0, 4, .inl f5))] := hD
  refine bz_eq (tgt := 28) hx hb dX4_turn_21 (by decide) (fun h9 => absurd h9 hill) (fun _ => ?_)
  refine lv_iconst (v := (1:Int32)) hx hb dX4_turn_24 (by decide) ?_
  refine lv_goto (tgt := 29) hx hb dX4_turn_25 (by decide) ?_
  refine lv_iconst (v := (0:Int32)) hx hb dX4_turn_29 (by decide) ?_
  refine cv_i (As := [.int (1:Int32), .int (0:Int32)]) (rest := []) (ws' := [(ma, .inr (4, [.ref d0, .ref d1, .ref d2, .ref d3, .ref d4, .ref d5, .ref d6, .ref d7, .ref d8, .ref d9, .ref d10, .ref d11, .ref d12, .ref d13, .ref d14, .ref d15, .ref d16, .int (1:Int32)])), (d5, .inl (G.2.1 0, 4, .inl f5))]) ⟨hx, hb, hml, hown, hts⟩ (kX4_refuses10 l G ma d0 d1 d2 d3 d4 d5 d6 d7 d8 d9 d10 d11 d12 d13 d14 d15 d16 cd) (cwV 2 hts gX4_turn_X4_refuses rfl rfl rfl (by decide +kernel) ⟨Nat.le_of_ble_eq_true rfl, Nat.le_of_ble_eq_true rfl⟩) (va_recv hK hP (ci := 4) (q0 := 0) rfl rfl) hE hK hP hD hS hA hl.1 [0] rfl rfl rfl rfl rfl rfl (Nat.le_of_ble_eq_true rfl) dX4_turn_30 ⟨Nat.zero_le _, Nat.zero_le _⟩ (fun H locs hP hD hS => ?_)
  refine bz_eq (tgt := 38) hx hb dX4_turn_33 (by decide) (fun h9 => absurd h9 (by decide)) (fun _ => ?_)
  refine lv_iconst (v := (0:Int32)) hx hb dX4_turn_36 (by decide) ?_
  exact rt_z hx hb hr hlocks hP hD hS dX4_turn_37 rfl (z_nar (Or.inl rfl))
def fX4_tap_53 (f11 : Nat → Int32) (i : Nat) (u : Nat) (y_1 : Int32) : Int32 := ((upd f11 ((12 * i) + u) y_1) ((12 * i) + u))
def fX4_tap (f11 : Nat → Int32) (i : Nat) (u : Nat) : Int32 := (fX4_tap_53 f11 i u (if (f11 ((12 * i) + u)) = 0 then (1:Int32) else (0:Int32)))
set_option maxHeartbeats 4000000 in
set_option maxRecDepth 100000 in
theorem kX4_tap (l : Launch) (G : GT) (ma : Nat) (d0 : Nat) (d1 : Nat) (d2 : Nat) (d3 : Nat) (d4 : Nat) (d5 : Nat) (d6 : Nat) (d7 : Nat) (d8 : Nat) (d9 : Nat) (d10 : Nat) (d11 : Nat) (d12 : Nat) (d13 : Nat) (d14 : Nat) (d15 : Nat) (d16 : Nat) (cd : Int32) (f5 : Nat → Int32) (f11 : Nat → Int32) (i : Nat) (n : Nat) (u : Nat) (hi4 : i < 4) (hm : f5 i = nI n) (hn : n ≤ 12) (hu : u < n) : CI l yX4_tap wsX4_tap { frames := 2, cells := 0, slots := 0, locals := 42 } G [.ref ma, .int (nI i), .int (nI u)] [(ma, .inr (4, [.ref d0, .ref d1, .ref d2, .ref d3, .ref d4, .ref d5, .ref d6, .ref d7, .ref d8, .ref d9, .ref d10, .ref d11, .ref d12, .ref d13, .ref d14, .ref d15, .ref d16, .int cd])), (d5, .inl (G.2.1 0, 4, .inl f5)), (d11, .inl (G.2.1 2, 48, .inl f11))] (fX4_tap f11 i u) [(ma, .inr (4, [.ref d0, .ref d1, .ref d2, .ref d3, .ref d4, .ref d5, .ref d6, .ref d7, .ref d8, .ref d9, .ref d10, .ref d11, .ref d12, .ref d13, .ref d14, .ref d15, .ref d16, .int (0:Int32)])), (d5, .inl (G.2.1 0, 4, .inl f5)), (d11, .inl (G.2.1 2, 48, .inl (upd f11 ((12 * i) + u) (if (f11 ((12 * i) + u)) = 0 then (1:Int32) else (0:Int32)))))] := by
  refine en_i (cc := cX4_tap) (maxL := 3) (ret := (some .boolean)) (own := RX4) (by decide) rfl rfl (Nat.le_of_ble_eq_true rfl) ?_
  intro p e s m below meth c A ls hx hb hr hts hown hml hlocks hA hK hE hP hD hS hl
  have hl : lv_has ls 3 [(0, .ref ma), (1, .int (nI i)), (2, .int (nI u))] := hl
  refine lv_aload_n hx hb dX4_tap_0 rfl (lv_at hl 0 rfl) ?_
  refine lv_aload_n hx hb dX4_tap_1 rfl (lv_at hl 0 rfl) ?_
  refine lv_iload_n hx hb dX4_tap_2 rfl (lv_at hl 1 rfl) ?_
  refine lv_iload_n hx hb dX4_tap_3 rfl (lv_at hl 2 rfl) ?_
  refine cv_i (As := [.int (nI i), .int (nI u)]) (rest := [.ref ma]) (ws' := [(ma, .inr (4, [.ref d0, .ref d1, .ref d2, .ref d3, .ref d4, .ref d5, .ref d6, .ref d7, .ref d8, .ref d9, .ref d10, .ref d11, .ref d12, .ref d13, .ref d14, .ref d15, .ref d16, .int cd])), (d5, .inl (G.2.1 0, 4, .inl f5)), (d11, .inl (G.2.1 2, 48, .inl f11))]) ⟨hx, hb, hml, hown, hts⟩ (kX4_isPedal l G ma d0 d1 d2 d3 d4 d5 d6 d7 d8 d9 d10 d11 d12 d13 d14 d15 d16 cd f5 i n (nI u) (by first | assumption | omega) (by first | assumption | omega)) (cwV 2 hts gX4_tap_X4_isPedal rfl rfl rfl (by decide +kernel) ⟨Nat.le_of_ble_eq_true rfl, Nat.le_of_ble_eq_true rfl⟩) (va_recv hK hP (ci := 4) (q0 := 0) rfl rfl) hE hK hP hD hS hA hl.1 [0, 1] rfl rfl rfl rfl rfl rfl (Nat.le_of_ble_eq_true rfl) dX4_tap_4 ⟨Nat.zero_le _, Nat.zero_le _⟩ (fun H locs hP hD hS => ?_)
  refine bz_ne (tgt := 14) hx hb dX4_tap_7 (by decide) (fun h9 => absurd h9 (isP_1 hn hu)) (fun _ => ?_)
  refine lv_iconst (v := (0:Int32)) hx hb dX4_tap_14 (by decide) ?_
  refine lv_iconst (v := (0:Int32)) hx hb dX4_tap_15 (by decide) ?_
  refine cv_i (As := [.int (0:Int32), .int (0:Int32)]) (rest := []) (ws' := [(ma, .inr (4, [.ref d0, .ref d1, .ref d2, .ref d3, .ref d4, .ref d5, .ref d6, .ref d7, .ref d8, .ref d9, .ref d10, .ref d11, .ref d12, .ref d13, .ref d14, .ref d15, .ref d16, .int (0:Int32)])), (d5, .inl (G.2.1 0, 4, .inl f5)), (d11, .inl (G.2.1 2, 48, .inl f11))]) ⟨hx, hb, hml, hown, hts⟩ (kX4_refuses00 l G ma d0 d1 d2 d3 d4 d5 d6 d7 d8 d9 d10 d11 d12 d13 d14 d15 d16 cd) (cwV 2 hts gX4_tap_X4_refuses rfl rfl rfl (by decide +kernel) ⟨Nat.le_of_ble_eq_true rfl, Nat.le_of_ble_eq_true rfl⟩) (va_recv hK hP (ci := 4) (q0 := 0) rfl rfl) hE hK hP hD hS hA hl.1 [0] rfl rfl rfl rfl rfl rfl (Nat.le_of_ble_eq_true rfl) dX4_tap_16 ⟨Nat.zero_le _, Nat.zero_le _⟩ (fun H locs hP hD hS => ?_)
  refine bz_eq (tgt := 24) hx hb dX4_tap_19 (by decide) (fun _ => ?_) (fun h9 => absurd rfl h9)
  refine lv_aload_n hx hb dX4_tap_24 rfl (lv_at hl 0 rfl) ?_
  refine va_get (D := G.1) (ci := 4) (v := .ref d11) (C := RX4) (T := TX4) (N := 18) hx hb hts (by decide +kernel) hown hK hP 0 rfl rfl 11 (by decide) (hts (.fieldLink RX4 45 "PedalBoardModel" "on" "[Z") (by decide +kernel)) (fun _ h9 => h9) rfl dX4_tap_25 ?_
  refine lv_bipush (v := (12:Int32)) hx hb dX4_tap_28 (by decide) ?_
  refine lv_iload_n hx hb dX4_tap_30 rfl (lv_at hl 1 rfl) ?_
  refine lv_imul hx hb dX4_tap_31 ?_
  rw [show ((12:Int32) * (nI i)) = nI (12 * i) from pk_mul 12 i]
  refine lv_iload_n hx hb dX4_tap_32 rfl (lv_at hl 2 rfl) ?_
  refine lv_iadd hx hb dX4_tap_33 ?_
  rw [nI_add]
  refine lv_aload_n hx hb dX4_tap_34 rfl (lv_at hl 0 rfl) ?_
  refine va_get (D := G.1) (ci := 4) (v := .ref d11) (C := RX4) (T := TX4) (N := 18) hx hb hts (by decide +kernel) hown hK hP 0 rfl rfl 11 (by decide) (hts (.fieldLink RX4 45 "PedalBoardModel" "on" "[Z") (by decide +kernel)) (fun _ h9 => h9) rfl dX4_tap_35 ?_
  refine lv_bipush (v := (12:Int32)) hx hb dX4_tap_38 (by decide) ?_
  refine lv_iload_n hx hb dX4_tap_40 rfl (lv_at hl 1 rfl) ?_
  refine lv_imul hx hb dX4_tap_41 ?_
  rw [show ((12:Int32) * (nI i)) = nI (12 * i) from pk_mul 12 i]
  refine lv_iload_n hx hb dX4_tap_42 rfl (lv_at hl 2 rfl) ?_
  refine lv_iadd hx hb dX4_tap_43 ?_
  rw [nI_add]
  refine ar_zld hx hb hK hP 2 rfl ((12 * i) + u) rfl (by omega) (by decide) dX4_tap_44 ?_
  refine jn_2 (T := Int32) G A (if (f11 ((12 * i) + u)) = 0 then (1:Int32) else (0:Int32)) (fun y => [(ma, .inr (4, [.ref d0, .ref d1, .ref d2, .ref d3, .ref d4, .ref d5, .ref d6, .ref d7, .ref d8, .ref d9, .ref d10, .ref d11, .ref d12, .ref d13, .ref d14, .ref d15, .ref d16, .int (0:Int32)])), (d5, .inl (G.2.1 0, 4, .inl f5)), (d11, .inl (G.2.1 2, 48, .inl f11))]) 3 (fun y => [(0, .ref ma), (1, .int (nI i)), (2, .int (nI u))]) (fun y => [.int y, .int (nI ((12 * i) + u)), .ref d11]) 53 ?_ ?_
  · intro y_1 ey_1 H locs ls hP hD hS hl
    have hl : lv_has ls 3 [(0, .ref ma), (1, .int (nI i)), (2, .int (nI u))] := hl
    have hP : va_P G.1 vwCl [(ma, .inr (4, [.ref d0, .ref d1, .ref d2, .ref d3, .ref d4, .ref d5, .ref d6, .ref d7, .ref d8, .ref d9, .ref d10, .ref d11, .ref d12, .ref d13, .ref d14, .ref d15, .ref d16, .int (0:Int32)])), (d5, .inl (G.2.1 0, 4, .inl f5)), (d11, .inl (G.2.1 2, 48, .inl f11))] H := hP
    have hD : va_D A [(ma, .inr (4, [.ref d0, .ref d1, .ref d2, .ref d3, .ref d4, .ref d5, .ref d6, .ref d7, .ref d8, .ref d9, .ref d10, .ref d11, .ref d12, .ref d13, .ref d14, .ref d15, .ref d16, .int (0:Int32)])), (d5, .inl (G.2.1 0, 4, .inl f5)), (d11, .inl (G.2.1 2, 48, .inl f11))] := hD
    have hr_3 : (fX4_tap f11 i u) = fX4_tap_53 f11 i u y_1 := by rw [ey_1, fX4_tap]
    refine ar_zst hx hb hK hP hD hS 2 rfl ((12 * i) + u) rfl (by omega) (by decide) (by rw [ey_1]; repeat (first | exact Or.inl rfl | exact Or.inr rfl | split)) dX4_tap_53 (fun H locs hP hD hS => ?_)
    have hP : va_P G.1 vwCl [(ma, .inr (4, [.ref d0, .ref d1, .ref d2, .ref d3, .ref d4, .ref d5, .ref d6, .ref d7, .ref d8, .ref d9, .ref d10, .ref d11, .ref d12, .ref d13, .ref d14, .ref d15, .ref d16, .int (0:Int32)])), (d5, .inl (G.2.1 0, 4, .inl f5)), (d11, .inl (G.2.1 2, 48, .inl (upd f11 ((12 * i) + u) y_1)))] H := hP
    have hD : va_D A [(ma, .inr (4, [.ref d0, .ref d1, .ref d2, .ref d3, .ref d4, .ref d5, .ref d6, .ref d7, .ref d8, .ref d9, .ref d10, .ref d11, .ref d12, .ref d13, .ref d14, .ref d15, .ref d16, .int (0:Int32)])), (d5, .inl (G.2.1 0, 4, .inl f5)), (d11, .inl (G.2.1 2, 48, .inl (upd f11 ((12 * i) + u) y_1)))] := hD
    refine lv_aload_n hx hb dX4_tap_54 rfl (lv_at hl 0 rfl) ?_
    refine va_get (D := G.1) (ci := 4) (v := .ref d11) (C := RX4) (T := TX4) (N := 18) hx hb hts (by decide +kernel) hown hK hP 0 rfl rfl 11 (by decide) (hts (.fieldLink RX4 45 "PedalBoardModel" "on" "[Z") (by decide +kernel)) (fun _ h9 => h9) rfl dX4_tap_55 ?_
    refine lv_bipush (v := (12:Int32)) hx hb dX4_tap_58 (by decide) ?_
    refine lv_iload_n hx hb dX4_tap_60 rfl (lv_at hl 1 rfl) ?_
    refine lv_imul hx hb dX4_tap_61 ?_
    rw [show ((12:Int32) * (nI i)) = nI (12 * i) from pk_mul 12 i]
    refine lv_iload_n hx hb dX4_tap_62 rfl (lv_at hl 2 rfl) ?_
    refine lv_iadd hx hb dX4_tap_63 ?_
    rw [nI_add]
    refine ar_zld hx hb hK hP 2 rfl ((12 * i) + u) rfl (by omega) (by decide) dX4_tap_64 ?_
    subst ey_1
    exact rt_z hx hb hr hlocks hP hD hS dX4_tap_65 (by rw [hr_3, fX4_tap_53]) (z_nar (by rw [upd_same]; repeat (first | exact Or.inl rfl | exact Or.inr rfl | split)))
  · intro kj_1
    refine bz_ne (tgt := 52) hx hb dX4_tap_45 (by decide) (fun c_2 => ?_) (fun c_2 => ?_)
    · refine lv_iconst (v := (1:Int32)) hx hb dX4_tap_48 (by decide) ?_
      refine lv_goto (tgt := 53) hx hb dX4_tap_49 (by decide) ?_
      exact kj_1 (1:Int32) (by rw [if_pos c_2]) _ _ _ hP hD hS (lv_sub hl [0, 1, 2] rfl)
    · refine lv_iconst (v := (0:Int32)) hx hb dX4_tap_52 (by decide) ?_
      exact kj_1 (0:Int32) (by rw [if_neg c_2]) _ _ _ hP hD hS (lv_sub hl [0, 1, 2] rfl)
set_option maxHeartbeats 4000000 in
set_option maxRecDepth 100000 in
theorem kX4_tapB0 (l : Launch) (G : GT) (ma : Nat) (d0 : Nat) (d1 : Nat) (d2 : Nat) (d3 : Nat) (d4 : Nat) (d5 : Nat) (d6 : Nat) (d7 : Nat) (d8 : Nat) (d9 : Nat) (d10 : Nat) (d11 : Nat) (d12 : Nat) (d13 : Nat) (d14 : Nat) (d15 : Nat) (d16 : Nat) (cd : Int32) (wi : Int32) (pl : Int32) (hwi : fX4_isWire wi = 0) : CI l yX4_tap wsX4_tap { frames := 2, cells := 0, slots := 0, locals := 42 } G [.ref ma, .int wi, .int pl] [(ma, .inr (4, [.ref d0, .ref d1, .ref d2, .ref d3, .ref d4, .ref d5, .ref d6, .ref d7, .ref d8, .ref d9, .ref d10, .ref d11, .ref d12, .ref d13, .ref d14, .ref d15, .ref d16, .int cd]))] (0:Int32) [(ma, .inr (4, [.ref d0, .ref d1, .ref d2, .ref d3, .ref d4, .ref d5, .ref d6, .ref d7, .ref d8, .ref d9, .ref d10, .ref d11, .ref d12, .ref d13, .ref d14, .ref d15, .ref d16, .int (1:Int32)]))] := by
  refine en_i (cc := cX4_tap) (maxL := 3) (ret := (some .boolean)) (own := RX4) (by decide) rfl rfl (Nat.le_of_ble_eq_true rfl) ?_
  intro p e s m below meth c A ls hx hb hr hts hown hml hlocks hA hK hE hP hD hS hl
  have hl : lv_has ls 3 [(0, .ref ma), (1, .int wi), (2, .int pl)] := hl
  refine lv_aload_n hx hb dX4_tap_0 rfl (lv_at hl 0 rfl) ?_
  refine lv_aload_n hx hb dX4_tap_1 rfl (lv_at hl 0 rfl) ?_
  refine lv_iload_n hx hb dX4_tap_2 rfl (lv_at hl 1 rfl) ?_
  refine lv_iload_n hx hb dX4_tap_3 rfl (lv_at hl 2 rfl) ?_
  refine cv_i (As := [.int wi, .int pl]) (rest := [.ref ma]) (ws' := [(ma, .inr (4, [.ref d0, .ref d1, .ref d2, .ref d3, .ref d4, .ref d5, .ref d6, .ref d7, .ref d8, .ref d9, .ref d10, .ref d11, .ref d12, .ref d13, .ref d14, .ref d15, .ref d16, .int cd]))]) ⟨hx, hb, hml, hown, hts⟩ (kX4_isPedalN l G ma d0 d1 d2 d3 d4 d5 d6 d7 d8 d9 d10 d11 d12 d13 d14 d15 d16 cd wi pl (by first | assumption | omega)) (cwV 2 hts gX4_tap_X4_isPedal rfl rfl rfl (by decide +kernel) ⟨Nat.le_of_ble_eq_true rfl, Nat.le_of_ble_eq_true rfl⟩) (va_recv hK hP (ci := 4) (q0 := 0) rfl rfl) hE hK hP hD hS hA hl.1 [0] rfl rfl rfl rfl rfl rfl (Nat.le_of_ble_eq_true rfl) dX4_tap_4 ⟨Nat.zero_le _, Nat.zero_le _⟩ (fun H locs hP hD hS => ?_)
  refine bz_ne (tgt := 14) hx hb dX4_tap_7 (by decide) (fun _ => ?_) (fun h9 => absurd rfl h9)
  refine lv_iconst (v := (1:Int32)) hx hb dX4_tap_10 (by decide) ?_
  refine lv_goto (tgt := 15) hx hb dX4_tap_11 (by decide) ?_
  refine lv_iconst (v := (0:Int32)) hx hb dX4_tap_15 (by decide) ?_
  refine cv_i (As := [.int (1:Int32), .int (0:Int32)]) (rest := []) (ws' := [(ma, .inr (4, [.ref d0, .ref d1, .ref d2, .ref d3, .ref d4, .ref d5, .ref d6, .ref d7, .ref d8, .ref d9, .ref d10, .ref d11, .ref d12, .ref d13, .ref d14, .ref d15, .ref d16, .int (1:Int32)]))]) ⟨hx, hb, hml, hown, hts⟩ (kX4_refuses10 l G ma d0 d1 d2 d3 d4 d5 d6 d7 d8 d9 d10 d11 d12 d13 d14 d15 d16 cd) (cwV 2 hts gX4_tap_X4_refuses rfl rfl rfl (by decide +kernel) ⟨Nat.le_of_ble_eq_true rfl, Nat.le_of_ble_eq_true rfl⟩) (va_recv hK hP (ci := 4) (q0 := 0) rfl rfl) hE hK hP hD hS hA hl.1 [0] rfl rfl rfl rfl rfl rfl (Nat.le_of_ble_eq_true rfl) dX4_tap_16 ⟨Nat.zero_le _, Nat.zero_le _⟩ (fun H locs hP hD hS => ?_)
  refine bz_eq (tgt := 24) hx hb dX4_tap_19 (by decide) (fun h9 => absurd h9 (by decide)) (fun _ => ?_)
  refine lv_iconst (v := (0:Int32)) hx hb dX4_tap_22 (by decide) ?_
  exact rt_z hx hb hr hlocks hP hD hS dX4_tap_23 rfl (z_nar (Or.inl rfl))
set_option maxHeartbeats 4000000 in
set_option maxRecDepth 100000 in
theorem kX4_tapB1 (l : Launch) (G : GT) (ma : Nat) (d0 : Nat) (d1 : Nat) (d2 : Nat) (d3 : Nat) (d4 : Nat) (d5 : Nat) (d6 : Nat) (d7 : Nat) (d8 : Nat) (d9 : Nat) (d10 : Nat) (d11 : Nat) (d12 : Nat) (d13 : Nat) (d14 : Nat) (d15 : Nat) (d16 : Nat) (cd : Int32) (f5 : Nat → Int32) (i : Nat) (n : Nat) (pl : Int32) (hi4 : i < 4) (hm : f5 i = nI n) (hpl : fX4_isPedal n pl = 0) : CI l yX4_tap wsX4_tap { frames := 2, cells := 0, slots := 0, locals := 42 } G [.ref ma, .int (nI i), .int pl] [(ma, .inr (4, [.ref d0, .ref d1, .ref d2, .ref d3, .ref d4, .ref d5, .ref d6, .ref d7, .ref d8, .ref d9, .ref d10, .ref d11, .ref d12, .ref d13, .ref d14, .ref d15, .ref d16, .int cd])), (d5, .inl (G.2.1 0, 4, .inl f5))] (0:Int32) [(ma, .inr (4, [.ref d0, .ref d1, .ref d2, .ref d3, .ref d4, .ref d5, .ref d6, .ref d7, .ref d8, .ref d9, .ref d10, .ref d11, .ref d12, .ref d13, .ref d14, .ref d15, .ref d16, .int (1:Int32)])), (d5, .inl (G.2.1 0, 4, .inl f5))] := by
  refine en_i (cc := cX4_tap) (maxL := 3) (ret := (some .boolean)) (own := RX4) (by decide) rfl rfl (Nat.le_of_ble_eq_true rfl) ?_
  intro p e s m below meth c A ls hx hb hr hts hown hml hlocks hA hK hE hP hD hS hl
  have hl : lv_has ls 3 [(0, .ref ma), (1, .int (nI i)), (2, .int pl)] := hl
  refine lv_aload_n hx hb dX4_tap_0 rfl (lv_at hl 0 rfl) ?_
  refine lv_aload_n hx hb dX4_tap_1 rfl (lv_at hl 0 rfl) ?_
  refine lv_iload_n hx hb dX4_tap_2 rfl (lv_at hl 1 rfl) ?_
  refine lv_iload_n hx hb dX4_tap_3 rfl (lv_at hl 2 rfl) ?_
  refine cv_i (As := [.int (nI i), .int pl]) (rest := [.ref ma]) (ws' := [(ma, .inr (4, [.ref d0, .ref d1, .ref d2, .ref d3, .ref d4, .ref d5, .ref d6, .ref d7, .ref d8, .ref d9, .ref d10, .ref d11, .ref d12, .ref d13, .ref d14, .ref d15, .ref d16, .int cd])), (d5, .inl (G.2.1 0, 4, .inl f5))]) ⟨hx, hb, hml, hown, hts⟩ (kX4_isPedal l G ma d0 d1 d2 d3 d4 d5 d6 d7 d8 d9 d10 d11 d12 d13 d14 d15 d16 cd f5 i n pl (by first | assumption | omega) (by first | assumption | omega)) (cwV 2 hts gX4_tap_X4_isPedal rfl rfl rfl (by decide +kernel) ⟨Nat.le_of_ble_eq_true rfl, Nat.le_of_ble_eq_true rfl⟩) (va_recv hK hP (ci := 4) (q0 := 0) rfl rfl) hE hK hP hD hS hA hl.1 [0, 1] rfl rfl rfl rfl rfl rfl (Nat.le_of_ble_eq_true rfl) dX4_tap_4 ⟨Nat.zero_le _, Nat.zero_le _⟩ (fun H locs hP hD hS => ?_)
  refine bz_ne (tgt := 14) hx hb dX4_tap_7 (by decide) (fun _ => ?_) (fun h9 => absurd hpl h9)
  refine lv_iconst (v := (1:Int32)) hx hb dX4_tap_10 (by decide) ?_
  refine lv_goto (tgt := 15) hx hb dX4_tap_11 (by decide) ?_
  refine lv_iconst (v := (0:Int32)) hx hb dX4_tap_15 (by decide) ?_
  refine cv_i (As := [.int (1:Int32), .int (0:Int32)]) (rest := []) (ws' := [(ma, .inr (4, [.ref d0, .ref d1, .ref d2, .ref d3, .ref d4, .ref d5, .ref d6, .ref d7, .ref d8, .ref d9, .ref d10, .ref d11, .ref d12, .ref d13, .ref d14, .ref d15, .ref d16, .int (1:Int32)])), (d5, .inl (G.2.1 0, 4, .inl f5))]) ⟨hx, hb, hml, hown, hts⟩ (kX4_refuses10 l G ma d0 d1 d2 d3 d4 d5 d6 d7 d8 d9 d10 d11 d12 d13 d14 d15 d16 cd) (cwV 2 hts gX4_tap_X4_refuses rfl rfl rfl (by decide +kernel) ⟨Nat.le_of_ble_eq_true rfl, Nat.le_of_ble_eq_true rfl⟩) (va_recv hK hP (ci := 4) (q0 := 0) rfl rfl) hE hK hP hD hS hA hl.1 [0] rfl rfl rfl rfl rfl rfl (Nat.le_of_ble_eq_true rfl) dX4_tap_16 ⟨Nat.zero_le _, Nat.zero_le _⟩ (fun H locs hP hD hS => ?_)
  refine bz_eq (tgt := 24) hx hb dX4_tap_19 (by decide) (fun h9 => absurd h9 (by decide)) (fun _ => ?_)
  refine lv_iconst (v := (0:Int32)) hx hb dX4_tap_22 (by decide) ?_
  exact rt_z hx hb hr hlocks hP hD hS dX4_tap_23 rfl (z_nar (Or.inl rfl))
def fX4_swap_106 (y_1 : Int32) : Int32 := y_1
def fX4_swap (f8 : Nat → Int32) (f9 : Nat → Int64) (f11 : Nat → Int32) (i : Nat) (u1 : Nat) (u2 : Nat) : Int32 := (fX4_swap_106 (if (f8 ((12 * i) + u1)) = (f8 ((12 * i) + u2)) then (if (f9 ((12 * i) + u1)) = (f9 ((12 * i) + u2)) then (if (f11 ((12 * i) + u1)) = (f11 ((12 * i) + u2)) then (0:Int32) else (1:Int32)) else (1:Int32)) else (1:Int32)))
set_option maxHeartbeats 4000000 in
set_option maxRecDepth 100000 in
theorem kX4_swap (l : Launch) (G : GT) (ma : Nat) (d0 : Nat) (d1 : Nat) (d2 : Nat) (d3 : Nat) (d4 : Nat) (d5 : Nat) (d6 : Nat) (d7 : Nat) (d8 : Nat) (d9 : Nat) (d10 : Nat) (d11 : Nat) (d12 : Nat) (d13 : Nat) (d14 : Nat) (d15 : Nat) (d16 : Nat) (cd : Int32) (f5 : Nat → Int32) (f6 : Nat → Int32) (f8 : Nat → Int32) (f9 : Nat → Int64) (f11 : Nat → Int32) (i : Nat) (n : Nat) (u1 : Nat) (u2 : Nat) (hi4 : i < 4) (hm : f5 i = nI n) (hn : n ≤ 12) (hu1 : u1 < n) (hu2 : u2 < n) (hz11 : ∀ k, f11 k = 0 ∨ f11 k = 1) : CI l yX4_swap wsX4_swap { frames := 2, cells := 0, slots := 0, locals := 42 } G [.ref ma, .int (nI i), .int (nI u1), .int (nI u2)] [(ma, .inr (4, [.ref d0, .ref d1, .ref d2, .ref d3, .ref d4, .ref d5, .ref d6, .ref d7, .ref d8, .ref d9, .ref d10, .ref d11, .ref d12, .ref d13, .ref d14, .ref d15, .ref d16, .int cd])), (d5, .inl (G.2.1 0, 4, .inl f5)), (d6, .inl (G.2.1 2, 4, .inl f6)), (d8, .inl (G.2.1 0, 48, .inl f8)), (d9, .inl (G.2.1 1, 48, .inr (.inl f9))), (d11, .inl (G.2.1 2, 48, .inl f11))] (fX4_swap f8 f9 f11 i u1 u2) [(ma, .inr (4, [.ref d0, .ref d1, .ref d2, .ref d3, .ref d4, .ref d5, .ref d6, .ref d7, .ref d8, .ref d9, .ref d10, .ref d11, .ref d12, .ref d13, .ref d14, .ref d15, .ref d16, .int (0:Int32)])), (d5, .inl (G.2.1 0, 4, .inl f5)), (d6, .inl (G.2.1 2, 4, .inl (upd f6 i (0:Int32)))), (d8, .inl (G.2.1 0, 48, .inl (upd (upd f8 ((12 * i) + u1) (f8 ((12 * i) + u2))) ((12 * i) + u2) (f8 ((12 * i) + u1))))), (d9, .inl (G.2.1 1, 48, .inr (.inl (vp_updL (vp_updL f9 ((12 * i) + u1) (f9 ((12 * i) + u2))) ((12 * i) + u2) (f9 ((12 * i) + u1)))))), (d11, .inl (G.2.1 2, 48, .inl (upd (upd f11 ((12 * i) + u1) (f11 ((12 * i) + u2))) ((12 * i) + u2) (f11 ((12 * i) + u1)))))] := by
  refine en_i (cc := cX4_swap) (maxL := 11) (ret := (some .boolean)) (own := RX4) (by decide) rfl rfl (Nat.le_of_ble_eq_true rfl) ?_
  intro p e s m below meth c A ls hx hb hr hts hown hml hlocks hA hK hE hP hD hS hl
  have hl : lv_has ls 11 [(0, .ref ma), (1, .int (nI i)), (2, .int (nI u1)), (3, .int (nI u2))] := hl
  refine lv_aload_n hx hb dX4_swap_0 rfl (lv_at hl 0 rfl) ?_
  refine lv_aload_n hx hb dX4_swap_1 rfl (lv_at hl 0 rfl) ?_
  refine lv_iload_n hx hb dX4_swap_2 rfl (lv_at hl 1 rfl) ?_
  refine lv_iload_n hx hb dX4_swap_3 rfl (lv_at hl 2 rfl) ?_
  refine cv_i (As := [.int (nI i), .int (nI u1)]) (rest := [.ref ma]) (ws' := [(ma, .inr (4, [.ref d0, .ref d1, .ref d2, .ref d3, .ref d4, .ref d5, .ref d6, .ref d7, .ref d8, .ref d9, .ref d10, .ref d11, .ref d12, .ref d13, .ref d14, .ref d15, .ref d16, .int cd])), (d5, .inl (G.2.1 0, 4, .inl f5)), (d6, .inl (G.2.1 2, 4, .inl f6)), (d8, .inl (G.2.1 0, 48, .inl f8)), (d9, .inl (G.2.1 1, 48, .inr (.inl f9))), (d11, .inl (G.2.1 2, 48, .inl f11))]) ⟨hx, hb, hml, hown, hts⟩ (kX4_isPedal l G ma d0 d1 d2 d3 d4 d5 d6 d7 d8 d9 d10 d11 d12 d13 d14 d15 d16 cd f5 i n (nI u1) (by first | assumption | omega) (by first | assumption | omega)) (cwV 2 hts gX4_swap_X4_isPedal rfl rfl rfl (by decide +kernel) ⟨Nat.le_of_ble_eq_true rfl, Nat.le_of_ble_eq_true rfl⟩) (va_recv hK hP (ci := 4) (q0 := 0) rfl rfl) hE hK hP hD hS hA hl.1 [0, 1] rfl rfl rfl rfl rfl rfl (Nat.le_of_ble_eq_true rfl) dX4_swap_4 ⟨Nat.zero_le _, Nat.zero_le _⟩ (fun H locs hP hD hS => ?_)
  refine bz_eq (tgt := 19) hx hb dX4_swap_7 (by decide) (fun h9 => absurd h9 (isP_1 hn hu1)) (fun _ => ?_)
  refine lv_aload_n hx hb dX4_swap_10 rfl (lv_at hl 0 rfl) ?_
  refine lv_iload_n hx hb dX4_swap_11 rfl (lv_at hl 1 rfl) ?_
  refine lv_iload_n hx hb dX4_swap_12 rfl (lv_at hl 3 rfl) ?_
  refine cv_i (As := [.int (nI i), .int (nI u2)]) (rest := [.ref ma]) (ws' := [(ma, .inr (4, [.ref d0, .ref d1, .ref d2, .ref d3, .ref d4, .ref d5, .ref d6, .ref d7, .ref d8, .ref d9, .ref d10, .ref d11, .ref d12, .ref d13, .ref d14, .ref d15, .ref d16, .int cd])), (d5, .inl (G.2.1 0, 4, .inl f5)), (d6, .inl (G.2.1 2, 4, .inl f6)), (d8, .inl (G.2.1 0, 48, .inl f8)), (d9, .inl (G.2.1 1, 48, .inr (.inl f9))), (d11, .inl (G.2.1 2, 48, .inl f11))]) ⟨hx, hb, hml, hown, hts⟩ (kX4_isPedal l G ma d0 d1 d2 d3 d4 d5 d6 d7 d8 d9 d10 d11 d12 d13 d14 d15 d16 cd f5 i n (nI u2) (by first | assumption | omega) (by first | assumption | omega)) (cwV 2 hts gX4_swap_X4_isPedal rfl rfl rfl (by decide +kernel) ⟨Nat.le_of_ble_eq_true rfl, Nat.le_of_ble_eq_true rfl⟩) (va_recv hK hP (ci := 4) (q0 := 0) rfl rfl) hE hK hP hD hS hA hl.1 [0, 1] rfl rfl rfl rfl rfl rfl (Nat.le_of_ble_eq_true rfl) dX4_swap_13 ⟨Nat.zero_le _, Nat.zero_le _⟩ (fun H locs hP hD hS => ?_)
  refine bz_ne (tgt := 23) hx hb dX4_swap_16 (by decide) (fun h9 => absurd h9 (isP_1 hn hu2)) (fun _ => ?_)
  refine lv_iconst (v := (0:Int32)) hx hb dX4_swap_23 (by decide) ?_
  refine lv_iconst (v := (0:Int32)) hx hb dX4_swap_24 (by decide) ?_
  refine cv_i (As := [.int (0:Int32), .int (0:Int32)]) (rest := []) (ws' := [(ma, .inr (4, [.ref d0, .ref d1, .ref d2, .ref d3, .ref d4, .ref d5, .ref d6, .ref d7, .ref d8, .ref d9, .ref d10, .ref d11, .ref d12, .ref d13, .ref d14, .ref d15, .ref d16, .int (0:Int32)])), (d5, .inl (G.2.1 0, 4, .inl f5)), (d6, .inl (G.2.1 2, 4, .inl f6)), (d8, .inl (G.2.1 0, 48, .inl f8)), (d9, .inl (G.2.1 1, 48, .inr (.inl f9))), (d11, .inl (G.2.1 2, 48, .inl f11))]) ⟨hx, hb, hml, hown, hts⟩ (kX4_refuses00 l G ma d0 d1 d2 d3 d4 d5 d6 d7 d8 d9 d10 d11 d12 d13 d14 d15 d16 cd) (cwV 2 hts gX4_swap_X4_refuses rfl rfl rfl (by decide +kernel) ⟨Nat.le_of_ble_eq_true rfl, Nat.le_of_ble_eq_true rfl⟩) (va_recv hK hP (ci := 4) (q0 := 0) rfl rfl) hE hK hP hD hS hA hl.1 [0] rfl rfl rfl rfl rfl rfl (Nat.le_of_ble_eq_true rfl) dX4_swap_25 ⟨Nat.zero_le _, Nat.zero_le _⟩ (fun H locs hP hD hS => ?_)
  refine bz_eq (tgt := 33) hx hb dX4_swap_28 (by decide) (fun _ => ?_) (fun h9 => absurd rfl h9)
  refine lv_bipush (v := (12:Int32)) hx hb dX4_swap_33 (by decide) ?_
  refine lv_iload_n hx hb dX4_swap_35 rfl (lv_at hl 1 rfl) ?_
  refine lv_imul hx hb dX4_swap_36 ?_
  rw [show ((12:Int32) * (nI i)) = nI (12 * i) from pk_mul 12 i]
  refine lv_iload_n hx hb dX4_swap_37 rfl (lv_at hl 2 rfl) ?_
  refine lv_iadd hx hb dX4_swap_38 ?_
  rw [nI_add]
  refine lv_istore (lv' := [(4, .int (nI ((12 * i) + u1))), (0, .ref ma), (1, .int (nI i)), (2, .int (nI u1)), (3, .int (nI u2))]) hx hb dX4_swap_39 hl (by decide) rfl (fun ls hl => ?_)
  refine lv_bipush (v := (12:Int32)) hx hb dX4_swap_41 (by decide) ?_
  refine lv_iload_n hx hb dX4_swap_43 rfl (lv_at hl 2 rfl) ?_
  refine lv_imul hx hb dX4_swap_44 ?_
  rw [show ((12:Int32) * (nI i)) = nI (12 * i) from pk_mul 12 i]
  refine lv_iload_n hx hb dX4_swap_45 rfl (lv_at hl 4 rfl) ?_
  refine lv_iadd hx hb dX4_swap_46 ?_
  rw [nI_add]
  refine lv_istore (lv' := [(5, .int (nI ((12 * i) + u2))), (4, .int (nI ((12 * i) + u1))), (0, .ref ma), (1, .int (nI i)), (2, .int (nI u1)), (3, .int (nI u2))]) hx hb dX4_swap_47 hl (by decide) rfl (fun ls hl => ?_)
  refine lv_aload_n hx hb dX4_swap_49 rfl (lv_at hl 2 rfl) ?_
  refine va_get (D := G.1) (ci := 4) (v := .ref d8) (C := RX4) (T := TX4) (N := 18) hx hb hts (by decide +kernel) hown hK hP 0 rfl rfl 8 (by decide) (hts (.fieldLink RX4 36 "PedalBoardModel" "sort" "[I") (by decide +kernel)) (fun _ h9 => h9) rfl dX4_swap_50 ?_
  refine lv_iload hx hb dX4_swap_53 (lv_at hl 1 rfl) ?_
  refine ar_ild hx hb hK hP 3 rfl ((12 * i) + u1) rfl (by omega) (by decide) dX4_swap_55 ?_
  refine lv_aload_n hx hb dX4_swap_56 rfl (lv_at hl 2 rfl) ?_
  refine va_get (D := G.1) (ci := 4) (v := .ref d8) (C := RX4) (T := TX4) (N := 18) hx hb hts (by decide +kernel) hown hK hP 0 rfl rfl 8 (by decide) (hts (.fieldLink RX4 36 "PedalBoardModel" "sort" "[I") (by decide +kernel)) (fun _ h9 => h9) rfl dX4_swap_57 ?_
  refine lv_iload hx hb dX4_swap_60 (lv_at hl 0 rfl) ?_
  refine ar_ild hx hb hK hP 3 rfl ((12 * i) + u2) rfl (by omega) (by decide) dX4_swap_62 ?_
  refine jn_2 (T := Int32) G A (if (f8 ((12 * i) + u1)) = (f8 ((12 * i) + u2)) then (if (f9 ((12 * i) + u1)) = (f9 ((12 * i) + u2)) then (if (f11 ((12 * i) + u1)) = (f11 ((12 * i) + u2)) then (0:Int32) else (1:Int32)) else (1:Int32)) else (1:Int32)) (fun y => [(ma, .inr (4, [.ref d0, .ref d1, .ref d2, .ref d3, .ref d4, .ref d5, .ref d6, .ref d7, .ref d8, .ref d9, .ref d10, .ref d11, .ref d12, .ref d13, .ref d14, .ref d15, .ref d16, .int (0:Int32)])), (d5, .inl (G.2.1 0, 4, .inl f5)), (d6, .inl (G.2.1 2, 4, .inl f6)), (d8, .inl (G.2.1 0, 48, .inl f8)), (d9, .inl (G.2.1 1, 48, .inr (.inl f9))), (d11, .inl (G.2.1 2, 48, .inl f11))]) 11 (fun y => [(0, .ref ma), (1, .int (nI i)), (4, .int (nI ((12 * i) + u1))), (5, .int (nI ((12 * i) + u2)))]) (fun y => [.int y]) 106 ?_ ?_
  · intro y_1 ey_1 H locs ls hP hD hS hl
    have hl : lv_has ls 11 [(0, .ref ma), (1, .int (nI i)), (4, .int (nI ((12 * i) + u1))), (5, .int (nI ((12 * i) + u2)))] := hl
    have hP : va_P G.1 vwCl [(ma, .inr (4, [.ref d0, .ref d1, .ref d2, .ref d3, .ref d4, .ref d5, .ref d6, .ref d7, .ref d8, .ref d9, .ref d10, .ref d11, .ref d12, .ref d13, .ref d14, .ref d15, .ref d16, .int (0:Int32)])), (d5, .inl (G.2.1 0, 4, .inl f5)), (d6, .inl (G.2.1 2, 4, .inl f6)), (d8, .inl (G.2.1 0, 48, .inl f8)), (d9, .inl (G.2.1 1, 48, .inr (.inl f9))), (d11, .inl (G.2.1 2, 48, .inl f11))] H := hP
    have hD : va_D A [(ma, .inr (4, [.ref d0, .ref d1, .ref d2, .ref d3, .ref d4, .ref d5, .ref d6, .ref d7, .ref d8, .ref d9, .ref d10, .ref d11, .ref d12, .ref d13, .ref d14, .ref d15, .ref d16, .int (0:Int32)])), (d5, .inl (G.2.1 0, 4, .inl f5)), (d6, .inl (G.2.1 2, 4, .inl f6)), (d8, .inl (G.2.1 0, 48, .inl f8)), (d9, .inl (G.2.1 1, 48, .inr (.inl f9))), (d11, .inl (G.2.1 2, 48, .inl f11))] := hD
    have hr_5 : (fX4_swap f8 f9 f11 i u1 u2) = fX4_swap_106 y_1 := by rw [ey_1, fX4_swap]
    refine lv_istore (lv' := [(6, .int y_1), (0, .ref ma), (1, .int (nI i)), (4, .int (nI ((12 * i) + u1))), (5, .int (nI ((12 * i) + u2)))]) hx hb dX4_swap_106 hl (by decide) rfl (fun ls hl => ?_)
    refine lv_aload_n hx hb dX4_swap_108 rfl (lv_at hl 1 rfl) ?_
    refine va_get (D := G.1) (ci := 4) (v := .ref d8) (C := RX4) (T := TX4) (N := 18) hx hb hts (by decide +kernel) hown hK hP 0 rfl rfl 8 (by decide) (hts (.fieldLink RX4 36 "PedalBoardModel" "sort" "[I") (by decide +kernel)) (fun _ h9 => h9) rfl dX4_swap_109 ?_
    refine lv_iload hx hb dX4_swap_112 (lv_at hl 3 rfl) ?_
    refine ar_ild hx hb hK hP 3 rfl ((12 * i) + u1) rfl (by omega) (by decide) dX4_swap_114 ?_
    refine lv_istore (lv' := [(7, .int (f8 ((12 * i) + u1))), (6, .int y_1), (0, .ref ma), (1, .int (nI i)), (4, .int (nI ((12 * i) + u1))), (5, .int (nI ((12 * i) + u2)))]) hx hb dX4_swap_115 hl (by decide) rfl (fun ls hl => ?_)
    refine lv_aload_n hx hb dX4_swap_117 rfl (lv_at hl 2 rfl) ?_
    refine va_get (D := G.1) (ci := 4) (v := .ref d9) (C := RX4) (T := TX4) (N := 18) hx hb hts (by decide +kernel) hown hK hP 0 rfl rfl 9 (by decide) (hts (.fieldLink RX4 39 "PedalBoardModel" "knob" "[J") (by decide +kernel)) (fun _ h9 => h9) rfl dX4_swap_118 ?_
    refine lv_iload hx hb dX4_swap_121 (lv_at hl 4 rfl) ?_
    refine ar_lld hx hb hK hP 4 rfl ((12 * i) + u1) rfl (by omega) (by decide) dX4_swap_123 ?_
    refine lv_lstore (lv' := [(8, .long (f9 ((12 * i) + u1))), (7, .int (f8 ((12 * i) + u1))), (6, .int y_1), (0, .ref ma), (1, .int (nI i)), (4, .int (nI ((12 * i) + u1))), (5, .int (nI ((12 * i) + u2)))]) hx hb dX4_swap_124 hl (by decide) rfl (fun ls hl => ?_)
    refine lv_aload_n hx hb dX4_swap_126 rfl (lv_at hl 3 rfl) ?_
    refine va_get (D := G.1) (ci := 4) (v := .ref d11) (C := RX4) (T := TX4) (N := 18) hx hb hts (by decide +kernel) hown hK hP 0 rfl rfl 11 (by decide) (hts (.fieldLink RX4 45 "PedalBoardModel" "on" "[Z") (by decide +kernel)) (fun _ h9 => h9) rfl dX4_swap_127 ?_
    refine lv_iload hx hb dX4_swap_130 (lv_at hl 5 rfl) ?_
    refine ar_zld hx hb hK hP 5 rfl ((12 * i) + u1) rfl (by omega) (by decide) dX4_swap_132 ?_
    refine lv_istore (lv' := [(10, .int (f11 ((12 * i) + u1))), (8, .long (f9 ((12 * i) + u1))), (7, .int (f8 ((12 * i) + u1))), (6, .int y_1), (0, .ref ma), (1, .int (nI i)), (4, .int (nI ((12 * i) + u1))), (5, .int (nI ((12 * i) + u2)))]) hx hb dX4_swap_133 hl (by decide) rfl (fun ls hl => ?_)
    refine lv_aload_n hx hb dX4_swap_135 rfl (lv_at hl 4 rfl) ?_
    refine va_get (D := G.1) (ci := 4) (v := .ref d8) (C := RX4) (T := TX4) (N := 18) hx hb hts (by decide +kernel) hown hK hP 0 rfl rfl 8 (by decide) (hts (.fieldLink RX4 36 "PedalBoardModel" "sort" "[I") (by decide +kernel)) (fun _ h9 => h9) rfl dX4_swap_136 ?_
    refine lv_iload hx hb dX4_swap_139 (lv_at hl 6 rfl) ?_
    refine lv_aload_n hx hb dX4_swap_141 rfl (lv_at hl 4 rfl) ?_
    refine va_get (D := G.1) (ci := 4) (v := .ref d8) (C := RX4) (T := TX4) (N := 18) hx hb hts (by decide +kernel) hown hK hP 0 rfl rfl 8 (by decide) (hts (.fieldLink RX4 36 "PedalBoardModel" "sort" "[I") (by decide +kernel)) (fun _ h9 => h9) rfl dX4_swap_142 ?_
    refine lv_iload hx hb dX4_swap_145 (lv_at hl 7 rfl) ?_
    refine ar_ild hx hb hK hP 3 rfl ((12 * i) + u2) rfl (by omega) (by decide) dX4_swap_147 ?_
    refine ar_ist hx hb hK hP hD hS 3 rfl ((12 * i) + u1) rfl (by omega) (by decide) dX4_swap_148 (fun H locs hP hD hS => ?_)
    have hP : va_P G.1 vwCl [(ma, .inr (4, [.ref d0, .ref d1, .ref d2, .ref d3, .ref d4, .ref d5, .ref d6, .ref d7, .ref d8, .ref d9, .ref d10, .ref d11, .ref d12, .ref d13, .ref d14, .ref d15, .ref d16, .int (0:Int32)])), (d5, .inl (G.2.1 0, 4, .inl f5)), (d6, .inl (G.2.1 2, 4, .inl f6)), (d8, .inl (G.2.1 0, 48, .inl (upd f8 ((12 * i) + u1) (f8 ((12 * i) + u2))))), (d9, .inl (G.2.1 1, 48, .inr (.inl f9))), (d11, .inl (G.2.1 2, 48, .inl f11))] H := hP
    have hD : va_D A [(ma, .inr (4, [.ref d0, .ref d1, .ref d2, .ref d3, .ref d4, .ref d5, .ref d6, .ref d7, .ref d8, .ref d9, .ref d10, .ref d11, .ref d12, .ref d13, .ref d14, .ref d15, .ref d16, .int (0:Int32)])), (d5, .inl (G.2.1 0, 4, .inl f5)), (d6, .inl (G.2.1 2, 4, .inl f6)), (d8, .inl (G.2.1 0, 48, .inl (upd f8 ((12 * i) + u1) (f8 ((12 * i) + u2))))), (d9, .inl (G.2.1 1, 48, .inr (.inl f9))), (d11, .inl (G.2.1 2, 48, .inl f11))] := hD
    refine lv_aload_n hx hb dX4_swap_149 rfl (lv_at hl 4 rfl) ?_
    refine va_get (D := G.1) (ci := 4) (v := .ref d9) (C := RX4) (T := TX4) (N := 18) hx hb hts (by decide +kernel) hown hK hP 0 rfl rfl 9 (by decide) (hts (.fieldLink RX4 39 "PedalBoardModel" "knob" "[J") (by decide +kernel)) (fun _ h9 => h9) rfl dX4_swap_150 ?_
    refine lv_iload hx hb dX4_swap_153 (lv_at hl 6 rfl) ?_
    refine lv_aload_n hx hb dX4_swap_155 rfl (lv_at hl 4 rfl) ?_
    refine va_get (D := G.1) (ci := 4) (v := .ref d9) (C := RX4) (T := TX4) (N := 18) hx hb hts (by decide +kernel) hown hK hP 0 rfl rfl 9 (by decide) (hts (.fieldLink RX4 39 "PedalBoardModel" "knob" "[J") (by decide +kernel)) (fun _ h9 => h9) rfl dX4_swap_156 ?_
    refine lv_iload hx hb dX4_swap_159 (lv_at hl 7 rfl) ?_
    refine ar_lld hx hb hK hP 4 rfl ((12 * i) + u2) rfl (by omega) (by decide) dX4_swap_161 ?_
    refine ar_lst hx hb hK hP hD hS 4 rfl ((12 * i) + u1) rfl (by omega) (by decide) dX4_swap_162 (fun H locs hP hD hS => ?_)
    have hP : va_P G.1 vwCl [(ma, .inr (4, [.ref d0, .ref d1, .ref d2, .ref d3, .ref d4, .ref d5, .ref d6, .ref d7, .ref d8, .ref d9, .ref d10, .ref d11, .ref d12, .ref d13, .ref d14, .ref d15, .ref d16, .int (0:Int32)])), (d5, .inl (G.2.1 0, 4, .inl f5)), (d6, .inl (G.2.1 2, 4, .inl f6)), (d8, .inl (G.2.1 0, 48, .inl (upd f8 ((12 * i) + u1) (f8 ((12 * i) + u2))))), (d9, .inl (G.2.1 1, 48, .inr (.inl (vp_updL f9 ((12 * i) + u1) (f9 ((12 * i) + u2)))))), (d11, .inl (G.2.1 2, 48, .inl f11))] H := hP
    have hD : va_D A [(ma, .inr (4, [.ref d0, .ref d1, .ref d2, .ref d3, .ref d4, .ref d5, .ref d6, .ref d7, .ref d8, .ref d9, .ref d10, .ref d11, .ref d12, .ref d13, .ref d14, .ref d15, .ref d16, .int (0:Int32)])), (d5, .inl (G.2.1 0, 4, .inl f5)), (d6, .inl (G.2.1 2, 4, .inl f6)), (d8, .inl (G.2.1 0, 48, .inl (upd f8 ((12 * i) + u1) (f8 ((12 * i) + u2))))), (d9, .inl (G.2.1 1, 48, .inr (.inl (vp_updL f9 ((12 * i) + u1) (f9 ((12 * i) + u2)))))), (d11, .inl (G.2.1 2, 48, .inl f11))] := hD
    refine lv_aload_n hx hb dX4_swap_163 rfl (lv_at hl 4 rfl) ?_
    refine va_get (D := G.1) (ci := 4) (v := .ref d11) (C := RX4) (T := TX4) (N := 18) hx hb hts (by decide +kernel) hown hK hP 0 rfl rfl 11 (by decide) (hts (.fieldLink RX4 45 "PedalBoardModel" "on" "[Z") (by decide +kernel)) (fun _ h9 => h9) rfl dX4_swap_164 ?_
    refine lv_iload hx hb dX4_swap_167 (lv_at hl 6 rfl) ?_
    refine lv_aload_n hx hb dX4_swap_169 rfl (lv_at hl 4 rfl) ?_
    refine va_get (D := G.1) (ci := 4) (v := .ref d11) (C := RX4) (T := TX4) (N := 18) hx hb hts (by decide +kernel) hown hK hP 0 rfl rfl 11 (by decide) (hts (.fieldLink RX4 45 "PedalBoardModel" "on" "[Z") (by decide +kernel)) (fun _ h9 => h9) rfl dX4_swap_170 ?_
    refine lv_iload hx hb dX4_swap_173 (lv_at hl 7 rfl) ?_
    refine ar_zld hx hb hK hP 5 rfl ((12 * i) + u2) rfl (by omega) (by decide) dX4_swap_175 ?_
    refine ar_zst hx hb hK hP hD hS 5 rfl ((12 * i) + u1) rfl (by omega) (by decide) (hz11 _) dX4_swap_176 (fun H locs hP hD hS => ?_)
    have hP : va_P G.1 vwCl [(ma, .inr (4, [.ref d0, .ref d1, .ref d2, .ref d3, .ref d4, .ref d5, .ref d6, .ref d7, .ref d8, .ref d9, .ref d10, .ref d11, .ref d12, .ref d13, .ref d14, .ref d15, .ref d16, .int (0:Int32)])), (d5, .inl (G.2.1 0, 4, .inl f5)), (d6, .inl (G.2.1 2, 4, .inl f6)), (d8, .inl (G.2.1 0, 48, .inl (upd f8 ((12 * i) + u1) (f8 ((12 * i) + u2))))), (d9, .inl (G.2.1 1, 48, .inr (.inl (vp_updL f9 ((12 * i) + u1) (f9 ((12 * i) + u2)))))), (d11, .inl (G.2.1 2, 48, .inl (upd f11 ((12 * i) + u1) (f11 ((12 * i) + u2)))))] H := hP
    have hD : va_D A [(ma, .inr (4, [.ref d0, .ref d1, .ref d2, .ref d3, .ref d4, .ref d5, .ref d6, .ref d7, .ref d8, .ref d9, .ref d10, .ref d11, .ref d12, .ref d13, .ref d14, .ref d15, .ref d16, .int (0:Int32)])), (d5, .inl (G.2.1 0, 4, .inl f5)), (d6, .inl (G.2.1 2, 4, .inl f6)), (d8, .inl (G.2.1 0, 48, .inl (upd f8 ((12 * i) + u1) (f8 ((12 * i) + u2))))), (d9, .inl (G.2.1 1, 48, .inr (.inl (vp_updL f9 ((12 * i) + u1) (f9 ((12 * i) + u2)))))), (d11, .inl (G.2.1 2, 48, .inl (upd f11 ((12 * i) + u1) (f11 ((12 * i) + u2)))))] := hD
    refine lv_aload_n hx hb dX4_swap_177 rfl (lv_at hl 4 rfl) ?_
    refine va_get (D := G.1) (ci := 4) (v := .ref d8) (C := RX4) (T := TX4) (N := 18) hx hb hts (by decide +kernel) hown hK hP 0 rfl rfl 8 (by decide) (hts (.fieldLink RX4 36 "PedalBoardModel" "sort" "[I") (by decide +kernel)) (fun _ h9 => h9) rfl dX4_swap_178 ?_
    refine lv_iload hx hb dX4_swap_181 (lv_at hl 7 rfl) ?_
    refine lv_iload hx hb dX4_swap_183 (lv_at hl 2 rfl) ?_
    refine ar_ist hx hb hK hP hD hS 3 rfl ((12 * i) + u2) rfl (by omega) (by decide) dX4_swap_185 (fun H locs hP hD hS => ?_)
    have hP : va_P G.1 vwCl [(ma, .inr (4, [.ref d0, .ref d1, .ref d2, .ref d3, .ref d4, .ref d5, .ref d6, .ref d7, .ref d8, .ref d9, .ref d10, .ref d11, .ref d12, .ref d13, .ref d14, .ref d15, .ref d16, .int (0:Int32)])), (d5, .inl (G.2.1 0, 4, .inl f5)), (d6, .inl (G.2.1 2, 4, .inl f6)), (d8, .inl (G.2.1 0, 48, .inl (upd (upd f8 ((12 * i) + u1) (f8 ((12 * i) + u2))) ((12 * i) + u2) (f8 ((12 * i) + u1))))), (d9, .inl (G.2.1 1, 48, .inr (.inl (vp_updL f9 ((12 * i) + u1) (f9 ((12 * i) + u2)))))), (d11, .inl (G.2.1 2, 48, .inl (upd f11 ((12 * i) + u1) (f11 ((12 * i) + u2)))))] H := hP
    have hD : va_D A [(ma, .inr (4, [.ref d0, .ref d1, .ref d2, .ref d3, .ref d4, .ref d5, .ref d6, .ref d7, .ref d8, .ref d9, .ref d10, .ref d11, .ref d12, .ref d13, .ref d14, .ref d15, .ref d16, .int (0:Int32)])), (d5, .inl (G.2.1 0, 4, .inl f5)), (d6, .inl (G.2.1 2, 4, .inl f6)), (d8, .inl (G.2.1 0, 48, .inl (upd (upd f8 ((12 * i) + u1) (f8 ((12 * i) + u2))) ((12 * i) + u2) (f8 ((12 * i) + u1))))), (d9, .inl (G.2.1 1, 48, .inr (.inl (vp_updL f9 ((12 * i) + u1) (f9 ((12 * i) + u2)))))), (d11, .inl (G.2.1 2, 48, .inl (upd f11 ((12 * i) + u1) (f11 ((12 * i) + u2)))))] := hD
    refine lv_aload_n hx hb dX4_swap_186 rfl (lv_at hl 4 rfl) ?_
    refine va_get (D := G.1) (ci := 4) (v := .ref d9) (C := RX4) (T := TX4) (N := 18) hx hb hts (by decide +kernel) hown hK hP 0 rfl rfl 9 (by decide) (hts (.fieldLink RX4 39 "PedalBoardModel" "knob" "[J") (by decide +kernel)) (fun _ h9 => h9) rfl dX4_swap_187 ?_
    refine lv_iload hx hb dX4_swap_190 (lv_at hl 7 rfl) ?_
    refine lv_lload hx hb dX4_swap_192 (lv_at hl 1 rfl) ?_
    refine ar_lst hx hb hK hP hD hS 4 rfl ((12 * i) + u2) rfl (by omega) (by decide) dX4_swap_194 (fun H locs hP hD hS => ?_)
    have hP : va_P G.1 vwCl [(ma, .inr (4, [.ref d0, .ref d1, .ref d2, .ref d3, .ref d4, .ref d5, .ref d6, .ref d7, .ref d8, .ref d9, .ref d10, .ref d11, .ref d12, .ref d13, .ref d14, .ref d15, .ref d16, .int (0:Int32)])), (d5, .inl (G.2.1 0, 4, .inl f5)), (d6, .inl (G.2.1 2, 4, .inl f6)), (d8, .inl (G.2.1 0, 48, .inl (upd (upd f8 ((12 * i) + u1) (f8 ((12 * i) + u2))) ((12 * i) + u2) (f8 ((12 * i) + u1))))), (d9, .inl (G.2.1 1, 48, .inr (.inl (vp_updL (vp_updL f9 ((12 * i) + u1) (f9 ((12 * i) + u2))) ((12 * i) + u2) (f9 ((12 * i) + u1)))))), (d11, .inl (G.2.1 2, 48, .inl (upd f11 ((12 * i) + u1) (f11 ((12 * i) + u2)))))] H := hP
    have hD : va_D A [(ma, .inr (4, [.ref d0, .ref d1, .ref d2, .ref d3, .ref d4, .ref d5, .ref d6, .ref d7, .ref d8, .ref d9, .ref d10, .ref d11, .ref d12, .ref d13, .ref d14, .ref d15, .ref d16, .int (0:Int32)])), (d5, .inl (G.2.1 0, 4, .inl f5)), (d6, .inl (G.2.1 2, 4, .inl f6)), (d8, .inl (G.2.1 0, 48, .inl (upd (upd f8 ((12 * i) + u1) (f8 ((12 * i) + u2))) ((12 * i) + u2) (f8 ((12 * i) + u1))))), (d9, .inl (G.2.1 1, 48, .inr (.inl (vp_updL (vp_updL f9 ((12 * i) + u1) (f9 ((12 * i) + u2))) ((12 * i) + u2) (f9 ((12 * i) + u1)))))), (d11, .inl (G.2.1 2, 48, .inl (upd f11 ((12 * i) + u1) (f11 ((12 * i) + u2)))))] := hD
    refine lv_aload_n hx hb dX4_swap_195 rfl (lv_at hl 4 rfl) ?_
    refine va_get (D := G.1) (ci := 4) (v := .ref d11) (C := RX4) (T := TX4) (N := 18) hx hb hts (by decide +kernel) hown hK hP 0 rfl rfl 11 (by decide) (hts (.fieldLink RX4 45 "PedalBoardModel" "on" "[Z") (by decide +kernel)) (fun _ h9 => h9) rfl dX4_swap_196 ?_
    refine lv_iload hx hb dX4_swap_199 (lv_at hl 7 rfl) ?_
    refine lv_iload hx hb dX4_swap_201 (lv_at hl 0 rfl) ?_
    refine ar_zst hx hb hK hP hD hS 5 rfl ((12 * i) + u2) rfl (by omega) (by decide) (hz11 _) dX4_swap_203 (fun H locs hP hD hS => ?_)
    have hP : va_P G.1 vwCl [(ma, .inr (4, [.ref d0, .ref d1, .ref d2, .ref d3, .ref d4, .ref d5, .ref d6, .ref d7, .ref d8, .ref d9, .ref d10, .ref d11, .ref d12, .ref d13, .ref d14, .ref d15, .ref d16, .int (0:Int32)])), (d5, .inl (G.2.1 0, 4, .inl f5)), (d6, .inl (G.2.1 2, 4, .inl f6)), (d8, .inl (G.2.1 0, 48, .inl (upd (upd f8 ((12 * i) + u1) (f8 ((12 * i) + u2))) ((12 * i) + u2) (f8 ((12 * i) + u1))))), (d9, .inl (G.2.1 1, 48, .inr (.inl (vp_updL (vp_updL f9 ((12 * i) + u1) (f9 ((12 * i) + u2))) ((12 * i) + u2) (f9 ((12 * i) + u1)))))), (d11, .inl (G.2.1 2, 48, .inl (upd (upd f11 ((12 * i) + u1) (f11 ((12 * i) + u2))) ((12 * i) + u2) (f11 ((12 * i) + u1)))))] H := hP
    have hD : va_D A [(ma, .inr (4, [.ref d0, .ref d1, .ref d2, .ref d3, .ref d4, .ref d5, .ref d6, .ref d7, .ref d8, .ref d9, .ref d10, .ref d11, .ref d12, .ref d13, .ref d14, .ref d15, .ref d16, .int (0:Int32)])), (d5, .inl (G.2.1 0, 4, .inl f5)), (d6, .inl (G.2.1 2, 4, .inl f6)), (d8, .inl (G.2.1 0, 48, .inl (upd (upd f8 ((12 * i) + u1) (f8 ((12 * i) + u2))) ((12 * i) + u2) (f8 ((12 * i) + u1))))), (d9, .inl (G.2.1 1, 48, .inr (.inl (vp_updL (vp_updL f9 ((12 * i) + u1) (f9 ((12 * i) + u2))) ((12 * i) + u2) (f9 ((12 * i) + u1)))))), (d11, .inl (G.2.1 2, 48, .inl (upd (upd f11 ((12 * i) + u1) (f11 ((12 * i) + u2))) ((12 * i) + u2) (f11 ((12 * i) + u1)))))] := hD
    refine lv_aload_n hx hb dX4_swap_204 rfl (lv_at hl 4 rfl) ?_
    refine va_get (D := G.1) (ci := 4) (v := .ref d6) (C := RX4) (T := TX4) (N := 18) hx hb hts (by decide +kernel) hown hK hP 0 rfl rfl 6 (by decide) (hts (.fieldLink RX4 29 "PedalBoardModel" "traced" "[Z") (by decide +kernel)) (fun _ h9 => h9) rfl dX4_swap_205 ?_
    refine lv_iload_n hx hb dX4_swap_208 rfl (lv_at hl 5 rfl) ?_
    refine lv_iconst (v := (0:Int32)) hx hb dX4_swap_209 (by decide) ?_
    refine ar_zst hx hb hK hP hD hS 2 rfl i rfl (by omega) (by decide) (Or.inl rfl) dX4_swap_210 (fun H locs hP hD hS => ?_)
    have hP : va_P G.1 vwCl [(ma, .inr (4, [.ref d0, .ref d1, .ref d2, .ref d3, .ref d4, .ref d5, .ref d6, .ref d7, .ref d8, .ref d9, .ref d10, .ref d11, .ref d12, .ref d13, .ref d14, .ref d15, .ref d16, .int (0:Int32)])), (d5, .inl (G.2.1 0, 4, .inl f5)), (d6, .inl (G.2.1 2, 4, .inl (upd f6 i (0:Int32)))), (d8, .inl (G.2.1 0, 48, .inl (upd (upd f8 ((12 * i) + u1) (f8 ((12 * i) + u2))) ((12 * i) + u2) (f8 ((12 * i) + u1))))), (d9, .inl (G.2.1 1, 48, .inr (.inl (vp_updL (vp_updL f9 ((12 * i) + u1) (f9 ((12 * i) + u2))) ((12 * i) + u2) (f9 ((12 * i) + u1)))))), (d11, .inl (G.2.1 2, 48, .inl (upd (upd f11 ((12 * i) + u1) (f11 ((12 * i) + u2))) ((12 * i) + u2) (f11 ((12 * i) + u1)))))] H := hP
    have hD : va_D A [(ma, .inr (4, [.ref d0, .ref d1, .ref d2, .ref d3, .ref d4, .ref d5, .ref d6, .ref d7, .ref d8, .ref d9, .ref d10, .ref d11, .ref d12, .ref d13, .ref d14, .ref d15, .ref d16, .int (0:Int32)])), (d5, .inl (G.2.1 0, 4, .inl f5)), (d6, .inl (G.2.1 2, 4, .inl (upd f6 i (0:Int32)))), (d8, .inl (G.2.1 0, 48, .inl (upd (upd f8 ((12 * i) + u1) (f8 ((12 * i) + u2))) ((12 * i) + u2) (f8 ((12 * i) + u1))))), (d9, .inl (G.2.1 1, 48, .inr (.inl (vp_updL (vp_updL f9 ((12 * i) + u1) (f9 ((12 * i) + u2))) ((12 * i) + u2) (f9 ((12 * i) + u1)))))), (d11, .inl (G.2.1 2, 48, .inl (upd (upd f11 ((12 * i) + u1) (f11 ((12 * i) + u2))) ((12 * i) + u2) (f11 ((12 * i) + u1)))))] := hD
    refine lv_iload hx hb dX4_swap_211 (lv_at hl 3 rfl) ?_
    subst ey_1
    exact rt_z hx hb hr hlocks hP hD hS dX4_swap_213 (by rw [hr_5, fX4_swap_106]) (z_nar (by repeat (first | exact Or.inl rfl | exact Or.inr rfl | split)))
  · intro kj_1
    refine bi_ne (tgt := 101) hx hb dX4_swap_63 (by decide) (fun c_2 => ?_) (fun c_2 => ?_)
    · refine lv_aload_n hx hb dX4_swap_66 rfl (lv_at hl 2 rfl) ?_
      refine va_get (D := G.1) (ci := 4) (v := .ref d9) (C := RX4) (T := TX4) (N := 18) hx hb hts (by decide +kernel) hown hK hP 0 rfl rfl 9 (by decide) (hts (.fieldLink RX4 39 "PedalBoardModel" "knob" "[J") (by decide +kernel)) (fun _ h9 => h9) rfl dX4_swap_67 ?_
      refine lv_iload hx hb dX4_swap_70 (lv_at hl 1 rfl) ?_
      refine ar_lld hx hb hK hP 4 rfl ((12 * i) + u1) rfl (by omega) (by decide) dX4_swap_72 ?_
      refine lv_aload_n hx hb dX4_swap_73 rfl (lv_at hl 2 rfl) ?_
      refine va_get (D := G.1) (ci := 4) (v := .ref d9) (C := RX4) (T := TX4) (N := 18) hx hb hts (by decide +kernel) hown hK hP 0 rfl rfl 9 (by decide) (hts (.fieldLink RX4 39 "PedalBoardModel" "knob" "[J") (by decide +kernel)) (fun _ h9 => h9) rfl dX4_swap_74 ?_
      refine lv_iload hx hb dX4_swap_77 (lv_at hl 0 rfl) ?_
      refine ar_lld hx hb hK hP 4 rfl ((12 * i) + u2) rfl (by omega) (by decide) dX4_swap_79 ?_
      refine bl_ne (tgt := 101) hx hb dX4_swap_80 dX4_swap_81 (by decide) (fun c_3 => ?_) (fun c_3 => ?_)
      · refine lv_aload_n hx hb dX4_swap_84 rfl (lv_at hl 2 rfl) ?_
        refine va_get (D := G.1) (ci := 4) (v := .ref d11) (C := RX4) (T := TX4) (N := 18) hx hb hts (by decide +kernel) hown hK hP 0 rfl rfl 11 (by decide) (hts (.fieldLink RX4 45 "PedalBoardModel" "on" "[Z") (by decide +kernel)) (fun _ h9 => h9) rfl dX4_swap_85 ?_
        refine lv_iload hx hb dX4_swap_88 (lv_at hl 1 rfl) ?_
        refine ar_zld hx hb hK hP 5 rfl ((12 * i) + u1) rfl (by omega) (by decide) dX4_swap_90 ?_
        refine lv_aload_n hx hb dX4_swap_91 rfl (lv_at hl 2 rfl) ?_
        refine va_get (D := G.1) (ci := 4) (v := .ref d11) (C := RX4) (T := TX4) (N := 18) hx hb hts (by decide +kernel) hown hK hP 0 rfl rfl 11 (by decide) (hts (.fieldLink RX4 45 "PedalBoardModel" "on" "[Z") (by decide +kernel)) (fun _ h9 => h9) rfl dX4_swap_92 ?_
        refine lv_iload hx hb dX4_swap_95 (lv_at hl 0 rfl) ?_
        refine ar_zld hx hb hK hP 5 rfl ((12 * i) + u2) rfl (by omega) (by decide) dX4_swap_97 ?_
        refine bi_eq (tgt := 105) hx hb dX4_swap_98 (by decide) (fun c_4 => ?_) (fun c_4 => ?_)
        · refine lv_iconst (v := (0:Int32)) hx hb dX4_swap_105 (by decide) ?_
          exact kj_1 (0:Int32) (by rw [if_pos c_2, if_pos c_3, if_pos c_4]) _ _ _ hP hD hS (lv_sub hl [2, 3, 1, 0] rfl)
        · refine lv_iconst (v := (1:Int32)) hx hb dX4_swap_101 (by decide) ?_
          refine lv_goto (tgt := 106) hx hb dX4_swap_102 (by decide) ?_
          exact kj_1 (1:Int32) (by rw [if_pos c_2, if_pos c_3, if_neg c_4]) _ _ _ hP hD hS (lv_sub hl [2, 3, 1, 0] rfl)
      · refine lv_iconst (v := (1:Int32)) hx hb dX4_swap_101 (by decide) ?_
        refine lv_goto (tgt := 106) hx hb dX4_swap_102 (by decide) ?_
        exact kj_1 (1:Int32) (by rw [if_pos c_2, if_neg c_3]) _ _ _ hP hD hS (lv_sub hl [2, 3, 1, 0] rfl)
    · refine lv_iconst (v := (1:Int32)) hx hb dX4_swap_101 (by decide) ?_
      refine lv_goto (tgt := 106) hx hb dX4_swap_102 (by decide) ?_
      exact kj_1 (1:Int32) (by rw [if_neg c_2]) _ _ _ hP hD hS (lv_sub hl [2, 3, 1, 0] rfl)
set_option maxHeartbeats 4000000 in
set_option maxRecDepth 100000 in
theorem kX4_swapB0 (l : Launch) (G : GT) (ma : Nat) (d0 : Nat) (d1 : Nat) (d2 : Nat) (d3 : Nat) (d4 : Nat) (d5 : Nat) (d6 : Nat) (d7 : Nat) (d8 : Nat) (d9 : Nat) (d10 : Nat) (d11 : Nat) (d12 : Nat) (d13 : Nat) (d14 : Nat) (d15 : Nat) (d16 : Nat) (cd : Int32) (wi : Int32) (pl : Int32) (pl2 : Int32) (hwi : fX4_isWire wi = 0) : CI l yX4_swap wsX4_swap { frames := 2, cells := 0, slots := 0, locals := 42 } G [.ref ma, .int wi, .int pl, .int pl2] [(ma, .inr (4, [.ref d0, .ref d1, .ref d2, .ref d3, .ref d4, .ref d5, .ref d6, .ref d7, .ref d8, .ref d9, .ref d10, .ref d11, .ref d12, .ref d13, .ref d14, .ref d15, .ref d16, .int cd]))] (0:Int32) [(ma, .inr (4, [.ref d0, .ref d1, .ref d2, .ref d3, .ref d4, .ref d5, .ref d6, .ref d7, .ref d8, .ref d9, .ref d10, .ref d11, .ref d12, .ref d13, .ref d14, .ref d15, .ref d16, .int (1:Int32)]))] := by
  refine en_i (cc := cX4_swap) (maxL := 11) (ret := (some .boolean)) (own := RX4) (by decide) rfl rfl (Nat.le_of_ble_eq_true rfl) ?_
  intro p e s m below meth c A ls hx hb hr hts hown hml hlocks hA hK hE hP hD hS hl
  have hl : lv_has ls 11 [(0, .ref ma), (1, .int wi), (2, .int pl), (3, .int pl2)] := hl
  refine lv_aload_n hx hb dX4_swap_0 rfl (lv_at hl 0 rfl) ?_
  refine lv_aload_n hx hb dX4_swap_1 rfl (lv_at hl 0 rfl) ?_
  refine lv_iload_n hx hb dX4_swap_2 rfl (lv_at hl 1 rfl) ?_
  refine lv_iload_n hx hb dX4_swap_3 rfl (lv_at hl 2 rfl) ?_
  refine cv_i (As := [.int wi, .int pl]) (rest := [.ref ma]) (ws' := [(ma, .inr (4, [.ref d0, .ref d1, .ref d2, .ref d3, .ref d4, .ref d5, .ref d6, .ref d7, .ref d8, .ref d9, .ref d10, .ref d11, .ref d12, .ref d13, .ref d14, .ref d15, .ref d16, .int cd]))]) ⟨hx, hb, hml, hown, hts⟩ (kX4_isPedalN l G ma d0 d1 d2 d3 d4 d5 d6 d7 d8 d9 d10 d11 d12 d13 d14 d15 d16 cd wi pl (by first | assumption | omega)) (cwV 2 hts gX4_swap_X4_isPedal rfl rfl rfl (by decide +kernel) ⟨Nat.le_of_ble_eq_true rfl, Nat.le_of_ble_eq_true rfl⟩) (va_recv hK hP (ci := 4) (q0 := 0) rfl rfl) hE hK hP hD hS hA hl.1 [0] rfl rfl rfl rfl rfl rfl (Nat.le_of_ble_eq_true rfl) dX4_swap_4 ⟨Nat.zero_le _, Nat.zero_le _⟩ (fun H locs hP hD hS => ?_)
  refine bz_eq (tgt := 19) hx hb dX4_swap_7 (by decide) (fun _ => ?_) (fun h9 => absurd rfl h9)
  refine lv_iconst (v := (1:Int32)) hx hb dX4_swap_19 (by decide) ?_
  refine lv_goto (tgt := 24) hx hb dX4_swap_20 (by decide) ?_
  refine lv_iconst (v := (0:Int32)) hx hb dX4_swap_24 (by decide) ?_
  refine cv_i (As := [.int (1:Int32), .int (0:Int32)]) (rest := []) (ws' := [(ma, .inr (4, [.ref d0, .ref d1, .ref d2, .ref d3, .ref d4, .ref d5, .ref d6, .ref d7, .ref d8, .ref d9, .ref d10, .ref d11, .ref d12, .ref d13, .ref d14, .ref d15, .ref d16, .int (1:Int32)]))]) ⟨hx, hb, hml, hown, hts⟩ (kX4_refuses10 l G ma d0 d1 d2 d3 d4 d5 d6 d7 d8 d9 d10 d11 d12 d13 d14 d15 d16 cd) (cwV 2 hts gX4_swap_X4_refuses rfl rfl rfl (by decide +kernel) ⟨Nat.le_of_ble_eq_true rfl, Nat.le_of_ble_eq_true rfl⟩) (va_recv hK hP (ci := 4) (q0 := 0) rfl rfl) hE hK hP hD hS hA hl.1 [0] rfl rfl rfl rfl rfl rfl (Nat.le_of_ble_eq_true rfl) dX4_swap_25 ⟨Nat.zero_le _, Nat.zero_le _⟩ (fun H locs hP hD hS => ?_)
  refine bz_eq (tgt := 33) hx hb dX4_swap_28 (by decide) (fun h9 => absurd h9 (by decide)) (fun _ => ?_)
  refine lv_iconst (v := (0:Int32)) hx hb dX4_swap_31 (by decide) ?_
  exact rt_z hx hb hr hlocks hP hD hS dX4_swap_32 rfl (z_nar (Or.inl rfl))
set_option maxHeartbeats 4000000 in
set_option maxRecDepth 100000 in
theorem kX4_swapB1 (l : Launch) (G : GT) (ma : Nat) (d0 : Nat) (d1 : Nat) (d2 : Nat) (d3 : Nat) (d4 : Nat) (d5 : Nat) (d6 : Nat) (d7 : Nat) (d8 : Nat) (d9 : Nat) (d10 : Nat) (d11 : Nat) (d12 : Nat) (d13 : Nat) (d14 : Nat) (d15 : Nat) (d16 : Nat) (cd : Int32) (f5 : Nat → Int32) (i : Nat) (n : Nat) (pl : Int32) (pl2 : Int32) (hi4 : i < 4) (hm : f5 i = nI n) (hpl : fX4_isPedal n pl = 0) : CI l yX4_swap wsX4_swap { frames := 2, cells := 0, slots := 0, locals := 42 } G [.ref ma, .int (nI i), .int pl, .int pl2] [(ma, .inr (4, [.ref d0, .ref d1, .ref d2, .ref d3, .ref d4, .ref d5, .ref d6, .ref d7, .ref d8, .ref d9, .ref d10, .ref d11, .ref d12, .ref d13, .ref d14, .ref d15, .ref d16, .int cd])), (d5, .inl (G.2.1 0, 4, .inl f5))] (0:Int32) [(ma, .inr (4, [.ref d0, .ref d1, .ref d2, .ref d3, .ref d4, .ref d5, .ref d6, .ref d7, .ref d8, .ref d9, .ref d10, .ref d11, .ref d12, .ref d13, .ref d14, .ref d15, .ref d16, .int (1:Int32)])), (d5, .inl (G.2.1 0, 4, .inl f5))] := by
  refine en_i (cc := cX4_swap) (maxL := 11) (ret := (some .boolean)) (own := RX4) (by decide) rfl rfl (Nat.le_of_ble_eq_true rfl) ?_
  intro p e s m below meth c A ls hx hb hr hts hown hml hlocks hA hK hE hP hD hS hl
  have hl : lv_has ls 11 [(0, .ref ma), (1, .int (nI i)), (2, .int pl), (3, .int pl2)] := hl
  refine lv_aload_n hx hb dX4_swap_0 rfl (lv_at hl 0 rfl) ?_
  refine lv_aload_n hx hb dX4_swap_1 rfl (lv_at hl 0 rfl) ?_
  refine lv_iload_n hx hb dX4_swap_2 rfl (lv_at hl 1 rfl) ?_
  refine lv_iload_n hx hb dX4_swap_3 rfl (lv_at hl 2 rfl) ?_
  refine cv_i (As := [.int (nI i), .int pl]) (rest := [.ref ma]) (ws' := [(ma, .inr (4, [.ref d0, .ref d1, .ref d2, .ref d3, .ref d4, .ref d5, .ref d6, .ref d7, .ref d8, .ref d9, .ref d10, .ref d11, .ref d12, .ref d13, .ref d14, .ref d15, .ref d16, .int cd])), (d5, .inl (G.2.1 0, 4, .inl f5))]) ⟨hx, hb, hml, hown, hts⟩ (kX4_isPedal l G ma d0 d1 d2 d3 d4 d5 d6 d7 d8 d9 d10 d11 d12 d13 d14 d15 d16 cd f5 i n pl (by first | assumption | omega) (by first | assumption | omega)) (cwV 2 hts gX4_swap_X4_isPedal rfl rfl rfl (by decide +kernel) ⟨Nat.le_of_ble_eq_true rfl, Nat.le_of_ble_eq_true rfl⟩) (va_recv hK hP (ci := 4) (q0 := 0) rfl rfl) hE hK hP hD hS hA hl.1 [0, 1] rfl rfl rfl rfl rfl rfl (Nat.le_of_ble_eq_true rfl) dX4_swap_4 ⟨Nat.zero_le _, Nat.zero_le _⟩ (fun H locs hP hD hS => ?_)
  refine bz_eq (tgt := 19) hx hb dX4_swap_7 (by decide) (fun _ => ?_) (fun h9 => absurd hpl h9)
  refine lv_iconst (v := (1:Int32)) hx hb dX4_swap_19 (by decide) ?_
  refine lv_goto (tgt := 24) hx hb dX4_swap_20 (by decide) ?_
  refine lv_iconst (v := (0:Int32)) hx hb dX4_swap_24 (by decide) ?_
  refine cv_i (As := [.int (1:Int32), .int (0:Int32)]) (rest := []) (ws' := [(ma, .inr (4, [.ref d0, .ref d1, .ref d2, .ref d3, .ref d4, .ref d5, .ref d6, .ref d7, .ref d8, .ref d9, .ref d10, .ref d11, .ref d12, .ref d13, .ref d14, .ref d15, .ref d16, .int (1:Int32)])), (d5, .inl (G.2.1 0, 4, .inl f5))]) ⟨hx, hb, hml, hown, hts⟩ (kX4_refuses10 l G ma d0 d1 d2 d3 d4 d5 d6 d7 d8 d9 d10 d11 d12 d13 d14 d15 d16 cd) (cwV 2 hts gX4_swap_X4_refuses rfl rfl rfl (by decide +kernel) ⟨Nat.le_of_ble_eq_true rfl, Nat.le_of_ble_eq_true rfl⟩) (va_recv hK hP (ci := 4) (q0 := 0) rfl rfl) hE hK hP hD hS hA hl.1 [0] rfl rfl rfl rfl rfl rfl (Nat.le_of_ble_eq_true rfl) dX4_swap_25 ⟨Nat.zero_le _, Nat.zero_le _⟩ (fun H locs hP hD hS => ?_)
  refine bz_eq (tgt := 33) hx hb dX4_swap_28 (by decide) (fun h9 => absurd h9 (by decide)) (fun _ => ?_)
  refine lv_iconst (v := (0:Int32)) hx hb dX4_swap_31 (by decide) ?_
  exact rt_z hx hb hr hlocks hP hD hS dX4_swap_32 rfl (z_nar (Or.inl rfl))
set_option maxHeartbeats 4000000 in
set_option maxRecDepth 100000 in
theorem kX4_swapB2 (l : Launch) (G : GT) (ma : Nat) (d0 : Nat) (d1 : Nat) (d2 : Nat) (d3 : Nat) (d4 : Nat) (d5 : Nat) (d6 : Nat) (d7 : Nat) (d8 : Nat) (d9 : Nat) (d10 : Nat) (d11 : Nat) (d12 : Nat) (d13 : Nat) (d14 : Nat) (d15 : Nat) (d16 : Nat) (cd : Int32) (f5 : Nat → Int32) (i : Nat) (n : Nat) (pl : Int32) (pl2 : Int32) (hi4 : i < 4) (hm : f5 i = nI n) (hpl : ¬ fX4_isPedal n pl = 0) (hpl2 : fX4_isPedal n pl2 = 0) : CI l yX4_swap wsX4_swap { frames := 2, cells := 0, slots := 0, locals := 42 } G [.ref ma, .int (nI i), .int pl, .int pl2] [(ma, .inr (4, [.ref d0, .ref d1, .ref d2, .ref d3, .ref d4, .ref d5, .ref d6, .ref d7, .ref d8, .ref d9, .ref d10, .ref d11, .ref d12, .ref d13, .ref d14, .ref d15, .ref d16, .int cd])), (d5, .inl (G.2.1 0, 4, .inl f5))] (0:Int32) [(ma, .inr (4, [.ref d0, .ref d1, .ref d2, .ref d3, .ref d4, .ref d5, .ref d6, .ref d7, .ref d8, .ref d9, .ref d10, .ref d11, .ref d12, .ref d13, .ref d14, .ref d15, .ref d16, .int (1:Int32)])), (d5, .inl (G.2.1 0, 4, .inl f5))] := by
  refine en_i (cc := cX4_swap) (maxL := 11) (ret := (some .boolean)) (own := RX4) (by decide) rfl rfl (Nat.le_of_ble_eq_true rfl) ?_
  intro p e s m below meth c A ls hx hb hr hts hown hml hlocks hA hK hE hP hD hS hl
  have hl : lv_has ls 11 [(0, .ref ma), (1, .int (nI i)), (2, .int pl), (3, .int pl2)] := hl
  refine lv_aload_n hx hb dX4_swap_0 rfl (lv_at hl 0 rfl) ?_
  refine lv_aload_n hx hb dX4_swap_1 rfl (lv_at hl 0 rfl) ?_
  refine lv_iload_n hx hb dX4_swap_2 rfl (lv_at hl 1 rfl) ?_
  refine lv_iload_n hx hb dX4_swap_3 rfl (lv_at hl 2 rfl) ?_
  refine cv_i (As := [.int (nI i), .int pl]) (rest := [.ref ma]) (ws' := [(ma, .inr (4, [.ref d0, .ref d1, .ref d2, .ref d3, .ref d4, .ref d5, .ref d6, .ref d7, .ref d8, .ref d9, .ref d10, .ref d11, .ref d12, .ref d13, .ref d14, .ref d15, .ref d16, .int cd])), (d5, .inl (G.2.1 0, 4, .inl f5))]) ⟨hx, hb, hml, hown, hts⟩ (kX4_isPedal l G ma d0 d1 d2 d3 d4 d5 d6 d7 d8 d9 d10 d11 d12 d13 d14 d15 d16 cd f5 i n pl (by first | assumption | omega) (by first | assumption | omega)) (cwV 2 hts gX4_swap_X4_isPedal rfl rfl rfl (by decide +kernel) ⟨Nat.le_of_ble_eq_true rfl, Nat.le_of_ble_eq_true rfl⟩) (va_recv hK hP (ci := 4) (q0 := 0) rfl rfl) hE hK hP hD hS hA hl.1 [0, 1] rfl rfl rfl rfl rfl rfl (Nat.le_of_ble_eq_true rfl) dX4_swap_4 ⟨Nat.zero_le _, Nat.zero_le _⟩ (fun H locs hP hD hS => ?_)
  refine bz_eq (tgt := 19) hx hb dX4_swap_7 (by decide) (fun h9 => absurd h9 hpl) (fun _ => ?_)
  refine lv_aload_n hx hb dX4_swap_10 rfl (lv_at hl 0 rfl) ?_
  refine lv_iload_n hx hb dX4_swap_11 rfl (lv_at hl 1 rfl) ?_
  refine lv_iload_n hx hb dX4_swap_12 rfl (lv_at hl 3 rfl) ?_
  refine cv_i (As := [.int (nI i), .int pl2]) (rest := [.ref ma]) (ws' := [(ma, .inr (4, [.ref d0, .ref d1, .ref d2, .ref d3, .ref d4, .ref d5, .ref d6, .ref d7, .ref d8, .ref d9, .ref d10, .ref d11, .ref d12, .ref d13, .ref d14, .ref d15, .ref d16, .int cd])), (d5, .inl (G.2.1 0, 4, .inl f5))]) ⟨hx, hb, hml, hown, hts⟩ (kX4_isPedal l G ma d0 d1 d2 d3 d4 d5 d6 d7 d8 d9 d10 d11 d12 d13 d14 d15 d16 cd f5 i n pl2 (by first | assumption | omega) (by first | assumption | omega)) (cwV 2 hts gX4_swap_X4_isPedal rfl rfl rfl (by decide +kernel) ⟨Nat.le_of_ble_eq_true rfl, Nat.le_of_ble_eq_true rfl⟩) (va_recv hK hP (ci := 4) (q0 := 0) rfl rfl) hE hK hP hD hS hA hl.1 [0, 1] rfl rfl rfl rfl rfl rfl (Nat.le_of_ble_eq_true rfl) dX4_swap_13 ⟨Nat.zero_le _, Nat.zero_le _⟩ (fun H locs hP hD hS => ?_)
  refine bz_ne (tgt := 23) hx hb dX4_swap_16 (by decide) (fun _ => ?_) (fun h9 => absurd hpl2 h9)
  refine lv_iconst (v := (1:Int32)) hx hb dX4_swap_19 (by decide) ?_
  refine lv_goto (tgt := 24) hx hb dX4_swap_20 (by decide) ?_
  refine lv_iconst (v := (0:Int32)) hx hb dX4_swap_24 (by decide) ?_
  refine cv_i (As := [.int (1:Int32), .int (0:Int32)]) (rest := []) (ws' := [(ma, .inr (4, [.ref d0, .ref d1, .ref d2, .ref d3, .ref d4, .ref d5, .ref d6, .ref d7, .ref d8, .ref d9, .ref d10, .ref d11, .ref d12, .ref d13, .ref d14, .ref d15, .ref d16, .int (1:Int32)])), (d5, .inl (G.2.1 0, 4, .inl f5))]) ⟨hx, hb, hml, hown, hts⟩ (kX4_refuses10 l G ma d0 d1 d2 d3 d4 d5 d6 d7 d8 d9 d10 d11 d12 d13 d14 d15 d16 cd) (cwV 2 hts gX4_swap_X4_refuses rfl rfl rfl (by decide +kernel) ⟨Nat.le_of_ble_eq_true rfl, Nat.le_of_ble_eq_true rfl⟩) (va_recv hK hP (ci := 4) (q0 := 0) rfl rfl) hE hK hP hD hS hA hl.1 [0] rfl rfl rfl rfl rfl rfl (Nat.le_of_ble_eq_true rfl) dX4_swap_25 ⟨Nat.zero_le _, Nat.zero_le _⟩ (fun H locs hP hD hS => ?_)
  refine bz_eq (tgt := 33) hx hb dX4_swap_28 (by decide) (fun h9 => absurd h9 (by decide)) (fun _ => ?_)
  refine lv_iconst (v := (0:Int32)) hx hb dX4_swap_31 (by decide) ?_
  exact rt_z hx hb hr hlocks hP hD hS dX4_swap_32 rfl (z_nar (Or.inl rfl))
